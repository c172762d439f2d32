/-! ===== the desk: sign, erase ===== -/
theorem bsum_none {p : Nat → Bool} : ∀ {n : Nat}, (∀ i, i < n → p i = false) → bsum p n = 0
  | 0, _ => rfl
  | n + 1, h => by rw [bsum, bsum_none (fun i hi => h i (by omega)), h n (by omega)]; rfl
theorem x_mv_at {I : Nat → Nat → Int32} {c f t k a j : Nat} (h : c + 4 ≤ a) (h2 : a ≤ c + 7) : x_mv I c f t k a j = if t ≤ j ∧ j < t + k then I a (f + (j - t)) else I a j := by
  rcases (show a = c + 4 ∨ a = c + 5 ∨ a = c + 6 ∨ a = c + 7 by omega) with rfl | rfl | rfl | rfl
  all_goals
    by_cases hq : t ≤ j ∧ j < t + k
    · rw [if_pos hq]
      simp (disch := omega) only [x_mv, pd_cp_nb, pd_cp_at hq]
    · rw [if_neg hq]
      simp (disch := omega) only [x_mv, pd_cp_nb, pd_cp_out]
section SIGN
variable {G : pd_G} {I : Nat → Nat → Int32} {L : Nat → Nat → Int64} {R : Nat → Nat → Option Nat} {cn a nv ns nl : Nat} {cp : Nat → Nat} {ps : Nat → RW} {w : RW} {e : List rl_S} {r : Nat → Int32}
theorem rFo_key (hr : Row r nv ns nl e) {l t u : Nat} (hl : l < nl) (ht : rSh r l = nI t) (htn : t < 100) (hu : u < 101) : l < rFo r nl u ↔ t < u := by
  have hu1 := rFo_first hr u
  constructor
  · intro q
    have := pfirst_in (fun j => decide (rSh r j < nI u)) nl 0 l (Nat.zero_le _) (by rw [hu1]; exact q)
    simp only [decide_eq_true_eq] at this
    rw [ht] at this
    exact (nI_ltI (by omega) (by omega)).mp this
  · intro q
    rcases Nat.lt_or_ge l (rFo r nl u) with q2 | q2
    · exact q2
    · exfalso
      rcases pfirst_out (fun j => decide (rSh r j < nI u)) nl 0 with q3 | q3
      · rw [hu1] at q3
        simp only [decide_eq_false_iff_not] at q3
        have hm := Row.mono hr (l - rFo r nl u) (rFo r nl u) (by omega)
        rw [show rFo r nl u + (l - rFo r nl u) = l by omega, ht] at hm
        have hq : nI t < nI u := nI_lt q (by omega)
        rw [fa_lt] at q3 hq; rw [fa_le] at hm; omega
      · rw [hu1] at q3; omega
/-- a line more, at f -/
def sgR (r : Nat → Int32) (nl f : Nat) (s name street day : Int32) : Nat → Int32 := fun k => if k = 2 then nI (nl + 1) else if 225 ≤ k ∧ k < 305 then 0 else if 65 + 4 * f ≤ k ∧ k < 69 + 4 * f then (if k = 65 + 4 * f then name else if k = 66 + 4 * f then street else if k = 67 + 4 * f then s else day) else if 69 + 4 * f ≤ k ∧ k < 69 + 4 * nl then r (k - 4) else r k
theorem sgR_2 {f : Nat} {s name street day : Int32} : sgR r nl f s name street day 2 = nI (nl + 1) := if_pos rfl
theorem sgR_o {f k : Nat} {s name street day : Int32} (h : nl < 40) (hf : f ≤ nl) (hk : k ≠ 2) (hk2 : k < 65 ∨ 305 ≤ k) : sgR r nl f s name street day k = r k := by
  unfold sgR
  rw [if_neg hk, if_neg (by omega), if_neg (by omega), if_neg (by omega)]
theorem sgR_s {f k : Nat} {s name street day : Int32} (hk : 225 ≤ k) (hk2 : k < 305) : sgR r nl f s name street day k = 0 := by
  unfold sgR
  rw [if_neg (by omega), if_pos ⟨hk, hk2⟩]
theorem sgR_f {f : Nat} {s name street day : Int32} (h : nl < 40) (hf : f ≤ nl) : sgR r nl f s name street day (65 + 4 * f) = name ∧ sgR r nl f s name street day (66 + 4 * f) = street ∧ sgR r nl f s name street day (67 + 4 * f) = s ∧ sgR r nl f s name street day (68 + 4 * f) = day := by
  unfold sgR
  refine ⟨?_, ?_, ?_, ?_⟩
  · rw [if_neg (by omega), if_neg (by omega), if_pos (by omega), if_pos rfl]
  · rw [if_neg (by omega), if_neg (by omega), if_pos (by omega), if_neg (by omega), if_pos rfl]
  · rw [if_neg (by omega), if_neg (by omega), if_pos (by omega), if_neg (by omega), if_neg (by omega), if_pos rfl]
  · rw [if_neg (by omega), if_neg (by omega), if_pos (by omega), if_neg (by omega), if_neg (by omega), if_neg (by omega)]
theorem sgR_a {f l x : Nat} {s name street day : Int32} (h : nl < 40) (hl : l < f) (hf : f ≤ nl) (hx : x < 4) : sgR r nl f s name street day (65 + x + 4 * l) = r (65 + x + 4 * l) := by
  unfold sgR
  rw [if_neg (by omega), if_neg (by omega), if_neg (by omega), if_neg (by omega)]
theorem sgR_b {f l x : Nat} {s name street day : Int32} (h : nl < 40) (hl : f < l) (hln : l ≤ nl) (hx : x < 4) : sgR r nl f s name street day (65 + x + 4 * l) = r (65 + x + 4 * (l - 1)) := by
  unfold sgR
  rw [if_neg (by omega), if_neg (by omega), if_neg (by omega), if_pos (by omega)]
  congr 1; omega
theorem sgR_row (hr : Row r nv ns nl e) (h : nl < 40) {s : Nat} (hs : s < ns) {name street day : Int32} : Row (sgR r nl (rFo r nl (s + 1)) (nI s) name street day) nv ns (nl + 1) e := by
  obtain ⟨f, hf⟩ : ∃ f, f = rFo r nl (s + 1) := ⟨_, rfl⟩
  have hfl : f ≤ nl := by rw [hf]; exact rFo_le _
  have hkey := fun l t hl ht htn => rFo_key hr (l := l) (t := t) (u := s + 1) hl ht htn (by have := hr.2.1.2; omega)
  rw [← hf] at hkey ⊢
  obtain ⟨a1, a2, a3, a4, a5, a6, a7, a8, a9, a10, a11, a12, a13, a14, a15, a16⟩ := hr
  have o := fun k (hk : k ≠ 2) (hk2 : k < 65 ∨ 305 ≤ k) => sgR_o (r := r) (nl := nl) (f := f) (s := nI s) (name := name) (street := street) (day := day) h hfl hk hk2
  have ff := sgR_f (r := r) (nl := nl) (f := f) (s := nI s) (name := name) (street := street) (day := day) h hfl
  have fa := fun l (hl : l < f) => sgR_a (r := r) (nl := nl) (f := f) (l := l) (x := 2) (s := nI s) (name := name) (street := street) (day := day) h hl hfl (by decide)
  have fb := fun l (hl : f < l) (hln : l ≤ nl) => sgR_b (r := r) (nl := nl) (f := f) (l := l) (x := 2) (s := nI s) (name := name) (street := street) (day := day) h hl hln (by decide)
  refine ⟨by rw [o 0 (by omega) (by omega)]; exact a1, by rw [o 1 (by omega) (by omega)]; exact a2, ⟨sgR_2, by omega⟩, by rw [o 3 (by omega) (by omega)]; exact a4, by rw [o 7 (by omega) (by omega)]; exact a5, fun l hl => ?_, fun l hl => ?_, fun t ht => by rw [o _ (by omega) (by omega)]; exact a8 t ht, fun t h1 h2 => by rw [o _ (by omega) (by omega)]; exact a9 t h1 h2, fun k hk => Or.inl (sgR_s (by omega) (by omega)), fun w l h1 h2 h3 => sgR_s (by omega) (by omega), by rw [o 8 (by omega) (by omega)]; exact a12, fun j x hj => by rw [o _ (by omega) (by omega)]; exact a13 j x hj, by rw [o _ (by omega) (by omega)]; exact a14, a15, a16⟩
  · unfold rSh
    rcases Nat.lt_trichotomy l f with q | q | q
    · rw [fa l q]; exact a6 l (by omega)
    · subst q; rw [ff.2.2.1]; exact ⟨s, hs, rfl⟩
    · rw [fb l q (by omega)]; exact a6 (l - 1) (by omega)
  · unfold rSh
    rcases Nat.lt_trichotomy (l + 1) f with q | q | q
    · rw [fa l (by omega), fa (l + 1) q]; exact a7 l (by omega)
    · rw [fa l (by omega), q, ff.2.2.1]
      obtain ⟨t, ht, h2⟩ := a6 l (by omega)
      have h3 := (hkey l t (by omega) h2 (by omega)).mp (by omega)
      show rSh r l ≤ nI s
      rw [h2]; exact nI_le (by omega) (by omega)
    · rcases Nat.lt_or_eq_of_le (show f ≤ l by omega) with q2 | q2
      · rw [fb l q2 (by omega), fb (l + 1) (by omega) (by omega)]
        have := a7 (l - 1) (by omega)
        rw [show l - 1 + 1 = l by omega] at this
        exact this
      · rw [← q2, ff.2.2.1, fb (f + 1) (by omega) (by omega), show f + 1 - 1 = f by omega]
        obtain ⟨t, ht, h2⟩ := a6 f (by omega)
        have h3 := mt (hkey f t (by omega) h2 (by omega)).mpr (by omega)
        show nI s ≤ rSh r f
        rw [h2]; exact nI_le (by omega) (by omega)
theorem sgR_pet (hr : Row r nv ns nl e) (h : nl < 40) (hp : PetRel I L cn r nv ns nl e) {s v f : Nat} (hf : f ≤ nl) (hv : v < nv) {day : Int32} : PetRel (x_addLine I cn f nl (nI s) (I (cn + 1) v) (I (cn + 2) v) day) (pd_up (pd_up L cn 17 0) cn 18 0) cn (sgR r nl f (nI s) (r (9 + 3 * v)) (r (10 + 3 * v)) day) nv ns (nl + 1) e := by
  obtain ⟨⟨a0, a1, a2, a3, a4, a5, a6, a7⟩, hvv, hl, hb, h17, h18, hn, hle, hs⟩ := hp
  have hv16 := hr.1.2
  have o := fun k (hk : k ≠ 2) (hk2 : k < 65 ∨ 305 ≤ k) => sgR_o (r := r) (nl := nl) (f := f) (s := nI s) (name := r (9 + 3 * v)) (street := r (10 + 3 * v)) (day := day) h hf hk hk2
  have ff := sgR_f (r := r) (nl := nl) (f := f) (s := nI s) (name := r (9 + 3 * v)) (street := r (10 + 3 * v)) (day := day) h hf
  have c0 : ∀ j, j ≠ 6 → x_addLine I cn f nl (nI s) (I (cn + 1) v) (I (cn + 2) v) day cn j = I cn j := fun j hj => by
    unfold x_addLine
    rw [pd_up_nj hj, pd_up_nb (by omega), pd_up_nb (by omega), pd_up_nb (by omega), pd_up_nb (by omega), x_mv_nb (by omega)]
  have c1 : ∀ k, (k < 4 ∨ 7 < k) → k ≠ 0 → ∀ j, x_addLine I cn f nl (nI s) (I (cn + 1) v) (I (cn + 2) v) day (cn + k) j = I (cn + k) j := fun k hk hk0 j => by
    unfold x_addLine
    rw [pd_up_nb (by omega), pd_up_nb (by omega), pd_up_nb (by omega), pd_up_nb (by omega), pd_up_nb (by omega), x_mv_nb (by omega)]
  have cl : ∀ k, 4 ≤ k → k ≤ 7 → ∀ l, l ≠ f → l < nl + 1 → x_addLine I cn f nl (nI s) (I (cn + 1) v) (I (cn + 2) v) day (cn + k) l = if l < f then I (cn + k) l else I (cn + k) (l - 1) := fun k h1 h2 l hlf hl => by
    unfold x_addLine
    rw [pd_up_nb (by omega), pd_up_nj hlf, pd_up_nj hlf, pd_up_nj hlf, pd_up_nj hlf, x_mv_at (by omega) (by omega)]
    by_cases hq : l < f
    · rw [if_neg (by omega), if_pos hq]
    · rw [if_pos (by omega), if_neg hq]; congr 1; omega
  refine ⟨⟨?_, ?_, ?_, ?_, ?_, ?_, ?_, ?_⟩, fun u hu => ?_, fun l hll => ?_, ?_, ?_, ?_, ?_, hle, fun j q hq => ?_⟩
  · rw [c0 0 (by decide), o 0 (by decide) (by decide)]; exact a0
  · rw [c0 4 (by decide), o 1 (by decide) (by decide)]; exact a1
  · rw [sgR_2]; unfold x_addLine; rw [pd_up_at]
  · rw [c0 11 (by decide), o 3 (by decide) (by decide)]; exact a3
  · rw [c0 12 (by decide), o 4 (by decide) (by decide)]; exact a4
  · rw [c0 13 (by decide), o 5 (by decide) (by decide)]; exact a5
  · rw [c0 14 (by decide), o 6 (by decide) (by decide)]; exact a6
  · rw [c0 15 (by decide), o 7 (by decide) (by decide)]; exact a7
  · rw [c1 1 (by decide) (by decide), c1 2 (by decide) (by decide), c1 3 (by decide) (by decide), o _ (by omega) (by omega), o _ (by omega) (by omega), o _ (by omega) (by omega)]
    exact hvv u hu
  · unfold rSh
    rcases Nat.lt_trichotomy l f with q | q | q
    · have fa := fun x hx => sgR_a (r := r) (nl := nl) (f := f) (l := l) (x := x) (s := nI s) (name := r (9 + 3 * v)) (street := r (10 + 3 * v)) (day := day) h q hf hx
      rw [cl 4 (by decide) (by decide) l (by omega) hll, cl 5 (by decide) (by decide) l (by omega) hll, cl 6 (by decide) (by decide) l (by omega) hll, cl 7 (by decide) (by decide) l (by omega) hll, if_pos q, if_pos q, if_pos q, if_pos q, fa 0 (by decide), fa 1 (by decide), fa 2 (by decide), fa 3 (by decide)]
      exact hl l (by omega)
    · subst q
      rw [ff.1, ff.2.1, ff.2.2.1, ff.2.2.2]
      refine ⟨?_, ?_, ?_, ?_⟩
      · unfold x_addLine; simp (disch := omega) only [pd_up_nb, pd_up_at]; exact (hvv v hv).1
      · unfold x_addLine; simp (disch := omega) only [pd_up_nb, pd_up_at]; exact (hvv v hv).2.1
      · unfold x_addLine; simp (disch := omega) only [pd_up_nb, pd_up_at]
      · unfold x_addLine; simp (disch := omega) only [pd_up_nb, pd_up_at]
    · have fb := fun x hx => sgR_b (r := r) (nl := nl) (f := f) (l := l) (x := x) (s := nI s) (name := r (9 + 3 * v)) (street := r (10 + 3 * v)) (day := day) h q (by omega) hx
      rw [cl 4 (by decide) (by decide) l (by omega) hll, cl 5 (by decide) (by decide) l (by omega) hll, cl 6 (by decide) (by decide) l (by omega) hll, cl 7 (by decide) (by decide) l (by omega) hll, if_neg (by omega), if_neg (by omega), if_neg (by omega), if_neg (by omega), fb 0 (by decide), fb 1 (by decide), fb 2 (by decide), fb 3 (by decide)]
      exact hl (l - 1) (by omega)
  · rw [c0 5 (by decide), hb]; congr 1
    exact bsum_cong (fun t ht => by rw [o _ (by omega) (by omega)])
  · rw [pd_up_nj (by decide), pd_up_at, bsum_none (fun i hi => by rw [sgR_s (by omega) (by omega)]; decide)]; rfl
  · rw [pd_up_at, bsum_none (fun i hi => by rw [sgR_s (by omega) (by omega)]; decide)]; rfl
  · rw [c1 8 (by decide) (by decide)]; exact hn
  · rw [c1 9 (by decide) (by decide)]; exact hs j q hq
theorem x_addLine_fr {f n : Nat} {s nm st d : Int32} {x j : Nat} (hx : ¬ (cn ≤ x ∧ x < cn + 10)) : x_addLine I cn f n s nm st d x j = I x j := by
  unfold x_addLine
  rw [pd_up_nb (by omega), pd_up_nb (by omega), pd_up_nb (by omega), pd_up_nb (by omega), pd_up_nb (by omega), x_mv_nb (by omega)]
theorem ev_X8_sign (hC : CW I L R w a ps) (x y day : Int32) : pd_Ev G mi_X8_sign 8 3 18 [.ref (pd_z G + 0), .int x, .int y, .int day] (SD, false, I, L, R) (q_x I L R (j3 (isN x w.2.2.1 && isN y w.2.1) (inR day 0 999) (decide (w.2.2.2.1 < 40))) (.int (nI (rN w.1 w.2.2.2.1 x.toNatClampNeg))) (fun I' L' R' => CW I' L' R' (sgR w.1 w.2.2.2.1 (rFo w.1 w.2.2.2.1 (x.toNatClampNeg + 1)) (nI x.toNatClampNeg) (w.1 (9 + 3 * y.toNatClampNeg)) (w.1 (10 + 3 * y.toNatClampNeg)) day, w.2.1, w.2.2.1, w.2.2.2.1 + 1, w.2.2.2.2) (kA a) (kP a ps w) ∧ FD I L I' L')) := by
  obtain ⟨cn, cp, hN, hA⟩ := hC
  obtain ⟨r, nv, ns, nl, e⟩ := w
  have hN0 : CN I L R cn r nv ns nl e := hN
  obtain ⟨hR, hcn, hnow, hr, hp, hj, hT⟩ := hN
  have h8 := hA.1.2.2.1
  have hi := PB.hi2 hcn h8
  have hs8 : ns ≤ 8 := hN0.s8
  have hv16 : nv ≤ 16 := hN0.v16
  have h40 : nl ≤ 40 := hN0.l40
  have hln := hN0.lns
  show pd_Ev G mi_X8_sign 8 3 18 _ _ (q_x I L R (j3 (isN x ns && isN y nv) (inR day 0 999) (decide (nl < 40))) (.int (nI (rN r nl x.toNatClampNeg))) (fun I' L' R' => CW I' L' R' (sgR r nl (rFo r nl (x.toNatClampNeg + 1)) (nI x.toNatClampNeg) (r (9 + 3 * y.toNatClampNeg)) (r (10 + 3 * y.toNatClampNeg)) day, nv, ns, nl + 1, e) (kA a) (kP a ps (r, nv, ns, nl, e)) ∧ FD I L I' L'))
  refine pd_ev 1 (lo := [some (.ref (pd_z G + 0)), some (.int x), some (.int y), some (.int day), none]) (by decide +kernel) (Nat.le_of_ble_eq_true rfl) rfl ?_
  refine at_aload_n dX8_sign_0 rfl ?_
  refine at_aload_n dX8_sign_1 rfl ?_
  refine at_iload_n dX8_sign_2 rfl ?_
  refine at_cv1 cvX8_116 sd_0 (ev_X8_isSheet hN0 x) (by decide) ⟨Nat.le_of_ble_eq_true rfl, Nat.le_of_ble_eq_true rfl⟩ (Nat.le_of_ble_eq_true rfl) dX8_sign_3 (pd_k1 ?_)
  refine at_ifeq (tgt := 21) dX8_sign_6 (by decide) (fun c6 => ?_) (fun c6 => ?_)
  · -- taken 6
    refine at_iconst dX8_sign_21 pc_i0 ?_
    refine at_cv1 cvX8_119 sd_0 (ev_X8_requireFound 0) (by decide) ⟨Nat.le_of_ble_eq_true rfl, Nat.le_of_ble_eq_true rfl⟩ (Nat.le_of_ble_eq_true rfl) dX8_sign_22 (pd_kq rfl (fun _ => ?_) (fun q => absurd rfl q))
    first | exact q_no8 (by rw [i_of0.mp c6]; rfl) | exact q_no8 (by rw [i_of0.mp c14, Bool.and_false]; rfl)
  · -- not taken 6
    refine at_aload_n dX8_sign_9 rfl ?_
    refine at_iload_n dX8_sign_10 rfl ?_
    refine at_cv1 cvX8_128 sd_0 (ev_X8_isVoter hN0 y) (by decide) ⟨Nat.le_of_ble_eq_true rfl, Nat.le_of_ble_eq_true rfl⟩ (Nat.le_of_ble_eq_true rfl) dX8_sign_11 (pd_k1 ?_)
    refine at_ifeq (tgt := 21) dX8_sign_14 (by decide) (fun c14 => ?_) (fun c14 => ?_)
    · -- taken 14
      refine at_iconst dX8_sign_21 pc_i0 ?_
      refine at_cv1 cvX8_119 sd_0 (ev_X8_requireFound 0) (by decide) ⟨Nat.le_of_ble_eq_true rfl, Nat.le_of_ble_eq_true rfl⟩ (Nat.le_of_ble_eq_true rfl) dX8_sign_22 (pd_kq rfl (fun _ => ?_) (fun q => absurd rfl q))
      first | exact q_no8 (by rw [i_of0.mp c6]; rfl) | exact q_no8 (by rw [i_of0.mp c14, Bool.and_false]; rfl)
    · -- not taken 14
      refine at_iconst dX8_sign_17 pc_i1 ?_
      refine at_goto (tgt := 22) dX8_sign_18 (by decide) ?_
      refine at_cv1 cvX8_119 sd_0 (ev_X8_requireFound 1) (by decide) ⟨Nat.le_of_ble_eq_true rfl, Nat.le_of_ble_eq_true rfl⟩ (Nat.le_of_ble_eq_true rfl) dX8_sign_22 (pd_kq rfl (fun q => absurd q (by decide)) (fun _ => ?_))
      have k6 := i_of1.mp c6
      have k14 := i_of1.mp c14
      have hb1 : (isN x ns && isN y nv) = true := by rw [k6, k14]; rfl
      rw [hb1]
      refine at_aload_n dX8_sign_25 rfl ?_
      refine at_iload_n dX8_sign_26 rfl ?_
      refine at_iconst dX8_sign_27 pc_i0 ?_
      refine at_sipush dX8_sign_28 pc_s999 ?_
      refine at_cs3 csX8_69 (ev_X8_isFrom day 0 999) (by decide) ⟨Nat.le_of_ble_eq_true rfl, Nat.le_of_ble_eq_true rfl⟩ (Nat.le_of_ble_eq_true rfl) dX8_sign_31 (pd_k1 ?_)
      refine at_cv1 cvX8_73 sd_0 (ev_X8_requireArgument _) (by decide) ⟨Nat.le_of_ble_eq_true rfl, Nat.le_of_ble_eq_true rfl⟩ (Nat.le_of_ble_eq_true rfl) dX8_sign_34 (pd_kq rfl (fun q34 => ?_) (fun q34 => ?_))
      · -- refused at 34
        exact q_no9 (by rw [i_of0.mp q34]; rfl)
      rw [i_of1.mp q34]
      refine at_aload_n dX8_sign_37 rfl ?_
      refine at_aload_n dX8_sign_38 rfl ?_
      refine at_getr (cn) flX8_48 rfl sd_0 hnow dX8_sign_39 ?_
      refine at_geti flX8_98 rfl (sd_P0 hcn) dX8_sign_42 ?_
      refine at_bipush dX8_sign_45 pc_b40 ?_
      rw [hln]
      refine at_icmpge (tgt := 54) dX8_sign_47 (by decide) (fun c47 => ?_) (fun c47 => ?_)
      · -- taken 47
        refine at_iconst dX8_sign_54 pc_i0 ?_
        refine at_cv1 cvX8_131 sd_0 (ev_X8_requireState 0) (by decide) ⟨Nat.le_of_ble_eq_true rfl, Nat.le_of_ble_eq_true rfl⟩ (Nat.le_of_ble_eq_true rfl) dX8_sign_55 (pd_kq rfl (fun _ => ?_) (fun q => absurd rfl q))
        have hq : ¬ nl < 40 := fun q => (nI_ge (b := 40) q (by decide)) c47
        exact q_no10 (by simp [j3, j2, j1, hq])
      · -- not taken 47
        refine at_iconst dX8_sign_50 pc_i1 ?_
        refine at_goto (tgt := 55) dX8_sign_51 (by decide) ?_
        refine at_cv1 cvX8_131 sd_0 (ev_X8_requireState 1) (by decide) ⟨Nat.le_of_ble_eq_true rfl, Nat.le_of_ble_eq_true rfl⟩ (Nat.le_of_ble_eq_true rfl) dX8_sign_55 (pd_kq rfl (fun q => absurd q (by decide)) (fun _ => ?_))
        have hl40 : nl < 40 := by
          rcases Nat.lt_or_ge nl 40 with q | q
          · exact q
          · exact absurd (nI_le (a := 40) q (by omega)) c47
        have hj0 : j3 true true (decide (nl < 40)) = 0 := by simp [j3, j2, j1, hl40]
        obtain ⟨s, hs, hx⟩ := isN_of (show ns < 2 ^ 31 by omega) k6
        obtain ⟨v, hv, hy⟩ := isN_of (show nv < 2 ^ 31 by omega) k14
        subst hx hy
        have hcl : (nI s).toNatClampNeg = s := nI_clamp (by omega)
        have hclv : (nI v).toNatClampNeg = v := nI_clamp (by omega)
        rw [hcl, hclv]
        refine at_aload_n dX8_sign_58 rfl ?_
        refine at_cv0 cvX8_85 sd_0 (ev_X8_keepForUndo hA hr hp) (by decide) ⟨Nat.le_of_ble_eq_true rfl, Nat.le_of_ble_eq_true rfl⟩ (Nat.le_of_ble_eq_true rfl) dX8_sign_59 (pd_kw fun I2 L2 R2 h2 => ?_)
        obtain ⟨cp2, hA2, hK⟩ := h2
        have hN2 : CN I2 L2 R2 cn r nv ns nl e := KK.now (w := (r, nv, ns, nl, e)) hK hA2 hN0
        obtain ⟨hR, hcn, hnow, hr, hp, hj, hT⟩ := (show CN I2 L2 R2 cn r nv ns nl e from hN2)
        have f1 := rFo_succ hr (s := s) (by omega)
        have f2 := rFo_le (r := r) (nl := nl) (s + 1)
        refine at_aload_n dX8_sign_62 rfl ?_
        refine at_getr (cn) flX8_48 rfl sd_0 hnow dX8_sign_63 ?_
        refine at_iload_n dX8_sign_66 rfl ?_
        refine at_cv1 cvX8_134 (sd_P0 hcn) (ev_X3_linesOn hR hcn hN2.lns h40 (nI s)) (by decide) ⟨Nat.le_of_ble_eq_true rfl, Nat.le_of_ble_eq_true rfl⟩ (Nat.le_of_ble_eq_true rfl) dX8_sign_67 (pd_k1 ?_)
        rw [nI_1, hN2.first, hN2.first, pk_sub (by omega), show rFo r nl (s + 1) - rFo r nl s = rN r nl s by omega]
        refine at_istore dX8_sign_70 rfl (Nat.le_of_ble_eq_true rfl) ?_
        refine at_aload_n dX8_sign_72 rfl ?_
        refine at_getr (cn) flX8_48 rfl sd_0 hnow dX8_sign_73 ?_
        refine at_iload_n dX8_sign_76 rfl ?_
        refine at_aload_n dX8_sign_77 rfl ?_
        refine at_getr (cn) flX8_48 rfl sd_0 hnow dX8_sign_78 ?_
        refine at_getr (cn + 1) flX8_138 rfl (sd_P0 hcn) (rs_P1 hR hcn) dX8_sign_81 ?_
        refine at_iload_n dX8_sign_84 rfl ?_
        refine at_iald (sd_P1 hcn) (vp_in_nI (by omega) (by decide)) dX8_sign_85 ?_
        refine at_aload_n dX8_sign_86 rfl ?_
        refine at_getr (cn) flX8_48 rfl sd_0 hnow dX8_sign_87 ?_
        refine at_getr (cn + 2) flX8_142 rfl (sd_P0 hcn) (rs_P2 hR hcn) dX8_sign_90 ?_
        refine at_iload_n dX8_sign_93 rfl ?_
        refine at_iald (sd_P2 hcn) (vp_in_nI (by omega) (by decide)) dX8_sign_94 ?_
        rw [hclv]
        refine at_iload_n dX8_sign_95 rfl ?_
        refine at_cv4 cvX8_145 (sd_P0 hcn) (ev_X3_addLine hR hcn hN2.lns hl40 (nI s) _ _ day (f := rFo r nl (s + 1)) (by rw [nI_1]; exact hN2.first)) (by decide) ⟨Nat.le_of_ble_eq_true rfl, Nat.le_of_ble_eq_true rfl⟩ (Nat.le_of_ble_eq_true rfl) dX8_sign_96 (pd_k0 ?_)
        refine at_aload_n dX8_sign_99 rfl ?_
        refine at_getr (cn) flX8_48 rfl sd_0 hnow dX8_sign_100 ?_
        refine at_cv0 cvX8_149 (sd_P0 hcn) (ev_X3_emptySamples hcn) (by decide) ⟨Nat.le_of_ble_eq_true rfl, Nat.le_of_ble_eq_true rfl⟩ (Nat.le_of_ble_eq_true rfl) dX8_sign_103 (pd_k0 ?_)
        have hr2 : Row (sgR r nl (rFo r nl (s + 1)) (nI s) (r (9 + 3 * v)) (r (10 + 3 * v)) day) nv ns (nl + 1) e := sgR_row hr hl40 hs
        have hp2 := sgR_pet (day := day) (s := s) hr hl40 hp f2 hv
        refine at_aload_n dX8_sign_106 rfl ?_
        refine at_getr (18) flX8_30 rfl sd_0 (rs_0_2 hR) dX8_sign_107 ?_
        refine at_aload_n dX8_sign_110 rfl ?_
        refine at_getr (cn) flX8_48 rfl sd_0 hnow dX8_sign_111 ?_
        refine at_cv1 cvX8_95 sd_18 (ev_X1_judge hR hcn hr2 hp2) (by decide) ⟨Nat.le_of_ble_eq_true rfl, Nat.le_of_ble_eq_true rfl⟩ (Nat.le_of_ble_eq_true rfl) dX8_sign_114 (pd_ke fun I3 L3 h3 => ?_)
        obtain ⟨rfl, hj3, hI3⟩ := h3
        refine at_iload dX8_sign_117 rfl ?_
        refine at_iret rfl dX8_sign_119 ?_
        refine q_yes hj0 rfl ⟨?_, hK.fd.tr (fun x hx j => ?_) (fun x hx j => ?_)⟩
        · have hA3 : CA (x_addLine I2 cn (rFo r nl (s + 1)) nl (nI s) (I2 (cn + 1) v) (I2 (cn + 2) v) day) (pd_up (pd_up L2 cn 17 0) cn 18 0) R2 cn cp2 (kA a) (kP a ps (r, nv, ns, nl, e)) := hA2.fr (by rw [x_addLine_fr (by omega)]; exact hA2.2.2.2.1) (fun x h1 h2 h3 => ⟨fun j => x_addLine_fr (by omega), fun j => by rw [pd_up_nb (by omega), pd_up_nb (by omega)]⟩)
          exact CW.mk' (w := (_, nv, ns, nl + 1, e)) hA3 hr2 hp2 (fun n k hn hk => by rw [pd_up_nb (by omega), pd_up_nb (by omega)]; exact hT n k hn hk) hj3 hI3
        · rw [hI3 x (by omega), x_addLine_fr (by omega)]
        · rw [pd_up_nb (by omega), pd_up_nb (by omega)]
/-- the line at f taken out -/
def erR (r : Nat → Int32) (nl f : Nat) : Nat → Int32 := fun k => if k = 2 then nI (nl - 1) else if 225 ≤ k ∧ k < 305 then 0 else if 65 + 4 * f ≤ k ∧ k < 61 + 4 * nl then r (k + 4) else r k
theorem erR_2 {f : Nat} : erR r nl f 2 = nI (nl - 1) := if_pos rfl
theorem erR_o {f k : Nat} (h : nl ≤ 40) (hk : k ≠ 2) (hk2 : k < 65 ∨ 305 ≤ k) : erR r nl f k = r k := by
  unfold erR
  rw [if_neg hk, if_neg (by omega), if_neg (by omega)]
theorem erR_s {f k : Nat} (hk : 225 ≤ k) (hk2 : k < 305) : erR r nl f k = 0 := by
  unfold erR
  rw [if_neg (by omega), if_pos ⟨hk, hk2⟩]
theorem erR_l {f l x : Nat} (h : nl ≤ 40) (hl : l + 1 < nl) (hx : x < 4) : erR r nl f (65 + x + 4 * l) = if l < f then r (65 + x + 4 * l) else r (65 + x + 4 * (l + 1)) := by
  unfold erR
  rw [if_neg (by omega), if_neg (by omega)]
  by_cases hq : l < f
  · rw [if_neg (by omega), if_pos hq]
  · rw [if_pos (by omega), if_neg hq]; congr 1
theorem erR_row (hr : Row r nv ns nl e) {f : Nat} (hf : f < nl) : Row (erR r nl f) nv ns (nl - 1) e := by
  obtain ⟨a1, a2, a3, a4, a5, a6, a7, a8, a9, a10, a11, a12, a13, a14, a15, a16⟩ := hr
  have h40 := a3.2
  have o := fun k (hk : k ≠ 2) (hk2 : k < 65 ∨ 305 ≤ k) => erR_o (r := r) (nl := nl) (f := f) h40 hk hk2
  have fl := fun l (hl : l + 1 < nl) => erR_l (r := r) (nl := nl) (f := f) (l := l) (x := 2) h40 hl (by decide)
  refine ⟨by rw [o 0 (by omega) (by omega)]; exact a1, by rw [o 1 (by omega) (by omega)]; exact a2, ⟨erR_2, by omega⟩, by rw [o 3 (by omega) (by omega)]; exact a4, by rw [o 7 (by omega) (by omega)]; exact a5, fun l hl => ?_, fun l hl => ?_, fun t ht => by rw [o _ (by omega) (by omega)]; exact a8 t ht, fun t h1 h2 => by rw [o _ (by omega) (by omega)]; exact a9 t h1 h2, fun k hk => Or.inl (erR_s (by omega) (by omega)), fun w l h1 h2 h3 => erR_s (by omega) (by omega), by rw [o 8 (by omega) (by omega)]; exact a12, fun j x hj => by rw [o _ (by omega) (by omega)]; exact a13 j x hj, by rw [o _ (by omega) (by omega)]; exact a14, a15, a16⟩
  · unfold rSh
    rw [fl l (by omega)]
    split
    · exact a6 l (by omega)
    · exact a6 (l + 1) (by omega)
  · unfold rSh
    rw [fl l (by omega), fl (l + 1) (by omega)]
    by_cases q : l + 1 < f
    · rw [if_pos (by omega), if_pos q]; exact a7 l (by omega)
    · rw [if_neg q]
      by_cases q2 : l < f
      · rw [if_pos q2]
        have h1 := a7 l (by omega)
        have h2 := a7 (l + 1) (by omega)
        rw [fa_le] at h1 h2 ⊢
        exact Int.le_trans h1 h2
      · rw [if_neg q2]; exact a7 (l + 1) (by omega)
theorem erR_pet (hr : Row r nv ns nl e) (hp : PetRel I L cn r nv ns nl e) {f : Nat} (hf : f < nl) : PetRel (x_rmLine I cn f nl) (pd_up (pd_up L cn 17 0) cn 18 0) cn (erR r nl f) nv ns (nl - 1) e := by
  obtain ⟨⟨a0, a1, a2, a3, a4, a5, a6, a7⟩, hvv, hl, hb, h17, h18, hn, hle, hs⟩ := hp
  have hv16 := hr.1.2
  have h40 := hr.2.2.1.2
  have o := fun k (hk : k ≠ 2) (hk2 : k < 65 ∨ 305 ≤ k) => erR_o (r := r) (nl := nl) (f := f) h40 hk hk2
  have c0 : ∀ j, j ≠ 6 → x_rmLine I cn f nl cn j = I cn j := fun j hj => by
    unfold x_rmLine
    rw [pd_up_nj hj, x_mv_nb (by omega)]
  have c1 : ∀ k, (k < 4 ∨ 7 < k) → k ≠ 0 → ∀ j, x_rmLine I cn f nl (cn + k) j = I (cn + k) j := fun k hk hk0 j => by
    unfold x_rmLine
    rw [pd_up_nb (by omega), x_mv_nb (by omega)]
  have cl : ∀ k, 4 ≤ k → k ≤ 7 → ∀ l, l + 1 < nl → x_rmLine I cn f nl (cn + k) l = if l < f then I (cn + k) l else I (cn + k) (l + 1) := fun k h1 h2 l hl => by
    unfold x_rmLine
    rw [pd_up_nb (by omega), x_mv_at (by omega) (by omega)]
    by_cases hq : l < f
    · rw [if_neg (by omega), if_pos hq]
    · rw [if_pos (by omega), if_neg hq]; congr 1; omega
  refine ⟨⟨?_, ?_, ?_, ?_, ?_, ?_, ?_, ?_⟩, fun u hu => ?_, fun l hll => ?_, ?_, ?_, ?_, ?_, hle, fun j q hq => ?_⟩
  · rw [c0 0 (by decide), o 0 (by decide) (by decide)]; exact a0
  · rw [c0 4 (by decide), o 1 (by decide) (by decide)]; exact a1
  · rw [erR_2]; unfold x_rmLine; rw [pd_up_at]
  · rw [c0 11 (by decide), o 3 (by decide) (by decide)]; exact a3
  · rw [c0 12 (by decide), o 4 (by decide) (by decide)]; exact a4
  · rw [c0 13 (by decide), o 5 (by decide) (by decide)]; exact a5
  · rw [c0 14 (by decide), o 6 (by decide) (by decide)]; exact a6
  · rw [c0 15 (by decide), o 7 (by decide) (by decide)]; exact a7
  · rw [c1 1 (by decide) (by decide), c1 2 (by decide) (by decide), c1 3 (by decide) (by decide), o _ (by omega) (by omega), o _ (by omega) (by omega), o _ (by omega) (by omega)]
    exact hvv u hu
  · unfold rSh
    have fl := fun x hx => erR_l (r := r) (nl := nl) (f := f) (l := l) (x := x) h40 (by omega) hx
    rw [cl 4 (by decide) (by decide) l (by omega), cl 5 (by decide) (by decide) l (by omega), cl 6 (by decide) (by decide) l (by omega), cl 7 (by decide) (by decide) l (by omega), fl 0 (by decide), fl 1 (by decide), fl 2 (by decide), fl 3 (by decide)]
    split
    · exact hl l (by omega)
    · exact hl (l + 1) (by omega)
  · rw [c0 5 (by decide), hb]; congr 1
    exact bsum_cong (fun t ht => by rw [o _ (by omega) (by omega)])
  · rw [pd_up_nj (by decide), pd_up_at, bsum_none (fun i hi => by rw [erR_s (by omega) (by omega)]; decide)]; rfl
  · rw [pd_up_at, bsum_none (fun i hi => by rw [erR_s (by omega) (by omega)]; decide)]; rfl
  · rw [c1 8 (by decide) (by decide)]; exact hn
  · rw [c1 9 (by decide) (by decide)]; exact hs j q hq
theorem x_rmLine_fr {f n : Nat} {x j : Nat} (hx : ¬ (cn ≤ x ∧ x < cn + 10)) : x_rmLine I cn f n x j = I x j := by
  unfold x_rmLine
  rw [pd_up_nb (by omega), x_mv_nb (by omega)]
theorem ev_X8_erase (hC : CW I L R w a ps) (x y : Int32) : pd_Ev G mi_X8_erase 8 3 18 [.ref (pd_z G + 0), .int x, .int y] (SD, false, I, L, R) (q_x I L R (j1 8 (isN x w.2.2.1 && isN y (rN w.1 w.2.2.2.1 x.toNatClampNeg))) (.int (rJ w.1 w.2.1 w.2.2.2.1 w.2.2.2.2 0 (rFo w.1 w.2.2.2.1 x.toNatClampNeg + y.toNatClampNeg))) (fun I' L' R' => CW I' L' R' (erR w.1 w.2.2.2.1 (rFo w.1 w.2.2.2.1 x.toNatClampNeg + y.toNatClampNeg), w.2.1, w.2.2.1, w.2.2.2.1 - 1, w.2.2.2.2) (kA a) (kP a ps w) ∧ FD I L I' L')) := by
  obtain ⟨cn, cp, hN, hA⟩ := hC
  obtain ⟨r, nv, ns, nl, e⟩ := w
  have hN0 : CN I L R cn r nv ns nl e := hN
  obtain ⟨hR, hcn, hnow, hr, hp, hj, hT⟩ := hN
  have h8 := hA.1.2.2.1
  have hi := PB.hi2 hcn h8
  have hs8 : ns ≤ 8 := hN0.s8
  have h40 : nl ≤ 40 := hN0.l40
  have hln := hN0.lns
  show pd_Ev G mi_X8_erase 8 3 18 _ _ (q_x I L R (j1 8 (isN x ns && isN y (rN r nl x.toNatClampNeg))) (.int (rJ r nv nl e 0 (rFo r nl x.toNatClampNeg + y.toNatClampNeg))) (fun I' L' R' => CW I' L' R' (erR r nl (rFo r nl x.toNatClampNeg + y.toNatClampNeg), nv, ns, nl - 1, e) (kA a) (kP a ps (r, nv, ns, nl, e)) ∧ FD I L I' L'))
  refine pd_ev 2 (lo := [some (.ref (pd_z G + 0)), some (.int x), some (.int y), none, none]) (by decide +kernel) (Nat.le_of_ble_eq_true rfl) rfl ?_
  refine at_aload_n dX8_erase_0 rfl ?_
  refine at_aload_n dX8_erase_1 rfl ?_
  refine at_iload_n dX8_erase_2 rfl ?_
  refine at_iload_n dX8_erase_3 rfl ?_
  refine at_cv2 cvX8_152 sd_0 (ev_X8_isLine hN0 x y) (by decide) ⟨Nat.le_of_ble_eq_true rfl, Nat.le_of_ble_eq_true rfl⟩ (Nat.le_of_ble_eq_true rfl) dX8_erase_4 (pd_k1 ?_)
  refine at_cv1 cvX8_119 sd_0 (ev_X8_requireFound _) (by decide) ⟨Nat.le_of_ble_eq_true rfl, Nat.le_of_ble_eq_true rfl⟩ (Nat.le_of_ble_eq_true rfl) dX8_erase_7 (pd_kq rfl (fun q7 => ?_) (fun q7 => ?_))
  · -- refused at 7
    exact q_no8 (by rw [i_of0.mp q7]; rfl)
  have k7 := i_of1.mp q7
  have hj0 : j1 8 (isN x ns && isN y (rN r nl x.toNatClampNeg)) = 0 := by rw [k7]; rfl
  rw [hj0]
  rw [Bool.and_eq_true] at k7
  obtain ⟨s, hs, hx⟩ := isN_of (show ns < 2 ^ 31 by omega) k7.1
  subst hx
  have hcl : (nI s).toNatClampNeg = s := nI_clamp (by omega)
  rw [hcl] at k7 ⊢
  have f1 := rFo_succ hr (s := s) (by omega)
  have f2 : rFo r nl (s + 1) ≤ nl := rFo_le (s + 1)
  simp only at f1
  obtain ⟨l, hl, hy⟩ := isN_of (by omega) k7.2
  subst hy
  rw [nI_clamp (show l < 2 ^ 31 by omega)]
  obtain ⟨i, hi2⟩ : ∃ i, i = rFo r nl s + l := ⟨_, rfl⟩
  rw [← hi2]
  have hcl2 : (nI i).toNatClampNeg = i := nI_clamp (by omega)
  have hin : vp_in (nI i) 40 := vp_in_nI (by omega) (by decide)
  refine at_aload_n dX8_erase_10 rfl ?_
  refine at_cv0 cvX8_85 sd_0 (ev_X8_keepForUndo hA hr hp) (by decide) ⟨Nat.le_of_ble_eq_true rfl, Nat.le_of_ble_eq_true rfl⟩ (Nat.le_of_ble_eq_true rfl) dX8_erase_11 (pd_kw fun I2 L2 R2 h2 => ?_)
  obtain ⟨cp2, hA2, hK⟩ := h2
  have hN2 : CN I2 L2 R2 cn r nv ns nl e := KK.now (w := (r, nv, ns, nl, e)) hK hA2 hN0
  obtain ⟨hR, hcn, hnow, hr, hp, hj, hT⟩ := (show CN I2 L2 R2 cn r nv ns nl e from hN2)
  refine at_aload_n dX8_erase_14 rfl ?_
  refine at_getr (cn) flX8_48 rfl sd_0 hnow dX8_erase_15 ?_
  refine at_iload_n dX8_erase_18 rfl ?_
  refine at_cv1 cvX8_156 (sd_P0 hcn) (ev_X3_firstOf hR hcn hN2.lns h40 (nI s)) (by decide) ⟨Nat.le_of_ble_eq_true rfl, Nat.le_of_ble_eq_true rfl⟩ (Nat.le_of_ble_eq_true rfl) dX8_erase_19 (pd_k1 ?_)
  rw [hN2.first]
  refine at_iload_n dX8_erase_22 rfl ?_
  refine at_iadd dX8_erase_23 ?_
  rw [nI_add, ← hi2]
  refine at_istore_n dX8_erase_24 rfl (Nat.le_of_ble_eq_true rfl) ?_
  refine at_aload_n dX8_erase_25 rfl ?_
  refine at_getr (18) flX8_30 rfl sd_0 (rs_0_2 hR) dX8_erase_26 ?_
  refine at_getr (20) flX8_159 rfl sd_18 (rs_18_1 hR) dX8_erase_29 ?_
  refine at_iload_n dX8_erase_32 rfl ?_
  refine at_iald sd_20 (hin) dX8_erase_33 ?_
  rw [hcl2, hj.2.1 i (by omega)]
  refine at_istore dX8_erase_34 rfl (Nat.le_of_ble_eq_true rfl) ?_
  refine at_aload_n dX8_erase_36 rfl ?_
  refine at_getr (cn) flX8_48 rfl sd_0 hnow dX8_erase_37 ?_
  refine at_iload_n dX8_erase_40 rfl ?_
  refine at_cv1 cvX8_162 (sd_P0 hcn) (ev_X3_removeLine hR hcn hN2.lns h40 (f := i) (by omega)) (by decide) ⟨Nat.le_of_ble_eq_true rfl, Nat.le_of_ble_eq_true rfl⟩ (Nat.le_of_ble_eq_true rfl) dX8_erase_41 (pd_k0 ?_)
  refine at_aload_n dX8_erase_44 rfl ?_
  refine at_getr (cn) flX8_48 rfl sd_0 hnow dX8_erase_45 ?_
  refine at_cv0 cvX8_149 (sd_P0 hcn) (ev_X3_emptySamples hcn) (by decide) ⟨Nat.le_of_ble_eq_true rfl, Nat.le_of_ble_eq_true rfl⟩ (Nat.le_of_ble_eq_true rfl) dX8_erase_48 (pd_k0 ?_)
  have hr2 : Row (erR r nl i) nv ns (nl - 1) e := erR_row hr (by omega)
  have hp2 := erR_pet (f := i) hr hp (by omega)
  refine at_aload_n dX8_erase_51 rfl ?_
  refine at_getr (18) flX8_30 rfl sd_0 (rs_0_2 hR) dX8_erase_52 ?_
  refine at_aload_n dX8_erase_55 rfl ?_
  refine at_getr (cn) flX8_48 rfl sd_0 hnow dX8_erase_56 ?_
  refine at_cv1 cvX8_95 sd_18 (ev_X1_judge hR hcn hr2 hp2) (by decide) ⟨Nat.le_of_ble_eq_true rfl, Nat.le_of_ble_eq_true rfl⟩ (Nat.le_of_ble_eq_true rfl) dX8_erase_59 (pd_ke fun I3 L3 h3 => ?_)
  obtain ⟨rfl, hj3, hI3⟩ := h3
  refine at_iload dX8_erase_62 rfl ?_
  refine at_iret rfl dX8_erase_64 ?_
  refine q_yes rfl rfl ⟨?_, hK.fd.tr (fun x hx j => ?_) (fun x hx j => ?_)⟩
  · have hA3 : CA (x_rmLine I2 cn i nl) (pd_up (pd_up L2 cn 17 0) cn 18 0) R2 cn cp2 (kA a) (kP a ps (r, nv, ns, nl, e)) := hA2.fr (by rw [x_rmLine_fr (by omega)]; exact hA2.2.2.2.1) (fun x h1 h2 h3 => ⟨fun j => x_rmLine_fr (by omega), fun j => by rw [pd_up_nb (by omega), pd_up_nb (by omega)]⟩)
    exact CW.mk' (w := (_, nv, ns, nl - 1, e)) hA3 hr2 hp2 (fun n k hn hk => by rw [pd_up_nb (by omega), pd_up_nb (by omega)]; exact hT n k hn hk) hj3 hI3
  · rw [hI3 x (by omega), x_rmLine_fr (by omega)]
  · rw [pd_up_nb (by omega), pd_up_nb (by omega)]
end SIGN
