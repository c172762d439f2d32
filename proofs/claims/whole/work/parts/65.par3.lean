/-! ===== the reference reads: an operand ===== -/
section PAR3
variable {G : pd_G} {I : Nat → Nat → Int32} {L : Nat → Nat → Int64} {R : Nat → Nat → Option Nat} {B : Nat → Nat} {n d i : Nat} {r : Nat → Int32} {ks : List Int32}
theorem ev_gz_takes (hR : RS R) (h : GZ I B n r ks d i) {a c : Nat} (hc : c < 16) (hS : SI G a ((wds.getD c []).map nI)) : pd_Ev G mi_X9_takes 6 0 0 [.ref (pd_z G + 119), .ref a] (SD, false, I, L, R) (pd_ri R fun v I' L' => L' = L ∧ v = i_of (decide (tkK B n (tq B n i) = c + 1)) ∧ FP I I' ∧ GZ I' B n r ks d (if tkK B n (tq B n i) = c + 1 then i + 1 else i) ∧ (¬ tkK B n (tq B n i) = c + 1 → I' 119 4 = nI (tq B n i))) := by
  obtain ⟨p, a1, a2, a3⟩ := h.2.1
  refine pd_Ev_mono (ev_X9_takes hR h.1 a1 (by have := h.1.2.1; omega) h.2.2.1 (wds_WL c hc) hS) ?_
  rintro o M' ⟨rfl, rfl⟩
  rw [a3, kw_iff hc]
  refine ⟨_, _, _, rfl, rfl, rfl, rfl, FP.rf.up (by decide), ?_, fun hk => by rw [pd_up_at, if_neg (by simpa using hk)]⟩
  by_cases hk : tkK B n (tq B n i) = c + 1
  · rw [if_pos hk, if_pos (decide_eq_true hk)]
    refine h.next ?_
    have : isW B n (tq B n i) (wds.getD c []) = true := by rw [kw_iff hc, decide_eq_true hk]
    rw [(isW_L (wds_WL c hc) this).2.2]
  · rw [if_neg hk, if_neg (by simpa using hk)]
    exact h.here
theorem ev_gz_isWord (hR : RS R) (h : GZ I B n r ks d i) {a c : Nat} (hc : c < 16) (hS : SI G a ((wds.getD c []).map nI)) : pd_Ev G mi_X9_isWord 5 0 0 [.ref (pd_z G + 119), .ref a] (SD, false, I, L, R) (pd_rt (.int (i_of (decide (tkK B n (tq B n i) = c + 1)))) (SD, false, pd_up I 119 4 (nI (tq B n i)), L, R)) := by
  obtain ⟨p, a1, a2, a3⟩ := h.2.1
  refine pd_Ev_mono (ev_X9_isWord hR h.1 a1 (by have := h.1.2.1; omega) (wds_WL c hc) hS) ?_
  rintro o M' ⟨rfl, rfl⟩
  rw [a3, kw_iff hc]
  exact ⟨rfl, rfl⟩
theorem ev_gz_here (hR : RS R) (h : GZ I B n r ks d i) : pd_Ev G mi_X9_here 2 0 0 [.ref (pd_z G + 119)] (SD, false, I, L, R) (pd_rt (.int (fB B n (tq B n i))) (SD, false, pd_up I 119 4 (nI (tq B n i)), L, R)) := by
  obtain ⟨p, a1, a2, a3⟩ := h.2.1
  refine pd_Ev_mono (ev_X9_here hR h.1 a1 (by have := h.1.2.1; omega)) ?_
  rintro o M' ⟨rfl, rfl⟩
  rw [a3]
  exact ⟨rfl, rfl⟩
theorem FZ.at {b p : Nat} {z : Nat × Nat} (h : FZ I B n b z) {b2 : Nat} (hp : p ≤ n + b2) : FZ (pd_up I 119 4 (nI p)) B n b2 z := ⟨h.1.up (by decide), ⟨p, pd_up_at, hp⟩, by rw [pd_up_nj (by decide)]; exact h.2.2.1, h.2.2.2.1, by rw [pd_up_nj (by decide)]; exact h.2.2.2.2⟩
theorem FZ.op {b : Nat} {z : Nat × Nat} {v : Int32} (h : FZ I B n b z) : FZ (pd_up I 119 14 v) B n b z := by
  obtain ⟨h1, ⟨p, a1, a2⟩, h3, h4, h5⟩ := h
  exact ⟨h1.up (by decide), ⟨p, by rw [pd_up_nj (by decide)]; exact a1, a2⟩, by rw [pd_up_nj (by decide)]; exact h3, h4, by rw [pd_up_nj (by decide)]; exact h5⟩
theorem GZ.op {d' : Nat} (h : GZ I B n r ks d i) : GZ (pd_up I 119 14 (nI d')) B n r ks d' i := by
  obtain ⟨h1, ⟨p, a1, a2, a3⟩, h3, h4, h5, h6, h7⟩ := h
  exact ⟨h1.up (by decide), ⟨p, by rw [pd_up_nj (by decide)]; exact a1, a2, a3⟩, by rw [pd_up_nj (by decide)]; exact h3, pd_up_at, by rw [pd_up_nj (by decide)]; exact h5, fun k hk => by rw [pd_up_nb (by decide)]; exact h6 k hk, by rw [pd_up_nj (by decide)]; exact h7⟩
theorem ev_fz_here (hR : RS R) {b : Nat} (hb : b ≤ 50) {z : Nat × Nat} (h : FZ I B n b z) : pd_Ev G mi_X9_here 2 0 0 [.ref (pd_z G + 119)] (SD, false, I, L, R) (pd_ri R fun v I' L' => L' = L ∧ FP I I' ∧ FZ I' B n b z) := by
  obtain ⟨p, a1, a2⟩ := h.2.1
  have hn := h.1.2.1
  refine pd_Ev_mono (ev_X9_here hR h.1 a1 (by omega)) ?_
  rintro o M' ⟨rfl, rfl⟩
  refine ⟨_, _, _, rfl, rfl, rfl, FP.rf.up (by decide), h.at ?_⟩
  rcases Nat.lt_or_ge n p with q | q
  · rw [sk_at (isB_n (by omega))]; exact a2
  · have := sk_le (B := B) q; omega
theorem pNum_D {lo hi : Nat} : pNum (tT B n) i lo hi = if isD B n (tq B n i) = true then (if lo ≤ tkN B n (tq B n i) ∧ tkN B n (tq B n i) ≤ hi then .inl (tkN B n (tq B n i)) else .inr (2, tq B n i)) else .inr (1, tq B n i) := by
  unfold pNum
  by_cases hd : isD B n (tq B n i) = true
  · rw [if_pos hd, if_pos (show (tT B n).1 i = 18 from tkK_18.mp hd)]; rfl
  · rw [if_neg hd, if_neg (show ¬ (tT B n).1 i = 18 from fun q => hd (tkK_18.mpr q))]; rfl
theorem ev_gz_num (hR : RS R) (h : GZ I B n r ks d i) {lo hi : Nat} (hlo : lo ≤ 999) (hhi : hi ≤ 999) : pd_Ev G mi_X9_number 3 0 0 [.ref (pd_z G + 119), .int (nI lo), .int (nI hi)] (SD, false, I, L, R) (pd_ri R fun v I' L' => L' = L ∧ FP I I' ∧ match pNum (tT B n) i lo hi with
    | .inl x => v = nI x ∧ GZ I' B n r ks d (i + 1)
    | .inr z => FZ I' B n 0 z) := by
  obtain ⟨p, a1, a2, a3⟩ := h.2.1
  refine pd_Ev_mono (ev_X9_number hR h.1 a1 a2 h.2.2.1 hlo hhi) ?_
  rintro o M' ⟨rfl, x, rfl, hx⟩
  rw [a3] at hx ⊢
  rw [pNum_D]
  unfold nuI
  cases hd : isD B n (tq B n i) with
  | false =>
    rw [if_neg (by decide), if_neg (by decide)]
    exact ⟨_, _, _, rfl, rfl, rfl, ((FP.rf.up (by decide)).up (by decide)).up (by decide), h.wr (tq_le i) (by decide)⟩
  | true =>
    rw [if_pos rfl, if_pos rfl]
    by_cases hb : lo ≤ tkN B n (tq B n i) ∧ tkN B n (tq B n i) ≤ hi
    · rw [if_pos hb, if_pos hb]
      exact ⟨_, _, _, rfl, rfl, rfl, FP.rf.up (by decide), by rw [hx hd hb.2], h.next rfl⟩
    · rw [if_neg hb, if_neg hb]
      exact ⟨_, _, _, rfl, rfl, rfl, ((FP.rf.up (by decide)).up (by decide)).up (by decide), h.wr (tkE_le (tq_le i)) (by decide)⟩
theorem ev_gz_num1 (hR : RS R) (h : GZ I B n r ks d i) {lo hi x : Nat} (hlo : lo ≤ 999) (hhi : hi ≤ 999) (hN : pNum (tT B n) i lo hi = .inl x) : pd_Ev G mi_X9_number 3 0 0 [.ref (pd_z G + 119), .int (nI lo), .int (nI hi)] (SD, false, I, L, R) (pd_ri R fun v I' L' => L' = L ∧ v = nI x ∧ FP I I' ∧ GZ I' B n r ks d (i + 1)) := by
  refine pd_Ev_mono (ev_gz_num hR h hlo hhi) ?_
  rintro o M' ⟨v, I', L', rfl, rfl, h1, h2, h3⟩
  rw [hN] at h3
  exact ⟨_, _, _, rfl, rfl, h1, h3.1, h2, h3.2⟩
theorem ev_gz_num0 (hR : RS R) (h : GZ I B n r ks d i) {lo hi : Nat} {z : Nat × Nat} (hlo : lo ≤ 999) (hhi : hi ≤ 999) (hN : pNum (tT B n) i lo hi = .inr z) : pd_Ev G mi_X9_number 3 0 0 [.ref (pd_z G + 119), .int (nI lo), .int (nI hi)] (SD, false, I, L, R) (pd_ri R fun v I' L' => L' = L ∧ FP I I' ∧ FZ I' B n 0 z) := by
  refine pd_Ev_mono (ev_gz_num hR h hlo hhi) ?_
  rintro o M' ⟨v, I', L', rfl, rfl, h1, h2, h3⟩
  rw [hN] at h3
  exact ⟨_, _, _, rfl, rfl, h1, h2, h3⟩
theorem ev_gz_name (hR : RS R) (h : GZ I B n r ks d i) : pd_Ev G mi_X9_name 3 0 0 [.ref (pd_z G + 119)] (SD, false, I, L, R) (pd_ri R fun v I' L' => L' = L ∧ FP I I' ∧ match pName (tT B n) i with
    | .inl w => v = nI (n27 0 w) ∧ GZ I' B n r ks d (i + 1)
    | .inr z => FZ I' B n 0 z) := by
  obtain ⟨p, a1, a2, a3⟩ := h.2.1
  refine pd_Ev_mono (ev_X9_name hR h.1 a1 a2 h.2.2.1) ?_
  intro o M' hq
  rw [a3] at hq
  have e : pName (tT B n) i = if isL B n (tq B n i) = true ∧ (tkW B n (tq B n i)).length ≤ 5 then .inl (tkW B n (tq B n i)) else .inr (1, tq B n i) := by
    unfold pName
    by_cases hb : isL B n (tq B n i) = true ∧ (tkW B n (tq B n i)).length ≤ 5
    · rw [if_pos hb, if_pos ⟨tkK_17.mp hb.1, hb.2⟩]; rfl
    · rw [if_neg hb, if_neg (fun q => hb ⟨tkK_17.mpr q.1, q.2⟩)]; rfl
  rw [e]
  by_cases hb : isL B n (tq B n i) = true ∧ (tkW B n (tq B n i)).length ≤ 5
  · rw [if_pos hb] at hq
    obtain ⟨rfl, rfl⟩ := hq
    rw [if_pos hb]
    exact ⟨_, _, _, rfl, rfl, rfl, FP.rf.up (by decide), rfl, h.next rfl⟩
  · rw [if_neg hb] at hq
    obtain ⟨x, p', hp', rfl, rfl⟩ := hq
    rw [if_neg hb]
    exact ⟨_, _, _, rfl, rfl, rfl, ((FP.rf.up (by decide)).up (by decide)).up (by decide), h.wr hp' (by decide)⟩
theorem ev_gz_name1 (hR : RS R) (h : GZ I B n r ks d i) {w : List Nat} (hN : pName (tT B n) i = .inl w) : pd_Ev G mi_X9_name 3 0 0 [.ref (pd_z G + 119)] (SD, false, I, L, R) (pd_ri R fun v I' L' => L' = L ∧ v = nI (n27 0 w) ∧ FP I I' ∧ GZ I' B n r ks d (i + 1)) := by
  refine pd_Ev_mono (ev_gz_name hR h) ?_
  rintro o M' ⟨v, I', L', rfl, rfl, h1, h2, h3⟩
  rw [hN] at h3
  exact ⟨_, _, _, rfl, rfl, h1, h3.1, h2, h3.2⟩
theorem ev_gz_name0 (hR : RS R) (h : GZ I B n r ks d i) {z : Nat × Nat} (hN : pName (tT B n) i = .inr z) : pd_Ev G mi_X9_name 3 0 0 [.ref (pd_z G + 119)] (SD, false, I, L, R) (pd_ri R fun v I' L' => L' = L ∧ FP I I' ∧ FZ I' B n 0 z) := by
  refine pd_Ev_mono (ev_gz_name hR h) ?_
  rintro o M' ⟨v, I', L', rfl, rfl, h1, h2, h3⟩
  rw [hN] at h3
  exact ⟨_, _, _, rfl, rfl, h1, h2, h3⟩
theorem ev_gz_must1 (hR : RS R) (h : GZ I B n r ks d i) {c : Nat} (h1 : 33 ≤ c) (h2 : c < 128) (h3 : c < 48 ∨ 57 < c) (h4 : c < 97 ∨ 122 < c) (hk : tkK B n (tq B n i) = c) : pd_Ev G mi_X9_must 3 0 0 [.ref (pd_z G + 119), .int (nI c)] (SD, false, I, L, R) (pd_re R fun I' L' => L' = L ∧ FP I I' ∧ GZ I' B n r ks d (i + 1)) := by
  obtain ⟨p, a1, a2, a3⟩ := h.2.1
  refine pd_Ev_mono (ev_X9_must hR h.1 a1 (by have := h.1.2.1; omega) h.2.2.1 (by omega)) ?_
  rintro o M' ⟨rfl, rfl⟩
  rw [a3]
  have hq := (sg_iff h1 h2 h3 h4).mpr hk
  rw [if_pos hq]
  exact ⟨rfl, _, _, rfl, rfl, FP.rf.up (by decide), h.next (sg_E hq.1 hq.2 h3 h4).symm⟩
theorem ev_gz_must0 (hR : RS R) (h : GZ I B n r ks d i) {c : Nat} (h1 : 33 ≤ c) (h2 : c < 128) (h3 : c < 48 ∨ 57 < c) (h4 : c < 97 ∨ 122 < c) (hk : ¬ tkK B n (tq B n i) = c) : pd_Ev G mi_X9_must 3 0 0 [.ref (pd_z G + 119), .int (nI c)] (SD, false, I, L, R) (pd_re R fun I' L' => L' = L ∧ FP I I' ∧ FZ I' B n 0 (1, tq B n i)) := by
  obtain ⟨p, a1, a2, a3⟩ := h.2.1
  refine pd_Ev_mono (ev_X9_must hR h.1 a1 (by have := h.1.2.1; omega) h.2.2.1 (by omega)) ?_
  rintro o M' ⟨rfl, rfl⟩
  rw [a3, if_neg (fun q => hk ((sg_iff h1 h2 h3 h4).mp q))]
  exact ⟨rfl, _, _, rfl, rfl, ((FP.rf.up (by decide)).up (by decide)).up (by decide), h.wr (tq_le i) (by decide)⟩
theorem ev_gz_tells (hR : RS R) (h : GZ I B n r ks d i) (hk : ks.length < 800) (c : Int32) : pd_Ev G mi_X9_tells 2 0 0 [.ref (pd_z G + 119), .int c] (SD, false, I, L, R) (pd_re R fun I' L' => L' = L ∧ FP I I' ∧ GZ I' B n r (ks ++ [c]) d i) := by
  refine pd_Ev_mono (ev_X9_tells hR h.2.2.1 h.2.2.2.2.1 hk c) ?_
  rintro o M' ⟨rfl, rfl⟩
  exact ⟨rfl, _, _, rfl, rfl, FP.rf.up3.up (by decide), h.tell c⟩
theorem ev_X9_sideF (hR : RS R) (hf : ¬ I 119 6 = 0) : pd_Ev G mi_X9_side 8 0 0 [.ref (pd_z G + 119)] (SD, false, I, L, R) (pd_rv (SD, false, I, L, R)) := by
  refine pd_ev 1 (lo := [some (.ref (pd_z G + 119)), none]) (by decide +kernel) (Nat.le_of_ble_eq_true rfl) rfl ?_
  refine at_aload_n dX9_side_0 rfl ?_
  refine at_cv0 cvX9_87 sd_119 (ev_X9_fine) (by decide) ⟨Nat.le_refl _, Nat.le_refl _⟩ (Nat.le_of_ble_eq_true rfl) dX9_side_1 (pd_k1 ?_)
  rw [decide_eq_false hf]
  refine at_ifne (tgt := 8) dX9_side_4 (by decide) (fun c4 => ?_) (fun c4 => ?_)
  · -- taken 4
    exact absurd rfl c4
  · -- not taken 4
    refine at_vret rfl dX9_side_7 ?_
    exact ⟨rfl, rfl⟩
/-- the words of the facts: their places among all words -/
def fkW (k : Nat) : Nat := if k = 0 then 11 else if k = 1 then 12 else if k = 2 then 13 else if k = 3 then 1 else if k = 4 then 14 else 15
theorem fkW_lt (k : Nat) : fkW k < 16 := by
  unfold fkW; repeat' split
  all_goals decide
theorem ev_X9_factOf {M : pd_M} {k : Nat} (hk : k < 6) : pd_Ev G mi_X9_factOf 1 0 0 [.int (nI k)] M (fun o M' => M' = M ∧ ∃ a, o = .inl (some (.ref a)) ∧ SI G a ((wds.getD (fkW k) []).map nI)) := by
  refine pd_ev 0 (lo := [some (.int (nI k))]) (by decide +kernel) (Nat.le_of_ble_eq_true rfl) rfl ?_
  rcases (show k = 0 ∨ k = 1 ∨ k = 2 ∨ k = 3 ∨ k = 4 ∨ k = 5 by omega) with rfl | rfl | rfl | rfl | rfl | rfl
  · refine at_iload_n dX9_factOf_0 rfl ?_
    refine at_ifne (tgt := 9) dX9_factOf_1 (by decide) (fun c1 => ?_) (fun c1 => ?_)
    · -- taken 1
      exact absurd rfl c1
    · -- not taken 1
      refine at_ldcS sw9_day rfl dX9_factOf_4 (fun hS4 => ?_)
      refine at_goto (tgt := 51) dX9_factOf_6 (by decide) ?_
      refine at_aret rfl (Or.inl ⟨_, rfl⟩) dX9_factOf_51 ?_
      exact ⟨rfl, _, rfl, hS4⟩
  · refine at_iload_n dX9_factOf_0 rfl ?_
    refine at_ifne (tgt := 9) dX9_factOf_1 (by decide) (fun c1 => ?_) (fun c1 => ?_)
    · -- taken 1
      refine at_iload_n dX9_factOf_9 rfl ?_
      refine at_iconst dX9_factOf_10 pc_i1 ?_
      refine at_icmpne (tgt := 19) dX9_factOf_11 (by decide) (fun c11 => ?_) (fun c11 => ?_)
      · -- taken 11
        exact absurd rfl c11
      · -- not taken 11
        refine at_ldcS sw9_street rfl dX9_factOf_14 (fun hS14 => ?_)
        refine at_goto (tgt := 51) dX9_factOf_16 (by decide) ?_
        refine at_aret rfl (Or.inl ⟨_, rfl⟩) dX9_factOf_51 ?_
        exact ⟨rfl, _, rfl, hS14⟩
    · -- not taken 1
      exact absurd c1 (by decide)
  · refine at_iload_n dX9_factOf_0 rfl ?_
    refine at_ifne (tgt := 9) dX9_factOf_1 (by decide) (fun c1 => ?_) (fun c1 => ?_)
    · -- taken 1
      refine at_iload_n dX9_factOf_9 rfl ?_
      refine at_iconst dX9_factOf_10 pc_i1 ?_
      refine at_icmpne (tgt := 19) dX9_factOf_11 (by decide) (fun c11 => ?_) (fun c11 => ?_)
      · -- taken 11
        refine at_iload_n dX9_factOf_19 rfl ?_
        refine at_iconst dX9_factOf_20 pc_i2 ?_
        refine at_icmpne (tgt := 29) dX9_factOf_21 (by decide) (fun c21 => ?_) (fun c21 => ?_)
        · -- taken 21
          exact absurd rfl c21
        · -- not taken 21
          refine at_ldcS sw9_line rfl dX9_factOf_24 (fun hS24 => ?_)
          refine at_goto (tgt := 51) dX9_factOf_26 (by decide) ?_
          refine at_aret rfl (Or.inl ⟨_, rfl⟩) dX9_factOf_51 ?_
          exact ⟨rfl, _, rfl, hS24⟩
      · -- not taken 11
        exact absurd c11 (by decide)
    · -- not taken 1
      exact absurd c1 (by decide)
  · refine at_iload_n dX9_factOf_0 rfl ?_
    refine at_ifne (tgt := 9) dX9_factOf_1 (by decide) (fun c1 => ?_) (fun c1 => ?_)
    · -- taken 1
      refine at_iload_n dX9_factOf_9 rfl ?_
      refine at_iconst dX9_factOf_10 pc_i1 ?_
      refine at_icmpne (tgt := 19) dX9_factOf_11 (by decide) (fun c11 => ?_) (fun c11 => ?_)
      · -- taken 11
        refine at_iload_n dX9_factOf_19 rfl ?_
        refine at_iconst dX9_factOf_20 pc_i2 ?_
        refine at_icmpne (tgt := 29) dX9_factOf_21 (by decide) (fun c21 => ?_) (fun c21 => ?_)
        · -- taken 21
          refine at_iload_n dX9_factOf_29 rfl ?_
          refine at_iconst dX9_factOf_30 pc_i3 ?_
          refine at_icmpne (tgt := 39) dX9_factOf_31 (by decide) (fun c31 => ?_) (fun c31 => ?_)
          · -- taken 31
            exact absurd rfl c31
          · -- not taken 31
            refine at_ldcS sw9_sheet rfl dX9_factOf_34 (fun hS34 => ?_)
            refine at_goto (tgt := 51) dX9_factOf_36 (by decide) ?_
            refine at_aret rfl (Or.inl ⟨_, rfl⟩) dX9_factOf_51 ?_
            exact ⟨rfl, _, rfl, hS34⟩
        · -- not taken 21
          exact absurd c21 (by decide)
      · -- not taken 11
        exact absurd c11 (by decide)
    · -- not taken 1
      exact absurd c1 (by decide)
  · refine at_iload_n dX9_factOf_0 rfl ?_
    refine at_ifne (tgt := 9) dX9_factOf_1 (by decide) (fun c1 => ?_) (fun c1 => ?_)
    · -- taken 1
      refine at_iload_n dX9_factOf_9 rfl ?_
      refine at_iconst dX9_factOf_10 pc_i1 ?_
      refine at_icmpne (tgt := 19) dX9_factOf_11 (by decide) (fun c11 => ?_) (fun c11 => ?_)
      · -- taken 11
        refine at_iload_n dX9_factOf_19 rfl ?_
        refine at_iconst dX9_factOf_20 pc_i2 ?_
        refine at_icmpne (tgt := 29) dX9_factOf_21 (by decide) (fun c21 => ?_) (fun c21 => ?_)
        · -- taken 21
          refine at_iload_n dX9_factOf_29 rfl ?_
          refine at_iconst dX9_factOf_30 pc_i3 ?_
          refine at_icmpne (tgt := 39) dX9_factOf_31 (by decide) (fun c31 => ?_) (fun c31 => ?_)
          · -- taken 31
            refine at_iload_n dX9_factOf_39 rfl ?_
            refine at_iconst dX9_factOf_40 pc_i4 ?_
            refine at_icmpne (tgt := 49) dX9_factOf_41 (by decide) (fun c41 => ?_) (fun c41 => ?_)
            · -- taken 41
              exact absurd rfl c41
            · -- not taken 41
              refine at_ldcS sw9_since rfl dX9_factOf_44 (fun hS44 => ?_)
              refine at_goto (tgt := 51) dX9_factOf_46 (by decide) ?_
              refine at_aret rfl (Or.inl ⟨_, rfl⟩) dX9_factOf_51 ?_
              exact ⟨rfl, _, rfl, hS44⟩
          · -- not taken 31
            exact absurd c31 (by decide)
        · -- not taken 21
          exact absurd c21 (by decide)
      · -- not taken 11
        exact absurd c11 (by decide)
    · -- not taken 1
      exact absurd c1 (by decide)
  · refine at_iload_n dX9_factOf_0 rfl ?_
    refine at_ifne (tgt := 9) dX9_factOf_1 (by decide) (fun c1 => ?_) (fun c1 => ?_)
    · -- taken 1
      refine at_iload_n dX9_factOf_9 rfl ?_
      refine at_iconst dX9_factOf_10 pc_i1 ?_
      refine at_icmpne (tgt := 19) dX9_factOf_11 (by decide) (fun c11 => ?_) (fun c11 => ?_)
      · -- taken 11
        refine at_iload_n dX9_factOf_19 rfl ?_
        refine at_iconst dX9_factOf_20 pc_i2 ?_
        refine at_icmpne (tgt := 29) dX9_factOf_21 (by decide) (fun c21 => ?_) (fun c21 => ?_)
        · -- taken 21
          refine at_iload_n dX9_factOf_29 rfl ?_
          refine at_iconst dX9_factOf_30 pc_i3 ?_
          refine at_icmpne (tgt := 39) dX9_factOf_31 (by decide) (fun c31 => ?_) (fun c31 => ?_)
          · -- taken 31
            refine at_iload_n dX9_factOf_39 rfl ?_
            refine at_iconst dX9_factOf_40 pc_i4 ?_
            refine at_icmpne (tgt := 49) dX9_factOf_41 (by decide) (fun c41 => ?_) (fun c41 => ?_)
            · -- taken 41
              refine at_ldcS sw9_ahead rfl dX9_factOf_49 (fun hS49 => ?_)
              refine at_aret rfl (Or.inl ⟨_, rfl⟩) dX9_factOf_51 ?_
              exact ⟨rfl, _, rfl, hS49⟩
            · -- not taken 41
              exact absurd c41 (by decide)
          · -- not taken 31
            exact absurd c31 (by decide)
        · -- not taken 21
          exact absurd c21 (by decide)
      · -- not taken 11
        exact absurd c11 (by decide)
    · -- not taken 1
      exact absurd c1 (by decide)
theorem pd_kf {mi : pd_MI} {h mc ms cs ss pc : Nat} {lo : List (Option Value)} {st : List Value} {Q : pd_O → pd_M → Prop} {M : pd_M} {bs : List Int32} (K : ∀ a, SI G a bs → pd_At G mi h mc ms cs ss (pc + 3) lo (.ref a :: st) M Q) : ∀ o M', (M' = M ∧ ∃ a, o = .inl (some (.ref a)) ∧ SI G a bs) → pd_Kc G mi h mc ms cs ss pc lo st Q o M' := fun o M' hq => by
  obtain ⟨rfl, a, rfl, hS⟩ := hq; exact K a hS
theorem fc_fk {k j : Nat} (hj : j < 6) : fcOf k = some j ↔ k = fkW j + 1 := by
  unfold fcOf
  constructor
  · intro h
    repeat' split at h
    all_goals first | (cases h; subst_vars; rfl) | cases h
  · intro h
    rcases (show j = 0 ∨ j = 1 ∨ j = 2 ∨ j = 3 ∨ j = 4 ∨ j = 5 by omega) with rfl | rfl | rfl | rfl | rfl | rfl <;> subst h <;> rfl
def SRz (I2 : Nat → Nat → Int32) (B : Nat → Nat) (n : Nat) (r : Nat → Int32) (ks : List Int32) (d i : Nat) (o : Nat ⊕ (Nat × Nat)) : Prop := match o with
  | .inl a => GZ I2 B n r (ks ++ rl_o a) d (i + 1)
  | .inr z => FZ I2 B n 0 z
theorem lp_X9_side (hR : RS R) {o : Nat ⊕ (Nat × Nat)} (ho : o = match fcOf (tkK B n (tq B n i)) with
    | some f => .inl (1000 + f)
    | none => .inr (1, tq B n i)) (hk : ks.length < 798) : ∀ (k j : Nat) (I' : Nat → Nat → Int32), j + k = 6 → FP I I' → GZ I' B n r ks d i → I' 119 4 = nI (tq B n i) → (∀ q, q < j → ¬ tkK B n (tq B n i) = fkW q + 1) → pd_At G mi_X9_side 8 0 0 0 0 40 [some (.ref (pd_z G + 119)), some (.int (nI j))] [] (SD, false, I', L, R) (pd_re R fun I2 L2 => L2 = L ∧ FP I I2 ∧ SRz I2 B n r ks d i o) := by
  intro k
  induction k with
  | zero =>
    intro j I' hj hF hZ hA hno
    have e0 : j = 6 := by omega
    subst e0
    have hn : fcOf (tkK B n (tq B n i)) = none := by
      cases hf : fcOf (tkK B n (tq B n i)) with
      | none => rfl
      | some f => exact absurd ((fc_fk (fcOf_lt hf).1).mp hf) (hno f (fcOf_lt hf).1)
    rw [hn] at ho
    subst ho
    have hw := hZ.wr (p := tq B n i) (c := 1) (q := tq B n i) (tq_le i) (by decide)
    rw [pd_up_same hA] at hw
    refine at_iload_n dX9_side_40 rfl ?_
    refine at_bipush dX9_side_41 pc_b6 ?_
    refine at_icmpge (tgt := 74) dX9_side_43 (by decide) (fun c43 => ?_) (fun c43 => ?_)
    · -- taken 43
      refine at_aload_n dX9_side_74 rfl ?_
      refine at_iconst dX9_side_75 pc_i1 ?_
      refine at_aload_n dX9_side_76 rfl ?_
      refine at_geti flX9_57 rfl sd_119 dX9_side_77 ?_
      rw [hA]
      refine at_cv2 cvX9_95 sd_119 (ev_X9_wrong0 hZ.2.2.1 _ _) (by decide) ⟨Nat.le_refl _, Nat.le_refl _⟩ (Nat.le_of_ble_eq_true rfl) dX9_side_80 (pd_k0 ?_)
      refine at_vret rfl dX9_side_83 ?_
      exact ⟨rfl, _, _, rfl, rfl, (hF.up (by decide)).up (by decide), hw⟩
    · -- not taken 43
      exact absurd (nI_le (a := 6) (Nat.le_refl _) (by decide)) c43
  | succ k ih =>
    intro j I' hj hF hZ hA hno
    by_cases hk2 : tkK B n (tq B n i) = fkW j + 1
    · have hn : fcOf (tkK B n (tq B n i)) = some j := (fc_fk (by omega)).mpr hk2
      rw [hn] at ho
      subst ho
      have e1 : rl_o (1000 + j) = [nI (2 + j)] := by rw [rl_o, if_neg (by omega), Nat.add_sub_cancel_left]
      refine at_iload_n dX9_side_40 rfl ?_
      refine at_bipush dX9_side_41 pc_b6 ?_
      refine at_icmpge (tgt := 74) dX9_side_43 (by decide) (fun c43 => ?_) (fun c43 => ?_)
      · -- taken 43
        exact absurd c43 (nI_ge (b := 6) (by omega) (by decide))
      · -- not taken 43
        refine at_aload_n dX9_side_46 rfl ?_
        refine at_iload_n dX9_side_47 rfl ?_
        refine at_cs1 csX9_146 (ev_X9_factOf (k := j) (by omega)) (by decide) ⟨Nat.le_refl _, Nat.le_refl _⟩ (Nat.le_of_ble_eq_true rfl) dX9_side_48 (pd_kf fun a hSa => ?_)
        refine at_cv1 cvX9_150 sd_119 (ev_gz_takes hR hZ (fkW_lt j) hSa) (by decide) ⟨Nat.le_refl _, Nat.le_refl _⟩ (Nat.le_of_ble_eq_true rfl) dX9_side_51 (pd_ki fun v I2 L2 hq => ?_)
        obtain ⟨rfl, rfl, hF2, hZ2, hA2⟩ := hq
        rw [if_pos hk2] at hZ2
        rw [decide_eq_true hk2]
        refine at_ifne (tgt := 60) dX9_side_54 (by decide) (fun c54 => ?_) (fun c54 => ?_)
        · -- taken 54
          refine at_aload_n dX9_side_60 rfl ?_
          refine at_iconst dX9_side_61 pc_i2 ?_
          refine at_iload_n dX9_side_62 rfl ?_
          refine at_iadd dX9_side_63 ?_
          rw [show (2 : Int32) = nI 2 from rfl, nI_add]
          refine at_cv1 cvX9_142 sd_119 (ev_gz_tells hR hZ2 (by omega) _) (by decide) ⟨Nat.le_refl _, Nat.le_refl _⟩ (Nat.le_of_ble_eq_true rfl) dX9_side_64 (pd_ke fun I3 L3 hq3 => ?_)
          obtain ⟨rfl, hF3, hZ3⟩ := hq3
          refine at_vret rfl dX9_side_67 ?_
          exact ⟨rfl, _, _, rfl, rfl, (hF.tr hF2).tr hF3, by show GZ _ B n r (ks ++ rl_o (1000 + j)) d (i + 1); rw [e1]; exact hZ3⟩
        · -- not taken 54
          exact absurd c54 (by decide)
    · refine at_iload_n dX9_side_40 rfl ?_
      refine at_bipush dX9_side_41 pc_b6 ?_
      refine at_icmpge (tgt := 74) dX9_side_43 (by decide) (fun c43 => ?_) (fun c43 => ?_)
      · -- taken 43
        exact absurd c43 (nI_ge (b := 6) (by omega) (by decide))
      · -- not taken 43
        refine at_aload_n dX9_side_46 rfl ?_
        refine at_iload_n dX9_side_47 rfl ?_
        refine at_cs1 csX9_146 (ev_X9_factOf (k := j) (by omega)) (by decide) ⟨Nat.le_refl _, Nat.le_refl _⟩ (Nat.le_of_ble_eq_true rfl) dX9_side_48 (pd_kf fun a hSa => ?_)
        refine at_cv1 cvX9_150 sd_119 (ev_gz_takes hR hZ (fkW_lt j) hSa) (by decide) ⟨Nat.le_refl _, Nat.le_refl _⟩ (Nat.le_of_ble_eq_true rfl) dX9_side_51 (pd_ki fun v I2 L2 hq => ?_)
        obtain ⟨rfl, rfl, hF2, hZ2, hA2⟩ := hq
        rw [if_neg hk2] at hZ2
        rw [decide_eq_false hk2]
        refine at_ifne (tgt := 60) dX9_side_54 (by decide) (fun c54 => ?_) (fun c54 => ?_)
        · -- taken 54
          exact absurd rfl c54
        · -- not taken 54
          refine at_goto (tgt := 68) dX9_side_57 (by decide) ?_
          refine at_inc dX9_side_68 rfl pc_i1 rfl (Nat.le_of_ble_eq_true rfl) ?_
          refine at_goto (tgt := 40) dX9_side_71 (by decide) ?_
          rw [nI_1]
          exact ih (j + 1) _ (by omega) (hF.tr hF2) hZ2 (hA2 hk2) (fun q hq => (Nat.lt_or_eq_of_le (Nat.le_of_lt_succ hq)).elim (fun z => hno q z) (fun z => z ▸ hk2))
theorem pOp_eq : pOp (tT B n) i = if isD B n (tq B n i) = true then (if tkN B n (tq B n i) ≤ 999 then .inl (tkN B n (tq B n i)) else .inr (2, tq B n i)) else match fcOf (tkK B n (tq B n i)) with
    | some f => .inl (1000 + f)
    | none => .inr (1, tq B n i) := by
  unfold pOp
  by_cases hd : isD B n (tq B n i) = true
  · rw [if_pos hd, if_pos (show (tT B n).1 i = 18 from tkK_18.mp hd)]; rfl
  · rw [if_neg hd, if_neg (show ¬ (tT B n).1 i = 18 from fun q => hd (tkK_18.mpr q))]; rfl
theorem ev_gz_side (hR : RS R) (h : GZ I B n r ks d i) (hk : ks.length < 798) : pd_Ev G mi_X9_side 8 0 0 [.ref (pd_z G + 119)] (SD, false, I, L, R) (pd_re R fun I2 L2 => L2 = L ∧ FP I I2 ∧ SRz I2 B n r ks d i (pOp (tT B n) i)) := by
  refine pd_ev 1 (lo := [some (.ref (pd_z G + 119)), none]) (by decide +kernel) (Nat.le_of_ble_eq_true rfl) rfl ?_
  rw [pOp_eq]
  cases hd : isD B n (tq B n i) with
  | false =>
    rw [if_neg (by decide)]
    refine at_aload_n dX9_side_0 rfl ?_
    refine at_cv0 cvX9_87 sd_119 (ev_X9_fine) (by decide) ⟨Nat.le_refl _, Nat.le_refl _⟩ (Nat.le_of_ble_eq_true rfl) dX9_side_1 (pd_k1 ?_)
    rw [decide_eq_true h.2.2.1]
    refine at_ifne (tgt := 8) dX9_side_4 (by decide) (fun c4 => ?_) (fun c4 => ?_)
    · -- taken 4
      refine at_aload_n dX9_side_8 rfl ?_
      refine at_cv0 cvX9_70 sd_119 (ev_gz_here hR h) (by decide) ⟨Nat.le_refl _, Nat.le_refl _⟩ (Nat.le_of_ble_eq_true rfl) dX9_side_9 (pd_k1 ?_)
      refine at_cs1 csX9_99 (ev_X9_isDigit _) (by decide) ⟨Nat.le_refl _, Nat.le_refl _⟩ (Nat.le_of_ble_eq_true rfl) dX9_side_12 (pd_k1 ?_)
      rw [fB_D h.1, hd]
      refine at_ifeq (tgt := 38) dX9_side_15 (by decide) (fun c15 => ?_) (fun c15 => ?_)
      · -- taken 15
        refine at_iconst dX9_side_38 pc_i0 ?_
        refine at_istore_n dX9_side_39 rfl (Nat.le_of_ble_eq_true rfl) ?_
        exact lp_X9_side hR rfl hk 6 0 _ (by omega) (FP.rf.up (by decide)) h.here pd_up_at (fun q hq => absurd hq (Nat.not_lt_zero _))
      · -- not taken 15
        exact absurd rfl c15
    · -- not taken 4
      exact absurd c4 (by decide)
  | true =>
    rw [if_pos rfl]
    by_cases hb : tkN B n (tq B n i) ≤ 999
    · rw [if_pos hb]
      have hN : pNum (tT B n) i 0 999 = .inl (tkN B n (tq B n i)) := by rw [pNum_D, if_pos hd, if_pos ⟨Nat.zero_le _, hb⟩]
      have e1 : rl_o (tkN B n (tq B n i)) = [1, nI (tkN B n (tq B n i))] := by rw [rl_o, if_pos (by omega)]
      refine at_aload_n dX9_side_0 rfl ?_
      refine at_cv0 cvX9_87 sd_119 (ev_X9_fine) (by decide) ⟨Nat.le_refl _, Nat.le_refl _⟩ (Nat.le_of_ble_eq_true rfl) dX9_side_1 (pd_k1 ?_)
      rw [decide_eq_true h.2.2.1]
      refine at_ifne (tgt := 8) dX9_side_4 (by decide) (fun c4 => ?_) (fun c4 => ?_)
      · -- taken 4
        refine at_aload_n dX9_side_8 rfl ?_
        refine at_cv0 cvX9_70 sd_119 (ev_gz_here hR h) (by decide) ⟨Nat.le_refl _, Nat.le_refl _⟩ (Nat.le_of_ble_eq_true rfl) dX9_side_9 (pd_k1 ?_)
        refine at_cs1 csX9_99 (ev_X9_isDigit _) (by decide) ⟨Nat.le_refl _, Nat.le_refl _⟩ (Nat.le_of_ble_eq_true rfl) dX9_side_12 (pd_k1 ?_)
        rw [fB_D h.1, hd]
        refine at_ifeq (tgt := 38) dX9_side_15 (by decide) (fun c15 => ?_) (fun c15 => ?_)
        · -- taken 15
          exact absurd c15 (by decide)
        · -- not taken 15
          refine at_aload_n dX9_side_18 rfl ?_
          refine at_iconst dX9_side_19 pc_i0 ?_
          refine at_sipush dX9_side_20 pc_s999 ?_
          refine at_cv2 cvX9_117 sd_119 (ev_gz_num1 (lo := 0) (hi := 999) hR h.here (by decide) (by decide) hN) (by decide) ⟨Nat.le_refl _, Nat.le_refl _⟩ (Nat.le_of_ble_eq_true rfl) dX9_side_23 (pd_ki fun v I2 L2 hq => ?_)
          obtain ⟨rfl, rfl, hF2, hZ2⟩ := hq
          refine at_istore_n dX9_side_26 rfl (Nat.le_of_ble_eq_true rfl) ?_
          refine at_aload_n dX9_side_27 rfl ?_
          refine at_iconst dX9_side_28 pc_i1 ?_
          refine at_cv1 cvX9_142 sd_119 (ev_gz_tells hR hZ2 (by omega) _) (by decide) ⟨Nat.le_refl _, Nat.le_refl _⟩ (Nat.le_of_ble_eq_true rfl) dX9_side_29 (pd_ke fun I3 L3 hq3 => ?_)
          obtain ⟨rfl, hF3, hZ3⟩ := hq3
          refine at_aload_n dX9_side_32 rfl ?_
          refine at_iload_n dX9_side_33 rfl ?_
          refine at_cv1 cvX9_142 sd_119 (ev_gz_tells hR hZ3 (by simp; omega) _) (by decide) ⟨Nat.le_refl _, Nat.le_refl _⟩ (Nat.le_of_ble_eq_true rfl) dX9_side_34 (pd_ke fun I4 L4 hq4 => ?_)
          obtain ⟨rfl, hF4, hZ4⟩ := hq4
          refine at_vret rfl dX9_side_37 ?_
          exact ⟨rfl, _, _, rfl, rfl, (((FP.rf.up (by decide)).tr hF2).tr hF3).tr hF4, by show GZ _ B n r (ks ++ rl_o _) d (i + 1); rw [e1]; simpa using hZ4⟩
      · -- not taken 4
        exact absurd c4 (by decide)
    · rw [if_neg hb]
      have hN : pNum (tT B n) i 0 999 = .inr (2, tq B n i) := by rw [pNum_D, if_pos hd, if_neg (fun q => hb q.2)]
      refine at_aload_n dX9_side_0 rfl ?_
      refine at_cv0 cvX9_87 sd_119 (ev_X9_fine) (by decide) ⟨Nat.le_refl _, Nat.le_refl _⟩ (Nat.le_of_ble_eq_true rfl) dX9_side_1 (pd_k1 ?_)
      rw [decide_eq_true h.2.2.1]
      refine at_ifne (tgt := 8) dX9_side_4 (by decide) (fun c4 => ?_) (fun c4 => ?_)
      · -- taken 4
        refine at_aload_n dX9_side_8 rfl ?_
        refine at_cv0 cvX9_70 sd_119 (ev_gz_here hR h) (by decide) ⟨Nat.le_refl _, Nat.le_refl _⟩ (Nat.le_of_ble_eq_true rfl) dX9_side_9 (pd_k1 ?_)
        refine at_cs1 csX9_99 (ev_X9_isDigit _) (by decide) ⟨Nat.le_refl _, Nat.le_refl _⟩ (Nat.le_of_ble_eq_true rfl) dX9_side_12 (pd_k1 ?_)
        rw [fB_D h.1, hd]
        refine at_ifeq (tgt := 38) dX9_side_15 (by decide) (fun c15 => ?_) (fun c15 => ?_)
        · -- taken 15
          exact absurd c15 (by decide)
        · -- not taken 15
          refine at_aload_n dX9_side_18 rfl ?_
          refine at_iconst dX9_side_19 pc_i0 ?_
          refine at_sipush dX9_side_20 pc_s999 ?_
          refine at_cv2 cvX9_117 sd_119 (ev_gz_num0 (lo := 0) (hi := 999) hR h.here (by decide) (by decide) hN) (by decide) ⟨Nat.le_refl _, Nat.le_refl _⟩ (Nat.le_of_ble_eq_true rfl) dX9_side_23 (pd_ki fun v I2 L2 hq => ?_)
          obtain ⟨rfl, hF2, hZ2⟩ := hq
          refine at_istore_n dX9_side_26 rfl (Nat.le_of_ble_eq_true rfl) ?_
          refine at_aload_n dX9_side_27 rfl ?_
          refine at_iconst dX9_side_28 pc_i1 ?_
          refine at_cv1 cvX9_142 sd_119 (ev_X9_tellsF hR hZ2.nf _) (by decide) ⟨Nat.le_refl _, Nat.le_refl _⟩ (Nat.le_of_ble_eq_true rfl) dX9_side_29 (pd_k0 ?_)
          refine at_aload_n dX9_side_32 rfl ?_
          refine at_iload_n dX9_side_33 rfl ?_
          refine at_cv1 cvX9_142 sd_119 (ev_X9_tellsF hR hZ2.nf _) (by decide) ⟨Nat.le_refl _, Nat.le_refl _⟩ (Nat.le_of_ble_eq_true rfl) dX9_side_34 (pd_k0 ?_)
          refine at_vret rfl dX9_side_37 ?_
          exact ⟨rfl, _, _, rfl, rfl, (FP.rf.up (by decide)).tr hF2, hZ2⟩
      · -- not taken 4
        exact absurd c4 (by decide)
theorem ev_gz_side1 (hR : RS R) (h : GZ I B n r ks d i) (hk : ks.length < 798) {a : Nat} (hO : pOp (tT B n) i = .inl a) : pd_Ev G mi_X9_side 8 0 0 [.ref (pd_z G + 119)] (SD, false, I, L, R) (pd_re R fun I2 L2 => L2 = L ∧ FP I I2 ∧ GZ I2 B n r (ks ++ rl_o a) d (i + 1)) := by
  have h9 := ev_gz_side (G := G) (L := L) hR h hk
  rw [hO] at h9
  exact h9
theorem ev_gz_side0 (hR : RS R) (h : GZ I B n r ks d i) (hk : ks.length < 798) {z : Nat × Nat} (hO : pOp (tT B n) i = .inr z) : pd_Ev G mi_X9_side 8 0 0 [.ref (pd_z G + 119)] (SD, false, I, L, R) (pd_re R fun I2 L2 => L2 = L ∧ FP I I2 ∧ FZ I2 B n 0 z) := by
  have h9 := ev_gz_side (G := G) (L := L) hR h hk
  rw [hO] at h9
  exact h9
theorem ev_X9_partF (hR : RS R) (hf : ¬ I 119 6 = 0) : pd_Ev G mi_X9_part 2 0 0 [.ref (pd_z G + 119)] (SD, false, I, L, R) (pd_rv (SD, false, I, L, R)) := by
  refine pd_ev 2 (lo := [some (.ref (pd_z G + 119)), none, none]) (by decide +kernel) (Nat.le_of_ble_eq_true rfl) rfl ?_
  refine at_aload_n dX9_part_0 rfl ?_
  refine at_cv0 cvX9_87 sd_119 (ev_X9_fine) (by decide) ⟨Nat.le_refl _, Nat.le_refl _⟩ (Nat.le_of_ble_eq_true rfl) dX9_part_1 (pd_k1 ?_)
  rw [decide_eq_false hf]
  refine at_ifne (tgt := 8) dX9_part_4 (by decide) (fun c4 => ?_) (fun c4 => ?_)
  · -- taken 4
    exact absurd rfl c4
  · -- not taken 4
    refine at_vret rfl dX9_part_7 ?_
    exact ⟨rfl, rfl⟩
theorem ev_X9_allF (hR : RS R) (hf : ¬ I 119 6 = 0) : pd_Ev G mi_X9_all 7 0 0 [.ref (pd_z G + 119)] (SD, false, I, L, R) (pd_rv (SD, false, I, L, R)) := by
  refine pd_ev 0 (lo := [some (.ref (pd_z G + 119))]) (by decide +kernel) (Nat.le_of_ble_eq_true rfl) rfl ?_
  refine at_aload_n dX9_all_0 rfl ?_
  refine at_cv0 cvX9_161 sd_119 (ev_X9_partF hR hf) (by decide) ⟨Nat.le_refl _, Nat.le_refl _⟩ (Nat.le_of_ble_eq_true rfl) dX9_all_1 (pd_k0 ?_)
  refine at_aload_n dX9_all_4 rfl ?_
  refine at_ldcS sw9_and rfl dX9_all_5 (fun hS5 => ?_)
  refine at_cv1 cvX9_150 sd_119 (ev_X9_takesF hR hf) (by decide) ⟨Nat.le_refl _, Nat.le_refl _⟩ (Nat.le_of_ble_eq_true rfl) dX9_all_7 (pd_k1 ?_)
  refine at_ifeq (tgt := 26) dX9_all_10 (by decide) (fun c10 => ?_) (fun c10 => ?_)
  · -- taken 10
    refine at_vret rfl dX9_all_26 ?_
    exact ⟨rfl, rfl⟩
  · -- not taken 10
    exact absurd rfl c10
theorem ev_X9_anyF (hR : RS R) (hf : ¬ I 119 6 = 0) : pd_Ev G mi_X9_any 8 0 0 [.ref (pd_z G + 119)] (SD, false, I, L, R) (pd_rv (SD, false, I, L, R)) := by
  refine pd_ev 0 (lo := [some (.ref (pd_z G + 119))]) (by decide +kernel) (Nat.le_of_ble_eq_true rfl) rfl ?_
  refine at_aload_n dX9_any_0 rfl ?_
  refine at_cv0 cvX9_172 sd_119 (ev_X9_allF hR hf) (by decide) ⟨Nat.le_refl _, Nat.le_refl _⟩ (Nat.le_of_ble_eq_true rfl) dX9_any_1 (pd_k0 ?_)
  refine at_aload_n dX9_any_4 rfl ?_
  refine at_ldcS sw9_or rfl dX9_any_5 (fun hS5 => ?_)
  refine at_cv1 cvX9_150 sd_119 (ev_X9_takesF hR hf) (by decide) ⟨Nat.le_refl _, Nat.le_refl _⟩ (Nat.le_of_ble_eq_true rfl) dX9_any_7 (pd_k1 ?_)
  refine at_ifeq (tgt := 26) dX9_any_10 (by decide) (fun c10 => ?_) (fun c10 => ?_)
  · -- taken 10
    refine at_vret rfl dX9_any_26 ?_
    exact ⟨rfl, rfl⟩
  · -- not taken 10
    exact absurd rfl c10
end PAR3
