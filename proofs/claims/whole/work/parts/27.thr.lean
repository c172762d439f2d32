/-! ===== throws and handlers ===== -/
/-- words of the start's tables that hold at every later state -/
def pd_okw (w : Cond) : Bool := goodWord w || (match w with | .declares _ => true | .castable _ _ => true | _ => false)
theorem pd_word {G : pd_G} {mi : pd_MI} {p : Program} {s : State} {m : MethodId} {args : Array Value} {meth : Method} {c : Code} (F : pd_Fr G mi p s m args meth c) {w : Cond} (hw : w ∈ lw_tbl) (hk : pd_okw w = true) : w.before args s = true := by
  by_cases hg : goodWord w = true
  · exact F.2.2.2.2.2.1 w (List.mem_filter.mpr ⟨hw, hg⟩)
  · have h0 := F.2.2.2.2.2.2.2.1.2.2.1 w hw
    have hW := F.2.2.2.2.2.2.2.2.1
    simp only [pd_okw, hg, Bool.false_or] at hk
    split at hk
    · exact va_Nw.use rfl (va_Nw.warmD hW (va_Nw.of rfl h0))
    · exact va_Nw.use rfl (va_Nw.warmC hW (va_Nw.of rfl h0))
    · cases hk
theorem pd_words {G : pd_G} {mi : pd_MI} {p : Program} {s : State} {m : MethodId} {args : Array Value} {meth : Method} {c : Code} (F : pd_Fr G mi p s m args meth c) {ws : List Cond} (h : ws.all (fun w => decide (w ∈ lw_tbl) && pd_okw w) = true) : ∀ w ∈ ws, w.before args s = true := fun w hw => by
  have h1 := List.all_eq_true.mp h w hw
  simp only [Bool.and_eq_true, decide_eq_true_eq] at h1
  exact pd_word F h1.1 h1.2
theorem pd_given {G : pd_G} (h : pd_OK G) {w : Cond} (hw : w ∈ flatC (Jvm.Cond.and given_1 narrow_1)) : w.before #[Value.ref G.2.2.2.2] G.2.2.2.1 = true := flat_of_before _ h.2.2.2 w hw
theorem pd_notrace {G : pd_G} (h : pd_OK G) : G.1.stackTraces = false := by unfold Launch.stackTraces; rw [h.2.1]; decide +kernel
set_option maxRecDepth 100000 in
theorem pd_zu_w : Cond.laysStatic Bundle.tN "UNASSIGNED_STACK" Bundle.steD ∈ lw_tbl ∧ Cond.laysStatic Bundle.tN "SUPPRESSED_SENTINEL" Bundle.listD ∈ lw_tbl ∧ Cond.initialized Bundle.tN ∈ lw_tbl ∧ Cond.isRef (.static Bundle.tN "UNASSIGNED_STACK" Bundle.steD) ∈ flatC (Jvm.Cond.and given_1 narrow_1) ∧ Cond.isRef (.static Bundle.tN "SUPPRESSED_SENTINEL" Bundle.listD) ∈ flatC (Jvm.Cond.and given_1 narrow_1) := ⟨by decide +kernel, by decide +kernel, by decide +kernel, by decide +kernel, by decide +kernel⟩
theorem pd_zq {G : pd_G} {mi : pd_MI} {p : Program} {s : State} {m : MethodId} {args : Array Value} {meth : Method} {c : Code} (F : pd_Fr G mi p s m args meth c) : vx_Zq Bundle.tN "UNASSIGNED_STACK" Bundle.steD (fun q => pd_z G ≤ q) s s.heap ∧ vx_Zq Bundle.tN "SUPPRESSED_SENTINEL" Bundle.listD (fun q => pd_z G ≤ q) s s.heap := by
  have hOK := F.2.2.2.2.2.2.2.1
  have hA : ∀ a : Nat, a < G.2.2.2.1.heap.size → ¬ pd_z G ≤ a := fun a h => Nat.not_le.mpr h
  have hb := F.2.2.2.2.2.2.2.2.2.2.2.2.2
  have hq : ∀ a : Nat, a < G.2.2.2.1.heap.size → ¬ pd_z G ≤ a → s.heap[a]? = G.2.2.2.1.heap[a]? := fun a h _ => hb a h
  have al := F.2.2.2.2.2.2.2.2.1.alike
  exact ⟨((vx_Zqof (hOK.2.2.1 _ pd_zu_w.1) (hOK.2.2.1 _ pd_zu_w.2.2.1) (pd_given hOK pd_zu_w.2.2.2.1) hA).kept hq).moved al, ((vx_Zqof (hOK.2.2.1 _ pd_zu_w.2.1) (hOK.2.2.1 _ pd_zu_w.2.2.1) (pd_given hOK pd_zu_w.2.2.2.2) hA).kept hq).moved al⟩
theorem pd_str {G : pd_G} {mi : pd_MI} {p : Program} {s : State} {m : MethodId} {args : Array Value} {meth : Method} {c : Code} (F : pd_Fr G mi p s m args meth c) {own tx : String} {k : Nat} (h1 : Cond.stringRef own k tx ∈ lw_tbl) (h2 : Cond.exactly (.string own k) "java/lang/String" ∈ flatC (Jvm.Cond.and given_1 narrow_1)) : ∃ a, vk_R own k tx a s := by
  have hOK := F.2.2.2.2.2.2.2.1
  obtain ⟨a, c0, cA, kA, q1, -⟩ := Cond.exactly_spec (args := #[Value.ref G.2.2.2.2]) (first := G.2.2.2.1) (o := none) (s := G.2.2.2.1) (idx := []) (pd_given hOK h2)
  exact ⟨a, vk_R.warm F.2.2.2.2.2.2.2.2.1 (vk_R.of (hOK.2.2.1 _ h1) q1)⟩
theorem at_throwW {G : pd_G} {mi : pd_MI} {h mc ms cs ss pc : Nat} {lo : List (Option Value)} {st : List Value} {Q : pd_O → pd_M → Prop} {S : List (Nat × Nat)} {fx : Bool} {I L R} {cls text : String} {ik is ic : Nat} (hcls : Bundle.fit cls = true) (hk : Cond.classLink mi.1.cls ik cls ∈ lw_tbl ∧ Cond.initialized cls ∈ lw_tbl) (hstr : Cond.stringRef mi.1.cls is text ∈ lw_tbl ∧ Cond.exactly (.string mi.1.cls is) "java/lang/String" ∈ flatC (Jvm.Cond.and given_1 narrow_1))
    (hat : (vx_atS mi.1.cls ic cls ["java/lang/RuntimeException", "java/lang/Exception"]).all (fun w => decide (w ∈ lw_tbl) && pd_okw w) = true) (hgood : (Cond.classLink mi.1.cls ik cls :: Cond.initialized cls :: vx_atS mi.1.cls ic cls ["java/lang/RuntimeException", "java/lang/Exception"]).all vx_ot = true)
    (d0 : decode mi.2.1 pc = .ok (.new ik, 3)) (d3 : decode mi.2.1 (pc + 3) = .ok (.dup, 1)) (d4 : decode mi.2.1 (pc + 4) = .ok (.ldc_w is, 3)) (d7 : decode mi.2.1 (pc + 7) = .ok (.invokespecial ic, 3)) (d10 : decode mi.2.1 (pc + 10) = .ok (.athrow, 1)) (hout : mi.2.2.2.2 = []) (hh : 6 ≤ h) (hst : (st.map fun v => v.category).sum ≤ 8) (hb : cs + 1 ≤ mc ∧ ss + 6 ≤ ms) (hq : Q (.inr cls) (S, false, I, L, R)) : pd_At G mi h mc ms cs ss pc lo st (S, fx, I, L, R) Q := by
  intro d p e s m args below meth c H locs ls hd F hS hW hlv
  obtain ⟨sa, hsa⟩ := pd_str F hstr.1 hstr.2
  have hz := pd_zq F
  have hkw : goodWord (Cond.classLink mi.1.cls ik cls) = true := rfl
  refine vx_throwSW (names := ["java/lang/RuntimeException", "java/lang/Exception"]) F.1 F.2.1 (pd_notrace F.2.2.2.2.2.2.2.1) F.2.2.2.2.1 hcls (by decide) (pd_word F hk.1 rfl) (pd_word F hk.2 rfl) hsa (pd_words F hat) (List.all_eq_true.mp hgood) hz.1 hz.2 hS (hlv.1.trans F.2.2.2.1.symm) d0 d3 d4 d7 d10 (by rw [F.2.2.2.2.2.2.2.2.2.2.1, hout]; intro x hx; cases hx) (by show 2 + 3 < d; omega) (by show _ + (13 * (2 + 1) + 43) ≤ 100 * d; omega) hb.1 hb.2 F.2.2.2.2.2.2.1 (fun t _ ht1 ht2 => ?_) hS.2.2 hb.1 hb.2
  refine ⟨(S, false, I, L, R), hq, ⟨hW.1.kept (fun k q hk => ht2 q.1 ((hW.1 k q hk).lt)), fun q hq => ?_, Nat.le_trans hW.2.2.1 ht1, fun hf => by cases hf⟩, Nat.le_trans hS.1 ht1⟩
  rw [ht2 q (by have := hW.2.2.1; omega)]; exact hW.2.1 q hq
/-- refused or not -/
def pd_rq (b : Int32) (E : String) (M M' : pd_M) : pd_O → pd_M → Prop := fun o M2 => if b = 0 then o = .inr E ∧ M2 = M' else o = .inl none ∧ M2 = M
theorem at_throwN {G : pd_G} {mi : pd_MI} {h mc ms cs ss pc : Nat} {lo : List (Option Value)} {st : List Value} {Q : pd_O → pd_M → Prop} {S : List (Nat × Nat)} {fx : Bool} {I L R} {cls text : String} {ik is ic : Nat} (hcls : Bundle.fit cls = true) (hk : Cond.classLink mi.1.cls ik cls ∈ lw_tbl ∧ Cond.initialized cls ∈ lw_tbl) (hstr : Cond.stringRef mi.1.cls is text ∈ lw_tbl ∧ Cond.exactly (.string mi.1.cls is) "java/lang/String" ∈ flatC (Jvm.Cond.and given_1 narrow_1))
    (hat : (nx_atS mi.1.cls ic cls).all (fun w => decide (w ∈ lw_tbl) && pd_okw w) = true) (hgood : (Cond.classLink mi.1.cls ik cls :: Cond.initialized cls :: nx_atS mi.1.cls ic cls).all vx_ot = true)
    (d0 : decode mi.2.1 pc = .ok (.new ik, 3)) (d3 : decode mi.2.1 (pc + 3) = .ok (.dup, 1)) (d4 : decode mi.2.1 (pc + 4) = .ok (.ldc_w is, 3)) (d7 : decode mi.2.1 (pc + 7) = .ok (.invokespecial ic, 3)) (d10 : decode mi.2.1 (pc + 10) = .ok (.athrow, 1)) (hout : mi.2.2.2.2 = []) (hh : 6 ≤ h) (hst : (st.map fun v => v.category).sum ≤ 8) (hb : cs + 1 ≤ mc ∧ ss + 6 ≤ ms) (hq : Q (.inr cls) (S, false, I, L, R)) : pd_At G mi h mc ms cs ss pc lo st (S, fx, I, L, R) Q := by
  intro d p e s m args below meth c H locs ls hd F hS hW hlv
  obtain ⟨sa, hsa⟩ := pd_str F hstr.1 hstr.2
  have hz := pd_zq F
  refine nx_throwSW F.1 F.2.1 (pd_notrace F.2.2.2.2.2.2.2.1) F.2.2.2.2.1 hcls (pd_word F hk.1 rfl) (pd_word F hk.2 rfl) hsa (pd_words F hat) (List.all_eq_true.mp hgood) hz.1 hz.2 hS (hlv.1.trans F.2.2.2.1.symm) d0 d3 d4 d7 d10 (by rw [F.2.2.2.2.2.2.2.2.2.2.1, hout]; intro x hx; cases hx) (by show 2 + 3 < d; omega) (by show _ + (13 * (2 + 1) + 43) ≤ 100 * d; omega) hb.1 hb.2 F.2.2.2.2.2.2.1 (fun t _ ht1 ht2 => ?_) hS.2.2 hb.1 hb.2
  refine ⟨(S, false, I, L, R), hq, ⟨hW.1.kept (fun k q hk => ht2 q.1 ((hW.1 k q hk).lt)), fun q hq => ?_, Nat.le_trans hW.2.2.1 ht1, fun hf => by cases hf⟩, Nat.le_trans hS.1 ht1⟩
  rw [ht2 q (by have := hW.2.2.1; omega)]; exact hW.2.1 q hq
set_option maxRecDepth 100000 in
theorem ev_X8_requireFound {G : pd_G} {I L R} (b : Int32) : pd_Ev G mi_X8_requireFound 6 1 6 [.ref (pd_z G + 0), .int b] (SD, false, I, L, R) (pd_rq b "java/util/NoSuchElementException" (SD, false, I, L, R) (SD, false, pd_up I 0 8 (I 0 8 + 1), L, R)) := by
  refine pd_ev 0 (lo := [some (.ref (pd_z G + 0)), some (.int b)]) (by decide +kernel) (Nat.le_of_ble_eq_true rfl) rfl ?_
  refine at_iload_n dX8_requireFound_0 rfl ?_
  refine at_ifne (tgt := 25) dX8_requireFound_1 (by decide) (fun c1 => ?_) (fun c1 => ?_)
  · -- taken 1
    refine at_vret rfl dX8_requireFound_25 ?_
    exact (if_neg c1).mpr ⟨rfl, rfl⟩
  · -- not taken 1
    refine at_aload_n dX8_requireFound_4 rfl ?_
    refine at_dup dX8_requireFound_5 rfl ?_
    refine at_geti flX8_281 rfl sd_0 dX8_requireFound_6 ?_
    refine at_iconst dX8_requireFound_9 pc_i1 ?_
    refine at_iadd dX8_requireFound_10 ?_
    refine at_puti flX8_281 rfl sd_0 (fun _ _ _ hq => by cases hq; rfl) dX8_requireFound_11 ?_
    exact at_throwN (text := "no such sheet, line, voter or letter") (by decide +kernel) ⟨by decide +kernel, by decide +kernel⟩ ⟨by decide +kernel, by decide +kernel⟩ (by decide +kernel) (by decide +kernel) dX8_requireFound_14 dX8_requireFound_17 dX8_requireFound_18 dX8_requireFound_21 dX8_requireFound_24 rfl (by decide) (by decide) ⟨by decide, by decide⟩ ((if_pos c1).mpr ⟨rfl, rfl⟩)
set_option maxRecDepth 100000 in
theorem ev_X8_requireArgument {G : pd_G} {I L R} (b : Int32) : pd_Ev G mi_X8_requireArgument 6 1 6 [.ref (pd_z G + 0), .int b] (SD, false, I, L, R) (pd_rq b "java/lang/IllegalArgumentException" (SD, false, I, L, R) (SD, false, pd_up I 0 9 (I 0 9 + 1), L, R)) := by
  refine pd_ev 0 (lo := [some (.ref (pd_z G + 0)), some (.int b)]) (by decide +kernel) (Nat.le_of_ble_eq_true rfl) rfl ?_
  refine at_iload_n dX8_requireArgument_0 rfl ?_
  refine at_ifne (tgt := 25) dX8_requireArgument_1 (by decide) (fun c1 => ?_) (fun c1 => ?_)
  · -- taken 1
    refine at_vret rfl dX8_requireArgument_25 ?_
    exact (if_neg c1).mpr ⟨rfl, rfl⟩
  · -- not taken 1
    refine at_aload_n dX8_requireArgument_4 rfl ?_
    refine at_dup dX8_requireArgument_5 rfl ?_
    refine at_geti flX8_284 rfl sd_0 dX8_requireArgument_6 ?_
    refine at_iconst dX8_requireArgument_9 pc_i1 ?_
    refine at_iadd dX8_requireArgument_10 ?_
    refine at_puti flX8_284 rfl sd_0 (fun _ _ _ hq => by cases hq; rfl) dX8_requireArgument_11 ?_
    exact at_throwW (text := "a number that is none such") (by decide +kernel) ⟨by decide +kernel, by decide +kernel⟩ ⟨by decide +kernel, by decide +kernel⟩ (by decide +kernel) (by decide +kernel) dX8_requireArgument_14 dX8_requireArgument_17 dX8_requireArgument_18 dX8_requireArgument_21 dX8_requireArgument_24 rfl (by decide) (by decide) ⟨by decide, by decide⟩ ((if_pos c1).mpr ⟨rfl, rfl⟩)
set_option maxRecDepth 100000 in
theorem ev_X8_requireState {G : pd_G} {I L R} (b : Int32) : pd_Ev G mi_X8_requireState 6 1 6 [.ref (pd_z G + 0), .int b] (SD, false, I, L, R) (pd_rq b "java/lang/IllegalStateException" (SD, false, I, L, R) (SD, false, pd_up I 0 10 (I 0 10 + 1), L, R)) := by
  refine pd_ev 0 (lo := [some (.ref (pd_z G + 0)), some (.int b)]) (by decide +kernel) (Nat.le_of_ble_eq_true rfl) rfl ?_
  refine at_iload_n dX8_requireState_0 rfl ?_
  refine at_ifne (tgt := 25) dX8_requireState_1 (by decide) (fun c1 => ?_) (fun c1 => ?_)
  · -- taken 1
    refine at_vret rfl dX8_requireState_25 ?_
    exact (if_neg c1).mpr ⟨rfl, rfl⟩
  · -- not taken 1
    refine at_aload_n dX8_requireState_4 rfl ?_
    refine at_dup dX8_requireState_5 rfl ?_
    refine at_geti flX8_287 rfl sd_0 dX8_requireState_6 ?_
    refine at_iconst dX8_requireState_9 pc_i1 ?_
    refine at_iadd dX8_requireState_10 ?_
    refine at_puti flX8_287 rfl sd_0 (fun _ _ _ hq => by cases hq; rfl) dX8_requireState_11 ?_
    exact at_throwW (text := "not as things stand") (by decide +kernel) ⟨by decide +kernel, by decide +kernel⟩ ⟨by decide +kernel, by decide +kernel⟩ (by decide +kernel) (by decide +kernel) dX8_requireState_14 dX8_requireState_17 dX8_requireState_18 dX8_requireState_21 dX8_requireState_24 rfl (by decide) (by decide) ⟨by decide, by decide⟩ ((if_pos c1).mpr ⟨rfl, rfl⟩)
