/-! ===== returns, calls, throws ===== -/
/-- q is thrown at pc, its class is E -/
def pd_Xt (G : pd_G) (mi : pd_MI) (h mc ms cs ss pc : Nat) (lo : List (Option Value)) (st : List Value) (M : pd_M) (Q : pd_O → pd_M → Prop) (E : String) : Prop :=
  ∀ (d : Nat) (p : Program) (e : Env) (s : State) (m : MethodId) (args : Array Value) (below : List Frame) (meth : Method) (c : Code) (H : Heap) (locs : List Loc) (ls : Array Slot) (q : Addr) (ce : Cell),
    h ≤ d → pd_Fr G mi p s m args meth c → va_S (fun q => pd_z G ≤ q) s.heap H locs → pd_Wd G M H → lv_has ls mi.2.2.1 (pd_as 0 lo) → H[q]? = some ce → ce.vm = .none → s.vm.findClass E = some ce.cls →
    vx_W p G.1 e (pd_rm d mc ms) s m args below meth c H locs cs ss (vx_MQ below (pd_Qc G Q) (pd_Xc G Q) args s mc ms (fun q => pd_z G ≤ q)) (F0 m pc ls st) q
/-- behind a call that ended with o -/
def pd_Kc (G : pd_G) (mi : pd_MI) (h mc ms cs ss pc : Nat) (lo : List (Option Value)) (st : List Value) (Q : pd_O → pd_M → Prop) (o : pd_O) (M : pd_M) : Prop := match o with
  | .inl none => pd_At G mi h mc ms cs ss (pc + 3) lo st M Q
  | .inl (some v) => pd_At G mi h mc ms cs ss (pc + 3) lo (v :: st) M Q
  | .inr E => pd_Xt G mi h mc ms cs ss pc lo st M Q E
def pd_rt (v : Value) (M : pd_M) : pd_O → pd_M → Prop := fun o M' => o = .inl (some v) ∧ M' = M
def pd_rv (M : pd_M) : pd_O → pd_M → Prop := fun o M' => o = .inl none ∧ M' = M
section PDC
variable {G : pd_G} {mi : pd_MI} {h mc ms cs ss pc : Nat} {lo : List (Option Value)} {st : List Value} {M : pd_M} {Q : pd_O → pd_M → Prop}
theorem pd_k1 {v : Value} {M2 : pd_M} (K : pd_At G mi h mc ms cs ss (pc + 3) lo (v :: st) M2 Q) : ∀ o M', pd_rt v M2 o M' → pd_Kc G mi h mc ms cs ss pc lo st Q o M' := fun o M' hq => by
  obtain ⟨rfl, rfl⟩ := hq; exact K
theorem pd_k0 {M2 : pd_M} (K : pd_At G mi h mc ms cs ss (pc + 3) lo st M2 Q) : ∀ o M', pd_rv M2 o M' → pd_Kc G mi h mc ms cs ss pc lo st Q o M' := fun o M' hq => by
  obtain ⟨rfl, rfl⟩ := hq; exact K
theorem pd_Qc_of {H : Heap} {s t : State} {args : Array Value} {r : Option Value} (hq : Q (.inl r) M) (hW : pd_Wd G M H) (hs : s.heap.size ≤ H.size) (ht : t.heap = H) : pd_Qc G Q args s (.returned r) t := ⟨r, M, rfl, hq, by rw [ht]; exact hW, by rw [ht]; exact hs⟩
theorem at_iret {v : Int32} (hr : mi.2.2.2.1 = some .int) (hdg : decode mi.2.1 pc = .ok (.ireturn, 1)) (hq : Q (.inl (some (.int v))) M) (hc : cs ≤ mc := by first | exact Nat.le_refl _ | omega) (hs : ss ≤ ms := by first | exact Nat.le_refl _ | omega) : pd_At G mi h mc ms cs ss pc lo [.int v] M Q := fun d p e s m args below meth c H locs ls hd F hS hW hl =>
  vx_ret (W.widen hc hs (W.iret F.1 F.2.1 (F.2.2.1.trans hr) (fun t ht _ => pd_Qc_of hq hW hS.1 ht) hS.2.2 hdg F.2.2.2.2.2.2.1))
theorem at_zret {v : Int32} (hr : mi.2.2.2.1 = some .boolean) (hdg : decode mi.2.1 pc = .ok (.ireturn, 1)) (hv : v = 0 ∨ v = 1) (hq : Q (.inl (some (.int v))) M) (hc : cs ≤ mc := by first | exact Nat.le_refl _ | omega) (hs : ss ≤ ms := by first | exact Nat.le_refl _ | omega) : pd_At G mi h mc ms cs ss pc lo [.int v] M Q := fun d p e s m args below meth c H locs ls hd F hS hW hl =>
  vx_ret (W.widen hc hs (W.zret F.1 F.2.1 (F.2.2.1.trans hr) (by rcases hv with rfl | rfl <;> decide) (fun t ht _ => pd_Qc_of hq hW hS.1 ht) hS.2.2 hdg F.2.2.2.2.2.2.1))
theorem at_lret {v : Int64} (hr : mi.2.2.2.1 = some .long) (hdg : decode mi.2.1 pc = .ok (.lreturn, 1)) (hq : Q (.inl (some (.long v))) M) (hc : cs ≤ mc := by first | exact Nat.le_refl _ | omega) (hs : ss ≤ ms := by first | exact Nat.le_refl _ | omega) : pd_At G mi h mc ms cs ss pc lo [.long v] M Q := fun d p e s m args below meth c H locs ls hd F hS hW hl =>
  vx_ret (W.widen hc hs (W.lret F.1 F.2.1 (F.2.2.1.trans hr) (fun t ht _ => pd_Qc_of hq hW hS.1 ht) hS.2.2 hdg F.2.2.2.2.2.2.1))
theorem at_vret (hr : mi.2.2.2.1 = none) (hdg : decode mi.2.1 pc = .ok (.return_, 1)) (hq : Q (.inl none) M) (hc : cs ≤ mc := by first | exact Nat.le_refl _ | omega) (hs : ss ≤ ms := by first | exact Nat.le_refl _ | omega) : pd_At G mi h mc ms cs ss pc lo [] M Q := fun d p e s m args below meth c H locs ls hd F hS hW hl =>
  vx_ret (W.widen hc hs (W.vret F.1 F.2.1 (F.2.2.1.trans hr) (fun t ht _ => pd_Qc_of hq hW hS.1 ht) hS.2.2 hdg F.2.2.2.2.2.2.1))
theorem at_aret {a : Nat} {rt : FieldType} (hr : mi.2.2.2.1 = some rt) (hrt : (∃ n, rt = .object n) ∨ ∃ t, rt = .array t) (hdg : decode mi.2.1 pc = .ok (.areturn, 1)) (hq : Q (.inl (some (.ref a))) M) (hc : cs ≤ mc := by first | exact Nat.le_refl _ | omega) (hs : ss ≤ ms := by first | exact Nat.le_refl _ | omega) : pd_At G mi h mc ms cs ss pc lo [.ref a] M Q := fun d p e s m args below meth c H locs ls hd F hS hW hl =>
  vx_ret (W.widen hc hs (W.aret F.1 F.2.1 (F.2.2.1.trans hr) hrt (Or.inr ⟨a, rfl⟩) (fun t ht _ => pd_Qc_of hq hW hS.1 ht) hS.2.2 hdg F.2.2.2.2.2.2.1))
/-- it leaves the method -/
theorem at_out {E : String} (hout : mi.2.2.2.2 = []) (hq : Q (.inr E) M) (hc : cs ≤ mc := by first | exact Nat.le_refl _ | omega) (hs : ss ≤ ms := by first | exact Nat.le_refl _ | omega) : pd_Xt G mi h mc ms cs ss pc lo st M Q E := fun d p e s m args below meth c H locs ls q ce hd F hS hW hl hce hcv hcl =>
  vx_out (by rw [F.2.2.2.2.2.2.2.2.2.2.1, hout]; intro x hx; cases hx) F.2.2.2.2.2.2.1 hce hcv hcl (fun t ht _ => ⟨M, hq, by rw [ht]; exact hW, by rw [ht]; exact hS.1⟩) hS.2.2 hc hs
/-- the words of a call -/
def pd_CB (mi' : pd_MI) (n : Nat) : Prop := pd_hd mi' ∈ pd_TB ∧ Cond.initialized mi'.1.cls ∈ pd_TB ∧ (mi'.1.cls ≠ "java/lang/invoke/MethodHandle" ∧ mi'.1.cls ≠ "java/lang/invoke/VarHandle") ∧ (parseMethodDescriptor mi'.1.desc).map (fun d => d.parameters.length) = some n ∧ mi'.2.2.1 ≤ 80 ∧ mi'.2.2.2.2 = []
theorem pd_good {mi' : pd_MI} (h1 : pd_hd mi' ∈ pd_TB) : ∀ w ∈ pd_hd mi' :: pd_TB, w ∈ pd_TB ∧ ((w.onTables && w.keeps) = true ∨ ∃ ty, w = .arrayClass ty) := fun w hw => by
  have hm : w ∈ pd_TB := (List.mem_cons.mp hw).elim (fun e => by rw [e]; exact h1) id
  exact ⟨hm, good_of_word (List.mem_filter.mp hm).2⟩
theorem pd_callB {mi' : pd_MI} {n d mc' ms' : Nat} {R : Room} {s : State} {args : Array Value} {own : String} {idx : Nat} (hc : pd_CB mi' n) (hts : ∀ w ∈ pd_TB, w.before args s = true) (hl : Cond.methodLink own idx mi'.1 ∈ pd_TB) (hf : d + 1 ≤ R.frames) (hlo : 100 * (d + 1) ≤ R.locals) :
    CallB R s args own idx mi'.1 mi'.2.1 mi'.2.2.1 mi'.2.2.2.1 (pd_hd mi' :: pd_TB) (pd_rm d mc' ms') mc' ms' n := by
  have hhd : pd_hd mi' = .code mi'.1 mi'.2.1 mi'.2.2.1 mi'.2.2.2.1 := by unfold pd_hd; rw [hc.2.2.2.2.2]
  refine ⟨rfl, rfl, hf, ?_, pay_in hts (pd_good hc.1), by rw [hhd]; exact List.mem_cons_self, by rw [← hhd]; exact hts _ hc.1, hts _ hc.2.1, hc.2.2.1, fun sig hsig => ?_, hts _ hl⟩
  · have h1 := hc.2.2.2.2.1
    show 8 + (mi'.2.2.1 + 11) + 100 * d ≤ R.locals
    omega
  · have h2 := hc.2.2.2.1
    rw [hsig] at h2
    exact (Option.some.inj h2).symm
theorem pd_blind (av : List Value) (M : pd_M) : FrameBlind (pd_Pc G av M) := fun a U g mk q => q
theorem pd_vS {H H1 : Heap} {s : State} {locs L : List Loc} {M : pd_M} (hS : va_S (fun q => pd_z G ≤ q) s.heap H locs) (hs : ∀ q, q < pd_z G → s.heap[q]? = G.2.2.2.1.heap[q]?) (hz : H.size ≤ H1.size) (hW : pd_Wd G M H1) (hL : ∀ q ∈ L, pd_z G ≤ q.base) : va_S (fun q => pd_z G ≤ q) s.heap H1 (locs ++ L) :=
  ⟨Nat.le_trans hS.1 hz, fun q h1 h2 => (hW.2.1 q (Nat.not_le.mp h2)).trans (hs q (Nat.not_le.mp h2)).symm, fun q hq => (List.mem_append.mp hq).elim (hS.2.2 q) (hL q)⟩
/-- what a call's run gives -/
theorem pd_run {d mc' ms' : Nat} {p : Program} {e : Env} {s : State} {m : MethodId} {args : Array Value} {below : List Frame} {meth : Method} {c : Code} {H : Heap} {locs : List Loc} {ls : Array Slot} {st0 : List Value} {a : Array Value} {Q' : pd_O → pd_M → Prop} (hd : h ≤ d) (F : pd_Fr G mi p s m args meth c) (hS : va_S (fun q => pd_z G ≤ q) s.heap H locs) (hl : lv_has ls mi.2.2.1 (pd_as 0 lo))
    (hr : vx_Run p G.1 e (pd_rm d mc ms) s m args below meth c H locs cs ss mc' ms' (F0 m pc ls st0) st (pd_Qc G Q' a) (pd_Xc G Q') (fun q => pd_z G ≤ q)) (K : ∀ o M', Q' o M' → pd_Kc G mi h mc ms (cs + mc') (ss + ms') pc lo st Q o M') :
    W p G.1 e (pd_rm d mc ms) s m args below meth c H locs cs ss (vx_MQ below (pd_Qc G Q) (pd_Xc G Q) args s mc ms (fun q => pd_z G ≤ q)) (F0 m pc ls st0) := by
  have hbase := F.2.2.2.2.2.2.2.2.2.2.2.2.2
  intro T hT X
  rcases hr T hT X with ⟨v, st₀, t, T', L, h0, X', hL, e1, e2, ⟨r, M', hv, hQ, hWd, hz⟩, stp⟩ | ⟨q, st₀, t, T', L, E, ce, h0, X', hL, e1, e2, ⟨M', hQ, hWd, hz⟩, hce, hcv, hcl, stp⟩
  · cases hv
    rw [h0] at hz
    rw [← e1] at hWd hz
    have hS' := pd_vS hS hbase hz hWd hL
    have K1 := K _ _ hQ
    cases v with
    | none =>
      obtain ⟨t2, a1, b1⟩ := K1 d p e s m args below meth c T'.heap (locs ++ L) ls hd F hS' hWd hl T' rfl X'
      exact ⟨t2, stp t2 a1, b1⟩
    | some v =>
      obtain ⟨t2, a1, b1⟩ := K1 d p e s m args below meth c T'.heap (locs ++ L) ls hd F hS' hWd hl T' rfl X'
      exact ⟨t2, stp t2 a1, b1⟩
  · rw [h0] at hz
    rw [← e1] at hWd hz hce
    have hS' := pd_vS hS hbase hz hWd hL
    obtain ⟨t2, a1, b1⟩ := K _ _ hQ d p e s m args below meth c T'.heap (locs ++ L) ls q ce hd F hS' hWd hl hce hcv hcl T' rfl X'
    exact ⟨t2, stp.trans a1, b1⟩
def pd_CV (own : String) (idx : Nat) (mi' : pd_MI) (n ci : Nat) : Prop := pd_CB mi' n ∧ Cond.methodLink own idx mi'.1 ∈ pd_TB ∧ Cond.instanceMethod mi'.1 ∈ pd_TB ∧ Cond.selects mi'.1.cls mi'.1 mi'.1 ∈ pd_TB ∧ ∃ q : vw_C, pd_cl[ci]? = some q ∧ q.1 = mi'.1.cls ∧ ci < 9
theorem at_callV {mi' : pd_MI} {h' mc' ms' idx n ci k n0 : Nat} {As : List Value} {S : List (Nat × Nat)} {fx : Bool} {I L R} {Q' : pd_O → pd_M → Prop} (hc : pd_CV mi.1.cls idx mi' n ci) (hn : As.length = n) (hs : S[k]? = some (ci, n0)) (hE : pd_Ev G mi' h' mc' ms' (.ref (pd_z G + k) :: As) (S, fx, I, L, R) Q') (hh : h' + 1 ≤ h) (hb : cs + mc' ≤ mc ∧ ss + ms' ≤ ms) (hst : (st.map fun v => v.category).sum ≤ 8) (hdg : decode mi.2.1 pc = .ok (.invokevirtual idx, 3))
    (K : ∀ o M', Q' o M' → pd_Kc G mi h mc ms (cs + mc') (ss + ms') pc lo st Q o M') : pd_At G mi h mc ms cs ss pc lo (As.reverse ++ .ref (pd_z G + k) :: st) (S, fx, I, L, R) Q := by
  intro d p e s m args below meth c H locs ls hd F hS hW hl
  obtain ⟨hcb, hlk, hin, hse, q, hq1, hq2, hq3⟩ := hc
  have hts := F.2.2.2.2.2.1
  have he := pd_ws_get (G := G) (I := I) (L := L) (R := R) hs
  rw [pd_ce_obj hq3] at he
  have hrecv := va_recv F.2.2.2.2.2.2.2.2.2.1 hW.1 hq1 he
  rw [hq2] at hrecv
  refine pd_run (mc' := mc') (ms' := ms') hd F hS hl (vx_runV ⟨F.1, F.2.1, F.2.2.2.1, F.2.2.2.2.1, hts⟩ (hE (d - 1) (by omega)) ⟨pd_callB hcb hts hlk (by show d - 1 + 1 ≤ d; omega) (by show 100 * (d - 1 + 1) ≤ 100 * d; omega), hts _ hin, hts _ hse⟩ ⟨pd_blind _ _, hrecv, fun U hU hWm => ⟨rfl, F.2.2.2.2.2.2.2.1, State.WarmedH.trans F.2.2.2.2.2.2.2.2.1 hWm, by rw [hU]; exact hW⟩⟩ rfl hn hl.1 rfl (lv_room hst) hdg hb) K
def pd_CS (own : String) (idx : Nat) (mi' : pd_MI) (n : Nat) : Prop := pd_CB mi' n ∧ Cond.methodLink own idx mi'.1 ∈ pd_TB ∧ Cond.static mi'.1 ∈ pd_TB
theorem at_callS {mi' : pd_MI} {h' mc' ms' idx n : Nat} {As : List Value} {Q' : pd_O → pd_M → Prop} (hc : pd_CS mi.1.cls idx mi' n) (hn : As.length = n) (hE : pd_Ev G mi' h' mc' ms' As M Q') (hh : h' + 1 ≤ h) (hb : cs + mc' ≤ mc ∧ ss + ms' ≤ ms) (hst : (st.map fun v => v.category).sum ≤ 8) (hdg : decode mi.2.1 pc = .ok (.invokestatic idx, 3))
    (K : ∀ o M', Q' o M' → pd_Kc G mi h mc ms (cs + mc') (ss + ms') pc lo st Q o M') : pd_At G mi h mc ms cs ss pc lo (As.reverse ++ st) M Q := by
  intro d p e s m args below meth c H locs ls hd F hS hW hl
  obtain ⟨hcb, hlk, hstt⟩ := hc
  have hts := F.2.2.2.2.2.1
  refine pd_run (mc' := mc') (ms' := ms') hd F hS hl (vx_runS ⟨F.1, F.2.1, F.2.2.2.1, F.2.2.2.2.1, hts⟩ (hE (d - 1) (by omega)) ⟨pd_callB hcb hts hlk (by show d - 1 + 1 ≤ d; omega) (by show 100 * (d - 1 + 1) ≤ 100 * d; omega), hts _ hstt⟩ ⟨pd_blind _ _, fun U hU hWm => ⟨rfl, F.2.2.2.2.2.2.2.1, State.WarmedH.trans F.2.2.2.2.2.2.2.2.1 hWm, by rw [hU]; exact hW⟩⟩ rfl hn hl.1 rfl (lv_room hst) hdg hb) K
end PDC
