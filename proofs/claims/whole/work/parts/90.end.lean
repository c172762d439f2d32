/-! ===== the end ===== -/
section KN3
variable {s : State} {b : Nat}
theorem kn_aa (h : (Cond.arrayOver (.array .int)).before #[Value.ref b] s = true) : ∃ cA : ClassId, ArrOfT s cA (.array .int) ∧ va_RA s cA (.array .int) := by
  obtain ⟨comp, c, k, h1, -, h2, h3, h4⟩ := arrayOverA_spec h
  exact ⟨c, fun n z => ⟨(fun _ h => by cases h), k, h2, comp, h3⟩, h4⟩
theorem aw_i : Cond.arrayClass .int ∈ lw_tbl := by decide +kernel
theorem aw_b : Cond.arrayClass .byte ∈ lw_tbl := by decide +kernel
theorem aw_l : Cond.arrayClass .long ∈ lw_tbl := by decide +kernel
theorem aw_p : Cond.arrayOver (.object "PetitionDesk$Petition") ∈ lw_tbl := by decide +kernel
theorem kn_tc (l : Launch) (D : va_G) (hts : ∀ w ∈ lw_tbl, w.before #[Value.ref b] s = true) : ∃ tc : Nat → ClassId, ∀ (k : Nat) (q : ClassId × FieldType), (pd_tys (l, D, tc, s, b))[k]? = some q → ArrOfT s q.1 q.2 ∧ va_RA s q.1 q.2 := by
  obtain ⟨c0, a0, n0⟩ := kn_ac (hts _ aw_i)
  obtain ⟨c1, a1, n1⟩ := kn_ac (hts _ aw_b)
  obtain ⟨c2, a2, n2⟩ := kn_ac (hts _ aw_l)
  obtain ⟨c3, a3, n3⟩ := kn_ao (hts _ aw_p)
  obtain ⟨c4, a4, n4⟩ := kn_aa (hts _ aw_ii)
  refine ⟨fun i => match i with | 0 => c0 | 1 => c1 | 2 => c2 | 3 => c3 | _ => c4, fun k q hk => ?_⟩
  rcases k with _ | _ | _ | _ | _ | k
  · cases hk; exact ⟨a0, n0⟩
  · cases hk; exact ⟨a1, n1⟩
  · cases hk; exact ⟨a2, n2⟩
  · cases hk; exact ⟨a3, n3⟩
  · cases hk; exact ⟨a4, n4⟩
  · cases hk
end KN3
def R_law : String := "PetitionDeskLaw"
def lw_P (b : Addr) (xs : List Int32) (args : Array Value) (s : State) : Prop := args = #[.ref b] ∧ s.IntsAt b xs ∧ xs.length ≤ 3072 ∧ (Jvm.Cond.and given_1 narrow_1).before args s = true
def lw_Q (_ : Array Value) (s : State) (o : Outcome) (t : State) : Prop := o = .returned (some (.int 1)) ∧ Framed s o t [] 601024 7293034
def lw_Z (below : List Frame) (a : Array Value) (s : State) : State → Prop := fun t => ∃ o, t.status = .running ∧ Ended t below o ∧ lw_Q a s o t
/-- what holds at the law's entry (the skeleton's, and: the body has no handlers, its name) -/
def lw_At (p : Program) (s : State) (m : MethodId) (meth : Method) (c : Code) (b L : Nat) (xs : Nat → Int32) : Prop :=
  p.tables.exec = Jvm.exec ∧ c.code = code ∧ meth.sig.returnType = ret ∧ c.maxLocals = 8 ∧ s.vm.findClass R_law = some m.cls ∧ (∀ w ∈ lw_tbl, w.before #[Value.ref b] s = true) ∧ va_X b L xs s s.heap ∧ b < s.heap.size ∧ meth.locks = false ∧ (Jvm.Cond.and given_1 narrow_1).before #[Value.ref b] s = true ∧ c.exceptionTable.toList = tableOf [] ∧ meth.name = "law"
theorem ws_key {p : Program} {e : Env} {s : State} {m : MethodId} {below : List Frame} {meth : Method} {c : Code} (l : Launch) (hflags : l.flags = flags0) {b L : Nat} {xs : Nat → Int32} (hL : L ≤ 3072) (C0 : lw_At p s m meth c b L xs) :
    ∃ G : pd_G, pd_z G = s.heap.size ∧ W p l e (pd_rm 840 601024 7293034) s m #[Value.ref b] below meth c s.heap [] 0 0 (vx_MQ below (pd_Qc G fun o _ => o = .inl (some (.int 1))) (pd_Xc G fun o _ => o = .inl (some (.int 1))) #[Value.ref b] s 601024 7293034 (fun q => pd_z G ≤ q)) (entryFrame m ([Value.ref b] : List Value).toArray 8) := by
  obtain ⟨hx, hb, hr, hml, hown, hts, hX, hbl, hlk, hgv, htab, hnm⟩ := C0
  have hTB : ∀ w ∈ pd_TB, w.before #[Value.ref b] s = true := fun w hw => hts w (List.mem_filter.mp hw).1
  obtain ⟨D, hD⟩ := kn_all hTB
  obtain ⟨tc, htc⟩ := kn_tc l D hts
  have hK : va_K D pd_cl (pd_tys (l, D, tc, s, b)) s := ⟨hD, htc⟩
  have hOK : pd_OK (l, D, tc, s, b) := ⟨hK, hflags, hts, hgv⟩
  have hF : pd_Fr (l, D, tc, s, b) mi_L_law p s m #[Value.ref b] meth c := ⟨hx, hb, hr, hml, hown, hTB, hlk, hOK, State.WarmedH.refl s, hK, htab, hnm, Nat.le_refl _, fun _ _ => rfl⟩
  have hXS : XS (l, D, tc, s, b) L xs := by
    obtain ⟨scr, h1, h2, h3, h4, h5⟩ := hX
    exact ⟨scr, h1, h2, h3, Nat.le_of_eq h4.symm, by rw [h4] <;> rfl, h5, Nat.not_le.mpr hbl⟩
  have hW : pd_Wd (l, D, tc, s, b) ([], true, fun _ _ => 0, fun _ _ => 0, fun _ _ => none) s.heap := ⟨fun k q hk => (by cases hk), fun _ _ => rfl, Nat.le_refl _, fun _ => rfl⟩
  refine ⟨(l, D, tc, s, b), rfl, ?_⟩
  have hl := lv_entry [Value.ref b] (n := 8) (Nat.le_of_ble_eq_true rfl)
  rw [lg_entry_eq]
  generalize (lg_sl [Value.ref b] ++ List.replicate (8 - (lg_sl [Value.ref b]).length) Slot.unset).toArray = ls at hl ⊢
  refine at_law_open (G := (l, D, tc, s, b)) (Q := fun o _ => o = .inl (some (.int 1))) (mnw _) hXS hL (fun _ _ _ => rfl) (fun _ h => sm0 h) 840 p e s m _ below meth c s.heap [] ls (Nat.le_refl _) hF va_S.rf hW ⟨hl.1, hl.2.1, fun q hq => hl.2.2 q ?_⟩
  cases hq with
  | head => exact List.mem_cons_self
  | tail _ h => cases h
/-- from the entry, for every script of at most 3072 ints, the law comes to its end with true -/
theorem whole_start {p : Program} {e : Env} {s : State} {m : MethodId} {below : List Frame} {meth : Method} {c : Code} (l : Launch) (hflags : l.flags = flags0) {b L : Nat} {xs : Nat → Int32} (hL : L ≤ 3072) (C0 : lw_At p s m meth c b L xs) : W p l e room_1 s m #[Value.ref b] below meth c s.heap [] 0 0 (lw_Z below #[Value.ref b] s) (entryFrame m ([Value.ref b] : List Value).toArray 8) := by
  intro T hT X
  obtain ⟨G, hz, key⟩ := ws_key (e := e) (below := below) l hflags hL C0
  have hr0 := X.room
  simp only [State.hasRoom, Bool.and_eq_true, decide_eq_true_eq] at hr0
  obtain ⟨g1, -, g3, -⟩ := State.hasRoom_stack (r := room_1) X.room
  have hroom : s.hasRoom e.platform (pd_rm 840 601024 7293034) = true := by
    have k1 : s.frames.length + 2048 ≤ e.platform.maxFrames := g1
    have k3 : s.localsInUse + 84000 ≤ e.platform.maxStackSlots := g3
    have k4 : s.heap.size + 601024 ≤ e.platform.maxCells := hr0.1.1.2
    have k5 : s.slotsUsed + 7293034 ≤ e.platform.maxSlots := hr0.1.2
    have k6 : s.localsInUse + 84000 + stackMargin ≤ realStackBytes / 8 := State.hasRoom_real (r := room_1) X.room
    exact State.hasRoom_of (r := pd_rm 840 601024 7293034) (State.hasRoom_plain (r := room_1) X.room) (show s.frames.length + 840 ≤ e.platform.maxFrames by omega) k3 k4 k5 hr0.2 k6
  obtain ⟨t, a1, o, b1, b2, b3⟩ := key T hT { X with room := hroom }
  refine ⟨t, a1, o, b1, b2, ?_⟩
  rcases b3 with ⟨⟨r, M, rfl, hq, -, -⟩, L', hfe, hfree⟩ | ⟨q, rfl, E, ce, L', ⟨M, hq, -⟩, -⟩
  · have hq' : (Sum.inl r : pd_O) = .inl (some (.int 1)) := hq
    cases Sum.inl.inj hq'
    exact ⟨rfl, hfe.1, hfe.2.1, hfe.2.2.weaken (fun x hx hlt => absurd hlt (Nat.not_lt.mpr (by rw [← hz]; exact hfree x hx))) (Nat.le_refl _) (Nat.le_refl _)⟩
  · have hq' : (Sum.inr E : pd_O) = .inl (some (.int 1)) := hq
    cases hq'
