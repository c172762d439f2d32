/-! ===== new int[N][K], from the machine's own step ===== -/
section MNEW
variable {p : Program} {l : Launch} {e : Env} {R : Room} {s : State} {m : MethodId} {args : Array Value} {below : List Frame} {meth : Method} {c : Code} {T : State} {locs : List Loc} {cells slots : Nat} {H : Heap}
/-- one inner row is made -/
theorem mn_in {g : JFrame} {cI : ClassId} {kI : Class} {compI : ClassId} {k : Int32} {Qr : Addr → Pre} {E : CtlPost} {d : Bool} {acts : List Action} (hkI : T.vm.classes[cI]? = some kI) (hkindI : kI.kind = .array compI .int) (hk0 : ¬ k < 0) (hlim : ¬ k.toNatClampNeg > e.platform.arrayLengthLimit) (hheap : ¬ k.toNatClampNeg * 4 > e.platform.maxHeapBytes) (h1 : T.heap.size < e.platform.maxCells) (h2 : T.slotsUsed + k.toNatClampNeg ≤ e.platform.maxSlots)
    (hq : ∀ acts', Qr T.heap.size d acts' ((T.pushCell { cls := cI, slots := Array.replicate k.toNatClampNeg (.int 0) }).setTop g)) : Jvm.Sem.wp (multianewarray.make cI [k]) Qr E e d acts (T.setTop g) := by
  simp only [multianewarray.make, wp_bind', W.ite, hk0, if_false, wp_pure', W.theClass, State.vm_setTop, hkI, Option.some.injEq, exists_eq_left', hkindI]
  exact W.newArray_of (s := T.setTop g) hkI hkindI hlim hheap h1 (by simpa using h2) rfl hq
/-- behind j of the N inner rows -/
def mn_S (p : Program) (l : Launch) (e : Env) (R : Room) (s : State) (m : MethodId) (args : Array Value) (below : List Frame) (meth : Method) (c : Code) (vm1 : Vm) (H : Heap) (locs : List Loc) (cells slots : Nat) (cO cI : ClassId) (N K j : Nat) (T : State) : Prop :=
  ∃ locs1 : List Loc, Stand p l e R s m args below meth c T locs1 (cells + 1 + j) (slots + N + j * K) ∧ (∀ q ∈ locs1, q ∈ locs ∨ q.base = H.size) ∧ T.vm = vm1 ∧ T.heap.size = H.size + 1 + j ∧ (∀ q, q < H.size → T.heap[q]? = H[q]?) ∧ T.heap[H.size]? = some (arrV cO N fun i => if i < j then .ref (H.size + 1 + i) else .null) ∧ ∀ i, i < j → T.heap[H.size + 1 + i]? = some (arrV cI K fun _ => .int 0)
theorem mn_next {vm1 : Vm} {cO cI : ClassId} {N K j : Nat} (hS : mn_S p l e R s m args below meth c vm1 H locs cells slots cO cI N K j T) :
    mn_S p l e R s m args below meth c vm1 H locs cells slots cO cI N K (j + 1) ((T.pushCell { cls := cI, slots := Array.replicate K (.int 0) }).setCell H.size ((arrV cO N fun i => if i < j then .ref (H.size + 1 + i) else .null).setSlot j (.ref T.heap.size))) := by
  obtain ⟨locs1, X, hl, hv, hz, ho, hO, hI⟩ := hS
  have hlt : H.size < T.heap.size := by omega
  have hpz : (T.pushCell { cls := cI, slots := Array.replicate K (.int 0) }).heap = T.heap.push { cls := cI, slots := Array.replicate K (.int 0) } := rfl
  have hlt2 : H.size < (T.pushCell { cls := cI, slots := Array.replicate K (.int 0) }).heap.size := by rw [hpz, Array.size_push]; omega
  have hO2 : (T.pushCell { cls := cI, slots := Array.replicate K (.int 0) }).heap[H.size]? = some (arrV cO N fun i => if i < j then .ref (H.size + 1 + i) else .null) := by
    rw [hpz, Array.getElem?_push, if_neg (Nat.ne_of_lt hlt)]; exact hO
  have X1 := (X.pushed { cls := cI, slots := Array.replicate K (.int 0) }).stored hO2 j (.ref T.heap.size)
  refine ⟨_, (by rw [show cells + 1 + (j + 1) = cells + 1 + j + 1 by omega, show slots + N + (j + 1) * K = slots + N + j * K + (Array.replicate K (Value.int 0)).size by rw [Array.size_replicate, Nat.add_mul]; omega]; exact X1), fun q hq => ?_, hv, ?_, fun q hq => ?_, ?_, fun i hi => ?_⟩
  · rcases List.mem_append.mp hq with h | h
    · exact hl q h
    · rw [List.mem_singleton.mp h]; exact Or.inr rfl
  · rw [size_setCell, hpz, Array.size_push]; omega
  · rw [heapAt_setCell_ne _ (Nat.ne_of_gt hq), hpz, Array.getElem?_push, if_neg (by omega)]; exact ho q hq
  · rw [heapAt_setCell_self _ hlt2, arrV_store]
    congr 2
    funext i
    unfold updV
    by_cases h : i = j
    · rw [if_pos h, if_pos (by omega), hz, h]
    · rw [if_neg h]
      show (if i < j then Value.ref (H.size + 1 + i) else .null) = _
      by_cases h2 : i < j
      · rw [if_pos h2, if_pos (by omega)]
      · rw [if_neg h2, if_neg (by omega)]
  · rw [heapAt_setCell_ne _ (show H.size ≠ H.size + 1 + i by omega), hpz, Array.getElem?_push]
    by_cases h : i = j
    · rw [if_pos (by omega)]; exact congrArg some (arrV_new _ _ _)
    · rw [if_neg (by omega)]; exact hI i (by omega)
/-- the state behind j inner rows -/
def mn_T (cO cI : ClassId) (a N K : Nat) (T : State) : Nat → State
  | 0 => T
  | j + 1 => ((mn_T cO cI a N K T j).pushCell { cls := cI, slots := Array.replicate K (.int 0) }).setCell a ((arrV cO N fun i => if i < j then .ref (a + 1 + i) else .null).setSlot j (.ref (mn_T cO cI a N K T j).heap.size))
theorem mn_all {vm1 : Vm} {cO cI : ClassId} {N K : Nat} (hS : mn_S p l e R s m args below meth c vm1 H locs cells slots cO cI N K 0 T) : ∀ j, mn_S p l e R s m args below meth c vm1 H locs cells slots cO cI N K j (mn_T cO cI H.size N K T j)
  | 0 => hS
  | j + 1 => mn_next (mn_all hS j)
/-- the loop over the inner rows -/
theorem mn_loop {g : JFrame} {vm1 : Vm} {cO cI : ClassId} {kO kI : Class} {compI : ClassId} {N K : Nat} {k : Int32} {E : CtlPost} {d : Bool} {acts : List Action} (hkO : vm1.classes[cO]? = some kO) (hkindO : kO.kind = .array cI (.array .int)) (hkI : vm1.classes[cI]? = some kI) (hkindI : kI.kind = .array compI .int) (hk0 : ¬ k < 0) (hK : k.toNatClampNeg = K) (hK2 : K ≤ 100000) (hc : cells + 1 + N ≤ R.cells) (hs : slots + N + N * K ≤ R.slots)
    (f : Nat → PUnit.{1} → Sem (ForInStep PUnit.{1})) (hf : ∀ i u, f i u = (do let r ← multianewarray.make cI [k]; Jvm.writeLoc H.size i (.ref r); Pure.pure (ForInStep.yield PUnit.unit))) (hS : mn_S p l e R s m args below meth c vm1 H locs cells slots cO cI N K 0 T) {Qu : PUnit.{1} → Pre}
    (hq : ∀ d' acts', Qu PUnit.unit d' acts' ((mn_T cO cI H.size N K T N).setTop g)) : Jvm.Sem.wp (forIn (List.range' 0 N 1) PUnit.unit.{1} f) Qu E e d acts (T.setTop g) := by
  refine wp_forIn_inv (fun rest s' => ∃ j, rest = List.range' j (N - j) 1 ∧ j ≤ N ∧ s' = (mn_T cO cI H.size N K T j).setTop g) f _ ⟨0, rfl, Nat.zero_le _, rfl⟩ ?_ ?_
  · rintro x rest s' d' acts' Q' ⟨j, h1, h2, rfl⟩ hk
    have hj : j < N := by
      rcases Nat.lt_or_ge j N with h | h
      · exact h
      · rw [show N - j = 0 by omega] at h1; cases h1
    rw [show N - j = (N - (j + 1)) + 1 by omega, List.range'_succ] at h1
    obtain ⟨rfl, rfl⟩ := List.cons.inj h1
    have h4 := mn_all hS x
    obtain ⟨locs1, X, hl, hv, hz, ho, hO, hI⟩ := h4
    have hjK : x * K + K ≤ N * K := by
      have := Nat.mul_le_mul_right K (Nat.succ_le_of_lt hj)
      rw [Nat.succ_mul] at this; exact this
    obtain ⟨hr1, hr2⟩ := X.roomAbove (a := 1) (b := K) (by omega) (by omega)
    have hlimit : ¬ k.toNatClampNeg > e.platform.arrayLengthLimit := by rw [Launch.admits_arrayLengthLimit X.admits]; omega
    have hheap : ¬ k.toNatClampNeg * 4 > e.platform.maxHeapBytes := by rw [Launch.admits_maxHeapBytes X.admits]; omega
    simp only [hf, wp_bind']
    refine mn_in (by rw [hv]; exact hkI) hkindI hk0 hlimit hheap (by omega) (by rw [hK]; exact hr2) fun acts1 => ?_
    simp only [wp_bind', W.writeLoc, wp_pure']
    have hlt : H.size < (mn_T cO cI H.size N K T x).heap.size := by omega
    refine ⟨arrV cO N fun i => if i < x then .ref (H.size + 1 + i) else .null, ?_, (fun h => by cases h), by rw [arrV_size]; exact hj, ?_, ?_⟩
    · show ((mn_T cO cI H.size N K T x).heap.push _)[H.size]? = _
      rw [Array.getElem?_push, if_neg (Nat.ne_of_lt hlt)]; exact hO
    · show State.fitsSlot (mn_T cO cI H.size N K T x) cO .none x (.ref (mn_T cO cI H.size N K T x).heap.size) = true
      simp [State.fitsSlot, State.slotType?, hv, hkO, hkindO, fits]
    · rw [hK]
      exact hk _ _ _ ⟨x + 1, by simp, by omega, rfl⟩
  · rintro s' d' acts' ⟨j, h1, h2, rfl⟩
    have hj : j = N := by
      have := congrArg List.length h1
      simp at this
      omega
    subst hj
    exact hq d' acts'
/-- new int[N][K]: the outer row, then the inner ones, in their order -/
theorem mn_W {cc : ByteArray} {Q : State → Prop} (hexec : p.tables.exec = Jvm.exec) (hb : c.code = cc) {own : String} {index : Nat} (hown : s.vm.findClass own = some m.cls) (hclink : (Cond.classLink own index "[[I").before args s = true) {cO cI compI : ClassId} {kO kI : Class} (hO1 : s.vm.findClass "[[I" = some cO) (hO2 : s.vm.classes[cO]? = some kO) (hO3 : kO.kind = .array cI (.array .int)) (hI2 : s.vm.classes[cI]? = some kI) (hI3 : kI.kind = .array compI .int)
    {g : JFrame} (hg : g.method = m) (hdg : decode cc g.pc = .ok (.multianewarray index 2, 4)) {n k : Int32} {N K : Nat} {rest : List Value} (hstack : g.stack = .int k :: .int n :: rest) (hn0 : ¬ n < 0) (hne : (n == 0) = false) (hk0 : ¬ k < 0) (hN : n.toNatClampNeg = N) (hK : k.toNatClampNeg = K) (hN2 : N ≤ 100000) (hK2 : K ≤ 100000) (hcells : cells + 1 + N ≤ R.cells) (hslots : slots + N + N * K ≤ R.slots)
    (kk : ∀ (H' : Heap) (locs' : List Loc), (∀ q ∈ locs', q ∈ locs ∨ q.base = H.size) → H'.size = H.size + 1 + N → (∀ q, q < H.size → H'[q]? = H[q]?) → H'[H.size]? = some (arrV cO N fun i => if i < N then .ref (H.size + 1 + i) else .null) → (∀ i, i < N → H'[H.size + 1 + i]? = some (arrV cI K fun _ => .int 0)) →
      W p l e R s m args below meth c H' locs' (cells + 1 + N) (slots + N + N * K) Q { g with pc := g.pc + 4, stack := .ref H.size :: rest }) : W p l e R s m args below meth c H locs cells slots Q g := by
  intro T hT X
  subst hT; subst hb; subst hg
  have hpl : e.platform.magicAccessors = ({} : Platform).magicAccessors := by rw [X.admits.platform]
  obtain ⟨cc', hfcc, hcl⟩ := Cond.classLink_spec hown hclink e.platform hpl
  cases hO1.symm.trans hfcc
  obtain ⟨hg1, hwarm1, hready1⟩ := State.classEntry (e := e) X.warmed hcl
  have hsz : (T.vm.noted g.method.cls index (.cls cO)).classes.size ≤ T.vm.classes.size := by first | exact Nat.le_refl _ | (simp; done)
  generalize T.vm.noted g.method.cls index (.cls cO) = vm1 at hg1 hwarm1 hready1 hsz
  have hal : s.vm.Alike vm1 := hwarm1.alike
  obtain ⟨kO1, hkO1, heO⟩ := hal.2.2 _ _ hO2
  obtain ⟨kI1, hkI1, heI⟩ := hal.2.2 _ _ hI2
  have hkindO1 : kO1.kind = .array cI (.array .int) := by rw [heO]; exact hO3
  have hkindI1 : kI1.kind = .array compI .int := by rw [heI]; exact hI3
  have X1 := X.noted hwarm1
  have X2 := X1.pushed { cls := cO, slots := Array.replicate N .null, vm := .none }
  obtain ⟨hr1, hr2⟩ := X1.roomAbove (a := 1) (b := N) (by omega) (by omega)
  have hS0 : mn_S p l e R s g.method args below meth c vm1 T.heap locs cells slots cO cI N K 0 ((T.setVm vm1).pushCell { cls := cO, slots := Array.replicate N .null, vm := .none }) := by
    refine ⟨locs, by simpa using X2, fun q h => Or.inl h, rfl, ?_, fun q hq => ?_, ?_, fun i hi => absurd hi (Nat.not_lt_zero _)⟩
    · show (T.heap.push _).size = _
      rw [Array.size_push]
    · show (T.heap.push _)[q]? = _
      rw [Array.getElem?_push, if_neg (Nat.ne_of_lt hq)]
    · show (T.heap.push _)[T.heap.size]? = _
      rw [Array.getElem?_push, if_pos rfl, arrV_new]
      simp
  obtain ⟨locsN, XN, hl, hv, hz, ho, hO, hI⟩ := mn_all hS0 N
  obtain ⟨t', a1, b1⟩ := kk _ locsN hl hz ho hO hI _ rfl XN
  refine ⟨t', ?_, b1⟩
  refine Steps.instr (c := c) (by simpa using X.here) ?_
  simp only [hdg, hexec]
  show Jvm.Sem.wp (multianewarray.sem index 2) _ _ e false [] (T.setTop g)
  simp only [multianewarray.sem, wp_bind']
  refine (W.resolveClassAt_transfer (s := T.setTop g) (State.method?_setTop g X.here.top) hg1 hready1 hsz).mpr ?_
  refine (W.resolveClassAt_ready (s := (T.setVm vm1).setTop g) (State.method?_setTop g X.here.top) hready1).mpr ?_
  simp only [wp_bind']
  refine (popN_top (args := [.int n, .int k]) (s := T.setVm vm1) X.here.top (rest := rest) (by simpa using hstack)).mpr ?_
  simp only [List.mapM_cons, List.mapM_nil, wp_bind', wp_pure']
  rw [multianewarray.make]
  simp only [wp_bind', W.ite, hn0, if_false, wp_pure', W.theClass, State.vm_setTop, State.vm_setVm, hkO1, Option.some.injEq, exists_eq_left', hkindO1]
  have hlimit : ¬ n.toNatClampNeg > e.platform.arrayLengthLimit := by rw [Launch.admits_arrayLengthLimit X.admits]; omega
  have hheap : ¬ n.toNatClampNeg * 4 > e.platform.maxHeapBytes := by rw [Launch.admits_maxHeapBytes X.admits]; omega
  refine W.newArray_of (s := (T.setVm vm1).setTop { g with stack := rest }) hkO1 hkindO1 hlimit hheap (by show T.heap.size < _; exact hr1) (by rw [hN]; simpa using hr2) rfl fun acts1 => ?_
  simp only [wp_bind', hne, Bool.false_eq_true, if_false, wp_pure', Std.Legacy.Range.forIn_eq_forIn_range', Std.Legacy.Range.size, hN]
  rw [show (N - 0 + 1 - 1) / 1 = N by simp]
  refine mn_loop hkO1 hkindO1 hkI1 hkindI1 hk0 hK hK2 hcells hslots _ (fun i u => rfl) hS0 fun d' acts' => ?_
  simp only [wp_bind', wp_pure', W.mark, W.pushRef]
  refine ⟨{ g with stack := rest }, State.topJava?_setTop' _ XN.here.top, fun acts2 => ?_⟩
  rw [State.setTop_setTop, afterInstr_ok]
  exact a1
end MNEW
