/-! ===== the world as pure memory: three stores over offsets, a list of shapes ===== -/
/-- launch, class ids and slots, array classes, the law's start, the script's cell -/
abbrev pd_G : Type := Launch × va_G × (Nat → ClassId) × State × Nat
def pd_z (G : pd_G) : Nat := G.2.2.2.1.heap.size
def pd_tys (G : pd_G) : List (ClassId × FieldType) := [(G.2.2.1 0, .int), (G.2.2.1 1, .byte), (G.2.2.1 2, .long), (G.2.2.1 3, .object "PetitionDesk$Petition"), (G.2.2.1 4, .array .int)]
/-- shapes, whether nothing else was made, ints, longs, references -/
abbrev pd_M : Type := List (Nat × Nat) × Bool × (Nat → Nat → Int32) × (Nat → Nat → Int64) × (Nat → Nat → Option Nat)
abbrev pd_O : Type := Option Value ⊕ String
/-- name, bytes, locals, return type, handlers -/
abbrev pd_MI : Type := MethodName × ByteArray × Nat × Option FieldType × List (Nat × Nat × Nat × Nat)
def pd_TB : List Cond := lw_tbl.filter goodWord
def pd_hd (mi : pd_MI) : Cond := match mi.2.2.2.2 with
  | [] => .code mi.1 mi.2.1 mi.2.2.1 mi.2.2.2.1
  | hh => .codeWith mi.1 mi.2.1 mi.2.2.1 mi.2.2.2.1 hh
def pd_lay : Nat → List Nat
  | 0 => [2, 2]
  | 1 => [2, 2, 2, 0, 2, 2, 2, 0]
  | 2 => [0, 2, 2, 2, 0, 0, 0, 2, 2, 2, 2, 0, 0, 0, 0, 0, 2, 1, 1]
  | 3 => [2, 0]
  | 4 => [2, 0]
  | 5 => [2, 2, 0, 0, 0, 0]
  | 6 => [2, 2, 2, 2, 0, 0]
  | 7 => [2, 2, 2, 2, 2, 0, 2, 0, 0, 0, 0]
  | 8 => [0, 2, 0, 0, 0, 0, 0, 0, 2, 2, 2, 2, 0, 0, 0, 0, 2, 2, 2, 0, 2]
  | _ => []
def pd_v (z : Nat) (i : Nat → Int32) (l : Nat → Int64) (r : Nat → Option Nat) (j t : Nat) : Value := match t with
  | 0 => .int (i j)
  | 1 => .long (l j)
  | _ => va_rf ((r j).map (fun q => z + q))
def pd_fs (z : Nat) (i : Nat → Int32) (l : Nat → Int64) (r : Nat → Option Nat) : Nat → List Nat → List Value
  | _, [] => []
  | j, t :: ts => pd_v z i l r j t :: pd_fs z i l r (j + 1) ts
theorem pd_fs_get (z : Nat) (i : Nat → Int32) (l : Nat → Int64) (r : Nat → Option Nat) : ∀ (ts : List Nat) (j k : Nat), (pd_fs z i l r j ts)[k]? = (ts[k]?).map (fun t => pd_v z i l r (j + k) t)
  | [], j, k => by simp [pd_fs]
  | t :: ts, j, 0 => by simp [pd_fs]
  | t :: ts, j, k + 1 => by
    rw [pd_fs, List.getElem?_cons_succ, List.getElem?_cons_succ, pd_fs_get z i l r ts (j + 1) k]
    rw [show j + 1 + k = j + (k + 1) by omega]
theorem pd_fs_len (z : Nat) (i : Nat → Int32) (l : Nat → Int64) (r : Nat → Option Nat) : ∀ (ts : List Nat) (j : Nat), (pd_fs z i l r j ts).length = ts.length
  | [], _ => rfl
  | _ :: ts, j => by rw [pd_fs, List.length_cons, List.length_cons, pd_fs_len z i l r ts (j + 1)]
def pd_rr (z : Nat) (r : Nat → Option Nat) : Nat → Option Nat := fun j => (r j).map (fun q => z + q)
def pd_ce (z : Nat) (tc : Nat → ClassId) (x : Nat × Nat) (i : Nat → Int32) (l : Nat → Int64) (r : Nat → Option Nat) : va_E := match x.1 with
  | 9 => .inl (tc 0, x.2, .inl i)
  | 10 => .inl (tc 1, x.2, .inl i)
  | 11 => .inl (tc 2, x.2, .inr (.inl l))
  | 12 => .inl (tc 3, x.2, .inr (.inr (.inr (.inr (pd_rr z r)))))
  | 13 => .inl (tc 4, x.2, .inr (.inr (.inr (.inr (pd_rr z r)))))
  | k => .inr (k, pd_fs z i l r 0 (pd_lay k))
def pd_ws (G : pd_G) (S : List (Nat × Nat)) (I : Nat → Nat → Int32) (L : Nat → Nat → Int64) (R : Nat → Nat → Option Nat) : va_W :=
  (List.range S.length).map fun k => (pd_z G + k, pd_ce (pd_z G) G.2.2.1 (S.getD k (0, 0)) (I k) (L k) (R k))
theorem pd_ws_len (G : pd_G) (S : List (Nat × Nat)) (I L R) : (pd_ws G S I L R).length = S.length := by simp [pd_ws]
theorem pd_ws_get {G : pd_G} {S : List (Nat × Nat)} {I L R} {k : Nat} {x : Nat × Nat} (h : S[k]? = some x) : (pd_ws G S I L R)[k]? = some (pd_z G + k, pd_ce (pd_z G) G.2.2.1 x (I k) (L k) (R k)) := by
  obtain ⟨hk, hx⟩ := List.getElem?_eq_some_iff.mp h
  unfold pd_ws
  rw [List.getElem?_map, List.getElem?_range hk]
  simp [List.getD_eq_getElem?_getD, h]
theorem pd_ws_of {G : pd_G} {S : List (Nat × Nat)} {I L R} {k : Nat} {q : Nat × va_E} (h : (pd_ws G S I L R)[k]? = some q) : k < S.length ∧ q.1 = pd_z G + k := by
  have hk : k < S.length := by
    have := (List.getElem?_eq_some_iff.mp h).1
    rwa [pd_ws_len] at this
  unfold pd_ws at h
  rw [List.getElem?_map, List.getElem?_range hk] at h
  cases h
  exact ⟨hk, rfl⟩
theorem pd_ws_D (G : pd_G) (S : List (Nat × Nat)) (I L R) : va_D (fun q => pd_z G ≤ q) (pd_ws G S I L R) := by
  refine ⟨fun i j p q hi hj e => ?_, fun k q hk => ?_⟩
  · have h1 := (pd_ws_of hi).2
    have h2 := (pd_ws_of hj).2
    omega
  · have h1 := (pd_ws_of hk).2
    show pd_z G ≤ q.1
    omega
theorem pd_ws_set {G : pd_G} {S : List (Nat × Nat)} {I I' : Nat → Nat → Int32} {L L' : Nat → Nat → Int64} {R R' : Nat → Nat → Option Nat} {k : Nat} {x : Nat × Nat} {e : va_E} (h : S[k]? = some x)
    (he : e = pd_ce (pd_z G) G.2.2.1 x (I' k) (L' k) (R' k)) (hI : ∀ j, j ≠ k → I' j = I j) (hL : ∀ j, j ≠ k → L' j = L j) (hR : ∀ j, j ≠ k → R' j = R j) :
    (pd_ws G S I L R).set k (pd_z G + k, e) = pd_ws G S I' L' R' := by
  obtain ⟨hk, hx⟩ := List.getElem?_eq_some_iff.mp h
  apply List.ext_getElem?
  intro j
  by_cases hj : j = k
  · subst hj
    rw [List.getElem?_set_self (by rw [pd_ws_len]; exact hk), pd_ws_get h, he]
  · rw [List.getElem?_set_ne (Ne.symm hj)]
    unfold pd_ws
    rw [List.getElem?_map, List.getElem?_map]
    by_cases hl : j < S.length
    · rw [List.getElem?_range hl]; simp [hI j hj, hL j hj, hR j hj]
    · rw [List.getElem?_eq_none (by simp; omega)]; rfl
def pd_up {α : Type} (f : Nat → Nat → α) (a k : Nat) (v : α) : Nat → Nat → α := fun b j => if b = a ∧ j = k then v else f b j
theorem pd_up_ne {α : Type} {f : Nat → Nat → α} {a k b : Nat} {v : α} (h : b ≠ a) : pd_up f a k v b = f b := by
  funext j; simp [pd_up, h]
theorem pd_up_at {α : Type} {f : Nat → Nat → α} {a k : Nat} {v : α} : pd_up f a k v a k = v := by simp [pd_up]
theorem pd_up_nj {α : Type} {f : Nat → Nat → α} {a b k j : Nat} {v : α} (h : j ≠ k) : pd_up f a k v b j = f b j := by simp [pd_up, h]
theorem pd_up_row (f : Nat → Nat → Int32) (a k : Nat) (v : Int32) : pd_up f a k v a = upd (f a) k v := by
  funext j; simp [pd_up, upd]
theorem pd_up_rowL (f : Nat → Nat → Int64) (a k : Nat) (v : Int64) : pd_up f a k v a = vp_updL (f a) k v := by
  funext j; simp [pd_up, vp_updL]
/-- the world in the heap -/
def pd_Wd (G : pd_G) (M : pd_M) (H : Heap) : Prop := va_P G.2.1 pd_cl (pd_ws G M.1 M.2.2.1 M.2.2.2.1 M.2.2.2.2) H ∧ (∀ q, q < pd_z G → H[q]? = G.2.2.2.1.heap[q]?) ∧ pd_z G + M.1.length ≤ H.size ∧ (M.2.1 = true → H.size = pd_z G + M.1.length)
/-- what holds of the launch and the start -/
def pd_OK (G : pd_G) : Prop := va_K G.2.1 pd_cl (pd_tys G) G.2.2.2.1 ∧ G.1.flags = flags0 ∧ (∀ w ∈ lw_tbl, w.before #[Value.ref G.2.2.2.2] G.2.2.2.1 = true) ∧ (Jvm.Cond.and given_1 narrow_1).before #[Value.ref G.2.2.2.2] G.2.2.2.1 = true
def pd_Fr (G : pd_G) (mi : pd_MI) (p : Program) (s : State) (m : MethodId) (args : Array Value) (meth : Method) (c : Code) : Prop :=
  p.tables.exec = Jvm.exec ∧ c.code = mi.2.1 ∧ meth.sig.returnType = mi.2.2.2.1 ∧ c.maxLocals = mi.2.2.1 ∧ s.vm.findClass mi.1.cls = some m.cls ∧ (∀ w ∈ pd_TB, w.before args s = true) ∧ meth.locks = false ∧ pd_OK G ∧ G.2.2.2.1.WarmedH s.vm ∧ va_K G.2.1 pd_cl (pd_tys G) s ∧ c.exceptionTable.toList = tableOf mi.2.2.2.2 ∧ meth.name = mi.1.name ∧ (pd_z G ≤ s.heap.size ∧ ∀ q, q < pd_z G → s.heap[q]? = G.2.2.2.1.heap[q]?)
def pd_rm (d mc ms : Nat) : Room := { frames := d, cells := mc, slots := ms, locals := 100 * d }
def pd_Qc (G : pd_G) (Q : pd_O → pd_M → Prop) : Array Value → State → Outcome → State → Prop := fun _ st o t => ∃ (r : Option Value) (M : pd_M), o = .returned r ∧ Q (.inl r) M ∧ pd_Wd G M t.heap ∧ st.heap.size ≤ t.heap.size
def pd_Xc (G : pd_G) (Q : pd_O → pd_M → Prop) : String → State → State → Prop := fun E st t => ∃ M : pd_M, Q (.inr E) M ∧ pd_Wd G M t.heap ∧ st.heap.size ≤ t.heap.size
def pd_Pc (G : pd_G) (av : List Value) (M : pd_M) : Array Value → State → Prop := va_Pc av (fun U => pd_OK G ∧ G.2.2.2.1.WarmedH U.vm ∧ pd_Wd G M U.heap)
/-- a method's contract: from arguments and memory, at most h frames deep -/
def pd_Ev (G : pd_G) (mi : pd_MI) (h mc ms : Nat) (av : List Value) (M : pd_M) (Q : pd_O → pd_M → Prop) : Prop :=
  ∀ d : Nat, h ≤ d → vx_Met G.1 mi.1 (pd_hd mi :: pd_TB) (pd_rm d mc ms) (pd_Pc G av M) (pd_Qc G Q) (pd_Xc G Q) mc ms (fun q => pd_z G ≤ q)
/-! locals by their numbers -/
def pd_lg : List (Option Value) → Nat → Option Value
  | [], _ => none
  | a :: _, 0 => a
  | _ :: l, n + 1 => pd_lg l n
def pd_ls : List (Option Value) → Nat → Option Value → List (Option Value)
  | [], _, _ => []
  | _ :: l, 0, v => v :: l
  | a :: l, n + 1, v => a :: pd_ls l n v
def pd_as : Nat → List (Option Value) → List (Nat × Value)
  | _, [] => []
  | b, none :: l => pd_as (b + 1) l
  | b, some v :: l => (b, v) :: pd_as (b + 1) l
theorem pd_as_lg : ∀ (lo : List (Option Value)) (b i : Nat) (v : Value), pd_lg lo i = some v → (b + i, v) ∈ pd_as b lo
  | [], _, _, _, h => by cases h
  | some w :: l, b, 0, v, h => by cases h; exact List.mem_cons_self
  | none :: l, b, 0, v, h => by cases h
  | some w :: l, b, i + 1, v, h => by
    have := pd_as_lg l (b + 1) i v h
    rw [show b + 1 + i = b + (i + 1) by omega] at this
    exact List.mem_cons_of_mem _ this
  | none :: l, b, i + 1, v, h => by
    have := pd_as_lg l (b + 1) i v h
    rw [show b + 1 + i = b + (i + 1) by omega] at this
    exact this
theorem pd_as_of : ∀ (lo : List (Option Value)) (b : Nat) (q : Nat × Value), q ∈ pd_as b lo → b ≤ q.1 ∧ pd_lg lo (q.1 - b) = some q.2
  | [], _, _, h => by cases h
  | some w :: l, b, q, h => by
    rcases List.mem_cons.mp h with rfl | h
    · exact ⟨Nat.le_refl _, by simp [pd_lg]⟩
    · obtain ⟨h1, h2⟩ := pd_as_of l (b + 1) q h
      refine ⟨by omega, ?_⟩
      rw [show q.1 - b = (q.1 - (b + 1)) + 1 by omega]
      exact h2
  | none :: l, b, q, h => by
    obtain ⟨h1, h2⟩ := pd_as_of l (b + 1) q h
    refine ⟨by omega, ?_⟩
    rw [show q.1 - b = (q.1 - (b + 1)) + 1 by omega]
    exact h2
theorem pd_lg_ls_ne : ∀ (lo : List (Option Value)) (i j : Nat) (v : Option Value), j ≠ i → pd_lg (pd_ls lo i v) j = pd_lg lo j
  | [], _, _, _, _ => rfl
  | a :: l, 0, 0, v, h => absurd rfl h
  | a :: l, 0, j + 1, v, h => rfl
  | a :: l, i + 1, 0, v, h => rfl
  | a :: l, i + 1, j + 1, v, h => pd_lg_ls_ne l i j v (fun e => h (by rw [e]))
theorem pd_lg_ls_at : ∀ (lo : List (Option Value)) (i : Nat) (v : Option Value), pd_lg (pd_ls lo i v) i = v ∨ pd_lg (pd_ls lo i v) i = none
  | [], _, _ => Or.inr rfl
  | a :: l, 0, v => Or.inl rfl
  | a :: l, i + 1, v => pd_lg_ls_at l i v
def pd_o1 (lo : List (Option Value)) : Nat → Bool
  | 0 => true
  | i + 1 => match pd_lg lo i with
    | some v => v.category != 2
    | none => true
theorem pd_lv_get {ls : Array Slot} {n : Nat} {lo : List (Option Value)} {i : Nat} {v : Value} (h : lv_has ls n (pd_as 0 lo)) (hg : pd_lg lo i = some v) : ls[i]? = some (.val v) := by
  have := h.2.2 _ (pd_as_lg lo 0 i v hg)
  rwa [Nat.zero_add] at this
theorem pd_lv_set1 {ls' : Array Slot} {n : Nat} {lo : List (Option Value)} {i : Nat} {v : Value} (hk : pd_o1 lo i = true) (h : lv_has ls' n ((i, v) :: (pd_as 0 lo).filter (fun q => !(q.1 == i) && !(q.1 + 1 == i && q.2.category == 2)))) : lv_has ls' n (pd_as 0 (pd_ls lo i (some v))) := by
  refine ⟨h.1, h.2.1, fun q hq => ?_⟩
  obtain ⟨-, hg⟩ := pd_as_of _ 0 q hq
  rw [Nat.sub_zero] at hg
  by_cases hi : q.1 = i
  · rw [hi] at hg ⊢
    rcases pd_lg_ls_at lo i (some v) with e | e
    · rw [e] at hg; cases hg
      exact h.2.2 (i, q.2) List.mem_cons_self
    · rw [e] at hg; cases hg
  · rw [pd_lg_ls_ne lo i q.1 _ hi] at hg
    refine h.2.2 q (List.mem_cons_of_mem _ (List.mem_filter.mpr ⟨?_, ?_⟩))
    · have := pd_as_lg lo 0 q.1 q.2 hg
      rw [Nat.zero_add] at this
      exact this
    · have h1 : (q.1 == i) = false := by simp [hi]
      rw [h1]
      by_cases h2 : q.1 + 1 = i
      · subst h2
        simp only [pd_o1, hg] at hk
        simp at hk
        simp [hk]
      · simp [h2]
theorem pd_lv_set2 {ls' : Array Slot} {n : Nat} {lo : List (Option Value)} {i : Nat} {v : Value} (hk : pd_o1 lo i = true) (h : lv_has ls' n ((i, v) :: (pd_as 0 lo).filter (fun q => !(q.1 == i) && (!(q.1 == i + 1) && !(q.1 + 1 == i && q.2.category == 2))))) : lv_has ls' n (pd_as 0 (pd_ls (pd_ls lo i (some v)) (i + 1) none)) := by
  refine ⟨h.1, h.2.1, fun q hq => ?_⟩
  obtain ⟨-, hg⟩ := pd_as_of _ 0 q hq
  rw [Nat.sub_zero] at hg
  by_cases hj : q.1 = i + 1
  · rw [hj] at hg
    rcases pd_lg_ls_at (pd_ls lo i (some v)) (i + 1) none with e | e <;> rw [e] at hg <;> cases hg
  rw [pd_lg_ls_ne _ (i + 1) q.1 _ hj] at hg
  by_cases hi : q.1 = i
  · rw [hi] at hg ⊢
    rcases pd_lg_ls_at lo i (some v) with e | e
    · rw [e] at hg; cases hg
      exact h.2.2 (i, q.2) List.mem_cons_self
    · rw [e] at hg; cases hg
  · rw [pd_lg_ls_ne lo i q.1 _ hi] at hg
    refine h.2.2 q (List.mem_cons_of_mem _ (List.mem_filter.mpr ⟨?_, ?_⟩))
    · have := pd_as_lg lo 0 q.1 q.2 hg
      rw [Nat.zero_add] at this
      exact this
    · have h1 : (q.1 == i) = false := by simp [hi]
      have h3 : (q.1 == i + 1) = false := by simp [hj]
      rw [h1, h3]
      by_cases h2 : q.1 + 1 = i
      · subst h2
        simp only [pd_o1, hg] at hk
        simp at hk
        simp [hk]
      · simp [h2]
/-- a place in a method: from here the method ends as Q says -/
def pd_At (G : pd_G) (mi : pd_MI) (h mc ms cs ss pc : Nat) (lo : List (Option Value)) (st : List Value) (M : pd_M) (Q : pd_O → pd_M → Prop) : Prop :=
  ∀ (d : Nat) (p : Program) (e : Env) (s : State) (m : MethodId) (args : Array Value) (below : List Frame) (meth : Method) (c : Code) (H : Heap) (locs : List Loc) (ls : Array Slot),
    h ≤ d → pd_Fr G mi p s m args meth c → va_S (fun q => pd_z G ≤ q) s.heap H locs → pd_Wd G M H → lv_has ls mi.2.2.1 (pd_as 0 lo) →
    W p G.1 e (pd_rm d mc ms) s m args below meth c H locs cs ss (vx_MQ below (pd_Qc G Q) (pd_Xc G Q) args s mc ms (fun q => pd_z G ≤ q)) (F0 m pc ls st)
/-! entry -/
def pd_lo : List Value → List (Option Value)
  | [] => []
  | .long x :: vs => some (.long x) :: none :: pd_lo vs
  | .double x :: vs => some (.double x) :: none :: pd_lo vs
  | v :: vs => some v :: pd_lo vs
theorem pd_as_app (b k : Nat) : ∀ lo : List (Option Value), ∀ q ∈ pd_as b (lo ++ List.replicate k none), q ∈ pd_as b lo := by
  intro lo
  induction lo generalizing b with
  | nil =>
    intro q hq
    obtain ⟨h1, h2⟩ := pd_as_of _ b q hq
    exfalso
    have : ∀ (k i : Nat), pd_lg (List.replicate k none) i = none := by
      intro k
      induction k with
      | zero => intro i; rfl
      | succ k ih => intro i; cases i with
        | zero => rfl
        | succ i => exact ih i
    rw [List.nil_append, this] at h2
    cases h2
  | cons a l ih =>
    intro q hq
    cases a with
    | none => exact ih (b + 1) q hq
    | some v =>
      rcases List.mem_cons.mp hq with rfl | hq
      · exact List.mem_cons_self
      · exact List.mem_cons_of_mem _ (ih (b + 1) q hq)
theorem pd_lo_args : ∀ (vs : List Value) (b : Nat), ∀ q ∈ pd_as b (pd_lo vs), q ∈ lv_args b vs
  | [], _, _, h => by cases h
  | .long x :: vs, b, q, h => by
    rcases List.mem_cons.mp h with rfl | h
    · exact List.mem_cons_self
    · refine List.mem_cons_of_mem _ ?_
      have := pd_lo_args vs (b + 2) q h
      simpa [Value.category] using this
  | .double x :: vs, b, q, h => by
    rcases List.mem_cons.mp h with rfl | h
    · exact List.mem_cons_self
    · refine List.mem_cons_of_mem _ ?_
      have := pd_lo_args vs (b + 2) q h
      simpa [Value.category] using this
  | .int x :: vs, b, q, h => by
    rcases List.mem_cons.mp h with rfl | h
    · exact List.mem_cons_self
    · refine List.mem_cons_of_mem _ ?_
      have := pd_lo_args vs (b + 1) q h
      simpa [Value.category] using this
  | .float x :: vs, b, q, h => by
    rcases List.mem_cons.mp h with rfl | h
    · exact List.mem_cons_self
    · refine List.mem_cons_of_mem _ ?_
      have := pd_lo_args vs (b + 1) q h
      simpa [Value.category] using this
  | .ref x :: vs, b, q, h => by
    rcases List.mem_cons.mp h with rfl | h
    · exact List.mem_cons_self
    · refine List.mem_cons_of_mem _ ?_
      have := pd_lo_args vs (b + 1) q h
      simpa [Value.category] using this
  | .null :: vs, b, q, h => by
    rcases List.mem_cons.mp h with rfl | h
    · exact List.mem_cons_self
    · refine List.mem_cons_of_mem _ ?_
      have := pd_lo_args vs (b + 1) q h
      simpa [Value.category] using this
  | .retAddr x :: vs, b, q, h => by
    rcases List.mem_cons.mp h with rfl | h
    · exact List.mem_cons_self
    · refine List.mem_cons_of_mem _ ?_
      have := pd_lo_args vs (b + 1) q h
      simpa [Value.category] using this
/-- a contract out of the walk from the entry -/
theorem pd_ev {G : pd_G} {mi : pd_MI} {h mc ms : Nat} {av : List Value} {M : pd_M} {Q : pd_O → pd_M → Prop} (k : Nat) {lo : List (Option Value)} (hp : plainName mi.1.cls = true) (hlen : (lg_sl av).length ≤ mi.2.2.1) (hlo : pd_lo av ++ List.replicate k none = lo)
    (K : pd_At G mi h mc ms 0 0 0 lo [] M Q) : pd_Ev G mi h mc ms av M Q := by
  intro d hd
  have body : ∀ p e s m args below meth c s₁, BodyLoose p G.1 mi.1 (headSpec (pd_hd mi :: pd_TB) (pd_rm d mc ms)) mi.2.1 mi.2.2.1 mi.2.2.2.1 e s m args below meth c s₁ → c.maxLocals = mi.2.2.1 → c.exceptionTable.toList = tableOf mi.2.2.2.2 → pd_Pc G av M args s →
      W p G.1 e (headSpec (pd_hd mi :: pd_TB) (pd_rm d mc ms)).room s m args below meth c s.heap [] 0 0 (vx_MQ below (pd_Qc G Q) (pd_Xc G Q) args s mc ms (fun q => pd_z G ≤ q)) (entryFrame m args mi.2.2.1) := by
    intro p e s m args below meth c s₁ B hml htab hP
    obtain ⟨rfl, hOK, hWm, hW⟩ := hP
    have hts := atoms_spec (ws := pd_hd mi :: pd_TB) B.pre
    have hl := lv_entry av (n := mi.2.2.1) hlen
    rw [lg_entry_eq]
    generalize (lg_sl av ++ List.replicate (mi.2.2.1 - (lg_sl av).length) Slot.unset).toArray = ls at hl ⊢
    refine K d p e s m _ below meth c s.heap [] ls hd ⟨B.exec, B.bytes, B.returns, hml, findClass_of_methodNamed B.named, fun w hw => hts w (List.mem_cons_of_mem _ hw), B.notSynchronized, hOK, hWm, va_K.moved hWm.alike hOK.1, htab, (name_of_methodNamed B.named B.method).1, Nat.le_trans (Nat.le_add_right _ _) hW.2.2.1, hW.2.1⟩ va_S.rf hW ⟨hl.1, hl.2.1, fun q hq => hl.2.2 q ?_⟩
    rw [← hlo] at hq
    exact pd_lo_args av 0 q (pd_as_app 0 k _ q hq)
  cases hh : mi.2.2.2.2 with
  | nil =>
    have e1 : pd_hd mi = .code mi.1 mi.2.1 mi.2.2.1 mi.2.2.2.1 := by unfold pd_hd; rw [hh]
    rw [e1] at body ⊢
    refine vx_ofW (cc := mi.2.1) (maxL := mi.2.2.1) (ret := mi.2.2.2.1) hp rfl ?_
    intro p e s m args below meth c s₁ B hml ht hP
    refine body p e s m args below meth c s₁ B hml ?_ hP
    rw [hh]
    cases hc : c.exceptionTable.toList with
    | nil => rfl
    | cons a l => exact absurd (by rw [hc]; exact List.mem_cons_self) (fun hm => ht a hm)
  | cons q qs =>
    have e1 : pd_hd mi = .codeWith mi.1 mi.2.1 mi.2.2.1 mi.2.2.2.1 (q :: qs) := by unfold pd_hd; rw [hh]
    rw [e1] at body ⊢
    refine vx_ofWH (cc := mi.2.1) (maxL := mi.2.2.1) (ret := mi.2.2.2.1) (hh := q :: qs) hp rfl ?_
    intro p e s m args below meth c s₁ B hml hP
    refine body p e s m args below meth c s₁ B hml ?_ hP
    rw [hh]
    exact vx_table (x := mi.1) B (atoms_spec (ws := _) B.pre _ List.mem_cons_self)
