/-! ===== constant strings, their length and letters ===== -/
/-- a Latin text that lay there at the start -/
def SI (G : pd_G) (a : Nat) (bs : List Int32) : Prop := bs.length < 2 ^ 31 ∧ va_O "java/lang/String" a (fun q => pd_z G ≤ q) G.2.2.2.1 G.2.2.2.1.heap ∧ va_OF "java/lang/String" "coder" "B" (.int 0) a (fun q => pd_z G ≤ q) G.2.2.2.1 G.2.2.2.1.heap ∧ ∃ v, va_OF "java/lang/String" "value" "[B" (.ref v) a (fun q => pd_z G ≤ q) G.2.2.2.1 G.2.2.2.1.heap ∧ va_T .byte v bs.length (fun j => .int (bs.getD j 0)) (fun q => pd_z G ≤ q) G.2.2.2.1 G.2.2.2.1.heap
/-- its row of bytes -/
def SV (G : pd_G) (v : Nat) (bs : List Int32) : Prop := bs.length < 2 ^ 31 ∧ va_T .byte v bs.length (fun j => .int (bs.getD j 0)) (fun q => pd_z G ≤ q) G.2.2.2.1 G.2.2.2.1.heap
section STR
variable {G : pd_G} {mi : pd_MI} {h mc ms cs ss pc : Nat} {lo : List (Option Value)} {st : List Value} {M : pd_M} {Q : pd_O → pd_M → Prop}
theorem pd_keptq {p : Program} {s : State} {m : MethodId} {args : Array Value} {meth : Method} {c : Code} (F : pd_Fr G mi p s m args meth c) : ∀ a : Nat, a < G.2.2.2.1.heap.size → ¬ pd_z G ≤ a → s.heap[a]? = G.2.2.2.1.heap[a]? := fun a h _ => F.2.2.2.2.2.2.2.2.2.2.2.2.2 a h
theorem at_sgetf {o n d : String} (ref : String) {a idx : Nat} {v : Value} (hE : va_OF o n d v a (fun q => pd_z G ≤ q) G.2.2.2.1 G.2.2.2.1.heap) (hl : Cond.fieldLink mi.1.cls idx o n d ∈ pd_TB) (hdg : decode mi.2.1 pc = .ok (.getfield idx, 3)) (K : pd_At G mi h mc ms cs ss (pc + 3) lo (v :: st) M Q) : pd_At G mi h mc ms cs ss pc lo (.ref a :: st) M Q := fun d' p e s m args below meth c H locs ls hd F hS hW hlv =>
  vk_getf F.1 F.2.1 (ref := o) (va_OF.moved F.2.2.2.2.2.2.2.2.1.alike (hE.kept (pd_keptq F))) hS F.2.2.2.2.1 (F.2.2.2.2.2.1 _ hl) (fun _ q => q) hdg (K d' p e s m args below meth c H locs ls hd F hS hW hlv)
theorem at_slen {bs : List Int32} {a : Nat} (hT : SV G a bs) (hdg : decode mi.2.1 pc = .ok (.arraylength, 1)) (K : pd_At G mi h mc ms cs ss (pc + 1) lo (.int (nI bs.length) :: st) M Q) : pd_At G mi h mc ms cs ss pc lo (.ref a :: st) M Q := fun d' p e s m args below meth c H locs ls hd F hS hW hlv =>
  va_tlen F.1 F.2.1 (va_T.moved F.2.2.2.2.2.2.2.2.1.alike (hT.2.kept (pd_keptq F))) hS rfl hdg (K d' p e s m args below meth c H locs ls hd F hS hW hlv)
theorem at_sbald {bs : List Int32} {a : Nat} {i : Int32} (hT : SV G a bs) (hin : vp_in i bs.length) (hdg : decode mi.2.1 pc = .ok (.baload, 1)) (K : pd_At G mi h mc ms cs ss (pc + 1) lo (.int (bs.getD i.toNatClampNeg 0) :: st) M Q) : pd_At G mi h mc ms cs ss pc lo (.int i :: .ref a :: st) M Q := fun d' p e s m args below meth c H locs ls hd F hS hW hlv =>
  va_tb F.1 F.2.1 (va_T.moved F.2.2.2.2.2.2.2.2.1.alike (hT.2.kept (pd_keptq F))) hS hin rfl hdg (K d' p e s m args below meth c H locs ls hd F hS hW hlv)
theorem at_gets {C n d : String} {idx : Nat} {v : Value} (hZ : va_Z C n d v (fun q => pd_z G ≤ q) G.2.2.2.1 G.2.2.2.1.heap) (hl : Cond.fieldLink mi.1.cls idx C n d ∈ pd_TB) (hdg : decode mi.2.1 pc = .ok (.getstatic idx, 3)) (K : pd_At G mi h mc ms cs ss (pc + 3) lo (v :: st) M Q) : pd_At G mi h mc ms cs ss pc lo st M Q := fun d' p e s m args below meth c H locs ls hd F hS hW hlv =>
  va_gets F.1 F.2.1 (ref := C) (va_Z.moved F.2.2.2.2.2.2.2.2.1.alike (hZ.kept (pd_keptq F))) hS F.2.2.2.2.1 (F.2.2.2.2.2.1 _ hl) (fun _ q => q) hdg (K d' p e s m args below meth c H locs ls hd F hS hW hlv)
theorem at_nret {v : Int32} {ty : FieldType} (hr : mi.2.2.2.1 = some ty) (hdg : decode mi.2.1 pc = .ok (.ireturn, 1)) (hn : narrow ty (.int v) = .int v) (hq : Q (.inl (some (.int v))) M) (hc : cs ≤ mc := by first | exact Nat.le_refl _ | omega) (hs : ss ≤ ms := by first | exact Nat.le_refl _ | omega) : pd_At G mi h mc ms cs ss pc lo [.int v] M Q := fun d p e s m args below meth c H locs ls hd F hS hW hl =>
  vx_ret (W.widen hc hs (W.zret F.1 F.2.1 (F.2.2.1.trans hr) hn (fun t ht _ => pd_Qc_of hq hW hS.1 ht) hS.2.2 hdg F.2.2.2.2.2.2.1))
/-- a method of a text is called -/
theorem at_callT {mi' : pd_MI} {h' mc' ms' idx n a : Nat} {bs : List Int32} {As : List Value} {Q' : pd_O → pd_M → Prop} (hcb : pd_CB mi' n) (hlk : Cond.methodLink mi.1.cls idx mi'.1 ∈ pd_TB) (hin : Cond.instanceMethod mi'.1 ∈ pd_TB) (hse : Cond.selects mi'.1.cls mi'.1 mi'.1 ∈ pd_TB) (hcl : mi'.1.cls = "java/lang/String") (hn : As.length = n) (hSI : SI G a bs) (hE : pd_Ev G mi' h' mc' ms' (.ref a :: As) M Q') (hh : h' + 1 ≤ h) (hb : cs + mc' ≤ mc ∧ ss + ms' ≤ ms) (hst : (st.map fun v => v.category).sum ≤ 8) (hdg : decode mi.2.1 pc = .ok (.invokevirtual idx, 3))
    (K : ∀ o M', Q' o M' → pd_Kc G mi h mc ms (cs + mc') (ss + ms') pc lo st Q o M') : pd_At G mi h mc ms cs ss pc lo (As.reverse ++ .ref a :: st) M Q := by
  intro d p e s m args below meth c H locs ls hd F hS hW hl
  have hts := F.2.2.2.2.2.1
  obtain ⟨cell, h1, h2, h3, -⟩ := (va_O.moved F.2.2.2.2.2.2.2.2.1.alike (hSI.2.1.kept (pd_keptq F))).kept hS.2.1
  have hrecv : ∃ cell : Cell, H[a]? = some cell ∧ cell.vm.isStatics = false ∧ s.vm.findClass mi'.1.cls = some cell.cls := ⟨cell, h1, h2, by rw [hcl]; exact h3⟩
  refine pd_run (mc' := mc') (ms' := ms') hd F hS hl (vx_runV ⟨F.1, F.2.1, F.2.2.2.1, F.2.2.2.2.1, hts⟩ (hE (d - 1) (by omega)) ⟨pd_callB hcb hts hlk (by show d - 1 + 1 ≤ d; omega) (by show 100 * (d - 1 + 1) ≤ 100 * d; omega), hts _ hin, hts _ hse⟩ ⟨pd_blind _ _, hrecv, fun U hU hWm => ⟨rfl, F.2.2.2.2.2.2.2.1, State.WarmedH.trans F.2.2.2.2.2.2.2.2.1 hWm, by rw [hU]; exact hW⟩⟩ rfl hn hl.1 rfl (lv_room hst) hdg hb) K
/-- where a constant text lies -/
def pd_sa (G : pd_G) (own : String) (k : Nat) : Nat := match (Term.string own k).eval #[Value.ref G.2.2.2.2] G.2.2.2.1 none [] G.2.2.2.1 with
  | some (.ref a) => a
  | _ => 0
/-- the words that a constant text is known by -/
def pd_sw (own tx : String) (k : Nat) (bs : List Int32) : Prop := Cond.stringRef own k tx ∈ lw_tbl ∧ bs.length < 2 ^ 31 ∧ Cond.exactly (.string own k) "java/lang/String" ∈ flatC (Jvm.Cond.and given_1 narrow_1) ∧ Cond.eq (.field (.string own k) "java/lang/String" "coder" "B") (.int 0) ∈ flatC (Jvm.Cond.and given_1 narrow_1) ∧ Cond.arrayOf (.field (.string own k) "java/lang/String" "value" "[B") .byte ∈ flatC (Jvm.Cond.and given_1 narrow_1) ∧ Cond.eq (.length (.field (.string own k) "java/lang/String" "value" "[B")) (.int (Int32.ofNat bs.length)) ∈ flatC (Jvm.Cond.and given_1 narrow_1) ∧ (List.range bs.length).all (fun j => decide (Cond.eq (.elem (.field (.string own k) "java/lang/String" "value" "[B") (.int (Int32.ofNat j))) (.int (bs.getD j 0)) ∈ flatC (Jvm.Cond.and given_1 narrow_1))) = true
theorem pd_sa_of (hOK : pd_OK G) {own tx : String} {k : Nat} {bs : List Int32} (hw : pd_sw own tx k bs) : (Term.string own k).eval #[Value.ref G.2.2.2.2] G.2.2.2.1 none [] G.2.2.2.1 = some (.ref (pd_sa G own k)) := by
  obtain ⟨a, c0, cA, kA, q1, -⟩ := Cond.exactly_spec (args := #[Value.ref G.2.2.2.2]) (first := G.2.2.2.1) (o := none) (s := G.2.2.2.1) (idx := []) (pd_given hOK hw.2.2.1)
  unfold pd_sa
  rw [q1]
theorem pd_SI (hOK : pd_OK G) {own tx : String} {k : Nat} {bs : List Int32} (hw : pd_sw own tx k bs) : SI G (pd_sa G own k) bs := by
  have hA : ∀ a : Nat, a < G.2.2.2.1.heap.size → ¬ pd_z G ≤ a := fun a h => Nat.not_le.mpr h
  have hs := pd_sa_of hOK hw
  obtain ⟨a, c0, cA, kA, q1, q2, q3, q4, q5, q6, -⟩ := Cond.exactly_spec (args := #[Value.ref G.2.2.2.2]) (first := G.2.2.2.1) (o := none) (s := G.2.2.2.1) (idx := []) (pd_given hOK hw.2.2.1)
  have ea : a = pd_sa G own k := by rw [q1] at hs; cases hs; rfl
  subst ea
  obtain ⟨t, ht, hT⟩ := va_Tof (f := fun j => .int (bs.getD j 0)) (A := fun q => pd_z G ≤ q) hw.2.1 (pd_given hOK hw.2.2.2.2.1) (va_eqt (pd_given hOK hw.2.2.2.2.2.1)) (fun j hj => va_eqt (pd_given hOK (by
    have := List.all_eq_true.mp hw.2.2.2.2.2.2 j (List.mem_range.mpr hj)
    simpa using this))) hA
  exact ⟨hw.2.1, ⟨cA, q3, q5, by rw [q6]; exact q2, hA _ (Array.getElem?_eq_some_iff.mp q3).1⟩, vk_OFof q1 (va_eqt (pd_given hOK hw.2.2.2.1)) hA, t, vk_OFof q1 ht hA, hT⟩
theorem at_ldcS {own tx : String} {k : Nat} {bs : List Int32} (hw : pd_sw own tx k bs) (ho : mi.1.cls = own) (hdg : decode mi.2.1 pc = .ok (.ldc k, 2)) (K : SI G (pd_sa G own k) bs → pd_At G mi h mc ms cs ss (pc + 2) lo (.ref (pd_sa G own k) :: st) M Q) : pd_At G mi h mc ms cs ss pc lo st M Q := fun d' p e s m args below meth c H locs ls hd F hS hW hlv =>
  va_ldcS F.1 F.2.1 (by rw [← ho]; exact F.2.2.2.2.1) (vk_R.warm F.2.2.2.2.2.2.2.2.1 (vk_R.of (F.2.2.2.2.2.2.2.1.2.2.1 _ hw.1) (pd_sa_of F.2.2.2.2.2.2.2.1 hw))) hdg (K (pd_SI F.2.2.2.2.2.2.2.1 hw) d' p e s m args below meth c H locs ls hd F hS hW hlv)
/-- what holds of the start may be taken -/
theorem at_ok (K : pd_OK G → pd_At G mi h mc ms cs ss pc lo st M Q) : pd_At G mi h mc ms cs ss pc lo st M Q := fun d' p e s m args below meth c H locs ls hd F hS hW hlv => K F.2.2.2.2.2.2.2.1 d' p e s m args below meth c H locs ls hd F hS hW hlv
end STR
set_option maxRecDepth 100000 in
theorem ws_fl : Cond.fieldLink RJ0 9 "java/lang/String" "value" "[B" ∈ pd_TB ∧ Cond.fieldLink RJ0 15 "java/lang/String" "coder" "B" ∈ pd_TB ∧ Cond.fieldLink RJ0 38 "java/lang/String" "COMPACT_STRINGS" "Z" ∈ pd_TB ∧ Cond.fieldLink RJ0 1053 "jdk/internal/util/Preconditions" "SIOOBE_FORMATTER" "Ljava/util/function/BiFunction;" ∈ pd_TB := ⟨pd_tbm (ws := [_]) (by decide +kernel) _ List.mem_cons_self, pd_tbm (ws := [_]) (by decide +kernel) _ List.mem_cons_self, pd_tbm (ws := [_]) (by decide +kernel) _ List.mem_cons_self, pd_tbm (ws := [_]) (by decide +kernel) _ List.mem_cons_self⟩
set_option maxRecDepth 100000 in
theorem ws_st : Cond.laysStatic "java/lang/String" "COMPACT_STRINGS" "Z" ∈ lw_tbl ∧ Cond.initialized "java/lang/String" ∈ lw_tbl ∧ Cond.laysStatic "jdk/internal/util/Preconditions" "SIOOBE_FORMATTER" "Ljava/util/function/BiFunction;" ∈ lw_tbl ∧ Cond.initialized "jdk/internal/util/Preconditions" ∈ lw_tbl ∧ Cond.eq (.static "java/lang/String" "COMPACT_STRINGS" "Z") (.int 1) ∈ flatC (Jvm.Cond.and given_1 narrow_1) ∧ Cond.isRef (.static "jdk/internal/util/Preconditions" "SIOOBE_FORMATTER" "Ljava/util/function/BiFunction;") ∈ flatC (Jvm.Cond.and given_1 narrow_1) := ⟨by decide +kernel, by decide +kernel, by decide +kernel, by decide +kernel, by decide +kernel, by decide +kernel⟩
section STR2
variable {G : pd_G} {M : pd_M}
theorem ws_cs (hOK : pd_OK G) : va_Z "java/lang/String" "COMPACT_STRINGS" "Z" (.int 1) (fun q => pd_z G ≤ q) G.2.2.2.1 G.2.2.2.1.heap := va_Zof (hOK.2.2.1 _ ws_st.1) (hOK.2.2.1 _ ws_st.2.1) (va_eqi (pd_given hOK ws_st.2.2.2.2.1)) (fun a h => Nat.not_le.mpr h)
theorem ws_fm (hOK : pd_OK G) : va_Zq "jdk/internal/util/Preconditions" "SIOOBE_FORMATTER" "Ljava/util/function/BiFunction;" (fun q => pd_z G ≤ q) G.2.2.2.1 G.2.2.2.1.heap := va_Zqof (hOK.2.2.1 _ ws_st.2.2.1) (hOK.2.2.1 _ ws_st.2.2.2.1) (pd_given hOK ws_st.2.2.2.2.2) (fun a h => Nat.not_le.mpr h)
theorem ev_J3_checkIndexN {i n : Nat} (h : i < n) (hn : n < 2 ^ 31) : pd_Ev G mi_J3_checkIndex_8e157 1 0 0 [.int (nI i), .int (nI n), .null] M (pd_rt (.int (nI i)) M) := by
  refine pd_ev 0 (lo := [some (.int (nI i)), some (.int (nI n)), some (.null)]) (by decide +kernel) (Nat.le_of_ble_eq_true rfl) rfl ?_
  refine at_iload_n dJ3_checkIndex_8e157_0 rfl ?_
  refine at_iflt (tgt := 9) dJ3_checkIndex_8e157_1 (by decide) (fun c1 => ?_) (fun c1 => ?_)
  · -- taken 1
    exact absurd c1 (nI_pos (by omega))
  · -- not taken 1
    refine at_iload_n dJ3_checkIndex_8e157_4 rfl ?_
    refine at_iload_n dJ3_checkIndex_8e157_5 rfl ?_
    refine at_icmplt (tgt := 16) dJ3_checkIndex_8e157_6 (by decide) (fun c6 => ?_) (fun c6 => ?_)
    · -- taken 6
      refine at_iload_n dJ3_checkIndex_8e157_16 rfl ?_
      refine at_iret rfl dJ3_checkIndex_8e157_17 ?_
      exact ⟨rfl, rfl⟩
    · -- not taken 6
      exact absurd (nI_lt h hn) c6
theorem ev_J3_checkIndexR {i n t : Nat} (h : i < n) (hn : n < 2 ^ 31) : pd_Ev G mi_J3_checkIndex_8e157 1 0 0 [.int (nI i), .int (nI n), .ref t] M (pd_rt (.int (nI i)) M) := by
  refine pd_ev 0 (lo := [some (.int (nI i)), some (.int (nI n)), some (.ref t)]) (by decide +kernel) (Nat.le_of_ble_eq_true rfl) rfl ?_
  refine at_iload_n dJ3_checkIndex_8e157_0 rfl ?_
  refine at_iflt (tgt := 9) dJ3_checkIndex_8e157_1 (by decide) (fun c1 => ?_) (fun c1 => ?_)
  · -- taken 1
    exact absurd c1 (nI_pos (by omega))
  · -- not taken 1
    refine at_iload_n dJ3_checkIndex_8e157_4 rfl ?_
    refine at_iload_n dJ3_checkIndex_8e157_5 rfl ?_
    refine at_icmplt (tgt := 16) dJ3_checkIndex_8e157_6 (by decide) (fun c6 => ?_) (fun c6 => ?_)
    · -- taken 6
      refine at_iload_n dJ3_checkIndex_8e157_16 rfl ?_
      refine at_iret rfl dJ3_checkIndex_8e157_17 ?_
      exact ⟨rfl, rfl⟩
    · -- not taken 6
      exact absurd (nI_lt h hn) c6
theorem ev_J0_checkIndex {i n : Nat} (h : i < n) (hn : n < 2 ^ 31) : pd_Ev G mi_J0_checkIndex_df160 2 0 0 [.int (nI i), .int (nI n)] M (pd_rv M) := by
  refine pd_ev 0 (lo := [some (.int (nI i)), some (.int (nI n))]) (by decide +kernel) (Nat.le_of_ble_eq_true rfl) rfl ?_
  refine at_iload_n dJ0_checkIndex_df160_0 rfl ?_
  refine at_iload_n dJ0_checkIndex_df160_1 rfl ?_
  refine at_ok fun hOK => ?_
  rcases ws_fm hOK with hz | ⟨t, hz⟩
  · refine at_gets hz ws_fl.2.2.2 dJ0_checkIndex_df160_2 ?_
    refine at_cs3 csJ0_1059 (ev_J3_checkIndexN h hn) (by decide) ⟨Nat.le_refl _, Nat.le_refl _⟩ (Nat.le_of_ble_eq_true rfl) dJ0_checkIndex_df160_5 (pd_k1 ?_)
    refine at_pop dJ0_checkIndex_df160_8 rfl ?_
    exact at_vret rfl dJ0_checkIndex_df160_9 ⟨rfl, rfl⟩
  · refine at_gets hz ws_fl.2.2.2 dJ0_checkIndex_df160_2 ?_
    refine at_cs3 csJ0_1059 (ev_J3_checkIndexR h hn) (by decide) ⟨Nat.le_refl _, Nat.le_refl _⟩ (Nat.le_of_ble_eq_true rfl) dJ0_checkIndex_df160_5 (pd_k1 ?_)
    refine at_pop dJ0_checkIndex_df160_8 rfl ?_
    exact at_vret rfl dJ0_checkIndex_df160_9 ⟨rfl, rfl⟩
theorem ev_J0_coder {a : Nat} {bs : List Int32} (hS : SI G a bs) : pd_Ev G mi_J0_coder_7d493 1 0 0 [.ref a] M (pd_rt (.int 0) M) := by
  refine pd_ev 0 (lo := [some (.ref a)]) (by decide +kernel) (Nat.le_of_ble_eq_true rfl) rfl ?_
  refine at_ok fun hOK => ?_
  refine at_gets (ws_cs hOK) ws_fl.2.2.1 dJ0_coder_7d493_0 ?_
  refine at_ifeq (tgt := 13) dJ0_coder_7d493_3 (by decide) (fun q => absurd q (by decide)) (fun _ => ?_)
  refine at_aload_n dJ0_coder_7d493_6 rfl ?_
  refine at_sgetf "" hS.2.2.1 ws_fl.2.1 dJ0_coder_7d493_7 ?_
  refine at_goto (tgt := 14) dJ0_coder_7d493_10 (by decide) ?_
  exact at_nret rfl dJ0_coder_7d493_14 (by decide) ⟨rfl, rfl⟩
theorem ev_J0_isLatin1 {a : Nat} {bs : List Int32} (hS : SI G a bs) : pd_Ev G mi_J0_isLatin1_aae02 1 0 0 [.ref a] M (pd_rt (.int 1) M) := by
  refine pd_ev 0 (lo := [some (.ref a)]) (by decide +kernel) (Nat.le_of_ble_eq_true rfl) rfl ?_
  refine at_ok fun hOK => ?_
  refine at_gets (ws_cs hOK) ws_fl.2.2.1 dJ0_isLatin1_aae02_0 ?_
  refine at_ifeq (tgt := 17) dJ0_isLatin1_aae02_3 (by decide) (fun q => absurd q (by decide)) (fun _ => ?_)
  refine at_aload_n dJ0_isLatin1_aae02_6 rfl ?_
  refine at_sgetf "" hS.2.2.1 ws_fl.2.1 dJ0_isLatin1_aae02_7 ?_
  refine at_ifne (tgt := 17) dJ0_isLatin1_aae02_10 (by decide) (fun q => absurd rfl q) (fun _ => ?_)
  refine at_iconst dJ0_isLatin1_aae02_13 pc_i1 ?_
  refine at_goto (tgt := 18) dJ0_isLatin1_aae02_14 (by decide) ?_
  exact at_nret rfl dJ0_isLatin1_aae02_18 (by decide) ⟨rfl, rfl⟩
theorem sc_shz {n : Nat} (h : n < 2 ^ 31) : nI n >>> ((0 : Int32) &&& 31) = nI n := by
  rw [pk_shrN h _ 0 (by decide), Nat.pow_zero, Nat.div_one]
theorem ev_J0_length {a : Nat} {bs : List Int32} (hS : SI G a bs) : pd_Ev G mi_J0_length_8abf5 2 0 0 [.ref a] M (pd_rt (.int (nI bs.length)) M) := by
  obtain ⟨v, hv, hT⟩ := hS.2.2.2
  refine pd_ev 0 (lo := [some (.ref a)]) (by decide +kernel) (Nat.le_of_ble_eq_true rfl) rfl ?_
  refine at_aload_n dJ0_length_8abf5_0 rfl ?_
  refine at_sgetf "" hv ws_fl.1 dJ0_length_8abf5_1 ?_
  refine at_slen (bs := bs) ⟨hS.1, hT⟩ dJ0_length_8abf5_4 ?_
  refine at_aload_n dJ0_length_8abf5_5 rfl ?_
  refine at_callT (As := []) cb_J0_coder_7d493 mlJ0_335 im_J0_coder_7d493 se_J0_coder_7d493 rfl rfl hS (ev_J0_coder hS) (by decide) ⟨Nat.le_refl _, Nat.le_refl _⟩ (Nat.le_of_ble_eq_true rfl) dJ0_length_8abf5_6 (pd_k1 ?_)
  refine at_ishr dJ0_length_8abf5_9 ?_
  rw [sc_shz hS.1]
  exact at_iret rfl dJ0_length_8abf5_10 ⟨rfl, rfl⟩
/-- the letter as charAt gives it -/
def sc_c (b : Int32) : Int32 := ((b &&& 255).toUInt32 % 65536).toInt32
theorem ev_J1_charAt {v i : Nat} {bs : List Int32} (hT : SV G v bs) (hi : i < bs.length) : pd_Ev G mi_J1_charAt_3b067 3 0 0 [.ref v, .int (nI i)] M (pd_rt (.int (sc_c (bs.getD i 0))) M) := by
  have hcl : (nI i).toNatClampNeg = i := nI_clamp (by have := hT.1; omega)
  refine pd_ev 0 (lo := [some (.ref v), some (.int (nI i))]) (by decide +kernel) (Nat.le_of_ble_eq_true rfl) rfl ?_
  refine at_iload_n dJ1_charAt_3b067_0 rfl ?_
  refine at_aload_n dJ1_charAt_3b067_1 rfl ?_
  refine at_slen hT dJ1_charAt_3b067_2 ?_
  refine at_cs2 csJ1_9 (ev_J0_checkIndex hi hT.1) (by decide) ⟨Nat.le_refl _, Nat.le_refl _⟩ (Nat.le_of_ble_eq_true rfl) dJ1_charAt_3b067_3 (pd_k0 ?_)
  refine at_aload_n dJ1_charAt_3b067_6 rfl ?_
  refine at_iload_n dJ1_charAt_3b067_7 rfl ?_
  refine at_sbald hT (vp_in_nI hi hT.1) dJ1_charAt_3b067_8 ?_
  refine at_sipush dJ1_charAt_3b067_9 pc_s255 ?_
  refine at_iand dJ1_charAt_3b067_12 ?_
  refine at_i2c dJ1_charAt_3b067_13 ?_
  rw [hcl]
  exact at_nret rfl dJ1_charAt_3b067_14 (pk_nc _) ⟨rfl, rfl⟩
theorem ev_J0_charAt {a i : Nat} {bs : List Int32} (hS : SI G a bs) (hi : i < bs.length) : pd_Ev G mi_J0_charAt_5068e 4 0 0 [.ref a, .int (nI i)] M (pd_rt (.int (sc_c (bs.getD i 0))) M) := by
  obtain ⟨v, hv, hT⟩ := hS.2.2.2
  refine pd_ev 0 (lo := [some (.ref a), some (.int (nI i))]) (by decide +kernel) (Nat.le_of_ble_eq_true rfl) rfl ?_
  refine at_aload_n dJ0_charAt_5068e_0 rfl ?_
  refine at_callT (As := []) cb_J0_isLatin1_aae02 mlJ0_492 im_J0_isLatin1_aae02 se_J0_isLatin1_aae02 rfl rfl hS (ev_J0_isLatin1 hS) (by decide) ⟨Nat.le_refl _, Nat.le_refl _⟩ (Nat.le_of_ble_eq_true rfl) dJ0_charAt_5068e_1 (pd_k1 ?_)
  refine at_ifeq (tgt := 16) dJ0_charAt_5068e_4 (by decide) (fun q => absurd q (by decide)) (fun _ => ?_)
  refine at_aload_n dJ0_charAt_5068e_7 rfl ?_
  refine at_sgetf "" hv ws_fl.1 dJ0_charAt_5068e_8 ?_
  refine at_iload_n dJ0_charAt_5068e_11 rfl ?_
  refine at_cs2 csJ0_495 (ev_J1_charAt ⟨hS.1, hT⟩ hi) (by decide) ⟨Nat.le_refl _, Nat.le_refl _⟩ (Nat.le_of_ble_eq_true rfl) dJ0_charAt_5068e_12 (pd_k1 ?_)
  exact at_nret rfl dJ0_charAt_5068e_15 (pk_nc _) ⟨rfl, rfl⟩
end STR2
