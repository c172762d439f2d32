/-! ===== Math, arraycopy, things made, constructors, throws, handlers ===== -/
section PDX
variable {G : pd_G} {mi : pd_MI} {h mc ms cs ss pc : Nat} {lo : List (Option Value)} {st : List Value} {M : pd_M} {Q : pd_O → pd_M → Prop}
set_option maxRecDepth 100000 in
theorem pd_max_w : Cond.static Lib.Math.max.name ∈ pd_TB ∧ Cond.initialized "java/lang/Math" ∈ pd_TB ∧ Cond.code Lib.Math.max.name Lib.Math.max.code 2 (some .int) ∈ pd_TB := ⟨pd_tbm (ws := [_]) (by decide +kernel) _ List.mem_cons_self, pd_tbm (ws := [_]) (by decide +kernel) _ List.mem_cons_self, pd_tbm (ws := [_]) (by decide +kernel) _ List.mem_cons_self⟩
set_option maxRecDepth 100000 in
theorem pd_min_w : Cond.static Lib.Math.min.name ∈ pd_TB ∧ Cond.initialized "java/lang/Math" ∈ pd_TB ∧ Cond.code Lib.Math.min.name Lib.Math.min.code 2 (some .int) ∈ pd_TB := ⟨pd_tbm (ws := [_]) (by decide +kernel) _ List.mem_cons_self, pd_tbm (ws := [_]) (by decide +kernel) _ List.mem_cons_self, pd_tbm (ws := [_]) (by decide +kernel) _ List.mem_cons_self⟩
set_option maxRecDepth 100000 in
theorem pd_abs_w : Cond.static Lib.MathLoose.abs_long.x ∈ pd_TB ∧ Cond.initialized "java/lang/Math" ∈ pd_TB ∧ Cond.code Lib.MathLoose.abs_long.x Lib.MathLoose.abs_long.code 2 (some .long) ∈ pd_TB := ⟨pd_tbm (ws := [_]) (by decide +kernel) _ List.mem_cons_self, pd_tbm (ws := [_]) (by decide +kernel) _ List.mem_cons_self, pd_tbm (ws := [_]) (by decide +kernel) _ List.mem_cons_self⟩
theorem at_max {idx : Nat} {x y : Int32} (hl : Cond.methodLink mi.1.cls idx Lib.Math.max.name ∈ pd_TB) (hh : 1 ≤ h) (hst : (st.map fun v => v.category).sum ≤ 8) (hdg : decode mi.2.1 pc = .ok (.invokestatic idx, 3)) (K : pd_At G mi h mc ms cs ss (pc + 3) lo (.int (if x < y then y else x) :: st) M Q) (hc : cs ≤ mc := by first | exact Nat.le_refl _ | omega) (hs : ss ≤ ms := by first | exact Nat.le_refl _ | omega) : pd_At G mi h mc ms cs ss pc lo (.int y :: .int x :: st) M Q := fun d p e s m args below meth c H locs ls hd F hS hW hlv =>
  va_mmax F.1 F.2.1 (F.2.2.2.1.trans hlv.1.symm) F.2.2.2.2.1 (F.2.2.2.2.2.1 _ hl) (F.2.2.2.2.2.1 _ pd_max_w.1) (F.2.2.2.2.2.1 _ pd_max_w.2.1) (F.2.2.2.2.2.1 _ pd_max_w.2.2) (by show 1 ≤ d; omega) (by show _ ≤ 100 * d; omega) hc hs hdg (K d p e s m args below meth c H locs ls hd F hS hW hlv)
theorem at_min {idx : Nat} {x y : Int32} (hl : Cond.methodLink mi.1.cls idx Lib.Math.min.name ∈ pd_TB) (hh : 1 ≤ h) (hst : (st.map fun v => v.category).sum ≤ 8) (hdg : decode mi.2.1 pc = .ok (.invokestatic idx, 3)) (K : pd_At G mi h mc ms cs ss (pc + 3) lo (.int (if y < x then y else x) :: st) M Q) (hc : cs ≤ mc := by first | exact Nat.le_refl _ | omega) (hs : ss ≤ ms := by first | exact Nat.le_refl _ | omega) : pd_At G mi h mc ms cs ss pc lo (.int y :: .int x :: st) M Q := fun d p e s m args below meth c H locs ls hd F hS hW hlv =>
  va_mmin F.1 F.2.1 (F.2.2.2.1.trans hlv.1.symm) F.2.2.2.2.1 (F.2.2.2.2.2.1 _ hl) (F.2.2.2.2.2.1 _ pd_min_w.1) (F.2.2.2.2.2.1 _ pd_min_w.2.1) (F.2.2.2.2.2.1 _ pd_min_w.2.2) (by show 1 ≤ d; omega) (by show _ ≤ 100 * d; omega) hc hs hdg (K d p e s m args below meth c H locs ls hd F hS hW hlv)
theorem at_abs {idx : Nat} {x : Int64} (hl : Cond.methodLink mi.1.cls idx Lib.MathLoose.abs_long.x ∈ pd_TB) (hh : 1 ≤ h) (hst : (st.map fun v => v.category).sum ≤ 8) (hdg : decode mi.2.1 pc = .ok (.invokestatic idx, 3)) (K : pd_At G mi h mc ms cs ss (pc + 3) lo (.long (if 0 < x then x else -x) :: st) M Q) (hc : cs ≤ mc := by first | exact Nat.le_refl _ | omega) (hs : ss ≤ ms := by first | exact Nat.le_refl _ | omega) : pd_At G mi h mc ms cs ss pc lo (.long x :: st) M Q := fun d p e s m args below meth c H locs ls hd F hS hW hlv =>
  va_mabs_long F.1 F.2.1 (F.2.2.2.1.trans hlv.1.symm) F.2.2.2.2.1 (F.2.2.2.2.2.1 _ hl) (F.2.2.2.2.2.1 _ pd_abs_w.1) (F.2.2.2.2.2.1 _ pd_abs_w.2.1) (F.2.2.2.2.2.1 _ pd_abs_w.2.2) (by show 1 ≤ d; omega) (by show _ ≤ 100 * d; omega) hc hs hdg (K d p e s m args below meth c H locs ls hd F hS hW hlv)
set_option maxRecDepth 100000 in
theorem pd_copy_w : Cond.native arraycopyName ∈ pd_TB ∧ Cond.static arraycopyName ∈ pd_TB ∧ Cond.initialized "java/lang/System" ∈ pd_TB := ⟨pd_tbm (ws := [_]) (by decide +kernel) _ List.mem_cons_self, pd_tbm (ws := [_]) (by decide +kernel) _ List.mem_cons_self, pd_tbm (ws := [_]) (by decide +kernel) _ List.mem_cons_self⟩
/-- n ints of the row at a0 from sp on come to the row at a from dp on -/
def pd_cp (I : Nat → Nat → Int32) (a0 a sp dp n : Nat) : Nat → Nat → Int32 := fun b j => if b = a ∧ dp ≤ j ∧ j < dp + n then I a0 (sp + (j - dp)) else I b j
theorem at_copy {S : List (Nat × Nat)} {I L R} {idx a0 a n0 n1 : Nat} {sp dp n : Int32} (hl : Cond.methodLink mi.1.cls idx arraycopyName ∈ pd_TB) (hs0 : S[a0]? = some (9, n0)) (hs1 : S[a]? = some (9, n1)) (h1 : ¬ sp < 0) (h2 : ¬ dp < 0) (h3 : ¬ n < 0) (h4 : sp.toNatClampNeg + n.toNatClampNeg ≤ n0) (h5 : dp.toNatClampNeg + n.toNatClampNeg ≤ n1) (hh : 1 ≤ h) (hst : (st.map fun v => v.category).sum ≤ 8) (hdg : decode mi.2.1 pc = .ok (.invokestatic idx, 3))
    (K : pd_At G mi h mc ms cs ss (pc + 3) lo st (S, false, pd_cp I a0 a sp.toNatClampNeg dp.toNatClampNeg n.toNatClampNeg, L, R) Q) : pd_At G mi h mc ms cs ss pc lo (.int n :: .int dp :: .ref (pd_z G + a) :: .int sp :: .ref (pd_z G + a0) :: st) (S, false, I, L, R) Q := by
  intro d p e s m args below meth c H locs ls hd F hS hW hlv
  have hts := F.2.2.2.2.2.1
  refine va_copyi F.1 F.2.1 (F.2.2.2.1.trans hlv.1.symm) F.2.2.2.2.1 (hts _ hl) (hts _ pd_copy_w.1) (hts _ pd_copy_w.2.1) (hts _ pd_copy_w.2.2) F.2.2.2.2.2.2.2.2.2.1 hW.1 (pd_ws_D G S I L R) hS a0 a 0 0 (ty := .int) (pd_ws_get hs0) (pd_ws_get hs1) rfl rfl rfl h1 h2 h3 h4 h5 (fun _ _ => rfl) (by show 1 ≤ d; omega) ?_ hdg fun H1 locs1 hP1 hD1 hS1 => ?_
  · show (st.map fun v => v.category).sum + (nativeFrameWords "java/lang/System" "arraycopy" 5 + 11) ≤ 100 * d
    have : nativeFrameWords "java/lang/System" "arraycopy" 5 ≤ 60 := by decide +kernel
    omega
  · have e1 : (pd_ws G S I L R).set a (pd_z G + a, .inl (G.2.2.1 0, n1, .inl (va_cpy (I a0) (I a) sp.toNatClampNeg dp.toNatClampNeg n.toNatClampNeg))) = pd_ws G S (pd_cp I a0 a sp.toNatClampNeg dp.toNatClampNeg n.toNatClampNeg) L R := by
      refine pd_ws_set hs1 ?_ (fun j hj => ?_) (fun _ _ => rfl) (fun _ _ => rfl)
      · show Sum.inl _ = Sum.inl _
        congr 4
        funext j
        simp [va_cpy, pd_cp]
      · funext b; simp [pd_cp, hj]
    have hP2 : va_P G.2.1 pd_cl (pd_ws G S (pd_cp I a0 a sp.toNatClampNeg dp.toNatClampNeg n.toNatClampNeg) L R) H1 := by rw [← e1]; exact hP1
    refine K d p e s m args below meth c H1 locs1 ls hd F hS1 ⟨hP2, fun q hq => ?_, ?_, fun hf => by cases hf⟩ hlv
    · have hb := F.2.2.2.2.2.2.2.2.2.2.2.2
      rw [hS1.2.1 q (by omega) (Nat.not_le.mpr hq)]
      exact hb.2 q hq
    · have hlen := (List.getElem?_eq_some_iff.mp hs1).1
      show pd_z G + S.length ≤ H1.size
      cases hS2 : S[S.length - 1]? with
      | none => rw [List.getElem?_eq_none_iff] at hS2; omega
      | some x =>
        have := (hP2 (S.length - 1) _ (pd_ws_get hS2)).lt
        dsimp only at this
        omega
/-! what is made: behind the last -/
def pd_fresh (S : List (Nat × Nat)) (I : Nat → Nat → Int32) (L : Nat → Nat → Int64) (R : Nat → Nat → Option Nat) : Prop := ∀ a, S.length ≤ a → (∀ j, I a j = 0) ∧ (∀ j, L a j = 0) ∧ ∀ j, R a j = none
theorem pd_ws_push {G : pd_G} {S : List (Nat × Nat)} {I L R} {x : Nat × Nat} : pd_ws G (S ++ [x]) I L R = pd_ws G S I L R ++ [(pd_z G + S.length, pd_ce (pd_z G) G.2.2.1 x (I S.length) (L S.length) (R S.length))] := by
  apply List.ext_getElem?
  intro k
  by_cases hk : k < S.length
  · rw [List.getElem?_append_left (by rw [pd_ws_len]; exact hk)]
    have h1 : S[k]? = some S[k] := List.getElem?_eq_getElem hk
    rw [pd_ws_get h1, pd_ws_get (x := S[k]) (by rw [List.getElem?_append_left hk]; exact h1)]
  · by_cases hk2 : k = S.length
    · subst hk2
      rw [pd_ws_get (x := x) (by simp), List.getElem?_append_right (by rw [pd_ws_len]; exact Nat.le_refl _), pd_ws_len]
      simp
    · rw [List.getElem?_eq_none (by rw [pd_ws_len]; simp; omega), List.getElem?_eq_none (by rw [List.length_append, pd_ws_len]; simp; omega)]
theorem pd_Wd_push {S : List (Nat × Nat)} {I L R} {x : Nat × Nat} {H H1 : Heap} (hW : pd_Wd G (S, true, I, L, R) H) (he : va_at G.2.1 pd_cl (pd_z G + S.length, pd_ce (pd_z G) G.2.2.1 x (I S.length) (L S.length) (R S.length)) H1) (hz : H1.size = H.size + 1) (ho : ∀ q, q < H.size → H1[q]? = H[q]?) : pd_Wd G (S ++ [x], true, I, L, R) H1 := by
  have hsz : H.size = pd_z G + S.length := hW.2.2.2 rfl
  refine ⟨?_, fun q hq => ?_, ?_, fun _ => ?_⟩
  · show va_P _ _ (pd_ws G (S ++ [x]) I L R) H1
    rw [pd_ws_push]
    refine (hW.1.kept (fun k q hk => ho q.1 ((hW.1 k q hk).lt))).app (fun k q hk => ?_)
    have h0 : k < 1 := (List.getElem?_eq_some_iff.mp hk).1
    rw [show k = 0 by omega] at hk
    cases hk
    exact he
  · rw [ho q (by omega)]; exact hW.2.1 q hq
  · show pd_z G + (S ++ [x]).length ≤ _
    rw [List.length_append, hz, hsz]; simp; omega
  · show _ = pd_z G + (S ++ [x]).length
    rw [List.length_append, hz, hsz]; simp; omega
theorem at_new {S : List (Nat × Nat)} {I L R} {idx ci N : Nat} {C : String} {T : u_T} (hk : Cond.classLink mi.1.cls idx C ∈ pd_TB) (hi : Cond.instantiable C N ∈ pd_TB) (hn : Cond.initialized C ∈ pd_TB) (hc : pd_cl[ci]? = some (C, T, N)) (hf : pd_fresh S I L R) (hb : cs + 1 ≤ mc ∧ ss + N ≤ ms) (hdg : decode mi.2.1 pc = .ok (.new idx, 3))
    (K : pd_At G mi h mc ms (cs + 1) (ss + N) (pc + 3) lo (.ref (pd_z G + S.length) :: st) (S ++ [(ci, 0)], true, I, L, R) Q) : pd_At G mi h mc ms cs ss pc lo st (S, true, I, L, R) Q := by
  intro d p e s m args below meth c H locs ls hd F hS hW hlv
  have hts := F.2.2.2.2.2.1
  have hK := F.2.2.2.2.2.2.2.2.2.1
  obtain ⟨hci, ty, ck⟩ := pd_ck ci _ hc
  have hKn := hK.1 ci _ hc
  have hsz : H.size = pd_z G + S.length := hW.2.2.2 rfl
  refine W.newcK F.1 F.2.1 F.2.2.2.2.1 (hts _ hk) (hts _ hi) (hts _ hn) rfl hdg hb.1 hb.2 hKn.2.1 hsz fun H1 kC hkC e1 z1 o1 => ?_
  refine K d p e s m args below meth c H1 locs ls hd F ⟨Nat.le_trans hS.1 (by omega), fun x h1 h2 => (o1 x (by have := hS.1; omega)).trans (hS.2.1 x h1 h2), hS.2.2⟩ (pd_Wd_push hW ?_ (by rw [z1, hsz]) (fun q hq => o1 q (by omega))) hlv
  rw [pd_ce_obj hci]
  refine ⟨_, hc, (u_born ty hts ck.1 hKn hkC e1 ck.2.1).to (fun j hj => ?_)⟩
  have hll : j < (pd_lay ci).length := by rw [ck.2.2.2.1]; exact hj
  have hg : (pd_lay ci)[j]? = some ((pd_lay ci).getD j 9) := by rw [List.getD_eq_getElem?_getD, List.getElem?_eq_getElem hll]; rfl
  have hfr := hf S.length (Nat.le_refl _)
  show defaultValue (ty j) = vp_V _ j
  unfold vp_V
  rw [List.getD_eq_getElem?_getD, pd_fs_at hg]
  rcases ck.2.2.2.2 j hj with ⟨a, b⟩ | ⟨a, b⟩ | ⟨a, b⟩
  · rw [a, b]; simp [pd_v, hfr.1, defaultValue]
  · rw [a, b]; simp [pd_v, hfr.2.1, defaultValue]
  · rw [a]
    have : pd_v (pd_z G) (I S.length) (L S.length) (R S.length) j 2 = .null := by simp [pd_v, hfr.2.2, va_rf]
    rw [this]
    generalize ty j = w at b ⊢
    cases w <;> first | (simp [FieldType.isReference] at b; done) | rfl
theorem at_newa {S : List (Nat × Nat)} {I L R} {atype : ArrayType} {n : Int32} (t N : Nat) (ht : (t = 9 ∧ atype = .int) ∨ (t = 10 ∧ atype = .byte) ∨ (t = 11 ∧ atype = .long)) (ha : Cond.arrayClass (newarray.typeOf atype) ∈ pd_TB) (hn0 : ¬ n < 0) (hN : n.toNatClampNeg = N) (hN2 : N ≤ 100000) (hf : pd_fresh S I L R) (hb : cs + 1 ≤ mc ∧ ss + N ≤ ms) (hdg : decode mi.2.1 pc = .ok (.newarray atype, 2))
    (K : pd_At G mi h mc ms (cs + 1) (ss + N) (pc + 2) lo (.ref (pd_z G + S.length) :: st) (S ++ [(t, N)], true, I, L, R) Q) : pd_At G mi h mc ms cs ss pc lo (.int n :: st) (S, true, I, L, R) Q := by
  intro d p e s m args below meth c H locs ls hd F hS hW hlv
  have hts := F.2.2.2.2.2.1
  have hK := F.2.2.2.2.2.2.2.2.2.1
  have hsz : H.size = pd_z G + S.length := hW.2.2.2 rfl
  have hfr := hf S.length (Nat.le_refl _)
  refine va_newaK F.1 F.2.1 (hts _ ha) rfl hdg rfl hn0 hN ?_ hb.1 hb.2 hsz fun H1 cA e1 z1 o1 hAr hNm => ?_
  · rcases ht with ⟨-, rfl⟩ | ⟨-, rfl⟩ | ⟨-, rfl⟩ <;> simp [newarray.typeOf, componentBytes] <;> omega
  · refine K d p e s m args below meth c H1 locs ls hd F ⟨Nat.le_trans hS.1 (by omega), fun x h1 h2 => (o1 x (by have := hS.1; omega)).trans (hS.2.1 x h1 h2), hS.2.2⟩ (pd_Wd_push hW ?_ (by rw [z1, hsz]) (fun q hq => o1 q (by omega))) hlv
    rcases ht with ⟨rfl, rfl⟩ | ⟨rfl, rfl⟩ | ⟨rfl, rfl⟩
    · have h1 : s.vm.findClass ("[" ++ (FieldType.int).toString) = some (G.2.2.1 0) := (hK.2 0 _ rfl).2
      have h2 : cA = G.2.2.1 0 := Option.some.inj (hNm.symm.trans h1)
      subst h2
      show H1[pd_z G + S.length]? = some (vp_cell _ _)
      rw [e1, vp_cell_i]
      congr 2
      funext j; simp [hfr.1, newarray.typeOf, defaultValue]
    · have h1 : s.vm.findClass ("[" ++ (FieldType.byte).toString) = some (G.2.2.1 1) := (hK.2 1 _ rfl).2
      have h2 : cA = G.2.2.1 1 := Option.some.inj (hNm.symm.trans h1)
      subst h2
      show H1[pd_z G + S.length]? = some (vp_cell _ _)
      rw [e1, vp_cell_i]
      congr 2
      funext j; simp [hfr.1, newarray.typeOf, defaultValue]
    · have h1 : s.vm.findClass ("[" ++ (FieldType.long).toString) = some (G.2.2.1 2) := (hK.2 2 _ rfl).2
      have h2 : cA = G.2.2.1 2 := Option.some.inj (hNm.symm.trans h1)
      subst h2
      show H1[pd_z G + S.length]? = some (vp_cell _ _)
      rw [e1, vp_cell_l]
      congr 2
      funext j; simp [hfr.2.1, newarray.typeOf, defaultValue]
/-- a word of the start's tables, at any later state -/
theorem pd_ow {w : Cond} (hw : w ∈ lw_tbl) {s : State} (hOK : pd_OK G) : w.before #[Value.ref G.2.2.2.2] G.2.2.2.1 = true := hOK.2.2.1 w hw
theorem at_anew {S : List (Nat × Nat)} {I L R} {idx : Nat} {n : Int32} (N : Nat) (hk : Cond.classLink mi.1.cls idx "PetitionDesk$Petition" ∈ pd_TB) (ho : Cond.arrayOver (.object "PetitionDesk$Petition") ∈ lw_tbl) (hn0 : ¬ n < 0) (hN : n.toNatClampNeg = N) (hN2 : N ≤ 100000) (hf : pd_fresh S I L R) (hb : cs + 1 ≤ mc ∧ ss + N ≤ ms) (hdg : decode mi.2.1 pc = .ok (.anewarray idx, 3))
    (K : pd_At G mi h mc ms (cs + 1) (ss + N) (pc + 3) lo (.ref (pd_z G + S.length) :: st) (S ++ [(12, N)], true, I, L, R) Q) : pd_At G mi h mc ms cs ss pc lo (.int n :: st) (S, true, I, L, R) Q := by
  intro d p e s m args below meth c H locs ls hd F hS hW hlv
  have hts := F.2.2.2.2.2.1
  have hK := F.2.2.2.2.2.2.2.2.2.1
  have hsz : H.size = pd_z G + S.length := hW.2.2.2 rfl
  have hfr := hf S.length (Nat.le_refl _)
  have hov : va_AO "PetitionDesk$Petition" s := va_AO.moved F.2.2.2.2.2.2.2.2.1.alike (va_AO.of (F.2.2.2.2.2.2.2.1.2.2.1 _ ho))
  subst hN
  refine W.anew F.1 F.2.1 F.2.2.2.2.1 (hts _ hk) (va_AO.use hov) rfl hdg rfl hn0 (by omega) hb.1 hb.2 fun cA kA comp h1 h2 h3 h4 => ?_
  rw [hsz]
  refine K d p e s m args below meth c _ locs ls hd F ⟨Nat.le_trans hS.1 (by simp), fun x q1 q2 => ?_, hS.2.2⟩ (pd_Wd_push hW ?_ (by simp) (fun q hq => ?_)) hlv
  · have : x < H.size := Nat.lt_of_lt_of_le q1 hS.1
    rw [Array.getElem?_push, if_neg (Nat.ne_of_lt this)]
    exact hS.2.1 x q1 q2
  · have g1 := (hK.2 3 _ rfl).2
    obtain ⟨kA2, comp2, -, -, -, g4⟩ := g1
    have g2 : cA = G.2.2.1 3 := Option.some.inj (h1.symm.trans g4)
    subst g2
    show (H.push _)[pd_z G + S.length]? = some (vp_cell _ _)
    rw [← hsz, Array.getElem?_push, if_pos rfl, vp_cell_q]
    congr 1
    have hnull : ∀ j, va_rf (pd_rr (pd_z G) (R S.length) j) = Value.null := fun j => by simp [pd_rr, hfr.2.2, va_rf]
    rw [show (fun j => va_rf (pd_rr (pd_z G) (R S.length) j)) = (fun _ => Value.null) from funext hnull]
    exact arrV_new _ _ _
  · rw [Array.getElem?_push, if_neg (Nat.ne_of_lt hq)]
theorem at_oinit {idx a : Nat} (hl : Cond.methodLink mi.1.cls idx Lib.objectInit ∈ pd_TB) (hi : Cond.instanceMethod Lib.objectInit ∈ pd_TB) (hc : Cond.code Lib.objectInit ⟨#[0xb1]⟩ 1 none ∈ pd_TB) (hh : 1 ≤ h) (hst : (st.map fun v => v.category).sum ≤ 8) (hdg : decode mi.2.1 pc = .ok (.invokespecial idx, 3)) (K : pd_At G mi h mc ms cs ss (pc + 3) lo st M Q) : pd_At G mi h mc ms cs ss pc lo (.ref a :: st) M Q := fun d p e s m args below meth c H locs ls hd F hS hW hlv =>
  W.objInit F.1 F.2.1 F.2.2.2.2.1 (F.2.2.2.2.2.1 _ hl) (F.2.2.2.2.2.1 _ hi) (F.2.2.2.2.2.1 _ hc) rfl (hlv.1.trans F.2.2.2.1.symm) rfl hdg (by show 1 ≤ d; omega) (by have := lv_room (m := m) (pc := pc) (ls := ls) (rest := Value.ref a :: st) hst; show _ ≤ 100 * d; omega) (K d p e s m args below meth c H locs ls hd F hS hW hlv)
/-- a constructor of a class of the world's is called -/
theorem at_callI {mi' : pd_MI} {h' mc' ms' idx n a : Nat} {As : List Value} {Q' : pd_O → pd_M → Prop} (hcb : pd_CB mi' n) (hret : mi'.2.2.2.1 = none) (hl : Cond.methodLink mi.1.cls idx mi'.1 ∈ pd_TB) (hy : mi'.1.name = "<init>") (hi : Cond.instanceMethod mi'.1 ∈ pd_TB) (hn : As.length = n) (hE : pd_Ev G mi' h' mc' ms' (.ref a :: As) M Q') (hh : h' + 1 ≤ h) (hb : cs + mc' ≤ mc ∧ ss + ms' ≤ ms) (hst : (st.map fun v => v.category).sum ≤ 8) (hdg : decode mi.2.1 pc = .ok (.invokespecial idx, 3))
    (K : ∀ o M', Q' o M' → pd_Kc G mi h mc ms (cs + mc') (ss + ms') pc lo st Q o M') : pd_At G mi h mc ms cs ss pc lo (As.reverse ++ .ref a :: st) M Q := by
  intro d p e s m args below meth c H locs ls hd F hS hW hlv
  have hts := F.2.2.2.2.2.1
  have hB := pd_callB (mc' := mc') (ms' := ms') (R := pd_rm d mc ms) hcb hts hl (d := d - 1) (by show d - 1 + 1 ≤ d; omega) (by show 100 * (d - 1 + 1) ≤ 100 * d; omega)
  rw [hret] at hB
  exact pd_run (mc' := mc') (ms' := ms') hd F hS hlv (vx_runI ⟨F.1, F.2.1, F.2.2.2.1, F.2.2.2.2.1, hts⟩ (hE (d - 1) (by omega)) ⟨hB, hy, hts _ hi⟩ ⟨pd_blind _ _, fun U hU hWm => ⟨rfl, F.2.2.2.2.2.2.2.1, State.WarmedH.trans F.2.2.2.2.2.2.2.2.1 hWm, by rw [hU]; exact hW⟩⟩ rfl hn hlv.1 rfl (lv_room hst) hdg hb) K
/-- the same, a nest mate's private one -/
theorem at_callIN {mi' : pd_MI} {h' mc' ms' idx n a : Nat} {As : List Value} {host : String} {Q' : pd_O → pd_M → Prop} (hcb : pd_CB mi' n) (hret : mi'.2.2.2.1 = none) (hl : Cond.methodLinkNest mi.1.cls idx mi'.1 host ∈ lw_tbl) (hy : mi'.1.name = "<init>") (hi : Cond.instanceMethod mi'.1 ∈ pd_TB) (hn : As.length = n) (hE : pd_Ev G mi' h' mc' ms' (.ref a :: As) M Q') (hh : h' + 1 ≤ h) (hb : cs + mc' ≤ mc ∧ ss + ms' ≤ ms) (hst : (st.map fun v => v.category).sum ≤ 8) (hdg : decode mi.2.1 pc = .ok (.invokespecial idx, 3))
    (K : ∀ o M', Q' o M' → pd_Kc G mi h mc ms (cs + mc') (ss + ms') pc lo st Q o M') : pd_At G mi h mc ms cs ss pc lo (As.reverse ++ .ref a :: st) M Q := by
  intro d p e s m args below meth c H locs ls hd F hS hW hlv
  have hts := F.2.2.2.2.2.1
  have hw : va_Nw (.methodLinkNest mi.1.cls idx mi'.1 host) s := va_Nw.warmM F.2.2.2.2.2.2.2.2.1 (va_Nw.of rfl (F.2.2.2.2.2.2.2.1.2.2.1 _ hl))
  have hhd : pd_hd mi' = .code mi'.1 mi'.2.1 mi'.2.2.1 none := by unfold pd_hd; rw [hcb.2.2.2.2.2, hret]
  have hB := va_cnB (R := pd_rm d mc ms) (args := args) (rm := pd_rm (d - 1) mc' ms') (mc := mc') (ms := ms') (ws := pd_hd mi' :: pd_TB) (ws' := pd_TB) (bytes := mi'.2.1) (maxL := mi'.2.2.1) (ret := none) n hts (pd_good hcb.1) (by rw [hhd]) rfl rfl hw (hts _ hcb.2.1) ⟨hcb.2.2.1.1, hcb.2.2.1.2, hcb.2.2.2.1⟩ ⟨by show d - 1 + 1 ≤ d; omega, by have := hcb.2.2.2.2.1; show 8 + (mi'.2.2.1 + 11) + 100 * (d - 1) ≤ 100 * d; omega⟩
  exact pd_run (mc' := mc') (ms' := ms') hd F hS hlv (vx_runIN ⟨F.1, F.2.1, F.2.2.2.1, F.2.2.2.2.1, hts⟩ (hE (d - 1) (by omega)) ⟨hB, hy, hts _ hi⟩ ⟨pd_blind _ _, fun U hU hWm => ⟨rfl, F.2.2.2.2.2.2.2.1, State.WarmedH.trans F.2.2.2.2.2.2.2.2.1 hWm, by rw [hU]; exact hW⟩⟩ rfl hn hlv.1 rfl (lv_room hst) hdg hb) K
/-- a static method with handlers is called -/
theorem at_callSX {mi' : pd_MI} {h' mc' ms' idx n : Nat} {As : List Value} {Q' : pd_O → pd_M → Prop} (hhd : pd_hd mi' ∈ pd_TB) (hh2 : mi'.2.2.2.2 ≠ []) (hini : Cond.initialized mi'.1.cls ∈ pd_TB) (hd0 : mi'.1.cls ≠ "java/lang/invoke/MethodHandle" ∧ mi'.1.cls ≠ "java/lang/invoke/VarHandle" ∧ (parseMethodDescriptor mi'.1.desc).map (fun d => d.parameters.length) = some n) (hmx : mi'.2.2.1 ≤ 80) (hl : Cond.methodLink mi.1.cls idx mi'.1 ∈ pd_TB) (hstt : Cond.static mi'.1 ∈ pd_TB) (hn : As.length = n) (hE : pd_Ev G mi' h' mc' ms' As M Q') (hh : h' + 1 ≤ h) (hb : cs + mc' ≤ mc ∧ ss + ms' ≤ ms) (hst : (st.map fun v => v.category).sum ≤ 8) (hdg : decode mi.2.1 pc = .ok (.invokestatic idx, 3))
    (K : ∀ o M', Q' o M' → pd_Kc G mi h mc ms (cs + mc') (ss + ms') pc lo st Q o M') : pd_At G mi h mc ms cs ss pc lo (As.reverse ++ st) M Q := by
  intro d p e s m args below meth c H locs ls hd F hS hW hlv
  have hts := F.2.2.2.2.2.1
  have e1 : pd_hd mi' = .codeWith mi'.1 mi'.2.1 mi'.2.2.1 mi'.2.2.2.1 mi'.2.2.2.2 := by
    unfold pd_hd
    cases hq : mi'.2.2.2.2 with
    | nil => exact absurd hq hh2
    | cons a l => rfl
  have hC : vx_CSW (pd_rm d mc ms) s args mi.1.cls idx mi'.1 mi'.2.1 mi'.2.2.1 mi'.2.2.2.1 mi'.2.2.2.2 (pd_hd mi' :: pd_TB) (pd_rm (d - 1) mc' ms') mc' ms' n := by
    refine ⟨⟨rfl, rfl, by show d - 1 + 1 ≤ d; omega, by show 8 + (mi'.2.2.1 + 11) + 100 * (d - 1) ≤ 100 * d; omega, pay_in hts (pd_good hhd), by rw [e1]; exact List.mem_cons_self⟩, by rw [← e1]; exact hts _ hhd, hts _ hini, ⟨hd0.1, hd0.2.1⟩, fun sig hsig => ?_, hts _ hl, hts _ hstt⟩
    have h2 := hd0.2.2
    rw [hsig] at h2
    exact (Option.some.inj h2).symm
  exact pd_run (mc' := mc') (ms' := ms') hd F hS hlv (vx_runSX ⟨F.1, F.2.1, F.2.2.2.1, F.2.2.2.2.1, hts⟩ (hE (d - 1) (by omega)) hC ⟨pd_blind _ _, fun U hU hWm => ⟨rfl, F.2.2.2.2.2.2.2.1, State.WarmedH.trans F.2.2.2.2.2.2.2.2.1 hWm, by rw [hU]; exact hW⟩⟩ rfl hn hlv.1 rfl (lv_room hst) hdg hb) K
/-- nothing is asked of the size any more -/
theorem at_loose {S : List (Nat × Nat)} {fx : Bool} {I L R} (K : pd_At G mi h mc ms cs ss pc lo st (S, false, I, L, R) Q) : pd_At G mi h mc ms cs ss pc lo st (S, fx, I, L, R) Q := fun d p e s m args below meth c H locs ls hd F hS hW hlv => K d p e s m args below meth c H locs ls hd F hS ⟨hW.1, hW.2.1, hW.2.2.1, fun q => by cases q⟩ hlv
end PDX
