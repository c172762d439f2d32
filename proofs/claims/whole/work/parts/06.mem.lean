/-! ===== fields, arrays, returns ===== -/
def pd_FL (own : String) (idx ci j : Nat) : Prop := ∃ (C : String) (T : u_T) (N : Nat), pd_cl[ci]? = some (C, T, N) ∧ j < N ∧ Cond.fieldLink own idx (T j).1 (T j).2.1 (T j).2.2.1 ∈ pd_TB
/-- what the tables say of each class -/
def pd_CK (q : vw_C) (ty : Nat → FieldType) (lay : List Nat) : Prop := (∀ w ∈ u_ws q.1 q.2.1 q.2.2, w ∈ pd_TB) ∧ (∀ k, k < q.2.2 → parseFieldDescriptor (q.2.1 k).2.2.1 = some (ty k)) ∧ (∀ a, a < q.2.2 → ∀ b, b < q.2.2 → a ≠ b → (q.2.1 a).2.1 ≠ (q.2.1 b).2.1) ∧ lay.length = q.2.2 ∧
  ∀ k, k < q.2.2 → (lay.getD k 9 = 0 ∧ ty k = .int) ∨ (lay.getD k 9 = 1 ∧ ty k = .long) ∨ (lay.getD k 9 = 2 ∧ (ty k).isReference = true)
theorem pd_tbm {ws : List Cond} (h : ws.all (fun w => decide (w ∈ lw_tbl) && goodWord w) = true) : ∀ w ∈ ws, w ∈ pd_TB := fun w hw => by
  have h1 := List.all_eq_true.mp h w hw
  simp only [Bool.and_eq_true, decide_eq_true_eq] at h1
  exact List.mem_filter.mpr h1
set_option maxRecDepth 100000 in
theorem pd_ck0 : pd_CK (RX0, TX0, 2) tyX0 (pd_lay 0) := ⟨pd_tbm (by decide +kernel), tyX0_ok, nmX0, rfl, by decide +kernel⟩
set_option maxRecDepth 100000 in
theorem pd_ck1 : pd_CK (RX1, TX1, 8) tyX1 (pd_lay 1) := ⟨pd_tbm (by decide +kernel), tyX1_ok, nmX1, rfl, by decide +kernel⟩
set_option maxRecDepth 100000 in
theorem pd_ck2 : pd_CK (RX3, TX3, 19) tyX3 (pd_lay 2) := ⟨pd_tbm (by decide +kernel), tyX3_ok, nmX3, rfl, by decide +kernel⟩
set_option maxRecDepth 100000 in
theorem pd_ck3 : pd_CK (RX4, TX4, 2) tyX4 (pd_lay 3) := ⟨pd_tbm (by decide +kernel), tyX4_ok, nmX4, rfl, by decide +kernel⟩
set_option maxRecDepth 100000 in
theorem pd_ck4 : pd_CK (RX5, TX5, 2) tyX5 (pd_lay 4) := ⟨pd_tbm (by decide +kernel), tyX5_ok, nmX5, rfl, by decide +kernel⟩
set_option maxRecDepth 100000 in
theorem pd_ck5 : pd_CK (RX6, TX6, 6) tyX6 (pd_lay 5) := ⟨pd_tbm (by decide +kernel), tyX6_ok, nmX6, rfl, by decide +kernel⟩
set_option maxRecDepth 100000 in
theorem pd_ck6 : pd_CK (RX7, TX7, 6) tyX7 (pd_lay 6) := ⟨pd_tbm (by decide +kernel), tyX7_ok, nmX7, rfl, by decide +kernel⟩
set_option maxRecDepth 100000 in
theorem pd_ck7 : pd_CK (RX8, TX8, 11) tyX8 (pd_lay 7) := ⟨pd_tbm (by decide +kernel), tyX8_ok, nmX8, rfl, by decide +kernel⟩
set_option maxRecDepth 100000 in
theorem pd_ck8 : pd_CK (RX9, TX9, 21) tyX9 (pd_lay 8) := ⟨pd_tbm (by decide +kernel), tyX9_ok, nmX9, rfl, by decide +kernel⟩
theorem pd_ck : ∀ (ci : Nat) (q : vw_C), pd_cl[ci]? = some q → ci < 9 ∧ ∃ ty, pd_CK q ty (pd_lay ci)
  | 0, _, h => by cases h; exact ⟨by decide, _, pd_ck0⟩
  | 1, _, h => by cases h; exact ⟨by decide, _, pd_ck1⟩
  | 2, _, h => by cases h; exact ⟨by decide, _, pd_ck2⟩
  | 3, _, h => by cases h; exact ⟨by decide, _, pd_ck3⟩
  | 4, _, h => by cases h; exact ⟨by decide, _, pd_ck4⟩
  | 5, _, h => by cases h; exact ⟨by decide, _, pd_ck5⟩
  | 6, _, h => by cases h; exact ⟨by decide, _, pd_ck6⟩
  | 7, _, h => by cases h; exact ⟨by decide, _, pd_ck7⟩
  | 8, _, h => by cases h; exact ⟨by decide, _, pd_ck8⟩
  | k + 9, _, h => by simp [pd_cl] at h
theorem pd_ce_obj {z : Nat} {tc : Nat → ClassId} {ci n : Nat} {i l r} (h : ci < 9) : pd_ce z tc (ci, n) i l r = .inr (ci, pd_fs z i l r 0 (pd_lay ci)) := by
  match ci, h with
  | 0, _ => rfl
  | 1, _ => rfl
  | 2, _ => rfl
  | 3, _ => rfl
  | 4, _ => rfl
  | 5, _ => rfl
  | 6, _ => rfl
  | 7, _ => rfl
  | 8, _ => rfl
  | k + 9, h => omega
theorem pd_fs_at {z : Nat} {i : Nat → Int32} {l : Nat → Int64} {r : Nat → Option Nat} {ts : List Nat} {j t : Nat} (h : ts[j]? = some t) : (pd_fs z i l r 0 ts)[j]? = some (pd_v z i l r j t) := by
  rw [pd_fs_get, h]; simp
section PDM
variable {G : pd_G} {mi : pd_MI} {h mc ms cs ss pc : Nat} {lo : List (Option Value)} {st : List Value} {Q : pd_O → pd_M → Prop} {S : List (Nat × Nat)} {fx : Bool} {I : Nat → Nat → Int32} {L : Nat → Nat → Int64} {R : Nat → Nat → Option Nat}
theorem at_get {idx ci j k n t : Nat} (hf : pd_FL mi.1.cls idx ci j) (hl : (pd_lay ci)[j]? = some t) (hs : S[k]? = some (ci, n)) (hdg : decode mi.2.1 pc = .ok (.getfield idx, 3))
    (K : pd_At G mi h mc ms cs ss (pc + 3) lo (pd_v (pd_z G) (I k) (L k) (R k) j t :: st) (S, fx, I, L, R) Q) : pd_At G mi h mc ms cs ss pc lo (.ref (pd_z G + k) :: st) (S, fx, I, L, R) Q := by
  intro d p e s m args below meth c H locs ls hd F hS hW hlv
  obtain ⟨C, T, N, hc, hj, hlk⟩ := hf
  obtain ⟨hci, ty, ck⟩ := pd_ck ci _ hc
  have he := pd_ws_get (G := G) (I := I) (L := L) (R := R) hs
  rw [pd_ce_obj hci] at he
  exact va_get F.1 F.2.1 F.2.2.2.2.2.1 ck.1 F.2.2.2.2.1 F.2.2.2.2.2.2.2.2.2.1 hW.1 k he hc j hj (F.2.2.2.2.2.1 _ hlk) (fun x hx => hx) (pd_fs_at hl) hdg (K d p e s m args below meth c H locs ls hd F hS hW hlv)
theorem at_geti {idx ci j k n : Nat} (hf : pd_FL mi.1.cls idx ci j) (hl : (pd_lay ci)[j]? = some 0) (hs : S[k]? = some (ci, n)) (hdg : decode mi.2.1 pc = .ok (.getfield idx, 3))
    (K : pd_At G mi h mc ms cs ss (pc + 3) lo (.int (I k j) :: st) (S, fx, I, L, R) Q) : pd_At G mi h mc ms cs ss pc lo (.ref (pd_z G + k) :: st) (S, fx, I, L, R) Q := at_get hf hl hs hdg K
theorem at_getl {idx ci j k n : Nat} (hf : pd_FL mi.1.cls idx ci j) (hl : (pd_lay ci)[j]? = some 1) (hs : S[k]? = some (ci, n)) (hdg : decode mi.2.1 pc = .ok (.getfield idx, 3))
    (K : pd_At G mi h mc ms cs ss (pc + 3) lo (.long (L k j) :: st) (S, fx, I, L, R) Q) : pd_At G mi h mc ms cs ss pc lo (.ref (pd_z G + k) :: st) (S, fx, I, L, R) Q := at_get hf hl hs hdg K
theorem at_getr {idx ci j k n : Nat} (q : Nat) (hf : pd_FL mi.1.cls idx ci j) (hl : (pd_lay ci)[j]? = some 2) (hs : S[k]? = some (ci, n)) (hr : R k j = some q) (hdg : decode mi.2.1 pc = .ok (.getfield idx, 3))
    (K : pd_At G mi h mc ms cs ss (pc + 3) lo (.ref (pd_z G + q) :: st) (S, fx, I, L, R) Q) : pd_At G mi h mc ms cs ss pc lo (.ref (pd_z G + k) :: st) (S, fx, I, L, R) Q := at_get hf hl hs hdg (by rw [show pd_v (pd_z G) (I k) (L k) (R k) j 2 = .ref (pd_z G + q) by simp [pd_v, hr, va_rf]]; exact K)
theorem pd_fs_set {z : Nat} {i i' : Nat → Int32} {l l' : Nat → Int64} {r r' : Nat → Option Nat} {ts : List Nat} {j t : Nat} {v : Value} (h : ts[j]? = some t) (hv : v = pd_v z i' l' r' j t) (hI : ∀ a, a ≠ j → i' a = i a) (hL : ∀ a, a ≠ j → l' a = l a) (hR : ∀ a, a ≠ j → r' a = r a) : (pd_fs z i l r 0 ts).set j v = pd_fs z i' l' r' 0 ts := by
  have hj := (List.getElem?_eq_some_iff.mp h).1
  apply List.ext_getElem?
  intro a
  by_cases ha : a = j
  · subst ha
    rw [List.getElem?_set_self (by rw [pd_fs_len]; exact hj), pd_fs_get, h, hv]; simp
  · rw [List.getElem?_set_ne (Ne.symm ha), pd_fs_get, pd_fs_get, Nat.zero_add]
    congr 1
    funext t
    unfold pd_v
    rw [hI a ha, hL a ha, hR a ha]
theorem pd_Wd_set {I' : Nat → Nat → Int32} {L' : Nat → Nat → Int64} {R' : Nat → Nat → Option Nat} {H H1 : Heap} {k : Nat} {x : Nat × Nat} (hW : pd_Wd G (S, fx, I, L, R) H) (hs : S[k]? = some x) (he : va_at G.2.1 pd_cl (pd_z G + k, pd_ce (pd_z G) G.2.2.1 x (I' k) (L' k) (R' k)) H1)
    (hI : ∀ j, j ≠ k → I' j = I j) (hL : ∀ j, j ≠ k → L' j = L j) (hR : ∀ j, j ≠ k → R' j = R j) (e2 : H1.size = H.size) (e3 : ∀ q, q ≠ pd_z G + k → H1[q]? = H[q]?) : pd_Wd G (S, fx, I', L', R') H1 := by
  refine ⟨?_, fun q hq => ?_, ?_, ?_⟩
  · have h1 := va_P.set hW.1 (pd_ws_D G S I L R) (pd_ws_get hs) he e3
    rw [pd_ws_set hs rfl hI hL hR] at h1
    exact h1
  · rw [e3 q (by omega)]; exact hW.2.1 q hq
  · rw [e2]; exact hW.2.2.1
  · rw [e2]; exact hW.2.2.2
/-- a field is written: not final, or in the constructor of its own class -/
theorem at_put {idx ci j k n t : Nat} {v : Value} {I' : Nat → Nat → Int32} {L' : Nat → Nat → Int64} {R' : Nat → Nat → Option Nat} (hf : pd_FL mi.1.cls idx ci j) (hl : (pd_lay ci)[j]? = some t) (hs : S[k]? = some (ci, n))
    (hfin : ∀ C T N, pd_cl[ci]? = some (C, T, N) → (T j).2.2.2 = false ∨ ((T j).2.2.2 = true ∧ mi.1.name = "<init>" ∧ (T j).1 = mi.1.cls)) (hv : v = pd_v (pd_z G) (I' k) (L' k) (R' k) j t)
    (hI : ∀ a b, ¬ (a = k ∧ b = j) → I' a b = I a b) (hL : ∀ a b, ¬ (a = k ∧ b = j) → L' a b = L a b) (hR : ∀ a b, ¬ (a = k ∧ b = j) → R' a b = R a b) (hdg : decode mi.2.1 pc = .ok (.putfield idx, 3))
    (K : pd_At G mi h mc ms cs ss (pc + 3) lo st (S, fx, I', L', R') Q) : pd_At G mi h mc ms cs ss pc lo (v :: .ref (pd_z G + k) :: st) (S, fx, I, L, R) Q := by
  intro d p e s m args below meth c H locs ls hd F hS hW hlv
  obtain ⟨C, T, N, hc, hj, hlk⟩ := hf
  obtain ⟨hci, ty, ck⟩ := pd_ck ci _ hc
  have he := pd_ws_get (G := G) (I := I) (L := L) (R := R) hs
  rw [pd_ce_obj hci] at he
  have hty := ck.2.1 j hj
  have hcase := ck.2.2.2.2 j hj
  have ht : (pd_lay ci).getD j 9 = t := by simp [List.getD_eq_getElem?_getD, hl]
  rw [ht] at hcase
  have hfit : narrow (ty j) v = v ∧ fits (ty j) v = true := by
    rcases hcase with ⟨rfl, e1⟩ | ⟨rfl, e1⟩ | ⟨rfl, e1⟩
    · rw [e1, hv]; exact ⟨rfl, rfl⟩
    · rw [e1, hv]; exact ⟨rfl, rfl⟩
    · have h2 : v = .null ∨ ∃ a, v = .ref a := by
        rw [hv]
        cases hq : R' k j with
        | none => left; simp [pd_v, hq, va_rf]
        | some q => right; exact ⟨pd_z G + q, by simp [pd_v, hq, va_rf]⟩
      generalize ty j = w at e1 ⊢
      cases w <;> first | (simp [FieldType.isReference] at e1; done) | (rcases h2 with h2 | ⟨a, h2⟩ <;> rw [h2] <;> exact ⟨rfl, rfl⟩)
  have hll : j < (pd_fs (pd_z G) (I k) (L k) (R k) 0 (pd_lay ci)).length := by rw [pd_fs_len, ck.2.2.2.1]; exact hj
  have hset : (pd_fs (pd_z G) (I k) (L k) (R k) 0 (pd_lay ci)).set j v = pd_fs (pd_z G) (I' k) (L' k) (R' k) 0 (pd_lay ci) := pd_fs_set hl hv (fun a ha => hI k a (fun q => ha q.2)) (fun a ha => hL k a (fun q => ha q.2)) (fun a ha => hR k a (fun q => ha q.2))
  have hts := F.2.2.2.2.2.1
  have hK := F.2.2.2.2.2.2.2.2.2.1
  have hap := va_apart (own := mi.1.cls) hts ck.1 ty ck.2.1 ck.2.2.1 hK hc
  obtain ⟨r, h1, cell, q1, q2, q3, q4⟩ := hW.1 k _ he
  have hr : r = (C, T, N) := Option.some.inj (h1.symm.trans hc)
  subst hr
  obtain ⟨hS1, hfc, kC, hkC, hkind⟩ := hK.1 ci _ hc
  obtain ⟨cf, kf, fi, f, hi, hsl⟩ := hS1 j hj
  have hlay := hts _ (ck.1 _ (u_in_lay hj))
  unfold u_lay at hlay
  have hst := (u_facts hfc hkC (u_lays hts ck.1 hj) hi).1
  have go : ∀ H1 : Heap, H1[pd_z G + k]? = some (cell.setSlot f.slot v) → H1.size = H.size → (∀ q, q ≠ pd_z G + k → H1[q]? = H[q]?) → W p G.1 e (pd_rm d mc ms) s m args below meth c H1 (locs ++ [⟨pd_z G + k, f.slot⟩]) cs ss (vx_MQ below (pd_Qc G Q) (pd_Xc G Q) args s mc ms (fun q => pd_z G ≤ q)) (F0 m (pc + 3) ls st) := by
    intro H1 e1 e2 e3
    refine K d p e s m args below meth c H1 _ ls hd F (hS.put e2 e3 (Nat.le_add_right _ _)) (pd_Wd_set hW hs ?_ (fun a ha => funext fun b => hI a b (fun q => ha q.1)) (fun a ha => funext fun b => hL a b (fun q => ha q.1)) (fun a ha => funext fun b => hR a b (fun q => ha q.1)) e2 e3) hlv
    rw [pd_ce_obj hci, ← hset]
    rw [hsl] at e1
    exact ⟨_, hc, t_OB.to (V := updV (vp_V (pd_fs (pd_z G) (I k) (L k) (R k) 0 (pd_lay ci))) j v) ⟨_, e1, q2, q3, t_set q4 hap hj v⟩ (fun a _ => vp_updV_set hll v a)⟩
  rcases hfin C T N hc with hf0 | ⟨hf1, hin2, hdecl⟩
  · rw [if_neg (by rw [hf0]; decide)] at hlay
    have h6 := u_store hfc hkC hkind hlay hi hty hfit.1 hfit.2
    exact W.putK F.1 F.2.1 (f := f) ⟨F.2.2.2.2.1, hts _ hlk, ⟨_, _, _, hi⟩, hst⟩ (by rw [q2]; exact h6) q1 q3 (by rw [hsl]; exact k2_hasslot (q4 j hj)) rfl rfl hdg go
  · rw [if_pos hf1] at hlay
    have hcf : m.cls = cf := by
      obtain ⟨_, _, c', _, _, _, -, -, hf', -, -, -, hown2, -⟩ := Cond.laysFinal_spec hlay
      have e1 : c' = cf := by have := hi.symm.trans hf'; simp at this; exact this.1.symm
      rw [hdecl] at hown2
      rw [← e1]; exact Option.some.inj (F.2.2.2.2.1.symm.trans hown2)
    have h6 := u_fits hfc hkC hkind (Or.inr hlay) hi hty hfit.1 hfit.2
    exact W.putFinK F.1 F.2.1 F.2.2.2.2.1 (hts _ hlk) hi hst hcf (F.2.2.2.2.2.2.2.2.2.2.2.1.trans hin2) (by rw [q2]; exact h6) q1 q3 (by rw [hsl]; exact k2_hasslot (q4 j hj)) rfl rfl hdg go
theorem at_puti {idx ci j k n : Nat} {v : Int32} (hf : pd_FL mi.1.cls idx ci j) (hl : (pd_lay ci)[j]? = some 0) (hs : S[k]? = some (ci, n)) (hfin : ∀ C T N, pd_cl[ci]? = some (C, T, N) → (T j).2.2.2 = false) (hdg : decode mi.2.1 pc = .ok (.putfield idx, 3))
    (K : pd_At G mi h mc ms cs ss (pc + 3) lo st (S, fx, pd_up I k j v, L, R) Q) : pd_At G mi h mc ms cs ss pc lo (.int v :: .ref (pd_z G + k) :: st) (S, fx, I, L, R) Q :=
  at_put hf hl hs (fun C T N hc => Or.inl (hfin C T N hc)) (by simp [pd_v, pd_up]) (fun a b hq => by simp [pd_up, hq]) (fun _ _ _ => rfl) (fun _ _ _ => rfl) hdg K
theorem at_putl {idx ci j k n : Nat} {v : Int64} (hf : pd_FL mi.1.cls idx ci j) (hl : (pd_lay ci)[j]? = some 1) (hs : S[k]? = some (ci, n)) (hfin : ∀ C T N, pd_cl[ci]? = some (C, T, N) → (T j).2.2.2 = false) (hdg : decode mi.2.1 pc = .ok (.putfield idx, 3))
    (K : pd_At G mi h mc ms cs ss (pc + 3) lo st (S, fx, I, pd_up L k j v, R) Q) : pd_At G mi h mc ms cs ss pc lo (.long v :: .ref (pd_z G + k) :: st) (S, fx, I, L, R) Q :=
  at_put hf hl hs (fun C T N hc => Or.inl (hfin C T N hc)) (by simp [pd_v, pd_up]) (fun _ _ _ => rfl) (fun a b hq => by simp [pd_up, hq]) (fun _ _ _ => rfl) hdg K
theorem at_putr {idx ci j k n q : Nat} (hf : pd_FL mi.1.cls idx ci j) (hl : (pd_lay ci)[j]? = some 2) (hs : S[k]? = some (ci, n)) (hfin : ∀ C T N, pd_cl[ci]? = some (C, T, N) → (T j).2.2.2 = false ∨ ((T j).2.2.2 = true ∧ mi.1.name = "<init>" ∧ (T j).1 = mi.1.cls)) (hdg : decode mi.2.1 pc = .ok (.putfield idx, 3))
    (K : pd_At G mi h mc ms cs ss (pc + 3) lo st (S, fx, I, L, pd_up R k j (some q)) Q) : pd_At G mi h mc ms cs ss pc lo (.ref (pd_z G + q) :: .ref (pd_z G + k) :: st) (S, fx, I, L, R) Q :=
  at_put hf hl hs hfin (by simp [pd_v, pd_up, va_rf]) (fun _ _ _ => rfl) (fun _ _ _ => rfl) (fun a b hq => by simp [pd_up, hq]) hdg K
/-! arrays: kind 9 int, 10 byte, 11 long, 12 Petition, 13 int[] -/
theorem at_iald {k n : Nat} {i : Int32} (hs : S[k]? = some (9, n)) (hin : vp_in i n) (hdg : decode mi.2.1 pc = .ok (.iaload, 1)) (K : pd_At G mi h mc ms cs ss (pc + 1) lo (.int (I k i.toNatClampNeg) :: st) (S, fx, I, L, R) Q) : pd_At G mi h mc ms cs ss pc lo (.int i :: .ref (pd_z G + k) :: st) (S, fx, I, L, R) Q := by
  intro d p e s m args below meth c H locs ls hd F hS hW hlv
  exact va_iald F.1 F.2.1 F.2.2.2.2.2.2.2.2.2.1 hW.1 k 0 (pd_ws_get hs) rfl hin hdg (K d p e s m args below meth c H locs ls hd F hS hW hlv)
theorem at_bald {k n : Nat} {i : Int32} (hs : S[k]? = some (10, n)) (hin : vp_in i n) (hdg : decode mi.2.1 pc = .ok (.baload, 1)) (K : pd_At G mi h mc ms cs ss (pc + 1) lo (.int (I k i.toNatClampNeg) :: st) (S, fx, I, L, R) Q) : pd_At G mi h mc ms cs ss pc lo (.int i :: .ref (pd_z G + k) :: st) (S, fx, I, L, R) Q := by
  intro d p e s m args below meth c H locs ls hd F hS hW hlv
  exact va_bald F.1 F.2.1 F.2.2.2.2.2.2.2.2.2.1 hW.1 k 1 (pd_ws_get hs) rfl hin hdg (K d p e s m args below meth c H locs ls hd F hS hW hlv)
theorem at_lald {k n : Nat} {i : Int32} (hs : S[k]? = some (11, n)) (hin : vp_in i n) (hdg : decode mi.2.1 pc = .ok (.laload, 1)) (K : pd_At G mi h mc ms cs ss (pc + 1) lo (.long (L k i.toNatClampNeg) :: st) (S, fx, I, L, R) Q) : pd_At G mi h mc ms cs ss pc lo (.int i :: .ref (pd_z G + k) :: st) (S, fx, I, L, R) Q := by
  intro d p e s m args below meth c H locs ls hd F hS hW hlv
  exact va_lald F.1 F.2.1 F.2.2.2.2.2.2.2.2.2.1 hW.1 k 2 (pd_ws_get hs) rfl hin hdg (K d p e s m args below meth c H locs ls hd F hS hW hlv)
theorem at_aald {k n : Nat} {i : Int32} (q : Nat) (hs : S[k]? = some (12, n)) (hin : vp_in i n) (hr : R k i.toNatClampNeg = some q) (hdg : decode mi.2.1 pc = .ok (.aaload, 1)) (K : pd_At G mi h mc ms cs ss (pc + 1) lo (.ref (pd_z G + q) :: st) (S, fx, I, L, R) Q) : pd_At G mi h mc ms cs ss pc lo (.int i :: .ref (pd_z G + k) :: st) (S, fx, I, L, R) Q := by
  intro d p e s m args below meth c H locs ls hd F hS hW hlv
  have hlt : i.toNatClampNeg < n := Nat.not_le.mp fun q => hin (Or.inr q)
  exact W.aald (v := .ref (pd_z G + q)) (ty := .object "PetitionDesk$Petition") F.1 F.2.1 (hW.1 k _ (pd_ws_get hs)) ((F.2.2.2.2.2.2.2.2.2.1.2 3 _ rfl).1 n (fun j => va_rf (pd_rr (pd_z G) (R k) j))) rfl (fun q => by cases q) (by show ¬ (i < 0 ∨ (arrV _ _ _).slots.size ≤ _); rw [arrV_size]; exact hin) (by show (arrV _ _ _).slots[_]? = _; rw [arrV_read _ _ hlt]; simp [pd_rr, hr, va_rf]) rfl rfl hdg (K d p e s m args below meth c H locs ls hd F hS hW hlv)
theorem at_aald2 {k n : Nat} {i : Int32} (q : Nat) (hs : S[k]? = some (13, n)) (hin : vp_in i n) (hr : R k i.toNatClampNeg = some q) (hdg : decode mi.2.1 pc = .ok (.aaload, 1)) (K : pd_At G mi h mc ms cs ss (pc + 1) lo (.ref (pd_z G + q) :: st) (S, fx, I, L, R) Q) : pd_At G mi h mc ms cs ss pc lo (.int i :: .ref (pd_z G + k) :: st) (S, fx, I, L, R) Q := by
  intro d p e s m args below meth c H locs ls hd F hS hW hlv
  have hlt : i.toNatClampNeg < n := Nat.not_le.mp fun q => hin (Or.inr q)
  exact W.aald (v := .ref (pd_z G + q)) (ty := .array .int) F.1 F.2.1 (hW.1 k _ (pd_ws_get hs)) ((F.2.2.2.2.2.2.2.2.2.1.2 4 _ rfl).1 n (fun j => va_rf (pd_rr (pd_z G) (R k) j))) rfl (fun q => by cases q) (by show ¬ (i < 0 ∨ (arrV _ _ _).slots.size ≤ _); rw [arrV_size]; exact hin) (by show (arrV _ _ _).slots[_]? = _; rw [arrV_read _ _ hlt]; simp [pd_rr, hr, va_rf]) rfl rfl hdg (K d p e s m args below meth c H locs ls hd F hS hW hlv)
theorem at_alen {k t n : Nat} {v : Int32} (hs : S[k]? = some (t, n)) (ht : 9 ≤ t ∧ t < 14) (hv : Int32.ofNat n = v) (hdg : decode mi.2.1 pc = .ok (.arraylength, 1)) (K : pd_At G mi h mc ms cs ss (pc + 1) lo (.int v :: st) (S, fx, I, L, R) Q) : pd_At G mi h mc ms cs ss pc lo (.ref (pd_z G + k) :: st) (S, fx, I, L, R) Q := by
  intro d p e s m args below meth c H locs ls hd F hS hW hlv
  have hk := K d p e s m args below meth c H locs ls hd F hS hW hlv
  have hKk := F.2.2.2.2.2.2.2.2.2.1
  rcases (show t = 9 ∨ t = 10 ∨ t = 11 ∨ t = 12 ∨ t = 13 by omega) with rfl | rfl | rfl | rfl | rfl
  · exact va_alen F.1 F.2.1 hKk hW.1 k 0 (pd_ws_get hs) rfl hv hdg hk
  · exact va_alen F.1 F.2.1 hKk hW.1 k 1 (pd_ws_get hs) rfl hv hdg hk
  · exact va_alen F.1 F.2.1 hKk hW.1 k 2 (pd_ws_get hs) rfl hv hdg hk
  · exact va_alen F.1 F.2.1 hKk hW.1 k 3 (pd_ws_get hs) rfl hv hdg hk
  · exact va_alen F.1 F.2.1 hKk hW.1 k 4 (pd_ws_get hs) rfl hv hdg hk
theorem at_iast {k n : Nat} {i x : Int32} (hs : S[k]? = some (9, n)) (hin : vp_in i n) (hdg : decode mi.2.1 pc = .ok (.iastore, 1)) (K : pd_At G mi h mc ms cs ss (pc + 1) lo st (S, fx, pd_up I k i.toNatClampNeg x, L, R) Q) : pd_At G mi h mc ms cs ss pc lo (.int x :: .int i :: .ref (pd_z G + k) :: st) (S, fx, I, L, R) Q := by
  intro d p e s m args below meth c H locs ls hd F hS hW hlv
  refine W.iast F.1 F.2.1 (hW.1 k _ (pd_ws_get hs)) ((F.2.2.2.2.2.2.2.2.2.1.2 0 _ rfl).1 n (fun j => .int (I k j))) (fun q => by cases q) (by show ¬ (i < 0 ∨ (arrV _ _ _).slots.size ≤ _); rw [arrV_size]; exact hin) rfl rfl hdg fun H1 e1 z oq => ?_
  refine K d p e s m args below meth c H1 _ ls hd F (hS.put z oq (Nat.le_add_right _ _)) (pd_Wd_set hW hs ?_ (fun a ha => pd_up_ne ha) (fun _ _ => rfl) (fun _ _ => rfl) z oq) hlv
  show H1[pd_z G + k]? = some (vp_cell _ _)
  rw [e1]
  rw [vp_cell_i, vp_cell_i, arrV_store]
  congr 2
  funext q
  by_cases hq : q = i.toNatClampNeg
  · subst hq
    simp [updV, pd_up]
  · simp [updV, pd_up, hq]
theorem at_bast {k n : Nat} {i x : Int32} (hs : S[k]? = some (10, n)) (hin : vp_in i n) (hdg : decode mi.2.1 pc = .ok (.bastore, 1)) (K : pd_At G mi h mc ms cs ss (pc + 1) lo st (S, fx, pd_up I k i.toNatClampNeg x.toInt8.toInt32, L, R) Q) : pd_At G mi h mc ms cs ss pc lo (.int x :: .int i :: .ref (pd_z G + k) :: st) (S, fx, I, L, R) Q := by
  intro d p e s m args below meth c H locs ls hd F hS hW hlv
  refine W.bast F.1 F.2.1 (hW.1 k _ (pd_ws_get hs)) ((F.2.2.2.2.2.2.2.2.2.1.2 1 _ rfl).1 n (fun j => .int (I k j))) (fun q => by cases q) (by show ¬ (i < 0 ∨ (arrV _ _ _).slots.size ≤ _); rw [arrV_size]; exact hin) rfl rfl hdg fun H1 e1 z oq => ?_
  refine K d p e s m args below meth c H1 _ ls hd F (hS.put z oq (Nat.le_add_right _ _)) (pd_Wd_set hW hs ?_ (fun a ha => pd_up_ne ha) (fun _ _ => rfl) (fun _ _ => rfl) z oq) hlv
  show H1[pd_z G + k]? = some (vp_cell _ _)
  rw [e1]
  rw [vp_cell_i, vp_cell_i, arrV_store]
  congr 2
  funext q
  by_cases hq : q = i.toNatClampNeg
  · subst hq
    simp [updV, pd_up, narrow]
  · simp [updV, pd_up, hq]
theorem at_last {k n : Nat} {i : Int32} {x : Int64} (hs : S[k]? = some (11, n)) (hin : vp_in i n) (hdg : decode mi.2.1 pc = .ok (.lastore, 1)) (K : pd_At G mi h mc ms cs ss (pc + 1) lo st (S, fx, I, pd_up L k i.toNatClampNeg x, R) Q) : pd_At G mi h mc ms cs ss pc lo (.long x :: .int i :: .ref (pd_z G + k) :: st) (S, fx, I, L, R) Q := by
  intro d p e s m args below meth c H locs ls hd F hS hW hlv
  refine W.last F.1 F.2.1 (hW.1 k _ (pd_ws_get hs)) ((F.2.2.2.2.2.2.2.2.2.1.2 2 _ rfl).1 n (fun j => .long (L k j))) (fun q => by cases q) (by show ¬ (i < 0 ∨ (arrV _ _ _).slots.size ≤ _); rw [arrV_size]; exact hin) rfl rfl hdg fun H1 e1 z oq => ?_
  refine K d p e s m args below meth c H1 _ ls hd F (hS.put z oq (Nat.le_add_right _ _)) (pd_Wd_set hW hs ?_ (fun _ _ => rfl) (fun a ha => pd_up_ne ha) (fun _ _ => rfl) z oq) hlv
  show H1[pd_z G + k]? = some (vp_cell _ _)
  rw [e1]
  rw [vp_cell_l, vp_cell_l, arrV_store]
  congr 2
  funext q
  by_cases hq : q = i.toNatClampNeg
  · subst hq
    simp [updV, pd_up]
  · simp [updV, pd_up, hq]
end PDM
