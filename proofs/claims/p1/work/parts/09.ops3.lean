/-! ===== instructions, third part: fields and arrays ===== -/
theorem WD_set {gv : Nat → Int32} {cA : Nat → ClassId} {D : va_G} {A : Nat → Prop} {s : State} {h : AH} {ws : va_W} {H : Heap} {locs : List Loc} (hW : WD gv cA D A s h ws H locs) {c a : Nat} {e e' : va_E} {x v : AC} (hx : hlook h c = some x) (hc : ws[c]? = some (a, e)) (hv : cR gv cA (adr ws) v e') (hsz : a_csz v = a_csz x) {H1 : Heap} {locs1 : List Loc} (hP1 : va_P D classes (ws.set c (a, e')) H1) (hD1 : va_D A (ws.set c (a, e'))) (hS1 : va_S A s.heap H1 locs1) : WD gv cA D A s (a_hset h c v) (ws.set c (a, e')) H1 locs1 := by
  obtain ⟨hK, hP, hD, hS, hA, hlen, hR⟩ := hW
  refine ⟨hK, hP1, hD1, hS1, hA, by rw [List.length_set, hlen, (cnt_set hx hsz).1], fun c' x' hx' => ?_⟩
  rw [adr_set hc]
  rw [hlook_set hx] at hx'
  have hlt : c < ws.length := (List.getElem?_eq_some_iff.mp hc).1
  by_cases hcc : c = c'
  · subst hcc
    rw [if_pos rfl] at hx'
    cases hx'
    exact ⟨a, e', by rw [List.getElem?_set_self hlt], hv⟩
  · rw [if_neg hcc] at hx'
    obtain ⟨a1, e1, g1, g2⟩ := hR c' x' hx'
    exact ⟨a1, e1, by rw [List.getElem?_set_ne hcc]; exact g1, g2⟩
section
variable {M : AM} {pc pc' : Nat} {k t : AK}
/-- an instruction that writes one cell -/
theorem so_write {o : AK} (hk : Sound M pc' k)
    (hs : ∀ (L : ALs) (S : ASt) (h : AH) (r : ARes), o L S h = some r → ∃ (S' : ASt) (cn : Nat) (x v : AC), hlook h cn = some x ∧ a_csz v = a_csz x ∧ k L S' (a_hset h cn v) = some r ∧
      ∀ (p : Program) (l : Launch) (e : Env) (R : Room) (s : State) (m : MethodId) (args : Array Value) (below : List Frame) (meth : Method) (c : Code) (gv : Nat → Int32) (cA : Nat → ClassId) (D : va_G) (A : Nat → Prop) (ws : va_W) (H : Heap) (locs : List Loc) (cells slots : Nat) (ls : Array Slot) (st : List Value) (Q : State → Prop),
        CX M p R s m args meth c → WD gv cA D A s h ws H locs → SR gv (adr ws) S st → (∀ (a : Nat) (e0 e1 : va_E) (H1 : Heap) (locs1 : List Loc) (st' : List Value), ws[cn]? = some (a, e0) → cR gv cA (adr ws) v e1 → va_P D classes (ws.set cn (a, e1)) H1 → va_D A (ws.set cn (a, e1)) → va_S A s.heap H1 locs1 → SR gv (adr ws) S' st' → W p l e R s m args below meth c H1 locs1 cells slots Q (F0 m pc' ls st')) → W p l e R s m args below meth c H locs cells slots Q (F0 m pc ls st)) : Sound M pc o := by
  intro L S h r hr
  obtain ⟨S', cn, x, v, hx, hsz, e1, e2⟩ := hs L S h r hr
  obtain ⟨⟨h1, h1b⟩, h2⟩ := hk L S' _ r e1
  obtain ⟨g1, g2⟩ := cnt_set (v := v) hx hsz
  refine ⟨⟨⟨by rw [← g1]; exact h1.1, by rw [← g2]; exact h1.2⟩, h1b⟩, ?_⟩
  intro p l e R s m args below meth c gv cA D A ws H locs cells slots n0 z0 ls st Q hC hW hc hz hrc hrz hL hS hF
  refine e2 p l e R s m args below meth c gv cA D A ws H locs cells slots ls st Q hC hW hS ?_
  intro a e0 e1 H1 locs1 st' q0 q1 q2 q3 q4 q5
  have hE := ext_set (e' := e1) q0
  exact h2 p l e R s m args below meth c gv cA D A _ H1 locs1 cells slots n0 z0 ls st' Q hC (WD_set hW hx q0 q1 hsz q2 q3 q4) (by rw [g1]; exact hc) (by rw [g2]; exact hz) hrc hrz (LR_ext hE hL) (SR_ext hE q5) (Fin_ext hE hF)
/-- an instruction that reads the heap -/
theorem so_read {o : AK} (hk : Sound M pc' k)
    (hs : ∀ (L : ALs) (S : ASt) (h : AH) (r : ARes), o L S h = some r → ∃ S' : ASt, k L S' h = some r ∧
      ∀ (p : Program) (l : Launch) (e : Env) (R : Room) (s : State) (m : MethodId) (args : Array Value) (below : List Frame) (meth : Method) (c : Code) (gv : Nat → Int32) (cA : Nat → ClassId) (D : va_G) (A : Nat → Prop) (ws : va_W) (H : Heap) (locs : List Loc) (cells slots : Nat) (ls : Array Slot) (st : List Value) (Q : State → Prop),
        CX M p R s m args meth c → WD gv cA D A s h ws H locs → SR gv (adr ws) S st → (∀ st' : List Value, SR gv (adr ws) S' st' → W p l e R s m args below meth c H locs cells slots Q (F0 m pc' ls st')) → W p l e R s m args below meth c H locs cells slots Q (F0 m pc ls st)) : Sound M pc o := by
  intro L S h r hr
  obtain ⟨S', e1, e2⟩ := hs L S h r hr
  obtain ⟨h1, h2⟩ := hk L S' _ r e1
  refine ⟨h1, ?_⟩
  intro p l e R s m args below meth c gv cA D A ws H locs cells slots n0 z0 ls st Q hC hW hc hz hrc hrz hL hS hF
  exact e2 p l e R s m args below meth c gv cA D A ws H locs cells slots ls st Q hC hW hS (fun st' q => h2 p l e R s m args below meth c gv cA D A ws H locs cells slots n0 z0 ls st' Q hC hW hc hz hrc hrz hL q hF)
theorem adr_uniq {ws : va_W} {q a x : Nat} {e : va_E} (h : ws[q]? = some (a, e)) (hx : (adr ws)[q]? = some x) : x = a := by
  rw [adr_get h] at hx
  exact (Option.some.inj hx).symm
theorem so_get0 {ci f : Nat} {mk : Nat → AV} {b : Bool} (hft : a_ft ci f = some b) (hmk : ∀ n, mk n = a_fv b n) (hk : Sound M pc' k)
    (row : ∀ (p : Program) (l : Launch) (e : Env) (R : Room) (s : State) (m : MethodId) (args : Array Value) (below : List Frame) (meth : Method) (c : Code) (cA : Nat → ClassId) (D : va_G) (ws : va_W) (H : Heap) (locs : List Loc) (cells slots : Nat) (ls : Array Slot) (st : List Value) (Q : State → Prop) (a q0 : Nat) (fs : List Value) (v : Value), CX M p R s m args meth c → va_K D classes (k_tys cA) s → va_P D classes ws H → ws[q0]? = some (a, .inr (ci, fs)) → fs[f]? = some v → W p l e R s m args below meth c H locs cells slots Q (F0 m pc' ls (v :: st)) → W p l e R s m args below meth c H locs cells slots Q (F0 m pc ls (.ref a :: st))) : Sound M pc (o_get ci f mk k) := by
  refine so_read hk fun L S h r hr => ?_
  obtain ⟨cn, S1, rfl, hr1⟩ := a_popC_some hr
  obtain ⟨N, hN, hr2⟩ := a_obj_some hr1
  refine ⟨_, hr2, ?_⟩
  intro p l e R s m args below meth c gv cA D A ws H locs cells slots ls st Q hC hW hS kk
  obtain ⟨v, st', rfl, ⟨x, hx, rfl⟩, hS1⟩ := SR_cons hS
  obtain ⟨hK, hP, hD, hS0, hA, hlen, hR⟩ := hW
  obtain ⟨a, e0, g1, fs, rfl, g2, g3⟩ := hR cn _ hN
  obtain ⟨w, g4, g5⟩ := g3 f b hft
  have hxa : x = a := adr_uniq g1 hx
  subst hxa
  exact row p l e R s m args below meth c cA D ws H locs cells slots ls st' Q _ cn fs w hC hK hP g1 g4 (kk _ ⟨by rw [hmk]; exact g5, hS1⟩)
theorem so_get {ci f idx : Nat} {C : String} {T : u_T} {N : Nat} {mk : Nat → AV} {b : Bool} (hd : decode M.2.1 pc = .ok (.getfield idx, 3)) (hc : classes[ci]? = some (C, T, N)) (hin : ∀ w ∈ u_ws C T N, w ∈ k_tbl) (hf : f < N) (hl : Jvm.Cond.fieldLink M.1 idx (T f).1 (T f).2.1 (T f).2.2.1 ∈ k_tbl) (hft : a_ft ci f = some b) (hmk : ∀ n, mk n = a_fv b n) (hk : Sound M (pc + 3) k) : Sound M pc (o_get ci f mk k) :=
  so_get0 hft hmk hk fun p l e R s m args below meth c cA D ws H locs cells slots ls st Q a q0 fs v hC hK hP he hv w => va_get (D := D) (ci := ci) (C := C) (T := T) (N := N) hC.1 hC.2.1 hC.2.2.2.2.1 hin hC.2.2.2.1 hK hP q0 he hc f hf (hC.2.2.2.2.1 _ hl) (fun _ z => z) hv hd w
theorem so_getN {ci f idx : Nat} {C host : String} {T : u_T} {N : Nat} {mk : Nat → AV} {b : Bool} (hd : decode M.2.1 pc = .ok (.getfield idx, 3)) (hc : classes[ci]? = some (C, T, N)) (hin : ∀ w ∈ u_ws C T N, w ∈ k_tbl) (hf : f < N) (hl : Jvm.Cond.fieldLinkNest M.1 idx (T f).1 (T f).2.1 (T f).2.2.1 host ∈ k_tbl) (hft : a_ft ci f = some b) (hmk : ∀ n, mk n = a_fv b n) (hk : Sound M (pc + 3) k) : Sound M pc (o_get ci f mk k) :=
  so_get0 hft hmk hk fun p l e R s m args below meth c cA D ws H locs cells slots ls st Q a q0 fs v hC hK hP he hv w => va_getN (D := D) (ci := ci) (C := C) (T := T) (N := N) (host := host) hC.1 hC.2.1 hC.2.2.2.2.1 hin hC.2.2.2.1 hK hP q0 he hc f hf (hC.2.2.2.2.1 _ hl) (fun _ z => z) hv hd w
/-- a field that is written: the other fields stay -/
theorem cR_put {gv : Nat → Int32} {cA : Nat → ClassId} {ad : List Nat} {ci N f n : Nat} {b : Bool} {fs : List Value} {w : Value} (hl : fs.length = (k_ft.getD ci []).length) (h : ∀ k b, a_ft ci k = some b → ∃ v, fs[k]? = some v ∧ vR gv ad (a_fv b (a_dig N 64 k)) v) (hft : a_ft ci f = some b) (hn : n < 18446744073709551616) (hv : vR gv ad (a_fv b n) w) : cR gv cA ad (.inr (.inl (ci, a_put N 64 f n))) (.inr (ci, fs.set f w)) := by
  refine ⟨_, rfl, by rw [List.length_set]; exact hl, fun j b' hj => ?_⟩
  rw [dig_put N 64 f n j hn]
  by_cases hjf : j = f
  · subst hjf
    rw [if_pos rfl]
    rw [hft] at hj
    cases hj
    obtain ⟨v0, h0, -⟩ := h j b hft
    exact ⟨w, by rw [List.getElem?_set_self (List.getElem?_eq_some_iff.mp h0).1], hv⟩
  · rw [if_neg hjf]
    obtain ⟨v, g1, g2⟩ := h j b' hj
    exact ⟨v, by rw [List.getElem?_set_ne (Ne.symm hjf)]; exact g1, g2⟩
theorem so_putI0 {ci f : Nat} (hft : a_ft ci f = some false) (hk : Sound M pc' k)
    (row : ∀ (p : Program) (l : Launch) (e : Env) (R : Room) (s : State) (m : MethodId) (args : Array Value) (below : List Frame) (meth : Method) (c : Code) (cA : Nat → ClassId) (D : va_G) (A : Nat → Prop) (ws : va_W) (H : Heap) (locs : List Loc) (cells slots : Nat) (ls : Array Slot) (st : List Value) (Q : State → Prop) (a q0 : Nat) (fs : List Value) (x : Int32), CX M p R s m args meth c → va_K D classes (k_tys cA) s → va_P D classes ws H → va_D A ws → va_S A s.heap H locs → ws[q0]? = some (a, .inr (ci, fs)) → f < fs.length →
      (∀ (H1 : Heap) (locs1 : List Loc), va_P D classes (ws.set q0 (a, .inr (ci, fs.set f (.int x)))) H1 → va_D A (ws.set q0 (a, .inr (ci, fs.set f (.int x)))) → va_S A s.heap H1 locs1 → W p l e R s m args below meth c H1 locs1 cells slots Q (F0 m pc' ls st)) → W p l e R s m args below meth c H locs cells slots Q (F0 m pc ls (.int x :: .ref a :: st))) : Sound M pc (o_putI ci f k) := by
  refine so_write hk fun L S h r hr => ?_
  obtain ⟨n, S1, rfl, hr1⟩ := a_popI_some hr
  obtain ⟨cn, S2, rfl, hr2⟩ := a_popC_some hr1
  obtain ⟨N, hN, hr3⟩ := a_obj_some hr2
  refine ⟨S2, cn, _, Sum.inr (Sum.inl (ci, a_put N 64 f n)), hN, rfl, hr3, ?_⟩
  intro p l e R s m args below meth c gv cA D A ws H locs cells slots ls st Q hC hW hS kk
  obtain ⟨v, st', rfl, ⟨hn, rfl⟩, hS1⟩ := SR_cons hS
  obtain ⟨v2, st'', rfl, ⟨x, hx, rfl⟩, hS2⟩ := SR_cons hS1
  obtain ⟨hK, hP, hD, hS0, hA, hlen, hR⟩ := hW
  obtain ⟨a, e0, g1, fs, rfl, g2, g3⟩ := hR cn _ hN
  have hxa : x = a := adr_uniq g1 hx
  subst hxa
  obtain ⟨w, g4, -⟩ := g3 f false hft
  exact row p l e R s m args below meth c cA D A ws H locs cells slots ls st'' Q _ cn fs _ hC hK hP hD hS0 g1 (List.getElem?_eq_some_iff.mp g4).1 (fun H1 locs1 q1 q2 q3 => kk x _ _ H1 locs1 st'' g1 (cR_put (b := false) g2 g3 hft (by omega) ⟨hn, rfl⟩) q1 q2 q3 hS2)
theorem so_putR0 {ci f : Nat} (hft : a_ft ci f = some true) (hk : Sound M pc' k)
    (row : ∀ (p : Program) (l : Launch) (e : Env) (R : Room) (s : State) (m : MethodId) (args : Array Value) (below : List Frame) (meth : Method) (c : Code) (cA : Nat → ClassId) (D : va_G) (A : Nat → Prop) (ws : va_W) (H : Heap) (locs : List Loc) (cells slots : Nat) (ls : Array Slot) (st : List Value) (Q : State → Prop) (a q0 : Nat) (fs : List Value) (x : Nat), CX M p R s m args meth c → va_K D classes (k_tys cA) s → va_P D classes ws H → va_D A ws → va_S A s.heap H locs → ws[q0]? = some (a, .inr (ci, fs)) → f < fs.length →
      (∀ (H1 : Heap) (locs1 : List Loc), va_P D classes (ws.set q0 (a, .inr (ci, fs.set f (.ref x)))) H1 → va_D A (ws.set q0 (a, .inr (ci, fs.set f (.ref x)))) → va_S A s.heap H1 locs1 → W p l e R s m args below meth c H1 locs1 cells slots Q (F0 m pc' ls st)) → W p l e R s m args below meth c H locs cells slots Q (F0 m pc ls (.ref x :: .ref a :: st))) : Sound M pc (o_putR ci f k) := by
  refine so_write hk fun L S h r hr => ?_
  obtain ⟨n, S1, rfl, hr1⟩ := a_popC_some hr
  obtain ⟨hlt, hr1b⟩ := cond_some hr1
  obtain ⟨cn, S2, rfl, hr2⟩ := a_popC_some hr1b
  obtain ⟨N, hN, hr3⟩ := a_obj_some hr2
  refine ⟨S2, cn, _, Sum.inr (Sum.inl (ci, a_put N 64 f (n + 1))), hN, rfl, hr3, ?_⟩
  intro p l e R s m args below meth c gv cA D A ws H locs cells slots ls st Q hC hW hS kk
  obtain ⟨v, st', rfl, ⟨y, hy, rfl⟩, hS1⟩ := SR_cons hS
  obtain ⟨v2, st'', rfl, ⟨x, hx, rfl⟩, hS2⟩ := SR_cons hS1
  obtain ⟨hK, hP, hD, hS0, hA, hlen, hR⟩ := hW
  obtain ⟨a, e0, g1, fs, rfl, g2, g3⟩ := hR cn _ hN
  have hxa : x = a := adr_uniq g1 hx
  subst hxa
  obtain ⟨w, g4, -⟩ := g3 f true hft
  have hlt' := ble_iff.mp hlt
  exact row p l e R s m args below meth c cA D A ws H locs cells slots ls st'' Q _ cn fs _ hC hK hP hD hS0 g1 (List.getElem?_eq_some_iff.mp g4).1 (fun H1 locs1 q1 q2 q3 => kk x _ _ H1 locs1 st'' g1 (cR_put (b := true) (n := n + 1) g2 g3 hft (by omega) ⟨y, hy, rfl⟩) q1 q2 q3 hS2)
theorem so_putI {ci f idx : Nat} {C : String} {T : u_T} {N : Nat} {ty0 : Nat → FieldType} (hd : decode M.2.1 pc = .ok (.putfield idx, 3)) (hc : classes[ci]? = some (C, T, N)) (hin : ∀ w ∈ u_ws C T N, w ∈ k_tbl) (hty : ∀ k, k < N → parseFieldDescriptor (T k).2.2.1 = some (ty0 k)) (hnm : ∀ a, a < N → ∀ b, b < N → a ≠ b → (T a).2.1 ≠ (T b).2.1) (hf : f < N) (hl : Jvm.Cond.fieldLink M.1 idx (T f).1 (T f).2.1 (T f).2.2.1 ∈ k_tbl) (hfin : (T f).2.2.2 = false) (hi : ty0 f = .int) (hft : a_ft ci f = some false) (hk : Sound M (pc + 3) k) : Sound M pc (o_putI ci f k) :=
  so_putI0 hft hk fun p l e R s m args below meth c cA D A ws H locs cells slots ls st Q a q0 fs x hC hK hP hD hS0 he hlf w => va_put (D := D) (ci := ci) (C := C) (T := T) (N := N) (ty := .int) hC.1 hC.2.1 hC.2.2.2.2.1 hin ty0 hty hnm hC.2.2.2.1 hK hP hD hS0 q0 he hc f hf (hC.2.2.2.2.1 _ hl) (fun _ z => z) hfin (by rw [hty f hf, hi]) rfl rfl hlf hd w
theorem so_putIN {ci f idx : Nat} {C host : String} {T : u_T} {N : Nat} {ty0 : Nat → FieldType} (hd : decode M.2.1 pc = .ok (.putfield idx, 3)) (hc : classes[ci]? = some (C, T, N)) (hin : ∀ w ∈ u_ws C T N, w ∈ k_tbl) (hty : ∀ k, k < N → parseFieldDescriptor (T k).2.2.1 = some (ty0 k)) (hnm : ∀ a, a < N → ∀ b, b < N → a ≠ b → (T a).2.1 ≠ (T b).2.1) (hf : f < N) (hl : Jvm.Cond.fieldLinkNest M.1 idx (T f).1 (T f).2.1 (T f).2.2.1 host ∈ k_tbl) (hfin : (T f).2.2.2 = false) (hi : ty0 f = .int) (hft : a_ft ci f = some false) (hk : Sound M (pc + 3) k) : Sound M pc (o_putI ci f k) :=
  so_putI0 hft hk fun p l e R s m args below meth c cA D A ws H locs cells slots ls st Q a q0 fs x hC hK hP hD hS0 he hlf w => va_putN (D := D) (ci := ci) (C := C) (T := T) (N := N) (ty := .int) (host := host) hC.1 hC.2.1 hC.2.2.2.2.1 hin ty0 hty hnm hC.2.2.2.1 hK hP hD hS0 q0 he hc f hf (hC.2.2.2.2.1 _ hl) (fun _ z => z) hfin (by rw [hty f hf, hi]) rfl rfl hlf hd w
theorem so_putIF {ci f idx : Nat} {C : String} {T : u_T} {N : Nat} {ty0 : Nat → FieldType} (hd : decode M.2.1 pc = .ok (.putfield idx, 3)) (hc : classes[ci]? = some (C, T, N)) (hin : ∀ w ∈ u_ws C T N, w ∈ k_tbl) (hty : ∀ k, k < N → parseFieldDescriptor (T k).2.2.1 = some (ty0 k)) (hnm : ∀ a, a < N → ∀ b, b < N → a ≠ b → (T a).2.1 ≠ (T b).2.1) (hf : f < N) (hl : Jvm.Cond.fieldLink M.1 idx (T f).1 (T f).2.1 (T f).2.2.1 ∈ k_tbl) (hfin : (T f).2.2.2 = true) (hin2 : M.2.2.2.2.1 = "<init>") (hdecl : (T f).1 = M.1) (hi : ty0 f = .int) (hft : a_ft ci f = some false) (hk : Sound M (pc + 3) k) : Sound M pc (o_putI ci f k) :=
  so_putI0 hft hk fun p l e R s m args below meth c cA D A ws H locs cells slots ls st Q a q0 fs x hC hK hP hD hS0 he hlf w => va_putF (D := D) (ci := ci) (C := C) (T := T) (N := N) (ty := .int) hC.1 hC.2.1 hC.2.2.2.2.1 hin ty0 hty hnm hC.2.2.2.1 hK hP hD hS0 q0 he hc f hf (hC.2.2.2.2.1 _ hl) (fun _ z => z) hfin (hC.2.2.2.2.2.2.2.1.trans hin2) hdecl (by rw [hty f hf, hi]) rfl rfl hlf hd w
theorem so_putRF {ci f idx : Nat} {C : String} {T : u_T} {N : Nat} {ty0 : Nat → FieldType} (hd : decode M.2.1 pc = .ok (.putfield idx, 3)) (hc : classes[ci]? = some (C, T, N)) (hin : ∀ w ∈ u_ws C T N, w ∈ k_tbl) (hty : ∀ k, k < N → parseFieldDescriptor (T k).2.2.1 = some (ty0 k)) (hnm : ∀ a, a < N → ∀ b, b < N → a ≠ b → (T a).2.1 ≠ (T b).2.1) (hf : f < N) (hl : Jvm.Cond.fieldLink M.1 idx (T f).1 (T f).2.1 (T f).2.2.1 ∈ k_tbl) (hfin : (T f).2.2.2 = true) (hin2 : M.2.2.2.2.1 = "<init>") (hdecl : (T f).1 = M.1) (hnar : ∀ x : Nat, narrow (ty0 f) (.ref x) = .ref x) (hfit : ∀ x : Nat, fits (ty0 f) (.ref x) = true) (hft : a_ft ci f = some true) (hk : Sound M (pc + 3) k) : Sound M pc (o_putR ci f k) :=
  so_putR0 hft hk fun p l e R s m args below meth c cA D A ws H locs cells slots ls st Q a q0 fs x hC hK hP hD hS0 he hlf w => va_putF (D := D) (ci := ci) (C := C) (T := T) (N := N) (ty := ty0 f) hC.1 hC.2.1 hC.2.2.2.2.1 hin ty0 hty hnm hC.2.2.2.1 hK hP hD hS0 q0 he hc f hf (hC.2.2.2.2.1 _ hl) (fun _ z => z) hfin (hC.2.2.2.2.2.2.2.1.trans hin2) hdecl (hty f hf) (hnar x) (hfit x) hlf hd w
/-! arrays -/
theorem in_ok {i n : Nat} (hi : i < n) (hn : n < 2147483648) : vp_in (a_i32 i) n ∧ (a_i32 i).toNatClampNeg = i := by
  have h1 : (a_i32 i).toNatClampNeg = i := Int32.toNatClampNeg_ofNat_of_lt (by omega)
  have h2 : (a_i32 i).toInt = i := by rw [t32 (by omega), if_pos (by omega)]
  refine ⟨fun q => ?_, h1⟩
  rcases q with q | q
  · rw [Int32.lt_iff_toInt_lt, h2] at q
    have : ((0 : Int32).toInt : Int) = 0 := by decide
    omega
  · rw [h1] at q; omega
theorem so_iald (hd : decode M.2.1 pc = .ok (.iaload, 1)) (hk : Sound M (pc + 1) k) : Sound M pc (o_ald 0 32 aI k) := by
  refine so_read hk fun L S h r hr => ?_
  obtain ⟨i, S1, rfl, hr1⟩ := a_popI_some hr
  obtain ⟨cn, S2, rfl, hr2⟩ := a_popC_some hr1
  obtain ⟨n, N, hN, hr3⟩ := a_arr_some hr2
  obtain ⟨hi, hr4⟩ := cond_some hr3
  refine ⟨_, hr4, ?_⟩
  intro p l e R s m args below meth c gv cA D A ws H locs cells slots ls st Q hC hW hS kk
  obtain ⟨v, st', rfl, ⟨hn, rfl⟩, hS1⟩ := SR_cons hS
  obtain ⟨v2, st'', rfl, ⟨x, hx, rfl⟩, hS2⟩ := SR_cons hS1
  obtain ⟨hK, hP, hD, hS0, hA, hlen, hR⟩ := hW
  obtain ⟨a, e0, g1, g2, g3⟩ := hR cn _ hN
  have hxa : x = a := adr_uniq g1 hx
  subst hxa
  rcases g3 with ⟨-, f, rfl, g4⟩ | ⟨q, -⟩ | ⟨q, -⟩ | ⟨q, -⟩
  · obtain ⟨o1, o2⟩ := in_ok (ble_iff.mp hi) g2
    refine va_iald hC.1 hC.2.1 hK hP cn 0 g1 rfl o1 hd ?_
    rw [o2, g4 i (ble_iff.mp hi)]
    exact kk _ ⟨⟨dig_lt N 32 i, rfl⟩, hS2⟩
  · cases q
  · cases q
  · rcases q with q | q <;> cases q
theorem so_zald (hd : decode M.2.1 pc = .ok (.baload, 1)) (hk : Sound M (pc + 1) k) : Sound M pc (o_ald 1 1 aI k) := by
  refine so_read hk fun L S h r hr => ?_
  obtain ⟨i, S1, rfl, hr1⟩ := a_popI_some hr
  obtain ⟨cn, S2, rfl, hr2⟩ := a_popC_some hr1
  obtain ⟨n, N, hN, hr3⟩ := a_arr_some hr2
  obtain ⟨hi, hr4⟩ := cond_some hr3
  refine ⟨_, hr4, ?_⟩
  intro p l e R s m args below meth c gv cA D A ws H locs cells slots ls st Q hC hW hS kk
  obtain ⟨v, st', rfl, ⟨hn, rfl⟩, hS1⟩ := SR_cons hS
  obtain ⟨v2, st'', rfl, ⟨x, hx, rfl⟩, hS2⟩ := SR_cons hS1
  obtain ⟨hK, hP, hD, hS0, hA, hlen, hR⟩ := hW
  obtain ⟨a, e0, g1, g2, g3⟩ := hR cn _ hN
  have hxa : x = a := adr_uniq g1 hx
  subst hxa
  rcases g3 with ⟨q, -⟩ | ⟨-, f, rfl, g4⟩ | ⟨q, -⟩ | ⟨q, -⟩
  · cases q
  · obtain ⟨o1, o2⟩ := in_ok (ble_iff.mp hi) g2
    refine va_zald hC.1 hC.2.1 hK hP cn 1 g1 rfl o1 hd ?_
    rw [o2, g4 i (ble_iff.mp hi)]
    exact kk _ ⟨⟨Nat.lt_trans (dig_lt N 1 i) (by decide), rfl⟩, hS2⟩
  · cases q
  · rcases q with q | q <;> cases q
theorem so_lald (hd : decode M.2.1 pc = .ok (.laload, 1)) (hk : Sound M (pc + 1) k) : Sound M pc (o_ald 2 64 aL k) := by
  refine so_read hk fun L S h r hr => ?_
  obtain ⟨i, S1, rfl, hr1⟩ := a_popI_some hr
  obtain ⟨cn, S2, rfl, hr2⟩ := a_popC_some hr1
  obtain ⟨n, N, hN, hr3⟩ := a_arr_some hr2
  obtain ⟨hi, hr4⟩ := cond_some hr3
  refine ⟨_, hr4, ?_⟩
  intro p l e R s m args below meth c gv cA D A ws H locs cells slots ls st Q hC hW hS kk
  obtain ⟨v, st', rfl, ⟨hn, rfl⟩, hS1⟩ := SR_cons hS
  obtain ⟨v2, st'', rfl, ⟨x, hx, rfl⟩, hS2⟩ := SR_cons hS1
  obtain ⟨hK, hP, hD, hS0, hA, hlen, hR⟩ := hW
  obtain ⟨a, e0, g1, g2, g3⟩ := hR cn _ hN
  have hxa : x = a := adr_uniq g1 hx
  subst hxa
  rcases g3 with ⟨q, -⟩ | ⟨q, -⟩ | ⟨-, f, rfl, g4⟩ | ⟨q, -⟩
  · cases q
  · cases q
  · obtain ⟨o1, o2⟩ := in_ok (ble_iff.mp hi) g2
    refine va_lald hC.1 hC.2.1 hK hP cn 2 g1 rfl o1 hd ?_
    rw [o2, g4 i (ble_iff.mp hi)]
    exact kk _ ⟨⟨dig_lt N 64 i, rfl⟩, hS2⟩
  · rcases q with q | q <;> cases q
theorem so_iast (hd : decode M.2.1 pc = .ok (.iastore, 1)) (hk : Sound M (pc + 1) k) : Sound M pc (o_iast k) := by
  refine so_write hk fun L S h r hr => ?_
  obtain ⟨n0, S0, rfl, hr0⟩ := a_popI_some hr
  obtain ⟨i, S1, rfl, hr1⟩ := a_popI_some hr0
  obtain ⟨cn, S2, rfl, hr2⟩ := a_popC_some hr1
  obtain ⟨n, N, hN, hr3⟩ := a_arr_some hr2
  obtain ⟨hi, hr4⟩ := cond_some hr3
  refine ⟨S2, cn, _, Sum.inl (0, n, a_put N 32 i n0), hN, rfl, hr4, ?_⟩
  intro p l e R s m args below meth c gv cA D A ws H locs cells slots ls st Q hC hW hS kk
  obtain ⟨v0, st0, rfl, ⟨hn0, rfl⟩, hS00⟩ := SR_cons hS
  obtain ⟨v, st', rfl, ⟨hn, rfl⟩, hS1⟩ := SR_cons hS00
  obtain ⟨v2, st'', rfl, ⟨x, hx, rfl⟩, hS2⟩ := SR_cons hS1
  obtain ⟨hK, hP, hD, hS0, hA, hlen, hR⟩ := hW
  obtain ⟨a, e0, g1, g2, g3⟩ := hR cn _ hN
  have hxa : x = a := adr_uniq g1 hx
  subst hxa
  rcases g3 with ⟨-, f, rfl, g4⟩ | ⟨q, -⟩ | ⟨q, -⟩ | ⟨q, -⟩
  · obtain ⟨o1, o2⟩ := in_ok (ble_iff.mp hi) g2
    refine va_iast hC.1 hC.2.1 hK hP hD hS0 cn 0 g1 rfl o1 hd (fun H1 locs1 q1 q2 q3 => ?_)
    refine kk x _ _ H1 locs1 st'' g1 ⟨g2, Or.inl ⟨rfl, _, rfl, fun j hj => ?_⟩⟩ q1 q2 q3 hS2
    rw [o2, dig_put N 32 i n0 j hn0]
    unfold upd
    by_cases hji : j = i
    · rw [if_pos hji, if_pos hji]
    · rw [if_neg hji, if_neg hji]; exact g4 j hj
  · cases q
  · cases q
  · rcases q with q | q <;> cases q
theorem nar_b (n : Nat) (hn : n < 4294967296) : vp_nar .boolean (a_i32 n) = a_i32 (Nat.mod n 2) := by
  show (a_i32 n &&& 1) = _
  have h := (i32_and hn (show 1 < 4294967296 by decide)).1
  have e : a_i32 1 = 1 := rfl
  rw [e] at h
  rw [h]
  congr 1
  show n &&& 1 = n % 2
  rw [show (1 : Nat) = 2 ^ 1 - 1 from rfl, Nat.and_two_pow_sub_one_eq_mod]
theorem so_zast (hd : decode M.2.1 pc = .ok (.bastore, 1)) (hk : Sound M (pc + 1) k) : Sound M pc (o_zast k) := by
  refine so_write hk fun L S h r hr => ?_
  obtain ⟨n0, S0, rfl, hr0⟩ := a_popI_some hr
  obtain ⟨i, S1, rfl, hr1⟩ := a_popI_some hr0
  obtain ⟨cn, S2, rfl, hr2⟩ := a_popC_some hr1
  obtain ⟨n, N, hN, hr3⟩ := a_arr_some hr2
  obtain ⟨hi, hr4⟩ := cond_some hr3
  refine ⟨S2, cn, _, Sum.inl (1, n, a_put N 1 i (Nat.mod n0 2)), hN, rfl, hr4, ?_⟩
  intro p l e R s m args below meth c gv cA D A ws H locs cells slots ls st Q hC hW hS kk
  obtain ⟨v0, st0, rfl, ⟨hn0, rfl⟩, hS00⟩ := SR_cons hS
  obtain ⟨v, st', rfl, ⟨hn, rfl⟩, hS1⟩ := SR_cons hS00
  obtain ⟨v2, st'', rfl, ⟨x, hx, rfl⟩, hS2⟩ := SR_cons hS1
  obtain ⟨hK, hP, hD, hS0, hA, hlen, hR⟩ := hW
  obtain ⟨a, e0, g1, g2, g3⟩ := hR cn _ hN
  have hxa : x = a := adr_uniq g1 hx
  subst hxa
  rcases g3 with ⟨q, -⟩ | ⟨-, f, rfl, g4⟩ | ⟨q, -⟩ | ⟨q, -⟩
  · cases q
  · obtain ⟨o1, o2⟩ := in_ok (ble_iff.mp hi) g2
    refine va_zast hC.1 hC.2.1 hK hP hD hS0 cn 1 g1 rfl o1 hd (fun H1 locs1 q1 q2 q3 => ?_)
    refine kk x _ _ H1 locs1 st'' g1 ⟨g2, Or.inr (Or.inl ⟨rfl, _, rfl, fun j hj => ?_⟩)⟩ q1 q2 q3 hS2
    rw [o2, dig_put N 1 i (Nat.mod n0 2) j (Nat.mod_lt n0 (show 0 < 2 by decide))]
    unfold upd
    by_cases hji : j = i
    · rw [if_pos hji, if_pos hji]; exact nar_b n0 hn0
    · rw [if_neg hji, if_neg hji]; exact g4 j hj
  · cases q
  · rcases q with q | q <;> cases q
theorem so_last (hd : decode M.2.1 pc = .ok (.lastore, 1)) (hk : Sound M (pc + 1) k) : Sound M pc (o_last k) := by
  refine so_write hk fun L S h r hr => ?_
  obtain ⟨n0, S0, rfl, hr0⟩ := a_popL_some hr
  obtain ⟨i, S1, rfl, hr1⟩ := a_popI_some hr0
  obtain ⟨cn, S2, rfl, hr2⟩ := a_popC_some hr1
  obtain ⟨n, N, hN, hr3⟩ := a_arr_some hr2
  obtain ⟨hi, hr4⟩ := cond_some hr3
  refine ⟨S2, cn, _, Sum.inl (2, n, a_put N 64 i n0), hN, rfl, hr4, ?_⟩
  intro p l e R s m args below meth c gv cA D A ws H locs cells slots ls st Q hC hW hS kk
  obtain ⟨v0, st0, rfl, ⟨hn0, rfl⟩, hS00⟩ := SR_cons hS
  obtain ⟨v, st', rfl, ⟨hn, rfl⟩, hS1⟩ := SR_cons hS00
  obtain ⟨v2, st'', rfl, ⟨x, hx, rfl⟩, hS2⟩ := SR_cons hS1
  obtain ⟨hK, hP, hD, hS0, hA, hlen, hR⟩ := hW
  obtain ⟨a, e0, g1, g2, g3⟩ := hR cn _ hN
  have hxa : x = a := adr_uniq g1 hx
  subst hxa
  rcases g3 with ⟨q, -⟩ | ⟨q, -⟩ | ⟨-, f, rfl, g4⟩ | ⟨q, -⟩
  · cases q
  · cases q
  · obtain ⟨o1, o2⟩ := in_ok (ble_iff.mp hi) g2
    refine va_last hC.1 hC.2.1 hK hP hD hS0 cn 2 g1 rfl o1 hd (fun H1 locs1 q1 q2 q3 => ?_)
    refine kk x _ _ H1 locs1 st'' g1 ⟨g2, Or.inr (Or.inr (Or.inl ⟨rfl, _, rfl, fun j hj => ?_⟩))⟩ q1 q2 q3 hS2
    rw [o2, dig_put N 64 i n0 j hn0]
    unfold vp_updL
    by_cases hji : j = i
    · rw [if_pos hji, if_pos hji]
    · rw [if_neg hji, if_neg hji]; exact g4 j hj
  · rcases q with q | q <;> cases q
theorem so_aald (hd : decode M.2.1 pc = .ok (.aaload, 1)) (hk : Sound M (pc + 1) k) : Sound M pc (o_aald k) := by
  refine so_read hk fun L S h r hr => ?_
  obtain ⟨i, S1, rfl, hr1⟩ := a_popI_some hr
  obtain ⟨cn, S2, rfl, hr2⟩ := a_popC_some hr1
  obtain ⟨x0, hN, hr3⟩ := a_hget_some hr2
  match x0, hN, hr3 with
  | .inl (kind, n, N), hN, hr3 =>
    obtain ⟨hkd, hr4⟩ := cond_some hr3
    obtain ⟨hi, hr5⟩ := cond_some hr4
    refine ⟨_, hr5, ?_⟩
    intro p l e R s m args below meth c gv cA D A ws H locs cells slots ls st Q hC hW hS kk
    obtain ⟨v, st', rfl, ⟨hn, rfl⟩, hS1⟩ := SR_cons hS
    obtain ⟨v2, st'', rfl, ⟨x, hx, rfl⟩, hS2⟩ := SR_cons hS1
    obtain ⟨hK, hP, hD, hS0, hA, hlen, hR⟩ := hW
    obtain ⟨a, e0, g1, g2, g3⟩ := hR cn _ hN
    have hxa : x = a := adr_uniq g1 hx
    subst hxa
    have hkd := ble_iff.mp hkd
    rcases g3 with ⟨q, -⟩ | ⟨q, -⟩ | ⟨q, -⟩ | ⟨hk34, f, rfl, g4⟩
    · omega
    · omega
    · omega
    · obtain ⟨o1, o2⟩ := in_ok (ble_iff.mp hi) g2
      have g5 := g4 i (ble_iff.mp hi)
      have fin : W p l e R s m args below meth c H locs cells slots Q (F0 m (pc + 1) ls (va_rf (f (a_i32 i).toNatClampNeg) :: st'')) := by
        rw [o2]
        refine kk _ ⟨?_, hS2⟩
        show vR gv (adr ws) (aR (a_dig N 32 i)) _
        cases hdg : a_dig N 32 i with
        | zero => rw [hdg] at g5; rw [show f i = none from g5]; rfl
        | succ q => rw [hdg] at g5; obtain ⟨y, z1, z2⟩ := g5; rw [z2]; exact ⟨y, z1, rfl⟩
      rcases hk34 with rfl | rfl
      · exact va_aldq hC.1 hC.2.1 hK hP cn 3 (C := RX0) g1 rfl o1 hd fin
      · exact va_aldq hC.1 hC.2.1 hK hP cn 4 (C := RX1) g1 rfl o1 hd fin
theorem so_alen (hd : decode M.2.1 pc = .ok (.arraylength, 1)) (hk : Sound M (pc + 1) k) : Sound M pc (o_alen k) := by
  refine so_read hk fun L S h r hr => ?_
  obtain ⟨cn, S2, rfl, hr2⟩ := a_popC_some hr
  obtain ⟨x0, hN, hr3⟩ := a_hget_some hr2
  match x0, hN, hr3 with
  | .inl (kind, n, N), hN, hr3 =>
    refine ⟨_, hr3, ?_⟩
    intro p l e R s m args below meth c gv cA D A ws H locs cells slots ls st Q hC hW hS kk
    obtain ⟨v2, st'', rfl, ⟨x, hx, rfl⟩, hS2⟩ := SR_cons hS
    obtain ⟨hK, hP, hD, hS0, hA, hlen, hR⟩ := hW
    obtain ⟨a, e0, g1, g2, g3⟩ := hR cn _ hN
    have hxa : x = a := adr_uniq g1 hx
    subst hxa
    have fin := kk _ (show SR gv (adr ws) (aI n :: S2) (.int (a_i32 n) :: st'') from ⟨⟨by omega, rfl⟩, hS2⟩)
    rcases g3 with ⟨-, f, rfl, g4⟩ | ⟨-, f, rfl, g4⟩ | ⟨-, f, rfl, g4⟩ | ⟨hk34, f, rfl, g4⟩
    · exact va_alen hC.1 hC.2.1 hK hP cn 0 g1 (ty := .int) rfl rfl hd fin
    · exact va_alen hC.1 hC.2.1 hK hP cn 1 g1 (ty := .boolean) rfl rfl hd fin
    · exact va_alen hC.1 hC.2.1 hK hP cn 2 g1 (ty := .long) rfl rfl hd fin
    · rcases hk34 with rfl | rfl
      · exact va_alen hC.1 hC.2.1 hK hP cn 3 g1 (ty := .object RX0) rfl rfl hd fin
      · exact va_alen hC.1 hC.2.1 hK hP cn 4 g1 (ty := .object RX1) rfl rfl hd fin
end
