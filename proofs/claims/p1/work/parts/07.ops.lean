/-! ===== each instruction of the evaluator is sound: those that leave the heap alone ===== -/
section
variable {M : AM} {pc pc' : Nat} {k t : AK}
theorem so_step {o : AK} (hk : Sound M pc' k)
    (hs : ∀ (L : ALs) (S : ASt) (h : AH) (r : ARes), o L S h = some r → ∃ (L' : ALs) (S' : ASt), k L' S' h = some r ∧
      ∀ (p : Program) (l : Launch) (e : Env) (R : Room) (s : State) (m : MethodId) (args : Array Value) (below : List Frame) (meth : Method) (c : Code) (gv : Nat → Int32) (ad : List Nat) (H : Heap) (locs : List Loc) (cells slots : Nat) (ls : Array Slot) (st : List Value) (Q : State → Prop),
        CX M p R s m args meth c → LR gv ad ls M.2.2.1 L → SR gv ad S st → (∀ (ls' : Array Slot) (st' : List Value), LR gv ad ls' M.2.2.1 L' → SR gv ad S' st' → W p l e R s m args below meth c H locs cells slots Q (F0 m pc' ls' st')) → W p l e R s m args below meth c H locs cells slots Q (F0 m pc ls st)) : Sound M pc o := by
  intro L S h r hr
  obtain ⟨L', S', e1, e2⟩ := hs L S h r hr
  obtain ⟨h1, h2⟩ := hk L' S' h r e1
  refine ⟨h1, ?_⟩
  intro p l e R s m args below meth c gv cA D A ws H locs cells slots n0 z0 ls st Q hC hW hc hz hrc hrz hL hS hF
  exact e2 p l e R s m args below meth c gv (adr ws) H locs cells slots ls st Q hC hL hS (fun ls' st' hL' hS' => h2 p l e R s m args below meth c gv cA D A ws H locs cells slots n0 z0 ls' st' Q hC hW hc hz hrc hrz hL' hS' hF)
/-- pushing a known int -/
theorem so_ldc {n : Nat} (hn : n < 4294967296) (hk : Sound M pc' k)
    (row : ∀ (p : Program) (l : Launch) (e : Env) (R : Room) (s : State) (m : MethodId) (args : Array Value) (below : List Frame) (meth : Method) (c : Code) (H : Heap) (locs : List Loc) (cells slots : Nat) (ls : Array Slot) (st : List Value) (Q : State → Prop), CX M p R s m args meth c → W p l e R s m args below meth c H locs cells slots Q (F0 m pc' ls (.int (a_i32 n) :: st)) → W p l e R s m args below meth c H locs cells slots Q (F0 m pc ls st)) : Sound M pc (o_ldc n k) := by
  refine so_step hk fun L S h r hr => ⟨L, _, hr, ?_⟩
  intro p l e R s m args below meth c gv ad H locs cells slots ls st Q hC hL hS kk
  exact row p l e R s m args below meth c H locs cells slots ls st Q hC (kk ls _ hL ⟨⟨hn, rfl⟩, hS⟩)
theorem so_ldc2 {n : Nat} (hn : n < 18446744073709551616) (hk : Sound M pc' k)
    (row : ∀ (p : Program) (l : Launch) (e : Env) (R : Room) (s : State) (m : MethodId) (args : Array Value) (below : List Frame) (meth : Method) (c : Code) (H : Heap) (locs : List Loc) (cells slots : Nat) (ls : Array Slot) (st : List Value) (Q : State → Prop), CX M p R s m args meth c → W p l e R s m args below meth c H locs cells slots Q (F0 m pc' ls (.long (a_i64 n) :: st)) → W p l e R s m args below meth c H locs cells slots Q (F0 m pc ls st)) : Sound M pc (o_ldc2 n k) := by
  refine so_step hk fun L S h r hr => ⟨L, _, hr, ?_⟩
  intro p l e R s m args below meth c gv ad H locs cells slots ls st Q hC hL hS kk
  exact row p l e R s m args below meth c H locs cells slots ls st Q hC (kk ls _ hL ⟨⟨hn, rfl⟩, hS⟩)
theorem so_iconst {i : Int} {n : Nat} (hd : decode M.2.1 pc = .ok (.iconst i, 1)) (hv : Int32.ofInt i = a_i32 n) (hn : n < 4294967296) (hk : Sound M (pc + 1) k) : Sound M pc (o_ldc n k) :=
  so_ldc hn hk fun p l e R s m args below meth c H locs cells slots ls st Q hC w => lv_iconst hC.1 hC.2.1 hd hv w
theorem so_bipush {i : Int} {n : Nat} (hd : decode M.2.1 pc = .ok (.bipush i, 2)) (hv : (Int8.ofInt i).toInt32 = a_i32 n) (hn : n < 4294967296) (hk : Sound M (pc + 2) k) : Sound M pc (o_ldc n k) :=
  so_ldc hn hk fun p l e R s m args below meth c H locs cells slots ls st Q hC w => lv_bipush hC.1 hC.2.1 hd hv w
theorem so_sipush {i : Int} {n : Nat} (hd : decode M.2.1 pc = .ok (.sipush i, 3)) (hv : (Int16.ofInt i).toInt32 = a_i32 n) (hn : n < 4294967296) (hk : Sound M (pc + 3) k) : Sound M pc (o_ldc n k) :=
  so_ldc hn hk fun p l e R s m args below meth c H locs cells slots ls st Q hC w => lv_sipush hC.1 hC.2.1 hd hv w
theorem so_ldci {i n : Nat} (hd : decode M.2.1 pc = .ok (.ldc i, 2)) (hw : Jvm.Cond.constant M.1 i (a_i32 n) ∈ k_tbl) (hn : n < 4294967296) (hk : Sound M (pc + 2) k) : Sound M pc (o_ldc n k) :=
  so_ldc hn hk fun p l e R s m args below meth c H locs cells slots ls st Q hC w => lv_ldc hC.1 hC.2.1 hC.2.2.2.1 (hC.2.2.2.2.1 _ hw) hd w
theorem so_ldcw {i n : Nat} (hd : decode M.2.1 pc = .ok (.ldc_w i, 3)) (hw : Jvm.Cond.constant M.1 i (a_i32 n) ∈ k_tbl) (hn : n < 4294967296) (hk : Sound M (pc + 3) k) : Sound M pc (o_ldc n k) :=
  so_ldc hn hk fun p l e R s m args below meth c H locs cells slots ls st Q hC w => lv_ldcw hC.1 hC.2.1 hC.2.2.2.1 (hC.2.2.2.2.1 _ hw) hd w
theorem so_lconst {i : Fin 2} {n : Nat} (hd : decode M.2.1 pc = .ok (.lconst i, 1)) (hv : (i : Nat) = n) (hk : Sound M (pc + 1) k) : Sound M pc (o_ldc2 n k) :=
  so_ldc2 (by omega) hk fun p l e R s m args below meth c H locs cells slots ls st Q hC w => lv_lconst hC.1 hC.2.1 hd (by rw [← hv]; rfl) w
theorem so_ldc2w {i n : Nat} (hd : decode M.2.1 pc = .ok (.ldc2_w i, 3)) (hw : Jvm.Cond.constantLong M.1 i (a_i64 n) ∈ k_tbl) (hn : n < 18446744073709551616) (hk : Sound M (pc + 3) k) : Sound M pc (o_ldc2 n k) :=
  so_ldc2 hn hk fun p l e R s m args below meth c H locs cells slots ls st Q hC w => lv_ldc2 hC.1 hC.2.1 hC.2.2.2.1 (hC.2.2.2.2.1 _ hw) hd w
/-- a value with which the locals are read -/
theorem LR_get {gv : Nat → Int32} {ad : List Nat} {ls : Array Slot} {nL : Nat} {L : ALs} (h : LR gv ad ls nL L) {i : Nat} {a : AV} (hi : L[i]? = some (some a)) : ∃ v, ls[i]? = some (.val v) ∧ vR gv ad a v := by
  obtain ⟨lv, h1, -, h3⟩ := h
  obtain ⟨v, h4, h5⟩ := h3 i a hi
  exact ⟨v, h1.2.2 _ h4, h5⟩
theorem so_iload0 {i : Nat} (hk : Sound M pc' k)
    (row : ∀ (p : Program) (l : Launch) (e : Env) (R : Room) (s : State) (m : MethodId) (args : Array Value) (below : List Frame) (meth : Method) (c : Code) (H : Heap) (locs : List Loc) (cells slots : Nat) (ls : Array Slot) (st : List Value) (Q : State → Prop) (x : Int32), CX M p R s m args meth c → ls[i]? = some (.val (.int x)) → W p l e R s m args below meth c H locs cells slots Q (F0 m pc' ls (.int x :: st)) → W p l e R s m args below meth c H locs cells slots Q (F0 m pc ls st)) : Sound M pc (o_iload i k) := by
  refine so_step hk fun L S h r hr => ?_
  obtain ⟨a, ha, hr1⟩ := a_lget_some hr
  rcases a_isI_some hr1 with ⟨n, rfl, hr2⟩ | ⟨g, lo, hi, rfl, hr2⟩
  · refine ⟨L, _, hr2, ?_⟩
    intro p l e R s m args below meth c gv ad H locs cells slots ls st Q hC hL hS kk
    obtain ⟨v, h1, h2⟩ := LR_get hL ha
    obtain ⟨hn, rfl⟩ := h2
    exact row p l e R s m args below meth c H locs cells slots ls st Q _ hC h1 (kk ls _ hL ⟨⟨hn, rfl⟩, hS⟩)
  · refine ⟨L, _, hr2, ?_⟩
    intro p l e R s m args below meth c gv ad H locs cells slots ls st Q hC hL hS kk
    obtain ⟨v, h1, h2⟩ := LR_get hL ha
    obtain ⟨x, rfl, h3⟩ := h2
    exact row p l e R s m args below meth c H locs cells slots ls st Q _ hC h1 (kk ls _ hL ⟨⟨x, rfl, h3⟩, hS⟩)
theorem so_iload_n {i : Nat} {f : Fin 4} (hd : decode M.2.1 pc = .ok (.iload_n f, 1)) (hi : (f : Nat) = i) (hk : Sound M (pc + 1) k) : Sound M pc (o_iload i k) :=
  so_iload0 hk fun p l e R s m args below meth c H locs cells slots ls st Q x hC hx w => lv_iload_n hC.1 hC.2.1 hd hi hx w
theorem so_iload {i : Nat} (hd : decode M.2.1 pc = .ok (.iload i, 2)) (hk : Sound M (pc + 2) k) : Sound M pc (o_iload i k) :=
  so_iload0 hk fun p l e R s m args below meth c H locs cells slots ls st Q x hC hx w => lv_iload hC.1 hC.2.1 hd hx w
theorem so_aload0 {i : Nat} (hk : Sound M pc' k)
    (row : ∀ (p : Program) (l : Launch) (e : Env) (R : Room) (s : State) (m : MethodId) (args : Array Value) (below : List Frame) (meth : Method) (c : Code) (H : Heap) (locs : List Loc) (cells slots : Nat) (ls : Array Slot) (st : List Value) (Q : State → Prop) (x : Nat), CX M p R s m args meth c → ls[i]? = some (.val (.ref x)) → W p l e R s m args below meth c H locs cells slots Q (F0 m pc' ls (.ref x :: st)) → W p l e R s m args below meth c H locs cells slots Q (F0 m pc ls st)) : Sound M pc (o_aload i k) := by
  refine so_step hk fun L S h r hr => ?_
  obtain ⟨a, ha, hr1⟩ := a_lget_some hr
  obtain ⟨n, rfl, hr2⟩ := a_isC_some hr1
  refine ⟨L, _, hr2, ?_⟩
  intro p l e R s m args below meth c gv ad H locs cells slots ls st Q hC hL hS kk
  obtain ⟨v, h1, h2⟩ := LR_get hL ha
  obtain ⟨x, hx, rfl⟩ := h2
  exact row p l e R s m args below meth c H locs cells slots ls st Q _ hC h1 (kk ls _ hL ⟨⟨x, hx, rfl⟩, hS⟩)
theorem so_aload_n {i : Nat} {f : Fin 4} (hd : decode M.2.1 pc = .ok (.aload_n f, 1)) (hi : (f : Nat) = i) (hk : Sound M (pc + 1) k) : Sound M pc (o_aload i k) :=
  so_aload0 hk fun p l e R s m args below meth c H locs cells slots ls st Q x hC hx w => lv_aload_n hC.1 hC.2.1 hd hi hx w
theorem so_aload {i : Nat} (hd : decode M.2.1 pc = .ok (.aload i, 2)) (hk : Sound M (pc + 2) k) : Sound M pc (o_aload i k) :=
  so_aload0 hk fun p l e R s m args below meth c H locs cells slots ls st Q x hC hx w => lv_aload hC.1 hC.2.1 hd hx w
theorem so_lload0 {i : Nat} (hk : Sound M pc' k)
    (row : ∀ (p : Program) (l : Launch) (e : Env) (R : Room) (s : State) (m : MethodId) (args : Array Value) (below : List Frame) (meth : Method) (c : Code) (H : Heap) (locs : List Loc) (cells slots : Nat) (ls : Array Slot) (st : List Value) (Q : State → Prop) (x : Int64), CX M p R s m args meth c → ls[i]? = some (.val (.long x)) → W p l e R s m args below meth c H locs cells slots Q (F0 m pc' ls (.long x :: st)) → W p l e R s m args below meth c H locs cells slots Q (F0 m pc ls st)) : Sound M pc (o_lload i k) := by
  refine so_step hk fun L S h r hr => ?_
  obtain ⟨a, ha, hr1⟩ := a_lget_some hr
  obtain ⟨n, rfl, hr2⟩ := a_isL_some hr1
  refine ⟨L, _, hr2, ?_⟩
  intro p l e R s m args below meth c gv ad H locs cells slots ls st Q hC hL hS kk
  obtain ⟨v, h1, h2⟩ := LR_get hL ha
  obtain ⟨hn, rfl⟩ := h2
  exact row p l e R s m args below meth c H locs cells slots ls st Q _ hC h1 (kk ls _ hL ⟨⟨hn, rfl⟩, hS⟩)
theorem so_lload_n {i : Nat} {f : Fin 4} (hd : decode M.2.1 pc = .ok (.lload_n f, 1)) (hi : (f : Nat) = i) (hk : Sound M (pc + 1) k) : Sound M pc (o_lload i k) :=
  so_lload0 hk fun p l e R s m args below meth c H locs cells slots ls st Q x hC hx w => lv_lload_n hC.1 hC.2.1 hd hi hx w
theorem so_lload {i : Nat} (hd : decode M.2.1 pc = .ok (.lload i, 2)) (hk : Sound M (pc + 2) k) : Sound M pc (o_lload i k) :=
  so_lload0 hk fun p l e R s m args below meth c H locs cells slots ls st Q x hC hx w => lv_lload hC.1 hC.2.1 hd hx w
/-! storing into the locals -/
theorem LR_set1 {gv : Nat → Int32} {ad : List Nat} {ls : Array Slot} {nL : Nat} {L : ALs} {lv : List (Nat × Value)} (h1 : lv_has ls nL lv) (h2 : L.length ≤ nL) (h3 : ∀ i av, L[i]? = some (some av) → ∃ v, (i, v) ∈ lv ∧ vR gv ad av v) {i : Nat} {a : AV} {v : Value} (hv : vR gv ad a v) {ls' : Array Slot} (h' : lv_has ls' nL ((i, v) :: lv.filter (fun q => !(q.1 == i) && !(q.1 + 1 == i && q.2.category == 2)))) : LR gv ad ls' nL (a_lset a L i) := by
  refine ⟨_, h', by rw [a_lset_len]; exact h2, fun j b hb => ?_⟩
  rcases a_lset_get hb with ⟨rfl, rfl⟩ | ⟨hj, hL, hno⟩
  · exact ⟨v, List.mem_cons_self, hv⟩
  · obtain ⟨w, hw1, hw2⟩ := h3 j b hL
    refine ⟨w, List.mem_cons_of_mem _ (List.mem_filter.mpr ⟨hw1, ?_⟩), hw2⟩
    have hc : ¬ (j + 1 = i ∧ w.category = 2) := by
      rintro ⟨q1, q2⟩
      refine hno ⟨q1, ?_⟩
      match b, hw2 with
      | .inl n, hw2 => rw [hw2.2] at q2; cases q2
      | .inr (.inl 0), hw2 => rw [show w = Value.null from hw2] at q2; cases q2
      | .inr (.inl (r + 1)), ⟨x, _, hx⟩ => rw [hx] at q2; cases q2
      | .inr (.inr (.inl n)), hw2 => exact ⟨n, rfl⟩
      | .inr (.inr (.inr (g, lo, hi))), ⟨x, hx, _⟩ => rw [hx] at q2; cases q2
    simp only [Bool.and_eq_true, Bool.not_eq_true', beq_eq_false_iff_ne, ne_eq, Bool.and_eq_false_iff]
    refine ⟨hj, ?_⟩
    by_cases q : j + 1 = i
    · exact Or.inr (fun z => hc ⟨q, z⟩)
    · exact Or.inl q
theorem LR_set2 {gv : Nat → Int32} {ad : List Nat} {ls : Array Slot} {nL : Nat} {L : ALs} {lv : List (Nat × Value)} (h1 : lv_has ls nL lv) (h2 : L.length ≤ nL) (h3 : ∀ i av, L[i]? = some (some av) → ∃ v, (i, v) ∈ lv ∧ vR gv ad av v) {i : Nat} {a : AV} {v : Value} (hv : vR gv ad a v) {ls' : Array Slot} (h' : lv_has ls' nL ((i, v) :: lv.filter (fun q => !(q.1 == i) && (!(q.1 == i + 1) && !(q.1 + 1 == i && q.2.category == 2))))) : LR gv ad ls' nL (a_set none (a_lset a L i) (i + 1)) := by
  refine ⟨_, h', by rw [a_set_eq, List.length_set, a_lset_len]; exact h2, fun j b hb => ?_⟩
  rw [a_set_eq] at hb
  have hj1 : j ≠ i + 1 := by
    intro q
    subst q
    rw [List.getElem?_set] at hb
    simp at hb
  rw [List.getElem?_set_ne (Ne.symm hj1)] at hb
  rcases a_lset_get hb with ⟨rfl, rfl⟩ | ⟨hj, hL, hno⟩
  · exact ⟨v, List.mem_cons_self, hv⟩
  · obtain ⟨w, hw1, hw2⟩ := h3 j b hL
    refine ⟨w, List.mem_cons_of_mem _ (List.mem_filter.mpr ⟨hw1, ?_⟩), hw2⟩
    have hc : ¬ (j + 1 = i ∧ w.category = 2) := by
      rintro ⟨q1, q2⟩
      refine hno ⟨q1, ?_⟩
      match b, hw2 with
      | .inl n, hw2 => rw [hw2.2] at q2; cases q2
      | .inr (.inl 0), hw2 => rw [show w = Value.null from hw2] at q2; cases q2
      | .inr (.inl (r + 1)), ⟨x, _, hx⟩ => rw [hx] at q2; cases q2
      | .inr (.inr (.inl n)), hw2 => exact ⟨n, rfl⟩
      | .inr (.inr (.inr (g, lo, hi))), ⟨x, hx, _⟩ => rw [hx] at q2; cases q2
    simp only [Bool.and_eq_true, Bool.not_eq_true', beq_eq_false_iff_ne, ne_eq, Bool.and_eq_false_iff]
    refine ⟨hj, hj1, ?_⟩
    by_cases q : j + 1 = i
    · exact Or.inr (fun z => hc ⟨q, z⟩)
    · exact Or.inl q
theorem so_istore0 {i : Nat} (hn : i < M.2.2.1) (hk : Sound M pc' k)
    (row : ∀ (p : Program) (l : Launch) (e : Env) (R : Room) (s : State) (m : MethodId) (args : Array Value) (below : List Frame) (meth : Method) (c : Code) (H : Heap) (locs : List Loc) (cells slots : Nat) (ls : Array Slot) (st : List Value) (Q : State → Prop) (x : Int32) (lv : List (Nat × Value)), CX M p R s m args meth c → lv_has ls M.2.2.1 lv → (∀ ls', lv_has ls' M.2.2.1 ((i, Value.int x) :: lv.filter (fun q => !(q.1 == i) && !(q.1 + 1 == i && q.2.category == 2))) → W p l e R s m args below meth c H locs cells slots Q (F0 m pc' ls' st)) → W p l e R s m args below meth c H locs cells slots Q (F0 m pc ls (.int x :: st))) : Sound M pc (o_istore i k) := by
  refine so_step hk fun L S h r hr => ?_
  obtain ⟨a, S', rfl, hr1⟩ := a_popV_some hr
  rcases a_isI_some hr1 with ⟨n, rfl, hr2⟩ | ⟨g, lo, hi, rfl, hr2⟩
  · refine ⟨_, S', hr2, ?_⟩
    intro p l e R s m args below meth c gv ad H locs cells slots ls st Q hC hL hS kk
    obtain ⟨v, st', rfl, hv, hS1⟩ := SR_cons hS
    obtain ⟨lv, h1, h2, h3⟩ := hL
    obtain ⟨hnn, rfl⟩ := hv
    exact row p l e R s m args below meth c H locs cells slots ls st' Q _ lv hC h1 (fun ls' h' => kk ls' st' (LR_set1 (a := aI n) h1 h2 h3 ⟨hnn, rfl⟩ h') hS1)
  · refine ⟨_, S', hr2, ?_⟩
    intro p l e R s m args below meth c gv ad H locs cells slots ls st Q hC hL hS kk
    obtain ⟨v, st', rfl, hv, hS1⟩ := SR_cons hS
    obtain ⟨lv, h1, h2, h3⟩ := hL
    obtain ⟨x, rfl, hx⟩ := hv
    exact row p l e R s m args below meth c H locs cells slots ls st' Q _ lv hC h1 (fun ls' h' => kk ls' st' (LR_set1 (a := aU g lo hi) h1 h2 h3 ⟨x, rfl, hx⟩ h') hS1)
theorem so_istore_n {i : Nat} {f : Fin 4} (hd : decode M.2.1 pc = .ok (.istore_n f, 1)) (hi : (f : Nat) = i) (hn : i < M.2.2.1) (hk : Sound M (pc + 1) k) : Sound M pc (o_istore i k) :=
  so_istore0 hn hk fun p l e R s m args below meth c H locs cells slots ls st Q x lv hC h1 w => lv_istore_n hC.1 hC.2.1 hd hi h1 hn rfl w
theorem so_istore {i : Nat} (hd : decode M.2.1 pc = .ok (.istore i, 2)) (hn : i < M.2.2.1) (hk : Sound M (pc + 2) k) : Sound M pc (o_istore i k) :=
  so_istore0 hn hk fun p l e R s m args below meth c H locs cells slots ls st Q x lv hC h1 w => lv_istore hC.1 hC.2.1 hd h1 hn rfl w
theorem so_astore0 {i : Nat} (hn : i < M.2.2.1) (hk : Sound M pc' k)
    (row : ∀ (p : Program) (l : Launch) (e : Env) (R : Room) (s : State) (m : MethodId) (args : Array Value) (below : List Frame) (meth : Method) (c : Code) (H : Heap) (locs : List Loc) (cells slots : Nat) (ls : Array Slot) (st : List Value) (Q : State → Prop) (x : Nat) (lv : List (Nat × Value)), CX M p R s m args meth c → lv_has ls M.2.2.1 lv → (∀ ls', lv_has ls' M.2.2.1 ((i, Value.ref x) :: lv.filter (fun q => !(q.1 == i) && !(q.1 + 1 == i && q.2.category == 2))) → W p l e R s m args below meth c H locs cells slots Q (F0 m pc' ls' st)) → W p l e R s m args below meth c H locs cells slots Q (F0 m pc ls (.ref x :: st))) : Sound M pc (o_astore i k) := by
  refine so_step hk fun L S h r hr => ?_
  obtain ⟨n, S', rfl, hr1⟩ := a_popC_some hr
  refine ⟨_, S', hr1, ?_⟩
  intro p l e R s m args below meth c gv ad H locs cells slots ls st Q hC hL hS kk
  obtain ⟨v, st', rfl, hv, hS1⟩ := SR_cons hS
  obtain ⟨lv, h1, h2, h3⟩ := hL
  obtain ⟨x, hx, rfl⟩ := hv
  exact row p l e R s m args below meth c H locs cells slots ls st' Q _ lv hC h1 (fun ls' h' => kk ls' st' (LR_set1 (a := aR (n + 1)) h1 h2 h3 ⟨x, hx, rfl⟩ h') hS1)
theorem so_astore_n {i : Nat} {f : Fin 4} (hd : decode M.2.1 pc = .ok (.astore_n f, 1)) (hi : (f : Nat) = i) (hn : i < M.2.2.1) (hk : Sound M (pc + 1) k) : Sound M pc (o_astore i k) :=
  so_astore0 hn hk fun p l e R s m args below meth c H locs cells slots ls st Q x lv hC h1 w => lv_astore_n hC.1 hC.2.1 hd hi h1 hn rfl w
theorem so_astore {i : Nat} (hd : decode M.2.1 pc = .ok (.astore i, 2)) (hn : i < M.2.2.1) (hk : Sound M (pc + 2) k) : Sound M pc (o_astore i k) :=
  so_astore0 hn hk fun p l e R s m args below meth c H locs cells slots ls st Q x lv hC h1 w => lv_astore hC.1 hC.2.1 hd h1 hn rfl w
theorem so_lstore0 {i : Nat} (hn : i + 1 < M.2.2.1) (hk : Sound M pc' k)
    (row : ∀ (p : Program) (l : Launch) (e : Env) (R : Room) (s : State) (m : MethodId) (args : Array Value) (below : List Frame) (meth : Method) (c : Code) (H : Heap) (locs : List Loc) (cells slots : Nat) (ls : Array Slot) (st : List Value) (Q : State → Prop) (x : Int64) (lv : List (Nat × Value)), CX M p R s m args meth c → lv_has ls M.2.2.1 lv → (∀ ls', lv_has ls' M.2.2.1 ((i, Value.long x) :: lv.filter (fun q => !(q.1 == i) && (!(q.1 == i + 1) && !(q.1 + 1 == i && q.2.category == 2)))) → W p l e R s m args below meth c H locs cells slots Q (F0 m pc' ls' st)) → W p l e R s m args below meth c H locs cells slots Q (F0 m pc ls (.long x :: st))) : Sound M pc (o_lstore i k) := by
  refine so_step hk fun L S h r hr => ?_
  obtain ⟨n, S', rfl, hr1⟩ := a_popL_some hr
  refine ⟨_, S', hr1, ?_⟩
  intro p l e R s m args below meth c gv ad H locs cells slots ls st Q hC hL hS kk
  obtain ⟨v, st', rfl, hv, hS1⟩ := SR_cons hS
  obtain ⟨lv, h1, h2, h3⟩ := hL
  obtain ⟨hnn, rfl⟩ := hv
  exact row p l e R s m args below meth c H locs cells slots ls st' Q _ lv hC h1 (fun ls' h' => kk ls' st' (LR_set2 (a := aL n) h1 h2 h3 ⟨hnn, rfl⟩ h') hS1)
theorem so_lstore_n {i : Nat} {f : Fin 4} (hd : decode M.2.1 pc = .ok (.lstore_n f, 1)) (hi : (f : Nat) = i) (hn : i + 1 < M.2.2.1) (hk : Sound M (pc + 1) k) : Sound M pc (o_lstore i k) :=
  so_lstore0 hn hk fun p l e R s m args below meth c H locs cells slots ls st Q x lv hC h1 w => lv_lstore_n hC.1 hC.2.1 hd hi h1 hn rfl w
theorem so_lstore {i : Nat} (hd : decode M.2.1 pc = .ok (.lstore i, 2)) (hn : i + 1 < M.2.2.1) (hk : Sound M (pc + 2) k) : Sound M pc (o_lstore i k) :=
  so_lstore0 hn hk fun p l e R s m args below meth c H locs cells slots ls st Q x lv hC h1 w => lv_lstore hC.1 hC.2.1 hd h1 hn rfl w
theorem so_iinc {i n : Nat} {z : Int} (hd : decode M.2.1 pc = .ok (.iinc i z, 3)) (hz : Int32.ofInt z = a_i32 n) (hnn : n < 4294967296) (hn : i < M.2.2.1) (hk : Sound M (pc + 3) k) : Sound M pc (o_iinc i n k) := by
  refine so_step hk fun L S h r hr => ?_
  obtain ⟨a, ha, hr1⟩ := a_lget_some hr
  match a, ha, hr1 with
  | .inl x, ha, hr =>
    refine ⟨_, S, hr, ?_⟩
    intro p l e R s m args below meth c gv ad H locs cells slots ls st Q hC hL hS kk
    obtain ⟨lv, h1, h2, h3⟩ := hL
    obtain ⟨v, hv, hx, rfl⟩ := h3 i _ ha
    obtain ⟨j, hj⟩ := List.getElem?_of_mem hv
    obtain ⟨e1, e2⟩ := i32_add hx hnn
    exact lv_iinc hC.1 hC.2.1 hd h1 (k := j) hj (by rw [hz, e1]) hn rfl (fun ls' h' => kk ls' st (LR_set1 (a := aI (f_add x n)) h1 h2 h3 ⟨e2, rfl⟩ h') hS)
/-! arithmetic -/
theorem so_bin0 {f : Nat → Nat → Nat} {g : Int32 → Int32 → Int32} (hf : ∀ x y, x < 4294967296 → y < 4294967296 → g (a_i32 x) (a_i32 y) = a_i32 (f x y) ∧ f x y < 4294967296) (hk : Sound M pc' k)
    (row : ∀ (p : Program) (l : Launch) (e : Env) (R : Room) (s : State) (m : MethodId) (args : Array Value) (below : List Frame) (meth : Method) (c : Code) (H : Heap) (locs : List Loc) (cells slots : Nat) (ls : Array Slot) (st : List Value) (Q : State → Prop) (x y : Int32), CX M p R s m args meth c → W p l e R s m args below meth c H locs cells slots Q (F0 m pc' ls (.int (g x y) :: st)) → W p l e R s m args below meth c H locs cells slots Q (F0 m pc ls (.int y :: .int x :: st))) : Sound M pc (o_bin f k) := by
  refine so_step hk fun L S h r hr => ?_
  obtain ⟨y, S1, rfl, hr1⟩ := a_popI_some hr
  obtain ⟨x, S2, rfl, hr2⟩ := a_popI_some hr1
  refine ⟨L, _, hr2, ?_⟩
  intro p l e R s m args below meth c gv ad H locs cells slots ls st Q hC hL hS kk
  obtain ⟨v, st', rfl, ⟨hy, rfl⟩, hS1⟩ := SR_cons hS
  obtain ⟨w, st'', rfl, ⟨hx, rfl⟩, hS2⟩ := SR_cons hS1
  obtain ⟨e1, e2⟩ := hf x y hx hy
  exact row p l e R s m args below meth c H locs cells slots ls st'' Q _ _ hC (by rw [e1]; exact kk ls _ hL ⟨⟨e2, rfl⟩, hS2⟩)
theorem so_iadd (hd : decode M.2.1 pc = .ok (.iadd, 1)) (hk : Sound M (pc + 1) k) : Sound M pc (o_bin f_add k) :=
  so_bin0 (g := fun x y => x + y) (fun _ _ hx hy => i32_add hx hy) hk fun p l e R s m args below meth c H locs cells slots ls st Q x y hC w => lv_iadd hC.1 hC.2.1 hd w
theorem so_isub (hd : decode M.2.1 pc = .ok (.isub, 1)) (hk : Sound M (pc + 1) k) : Sound M pc (o_bin f_sub k) :=
  so_bin0 (g := fun x y => x - y) (fun _ _ hx hy => i32_sub hx hy) hk fun p l e R s m args below meth c H locs cells slots ls st Q x y hC w => lv_isub hC.1 hC.2.1 hd w
theorem so_imul (hd : decode M.2.1 pc = .ok (.imul, 1)) (hk : Sound M (pc + 1) k) : Sound M pc (o_bin f_mul k) :=
  so_bin0 (g := fun x y => x * y) (fun _ _ hx hy => i32_mul hx hy) hk fun p l e R s m args below meth c H locs cells slots ls st Q x y hC w => lv_imul hC.1 hC.2.1 hd w
theorem so_iand (hd : decode M.2.1 pc = .ok (.iand, 1)) (hk : Sound M (pc + 1) k) : Sound M pc (o_bin Nat.land k) :=
  so_bin0 (g := fun x y => x &&& y) (fun _ _ hx hy => i32_and hx hy) hk fun p l e R s m args below meth c H locs cells slots ls st Q x y hC w => lv_iand hC.1 hC.2.1 hd w
theorem so_ior (hd : decode M.2.1 pc = .ok (.ior, 1)) (hk : Sound M (pc + 1) k) : Sound M pc (o_bin Nat.lor k) :=
  so_bin0 (g := fun x y => x ||| y) (fun _ _ hx hy => i32_or hx hy) hk fun p l e R s m args below meth c H locs cells slots ls st Q x y hC w => lv_ior hC.1 hC.2.1 hd w
theorem so_ixor (hd : decode M.2.1 pc = .ok (.ixor, 1)) (hk : Sound M (pc + 1) k) : Sound M pc (o_bin Nat.xor k) :=
  so_bin0 (g := fun x y => x ^^^ y) (fun _ _ hx hy => i32_xor hx hy) hk fun p l e R s m args below meth c H locs cells slots ls st Q x y hC w => lv_ixor hC.1 hC.2.1 hd w
theorem so_ishl (hd : decode M.2.1 pc = .ok (.ishl, 1)) (hk : Sound M (pc + 1) k) : Sound M pc (o_bin f_shl k) :=
  so_bin0 (g := fun x y => x <<< (y &&& 31)) (fun _ _ hx hy => i32_shl hx hy) hk fun p l e R s m args below meth c H locs cells slots ls st Q x y hC w => lv_ishl hC.1 hC.2.1 hd w
theorem so_ishr (hd : decode M.2.1 pc = .ok (.ishr, 1)) (hk : Sound M (pc + 1) k) : Sound M pc (o_bin a_shr k) :=
  so_bin0 (g := fun x y => x >>> (y &&& 31)) (fun _ _ hx hy => i32_shr hx hy) hk fun p l e R s m args below meth c H locs cells slots ls st Q x y hC w => lv_ishr hC.1 hC.2.1 hd w
theorem so_iushr (hd : decode M.2.1 pc = .ok (.iushr, 1)) (hk : Sound M (pc + 1) k) : Sound M pc (o_bin f_ushr k) :=
  so_bin0 (g := fun x y => (x.toUInt32 >>> (y.toUInt32 &&& Int32.toUInt32 31)).toInt32) (fun _ _ hx hy => i32_ushr hx hy) hk fun p l e R s m args below meth c H locs cells slots ls st Q x y hC w => lv_iushr hC.1 hC.2.1 hd rfl w
end
