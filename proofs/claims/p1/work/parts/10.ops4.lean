/-! ===== instructions, fourth part: answers and calls ===== -/
theorem a_nil_some {S : ASt} {x : AO} {r : ARes} (h : a_nil S x = some r) : S = [] ∧ x = some r := by
  match S, h with
  | [], h => exact ⟨rfl, h⟩
section
variable {M : AM} {pc pc' : Nat} {k t : AK}
theorem so_reti (hd : decode M.2.1 pc = .ok (.ireturn, 1)) (hr : M.2.2.2.1 = some .int) : Sound M pc o_reti := by
  intro L S h r e
  obtain ⟨a, S1, rfl, e1⟩ := a_popV_some e
  obtain ⟨rfl, e2⟩ := a_nil_some e1
  rcases a_isI_some e2 with ⟨n, rfl, e3⟩ | ⟨g, lo, hi, rfl, e3⟩
  · cases e3
    refine ⟨⟨⟨Nat.le_refl _, Nat.le_refl _⟩, Or.inl hr⟩, ?_⟩
    intro p l e R s m args below meth c gv cA D A ws H locs cells slots n0 z0 ls st Q hC hW hc hz hrc hrz hL hS hF
    obtain ⟨v, st', rfl, hv, hS1⟩ := SR_cons hS
    cases SR_nil hS1
    exact hF ws H locs cells slots ls [v] pc hW (a_ext.rf ws) hc hz ⟨v, rfl, hv⟩ hd
  · cases e3
    refine ⟨⟨⟨Nat.le_refl _, Nat.le_refl _⟩, hr⟩, ?_⟩
    intro p l e R s m args below meth c gv cA D A ws H locs cells slots n0 z0 ls st Q hC hW hc hz hrc hrz hL hS hF
    obtain ⟨v, st', rfl, hv, hS1⟩ := SR_cons hS
    cases SR_nil hS1
    exact hF ws H locs cells slots ls [v] pc hW (a_ext.rf ws) hc hz ⟨v, rfl, hv⟩ hd
theorem so_retz (hd : decode M.2.1 pc = .ok (.ireturn, 1)) (hr : M.2.2.2.1 = some .boolean) : Sound M pc o_retz := by
  intro L S h r e
  obtain ⟨n, S1, rfl, e1⟩ := a_popI_some e
  obtain ⟨rfl, e2⟩ := a_nil_some e1
  obtain ⟨hn, e3⟩ := cond_some e2
  cases e3
  refine ⟨⟨⟨Nat.le_refl _, Nat.le_refl _⟩, Or.inr ⟨hr, ble_iff.mp hn⟩⟩, ?_⟩
  intro p l e R s m args below meth c gv cA D A ws H locs cells slots n0 z0 ls st Q hC hW hc hz hrc hrz hL hS hF
  obtain ⟨v, st', rfl, hv, hS1⟩ := SR_cons hS
  cases SR_nil hS1
  exact hF ws H locs cells slots ls [v] pc hW (a_ext.rf ws) hc hz ⟨v, rfl, hv⟩ hd
theorem so_retl (hd : decode M.2.1 pc = .ok (.lreturn, 1)) (hr : M.2.2.2.1 = some .long) : Sound M pc o_retl := by
  intro L S h r e
  obtain ⟨n, S1, rfl, e1⟩ := a_popL_some e
  obtain ⟨rfl, e2⟩ := a_nil_some e1
  cases e2
  refine ⟨⟨⟨Nat.le_refl _, Nat.le_refl _⟩, hr⟩, ?_⟩
  intro p l e R s m args below meth c gv cA D A ws H locs cells slots n0 z0 ls st Q hC hW hc hz hrc hrz hL hS hF
  obtain ⟨v, st', rfl, hv, hS1⟩ := SR_cons hS
  cases SR_nil hS1
  exact hF ws H locs cells slots ls [v] pc hW (a_ext.rf ws) hc hz ⟨v, rfl, hv⟩ hd
theorem so_reta {C : String} (hd : decode M.2.1 pc = .ok (.areturn, 1)) (hr : M.2.2.2.1 = some (.object C)) : Sound M pc o_reta := by
  intro L S h r e
  obtain ⟨n, S1, rfl, e1⟩ := a_popC_some e
  obtain ⟨rfl, e2⟩ := a_nil_some e1
  cases e2
  refine ⟨⟨⟨Nat.le_refl _, Nat.le_refl _⟩, by omega, C, hr⟩, ?_⟩
  intro p l e R s m args below meth c gv cA D A ws H locs cells slots n0 z0 ls st Q hC hW hc hz hrc hrz hL hS hF
  obtain ⟨v, st', rfl, hv, hS1⟩ := SR_cons hS
  cases SR_nil hS1
  exact hF ws H locs cells slots ls [v] pc hW (a_ext.rf ws) hc hz ⟨v, rfl, hv⟩ hd
theorem so_retv (hd : decode M.2.1 pc = .ok (.return_, 1)) (hr : M.2.2.2.1 = none) : Sound M pc o_retv := by
  intro L S h r e
  obtain ⟨rfl, e2⟩ := a_nil_some e
  cases e2
  refine ⟨⟨⟨Nat.le_refl _, Nat.le_refl _⟩, hr⟩, ?_⟩
  intro p l e R s m args below meth c gv cA D A ws H locs cells slots n0 z0 ls st Q hC hW hc hz hrc hrz hL hS hF
  cases SR_nil hS
  exact hF ws H locs cells slots ls [] pc hW (a_ext.rf ws) hc hz rfl hd
theorem so_none : Sound M pc o_none := by
  intro L S h r e
  cases e
theorem so_stop {n : Nat} (hn : n = pc) : Sound M pc (o_stop n) := by
  subst hn
  intro L S h r e
  cases e
  refine ⟨⟨⟨Nat.le_refl _, Nat.le_refl _⟩, trivial⟩, ?_⟩
  intro p l e R s m args below meth c gv cA D A ws H locs cells slots n0 z0 ls st Q hC hW hc hz hrc hrz hL hS hF
  exact hF ws H locs cells slots ls st hW (a_ext.rf ws) hc hz hL hS
end
/-! the arguments of a call -/
noncomputable def a_lay : List AV → ALs
  | [] => []
  | a :: r => a_if (a_cat1 a) (some a :: a_lay r) (some a :: none :: a_lay r)
theorem a_lay_app (x y : List AV) : a_lay (x ++ y) = a_lay x ++ a_lay y := by
  induction x with
  | nil => rfl
  | cons a r ih =>
    show a_if (a_cat1 a) (some a :: a_lay (r ++ y)) (some a :: none :: a_lay (r ++ y)) = a_if (a_cat1 a) (some a :: a_lay r) (some a :: none :: a_lay r) ++ a_lay y
    rw [ih]
    cases a_cat1 a <;> rfl
noncomputable def a_shw : List Bool → Nat
  | [] => 0
  | b :: r => a_shw r + a_if b 1 2
theorem a_args_some {sh : List Bool} : ∀ {S : ASt} {acc : ALs} {K : ASt → ALs → AO} {r : ARes}, a_args sh S acc K = some r → ∃ (As : List AV) (S' : ASt), S = As.reverse ++ S' ∧ As.length = sh.length ∧ (a_lay As).length = a_shw sh ∧ K S' (a_lay As ++ acc) = some r := by
  induction sh with
  | nil => intro S acc K r h; exact ⟨[], S, rfl, rfl, rfl, h⟩
  | cons b sh ih =>
    intro S acc K r h
    obtain ⟨v, S1, rfl, h1⟩ := a_popV_some h
    cases hb : b
    · rw [hb] at h1
      cases hc : a_cat1 v
      · rw [hc] at h1
        obtain ⟨As, S', rfl, g2, g3, g4⟩ := ih h1
        refine ⟨As ++ [v], S', by simp, by simp [g2], ?_, ?_⟩
        · rw [a_lay_app, List.length_append, g3]
          show a_shw sh + (a_if (a_cat1 v) [some v] [some v, none] : ALs).length = _
          rw [hc]; rfl
        · rw [a_lay_app]
          have e : a_lay [v] = [some v, none] := by
            show (a_if (a_cat1 v) [some v] [some v, none] : ALs) = _
            rw [hc]; rfl
          rw [e, List.append_assoc]
          exact g4
      · rw [hc] at h1; cases h1
    · rw [hb] at h1
      cases hc : a_cat1 v
      · rw [hc] at h1; cases h1
      · rw [hc] at h1
        obtain ⟨As, S', rfl, g2, g3, g4⟩ := ih h1
        refine ⟨As ++ [v], S', by simp, by simp [g2], ?_, ?_⟩
        · rw [a_lay_app, List.length_append, g3]
          show a_shw sh + (a_if (a_cat1 v) [some v] [some v, none] : ALs).length = _
          rw [hc]; rfl
        · rw [a_lay_app]
          have e : a_lay [v] = [some v] := by
            show (a_if (a_cat1 v) [some v] [some v, none] : ALs) = _
            rw [hc]; rfl
          rw [e, List.append_assoc]
          exact g4
noncomputable def a_cw : ASt → Nat
  | [] => 0
  | v :: S => a_cw S + a_if (a_cat1 v) 1 2
theorem a_cw_le : ∀ (S : ASt), a_cw S ≤ 2 * S.length
  | [] => Nat.le_refl _
  | v :: S => by
    have ih := a_cw_le S
    show a_cw S + a_if (a_cat1 v) 1 2 ≤ 2 * (S.length + 1)
    cases a_cat1 v
    · show a_cw S + 2 ≤ _; omega
    · show a_cw S + 1 ≤ _; omega
theorem a_sh4_some {S : ASt} {x : AO} {r : ARes} (h : a_sh4 S x = some r) : a_cw S ≤ 8 ∧ x = some r := by
  match S, h with
  | [], h => exact ⟨Nat.le_trans (a_cw_le _) (by simp), h⟩
  | [_], h => exact ⟨Nat.le_trans (a_cw_le _) (by simp), h⟩
  | [_, _], h => exact ⟨Nat.le_trans (a_cw_le _) (by simp), h⟩
  | [_, _, _], h => exact ⟨Nat.le_trans (a_cw_le _) (by simp), h⟩
  | [_, _, _, _], h => exact ⟨Nat.le_trans (a_cw_le _) (by simp), h⟩
  | [v1, v2, v3, v4, v5], h =>
    obtain ⟨h1, h⟩ := cond_some h
    obtain ⟨h2, h⟩ := cond_some h
    obtain ⟨h3, h⟩ := cond_some h
    obtain ⟨h4, h⟩ := cond_some h
    obtain ⟨h5, h⟩ := cond_some h
    refine ⟨?_, h⟩
    show 0 + a_if (a_cat1 v5) 1 2 + a_if (a_cat1 v4) 1 2 + a_if (a_cat1 v3) 1 2 + a_if (a_cat1 v2) 1 2 + a_if (a_cat1 v1) 1 2 ≤ 8
    rw [h1, h2, h3, h4, h5]
    decide
theorem SR_len {gv : Nat → Int32} {ad : List Nat} : ∀ {S : ASt} {st : List Value}, SR gv ad S st → st.length = S.length
  | [], [], _ => rfl
  | _ :: _, _ :: _, ⟨_, h⟩ => congrArg (· + 1) (SR_len h)
theorem SR_app {gv : Nat → Int32} {ad : List Nat} : ∀ {S T : ASt} {st : List Value}, SR gv ad (S ++ T) st → ∃ s1 s2, st = s1 ++ s2 ∧ SR gv ad S s1 ∧ SR gv ad T s2
  | [], T, st, h => ⟨[], st, rfl, trivial, h⟩
  | a :: S, T, v :: st, ⟨h1, h2⟩ => by
    obtain ⟨s1, s2, rfl, g1, g2⟩ := SR_app h2
    exact ⟨v :: s1, s2, rfl, ⟨h1, g1⟩, g2⟩
theorem SR_join {gv : Nat → Int32} {ad : List Nat} : ∀ {S T : ASt} {s1 s2 : List Value}, SR gv ad S s1 → SR gv ad T s2 → SR gv ad (S ++ T) (s1 ++ s2)
  | [], _, [], _, _, h => h
  | _ :: _, _, _ :: _, _, ⟨h1, h2⟩, h => ⟨h1, SR_join h2 h⟩
theorem SR_rev {gv : Nat → Int32} {ad : List Nat} {S : ASt} : ∀ {st : List Value}, SR gv ad S.reverse st → SR gv ad S st.reverse := by
  induction S with
  | nil => intro st h; rw [SR_nil h]; trivial
  | cons a S ih =>
    intro st h
    rw [List.reverse_cons] at h
    obtain ⟨s1, s2, rfl, g1, g2⟩ := SR_app h
    obtain ⟨v, s3, rfl, g3, g4⟩ := SR_cons g2
    rw [SR_nil g4, List.reverse_append]
    exact ⟨g3, ih g1⟩
theorem vR_cat2 {gv : Nat → Int32} {ad : List Nat} {a : AV} {v : Value} (h : vR gv ad a v) (hc : a_cat1 a = false) : v.category = 2 := by
  match a, h with
  | .inr (.inr (.inl n)), h => rw [h.2]; rfl
theorem cat_sum : ∀ (st : List Value), (st.map fun v => v.category).sum ≤ 2 * st.length
  | [] => Nat.le_refl _
  | v :: st => by
    have := cat_sum st
    rcases lv_cat v with h | h <;> simp [h] <;> omega
theorem cw_sum {gv : Nat → Int32} {ad : List Nat} : ∀ {S : ASt} {st : List Value}, SR gv ad S st → (st.map fun v => v.category).sum = a_cw S
  | [], [], _ => rfl
  | a :: S, v :: st, ⟨h1, h2⟩ => by
    have ih := cw_sum h2
    show (List.map (fun v => v.category) (v :: st)).sum = a_cw S + a_if (a_cat1 a) 1 2
    rw [List.map_cons, List.sum_cons, ih]
    cases hc : a_cat1 a
    · rw [vR_cat2 h1 hc]; show 2 + a_cw S = a_cw S + 2; omega
    · rw [vR_cat1 h1 hc]; show 1 + a_cw S = a_cw S + 1; omega
theorem lay_slots {gv : Nat → Int32} {ad : List Nat} : ∀ {As : List AV} {vs : List Value}, SR gv ad As vs → (lg_sl vs).length = (a_lay As).length
  | [], [], _ => rfl
  | a :: As, v :: vs, ⟨h1, h2⟩ => by
    have ih := lay_slots h2
    show (lg_sl (v :: vs)).length = (a_if (a_cat1 a) (some a :: a_lay As) (some a :: none :: a_lay As)).length
    cases hc : a_cat1 a
    · have := vR_cat2 h1 hc
      simp only [lg_sl, List.flatMap_cons, this] at ih ⊢
      simp [ih, a_if_f]
    · have := vR_cat1 h1 hc
      simp only [lg_sl, List.flatMap_cons, this] at ih ⊢
      simp [ih, a_if_t]
theorem lay_args {gv : Nat → Int32} {ad : List Nat} : ∀ {As : List AV} {vs : List Value}, SR gv ad As vs → ∀ (off i : Nat) (av : AV), (a_lay As)[i]? = some (some av) → ∃ v, (off + i, v) ∈ lv_args off vs ∧ vR gv ad av v
  | [], [], _, off, i, av, h => by simp [a_lay] at h
  | a :: As, v :: vs, ⟨h1, h2⟩, off, i, av, h => by
    have h : (a_if (a_cat1 a) (some a :: a_lay As) (some a :: none :: a_lay As))[i]? = some (some av) := h
    cases hc : a_cat1 a
    · rw [hc] at h
      have hv := vR_cat2 h1 hc
      match i, h with
      | 0, h => cases h; exact ⟨v, List.mem_cons_self, h1⟩
      | i + 2, h =>
        obtain ⟨w, g1, g2⟩ := lay_args h2 (off + 2) i av h
        refine ⟨w, List.mem_cons_of_mem _ ?_, g2⟩
        rw [if_pos hv, show off + (i + 2) = off + 2 + i by omega]
        exact g1
    · rw [hc] at h
      have hv := vR_cat1 h1 hc
      match i, h with
      | 0, h => cases h; exact ⟨v, List.mem_cons_self, h1⟩
      | i + 1, h =>
        obtain ⟨w, g1, g2⟩ := lay_args h2 (off + 1) i av h
        refine ⟨w, List.mem_cons_of_mem _ ?_, g2⟩
        rw [if_neg (by rw [hv]; decide), show off + (i + 1) = off + 1 + i by omega]
        exact g1
theorem LR_entry {gv : Nat → Int32} {ad : List Nat} {As : List AV} {vs : List Value} (h : SR gv ad As vs) {pad : ALs} (hp : ∀ x ∈ pad, x = none) {n : Nat} (hn : (a_lay As).length + pad.length = n) : LR gv ad ((lg_sl vs ++ List.replicate (n - (lg_sl vs).length) Slot.unset).toArray) n (a_lay As ++ pad) := by
  refine ⟨lv_args 0 vs, lv_entry vs (by rw [lay_slots h]; omega), by rw [List.length_append]; omega, fun i av hi => ?_⟩
  by_cases hlt : i < (a_lay As).length
  · rw [List.getElem?_append_left hlt] at hi
    have := lay_args h 0 i av hi
    rw [Nat.zero_add] at this
    exact this
  · rw [List.getElem?_append_right (by omega)] at hi
    have := hp _ (List.mem_of_getElem? hi)
    cases this
/-! a method's contract out of a run of it -/
def QA (gv : Nat → Int32) (cA : Nat → ClassId) (D : va_G) (ws : va_W) (sz : Nat) (h1 : AH) (v : Option AV) : Array Value → State → Outcome → State → Prop := fun _ st o t => ∃ (x : List Value) (ws' : va_W), o = .returned x.head? ∧ rS gv (adr ws') v x ∧ va_P D classes ws' t.heap ∧ va_D (va_A ws sz) ws' ∧ ws'.length = a_cnt h1 ∧ (∀ c y, hlook h1 c = some y → ∃ a e, ws'[c]? = some (a, e) ∧ cR gv cA (adr ws') y e) ∧ a_ext ws ws' ∧ va_F (va_A ws sz) st t
def PA (cA : Nat → ClassId) (D : va_G) (ws : va_W) (sz : Nat) (vals : List Value) : Array Value → State → Prop := va_Pc vals (fun U => U.heap.size = sz ∧ va_P D classes ws U.heap ∧ va_K D classes (k_tys cA) U ∧ va_D (fun _ => True) ws)
abbrev rmA (My : AM) (h h1 : AH) : Room := { frames := My.2.2.2.2.2, cells := a_cnt h1 - a_cnt h, slots := a_slt h1 - a_slt h, locals := 64 * My.2.2.2.2.2 }
abbrev wsA (My : AM) (y : MethodName) : List Jvm.Cond := Jvm.Cond.code y My.2.1 My.2.2.1 My.2.2.2.1 :: k_tbl
theorem nar01 {n : Nat} (hn : n ≤ 1) : narrow .boolean (.int (a_i32 n)) = .int (a_i32 n) := by
  rcases (by omega : n = 0 ∨ n = 1) with rfl | rfl <;> rfl
theorem met_ofWF {l : Launch} {y : MethodName} {ws ws' : List Jvm.Cond} {rm : Room} {Pc : Array Value → State → Prop} {Qc : Array Value → State → Outcome → State → Prop} {mc ms : Nat} {free : Addr → Prop} {cc : ByteArray} {maxL : Nat} {ret : Option FieldType}
    (hy : plainFor y = true) (hw : ws = Jvm.Cond.code y cc maxL ret :: ws')
    (body : ∀ p e s m args below meth c s₁, BodyLoose p l y (headSpec ws rm) cc maxL ret e s m args below meth c s₁ → c.maxLocals = maxL → Pc args s →
      W p l e (headSpec ws rm).room s m args below meth c s.heap [] 0 0 (MQ below Qc args s mc ms free) (entryFrame m args maxL)) : Met l y ws rm Pc Qc mc ms free := by
  refine MetFree.of_bodySF (code := cc) (maxLocals := maxL) (ret := ret) hy ?_ ?_
  · intro args s m h hn
    obtain ⟨meth, c, h1, h2, h3, h4, h5, h6, -, -⟩ := Cond.code_spec hn (atoms_spec (ws := ws) h _ (by rw [hw]; exact List.mem_cons_self))
    exact ⟨meth, c, h1, h2, h3, h4, h5, h6⟩
  · intro p e s m args below meth c s₁ B hml hP _
    have hh0 : s₁.heap = s.heap := by rw [B.state]; rfl
    obtain ⟨t, a1, o, b1, b2, b3⟩ := body p e s m args below meth c s₁ B hml hP s₁ hh0 (Stand.of_body B)
    exact ⟨t, o, a1, b1, b2, ⟨b3.1, b3.2⟩⟩
set_option maxHeartbeats 2000000 in
theorem met_ofG {My : AM} {y : MethodName} {As : List AV} {pad : ALs} {h h1 : AH} {v : Option AV} {gv : Nat → Int32} (hle : a_le h h1) (hok : rK My.2.2.2.1 v) (hcl : ClaimG gv My 0 (a_lay As ++ pad) [] h (.inl (v, h1))) (hy1 : My.1 = y.cls) (hyn : My.2.2.2.2.1 = y.name) (hpl : plainFor y = true) (hpad : ∀ x ∈ pad, x = none) (hlen : (a_lay As).length + pad.length = My.2.2.1)
    (l : Launch) {cA : Nat → ClassId} {D : va_G} {ws : va_W} {sz : Nat} {vals : List Value} (hvals : SR gv (adr ws) As vals) (hwl : ws.length = a_cnt h) (hR : ∀ c x, hlook h c = some x → ∃ a e, ws[c]? = some (a, e) ∧ cR gv cA (adr ws) x e) :
    Met l y (wsA My y) (rmA My h h1) (PA cA D ws sz vals) (QA gv cA D ws sz h1 v) (a_cnt h1 - a_cnt h) (a_slt h1 - a_slt h) (va_A ws sz) := by
  obtain ⟨hle1, hle2⟩ := hle
  refine met_ofWF (cc := My.2.1) (maxL := My.2.2.1) (ret := My.2.2.2.1) hpl rfl ?_
  intro p e s m args below meth c s₁ B hml hv
  obtain ⟨rfl, hsz, hP, hK, hD0⟩ := hv
  have hx := B.exec
  have hb := B.bytes
  have hr := B.returns
  have hts := atoms_spec (ws := wsA My y) B.pre
  have hown : s.vm.findClass y.cls = some m.cls := findClass_of_methodNamed B.named
  have hlocks := B.notSynchronized
  have hnm : meth.name = y.name := (name_of_methodNamed B.named B.method).1
  subst hsz
  have hD := hD0.self (sz := s.heap.size)
  rw [lg_entry_eq]
  have hC : CX My p (rmA My h h1) s m vals.toArray meth c := ⟨hx, hb, hml, by rw [hy1]; exact hown, fun w hw => hts w (List.mem_cons_of_mem _ hw), hr, hlocks, by rw [hyn]; exact hnm, Nat.le_refl _, Nat.le_refl _⟩
  have hWD : WD gv cA D (va_A ws s.heap.size) s h ws s.heap [] := ⟨hK, hP, hD, va_S.rf, fun q hq => Or.inr hq, hwl, hR⟩
  refine hcl p l e (rmA My h h1) s m vals.toArray below meth c cA D (va_A ws s.heap.size) ws s.heap [] 0 0 (a_cnt h) (a_slt h) _ [] _ hC hWD (Nat.zero_add _) (Nat.zero_add _) (show a_cnt h1 ≤ (a_cnt h1 - a_cnt h) + a_cnt h by omega) (show a_slt h1 ≤ (a_slt h1 - a_slt h) + a_slt h by omega) (LR_entry hvals hpad hlen) trivial ?_
  intro ws' H' locs' cells' slots' ls' st' pc' hW' hext hc' hz' hrs hri
  obtain ⟨hK', hP', hD', hS', hA', hwl', hR'⟩ := hW'
  have e1 : cells' = a_cnt h1 - a_cnt h := by omega
  have e2 : slots' = a_slt h1 - a_slt h := by omega
  subst e1
  subst e2
  have hq : ∀ (x : List Value), rS gv (adr ws') v x → ∀ t : State, t.heap = H' → s.WarmedH t.vm → QA gv cA D ws s.heap.size h1 v vals.toArray s (.returned x.head?) t := fun x hx t ht hw => ⟨x, ws', rfl, hx, by rw [ht]; exact hP', hD', hwl', hR', hext, hS'.F ht⟩
  have hf : ∀ q ∈ locs', va_A ws s.heap.size q.base := hS'.2.2
  match v, hok, hrs, hri, hq with
  | none, hok, hrs, hri, hq =>
    have hrs : st' = [] := hrs
    subst hrs
    exact W.vret hx hb (hr.trans hok) (hq [] rfl) hf hri
  | some (.inl n), hok, hrs, hri, hq =>
    obtain ⟨x, rfl, hn, rfl⟩ := hrs
    rcases hok with hok | ⟨hok, hn1⟩
    · exact W.iret (v := a_i32 n) hx hb (hr.trans hok) (hq [.int (a_i32 n)] ⟨_, rfl, hn, rfl⟩) hf hri
    · exact W.zret (v := a_i32 n) hx hb (hr.trans hok) (nar01 hn1) (hq [.int (a_i32 n)] ⟨_, rfl, hn, rfl⟩) hf hri
  | some (.inr (.inl 0)), hok, hrs, hri, hq => exact absurd rfl hok.1
  | some (.inr (.inl (n + 1))), hok, hrs, hri, hq =>
    obtain ⟨x, rfl, a, ha, rfl⟩ := hrs
    obtain ⟨-, C, hC2⟩ := hok
    exact W.aret (v := .ref a) hx hb (hr.trans hC2) (Or.inl ⟨C, rfl⟩) (Or.inr ⟨a, rfl⟩) (hq [.ref a] ⟨_, rfl, a, ha, rfl⟩) hf hri
  | some (.inr (.inr (.inl n))), hok, hrs, hri, hq =>
    obtain ⟨x, rfl, hn, rfl⟩ := hrs
    exact W.lret (v := a_i64 n) hx hb (hr.trans hok) (hq [.long (a_i64 n)] ⟨_, rfl, hn, rfl⟩) hf hri
  | some (.inr (.inr (.inr (g, lo, hi)))), hok, hrs, hri, hq =>
    obtain ⟨x, rfl, z, rfl, hz⟩ := hrs
    exact W.iret (v := z) hx hb (hr.trans hok) (hq [.int z] ⟨_, rfl, z, rfl, hz⟩) hf hri
theorem met_of {My : AM} {ke : AK} (he : Sound My 0 ke) {y : MethodName} (hy1 : My.1 = y.cls) (hyn : My.2.2.2.2.1 = y.name) (hpl : plainFor y = true) {As : List AV} {pad : ALs} {h h1 : AH} {v : Option AV} (hrun : ke (a_lay As ++ pad) [] h = some (.inl (v, h1))) (hpad : ∀ x ∈ pad, x = none) (hlen : (a_lay As).length + pad.length = My.2.2.1)
    (l : Launch) {gv : Nat → Int32} {cA : Nat → ClassId} {D : va_G} {ws : va_W} {sz : Nat} {vals : List Value} (hvals : SR gv (adr ws) As vals) (hwl : ws.length = a_cnt h) (hR : ∀ c x, hlook h c = some x → ∃ a e, ws[c]? = some (a, e) ∧ cR gv cA (adr ws) x e) :
    Met l y (wsA My y) (rmA My h h1) (PA cA D ws sz vals) (QA gv cA D ws sz h1 v) (a_cnt h1 - a_cnt h) (a_slt h1 - a_slt h) (va_A ws sz) := by
  obtain ⟨⟨hle, hok⟩, hcl⟩ := he _ _ _ _ hrun
  exact met_ofG hle hok (Claim_G hcl gv) hy1 hyn hpl hpad hlen l hvals hwl hR
