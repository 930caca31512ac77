/-! ===== instructions, fifth part: calls ===== -/
theorem all_warm {args : Array Value} {s : State} (hts : ∀ w ∈ k_tbl, w.before args s = true) : ∀ w ∈ k_tbl, ∀ (a' : Array Value) (U : State), s.WarmedH U.vm → w.before a' U = true := by
  intro w hw a' U hW
  have h := (List.mem_filter.mp hw).2
  simp only [Bool.or_eq_true] at h
  rcases h with h | h
  · exact word_at hW (good_of_word h) (hts w hw)
  · match w, h, hw with
    | .fieldLinkNest a i b n d h, _, hw => exact va_Nw.use rfl (va_Nw.warmF hW (va_Nw.of rfl (hts _ hw)))
    | .methodLinkNest a i x h, _, hw => exact va_Nw.use rfl (va_Nw.warmM hW (va_Nw.of rfl (hts _ hw)))
    | .arrayOver (.object C), _, hw => exact va_AO.use (va_AO.moved hW.alike (va_AO.of (hts _ hw)))
/-- what is known of a callee -/
def CF (My : AM) (y : MethodName) (sh : List Bool) (pad : ALs) (n : Nat) : Prop :=
  My.1 = y.cls ∧ My.2.2.2.2.1 = y.name ∧ plainFor y = true ∧ Jvm.Cond.code y My.2.1 My.2.2.1 My.2.2.2.1 ∈ k_tbl ∧ Jvm.Cond.initialized y.cls ∈ k_tbl ∧ (y.cls ≠ "java/lang/invoke/MethodHandle" ∧ y.cls ≠ "java/lang/invoke/VarHandle") ∧ (parseMethodDescriptor y.desc).map (fun d => d.parameters.length) = some n ∧ (∀ x ∈ pad, x = none) ∧ a_shw sh + pad.length = My.2.2.1 ∧ My.2.2.1 ≤ 45
theorem PA_blind (cA : Nat → ClassId) (D : va_G) (ws : va_W) (sz : Nat) (vals : List Value) : FrameBlind (PA cA D ws sz vals) := fun a U g mk q => by
  obtain ⟨q0, q1, qP, qK, qD⟩ := q
  exact ⟨q0, q1, qP, va_K.moved (u := U) (U := U.calling g mk a) (Vm.Alike.refl U.vm) qK, qD⟩
section
variable {M My : AM} {pc : Nat} {k ke : AK} {y : MethodName} {sh : List Bool} {pad : ALs} {n : Nat}
theorem rS_list {gv : Nat → Int32} {ad : List Nat} {v : Option AV} {x : List Value} (h : rS gv ad v x) : x.head?.toList = x ∧ SR gv ad v.toList x := by
  cases v with
  | none => have h : x = [] := h; subst h; exact ⟨rfl, trivial⟩
  | some a => obtain ⟨z, rfl, hz⟩ := h; exact ⟨rfl, hz, trivial⟩
theorem call_go {p : Program} {l : Launch} {e : Env} {R : Room} {s : State} {m : MethodId} {args : Array Value} {below : List Frame} {meth : Method} {c : Code} {gv : Nat → Int32} {cA : Nat → ClassId} {D : va_G} {A : Nat → Prop} {h h1 : AH} {ws : va_W} {H : Heap} {locs : List Loc} {cells slots mc ms : Nat} {ls : Array Slot} {st0 rest : List Value} {Q : State → Prop} {v : Option AV} {a : Array Value}
    (hW : WD gv cA D A s h ws H locs) (hrun : va_Run p l e R s m args below meth c H locs cells slots mc ms (F0 m pc ls st0) rest (QA gv cA D ws H.size h1 v a) (va_A ws H.size))
    (kk : ∀ (ws' : va_W) (H1 : Heap) (locs1 : List Loc) (x : List Value), WD gv cA D A s h1 ws' H1 locs1 → a_ext ws ws' → SR gv (adr ws') v.toList x → W p l e R s m args below meth c H1 locs1 (cells + mc) (slots + ms) Q (F0 m (pc + 3) ls (x ++ rest))) : W p l e R s m args below meth c H locs cells slots Q (F0 m pc ls st0) := by
  obtain ⟨hK, hP, hD, hS, hA, hlen, hR⟩ := hW
  have hF : ∀ q, va_A ws H.size q → A q := by
    intro q hq
    rcases hq with ⟨i, e0, hi⟩ | hq
    · exact hD.2 i (q, e0) hi
    · exact hA q (Nat.le_trans hS.1 hq)
  intro T hT X
  obtain ⟨v', st₀, t, T', L, h0, X', hL, e1, e2, ⟨x, ws', hv, hrs, hP', hD', hlen', hR', hext, hz, hkp⟩, st⟩ := hrun T hT X
  cases hv
  rw [h0] at hz hkp
  obtain ⟨g1, g2⟩ := rS_list hrs
  have hWD : WD gv cA D A s h1 ws' T'.heap (locs ++ L) := by
    refine ⟨hK, by rw [e1]; exact hP', hD'.weaken (fun i q _ hq => hF q.1 hq), ⟨Nat.le_trans hS.1 (by rw [e1]; exact hz), fun q q1 q2 => ?_, fun q hq => ?_⟩, hA, hlen', hR'⟩
    · rw [e1, hkp q (Nat.lt_of_lt_of_le q1 hS.1) (fun z => q2 (hF q z))]
      exact hS.2.1 q q1 q2
    · rcases List.mem_append.mp hq with hq | hq
      · exact hS.2.2 q hq
      · exact hF _ (hL q hq)
  obtain ⟨t2, a1, b1⟩ := kk ws' T'.heap (locs ++ L) x hWD hext g2 T' rfl X'
  refine ⟨t2, st t2 ?_, b1⟩
  rw [g1]
  exact a1
/-- the machine's own part of a call -/
def MK (M My : AM) (pc : Nat) (y : MethodName) (sh : List Bool) (X : List AV → AH → Prop) : Prop := ∀ (p : Program) (l : Launch) (e : Env) (R : Room) (s : State) (m : MethodId) (args : Array Value) (below : List Frame) (meth : Method) (c : Code) (gv : Nat → Int32) (cA : Nat → ClassId) (D : va_G) (A : Nat → Prop) (ws : va_W) (H : Heap) (locs : List Loc) (cells slots : Nat) (ls : Array Slot) (rest vals : List Value) (As : List AV) (h h1 : AH) (v : Option AV),
      CX M p R s m args meth c → WD gv cA D A s h ws H locs → SR gv (adr ws) As vals → vals.length = sh.length → X As h → ls.size = M.2.2.1 → (rest.map fun v => v.category).sum ≤ 8 → Met l y (wsA My y) (rmA My h h1) (PA cA D ws H.size vals) (QA gv cA D ws H.size h1 v) (a_cnt h1 - a_cnt h) (a_slt h1 - a_slt h) (va_A ws H.size) →
      (rmA My h h1).frames + 1 ≤ R.frames → 8 + (My.2.2.1 + 11) + (rmA My h h1).locals ≤ R.locals → (∀ w ∈ wsA My y, ∀ (a' : Array Value) (U : State), s.WarmedH U.vm → w.before a' U = true) → cells + (a_cnt h1 - a_cnt h) ≤ R.cells → slots + (a_slt h1 - a_slt h) ≤ R.slots →
      (∀ U : State, U.heap = H → s.WarmedH U.vm → PA cA D ws H.size vals vals.toArray U) →
      va_Run p l e R s m args below meth c H locs cells slots (a_cnt h1 - a_cnt h) (a_slt h1 - a_slt h) (F0 m pc ls (vals.reverse ++ rest)) rest (QA gv cA D ws H.size h1 v vals.toArray) (va_A ws H.size)
/-- a call: its arguments are taken, the callee has run, what comes next holds -/
theorem cg_call0 (cf : CF My y sh pad n) (hfr : My.2.2.2.2.2 + 1 ≤ M.2.2.2.2.2) (X : List AV → AH → Prop) (mk : MK M My pc y sh X) {gv : Nat → Int32} {As : List AV} {S' : ASt} {v : Option AV} {L : ALs} {h h1 : AH} {r : ARes} (hn : As.length = sh.length) (hlay : (a_lay As).length = a_shw sh) (hs4 : a_cw S' ≤ 8) (hX : X As h)
    (hle : a_le h h1) (hok : rK My.2.2.2.1 v) (hcle : ClaimG gv My 0 (a_lay As ++ pad) [] h (.inl (v, h1))) (hle2 : a_le h1 (a_rh r)) (hcl : ClaimG gv M (pc + 3) L (v.toList ++ S') h1 r) : ClaimG gv M pc L (As.reverse ++ S') h r := by
  obtain ⟨cf1, cf2, cf3, cf4, cf5, cf6, cf7, cf8, cf9, cf10⟩ := cf
  intro p l e R s m args below meth c cA D A ws H locs cells slots n0 z0 ls st Q hC hW hc hz hrc hrz hL hS hF
  obtain ⟨s1, rest, rfl, g1, g2⟩ := SR_app hS
  have hvals := SR_rev g1
  have hl1 : s1.length = sh.length := by rw [SR_len g1, List.length_reverse, hn]
  have hM := met_ofG hle hok hcle cf1 cf2 cf3 cf8 (by rw [hlay]; exact cf9) l (D := D) (sz := H.size) hvals hW.2.2.2.2.2.1 hW.2.2.2.2.2.2
  have hrest : (rest.map fun v => v.category).sum ≤ 8 := by
    rw [cw_sum g2]; exact hs4
  have hfr2 : My.2.2.2.2.2 + 1 ≤ R.frames := Nat.le_trans hfr hC.2.2.2.2.2.2.2.2.1
  have hlo : 8 + (My.2.2.1 + 11) + 64 * My.2.2.2.2.2 ≤ R.locals := by
    have := hC.2.2.2.2.2.2.2.2.2
    omega
  have hrunA := mk p l e R s m args below meth c gv cA D A ws H locs cells slots ls rest s1.reverse As h h1 v hC hW hvals (by rw [List.length_reverse]; exact hl1) hX (by obtain ⟨lv, q, -⟩ := hL; exact q.1) hrest hM hfr2 hlo
    (fun w hw a' U hU => by
      rcases List.mem_cons.mp hw with rfl | hw
      · exact all_warm hC.2.2.2.2.1 _ cf4 a' U hU
      · exact all_warm hC.2.2.2.2.1 w hw a' U hU)
    (by have := hle.1; have := hle2.1; omega) (by have := hle.2; have := hle2.2; omega)
    (fun U hU hw => ⟨rfl, by rw [hU], by rw [hU]; exact hW.2.1, va_K.moved hw.alike hW.1, hW.2.2.1.weaken (fun _ _ _ _ => trivial)⟩)
  rw [List.reverse_reverse] at hrunA
  refine call_go hW hrunA (fun ws' H1 locs1 x hW' hext hx => ?_)
  exact hcl p l e R s m args below meth c cA D A ws' H1 locs1 _ _ n0 z0 ls (x ++ rest) Q hC hW' (by have := hle.1; omega) (by have := hle.2; omega) hrc hrz (LR_ext hext hL) (SR_join hx (SR_ext hext g2)) (Fin_ext hext hF)
theorem so_call0 {o : AK} (he : Sound My 0 ke) (hk : Sound M (pc + 3) k) (cf : CF My y sh pad n) (hfr : My.2.2.2.2.2 + 1 ≤ M.2.2.2.2.2) (X : List AV → AH → Prop)
    (inv : ∀ (L : ALs) (S : ASt) (h : AH) (r : ARes), o L S h = some r → ∃ (As : List AV) (S' : ASt) (v : Option AV) (h1 : AH), S = As.reverse ++ S' ∧ As.length = sh.length ∧ (a_lay As).length = a_shw sh ∧ a_cw S' ≤ 8 ∧ X As h ∧ ke (a_lay As ++ pad) [] h = some (.inl (v, h1)) ∧ k L (v.toList ++ S') h1 = some r)
    (mk : MK M My pc y sh X) : Sound M pc o := by
  intro L S h r hr
  obtain ⟨As, S', v, h1, rfl, hn, hlay, hs4, hX, hrun, hgo⟩ := inv L S h r hr
  obtain ⟨⟨hle, hok1⟩, hcl1⟩ := he _ _ _ _ hrun
  obtain ⟨⟨hle2, hok⟩, hcl⟩ := hk _ _ _ _ hgo
  have hle : a_le h h1 := hle
  refine ⟨⟨⟨Nat.le_trans hle.1 hle2.1, Nat.le_trans hle.2 hle2.2⟩, hok⟩, Claim_ofG fun gv => ?_⟩
  exact cg_call0 cf hfr X mk hn hlay hs4 hX hle hok1 (Claim_G hcl1 gv) hle2 (Claim_G hcl gv)
theorem o_call_inv {L : ALs} {S : ASt} {h : AH} {r : ARes} (hr : o_call sh pad ke k L S h = some r) : ∃ (As : List AV) (S' : ASt) (v : Option AV) (h1 : AH), S = As.reverse ++ S' ∧ As.length = sh.length ∧ (a_lay As).length = a_shw sh ∧ a_cw S' ≤ 8 ∧ True ∧ ke (a_lay As ++ pad) [] h = some (.inl (v, h1)) ∧ k L (v.toList ++ S') h1 = some r := by
  obtain ⟨As, S', g1, g2, g3, g4⟩ := a_args_some hr
  obtain ⟨g5, g6⟩ := a_sh4_some g4
  match hk : ke (a_lay As ++ pad) [] h, g6 with
  | some (.inl (none, h1)), g6 => exact ⟨As, S', none, h1, g1, g2, g3, g5, trivial, hk, g6⟩
  | some (.inl (some v, h1)), g6 => exact ⟨As, S', some v, h1, g1, g2, g3, g5, trivial, hk, g6⟩
/-- the receiver is an object of the class -/
def XV (ci : Nat) (As : List AV) (h : AH) : Prop := ∃ c N r, As = aR (c + 1) :: r ∧ hlook h c = some (.inr (.inl (ci, N)))
theorem o_callv_inv {ci : Nat} (hsh : sh ≠ []) {L : ALs} {S : ASt} {h : AH} {r : ARes} (hr : o_callv ci sh pad ke k L S h = some r) : ∃ (As : List AV) (S' : ASt) (v : Option AV) (h1 : AH), S = As.reverse ++ S' ∧ As.length = sh.length ∧ (a_lay As).length = a_shw sh ∧ a_cw S' ≤ 8 ∧ XV ci As h ∧ ke (a_lay As ++ pad) [] h = some (.inl (v, h1)) ∧ k L (v.toList ++ S') h1 = some r := by
  obtain ⟨As, S', g1, g2, g3, g4⟩ := a_args_some hr
  have hX : ∃ c : Nat, (∃ r, As = aR (c + 1) :: r) ∧ (a_obj h c ci fun _ => a_sh4 S' (a_back k L S' (ke (a_lay As ++ pad) [] h))) = some r := by
    match As, g2, g4 with
    | [], g2, g4 => exact absurd (List.length_eq_zero_iff.mp g2.symm) hsh
    | a :: As, g2, g4 =>
      have e : ∃ x, a_lay (a :: As) ++ pad = some a :: x := by
        show ∃ x, (a_if (a_cat1 a) (some a :: a_lay As) (some a :: none :: a_lay As)) ++ pad = some a :: x
        cases a_cat1 a
        · exact ⟨_, rfl⟩
        · exact ⟨_, rfl⟩
      obtain ⟨x, e⟩ := e
      rw [e] at g4 ⊢
      obtain ⟨c, rfl, g5⟩ := a_isC_some (v := a) g4
      exact ⟨c, ⟨As, rfl⟩, g5⟩
  obtain ⟨c, ⟨As', hAs⟩, g5⟩ := hX
  obtain ⟨N, hN, g6⟩ := a_obj_some g5
  obtain ⟨g7, g8⟩ := a_sh4_some g6
  match hk : ke (a_lay As ++ pad) [] h, g8 with
  | some (.inl (none, h1)), g8 => exact ⟨As, S', none, h1, g1, g2, g3, g7, ⟨c, N, As', hAs, hN⟩, hk, g8⟩
  | some (.inl (some v, h1)), g8 => exact ⟨As, S', some v, h1, g1, g2, g3, g7, ⟨c, N, As', hAs, hN⟩, hk, g8⟩
theorem hlen_of (cf7 : (parseMethodDescriptor y.desc).map (fun d => d.parameters.length) = some n) : ∀ sig, parseMethodDescriptor y.desc = some sig → n = sig.parameters.length := by
  intro sig h
  rw [h] at cf7
  exact (Option.some.inj cf7).symm
theorem so_callS {idx : Nat} (hd : decode M.2.1 pc = .ok (.invokestatic idx, 3)) (cf : CF My y sh pad n) (hn : sh.length = n) (hl : Jvm.Cond.methodLink M.1 idx y ∈ k_tbl) (hst : Jvm.Cond.static y ∈ k_tbl) (hfr : My.2.2.2.2.2 + 1 ≤ M.2.2.2.2.2) (he : Sound My 0 ke) (hk : Sound M (pc + 3) k) : Sound M pc (o_call sh pad ke k) := by
  refine so_call0 he hk cf hfr (fun _ _ => True) (fun L S h r hr => o_call_inv hr) ?_
  obtain ⟨cf1, cf2, cf3, cf4, cf5, cf6, cf7, cf8, cf9, cf10⟩ := cf
  intro p l e R s m args below meth c gv cA D A ws H locs cells slots ls rest vals As h h1 v hC hW hvals hlv hX hsz hrest hM hf1 hf2 hws hc1 hc2 hp
  have hb := hC.2.2.2.2.1
  exact va_runS (Ts := k_tbl) (nL := M.2.2.1) (own := M.1) (bytes := My.2.1) (maxL := My.2.2.1) (ret := My.2.2.2.1) (n := n) ⟨hC.1, hC.2.1, hC.2.2.1, hC.2.2.2.1, hb⟩ hM ⟨⟨rfl, rfl, hf1, hf2, hws, List.mem_cons_self, hb _ cf4, hb _ cf5, cf6, hlen_of cf7, hb _ hl⟩, hb _ hst⟩ ⟨PA_blind cA D ws H.size vals, hp⟩ rfl (by rw [hlv, hn]) hsz rfl (by show 2 * 0 + _ ≤ 8; omega) hd ⟨hc1, hc2⟩
theorem so_callSN {idx : Nat} {host : String} (hd : decode M.2.1 pc = .ok (.invokestatic idx, 3)) (cf : CF My y sh pad n) (hn : sh.length = n) (hl : Jvm.Cond.methodLinkNest M.1 idx y host ∈ k_tbl) (hst : Jvm.Cond.static y ∈ k_tbl) (hfr : My.2.2.2.2.2 + 1 ≤ M.2.2.2.2.2) (he : Sound My 0 ke) (hk : Sound M (pc + 3) k) : Sound M pc (o_call sh pad ke k) := by
  refine so_call0 he hk cf hfr (fun _ _ => True) (fun L S h r hr => o_call_inv hr) ?_
  obtain ⟨cf1, cf2, cf3, cf4, cf5, cf6, cf7, cf8, cf9, cf10⟩ := cf
  intro p l e R s m args below meth c gv cA D A ws H locs cells slots ls rest vals As h h1 v hC hW hvals hlv hX hsz hrest hM hf1 hf2 hws hc1 hc2 hp
  have hb := hC.2.2.2.2.1
  exact va_runSN (Ts := k_tbl) (nL := M.2.2.1) (own := M.1) (host := host) (bytes := My.2.1) (maxL := My.2.2.1) (ret := My.2.2.2.1) (n := n) ⟨hC.1, hC.2.1, hC.2.2.1, hC.2.2.2.1, hb⟩ hM ⟨⟨⟨rfl, rfl, hf1, hf2, hws, List.mem_cons_self⟩, hb _ cf4, hb _ cf5, cf6, hlen_of cf7, hb _ hl⟩, hb _ hst, trivial⟩ ⟨PA_blind cA D ws H.size vals, hp⟩ rfl (by rw [hlv, hn]) hsz rfl (by show 2 * 0 + _ ≤ 8; omega) hd ⟨hc1, hc2⟩
theorem so_callI {idx : Nat} (hd : decode M.2.1 pc = .ok (.invokespecial idx, 3)) (cf : CF My y sh pad n) (hret : My.2.2.2.1 = none) (hyi : y.name = "<init>") (hn : sh.length = n + 1) (hl : Jvm.Cond.methodLink M.1 idx y ∈ k_tbl) (hin : Jvm.Cond.instanceMethod y ∈ k_tbl) (hfr : My.2.2.2.2.2 + 1 ≤ M.2.2.2.2.2) {ci : Nat} (he : Sound My 0 ke) (hk : Sound M (pc + 3) k) : Sound M pc (o_callv ci sh pad ke k) := by
  refine so_call0 he hk cf hfr (XV ci) (fun L S h r hr => o_callv_inv (by intro q; rw [q] at hn; cases hn) hr) ?_
  obtain ⟨cf1, cf2, cf3, cf4, cf5, cf6, cf7, cf8, cf9, cf10⟩ := cf
  intro p l e R s m args below meth c gv cA D A ws H locs cells slots ls rest vals As h h1 v hC hW hvals hlv hX hsz hrest hM hf1 hf2 hws hc1 hc2 hp
  have hb := hC.2.2.2.2.1
  obtain ⟨cn, N, As', rfl, hN⟩ := hX
  obtain ⟨w, vals', rfl, ⟨b, hb1, rfl⟩, hv2⟩ := SR_cons hvals
  rw [List.reverse_cons, List.append_assoc]
  have cf4' := cf4
  rw [hret] at cf4'
  exact va_runI (Ts := k_tbl) (nL := M.2.2.1) (own := M.1) (bytes := My.2.1) (maxL := My.2.2.1) (n := n) ⟨hC.1, hC.2.1, hC.2.2.1, hC.2.2.2.1, hb⟩ hM ⟨⟨rfl, rfl, hf1, hf2, hws, by rw [← hret]; exact List.mem_cons_self, hb _ cf4', hb _ cf5, cf6, hlen_of cf7, hb _ hl⟩, hyi, hb _ hin⟩ ⟨PA_blind cA D ws H.size _, hp⟩ rfl (by rw [hn] at hlv; exact Nat.succ.inj hlv) hsz rfl (by show 2 * 0 + _ ≤ 8; omega) hd ⟨hc1, hc2⟩
theorem so_callIN {idx : Nat} {host : String} (hd : decode M.2.1 pc = .ok (.invokespecial idx, 3)) (cf : CF My y sh pad n) (hret : My.2.2.2.1 = none) (hyi : y.name = "<init>") (hn : sh.length = n + 1) (hl : Jvm.Cond.methodLinkNest M.1 idx y host ∈ k_tbl) (hin : Jvm.Cond.instanceMethod y ∈ k_tbl) (hfr : My.2.2.2.2.2 + 1 ≤ M.2.2.2.2.2) {ci : Nat} (he : Sound My 0 ke) (hk : Sound M (pc + 3) k) : Sound M pc (o_callv ci sh pad ke k) := by
  refine so_call0 he hk cf hfr (XV ci) (fun L S h r hr => o_callv_inv (by intro q; rw [q] at hn; cases hn) hr) ?_
  obtain ⟨cf1, cf2, cf3, cf4, cf5, cf6, cf7, cf8, cf9, cf10⟩ := cf
  intro p l e R s m args below meth c gv cA D A ws H locs cells slots ls rest vals As h h1 v hC hW hvals hlv hX hsz hrest hM hf1 hf2 hws hc1 hc2 hp
  have hb := hC.2.2.2.2.1
  obtain ⟨cn, N, As', rfl, hN⟩ := hX
  obtain ⟨w, vals', rfl, ⟨b, hb1, rfl⟩, hv2⟩ := SR_cons hvals
  rw [List.reverse_cons, List.append_assoc]
  have cf4' := cf4
  rw [hret] at cf4'
  exact va_runIN (Ts := k_tbl) (nL := M.2.2.1) (own := M.1) (host := host) (bytes := My.2.1) (maxL := My.2.2.1) (n := n) ⟨hC.1, hC.2.1, hC.2.2.1, hC.2.2.2.1, hb⟩ hM ⟨⟨⟨rfl, rfl, hf1, hf2, hws, by rw [← hret]; exact List.mem_cons_self⟩, hb _ cf4', hb _ cf5, cf6, hlen_of cf7, hb _ hl⟩, hyi, hb _ hin⟩ ⟨PA_blind cA D ws H.size _, hp⟩ rfl (by rw [hn] at hlv; exact Nat.succ.inj hlv) hsz rfl (by show 2 * 0 + _ ≤ 8; omega) hd ⟨hc1, hc2⟩
theorem mk_V {idx ci : Nat} {C : String} {T : u_T} {N0 : Nat} (hd : decode M.2.1 pc = .ok (.invokevirtual idx, 3)) (cf : CF My y sh pad n) (hn : sh.length = n + 1) (hcl : classes[ci]? = some (C, T, N0)) (hyC : y.cls = C) (hl : Jvm.Cond.methodLink M.1 idx y ∈ k_tbl) (hin : Jvm.Cond.instanceMethod y ∈ k_tbl) (hse : Jvm.Cond.selects C y y ∈ k_tbl) : MK M My pc y sh (XV ci) := by
  obtain ⟨cf1, cf2, cf3, cf4, cf5, cf6, cf7, cf8, cf9, cf10⟩ := cf
  intro p l e R s m args below meth c gv cA D A ws H locs cells slots ls rest vals As h h1 v hC hW hvals hlv hX hsz hrest hM hf1 hf2 hws hc1 hc2 hp
  have hb := hC.2.2.2.2.1
  obtain ⟨cn, N, As', rfl, hN⟩ := hX
  obtain ⟨w, vals', rfl, ⟨b, hb1, rfl⟩, hv2⟩ := SR_cons hvals
  rw [List.reverse_cons, List.append_assoc]
  obtain ⟨a, e0, g1, fs, rfl, -, -⟩ := hW.2.2.2.2.2.2 cn _ hN
  have hba : b = a := adr_uniq g1 hb1
  subst hba
  exact va_runV (Ts := k_tbl) (nL := M.2.2.1) (own := M.1) (C := C) (bytes := My.2.1) (maxL := My.2.2.1) (ret := My.2.2.2.1) (n := n) ⟨hC.1, hC.2.1, hC.2.2.1, hC.2.2.2.1, hb⟩ hM ⟨⟨rfl, rfl, hf1, hf2, hws, List.mem_cons_self, hb _ cf4, hb _ cf5, cf6, hlen_of cf7, hb _ hl⟩, hb _ hin, hb _ hse⟩ ⟨PA_blind cA D ws H.size _, va_recv hW.1 hW.2.1 (ci := ci) (q0 := cn) hcl g1, hp⟩ rfl (by rw [hn] at hlv; exact Nat.succ.inj hlv) hsz rfl (by show 2 * 0 + _ ≤ 8; omega) hd ⟨hc1, hc2⟩
theorem so_callV {idx ci : Nat} {C : String} {T : u_T} {N0 : Nat} (hd : decode M.2.1 pc = .ok (.invokevirtual idx, 3)) (cf : CF My y sh pad n) (hn : sh.length = n + 1) (hcl : classes[ci]? = some (C, T, N0)) (hyC : y.cls = C) (hl : Jvm.Cond.methodLink M.1 idx y ∈ k_tbl) (hin : Jvm.Cond.instanceMethod y ∈ k_tbl) (hse : Jvm.Cond.selects C y y ∈ k_tbl) (hfr : My.2.2.2.2.2 + 1 ≤ M.2.2.2.2.2) (he : Sound My 0 ke) (hk : Sound M (pc + 3) k) : Sound M pc (o_callv ci sh pad ke k) :=
  so_call0 he hk cf hfr (XV ci) (fun L S h r hr => o_callv_inv (by intro q; rw [q] at hn; cases hn) hr) (mk_V hd cf hn hcl hyC hl hin hse)
theorem so_callVN {idx ci : Nat} {C host : String} {T : u_T} {N0 : Nat} (hd : decode M.2.1 pc = .ok (.invokevirtual idx, 3)) (cf : CF My y sh pad n) (hn : sh.length = n + 1) (hcl : classes[ci]? = some (C, T, N0)) (hyC : y.cls = C) (hl : Jvm.Cond.methodLinkNest M.1 idx y host ∈ k_tbl) (hin : Jvm.Cond.instanceMethod y ∈ k_tbl) (hse : Jvm.Cond.selects C y y ∈ k_tbl) (hfr : My.2.2.2.2.2 + 1 ≤ M.2.2.2.2.2) (he : Sound My 0 ke) (hk : Sound M (pc + 3) k) : Sound M pc (o_callv ci sh pad ke k) := by
  refine so_call0 he hk cf hfr (XV ci) (fun L S h r hr => o_callv_inv (by intro q; rw [q] at hn; cases hn) hr) ?_
  obtain ⟨cf1, cf2, cf3, cf4, cf5, cf6, cf7, cf8, cf9, cf10⟩ := cf
  intro p l e R s m args below meth c gv cA D A ws H locs cells slots ls rest vals As h h1 v hC hW hvals hlv hX hsz hrest hM hf1 hf2 hws hc1 hc2 hp
  have hb := hC.2.2.2.2.1
  obtain ⟨cn, N, As', rfl, hN⟩ := hX
  obtain ⟨w, vals', rfl, ⟨b, hb1, rfl⟩, hv2⟩ := SR_cons hvals
  rw [List.reverse_cons, List.append_assoc]
  obtain ⟨a, e0, g1, fs, rfl, -, -⟩ := hW.2.2.2.2.2.2 cn _ hN
  have hba : b = a := adr_uniq g1 hb1
  subst hba
  exact va_runVN (Ts := k_tbl) (nL := M.2.2.1) (own := M.1) (C := C) (host := host) (bytes := My.2.1) (maxL := My.2.2.1) (ret := My.2.2.2.1) (n := n) ⟨hC.1, hC.2.1, hC.2.2.1, hC.2.2.2.1, hb⟩ hM ⟨⟨⟨rfl, rfl, hf1, hf2, hws, List.mem_cons_self⟩, hb _ cf4, hb _ cf5, cf6, hlen_of cf7, hb _ hl⟩, hb _ hin, hb _ hse⟩ ⟨PA_blind cA D ws H.size _, va_recv hW.1 hW.2.1 (ci := ci) (q0 := cn) hcl g1, hp⟩ rfl (by rw [hn] at hlv; exact Nat.succ.inj hlv) hsz rfl (by show 2 * 0 + _ ≤ 8; omega) hd ⟨hc1, hc2⟩
/-- Object's constructor, which does nothing -/
theorem so_objInit {idx : Nat} (hd : decode M.2.1 pc = .ok (.invokespecial idx, 3)) (hl : Jvm.Cond.methodLink M.1 idx objectInit ∈ k_tbl) (hin : Jvm.Cond.instanceMethod objectInit ∈ k_tbl) (hco : Jvm.Cond.code objectInit ⟨#[0xb1]⟩ 1 none ∈ k_tbl) (hfr : 1 ≤ M.2.2.2.2.2) (hk : Sound M (pc + 3) k) : Sound M pc (o_oinit k) := by
  refine so_step hk fun L S h r hr => ?_
  obtain ⟨n, S1, rfl, hr1⟩ := a_popC_some hr
  obtain ⟨hs4, hr2⟩ := a_sh4_some hr1
  refine ⟨L, S1, hr2, ?_⟩
  intro p l e R s m args below meth c gv ad H locs cells slots ls st Q hC hL hS kk
  obtain ⟨v, st', rfl, ⟨x, hx, rfl⟩, hS1⟩ := SR_cons hS
  have hb := hC.2.2.2.2.1
  have h1 := hC.2.2.2.2.2.2.2.2.1
  have h2 := hC.2.2.2.2.2.2.2.2.2
  have h3 := cw_sum hS1
  refine W.objInit hC.1 hC.2.1 hC.2.2.2.1 (hb _ hl) (hb _ hin) (hb _ hco) rfl (by obtain ⟨lv, q, -⟩ := hL; rw [hC.2.2.1]; exact q.1) rfl hd (by omega) (by show 2 * 0 + _ + 12 ≤ _; omega) ?_
  exact kk ls st' hL hS1
end
