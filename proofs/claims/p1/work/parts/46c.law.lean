/-! THE CLAIM OUT OF ONE WALK OF THE LAW'S BODY. Your part is whole_start (and what it stands on); all else here is the same for every law, but numbers. -/
def R_law : String := "PlankBenchLaw"
def lw_P (b : Addr) (xs : List Int32) (args : Array Value) (s : State) : Prop := args = #[.ref b] ∧ s.IntsAt b xs ∧ xs.length ≤ 5 ∧ (Jvm.Cond.and given_1 narrow_1).before args s = true
def lw_Q (_ : Array Value) (s : State) (o : Outcome) (t : State) : Prop := o = .returned (some (.int 1)) ∧ Framed s o t [] 60000 8922250
def lw_Z (below : List Frame) (a : Array Value) (s : State) : State → Prop := fun t => ∃ o, t.status = .running ∧ Ended t below o ∧ lw_Q a s o t
/-- the law's own end, with 1 on the stack, nothing written that was there before, its room as the claim has it -/
theorem lw_ret {p : Program} {l : Launch} {e : Env} {s : State} {m : MethodId} {below : List Frame} {meth : Method} {c : Code} {b : Nat} (hx : p.tables.exec = Jvm.exec) (hb : c.code = code) (hr : meth.sig.returnType = ret) (hlocks : meth.locks = false) {pc : Nat} {H : Heap} {ls : Array Slot} (hdg : decode code pc = .ok (.ireturn, 1)) : W p l e room_1 s m #[Value.ref b] below meth c H [] 60000 8922250 (lw_Z below #[Value.ref b] s) (F0 m pc ls [.int 1]) := by
  intro T hT X
  obtain ⟨fs, hret, hrun, hended, hW, hframe⟩ := X.leave (v := some (.int 1)) (hlocks := hlocks) (fun h => by rw [hr] at h; cases h)
  have hmeth' : T.vm.method? m = some meth := X.method'
  refine ⟨T.setFrames fs, ?_, .returned (some (.int 1)), hrun, hended, rfl, ⟨_, rfl⟩, hW, hframe⟩
  jvm_step X.here [X.here.top, hx, hb, hdg, hmeth', hr, ret, narrow_b1]
  (try refine ⟨rfl, ?_⟩); (try refine ⟨rfl, ?_⟩)
  first | (intro acts; rw [hret _ acts rfl rfl rfl]) | rw [hret _ _ rfl rfl rfl]
  exact Steps.refl _
/-- what holds at the law's entry: the machine, the code, the tables' words (any of lw_tbl by 'hts w (by decide +kernel)'), the script of L ints xs at the cell b, what the Statement gives of the start (any of its parts by flat_of_before) -/
def lw_At (p : Program) (s : State) (m : MethodId) (meth : Method) (c : Code) (b L : Nat) (xs : Nat → Int32) : Prop :=
  p.tables.exec = Jvm.exec ∧ c.code = code ∧ meth.sig.returnType = ret ∧ c.maxLocals = 4 ∧ s.vm.findClass R_law = some m.cls ∧ (∀ w ∈ lw_tbl, w.before #[Value.ref b] s = true) ∧ va_X b L xs s s.heap ∧ b < s.heap.size ∧ meth.locks = false ∧ (Jvm.Cond.and given_1 narrow_1).before #[Value.ref b] s = true
def k_HJ : AH := [[Sum.inr (Sum.inl (8, 75591227326743116621030474633795525014995109262771861583732386102170725694522711884665049584939611304858525444079275061256838505958473730)), Sum.inl (3, 6, 26307029477060488032431141891180906213094992117763), Sum.inr (Sum.inl (0, 31385508676933403820540076583722085934365275652047245410304)), Sum.inl (0, 8, 0), Sum.inl (0, 8, 0), Sum.inr (Sum.inl (0, 50216813883093446113068291954107900573062465807734653583360)), Sum.inl (0, 8, 0), Sum.inl (0, 8, 0)],
  [Sum.inr (Sum.inl (0, 69048119089253488405596507324493715211759655963422061756416)), Sum.inl (0, 8, 0), Sum.inl (0, 8, 0), Sum.inr (Sum.inl (0, 87879424295413530698124722694879529850456846119109469929472)), Sum.inl (0, 8, 0), Sum.inl (0, 8, 0), Sum.inr (Sum.inl (0, 106710729501573572990652938065265344489154036274796878102528)), Sum.inl (0, 8, 0)],
  [Sum.inl (0, 8, 0), Sum.inr (Sum.inl (0, 125542034707733615283181153435651159127851226430484286275584)), Sum.inl (0, 8, 0), Sum.inl (0, 8, 0), Sum.inl (4, 10, 33320656846634814558660931702452393115874030226973460412754101352626936734602784667598870), Sum.inr (Sum.inl (1, 340282366920938463924543209274507001879)), Sum.inr (Sum.inl (5, 442721857769029239104)), Sum.inl (2, 1600, 0)],
  [Sum.inr (Sum.inl (5, 479615345916448342336)), Sum.inl (2, 1600, 0), Sum.inr (Sum.inl (1, 340282366920938464016776929643054759964)), Sum.inr (Sum.inl (5, 534955578137576997184)), Sum.inl (2, 1600, 0), Sum.inr (Sum.inl (5, 571849066284996100416)), Sum.inl (2, 1600, 0), Sum.inr (Sum.inl (1, 340282366920938464109010650011602518049))],
  [Sum.inr (Sum.inl (5, 627189298506124755264)), Sum.inl (2, 1600, 0), Sum.inr (Sum.inl (5, 664082786653543858496)), Sum.inl (2, 1600, 0), Sum.inr (Sum.inl (1, 340282366920938464201244370380150276134)), Sum.inr (Sum.inl (5, 719423018874672513344)), Sum.inl (2, 1600, 0), Sum.inr (Sum.inl (5, 756316507022091616576))],
  [Sum.inl (2, 1600, 0), Sum.inr (Sum.inl (1, 340282366920938464293478090748698034219)), Sum.inr (Sum.inl (5, 811656739243220271424)), Sum.inl (2, 1600, 0), Sum.inr (Sum.inl (5, 848550227390639374656)), Sum.inl (2, 1600, 0), Sum.inr (Sum.inl (1, 340282366920938464385711811117245792304)), Sum.inr (Sum.inl (5, 903890459611768029504))],
  [Sum.inl (2, 1600, 0), Sum.inr (Sum.inl (5, 940783947759187132736)), Sum.inl (2, 1600, 0), Sum.inr (Sum.inl (1, 340282366920938464477945531485793550389)), Sum.inr (Sum.inl (5, 996124179980315787584)), Sum.inl (2, 1600, 0), Sum.inr (Sum.inl (5, 1033017668127734890816)), Sum.inl (2, 1600, 0)],
  [Sum.inr (Sum.inl (1, 340282366920938464570179251854341308474)), Sum.inr (Sum.inl (5, 1088357900348863545664)), Sum.inl (2, 1600, 0), Sum.inr (Sum.inl (5, 1125251388496282648896)), Sum.inl (2, 1600, 0), Sum.inr (Sum.inl (1, 340282366920938464662412972222889066559)), Sum.inr (Sum.inl (5, 1180591620717411303744)), Sum.inl (2, 1600, 0)],
  [Sum.inr (Sum.inl (5, 1217485108864830406976)), Sum.inl (2, 1600, 0), Sum.inr (Sum.inl (1, 340282366920938464754646692591436824644)), Sum.inr (Sum.inl (5, 1272825341085959061824)), Sum.inl (2, 1600, 0), Sum.inr (Sum.inl (5, 1309718829233378165056)), Sum.inl (2, 1600, 0), Sum.inr (Sum.inl (1, 340282366920938464846880412959984582729))],
  [Sum.inr (Sum.inl (5, 1365059061454506819585)), Sum.inl (2, 5, 0), Sum.inr (Sum.inl (5, 1401952549601925922817)), Sum.inl (2, 5, 0), Sum.inr (Sum.inl (3, 502168138830934461133745460843367451903233875581981794762752)), Sum.inl (0, 2, 0), Sum.inl (0, 32, 0), Sum.inl (0, 32, 0)],
  [Sum.inr (Sum.inl (7, 67596001359491440824712098703652713782610557066366673983671666194090418403509307346968480659089794938364820367930613942335952889483100160)), Sum.inr (Sum.inl (5, 1531079758117892784448)), Sum.inl (2, 1600, 0), Sum.inr (Sum.inl (5, 1567973246265311887680)), Sum.inl (2, 1600, 0), Sum.inr (Sum.inl (5, 1604866734412730990912)), Sum.inl (2, 1600, 0), Sum.inr (Sum.inl (5, 1641760222560150094144))],
  [Sum.inl (2, 1600, 0), Sum.inr (Sum.inl (5, 1678653710707569197062)), Sum.inl (2, 30, 0), Sum.inl (0, 1024, 0), Sum.inl (0, 10, 0), Sum.inr (Sum.inl (2, 615155970067894714888914753065682339735749057909433015730271)), Sum.inl (1, 320, 0), Sum.inl (0, 320, 0)],
  [Sum.inl (0, 320, 0), Sum.inl (0, 320, 0), Sum.inr (Sum.inl (6, 646541478744828118709795112016325364133669941889280577110116)), Sum.inl (1, 320, 0), Sum.inl (2, 320, 0), Sum.inl (2, 320, 0), Sum.inl (0, 320, 0), Sum.inr (Sum.inl (4, 105))],
  [Sum.inl (0, 8192, 0), Sum.inr (Sum.inl (9, 9664018841133671528461371758915089168399807493645026820112052058061915794849776658907872762903663048867241817771137365928815057507303720614729532230623931620772250674486564252712719424290024375412139739701880764563068452616596941846977285885174271952951637211179198081686155625135924679395678597214001048920362830969426656544962172934852158458813421886861929663084525535743775760959082344199895594526791540176989953868652914408985668321693186651904826858524365090392207430590757402523530145311970522233534468249147091820744613463230452020864593100056588830452051500683501946791033843518879742487656234508947103627590239573562960453498647800770402492165674985345823364693939908431639207960428229613900134783901499499)), Sum.inl (0, 6, 0), Sum.inl (0, 48, 0), Sum.inl (0, 6, 0), Sum.inl (0, 10, 497323236525578731419658390243819566640659256139144307488153203229972377654773399158785), Sum.inl (0, 5200, 0), Sum.inl (0, 5200, 0)],
  [Sum.inl (0, 5200, 0), Sum.inl (0, 5200, 0), Sum.inl (0, 200000, 0), Sum.inl (0, 1601, 0), Sum.inl (0, 1601, 0), Sum.inl (0, 1601, 0), Sum.inl (0, 1601, 0), Sum.inl (0, 1601, 0)],
  [Sum.inl (0, 200000, 0), Sum.inl (1, 2563201, 0), Sum.inl (0, 1600, 0), Sum.inl (0, 1600, 0), Sum.inl (0, 1600, 0), Sum.inl (0, 1600, 0), Sum.inl (0, 2000, 0), Sum.inl (1, 65536, 0)],
  [Sum.inl (0, 65536, 0), Sum.inl (1, 520, 0), Sum.inl (2, 520, 0), Sum.inl (0, 520, 0), Sum.inl (2, 1040, 0), Sum.inl (0, 1040, 0), Sum.inl (0, 12, 0), Sum.inl (1, 8192, 0)],
  [Sum.inl (0, 1600, 0), Sum.inl (0, 1600, 0), Sum.inl (0, 1600, 0), Sum.inl (0, 1600, 0)]]
set_option maxRecDepth 100000 in
theorem init_HJ : mb_135_0 (a_run k_BT 1000) [some (aR 106), none] [] (a_push (Sum.inr (Sum.inl (9, 0))) k_HX) = some (Sum.inl (none, k_HJ)) := q_end_eq (by decide +kernel)
set_option maxRecDepth 100000 in
theorem HJ_c : a_cnt k_HJ = 140 := by decide +kernel
set_option maxRecDepth 100000 in
theorem HJ_z : a_slt k_HJ = 3200385 := by decide +kernel
set_option maxRecDepth 100000 in
theorem HM_c : a_cnt k_HM = 35 := by decide +kernel
set_option maxRecDepth 100000 in
theorem HM_z : a_slt k_HM = Z_M := by decide +kernel
set_option maxRecDepth 100000 in
theorem HX_c : a_cnt k_HX = 105 := by decide +kernel
set_option maxRecDepth 100000 in
theorem HX_z : a_slt k_HX = Z_X := by decide +kernel
set_option maxRecDepth 100000 in
theorem HX_n : (∀ l ∈ k_HX.dropLast, l.length = 8) ∧ k_HX.length = 14 ∧ a_cnt k_HX = 105 := ⟨by decide +kernel, by decide +kernel, by decide +kernel⟩
set_option maxRecDepth 100000 in
theorem HM_n : ∀ l ∈ k_HM.dropLast, l.length = 8 := by decide +kernel
theorem hlook_35 (c : Nat) (x : AC) (hx : hlook k_HM c = some x) : c < 35 := by
  have := hlook_lt k_HM HM_n c x hx
  rw [HM_c] at this
  exact this
theorem HX_0 : hlook k_HX 0 = some (Sum.inr (Sum.inl (8, 75591227326743116621030474633795525014995109262771861583732386102170725694522711884665049584939611304858525444079275061256838505958473730))) := rfl
theorem HM_0 : hlook k_HM 0 = some (Sum.inr (Sum.inl (9, 2416004710283417882112536399490603192025371587878763870850202141750697982867381131977650316889062172592157632654473852066311849122763758570683276955967368030214479260637646179103277759843585208432209557322033448407103287791196271820918871407068705289284565200439723329140441644806017418348837316423228982626988202997764455657234894109765096848926856518293745375261511487292503644920210360430342485747649942328688073585206808746121137854598841432420300086016795490002512589926911087896022322575143434903732964245948670799967963272041211589132158259031662878875761939588838856934848471976047136310123119540098625028605237547543579898886624847771891785200813986308965470699217312256864863750647156550204082566727729154))) := rfl
/-! ===== the law's own frame ===== -/
abbrev kL (nm : String) : AM := (R_law, code, 4, ret, nm, 20)
theorem CX_law {p : Program} {s : State} {m : MethodId} {meth : Method} {c : Code} {b L : Nat} {xs : Nat → Int32} (C0 : lw_At p s m meth c b L xs) : CX (kL meth.name) p room_1 s m #[Value.ref b] meth c := by
  obtain ⟨hx, hb, hr, hml, hown, hts, hX, hbl, hlocks, hgv⟩ := C0
  exact ⟨hx, hb, hml, hown, fun w hw => hts w (List.mem_filter.mp hw).1, hr, hlocks, rfl, Nat.le_of_ble_eq_true rfl, Nat.le_of_ble_eq_true rfl⟩
theorem WD_push {gv : Nat → Int32} {cA : Nat → ClassId} {D : va_G} {A : Nat → Prop} {s : State} {h : AH} {ws : va_W} {H : Heap} {locs : List Loc} (hW : WD gv cA D A s h ws H locs) {x : AC} (hwf : a_wf h = true) {a : Nat} {e1 : va_E} {H1 : Heap} (q1 : cR gv cA (adr (ws ++ [(a, e1)])) x e1) (q2 : va_P D classes (ws ++ [(a, e1)]) H1) (q3 : va_D A (ws ++ [(a, e1)])) (q4 : va_S A s.heap H1 locs) : WD gv cA D A s (a_push x h) (ws ++ [(a, e1)]) H1 locs ∧ a_ext ws (ws ++ [(a, e1)]) ∧ (ws ++ [(a, e1)])[a_cnt h]? = some (a, e1) := by
  obtain ⟨g1, g2⟩ := push_cnt x h
  have hE : a_ext ws (ws ++ [(a, e1)]) := fun i b f hb => ⟨f, by rw [List.getElem?_append_left (List.getElem?_eq_some_iff.mp hb).1]; exact hb⟩
  have hnew : (ws ++ [(a, e1)])[a_cnt h]? = some (a, e1) := by
    rw [← hW.2.2.2.2.2.1]
    simp
  have hcRx : ∀ {y : AC} {f : va_E}, cR gv cA (adr ws) y f → cR gv cA (adr (ws ++ [(a, e1)])) y f := by
    intro y f hy
    match y, hy with
    | .inl (kind, n, N), ⟨z0, z⟩ =>
      refine ⟨z0, ?_⟩
      rcases z with z | z | z | ⟨z1, g, z2, z3⟩
      · exact Or.inl z
      · exact Or.inr (Or.inl z)
      · exact Or.inr (Or.inr (Or.inl z))
      · refine Or.inr (Or.inr (Or.inr ⟨z1, g, z2, fun i hi => ?_⟩))
        have := z3 i hi
        cases hdg : a_dig N 32 i with
        | zero => rw [hdg] at this; exact this
        | succ q => rw [hdg] at this; obtain ⟨y, w1, w2⟩ := this; exact ⟨y, ext_adr hE w1, w2⟩
    | .inr (.inl (ci, N)), ⟨fs, z1, z2, z3⟩ => exact ⟨fs, z1, z2, fun k b hb => by obtain ⟨v, w1, w2⟩ := z3 k b hb; exact ⟨v, w1, vR_ext hE w2⟩⟩
    | .inr (.inr (kind, n, o)), ⟨z0, z⟩ =>
      refine ⟨z0, ?_⟩
      rcases z with z | ⟨z1, cs, g, z2, z3, z4⟩
      · exact Or.inl z
      · exact Or.inr ⟨z1, cs, g, z2, z3, fun q c hq => by obtain ⟨y, w1, w2⟩ := z4 q c hq; exact ⟨y, ext_adr hE w1, w2⟩⟩
  refine ⟨⟨hW.1, q2, q3, q4, hW.2.2.2.2.1, by rw [List.length_append, g1, hW.2.2.2.2.2.1]; rfl, fun c' y hy => ?_⟩, hE, hnew⟩
  rw [hlook_push x h hwf] at hy
  by_cases hcc : c' = a_cnt h
  · rw [if_pos hcc] at hy
    cases hy
    subst hcc
    exact ⟨a, e1, hnew, q1⟩
  · rw [if_neg hcc] at hy
    obtain ⟨b, f, w1, w2⟩ := hW.2.2.2.2.2.2 c' y hy
    obtain ⟨f', w3⟩ := hE c' b f w1
    have : f' = f := by
      rw [List.getElem?_append_left (List.getElem?_eq_some_iff.mp w1).1, w1] at w3
      cases w3
      rfl
    subst this
    exact ⟨b, f', w3, hcRx w2⟩
section
variable {M My : AM} {p : Program} {l : Launch} {e : Env} {R : Room} {s : State} {m : MethodId} {args : Array Value} {below : List Frame} {meth : Method} {c : Code} {gv : Nat → Int32} {cA : Nat → ClassId} {D : va_G} {A : Nat → Prop} {h h1 : AH} {ws : va_W} {H : Heap} {locs : List Loc} {cells slots : Nat} {ls : Array Slot} {st rest : List Value} {Q : State → Prop} {pc : Nat}
theorem law_new {ci idx : Nat} {C : String} {T : u_T} {N : Nat} {ty : Nat → FieldType} (hC : CX M p R s m args meth c) (hW : WD gv cA D A s h ws H locs) (hwf : a_wf h = true) (hd : decode M.2.1 pc = .ok (.new idx, 3)) (hc : classes[ci]? = some (C, T, N)) (hin : ∀ w ∈ u_ws C T N, w ∈ k_tbl) (hty : ∀ k, k < N → parseFieldDescriptor (T k).2.2.1 = some (ty k)) (hl : Jvm.Cond.classLink M.1 idx C ∈ k_tbl) (hins : Jvm.Cond.instantiable C N ∈ k_tbl) (hini : Jvm.Cond.initialized C ∈ k_tbl) (hfs : ∀ j, j < N → defaultValue (ty j) = vp_V (a_dfl ci) j) (hcl : cells + 1 ≤ R.cells) (hsl : slots + N ≤ R.slots)
    (kk : ∀ (a : Nat) (ws' : va_W) (H1 : Heap), WD gv cA D A s (a_push (.inr (.inl (ci, 0))) h) ws' H1 locs → a_ext ws ws' → (adr ws')[a_cnt h]? = some a → W p l e R s m args below meth c H1 locs (cells + 1) (slots + N) Q (F0 m (pc + 3) ls (.ref a :: st))) : W p l e R s m args below meth c H locs cells slots Q (F0 m pc ls st) := by
  obtain ⟨hK, hP, hD, hS0, hA, hlen, hR⟩ := id hW
  have hb := hC.2.2.2.2.1
  refine va_new (ci := ci) (fs := a_dfl ci) (C := C) (T := T) (N := N) hC.1 hC.2.1 hb hin ty hty hC.2.2.2.1 (hb _ hl) (hb _ hins) (hb _ hini) hK hP hD hS0 hA hc hfs hcl hsl hd (fun q H1 q1 q2 q3 => ?_)
  have hx : cR gv cA (adr (ws ++ [(q, .inr (ci, a_dfl ci))])) (.inr (.inl (ci, 0))) (.inr (ci, a_dfl ci)) := ⟨_, rfl, by unfold a_dfl; rw [List.length_map], fun j b hj => ⟨_, dfl_get hj, by
    rw [dig_zero]
    cases b
    · exact ⟨by decide, rfl⟩
    · rfl⟩⟩
  obtain ⟨g1, g2, g3⟩ := WD_push hW hwf hx q1 q2 q3
  exact kk q _ H1 g1 g2 (adr_get g3)
theorem call_go2 {mc ms : Nat} {st0 : List Value} {v : Option AV} {a : Array Value}
    (hW : WD gv cA D A s h ws H locs) (hrun : va_Run p l e R s m args below meth c H locs cells slots mc ms (F0 m pc ls st0) rest (QA gv cA D ws H.size h1 v a) (va_A ws H.size))
    (kk : ∀ (ws' : va_W) (H1 : Heap) (locs1 : List Loc) (x : List Value), WD gv cA D A s h1 ws' H1 locs1 → a_ext ws ws' → SR gv (adr ws') v.toList x → (∀ q, q < H.size → ¬ va_A ws H.size q → H1[q]? = H[q]?) → W p l e R s m args below meth c H1 locs1 (cells + mc) (slots + ms) Q (F0 m (pc + 3) ls (x ++ rest))) : W p l e R s m args below meth c H locs cells slots Q (F0 m pc ls st0) := by
  obtain ⟨hK, hP, hD, hS, hA, hlen, hR⟩ := hW
  have hF : ∀ q, va_A ws H.size q → A q := by
    intro q hq
    rcases hq with ⟨i, e0, hi⟩ | hq
    · exact hD.2 i (q, e0) hi
    · exact hA q (Nat.le_trans hS.1 hq)
  intro T hT X
  obtain ⟨v', st₀, t, T', L, h0, X', hL, e1, e2, ⟨x, ws', hv, hrs, hP', hD', hlen', hR', hext, hz, hkp⟩, st⟩ := hrun T hT X
  cases hv
  rw [h0] at hz hkp
  obtain ⟨g1, g2⟩ := rS_list hrs
  have hWD : WD gv cA D A s h1 ws' T'.heap (locs ++ L) := by
    refine ⟨hK, by rw [e1]; exact hP', hD'.weaken (fun i q _ hq => hF q.1 hq), ⟨Nat.le_trans hS.1 (by rw [e1]; exact hz), fun q q1 q2 => ?_, fun q hq => ?_⟩, hA, hlen', hR'⟩
    · rw [e1, hkp q (Nat.lt_of_lt_of_le q1 hS.1) (fun z => q2 (hF q z))]
      exact hS.2.1 q q1 q2
    · rcases List.mem_append.mp hq with hq | hq
      · exact hS.2.2 q hq
      · exact hF _ (hL q hq)
  obtain ⟨t2, a1, b1⟩ := kk ws' T'.heap (locs ++ L) x hWD hext g2 (fun q q1 q2 => by rw [e1]; exact hkp q q1 q2) T' rfl X'
  refine ⟨t2, st t2 ?_, b1⟩
  rw [g1]
  exact a1
/-- a call in the law: the callee is told by its claim; the receiver is the world's first cell -/
theorem law_call {y : MethodName} {sh : List Bool} {pad : ALs} {n idx ci : Nat} {C : String} {T : u_T} {N0 : Nat} (cf : CF My y sh pad n) (hfr : My.2.2.2.2.2 + 1 ≤ M.2.2.2.2.2) (hn : sh.length = n + 1) (hcl : classes[ci]? = some (C, T, N0)) (hl : Jvm.Cond.methodLink M.1 idx y ∈ k_tbl) (hin : Jvm.Cond.instanceMethod y ∈ k_tbl) (hse : Jvm.Cond.selects C y y ∈ k_tbl) (hd : decode M.2.1 pc = .ok (.invokevirtual idx, 3))
    {As : List AV} {v : Option AV} {vals : List Value} {a0 : Nat} {fs : List Value} (hlay : (a_lay (aR 1 :: As)).length = a_shw sh) (hcg : CG gv My 0 (a_lay (aR 1 :: As) ++ pad) [] h (.inl (v, h1)))
    (hC : CX M p R s m args meth c) (hW : WD gv cA D A s h ws H locs) (g1 : ws[0]? = some (a0, .inr (ci, fs))) (hA0 : SR gv (adr ws) As vals) (hlv : vals.length = n) (hsz : ls.size = M.2.2.1) (hrest : (rest.map fun v => v.category).sum ≤ 8) (hc1 : cells + (a_cnt h1 - a_cnt h) ≤ R.cells) (hc2 : slots + (a_slt h1 - a_slt h) ≤ R.slots)
    (kk : ∀ (ws' : va_W) (H1 : Heap) (locs1 : List Loc) (x : List Value), WD gv cA D A s h1 ws' H1 locs1 → a_ext ws ws' → SR gv (adr ws') v.toList x → (∀ q, q < H.size → ¬ va_A ws H.size q → H1[q]? = H[q]?) → W p l e R s m args below meth c H1 locs1 (cells + (a_cnt h1 - a_cnt h)) (slots + (a_slt h1 - a_slt h)) Q (F0 m (pc + 3) ls (x ++ rest))) : W p l e R s m args below meth c H locs cells slots Q (F0 m pc ls (vals.reverse ++ (.ref a0 :: rest))) := by
  obtain ⟨cf1, cf2, cf3, cf4, cf5, cf6, cf7, cf8, cf9, cf10⟩ := cf
  obtain ⟨hle, hok, hcl0⟩ := hcg
  have hle : a_le h h1 := hle
  have hvals : SR gv (adr ws) (aR 1 :: As) (.ref a0 :: vals) := ⟨⟨a0, adr_get g1, rfl⟩, hA0⟩
  have hM := met_ofG hle hok hcl0 cf1 cf2 cf3 cf8 (by rw [hlay]; exact cf9) l (D := D) (sz := H.size) hvals hW.2.2.2.2.2.1 hW.2.2.2.2.2.2
  have hb := hC.2.2.2.2.1
  have hfr2 : My.2.2.2.2.2 + 1 ≤ R.frames := Nat.le_trans hfr hC.2.2.2.2.2.2.2.2.1
  have hlo : 8 + (My.2.2.1 + 11) + 64 * My.2.2.2.2.2 ≤ R.locals := by
    have := hC.2.2.2.2.2.2.2.2.2
    omega
  have hrunA : va_Run p l e R s m args below meth c H locs cells slots (a_cnt h1 - a_cnt h) (a_slt h1 - a_slt h) (F0 m pc ls (vals.reverse ++ (.ref a0 :: rest))) rest (QA gv cA D ws H.size h1 v (Value.ref a0 :: vals).toArray) (va_A ws H.size) := va_runV (As := vals) (Ts := k_tbl) (nL := M.2.2.1) (own := M.1) (C := C) (bytes := My.2.1) (maxL := My.2.2.1) (ret := My.2.2.2.1) (n := n) ⟨hC.1, hC.2.1, hC.2.2.1, hC.2.2.2.1, hb⟩ hM ⟨⟨rfl, rfl, hfr2, hlo, (fun w hw a' U hU => by
      rcases List.mem_cons.mp hw with rfl | hw
      · exact all_warm hb _ cf4 a' U hU
      · exact all_warm hb w hw a' U hU), List.mem_cons_self, hb _ cf4, hb _ cf5, cf6, hlen_of cf7, hb _ hl⟩, hb _ hin, hb _ hse⟩ ⟨PA_blind cA D ws H.size _, va_recv hW.1 hW.2.1 (ci := ci) (q0 := 0) hcl g1, (fun U hU hw => ⟨rfl, by rw [hU], by rw [hU]; exact hW.2.1, va_K.moved hw.alike hW.1, hW.2.2.1.weaken (fun _ _ _ _ => trivial)⟩)⟩ rfl hlv hsz rfl (by show 2 * 0 + _ ≤ 8; omega) hd ⟨hc1, hc2⟩
  exact call_go2 hW hrunA kk
end
theorem lay_ints {gv : Nat → Int32} : ∀ (As : List AV) (vs : List Int32), SR gv [] As (vs.map Value.int) → (a_lay As).length = vs.length
  | [], [], _ => rfl
  | [], x :: vs, h => (show False from h).elim
  | a :: As, [], h => (show False from h).elim
  | a :: As, x :: vs, h => by
    obtain ⟨h1, h2⟩ : vR gv [] a (.int x) ∧ SR gv [] As (vs.map Value.int) := h
    have ih := lay_ints As vs h2
    have hc : a_cat1 a = true := by
      match a, h1 with
      | .inl n, _ => rfl
      | .inr (.inr (.inr (g, lo, hi))), _ => rfl
      | .inr (.inl 0), h1 =>
        have z : Value.int x = Value.null := h1
        cases z
      | .inr (.inl (r + 1)), ⟨y, _, z⟩ => cases z
      | .inr (.inr (.inl n)), ⟨_, z⟩ => cases z
    show (a_if (a_cat1 a) (some a :: a_lay As) (some a :: none :: a_lay As)).length = vs.length + 1
    rw [hc]
    show (a_lay As).length + 1 = _
    rw [ih]
def k_mo : List Nat := List.range' 105 35
theorem mo_get {i x : Nat} (h : k_mo[i]? = some x) : x = 105 + i ∧ i < 35 := by
  unfold k_mo at h
  have hi : i < 35 := by
    have := (List.getElem?_eq_some_iff.mp h).1
    rw [List.length_range'] at this
    exact this
  rw [List.getElem?_range' hi] at h
  have := Option.some.inj h
  exact ⟨by omega, hi⟩
theorem mo_lt {i : Nat} (h : i ∈ k_mo) : 105 ≤ i ∧ i < 140 := by
  obtain ⟨k, hk⟩ := List.mem_iff_getElem?.mp h
  obtain ⟨h1, h2⟩ := mo_get hk
  omega

set_option maxRecDepth 100000 in
theorem jX : q_pm k_id k_HJ k_HX 1000 105 [] [] = true := by decide +kernel
set_option maxRecDepth 100000 in
theorem jM : q_pm k_mo k_HJ k_HM 1000 35 [] [] = true := by decide +kernel
section
variable {M My : AM} {p : Program} {l : Launch} {e : Env} {R : Room} {s : State} {m : MethodId} {args : Array Value} {below : List Frame} {meth : Method} {c : Code} {gv : Nat → Int32} {cA : Nat → ClassId} {D : va_G} {A : Nat → Prop} {ws : va_W} {H : Heap} {locs : List Loc} {cells slots : Nat} {ls : Array Slot} {rest : List Value} {Q : State → Prop} {pc : Nat} {y : MethodName} {sh : List Bool} {pad : ALs} {np idx n q1 q2 : Nat} {vs : List Int32}
theorem one_int {ad : List Nat} {x : List Value} (h : SR gv ad (some (aI n)).toList x) : x = [.int (a_i32 n)] := by
  obtain ⟨v, st, rfl, ⟨_, rfl⟩, h2⟩ := SR_cons (a := aI n) (S := []) h
  cases st with
  | nil => rfl
  | cons a b => exact (show False from h2).elim
/-- the reference's call -/
theorem law_M (cf : CF My y sh pad np) (hfr : My.2.2.2.2.2 + 1 ≤ M.2.2.2.2.2) (hn : sh.length = np + 1) (hsh : a_shw sh = np + 1) (hvn : vs.length = np) (hl : Jvm.Cond.methodLink M.1 idx y ∈ k_tbl) (hin : Jvm.Cond.instanceMethod y ∈ k_tbl) (hse : Jvm.Cond.selects RX9 y y ∈ k_tbl) (hd : decode M.2.1 pc = .ok (.invokevirtual idx, 3))
    (hC : CX M p R s m args meth c) (hW : WD gv cA D A s k_HM ws H locs) (hq : (adr ws)[0]? = some q2) (hs : SideM My pad gv vs n) (hsz : ls.size = M.2.2.1) (hrest : (rest.map fun v => v.category).sum ≤ 8) (hcc : cells ≤ R.cells) (hcs : slots ≤ R.slots)
    (kk : ∀ (H1 : Heap) (locs1 : List Loc), va_S A s.heap H1 locs1 → W p l e R s m args below meth c H1 locs1 cells slots Q (F0 m (pc + 3) ls (.int (a_i32 n) :: rest))) : W p l e R s m args below meth c H locs cells slots Q (F0 m pc ls ((vs.map Value.int).reverse ++ (.ref q2 :: rest))) := by
  obtain ⟨h1, As, hA, hc1, hz1, hcg⟩ := hs
  obtain ⟨a, e0, w1, fs, rfl, -, -⟩ := hW.2.2.2.2.2.2 0 _ HM_0
  have hqa : a = q2 := by
    have := adr_get w1
    rw [hq] at this
    exact (Option.some.inj this).symm
  subst hqa
  have e1 : a_cnt h1 - a_cnt k_HM = 0 := by rw [hc1, HM_c, Nat.sub_self]
  have e2 : a_slt h1 - a_slt k_HM = 0 := by rw [hz1, HM_z, Nat.sub_self]
  have hlay : (a_lay (aR 1 :: As)).length = a_shw sh := by
    show (a_lay As).length + 1 = _
    rw [lay_ints As vs (hA []), hsh, hvn]
  refine law_call (ci := 9) (C := RX9) (T := TX9) (N0 := 38) cf hfr hn rfl hl hin hse hd hlay hcg hC hW w1 (hA _) (by rw [List.length_map]; exact hvn) hsz hrest (by rw [e1]; exact hcc) (by rw [e2]; exact hcs) (fun ws' H1 locs1 x hW' hext hx hfrm => ?_)
  rw [one_int hx, e1, e2]
  exact kk H1 locs1 hW'.2.2.2.1
/-- the class's call: the reference's cells stay as they are -/
theorem law_X (cf : CF My y sh pad np) (hfr : My.2.2.2.2.2 + 1 ≤ M.2.2.2.2.2) (hn : sh.length = np + 1) (hsh : a_shw sh = np + 1) (hvn : vs.length = np) (hl : Jvm.Cond.methodLink M.1 idx y ∈ k_tbl) (hin : Jvm.Cond.instanceMethod y ∈ k_tbl) (hse : Jvm.Cond.selects RX8 y y ∈ k_tbl) (hd : decode M.2.1 pc = .ok (.invokevirtual idx, 3))
    (hC : CX M p R s m args meth c) (hW : WD gv cA D A s k_HJ ws H locs) (hq1 : (adr ws)[0]? = some q1) (hq2 : (adr ws)[105]? = some q2) (hs : SideX My pad gv vs n) (hsz : ls.size = M.2.2.1) (hrest : (rest.map fun v => v.category).sum ≤ 8) (hcc : cells ≤ R.cells) (hcs : slots ≤ R.slots)
    (kk : ∀ (ws2 : va_W) (H1 : Heap) (locs1 : List Loc), WD gv cA D A s k_HM ws2 H1 locs1 → (adr ws2)[0]? = some q2 → W p l e R s m args below meth c H1 locs1 cells slots Q (F0 m (pc + 3) ls (.int (a_i32 n) :: rest))) : W p l e R s m args below meth c H locs cells slots Q (F0 m pc ls ((vs.map Value.int).reverse ++ (.ref q1 :: rest))) := by
  obtain ⟨σ, h, h1, As, ⟨t1, t2, t3, t4, t5, t6, t7⟩, hA, hc1, hz1, hcg⟩ := hs
  obtain ⟨i1, i2, i3, i4, -⟩ := TrX_id gv
  have hlen : ws.length = 140 := by rw [hW.2.2.2.2.2.1]; exact HJ_c
  have hs1 : ∀ i ∈ k_id, i < ws.length := fun i hi => by rw [hlen]; have := i1 i hi; omega
  have hR1 := q_pm_ok (gv := gv) (cA := cA) jX (fun c x hx => hlook_105 HX_n c x hx) hs1 (fun q s h => by cases h) hW.2.2.2.2.2.2
  have hl1 : (a_pm k_id ws).length = 105 := by unfold a_pm; rw [List.length_map]; exact i4
  have hR := t7 cA (a_pm k_id ws) hl1 hR1
  have hsσ : ∀ i ∈ σ, i < (a_pm k_id ws).length := fun i hi => by rw [hl1]; exact t1 i hi
  have hD1 : va_D A (a_pm k_id ws) := pm_D hs1 i2 hW.2.2.1
  have hWσ : WD gv cA D A s h (a_pm σ (a_pm k_id ws)) H locs := ⟨hW.1, pm_P hsσ (pm_P hs1 hW.2.1), pm_D hsσ t2 hD1, hW.2.2.2.1, hW.2.2.2.2.1, by unfold a_pm; rw [List.length_map, t4, t5], hR⟩
  obtain ⟨a, e0, w1, fs, rfl, -, -⟩ := hR1 0 _ HX_0
  have hqa : a = q1 := by
    have u1 := adr_get w1
    have u2 := pm_adr hs1 i3 hq1
    rw [u1] at u2
    exact Option.some.inj u2
  subst hqa
  have g1 : (a_pm σ (a_pm k_id ws))[0]? = some (a, .inr (8, fs)) := by rw [pm_get hsσ t3]; exact w1
  have hsm : ∀ i ∈ k_mo, i < ws.length := fun i hi => by rw [hlen]; exact (mo_lt hi).2
  have hRm := q_pm_ok (gv := gv) (cA := cA) jM (fun c x hx => hlook_35 c x hx) hsm (fun q s h => by cases h) hW.2.2.2.2.2.2
  have hPm : va_P D classes (a_pm k_mo ws) H := pm_P hsm hW.2.1
  have hDm : va_D A (a_pm k_mo ws) := pm_D hsm (fun i j x h1 h2 => by have := mo_get h1; have := mo_get h2; omega) hW.2.2.1
  have e1 : a_cnt h1 - a_cnt h = 0 := by rw [hc1, t5, Nat.sub_self]
  have e2 : a_slt h1 - a_slt h = 0 := by rw [hz1, t6, Nat.sub_self]
  have hml : k_mo.length = 35 := by decide
  have hlay : (a_lay (aR 1 :: As)).length = a_shw sh := by
    show (a_lay As).length + 1 = _
    rw [lay_ints As vs (hA []), hsh, hvn]
  refine law_call (ci := 8) (C := RX8) (T := TX8) (N0 := 8) cf hfr hn rfl hl hin hse hd hlay hcg hC hWσ g1 (hA _) (by rw [List.length_map]; exact hvn) hsz hrest (by rw [e1]; exact hcc) (by rw [e2]; exact hcs) (fun ws' H1 locs1 x hW' hext hx hfrm => ?_)
  rw [one_int hx, e1, e2]
  refine kk (a_pm k_mo ws) H1 locs1 ⟨hW'.1, hPm.kept (fun k q hq => ?_), hDm, hW'.2.2.2.1, hW'.2.2.2.2.1, by unfold a_pm; rw [List.length_map, HM_c]; exact hml, hRm⟩ (pm_adr hsm rfl hq2)
  refine hfrm q.1 ((hPm k q hq).lt) (fun z => ?_)
  rcases z with ⟨i, e', hi⟩ | z
  · obtain ⟨j, u1, u2⟩ := pm_of hsσ hi
    obtain ⟨j', u3, u4⟩ := pm_of hs1 u2
    obtain ⟨k', u5, u6⟩ := pm_of hsm hq
    have := hW.2.2.1.1 j' k' _ _ u4 u6 rfl
    have h5 := i1 j' (List.mem_of_getElem? u3)
    have h6 := (mo_lt (List.mem_of_getElem? u5)).1
    omega
  · exact absurd ((hPm k q hq).lt) (by omega)
/-- an int of the script -/
theorem law_ld {b L j : Nat} {xs : Nat → Int32} {st : List Value} (hx : p.tables.exec = Jvm.exec) (hb : c.code = code) (hX : va_X b L xs s s.heap) (hbl : b < s.heap.size) (hbA : ¬ A b) (hS : va_S A s.heap H locs) (h0 : ls[0]? = some (.val (.ref b))) (h3 : ls[3]? = some (.val (.int 0))) {z : Int} {v : Int32} (d1 : decode code pc = .ok (.aload_n 0, 1)) (d2 : decode code (pc + 1) = .ok (.iload_n 3, 1)) (d3 : decode code (pc + 2) = .ok (.iconst z, 1)) (d4 : decode code (pc + 3) = .ok (.iadd, 1)) (d5 : decode code (pc + 4) = .ok (.iaload, 1)) (hz : Int32.ofInt z = v) (hv : (0 + v).toNatClampNeg = j) (hv0 : ¬ (0 + v < 0)) (hj : j < L)
    (w : W p l e R s m args below meth c H locs cells slots Q (F0 m (pc + 5) ls (.int (xs j) :: st))) : W p l e R s m args below meth c H locs cells slots Q (F0 m pc ls st) := by
  refine lv_aload_n hx hb d1 rfl h0 ?_
  refine lv_iload_n hx hb d2 rfl h3 ?_
  refine lv_iconst hx hb d3 hz ?_
  refine lv_iadd hx hb d4 ?_
  refine va_sld hx hb hX hbl hbA hS (i := 0 + v) (fun q => ?_) d5 ?_
  · rcases q with q | q
    · exact hv0 q
    · rw [hv] at q; omega
  · rw [hv]
    exact w
end

set_option maxRecDepth 20000 in
theorem kw_800 : Jvm.Cond.instantiable RX8 8 ∈ k_tbl := in_tbl (in_t1 (List.mem_of_getElem? (i := 15) rfl)) rfl
set_option maxRecDepth 20000 in
theorem kw_801 : Jvm.Cond.instantiable RX9 38 ∈ k_tbl := in_tbl (in_t4 (List.mem_of_getElem? (i := 22) rfl)) rfl
set_option maxRecDepth 20000 in
theorem kw_802 : Jvm.Cond.methodLink R_law 9 yX8_init ∈ k_tbl := in_tbl (in_t1 (List.mem_of_getElem? (i := 16) rfl)) rfl
set_option maxRecDepth 20000 in
theorem kw_803 : Jvm.Cond.instanceMethod yX8_init ∈ k_tbl := in_tbl (in_t1 (List.mem_of_getElem? (i := 17) rfl)) rfl
set_option maxRecDepth 20000 in
theorem kw_804 : Jvm.Cond.methodLink R_law 12 yX9_init ∈ k_tbl := in_tbl (in_t4 (List.mem_of_getElem? (i := 23) rfl)) rfl
set_option maxRecDepth 20000 in
theorem kw_805 : Jvm.Cond.instanceMethod yX9_init ∈ k_tbl := in_tbl (in_t4 (List.mem_of_getElem? (i := 24) rfl)) rfl
set_option maxRecDepth 20000 in
theorem kw_806 : Jvm.Cond.classLink R_law 7 RX8 ∈ k_tbl := in_tbl (in_t1 (List.mem_of_getElem? (i := 14) rfl)) rfl
set_option maxRecDepth 20000 in
theorem kw_807 : Jvm.Cond.classLink R_law 10 RX9 ∈ k_tbl := in_tbl (in_t4 (List.mem_of_getElem? (i := 21) rfl)) rfl
set_option maxRecDepth 20000 in
theorem kw_808 : Jvm.Cond.methodLink R_law 13 yX8_row ∈ k_tbl := in_tbl (in_t1 (List.mem_of_getElem? (i := 225) rfl)) rfl
set_option maxRecDepth 20000 in
theorem kw_809 : Jvm.Cond.instanceMethod yX8_row ∈ k_tbl := in_tbl (in_t1 (List.mem_of_getElem? (i := 226) rfl)) rfl
set_option maxRecDepth 20000 in
theorem kw_810 : Jvm.Cond.selects RX8 yX8_row yX8_row ∈ k_tbl := in_tbl (in_t1 (List.mem_of_getElem? (i := 227) rfl)) rfl
set_option maxRecDepth 20000 in
theorem kw_811 : Jvm.Cond.methodLink R_law 17 yX9_row ∈ k_tbl := in_tbl (in_t4 (List.mem_of_getElem? (i := 145) rfl)) rfl
set_option maxRecDepth 20000 in
theorem kw_812 : Jvm.Cond.instanceMethod yX9_row ∈ k_tbl := in_tbl (in_t4 (List.mem_of_getElem? (i := 146) rfl)) rfl
set_option maxRecDepth 20000 in
theorem kw_813 : Jvm.Cond.selects RX9 yX9_row yX9_row ∈ k_tbl := in_tbl (in_t4 (List.mem_of_getElem? (i := 147) rfl)) rfl
set_option maxRecDepth 20000 in
theorem kw_814 : Jvm.Cond.methodLink R_law 18 yX8_field ∈ k_tbl := in_tbl (in_t2 (List.mem_of_getElem? (i := 6) rfl)) rfl
set_option maxRecDepth 20000 in
theorem kw_815 : Jvm.Cond.instanceMethod yX8_field ∈ k_tbl := in_tbl (in_t2 (List.mem_of_getElem? (i := 7) rfl)) rfl
set_option maxRecDepth 20000 in
theorem kw_816 : Jvm.Cond.selects RX8 yX8_field yX8_field ∈ k_tbl := in_tbl (in_t2 (List.mem_of_getElem? (i := 8) rfl)) rfl
set_option maxRecDepth 20000 in
theorem kw_817 : Jvm.Cond.methodLink R_law 22 yX9_field ∈ k_tbl := in_tbl (in_t4 (List.mem_of_getElem? (i := 155) rfl)) rfl
set_option maxRecDepth 20000 in
theorem kw_818 : Jvm.Cond.instanceMethod yX9_field ∈ k_tbl := in_tbl (in_t4 (List.mem_of_getElem? (i := 156) rfl)) rfl
set_option maxRecDepth 20000 in
theorem kw_819 : Jvm.Cond.selects RX9 yX9_field yX9_field ∈ k_tbl := in_tbl (in_t4 (List.mem_of_getElem? (i := 157) rfl)) rfl
set_option maxRecDepth 20000 in
theorem kw_820 : Jvm.Cond.methodLink R_law 23 yX8_fields ∈ k_tbl := in_tbl (in_t2 (List.mem_of_getElem? (i := 14) rfl)) rfl
set_option maxRecDepth 20000 in
theorem kw_821 : Jvm.Cond.instanceMethod yX8_fields ∈ k_tbl := in_tbl (in_t2 (List.mem_of_getElem? (i := 15) rfl)) rfl
set_option maxRecDepth 20000 in
theorem kw_822 : Jvm.Cond.selects RX8 yX8_fields yX8_fields ∈ k_tbl := in_tbl (in_t2 (List.mem_of_getElem? (i := 16) rfl)) rfl
set_option maxRecDepth 20000 in
theorem kw_823 : Jvm.Cond.methodLink R_law 27 yX9_fields ∈ k_tbl := in_tbl (in_t4 (List.mem_of_getElem? (i := 162) rfl)) rfl
set_option maxRecDepth 20000 in
theorem kw_824 : Jvm.Cond.instanceMethod yX9_fields ∈ k_tbl := in_tbl (in_t4 (List.mem_of_getElem? (i := 163) rfl)) rfl
set_option maxRecDepth 20000 in
theorem kw_825 : Jvm.Cond.selects RX9 yX9_fields yX9_fields ∈ k_tbl := in_tbl (in_t4 (List.mem_of_getElem? (i := 164) rfl)) rfl
set_option maxRecDepth 20000 in
theorem kw_826 : Jvm.Cond.methodLink R_law 28 yX8_parts ∈ k_tbl := in_tbl (in_t2 (List.mem_of_getElem? (i := 18) rfl)) rfl
set_option maxRecDepth 20000 in
theorem kw_827 : Jvm.Cond.instanceMethod yX8_parts ∈ k_tbl := in_tbl (in_t2 (List.mem_of_getElem? (i := 19) rfl)) rfl
set_option maxRecDepth 20000 in
theorem kw_828 : Jvm.Cond.selects RX8 yX8_parts yX8_parts ∈ k_tbl := in_tbl (in_t2 (List.mem_of_getElem? (i := 20) rfl)) rfl
set_option maxRecDepth 20000 in
theorem kw_829 : Jvm.Cond.methodLink R_law 31 yX9_parts ∈ k_tbl := in_tbl (in_t4 (List.mem_of_getElem? (i := 166) rfl)) rfl
set_option maxRecDepth 20000 in
theorem kw_830 : Jvm.Cond.instanceMethod yX9_parts ∈ k_tbl := in_tbl (in_t4 (List.mem_of_getElem? (i := 167) rfl)) rfl
set_option maxRecDepth 20000 in
theorem kw_831 : Jvm.Cond.selects RX9 yX9_parts yX9_parts ∈ k_tbl := in_tbl (in_t4 (List.mem_of_getElem? (i := 168) rfl)) rfl
set_option maxRecDepth 20000 in
theorem kw_832 : Jvm.Cond.methodLink R_law 32 yX8_moves ∈ k_tbl := in_tbl (in_t2 (List.mem_of_getElem? (i := 31) rfl)) rfl
set_option maxRecDepth 20000 in
theorem kw_833 : Jvm.Cond.instanceMethod yX8_moves ∈ k_tbl := in_tbl (in_t2 (List.mem_of_getElem? (i := 32) rfl)) rfl
set_option maxRecDepth 20000 in
theorem kw_834 : Jvm.Cond.selects RX8 yX8_moves yX8_moves ∈ k_tbl := in_tbl (in_t2 (List.mem_of_getElem? (i := 33) rfl)) rfl
set_option maxRecDepth 20000 in
theorem kw_835 : Jvm.Cond.methodLink R_law 36 yX9_moves ∈ k_tbl := in_tbl (in_t4 (List.mem_of_getElem? (i := 170) rfl)) rfl
set_option maxRecDepth 20000 in
theorem kw_836 : Jvm.Cond.instanceMethod yX9_moves ∈ k_tbl := in_tbl (in_t4 (List.mem_of_getElem? (i := 171) rfl)) rfl
set_option maxRecDepth 20000 in
theorem kw_837 : Jvm.Cond.selects RX9 yX9_moves yX9_moves ∈ k_tbl := in_tbl (in_t4 (List.mem_of_getElem? (i := 172) rfl)) rfl
set_option maxRecDepth 20000 in
theorem kw_838 : Jvm.Cond.methodLink R_law 37 yX8_lay ∈ k_tbl := in_tbl (in_t2 (List.mem_of_getElem? (i := 47) rfl)) rfl
set_option maxRecDepth 20000 in
theorem kw_839 : Jvm.Cond.instanceMethod yX8_lay ∈ k_tbl := in_tbl (in_t2 (List.mem_of_getElem? (i := 48) rfl)) rfl
set_option maxRecDepth 20000 in
theorem kw_840 : Jvm.Cond.selects RX8 yX8_lay yX8_lay ∈ k_tbl := in_tbl (in_t2 (List.mem_of_getElem? (i := 49) rfl)) rfl
set_option maxRecDepth 20000 in
theorem kw_841 : Jvm.Cond.methodLink R_law 40 yX9_lay ∈ k_tbl := in_tbl (in_t4 (List.mem_of_getElem? (i := 177) rfl)) rfl
set_option maxRecDepth 20000 in
theorem kw_842 : Jvm.Cond.instanceMethod yX9_lay ∈ k_tbl := in_tbl (in_t4 (List.mem_of_getElem? (i := 178) rfl)) rfl
set_option maxRecDepth 20000 in
theorem kw_843 : Jvm.Cond.selects RX9 yX9_lay yX9_lay ∈ k_tbl := in_tbl (in_t4 (List.mem_of_getElem? (i := 179) rfl)) rfl
set_option maxRecDepth 20000 in
theorem kw_844 : Jvm.Cond.methodLink R_law 41 yX8_lift ∈ k_tbl := in_tbl (in_t2 (List.mem_of_getElem? (i := 59) rfl)) rfl
set_option maxRecDepth 20000 in
theorem kw_845 : Jvm.Cond.instanceMethod yX8_lift ∈ k_tbl := in_tbl (in_t2 (List.mem_of_getElem? (i := 60) rfl)) rfl
set_option maxRecDepth 20000 in
theorem kw_846 : Jvm.Cond.selects RX8 yX8_lift yX8_lift ∈ k_tbl := in_tbl (in_t2 (List.mem_of_getElem? (i := 61) rfl)) rfl
set_option maxRecDepth 20000 in
theorem kw_847 : Jvm.Cond.methodLink R_law 44 yX9_lift ∈ k_tbl := in_tbl (in_t4 (List.mem_of_getElem? (i := 181) rfl)) rfl
set_option maxRecDepth 20000 in
theorem kw_848 : Jvm.Cond.instanceMethod yX9_lift ∈ k_tbl := in_tbl (in_t4 (List.mem_of_getElem? (i := 182) rfl)) rfl
set_option maxRecDepth 20000 in
theorem kw_849 : Jvm.Cond.selects RX9 yX9_lift yX9_lift ∈ k_tbl := in_tbl (in_t4 (List.mem_of_getElem? (i := 183) rfl)) rfl
set_option maxRecDepth 20000 in
theorem kw_850 : Jvm.Cond.methodLink R_law 45 yX8_quarter ∈ k_tbl := in_tbl (in_t2 (List.mem_of_getElem? (i := 67) rfl)) rfl
set_option maxRecDepth 20000 in
theorem kw_851 : Jvm.Cond.instanceMethod yX8_quarter ∈ k_tbl := in_tbl (in_t2 (List.mem_of_getElem? (i := 68) rfl)) rfl
set_option maxRecDepth 20000 in
theorem kw_852 : Jvm.Cond.selects RX8 yX8_quarter yX8_quarter ∈ k_tbl := in_tbl (in_t2 (List.mem_of_getElem? (i := 69) rfl)) rfl
set_option maxRecDepth 20000 in
theorem kw_853 : Jvm.Cond.methodLink R_law 48 yX9_quarter ∈ k_tbl := in_tbl (in_t4 (List.mem_of_getElem? (i := 185) rfl)) rfl
set_option maxRecDepth 20000 in
theorem kw_854 : Jvm.Cond.instanceMethod yX9_quarter ∈ k_tbl := in_tbl (in_t4 (List.mem_of_getElem? (i := 186) rfl)) rfl
set_option maxRecDepth 20000 in
theorem kw_855 : Jvm.Cond.selects RX9 yX9_quarter yX9_quarter ∈ k_tbl := in_tbl (in_t4 (List.mem_of_getElem? (i := 187) rfl)) rfl
set_option maxRecDepth 20000 in
theorem kw_856 : Jvm.Cond.methodLink R_law 49 yX8_worth ∈ k_tbl := in_tbl (in_t2 (List.mem_of_getElem? (i := 79) rfl)) rfl
set_option maxRecDepth 20000 in
theorem kw_857 : Jvm.Cond.instanceMethod yX8_worth ∈ k_tbl := in_tbl (in_t2 (List.mem_of_getElem? (i := 80) rfl)) rfl
set_option maxRecDepth 20000 in
theorem kw_858 : Jvm.Cond.selects RX8 yX8_worth yX8_worth ∈ k_tbl := in_tbl (in_t2 (List.mem_of_getElem? (i := 81) rfl)) rfl
set_option maxRecDepth 20000 in
theorem kw_859 : Jvm.Cond.methodLink R_law 52 yX9_worth ∈ k_tbl := in_tbl (in_t4 (List.mem_of_getElem? (i := 189) rfl)) rfl
set_option maxRecDepth 20000 in
theorem kw_860 : Jvm.Cond.instanceMethod yX9_worth ∈ k_tbl := in_tbl (in_t4 (List.mem_of_getElem? (i := 190) rfl)) rfl
set_option maxRecDepth 20000 in
theorem kw_861 : Jvm.Cond.selects RX9 yX9_worth yX9_worth ∈ k_tbl := in_tbl (in_t4 (List.mem_of_getElem? (i := 191) rfl)) rfl
set_option maxRecDepth 20000 in
theorem kw_862 : Jvm.Cond.methodLink R_law 53 yX8_number ∈ k_tbl := in_tbl (in_t3 (List.mem_of_getElem? (i := 36) rfl)) rfl
set_option maxRecDepth 20000 in
theorem kw_863 : Jvm.Cond.instanceMethod yX8_number ∈ k_tbl := in_tbl (in_t3 (List.mem_of_getElem? (i := 37) rfl)) rfl
set_option maxRecDepth 20000 in
theorem kw_864 : Jvm.Cond.selects RX8 yX8_number yX8_number ∈ k_tbl := in_tbl (in_t3 (List.mem_of_getElem? (i := 38) rfl)) rfl
set_option maxRecDepth 20000 in
theorem kw_865 : Jvm.Cond.methodLink R_law 56 yX9_number ∈ k_tbl := in_tbl (in_t5 (List.mem_of_getElem? (i := 23) rfl)) rfl
set_option maxRecDepth 20000 in
theorem kw_866 : Jvm.Cond.instanceMethod yX9_number ∈ k_tbl := in_tbl (in_t5 (List.mem_of_getElem? (i := 24) rfl)) rfl
set_option maxRecDepth 20000 in
theorem kw_867 : Jvm.Cond.selects RX9 yX9_number yX9_number ∈ k_tbl := in_tbl (in_t5 (List.mem_of_getElem? (i := 25) rfl)) rfl
set_option maxRecDepth 20000 in
theorem kw_868 : Jvm.Cond.methodLink R_law 57 yX8_up ∈ k_tbl := in_tbl (in_t3 (List.mem_of_getElem? (i := 59) rfl)) rfl
set_option maxRecDepth 20000 in
theorem kw_869 : Jvm.Cond.instanceMethod yX8_up ∈ k_tbl := in_tbl (in_t3 (List.mem_of_getElem? (i := 60) rfl)) rfl
set_option maxRecDepth 20000 in
theorem kw_870 : Jvm.Cond.selects RX8 yX8_up yX8_up ∈ k_tbl := in_tbl (in_t3 (List.mem_of_getElem? (i := 61) rfl)) rfl
set_option maxRecDepth 20000 in
theorem kw_871 : Jvm.Cond.methodLink R_law 61 yX9_up ∈ k_tbl := in_tbl (in_t5 (List.mem_of_getElem? (i := 35) rfl)) rfl
set_option maxRecDepth 20000 in
theorem kw_872 : Jvm.Cond.instanceMethod yX9_up ∈ k_tbl := in_tbl (in_t5 (List.mem_of_getElem? (i := 36) rfl)) rfl
set_option maxRecDepth 20000 in
theorem kw_873 : Jvm.Cond.selects RX9 yX9_up yX9_up ∈ k_tbl := in_tbl (in_t5 (List.mem_of_getElem? (i := 37) rfl)) rfl
set_option maxRecDepth 20000 in
theorem kw_874 : Jvm.Cond.methodLink R_law 62 yX8_game ∈ k_tbl := in_tbl (in_t3 (List.mem_of_getElem? (i := 67) rfl)) rfl
set_option maxRecDepth 20000 in
theorem kw_875 : Jvm.Cond.instanceMethod yX8_game ∈ k_tbl := in_tbl (in_t3 (List.mem_of_getElem? (i := 68) rfl)) rfl
set_option maxRecDepth 20000 in
theorem kw_876 : Jvm.Cond.selects RX8 yX8_game yX8_game ∈ k_tbl := in_tbl (in_t3 (List.mem_of_getElem? (i := 69) rfl)) rfl
set_option maxRecDepth 20000 in
theorem kw_877 : Jvm.Cond.methodLink R_law 65 yX9_game ∈ k_tbl := in_tbl (in_t5 (List.mem_of_getElem? (i := 47) rfl)) rfl
set_option maxRecDepth 20000 in
theorem kw_878 : Jvm.Cond.instanceMethod yX9_game ∈ k_tbl := in_tbl (in_t5 (List.mem_of_getElem? (i := 48) rfl)) rfl
set_option maxRecDepth 20000 in
theorem kw_879 : Jvm.Cond.selects RX9 yX9_game yX9_game ∈ k_tbl := in_tbl (in_t5 (List.mem_of_getElem? (i := 49) rfl)) rfl
set_option maxRecDepth 20000 in
theorem kw_880 : Jvm.Cond.methodLink R_law 66 yX8_add ∈ k_tbl := in_tbl (in_t3 (List.mem_of_getElem? (i := 98) rfl)) rfl
set_option maxRecDepth 20000 in
theorem kw_881 : Jvm.Cond.instanceMethod yX8_add ∈ k_tbl := in_tbl (in_t3 (List.mem_of_getElem? (i := 99) rfl)) rfl
set_option maxRecDepth 20000 in
theorem kw_882 : Jvm.Cond.selects RX8 yX8_add yX8_add ∈ k_tbl := in_tbl (in_t3 (List.mem_of_getElem? (i := 100) rfl)) rfl
set_option maxRecDepth 20000 in
theorem kw_883 : Jvm.Cond.methodLink R_law 69 yX9_add ∈ k_tbl := in_tbl (in_t5 (List.mem_of_getElem? (i := 59) rfl)) rfl
set_option maxRecDepth 20000 in
theorem kw_884 : Jvm.Cond.instanceMethod yX9_add ∈ k_tbl := in_tbl (in_t5 (List.mem_of_getElem? (i := 60) rfl)) rfl
set_option maxRecDepth 20000 in
theorem kw_885 : Jvm.Cond.selects RX9 yX9_add yX9_add ∈ k_tbl := in_tbl (in_t5 (List.mem_of_getElem? (i := 61) rfl)) rfl
set_option maxRecDepth 20000 in
theorem kw_886 : Jvm.Cond.methodLink R_law 70 yX8_turn ∈ k_tbl := in_tbl (in_t3 (List.mem_of_getElem? (i := 106) rfl)) rfl
set_option maxRecDepth 20000 in
theorem kw_887 : Jvm.Cond.instanceMethod yX8_turn ∈ k_tbl := in_tbl (in_t3 (List.mem_of_getElem? (i := 107) rfl)) rfl
set_option maxRecDepth 20000 in
theorem kw_888 : Jvm.Cond.selects RX8 yX8_turn yX8_turn ∈ k_tbl := in_tbl (in_t3 (List.mem_of_getElem? (i := 108) rfl)) rfl
set_option maxRecDepth 20000 in
theorem kw_889 : Jvm.Cond.methodLink R_law 73 yX9_turn ∈ k_tbl := in_tbl (in_t5 (List.mem_of_getElem? (i := 63) rfl)) rfl
set_option maxRecDepth 20000 in
theorem kw_890 : Jvm.Cond.instanceMethod yX9_turn ∈ k_tbl := in_tbl (in_t5 (List.mem_of_getElem? (i := 64) rfl)) rfl
set_option maxRecDepth 20000 in
theorem kw_891 : Jvm.Cond.selects RX9 yX9_turn yX9_turn ∈ k_tbl := in_tbl (in_t5 (List.mem_of_getElem? (i := 65) rfl)) rfl
set_option maxRecDepth 20000 in
theorem kw_892 : Jvm.Cond.methodLink R_law 74 yX8_option ∈ k_tbl := in_tbl (in_t3 (List.mem_of_getElem? (i := 114) rfl)) rfl
set_option maxRecDepth 20000 in
theorem kw_893 : Jvm.Cond.instanceMethod yX8_option ∈ k_tbl := in_tbl (in_t3 (List.mem_of_getElem? (i := 115) rfl)) rfl
set_option maxRecDepth 20000 in
theorem kw_894 : Jvm.Cond.selects RX8 yX8_option yX8_option ∈ k_tbl := in_tbl (in_t3 (List.mem_of_getElem? (i := 116) rfl)) rfl
set_option maxRecDepth 20000 in
theorem kw_895 : Jvm.Cond.methodLink R_law 78 yX9_option ∈ k_tbl := in_tbl (in_t5 (List.mem_of_getElem? (i := 67) rfl)) rfl
set_option maxRecDepth 20000 in
theorem kw_896 : Jvm.Cond.instanceMethod yX9_option ∈ k_tbl := in_tbl (in_t5 (List.mem_of_getElem? (i := 68) rfl)) rfl
set_option maxRecDepth 20000 in
theorem kw_897 : Jvm.Cond.selects RX9 yX9_option yX9_option ∈ k_tbl := in_tbl (in_t5 (List.mem_of_getElem? (i := 69) rfl)) rfl
set_option maxRecDepth 20000 in
theorem kw_898 : Jvm.Cond.methodLink R_law 79 yX8_told ∈ k_tbl := in_tbl (in_t3 (List.mem_of_getElem? (i := 124) rfl)) rfl
set_option maxRecDepth 20000 in
theorem kw_899 : Jvm.Cond.instanceMethod yX8_told ∈ k_tbl := in_tbl (in_t3 (List.mem_of_getElem? (i := 125) rfl)) rfl
set_option maxRecDepth 20000 in
theorem kw_900 : Jvm.Cond.selects RX8 yX8_told yX8_told ∈ k_tbl := in_tbl (in_t3 (List.mem_of_getElem? (i := 126) rfl)) rfl
set_option maxRecDepth 20000 in
theorem kw_901 : Jvm.Cond.methodLink R_law 82 yX9_told ∈ k_tbl := in_tbl (in_t5 (List.mem_of_getElem? (i := 71) rfl)) rfl
set_option maxRecDepth 20000 in
theorem kw_902 : Jvm.Cond.instanceMethod yX9_told ∈ k_tbl := in_tbl (in_t5 (List.mem_of_getElem? (i := 72) rfl)) rfl
set_option maxRecDepth 20000 in
theorem kw_903 : Jvm.Cond.selects RX9 yX9_told yX9_told ∈ k_tbl := in_tbl (in_t5 (List.mem_of_getElem? (i := 73) rfl)) rfl
set_option maxRecDepth 20000 in
theorem kw_904 : Jvm.Cond.methodLink R_law 83 yX8_compare ∈ k_tbl := in_tbl (in_t3 (List.mem_of_getElem? (i := 189) rfl)) rfl
set_option maxRecDepth 20000 in
theorem kw_905 : Jvm.Cond.instanceMethod yX8_compare ∈ k_tbl := in_tbl (in_t3 (List.mem_of_getElem? (i := 190) rfl)) rfl
set_option maxRecDepth 20000 in
theorem kw_906 : Jvm.Cond.selects RX8 yX8_compare yX8_compare ∈ k_tbl := in_tbl (in_t3 (List.mem_of_getElem? (i := 191) rfl)) rfl
set_option maxRecDepth 20000 in
theorem kw_907 : Jvm.Cond.methodLink R_law 86 yX9_compare ∈ k_tbl := in_tbl (in_t5 (List.mem_of_getElem? (i := 108) rfl)) rfl
set_option maxRecDepth 20000 in
theorem kw_908 : Jvm.Cond.instanceMethod yX9_compare ∈ k_tbl := in_tbl (in_t5 (List.mem_of_getElem? (i := 109) rfl)) rfl
set_option maxRecDepth 20000 in
theorem kw_909 : Jvm.Cond.selects RX9 yX9_compare yX9_compare ∈ k_tbl := in_tbl (in_t5 (List.mem_of_getElem? (i := 110) rfl)) rfl
set_option maxRecDepth 20000 in
theorem kw_910 : Jvm.Cond.methodLink R_law 87 yX8_wins ∈ k_tbl := in_tbl (in_t3 (List.mem_of_getElem? (i := 197) rfl)) rfl
set_option maxRecDepth 20000 in
theorem kw_911 : Jvm.Cond.instanceMethod yX8_wins ∈ k_tbl := in_tbl (in_t3 (List.mem_of_getElem? (i := 198) rfl)) rfl
set_option maxRecDepth 20000 in
theorem kw_912 : Jvm.Cond.selects RX8 yX8_wins yX8_wins ∈ k_tbl := in_tbl (in_t3 (List.mem_of_getElem? (i := 199) rfl)) rfl
set_option maxRecDepth 20000 in
theorem kw_913 : Jvm.Cond.methodLink R_law 90 yX9_wins ∈ k_tbl := in_tbl (in_t5 (List.mem_of_getElem? (i := 112) rfl)) rfl
set_option maxRecDepth 20000 in
theorem kw_914 : Jvm.Cond.instanceMethod yX9_wins ∈ k_tbl := in_tbl (in_t5 (List.mem_of_getElem? (i := 113) rfl)) rfl
set_option maxRecDepth 20000 in
theorem kw_915 : Jvm.Cond.selects RX9 yX9_wins yX9_wins ∈ k_tbl := in_tbl (in_t5 (List.mem_of_getElem? (i := 114) rfl)) rfl
set_option maxRecDepth 20000 in
theorem kw_916 : Jvm.Cond.methodLink R_law 91 yX8_value ∈ k_tbl := in_tbl (in_t3 (List.mem_of_getElem? (i := 201) rfl)) rfl
set_option maxRecDepth 20000 in
theorem kw_917 : Jvm.Cond.instanceMethod yX8_value ∈ k_tbl := in_tbl (in_t3 (List.mem_of_getElem? (i := 202) rfl)) rfl
set_option maxRecDepth 20000 in
theorem kw_918 : Jvm.Cond.selects RX8 yX8_value yX8_value ∈ k_tbl := in_tbl (in_t3 (List.mem_of_getElem? (i := 203) rfl)) rfl
set_option maxRecDepth 20000 in
theorem kw_919 : Jvm.Cond.methodLink R_law 94 yX9_value ∈ k_tbl := in_tbl (in_t5 (List.mem_of_getElem? (i := 116) rfl)) rfl
set_option maxRecDepth 20000 in
theorem kw_920 : Jvm.Cond.instanceMethod yX9_value ∈ k_tbl := in_tbl (in_t5 (List.mem_of_getElem? (i := 117) rfl)) rfl
set_option maxRecDepth 20000 in
theorem kw_921 : Jvm.Cond.selects RX9 yX9_value yX9_value ∈ k_tbl := in_tbl (in_t5 (List.mem_of_getElem? (i := 118) rfl)) rfl
set_option maxRecDepth 20000 in
theorem kw_922 : Jvm.Cond.methodLink R_law 95 yX8_ups ∈ k_tbl := in_tbl (in_t3 (List.mem_of_getElem? (i := 213) rfl)) rfl
set_option maxRecDepth 20000 in
theorem kw_923 : Jvm.Cond.instanceMethod yX8_ups ∈ k_tbl := in_tbl (in_t3 (List.mem_of_getElem? (i := 214) rfl)) rfl
set_option maxRecDepth 20000 in
theorem kw_924 : Jvm.Cond.selects RX8 yX8_ups yX8_ups ∈ k_tbl := in_tbl (in_t3 (List.mem_of_getElem? (i := 215) rfl)) rfl
set_option maxRecDepth 20000 in
theorem kw_925 : Jvm.Cond.methodLink R_law 98 yX9_ups ∈ k_tbl := in_tbl (in_t5 (List.mem_of_getElem? (i := 120) rfl)) rfl
set_option maxRecDepth 20000 in
theorem kw_926 : Jvm.Cond.instanceMethod yX9_ups ∈ k_tbl := in_tbl (in_t5 (List.mem_of_getElem? (i := 121) rfl)) rfl
set_option maxRecDepth 20000 in
theorem kw_927 : Jvm.Cond.selects RX9 yX9_ups yX9_ups ∈ k_tbl := in_tbl (in_t5 (List.mem_of_getElem? (i := 122) rfl)) rfl
set_option maxRecDepth 20000 in
theorem kw_928 : Jvm.Cond.methodLink R_law 99 yX8_stop ∈ k_tbl := in_tbl (in_t3 (List.mem_of_getElem? (i := 222) rfl)) rfl
set_option maxRecDepth 20000 in
theorem kw_929 : Jvm.Cond.instanceMethod yX8_stop ∈ k_tbl := in_tbl (in_t3 (List.mem_of_getElem? (i := 223) rfl)) rfl
set_option maxRecDepth 20000 in
theorem kw_930 : Jvm.Cond.selects RX8 yX8_stop yX8_stop ∈ k_tbl := in_tbl (in_t3 (List.mem_of_getElem? (i := 224) rfl)) rfl
set_option maxRecDepth 20000 in
theorem kw_931 : Jvm.Cond.methodLink R_law 102 yX9_stop ∈ k_tbl := in_tbl (in_t5 (List.mem_of_getElem? (i := 124) rfl)) rfl
set_option maxRecDepth 20000 in
theorem kw_932 : Jvm.Cond.instanceMethod yX9_stop ∈ k_tbl := in_tbl (in_t5 (List.mem_of_getElem? (i := 125) rfl)) rfl
set_option maxRecDepth 20000 in
theorem kw_933 : Jvm.Cond.selects RX9 yX9_stop yX9_stop ∈ k_tbl := in_tbl (in_t5 (List.mem_of_getElem? (i := 126) rfl)) rfl
set_option maxRecDepth 20000 in
theorem kw_934 : Jvm.Cond.methodLink R_law 103 yX8_beginner ∈ k_tbl := in_tbl (in_t3 (List.mem_of_getElem? (i := 226) rfl)) rfl
set_option maxRecDepth 20000 in
theorem kw_935 : Jvm.Cond.instanceMethod yX8_beginner ∈ k_tbl := in_tbl (in_t3 (List.mem_of_getElem? (i := 227) rfl)) rfl
set_option maxRecDepth 20000 in
theorem kw_936 : Jvm.Cond.selects RX8 yX8_beginner yX8_beginner ∈ k_tbl := in_tbl (in_t3 (List.mem_of_getElem? (i := 228) rfl)) rfl
set_option maxRecDepth 20000 in
theorem kw_937 : Jvm.Cond.methodLink R_law 106 yX9_beginner ∈ k_tbl := in_tbl (in_t5 (List.mem_of_getElem? (i := 128) rfl)) rfl
set_option maxRecDepth 20000 in
theorem kw_938 : Jvm.Cond.methodLink R_law 107 yX8_best ∈ k_tbl := in_tbl (in_t4 (List.mem_of_getElem? (i := 9) rfl)) rfl
set_option maxRecDepth 20000 in
theorem kw_939 : Jvm.Cond.instanceMethod yX8_best ∈ k_tbl := in_tbl (in_t4 (List.mem_of_getElem? (i := 10) rfl)) rfl
set_option maxRecDepth 20000 in
theorem kw_940 : Jvm.Cond.selects RX8 yX8_best yX8_best ∈ k_tbl := in_tbl (in_t4 (List.mem_of_getElem? (i := 11) rfl)) rfl
set_option maxRecDepth 20000 in
theorem kw_941 : Jvm.Cond.methodLink R_law 110 yX9_best ∈ k_tbl := in_tbl (in_t5 (List.mem_of_getElem? (i := 144) rfl)) rfl
set_option maxRecDepth 20000 in
theorem kw_942 : Jvm.Cond.instanceMethod yX9_best ∈ k_tbl := in_tbl (in_t5 (List.mem_of_getElem? (i := 145) rfl)) rfl
set_option maxRecDepth 20000 in
theorem kw_943 : Jvm.Cond.selects RX9 yX9_best yX9_best ∈ k_tbl := in_tbl (in_t5 (List.mem_of_getElem? (i := 146) rfl)) rfl
theorem K_ex {args : Array Value} {s : State} (hts : ∀ w ∈ k_tbl, w.before args s = true) : ∃ (cA : Nat → ClassId) (D : va_G), va_K D classes (k_tys cA) s := by
  obtain ⟨c0, i0, h0⟩ := u_known (C := RX0) (T := TX0) (N := 4) (n := 4) hts kin_0 (hts _ kw_334)
  obtain ⟨c1, i1, h1⟩ := u_known (C := RX1) (T := TX1) (N := 4) (n := 4) hts kin_1 (hts _ kw_295)
  obtain ⟨c2, i2, h2⟩ := u_known (C := RX2) (T := TX2) (N := 4) (n := 4) hts kin_2 (hts _ kw_313)
  obtain ⟨c3, i3, h3⟩ := u_known (C := RX3) (T := TX3) (N := 4) (n := 4) hts kin_3 (hts _ kw_301)
  obtain ⟨c4, i4, h4⟩ := u_known (C := RX4) (T := TX4) (N := 1) (n := 1) hts kin_4 (hts _ kw_325)
  obtain ⟨c5, i5, h5⟩ := u_known (C := RX5) (T := TX5) (N := 2) (n := 2) hts kin_5 (hts _ kw_35)
  obtain ⟨c6, i6, h6⟩ := u_known (C := RX6) (T := TX6) (N := 4) (n := 4) hts kin_6 (hts _ kw_319)
  obtain ⟨c7, i7, h7⟩ := u_known (C := RX7) (T := TX7) (N := 8) (n := 8) hts kin_7 (hts _ kw_307)
  obtain ⟨c8, i8, h8⟩ := u_known (C := RX8) (T := TX8) (N := 8) (n := 8) hts kin_8 (hts _ kw_800)
  obtain ⟨c9, i9, h9⟩ := u_known (C := RX9) (T := TX9) (N := 38) (n := 38) hts kin_9 (hts _ kw_801)
  obtain ⟨a0, k0, p0, f0, g0, e0⟩ := Cond.arrayClass_spec (hts _ kw_3)
  obtain ⟨a1, k1, p1, f1, g1, e1⟩ := Cond.arrayClass_spec (hts _ kw_42)
  obtain ⟨a2, k2, p2, f2, g2, e2⟩ := Cond.arrayClass_spec (hts _ kw_29)
  obtain ⟨p3, a3, k3, r3, -, g3, e3, f3⟩ := Cond.arrayOver_spec (hts _ kw_339)
  obtain ⟨p4, a4, k4, r4, -, g4, e4, f4⟩ := Cond.arrayOver_spec (hts _ kw_331)
  refine ⟨fun k => [a0, a1, a2, a3, a4].getD k a0, (fun k => [c0, c1, c2, c3, c4, c5, c6, c7, c8, c9].getD k c0, fun k => [i0, i1, i2, i3, i4, i5, i6, i7, i8, i9].getD k i0), ?_, ?_⟩
  · intro k q hq
    match k, hq with
    | 0, hq => cases hq; exact h0
    | 1, hq => cases hq; exact h1
    | 2, hq => cases hq; exact h2
    | 3, hq => cases hq; exact h3
    | 4, hq => cases hq; exact h4
    | 5, hq => cases hq; exact h5
    | 6, hq => cases hq; exact h6
    | 7, hq => cases hq; exact h7
    | 8, hq => cases hq; exact h8
    | 9, hq => cases hq; exact h9
    | k + 10, hq => cases hq
  · intro k q hq
    match k, hq with
    | 0, hq => cases hq; exact ⟨fun n z => ⟨fun k h => (by cases h), k0, g0, p0, e0⟩, f0⟩
    | 1, hq => cases hq; exact ⟨fun n z => ⟨fun k h => (by cases h), k1, g1, p1, e1⟩, f1⟩
    | 2, hq => cases hq; exact ⟨fun n z => ⟨fun k h => (by cases h), k2, g2, p2, e2⟩, f2⟩
    | 3, hq => cases hq; exact ⟨fun n z => ⟨fun k h => (by cases h), k3, g3, p3, e3⟩, ⟨k3, p3, g3, e3, r3, f3⟩⟩
    | 4, hq => cases hq; exact ⟨fun n z => ⟨fun k h => (by cases h), k4, g4, p4, e4⟩, ⟨k4, p4, g4, e4, r4, f4⟩⟩
    | k + 5, hq => cases hq
section
variable {M My : AM} {p : Program} {l : Launch} {e : Env} {R : Room} {s : State} {m : MethodId} {args : Array Value} {below : List Frame} {meth : Method} {c : Code} {gv : Nat → Int32} {cA : Nat → ClassId} {D : va_G} {A : Nat → Prop} {h h1 : AH} {ws : va_W} {H : Heap} {locs : List Loc} {cells slots : Nat} {ls : Array Slot} {rest : List Value} {Q : State → Prop} {pc : Nat} {y : MethodName} {pad : ALs} {idx : Nat}
/-- a constructor, in the law -/
theorem law_init {r a0 : Nat} (cf : CF My y [true] pad 0) (hret : My.2.2.2.1 = none) (hyi : y.name = "<init>") (hfr : My.2.2.2.2.2 + 1 ≤ M.2.2.2.2.2) (hl : Jvm.Cond.methodLink M.1 idx y ∈ k_tbl) (hin : Jvm.Cond.instanceMethod y ∈ k_tbl) (hd : decode M.2.1 pc = .ok (.invokespecial idx, 3)) (hcg : CG gv My 0 ([some (aR (r + 1))] ++ pad) [] h (.inl (none, h1)))
    (hC : CX M p R s m args meth c) (hW : WD gv cA D A s h ws H locs) (g1 : (adr ws)[r]? = some a0) (hsz : ls.size = M.2.2.1) (hrest : (rest.map fun v => v.category).sum ≤ 8) (hc1 : cells + (a_cnt h1 - a_cnt h) ≤ R.cells) (hc2 : slots + (a_slt h1 - a_slt h) ≤ R.slots)
    (kk : ∀ (ws' : va_W) (H1 : Heap) (locs1 : List Loc), WD gv cA D A s h1 ws' H1 locs1 → a_ext ws ws' → W p l e R s m args below meth c H1 locs1 (cells + (a_cnt h1 - a_cnt h)) (slots + (a_slt h1 - a_slt h)) Q (F0 m (pc + 3) ls rest)) : W p l e R s m args below meth c H locs cells slots Q (F0 m pc ls (.ref a0 :: rest)) := by
  obtain ⟨cf1, cf2, cf3, cf4, cf5, cf6, cf7, cf8, cf9, cf10⟩ := cf
  obtain ⟨hle, hok, hcl0⟩ := hcg
  have hle : a_le h h1 := hle
  have hok : rK My.2.2.2.1 none := hok
  have hvals : SR gv (adr ws) [aR (r + 1)] [.ref a0] := ⟨⟨a0, g1, rfl⟩, trivial⟩
  have hM := met_ofG (As := [aR (r + 1)]) hle hok hcl0 cf1 cf2 cf3 cf8 (by rw [show (a_lay [aR (r + 1)]).length = a_shw [true] from rfl]; exact cf9) l (D := D) (sz := H.size) hvals hW.2.2.2.2.2.1 hW.2.2.2.2.2.2
  have hb := hC.2.2.2.2.1
  have hfr2 : My.2.2.2.2.2 + 1 ≤ R.frames := Nat.le_trans hfr hC.2.2.2.2.2.2.2.2.1
  have hlo : 8 + (My.2.2.1 + 11) + 64 * My.2.2.2.2.2 ≤ R.locals := by
    have := hC.2.2.2.2.2.2.2.2.2
    omega
  have cf4' := cf4
  rw [hret] at cf4'
  have hrunA : va_Run p l e R s m args below meth c H locs cells slots (a_cnt h1 - a_cnt h) (a_slt h1 - a_slt h) (F0 m pc ls (.ref a0 :: rest)) rest (QA gv cA D ws H.size h1 none [Value.ref a0].toArray) (va_A ws H.size) := va_runI (As := []) (Ts := k_tbl) (nL := M.2.2.1) (own := M.1) (bytes := My.2.1) (maxL := My.2.2.1) (n := 0) ⟨hC.1, hC.2.1, hC.2.2.1, hC.2.2.2.1, hb⟩ hM ⟨⟨rfl, rfl, hfr2, hlo, (fun w hw a' U hU => by
      rcases List.mem_cons.mp hw with rfl | hw
      · exact all_warm hb _ cf4 a' U hU
      · exact all_warm hb w hw a' U hU), by rw [← hret]; exact List.mem_cons_self, hb _ cf4', hb _ cf5, cf6, hlen_of cf7, hb _ hl⟩, hyi, hb _ hin⟩ ⟨PA_blind cA D ws H.size _, (fun U hU hw => ⟨rfl, by rw [hU], by rw [hU]; exact hW.2.1, va_K.moved hw.alike hW.1, hW.2.2.1.weaken (fun _ _ _ _ => trivial)⟩)⟩ rfl rfl hsz rfl (by show 2 * 0 + _ ≤ 8; omega) hd ⟨hc1, hc2⟩
  refine call_go2 hW hrunA (fun ws' H1 locs1 x hW' hext hx _ => ?_)
  cases x with
  | nil => exact kk ws' H1 locs1 hW' hext
  | cons a b => exact (show False from hx).elim
end
set_option maxRecDepth 20000 in
set_option maxHeartbeats 2000000 in
theorem stage1 {p : Program} {e : Env} {s : State} {m : MethodId} {below : List Frame} {meth : Method} {c : Code} {l : Launch} {b L : Nat} {xs : Nat → Int32} (C0 : lw_At p s m meth c b L xs) (gv : Nat → Int32) {Q : State → Prop}
    (kk : ∀ (cA : Nat → ClassId) (D : va_G) (ws : va_W) (H : Heap) (locs : List Loc) (ls : Array Slot) (q1 q2 : Nat), WD gv cA D (fun q : Nat => s.heap.size ≤ q) s k_HJ ws H locs → (adr ws)[0]? = some q1 → (adr ws)[105]? = some q2 → lv_has ls 4 [(3, .int 0), (2, .ref q2), (1, .ref q1), (0, .ref b)] → W p l e room_1 s m #[Value.ref b] below meth c H locs 140 3200385 Q (F0 m 18 ls [])) : W p l e room_1 s m #[Value.ref b] below meth c s.heap [] 0 0 Q (entryFrame m ([Value.ref b] : List Value).toArray 4) := by
  have hC := CX_law C0
  obtain ⟨hx, hb, hr, hml, hown, hts, hX, hbl, hlocks, hgv⟩ := C0
  obtain ⟨cA, D, hK⟩ := K_ex hC.2.2.2.2.1
  have hW0 : WD gv cA D (fun q : Nat => s.heap.size ≤ q) s [] [] s.heap [] := ⟨hK, fun k q h => by simp at h, ⟨fun i j p q h => by simp at h, fun k q h => by simp at h⟩, va_S.rf, fun _ h => h, rfl, fun c x h => by cases h⟩
  have hl := lv_entry ([.ref b]) (n := 4) (Nat.le_of_ble_eq_true rfl)
  rw [lg_entry_eq]
  generalize (lg_sl ([.ref b]) ++ List.replicate (4 - (lg_sl ([.ref b])).length) Slot.unset).toArray = ls at hl ⊢
  have hl : lv_has ls 4 [(0, .ref b)] := hl
  refine law_new (ci := 8) (C := RX8) (T := TX8) (N := 8) (ty := tyX8) hC hW0 rfl dw_0 rfl kin_8 tyX8_ok kw_806 kw_800 kw_646 (by decide +kernel) (by decide) (by decide) (fun a ws1 H1 hW1 hE1 ha => ?_)
  refine lv_dup hx hb dw_3 rfl ?_
  refine law_init (r := 0) kcf_103 rfl rfl (Nat.le_of_ble_eq_true rfl) kw_802 kw_803 dw_4 (CG_run (sb_103_0 (run_sound 1000)) init_HX) hC hW1 ha hl.1 (Nat.le_of_ble_eq_true rfl) (by decide +kernel) (by decide +kernel) (fun ws2 H2 locs2 hW2 hE2 => ?_)
  refine W.widen (k := 105) (n := 50555) (by decide +kernel) (by decide +kernel) ?_
  refine lv_astore_n (lv' := [(1, .ref a), (0, .ref b)]) hx hb dw_7 rfl hl (by decide) rfl (fun ls hl => ?_)
  refine law_new (ci := 9) (C := RX9) (T := TX9) (N := 38) (ty := tyX9) hC hW2 (by decide +kernel) dw_8 rfl kin_9 tyX9_ok kw_807 kw_801 kw_737 (by decide +kernel) (by decide) (by decide) (fun a2 ws3 H3 hW3 hE3 ha2 => ?_)
  refine lv_dup hx hb dw_11 rfl ?_
  have ha2 : (adr ws3)[105]? = some a2 := by rw [← HX_c]; exact ha2
  refine law_init (r := 105) kcf_135 rfl rfl (Nat.le_of_ble_eq_true rfl) kw_804 kw_805 dw_12 (CG_run (sb_135_0 (run_sound 1000)) init_HJ) hC hW3 ha2 hl.1 (Nat.le_of_ble_eq_true rfl) (by decide +kernel) (by decide +kernel) (fun ws4 H4 locs4 hW4 hE4 => ?_)
  refine W.widen (k := 140) (n := 3200385) (by decide +kernel) (by decide +kernel) ?_
  refine lv_astore_n (lv' := [(2, .ref a2), (1, .ref a), (0, .ref b)]) hx hb dw_15 rfl hl (by decide) rfl (fun ls hl => ?_)
  refine lv_iconst (v := 0) hx hb dw_16 (by decide) ?_
  refine lv_istore_n (lv' := [(3, .int 0), (2, .ref a2), (1, .ref a), (0, .ref b)]) hx hb dw_17 rfl hl (by decide) rfl (fun ls hl => ?_)
  exact kk cA D ws4 H4 locs4 ls a a2 hW4 (ext_adr hE4 (ext_adr hE3 (ext_adr hE2 ha))) (ext_adr hE4 ha2) hl
theorem law_out {p : Program} {e : Env} {s : State} {m : MethodId} {below : List Frame} {meth : Method} {c : Code} {l : Launch} {b L : Nat} {xs : Nat → Int32} (C0 : lw_At p s m meth c b L xs) {H : Heap} {locs : List Loc} {ls : Array Slot} (hS : va_S (fun q : Nat => s.heap.size ≤ q) s.heap H locs) : W p l e room_1 s m #[Value.ref b] below meth c H locs 140 3200385 (lw_Z below #[Value.ref b] s) (F0 m 971 ls []) := by
  obtain ⟨hx, hb, hr, hml, hown, hts, hX, hbl, hlocks, hgv⟩ := C0
  refine lv_iconst (v := 1) hx hb dw_971 (by decide) ?_
  refine va_forget (fun q hq => hS.2.2 q hq) ?_
  refine W.widen (k := 60000) (n := 8922250) (by decide) (by decide) ?_
  exact lw_ret hx hb hr hlocks dw_972
theorem law_end {p : Program} {e : Env} {s : State} {m : MethodId} {below : List Frame} {meth : Method} {c : Code} {l : Launch} {b q1 q2 : Nat} {xs : Nat → Int32} (C0 : lw_At p s m meth c b 5 xs) {H : Heap} {locs : List Loc} {ls : Array Slot} (hS : va_S (fun q : Nat => s.heap.size ≤ q) s.heap H locs) (hl : lv_has ls 4 [(3, .int 0), (2, .ref q2), (1, .ref q1), (0, .ref b)]) : W p l e room_1 s m #[Value.ref b] below meth c H locs 140 3200385 (lw_Z below #[Value.ref b] s) (F0 m 965 ls []) := by
  obtain ⟨hx, hb, hr, hml, hown, hts, hX, hbl, hlocks, hgv⟩ := id C0
  have hbA : ¬ (fun q : Nat => s.heap.size ≤ q) b := Nat.not_le.mpr hbl
  refine lv_iinc (v := 5) (lv' := [(3, .int 5), (2, .ref q2), (1, .ref q1), (0, .ref b)]) hx hb dw_965 hl (k := 0) rfl (by decide) (by decide) rfl (fun ls hl => ?_)
  refine lv_goto (tgt := 18) hx hb dw_968 (by decide) ?_
  refine lv_iload_n hx hb dw_18 rfl (lv_at hl 0 rfl) ?_
  refine lv_aload_n hx hb dw_19 rfl (lv_at hl 3 rfl) ?_
  refine va_slen hx hb hX hbl hbA hS dw_20 ?_
  refine lv_iconst (v := 5) hx hb dw_21 (by decide) ?_
  refine lv_isub hx hb dw_22 ?_
  refine lv_icmp_gt (tgt := 971) hx hb dw_23 (by decide) (fun _ => ?_) (fun h => absurd (by decide) h)
  exact law_out C0 hS
theorem law_short {p : Program} {e : Env} {s : State} {m : MethodId} {below : List Frame} {meth : Method} {c : Code} {l : Launch} {b L q1 q2 : Nat} {xs : Nat → Int32} (hL : L < 5) (C0 : lw_At p s m meth c b L xs) {H : Heap} {locs : List Loc} {ls : Array Slot} (hS : va_S (fun q : Nat => s.heap.size ≤ q) s.heap H locs) (hl : lv_has ls 4 [(3, .int 0), (2, .ref q2), (1, .ref q1), (0, .ref b)]) : W p l e room_1 s m #[Value.ref b] below meth c H locs 140 3200385 (lw_Z below #[Value.ref b] s) (F0 m 18 ls []) := by
  obtain ⟨hx, hb, hr, hml, hown, hts, hX, hbl, hlocks, hgv⟩ := id C0
  have hbA : ¬ (fun q : Nat => s.heap.size ≤ q) b := Nat.not_le.mpr hbl
  refine lv_iload_n hx hb dw_18 rfl (lv_at hl 0 rfl) ?_
  refine lv_aload_n hx hb dw_19 rfl (lv_at hl 3 rfl) ?_
  refine va_slen hx hb hX hbl hbA hS dw_20 ?_
  refine lv_iconst (v := 5) hx hb dw_21 (by decide) ?_
  refine lv_isub hx hb dw_22 ?_
  refine lv_icmp_gt (tgt := 971) hx hb dw_23 (by decide) (fun _ => law_out C0 hS) (fun h => absurd ?_ h)
  match L, hL with
  | 0, _ => decide
  | 1, _ => decide
  | 2, _ => decide
  | 3, _ => decide
  | 4, _ => decide
  | n + 5, h => exact absurd h (by omega)
/-- from the loop's head to the switch -/
theorem law_sw {p : Program} {e : Env} {s : State} {m : MethodId} {below : List Frame} {meth : Method} {c : Code} {l : Launch} {b q1 q2 : Nat} {xs : Nat → Int32} (C0 : lw_At p s m meth c b 5 xs) {H : Heap} {locs : List Loc} {ls : Array Slot} (hS : va_S (fun q : Nat => s.heap.size ≤ q) s.heap H locs) (hl : lv_has ls 4 [(3, .int 0), (2, .ref q2), (1, .ref q1), (0, .ref b)]) (w : W p l e room_1 s m #[Value.ref b] below meth c H locs 140 3200385 (lw_Z below #[Value.ref b] s) (F0 m 32 ls [.int (xs 0 &&& 31)])) : W p l e room_1 s m #[Value.ref b] below meth c H locs 140 3200385 (lw_Z below #[Value.ref b] s) (F0 m 18 ls []) := by
  obtain ⟨hx, hb, hr, hml, hown, hts, hX, hbl, hlocks, hgv⟩ := id C0
  have hbA : ¬ (fun q : Nat => s.heap.size ≤ q) b := Nat.not_le.mpr hbl
  refine lv_iload_n hx hb dw_18 rfl (lv_at hl 0 rfl) ?_
  refine lv_aload_n hx hb dw_19 rfl (lv_at hl 3 rfl) ?_
  refine va_slen hx hb hX hbl hbA hS dw_20 ?_
  refine lv_iconst (v := 5) hx hb dw_21 (by decide) ?_
  refine lv_isub hx hb dw_22 ?_
  refine lv_icmp_gt (tgt := 971) hx hb dw_23 (by decide) (fun h => absurd h (by decide)) (fun _ => ?_)
  refine lv_aload_n hx hb dw_26 rfl (lv_at hl 3 rfl) ?_
  refine lv_iload_n hx hb dw_27 rfl (lv_at hl 0 rfl) ?_
  have e0 : (0 : Int32).toNatClampNeg = 0 := by decide
  refine va_sld hx hb hX hbl hbA hS (i := 0) (fun q => by rcases q with q | q <;> revert q <;> decide) dw_28 ?_
  rw [e0]
  refine lv_bipush (v := 31) hx hb dw_29 (by decide) ?_
  refine lv_iand hx hb dw_31 ?_
  exact w
section
variable {p : Program} {l : Launch} {e : Env} {R : Room} {s : State} {m : MethodId} {args : Array Value} {below : List Frame} {meth : Method} {c : Code} {H : Heap} {locs : List Loc} {cells slots : Nat} {ls : Array Slot} {st : List Value} {Q : State → Prop} {pc : Nat}
/-- whether an int is not 0 -/
theorem law_nz {x z : Int32} {o1 o2 : Int} (hx : p.tables.exec = Jvm.exec) (hb : c.code = code) (hz : z = if x = 0 then 0 else 1) {t0 : Nat} (d1 : decode code pc = .ok (.ifCond .eq o1, 3)) (e1 : (pc : Int) + o1 = (t0 : Int)) (d2 : decode code (pc + 3) = .ok (.iconst 1, 1)) (d3 : decode code (pc + 3 + 1) = .ok (.goto o2, 3)) (e2 : ((pc + 3 + 1 : Nat) : Int) + o2 = ((t0 + 1 : Nat) : Int)) (d4 : decode code t0 = .ok (.iconst 0, 1)) (w : W p l e R s m args below meth c H locs cells slots Q (F0 m (t0 + 1) ls (.int z :: st))) : W p l e R s m args below meth c H locs cells slots Q (F0 m pc ls (.int x :: st)) := by
  refine lv_if_eq (tgt := t0) hx hb d1 e1 (fun h => ?_) (fun h => ?_)
  · refine lv_iconst (v := 0) hx hb d4 (by decide) ?_
    rw [hz, if_pos h] at w
    exact w
  · refine lv_iconst (v := 1) hx hb d2 (by decide) ?_
    refine lv_goto (tgt := t0 + 1) hx hb d3 e2 ?_
    rw [hz, if_neg h] at w
    exact w
end
