/-! ===== instructions, sixth part: new objects and arrays, stores of references, switches ===== -/
def a_wf : AH → Bool
  | [] => true
  | [l] => Nat.ble l.length 8
  | l :: r => Nat.beq l.length 8 && a_wf r
noncomputable def a_push (x : AC) : AH → AH
  | [] => [[x]]
  | [l] => a_if (Nat.ble 8 l.length) [l, [x]] [l ++ [x]]
  | l :: m :: r => l :: a_push x (m :: r)
theorem hlook_cons (l : List AC) (r : AH) (c : Nat) : hlook (l :: r) c = if c < 8 then l[c]? else hlook r (c - 8) := by
  unfold hlook
  by_cases hc : c < 8
  · rw [if_pos hc, show c / 8 = 0 by omega, show c % 8 = c by omega]
    rfl
  · rw [if_neg hc, show c / 8 = (c - 8) / 8 + 1 by omega, show c % 8 = (c - 8) % 8 by omega]
    rfl
theorem hlook_nil (c : Nat) : hlook [] c = none := by
  unfold hlook
  simp
theorem hlook_push (x : AC) : ∀ (h : AH), a_wf h = true → ∀ c, hlook (a_push x h) c = if c = a_cnt h then some x else hlook h c
  | [], _, c => by
    show hlook [[x]] c = _
    rw [hlook_cons, hlook_nil, hlook_nil]
    show _ = if c = 0 then some x else none
    by_cases hc : c = 0
    · subst hc; rfl
    · rw [if_neg hc]
      split
      · match c, hc with
        | c + 1, _ => rfl
      · rfl
  | [l], hw, c => by
    have hw := ble_iff.mp hw
    have hcnt : a_cnt [l] = l.length := by simp [a_cnt]
    rw [hcnt]
    show hlook (a_if (Nat.ble 8 l.length) [l, [x]] [l ++ [x]]) c = _
    by_cases h8 : 8 ≤ l.length
    · rw [ble_iff.mpr h8]
      have h8 : l.length = 8 := by omega
      show hlook [l, [x]] c = _
      rw [hlook_cons, hlook_cons, hlook_cons, hlook_nil, hlook_nil, h8]
      by_cases hc : c < 8
      · rw [if_pos hc, if_pos hc, if_neg (by omega)]
      · rw [if_neg hc, if_neg hc]
        by_cases hc8 : c = 8
        · subst hc8; rfl
        · rw [if_neg hc8]
          split
          · rw [List.getElem?_eq_none (by simp; omega)]
          · rfl
    · rw [ble_no h8]
      show hlook [l ++ [x]] c = _
      rw [hlook_cons, hlook_cons, hlook_nil]
      by_cases hc : c < 8
      · rw [if_pos hc, if_pos hc]
        by_cases hl : c = l.length
        · subst hl; simp
        · rw [if_neg hl]
          by_cases hlt : c < l.length
          · rw [List.getElem?_append_left hlt]
          · rw [List.getElem?_eq_none (by simp; omega), List.getElem?_eq_none (by omega)]
      · rw [if_neg hc, if_neg hc, if_neg (by omega)]
  | l :: m :: r, hw, c => by
    have hw : (Nat.beq l.length 8 && a_wf (m :: r)) = true := hw
    simp only [Bool.and_eq_true] at hw
    have hl := beq_iff.mp hw.1
    have ih := hlook_push x (m :: r) hw.2
    have hcnt : a_cnt (l :: m :: r) = 8 + a_cnt (m :: r) := by simp [a_cnt, hl]
    show hlook (l :: a_push x (m :: r)) c = _
    rw [hlook_cons, hlook_cons, hcnt]
    by_cases hc : c < 8
    · rw [if_pos hc, if_pos hc, if_neg (by omega)]
    · rw [if_neg hc, if_neg hc, ih]
      by_cases hq : c = 8 + a_cnt (m :: r)
      · rw [if_pos hq, if_pos (by omega)]
      · rw [if_neg hq, if_neg (by omega)]
theorem push_cnt (x : AC) : ∀ (h : AH), a_cnt (a_push x h) = a_cnt h + 1 ∧ a_slt (a_push x h) = a_slt h + a_csz x
  | [] => by simp [a_push, a_cnt, a_slt]
  | [l] => by
    show a_cnt (a_if (Nat.ble 8 l.length) [l, [x]] [l ++ [x]]) = _ ∧ a_slt (a_if (Nat.ble 8 l.length) [l, [x]] [l ++ [x]]) = _
    cases Nat.ble 8 l.length <;> simp [a_cnt, a_slt, a_if_t, a_if_f]
  | l :: m :: r => by
    have ih := push_cnt x (m :: r)
    show a_cnt (l :: a_push x (m :: r)) = _ ∧ a_slt (l :: a_push x (m :: r)) = _
    simp only [a_cnt, a_slt, List.map_cons, List.sum_cons] at ih ⊢
    omega
noncomputable def o_new (ci : Nat) (k : AK) : AK := fun L S h => a_if (a_wf h) (k L (aR (Nat.succ (a_cnt h)) :: S) (a_push (Sum.inr (Sum.inl (ci, 0))) h)) none
noncomputable def o_newa (kind : Nat) (k : AK) : AK := fun L S h => a_popI S fun n S => a_if (a_wf h) (a_if (Nat.ble n 67108864) (k L (aR (Nat.succ (a_cnt h)) :: S) (a_push (Sum.inl (kind, n, 0)) h)) none) none
noncomputable def o_aast (kind ci : Nat) (k : AK) : AK := fun L S h => a_popC S fun v S => a_popI S fun i S => a_popC S fun c S => a_arr h c kind fun n N => a_if (Nat.ble (Nat.succ i) n) (a_if (Nat.ble v 4294967294) (a_obj h v ci fun _ => k L S (a_hset h c (Sum.inl (kind, n, a_put N 32 i (Nat.succ v))))) none) none
def a_dfl (ci : Nat) : List Value := (k_ft.getD ci []).map (fun b => if b then Value.null else Value.int 0)
section
variable {M : AM} {pc pc' : Nat} {k t : AK}
/-- an instruction that makes a cell -/
theorem so_make {o : AK} (hk : Sound M pc' k)
    (hs : ∀ (L : ALs) (S : ASt) (h : AH) (r : ARes), o L S h = some r → ∃ (S' : ASt) (x : AC), a_wf h = true ∧ k L (aR (a_cnt h + 1) :: S') (a_push x h) = some r ∧
      ∀ (p : Program) (l : Launch) (e : Env) (R : Room) (s : State) (m : MethodId) (args : Array Value) (below : List Frame) (meth : Method) (c : Code) (gv : Nat → Int32) (cA : Nat → ClassId) (D : va_G) (A : Nat → Prop) (ws : va_W) (H : Heap) (locs : List Loc) (cells slots : Nat) (ls : Array Slot) (st : List Value) (Q : State → Prop),
        CX M p R s m args meth c → WD gv cA D A s h ws H locs → SR gv (adr ws) S st → cells + 1 ≤ R.cells → slots + a_csz x ≤ R.slots → (∀ (a : Nat) (e1 : va_E) (H1 : Heap) (st' : List Value), cR gv cA (adr (ws ++ [(a, e1)])) x e1 → va_P D classes (ws ++ [(a, e1)]) H1 → va_D A (ws ++ [(a, e1)]) → va_S A s.heap H1 locs → SR gv (adr ws) S' st' → W p l e R s m args below meth c H1 locs (cells + 1) (slots + a_csz x) Q (F0 m pc' ls (.ref a :: st'))) → W p l e R s m args below meth c H locs cells slots Q (F0 m pc ls st)) : Sound M pc o := by
  intro L S h r hr
  obtain ⟨S', x, hwf, e1, e2⟩ := hs L S h r hr
  obtain ⟨⟨h1, h1b⟩, h2⟩ := hk _ _ _ _ e1
  obtain ⟨g1, g2⟩ := push_cnt x h
  have h1a := h1.1
  have h1c := h1.2
  rw [g1] at h1a
  rw [g2] at h1c
  refine ⟨⟨⟨by omega, by omega⟩, h1b⟩, ?_⟩
  intro p l e R s m args below meth c gv cA D A ws H locs cells slots n0 z0 ls st Q hC hW hc hz hrc hrz hL hS hF
  refine e2 p l e R s m args below meth c gv cA D A ws H locs cells slots ls st Q hC hW hS (by omega) (by omega) ?_
  intro a e1 H1 st' q1 q2 q3 q4 q5
  have hE : a_ext ws (ws ++ [(a, e1)]) := fun i b f hb => ⟨f, by rw [List.getElem?_append_left (List.getElem?_eq_some_iff.mp hb).1]; exact hb⟩
  have hnew : (ws ++ [(a, e1)])[a_cnt h]? = some (a, e1) := by
    rw [← hW.2.2.2.2.2.1]
    simp
  have hcRx : ∀ {y : AC} {f : va_E}, cR gv cA (adr ws) y f → cR gv cA (adr (ws ++ [(a, e1)])) y f := by
    intro y f hy
    match y, hy with
    | .inl (kind, n, N), ⟨z0, z⟩ =>
      refine ⟨z0, ?_⟩
      rcases z with z | z | z | ⟨z1, g, z2, z3⟩
      · exact Or.inl z
      · exact Or.inr (Or.inl z)
      · exact Or.inr (Or.inr (Or.inl z))
      · refine Or.inr (Or.inr (Or.inr ⟨z1, g, z2, fun i hi => ?_⟩))
        have := z3 i hi
        cases hdg : a_dig N 32 i with
        | zero => rw [hdg] at this; exact this
        | succ q => rw [hdg] at this; obtain ⟨y, w1, w2⟩ := this; exact ⟨y, ext_adr hE w1, w2⟩
    | .inr (.inl (ci, N)), ⟨fs, z1, z2, z3⟩ => exact ⟨fs, z1, z2, fun k b hb => by obtain ⟨v, w1, w2⟩ := z3 k b hb; exact ⟨v, w1, vR_ext hE w2⟩⟩
    | .inr (.inr (kind, n, o)), ⟨z0, z⟩ =>
      refine ⟨z0, ?_⟩
      rcases z with z | ⟨z1, cs, g, z2, z3, z4⟩
      · exact Or.inl z
      · exact Or.inr ⟨z1, cs, g, z2, z3, fun q c hq => by obtain ⟨y, w1, w2⟩ := z4 q c hq; exact ⟨y, ext_adr hE w1, w2⟩⟩
  have hWD : WD gv cA D A s (a_push x h) (ws ++ [(a, e1)]) H1 locs := by
    refine ⟨hW.1, q2, q3, q4, hW.2.2.2.2.1, by rw [List.length_append, g1, hW.2.2.2.2.2.1]; rfl, fun c' y hy => ?_⟩
    rw [hlook_push x h hwf] at hy
    by_cases hcc : c' = a_cnt h
    · rw [if_pos hcc] at hy
      cases hy
      subst hcc
      exact ⟨a, e1, hnew, q1⟩
    · rw [if_neg hcc] at hy
      obtain ⟨b, f, w1, w2⟩ := hW.2.2.2.2.2.2 c' y hy
      obtain ⟨f', w3⟩ := hE c' b f w1
      have : f' = f := by
        rw [List.getElem?_append_left (List.getElem?_eq_some_iff.mp w1).1, w1] at w3
        cases w3
        rfl
      subst this
      exact ⟨b, f', w3, hcRx w2⟩
  exact h2 p l e R s m args below meth c gv cA D A _ H1 locs _ _ n0 z0 ls _ Q hC hWD (by omega) (by omega) hrc hrz (LR_ext hE hL) ⟨⟨a, adr_get hnew, rfl⟩, SR_ext hE q5⟩ (Fin_ext hE hF)
theorem dig_zero (w i : Nat) : a_dig 0 w i = 0 := by
  show (0 >>> (w * i)) % 2 ^ w = 0
  simp
theorem dfl_get {ci j : Nat} {b : Bool} (h : a_ft ci j = some b) : (a_dfl ci)[j]? = some (if b then Value.null else Value.int 0) := by
  unfold a_ft at h
  obtain ⟨l, hl, h⟩ := Option.bind_eq_some_iff.mp h
  unfold a_dfl
  rw [List.getElem?_map, List.getD_eq_getElem?_getD, hl]
  show (l[j]?).map _ = _
  rw [h]
  rfl
theorem so_new {ci idx : Nat} {C : String} {T : u_T} {N : Nat} {ty : Nat → FieldType} (hd : decode M.2.1 pc = .ok (.new idx, 3)) (hc : classes[ci]? = some (C, T, N)) (hin : ∀ w ∈ u_ws C T N, w ∈ k_tbl) (hty : ∀ k, k < N → parseFieldDescriptor (T k).2.2.1 = some (ty k)) (hl : Jvm.Cond.classLink M.1 idx C ∈ k_tbl) (hins : Jvm.Cond.instantiable C N ∈ k_tbl) (hini : Jvm.Cond.initialized C ∈ k_tbl) (hN : (k_ft.getD ci []).length = N) (hfs : ∀ j, j < N → defaultValue (ty j) = vp_V (a_dfl ci) j) (hk : Sound M (pc + 3) k) : Sound M pc (o_new ci k) := by
  refine so_make hk fun L S h r hr => ?_
  obtain ⟨hwf, hr1⟩ := cond_some hr
  refine ⟨S, _, hwf, hr1, ?_⟩
  intro p l e R s m args below meth c gv cA D A ws H locs cells slots ls st Q hC hW hS hcl hsl kk
  obtain ⟨hK, hP, hD, hS0, hA, hlen, hR⟩ := hW
  have hb := hC.2.2.2.2.1
  have hcs : a_csz (.inr (.inl (ci, 0))) = N := hN
  rw [hcs] at hsl kk
  refine va_new (ci := ci) (fs := a_dfl ci) (C := C) (T := T) (N := N) hC.1 hC.2.1 hb hin ty hty hC.2.2.2.1 (hb _ hl) (hb _ hins) (hb _ hini) hK hP hD hS0 hA hc hfs hcl hsl hd (fun q H1 q1 q2 q3 => ?_)
  refine kk q _ H1 st ⟨_, rfl, by unfold a_dfl; rw [List.length_map], fun j b hj => ⟨_, dfl_get hj, ?_⟩⟩ q1 q2 q3 hS
  rw [dig_zero]
  cases b
  · exact ⟨by decide, rfl⟩
  · rfl
theorem cA_eq {D : va_G} {cA : Nat → ClassId} {s : State} {x : ClassId} {ty : FieldType} (h : va_K D classes (k_tys cA ++ [(x, ty)]) s) {j : Nat} {z : ClassId} (hj : (k_tys cA)[j]? = some (z, ty)) : x = z := by
  have h1 := (h.2 5 (x, ty) rfl).2
  have h2 := (h.2 j (z, ty) (by rw [List.getElem?_append_left (List.getElem?_eq_some_iff.mp hj).1]; exact hj)).2
  cases ty with
  | object C =>
    obtain ⟨_, _, _, _, _, g1⟩ := h1
    obtain ⟨_, _, _, _, _, g2⟩ := h2
    exact Option.some.inj (g1.symm.trans g2)
  | _ => exact Option.some.inj (Eq.symm (show _ = some x from h1) |>.trans (show _ = some z from h2))
theorem neg_no {n : Nat} (hn : n ≤ 67108864) : ¬ a_i32 n < 0 ∧ (a_i32 n).toNatClampNeg = n := by
  obtain ⟨h1, h2⟩ := in_ok (i := n) (n := n + 1) (by omega) (by omega)
  exact ⟨fun q => h1 (Or.inl q), h2⟩
theorem so_newaI (hd : decode M.2.1 pc = .ok (.newarray .int, 2)) (hw : Jvm.Cond.arrayClass .int ∈ k_tbl) (hk : Sound M (pc + 2) k) : Sound M pc (o_newa 0 k) := by
  refine so_make hk fun L S h r hr => ?_
  obtain ⟨n, S1, rfl, hr1⟩ := a_popI_some hr
  obtain ⟨hwf, hr2⟩ := cond_some hr1
  obtain ⟨hn, hr3⟩ := cond_some hr2
  refine ⟨S1, _, hwf, hr3, ?_⟩
  intro p l e R s m args below meth c gv cA D A ws H locs cells slots ls st Q hC hW hS hcl hsl kk
  obtain ⟨v, st', rfl, ⟨hn0, rfl⟩, hS1⟩ := SR_cons hS
  obtain ⟨hK, hP, hD, hS0, hA, hlen, hR⟩ := hW
  obtain ⟨g1, g2⟩ := neg_no (ble_iff.mp hn)
  have hn := ble_iff.mp hn
  refine va_newa (a0 := (n, .inl (fun _ => 0))) (ty := .int) hC.1 hC.2.1 (atype := .int) (hC.2.2.2.2.1 _ hw) rfl hK hP hD hS0 hA (fun _ => rfl) g1 g2 (by show n * 4 ≤ _; omega) hcl hsl hd (fun q cX H1 q0 q1 q2 q3 => ?_)
  cases cA_eq (j := 0) q0 rfl
  exact kk q _ H1 st' ⟨by omega, Or.inl ⟨rfl, _, rfl, fun i _ => by rw [dig_zero]; rfl⟩⟩ q1 q2 q3 hS1
theorem so_newaZ (hd : decode M.2.1 pc = .ok (.newarray .boolean, 2)) (hw : Jvm.Cond.arrayClass .boolean ∈ k_tbl) (hk : Sound M (pc + 2) k) : Sound M pc (o_newa 1 k) := by
  refine so_make hk fun L S h r hr => ?_
  obtain ⟨n, S1, rfl, hr1⟩ := a_popI_some hr
  obtain ⟨hwf, hr2⟩ := cond_some hr1
  obtain ⟨hn, hr3⟩ := cond_some hr2
  refine ⟨S1, _, hwf, hr3, ?_⟩
  intro p l e R s m args below meth c gv cA D A ws H locs cells slots ls st Q hC hW hS hcl hsl kk
  obtain ⟨v, st', rfl, ⟨hn0, rfl⟩, hS1⟩ := SR_cons hS
  obtain ⟨hK, hP, hD, hS0, hA, hlen, hR⟩ := hW
  obtain ⟨g1, g2⟩ := neg_no (ble_iff.mp hn)
  have hn := ble_iff.mp hn
  refine va_newa (a0 := (n, .inl (fun _ => 0))) (ty := .boolean) hC.1 hC.2.1 (atype := .boolean) (hC.2.2.2.2.1 _ hw) rfl hK hP hD hS0 hA (fun _ => rfl) g1 g2 (by show n * 1 ≤ _; omega) hcl hsl hd (fun q cX H1 q0 q1 q2 q3 => ?_)
  cases cA_eq (j := 1) q0 rfl
  exact kk q _ H1 st' ⟨by omega, Or.inr (Or.inl ⟨rfl, _, rfl, fun i _ => by rw [dig_zero]; rfl⟩)⟩ q1 q2 q3 hS1
theorem so_newaL (hd : decode M.2.1 pc = .ok (.newarray .long, 2)) (hw : Jvm.Cond.arrayClass .long ∈ k_tbl) (hk : Sound M (pc + 2) k) : Sound M pc (o_newa 2 k) := by
  refine so_make hk fun L S h r hr => ?_
  obtain ⟨n, S1, rfl, hr1⟩ := a_popI_some hr
  obtain ⟨hwf, hr2⟩ := cond_some hr1
  obtain ⟨hn, hr3⟩ := cond_some hr2
  refine ⟨S1, _, hwf, hr3, ?_⟩
  intro p l e R s m args below meth c gv cA D A ws H locs cells slots ls st Q hC hW hS hcl hsl kk
  obtain ⟨v, st', rfl, ⟨hn0, rfl⟩, hS1⟩ := SR_cons hS
  obtain ⟨hK, hP, hD, hS0, hA, hlen, hR⟩ := hW
  obtain ⟨g1, g2⟩ := neg_no (ble_iff.mp hn)
  have hn := ble_iff.mp hn
  refine va_newa (a0 := (n, .inr (.inl (fun _ => 0)))) (ty := .long) hC.1 hC.2.1 (atype := .long) (hC.2.2.2.2.1 _ hw) rfl hK hP hD hS0 hA (fun _ => rfl) g1 g2 (by show n * 8 ≤ _; omega) hcl hsl hd (fun q cX H1 q0 q1 q2 q3 => ?_)
  cases cA_eq (j := 2) q0 rfl
  exact kk q _ H1 st' ⟨by omega, Or.inr (Or.inr (Or.inl ⟨rfl, _, rfl, fun i _ => by rw [dig_zero]; rfl⟩))⟩ q1 q2 q3 hS1
theorem so_anew {kind idx : Nat} {C : String} (h34 : kind = 3 ∨ kind = 4) (hC0 : ∀ cA, (k_tys cA)[kind]? = some (cA kind, .object C)) (hd : decode M.2.1 pc = .ok (.anewarray idx, 3)) (hl : Jvm.Cond.classLink M.1 idx C ∈ k_tbl) (hov : Jvm.Cond.arrayOver (.object C) ∈ k_tbl) (hk : Sound M (pc + 3) k) : Sound M pc (o_newa kind k) := by
  refine so_make hk fun L S h r hr => ?_
  obtain ⟨n, S1, rfl, hr1⟩ := a_popI_some hr
  obtain ⟨hwf, hr2⟩ := cond_some hr1
  obtain ⟨hn, hr3⟩ := cond_some hr2
  refine ⟨S1, _, hwf, hr3, ?_⟩
  intro p l e R s m args below meth c gv cA D A ws H locs cells slots ls st Q hC hW hS hcl hsl kk
  obtain ⟨v, st', rfl, ⟨hn0, rfl⟩, hS1⟩ := SR_cons hS
  obtain ⟨hK, hP, hD, hS0, hA, hlen, hR⟩ := hW
  obtain ⟨g1, g2⟩ := neg_no (ble_iff.mp hn)
  have hn := ble_iff.mp hn
  have hb := hC.2.2.2.2.1
  refine va_newq hC.1 hC.2.1 hC.2.2.2.1 (hb _ hl) (va_AO.of (hb _ hov)) hK hP hD hS0 hA g1 g2 (by omega) hcl hsl hd (fun q cX H1 q0 q1 q2 q3 => ?_)
  cases cA_eq (j := kind) q0 (hC0 cA)
  exact kk q _ H1 st' ⟨by omega, Or.inr (Or.inr (Or.inr ⟨h34, _, rfl, fun i _ => by rw [dig_zero]; rfl⟩))⟩ q1 q2 q3 hS1
theorem so_aast {kind ci : Nat} {r0 : vw_C} (h34 : kind = 3 ∨ kind = 4) (hC0 : ∀ cA, (k_tys cA)[kind]? = some (cA kind, .object r0.1)) (hcl : classes[ci]? = some r0) (hd : decode M.2.1 pc = .ok (.aastore, 1)) (hk : Sound M (pc + 1) k) : Sound M pc (o_aast kind ci k) := by
  refine so_write hk fun L S h r hr => ?_
  obtain ⟨vc, S0, rfl, hr0⟩ := a_popC_some hr
  obtain ⟨i, S1, rfl, hr1⟩ := a_popI_some hr0
  obtain ⟨cn, S2, rfl, hr2⟩ := a_popC_some hr1
  obtain ⟨n, N, hN, hr3⟩ := a_arr_some hr2
  obtain ⟨hi, hr4⟩ := cond_some hr3
  obtain ⟨hvlt, hr5⟩ := cond_some hr4
  obtain ⟨N2, hN2, hr6⟩ := a_obj_some hr5
  refine ⟨S2, cn, _, Sum.inl (kind, n, a_put N 32 i (vc + 1)), hN, rfl, hr6, ?_⟩
  intro p l e R s m args below meth c gv cA D A ws H locs cells slots ls st Q hC hW hS kk
  obtain ⟨v0, st0, rfl, ⟨y, hy, rfl⟩, hS00⟩ := SR_cons hS
  obtain ⟨v, st', rfl, ⟨hn, rfl⟩, hS1⟩ := SR_cons hS00
  obtain ⟨v2, st'', rfl, ⟨x, hx, rfl⟩, hS2⟩ := SR_cons hS1
  obtain ⟨hK, hP, hD, hS0, hA, hlen, hR⟩ := hW
  obtain ⟨a, e0, g1, g2, g3⟩ := hR cn _ hN
  have hxa : x = a := adr_uniq g1 hx
  subst hxa
  obtain ⟨b, e1, w1, fs, rfl, -, -⟩ := hR vc _ hN2
  have hyb : y = b := adr_uniq w1 hy
  subst hyb
  have hvlt := ble_iff.mp hvlt
  rcases g3 with ⟨q, -⟩ | ⟨q, -⟩ | ⟨q, -⟩ | ⟨-, f, rfl, g4⟩
  · omega
  · omega
  · omega
  · obtain ⟨o1, o2⟩ := in_ok (ble_iff.mp hi) g2
    refine va_astq hC.1 hC.2.1 hK hP hD hS0 cn kind vc ci g1 (hC0 cA) w1 hcl o1 hd (fun H1 locs1 q1 q2 q3 => ?_)
    refine kk x _ _ H1 locs1 st'' g1 ⟨g2, Or.inr (Or.inr (Or.inr ⟨h34, _, rfl, fun j hj => ?_⟩))⟩ q1 q2 q3 hS2
    rw [o2, dig_put N 32 i (vc + 1) j (by show vc + 1 < 4294967296; omega)]
    by_cases hji : j = i
    · rw [if_pos hji]
      subst hji
      rw [va_up_self]
      exact ⟨y, hy, rfl⟩
    · rw [if_neg hji, va_up_ne f _ hji]
      exact g4 j hj
/-- a switch over numbers from 0 on -/
theorem so_tsw {ts : List AK} {df : AK} {dflt : Int} {offs : Array Int} {len tdf : Nat} {tg : List Nat} (hd : decode M.2.1 pc = .ok (.tableswitch dflt 0 ((ts.length : Int) - 1) offs, len)) (hdf : (pc : Int) + dflt = (tdf : Int)) (hlen : offs.size = ts.length) (htl : tg.length = ts.length) (hts : ts.length ≤ 2147483648) (htg : ∀ (i : Nat) (o : Int) (q : Nat), offs[i]? = some o → tg[i]? = some q → (pc : Int) + o = (q : Int)) (hk : ∀ (i : Nat) (q : Nat) (x : AK), tg[i]? = some q → ts[i]? = some x → Sound M q x) (hkd : Sound M tdf df) : Sound M pc (o_tsw 0 ts df) := by
  intro L S h r hr
  obtain ⟨v, S1, rfl, hr1⟩ := a_popI_some hr
  have hr1 : a_if (Nat.ble (Nat.succ (Nat.sub v 0)) ts.length) (a_nth (fun k : AK => k L S1 h) ts (Nat.sub v 0)) (df L S1 h) = some r := hr1
  by_cases hv : v < ts.length
  · rw [show Nat.ble (Nat.succ (Nat.sub v 0)) ts.length = true from ble_iff.mpr hv] at hr1
    have hr1 : a_nth (fun k : AK => k L S1 h) ts v = some r := hr1
    rw [a_nth_eq] at hr1
    obtain ⟨x, hx, hr2⟩ := Option.bind_eq_some_iff.mp hr1
    obtain ⟨q, hq⟩ : ∃ q, tg[v]? = some q := ⟨tg[v]'(by omega), List.getElem?_eq_getElem (by omega)⟩
    obtain ⟨o, ho⟩ : ∃ o, offs[v]? = some o := ⟨offs[v]'(by omega), Array.getElem?_eq_getElem (by omega)⟩
    obtain ⟨h1, h2⟩ := hk v q x hq hx L S1 h r hr2
    refine ⟨h1, ?_⟩
    intro p l e R s m args below meth c gv cA D A ws H locs cells slots n0 z0 ls st Q hC hW hc hz hrc hrz hL hS hF
    obtain ⟨w, st', rfl, ⟨hn, rfl⟩, hS1⟩ := SR_cons hS
    have hti : (a_i32 v).toInt = (v : Int) := by rw [t32 hn, if_pos (by omega)]
    exact lv_tableIn hC.1 hC.2.1 hd (by rw [hti]; omega) (by rw [hti]; omega) (off := o) (by rw [hti, Int.sub_zero, Int.toNat_natCast]; exact ho) (htg v o q ho hq) (h2 p l e R s m args below meth c gv cA D A ws H locs cells slots n0 z0 ls st' Q hC hW hc hz hrc hrz hL hS1 hF)
  · rw [show Nat.ble (Nat.succ (Nat.sub v 0)) ts.length = false from ble_no (fun q => hv q)] at hr1
    obtain ⟨h1, h2⟩ := hkd L S1 h r hr1
    refine ⟨h1, ?_⟩
    intro p l e R s m args below meth c gv cA D A ws H locs cells slots n0 z0 ls st Q hC hW hc hz hrc hrz hL hS hF
    obtain ⟨w, st', rfl, ⟨hn, rfl⟩, hS1⟩ := SR_cons hS
    refine lv_tableOut hC.1 hC.2.1 hd ?_ hdf (h2 p l e R s m args below meth c gv cA D A ws H locs cells slots n0 z0 ls st' Q hC hW hc hz hrc hrz hL hS1 hF)
    rw [t32 hn]
    split
    · right; omega
    · left; omega
end
