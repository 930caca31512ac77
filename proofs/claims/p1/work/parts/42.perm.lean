/-! ===== renumbering: the same cells in another order, SPOTS by ghosts ===== -/
def a_d0 : Nat × va_E := (0, .inr (0, []))
def a_pm (σ : List Nat) (ws : va_W) : va_W := σ.map (fun i => ws.getD i a_d0)
theorem pm_get {σ : List Nat} {ws : va_W} (hσ : ∀ i ∈ σ, i < ws.length) {k i : Nat} (hk : σ[k]? = some i) : (a_pm σ ws)[k]? = ws[i]? := by
  unfold a_pm
  rw [List.getElem?_map, hk]
  have hi := hσ i (List.mem_of_getElem? hk)
  show some (ws.getD i a_d0) = _
  rw [List.getD_eq_getElem?_getD, List.getElem?_eq_getElem hi]
  rfl
theorem pm_of {σ : List Nat} {ws : va_W} (hσ : ∀ i ∈ σ, i < ws.length) {k : Nat} {q : Nat × va_E} (h : (a_pm σ ws)[k]? = some q) : ∃ i, σ[k]? = some i ∧ ws[i]? = some q := by
  have hlt : k < σ.length := by
    have := (List.getElem?_eq_some_iff.mp h).1
    unfold a_pm at this
    rw [List.length_map] at this
    exact this
  refine ⟨σ[k], List.getElem?_eq_getElem hlt, ?_⟩
  rw [← pm_get hσ (List.getElem?_eq_getElem hlt)]
  exact h
theorem pm_P {D : va_G} {cl : List vw_C} {σ : List Nat} {ws : va_W} {H : Heap} (hσ : ∀ i ∈ σ, i < ws.length) (h : va_P D cl ws H) : va_P D cl (a_pm σ ws) H := by
  intro k q hq
  obtain ⟨i, -, h2⟩ := pm_of hσ hq
  exact h i q h2
theorem pm_D {A : Nat → Prop} {σ : List Nat} {ws : va_W} (hσ : ∀ i ∈ σ, i < ws.length) (hn : ∀ (i j x : Nat), σ[i]? = some x → σ[j]? = some x → i = j) (h : va_D A ws) : va_D A (a_pm σ ws) := by
  refine ⟨fun i j p q hp hq hpq => ?_, fun k q hq => ?_⟩
  · obtain ⟨i', g1, g2⟩ := pm_of hσ hp
    obtain ⟨j', g3, g4⟩ := pm_of hσ hq
    have := h.1 i' j' p q g2 g4 hpq
    subst this
    exact hn i j i' g1 g3
  · obtain ⟨i, -, g2⟩ := pm_of hσ hq
    exact h.2 i q g2
theorem pm_adr {σ : List Nat} {ws : va_W} (hσ : ∀ i ∈ σ, i < ws.length) {k i x : Nat} (hk : σ[k]? = some i) (hx : (adr ws)[i]? = some x) : (adr (a_pm σ ws))[k]? = some x := by
  unfold adr at hx ⊢
  rw [List.getElem?_map] at hx ⊢
  rw [pm_get hσ hk]
  exact hx
def q_nth (σ : List Nat) (k i : Nat) : Bool := match σ[k]? with
  | some j => Nat.beq j i
  | none => false
theorem q_nth_eq {σ : List Nat} {k i : Nat} (h : q_nth σ k i = true) : σ[k]? = some i := by
  unfold q_nth at h
  split at h
  next j hj => rw [hj, beq_iff.mp h]
  next => cases h
/-- a reference, r in the old order, r' in the new -/
def q_pr (σ : List Nat) (r r' : Nat) : Bool := match r, r' with
  | 0, 0 => true
  | r + 1, r' + 1 => q_nth σ r' r
  | _, _ => false
def q_all (f : Nat → Bool) : Nat → Bool
  | 0 => true
  | n + 1 => f n && q_all f n
theorem q_all_at {f : Nat → Bool} : ∀ {n : Nat}, q_all f n = true → ∀ i, i < n → f i = true
  | 0, _, i, hi => absurd hi (by omega)
  | n + 1, h, i, hi => by
    have h : (f n && q_all f n) = true := h
    simp only [Bool.and_eq_true] at h
    by_cases e : i = n
    · rw [e]; exact h.1
    · exact q_all_at h.2 i (by omega)
/-- a cell, x in the old order, x' in the new -/
noncomputable def q_pc (σ : List Nat) : AC → AC → Bool
  | .inl (kd, n, N), .inl (kd', n', N') => Nat.beq kd kd' && (Nat.beq n n' && a_if (Nat.ble kd 2) (Nat.beq N N') (q_all (fun i => q_pr σ (a_dig N 32 i) (a_dig N' 32 i)) n))
  | .inr (.inl (ci, N)), .inr (.inl (ci', N')) => Nat.beq ci ci' && q_all (fun k => a_if (a_ft ci k == some true) (q_pr σ (a_dig N 64 k) (a_dig N' 64 k)) (Nat.beq (a_dig N 64 k) (a_dig N' 64 k))) (k_ft.getD ci []).length
  | _, _ => false
theorem ft_lt {ci k : Nat} {b : Bool} (h : a_ft ci k = some b) : k < (k_ft.getD ci []).length := by
  unfold a_ft at h
  obtain ⟨l, hl, h⟩ := Option.bind_eq_some_iff.mp h
  rw [List.getD_eq_getElem?_getD, hl]
  exact (List.getElem?_eq_some_iff.mp h).1
theorem q_pr_rR {σ : List Nat} {ws : va_W} (hσ : ∀ i ∈ σ, i < ws.length) {r r' : Nat} (h : q_pr σ r r' = true) {f : Option Nat} (hf : rR (adr ws) r f) : rR (adr (a_pm σ ws)) r' f := by
  match r, r', h, hf with
  | 0, 0, _, hf => exact hf
  | r + 1, r' + 1, h, ⟨x, h1, h2⟩ => exact ⟨x, pm_adr hσ (q_nth_eq h) h1, h2⟩
theorem q_pr_vR {gv : Nat → Int32} {σ : List Nat} {ws : va_W} (hσ : ∀ i ∈ σ, i < ws.length) {r r' : Nat} (h : q_pr σ r r' = true) {v : Value} (hv : vR gv (adr ws) (aR r) v) : vR gv (adr (a_pm σ ws)) (aR r') v := by
  match r, r', h, hv with
  | 0, 0, _, hv => exact hv
  | r + 1, r' + 1, h, ⟨x, h1, h2⟩ => exact ⟨x, pm_adr hσ (q_nth_eq h) h1, h2⟩
theorem q_pc_ok {gv : Nat → Int32} {cA : Nat → ClassId} {σ : List Nat} {ws : va_W} (hσ : ∀ i ∈ σ, i < ws.length) {x x' : AC} (h : q_pc σ x x' = true) {e : va_E} (he : cR gv cA (adr ws) x e) : cR gv cA (adr (a_pm σ ws)) x' e := by
  match x, x', h, he with
  | .inl (kd, n, N), .inl (kd', n', N'), h, ⟨h1, h2⟩ =>
    have h : (Nat.beq kd kd' && (Nat.beq n n' && a_if (Nat.ble kd 2) (Nat.beq N N') (q_all (fun i => q_pr σ (a_dig N 32 i) (a_dig N' 32 i)) n))) = true := h
    simp only [Bool.and_eq_true] at h
    obtain ⟨q1, q2, q3⟩ := h
    have q1 := beq_iff.mp q1
    have q2 := beq_iff.mp q2
    subst q1
    subst q2
    refine ⟨h1, ?_⟩
    by_cases hk : kd ≤ 2
    · rw [ble_iff.mpr hk] at q3
      have q3 : N = N' := beq_iff.mp q3
      subst q3
      rcases h2 with h2 | h2 | h2 | ⟨h2, -⟩
      · exact Or.inl h2
      · exact Or.inr (Or.inl h2)
      · exact Or.inr (Or.inr (Or.inl h2))
      · omega
    · rw [ble_no hk] at q3
      rcases h2 with ⟨h2, -⟩ | ⟨h2, -⟩ | ⟨h2, -⟩ | ⟨h2, f, h3, h4⟩
      · omega
      · omega
      · omega
      · exact Or.inr (Or.inr (Or.inr ⟨h2, f, h3, fun i hi => q_pr_rR hσ (q_all_at q3 i hi) (h4 i hi)⟩))
  | .inr (.inl (ci, N)), .inr (.inl (ci', N')), h, ⟨fs, h1, h2, h3⟩ =>
    have h : (Nat.beq ci ci' && q_all (fun k => a_if (a_ft ci k == some true) (q_pr σ (a_dig N 64 k) (a_dig N' 64 k)) (Nat.beq (a_dig N 64 k) (a_dig N' 64 k))) (k_ft.getD ci []).length) = true := h
    simp only [Bool.and_eq_true] at h
    obtain ⟨q1, q2⟩ := h
    have q1 := beq_iff.mp q1
    subst q1
    refine ⟨fs, h1, h2, fun k b hb => ?_⟩
    obtain ⟨v, g1, g2⟩ := h3 k b hb
    have g3 := q_all_at q2 k (ft_lt hb)
    refine ⟨v, g1, ?_⟩
    cases b
    · rw [hb] at g3
      have g3 : Nat.beq (a_dig N 64 k) (a_dig N' 64 k) = true := g3
      rw [← beq_iff.mp g3]
      exact g2
    · rw [hb] at g3
      exact q_pr_vR hσ g3 g2
/-- a heap h in the old order, h' in the new; at the cell sp of the new one an array of references that knows the ghosts' places alone: their numbers ss, the cells cs -/
def q_gh (σ : List Nat) (N : Nat) : List Nat → List Nat → Bool
  | [], [] => true
  | s :: ss, c :: cs => (match a_dig N 32 s with
      | 0 => false
      | r + 1 => q_nth σ c r) && q_gh σ N ss cs
  | _, _ => false
def q_or (σ : List Nat) (ss cs : List Nat) : AC → AC → Bool
  | .inl (kd, m, N), .inr (.inr (kd', m', some cs')) => Nat.beq kd 4 && (Nat.beq kd' 4 && (Nat.beq m m' && (q_l Nat.beq cs cs' && (q_gh σ N ss cs && ss.all (fun s => Nat.ble (Nat.succ s) m)))))
  | _, _ => false
noncomputable def q_pm (σ : List Nat) (h h' : AH) (sp n : Nat) (ss cs : List Nat) : Bool :=
  q_all (fun k => match σ[k]? with
    | none => false
    | some i => match hlook h i, hlook h' k with
      | some x, some x' => a_if (Nat.beq k sp) (q_or σ ss cs x x') (q_pc σ x x')
      | _, _ => false) n
theorem q_gh_ok {σ : List Nat} {N : Nat} : ∀ {ss cs : List Nat}, q_gh σ N ss cs = true → ∀ (q c : Nat), cs[q]? = some c → ∃ s r : Nat, ss[q]? = some s ∧ a_dig N 32 s = r + 1 ∧ σ[c]? = some r
  | [], [], _, q, c, hc => by simp at hc
  | s :: ss, c0 :: cs, h, q, c, hc => by
    have h : ((match a_dig N 32 s with
      | 0 => false
      | r + 1 => q_nth σ c0 r) && q_gh σ N ss cs) = true := h
    simp only [Bool.and_eq_true] at h
    cases q with
    | zero =>
      cases hc
      have h1 := h.1
      cases hd : a_dig N 32 s with
      | zero => rw [hd] at h1; cases h1
      | succ r => rw [hd] at h1; exact ⟨s, r, rfl, hd, q_nth_eq h1⟩
    | succ q => exact q_gh_ok h.2 q c hc
theorem q_or_ok {gv : Nat → Int32} {cA : Nat → ClassId} {σ : List Nat} {ss cs : List Nat} {ws : va_W} (hσ : ∀ i ∈ σ, i < ws.length) (hgv : ∀ (q s : Nat), ss[q]? = some s → gv q = a_i32 s) : ∀ {x x' : AC}, q_or σ ss cs x x' = true → ∀ {e : va_E}, cR gv cA (adr ws) x e → cR gv cA (adr (a_pm σ ws)) x' e
  | .inl (kd, m, N), .inr (.inr (kd', m', some cs')), hk, e, g2 => by
    have hk : (Nat.beq kd 4 && (Nat.beq kd' 4 && (Nat.beq m m' && (q_l Nat.beq cs cs' && (q_gh σ N ss cs && ss.all (fun s => Nat.ble (Nat.succ s) m)))))) = true := hk
    simp only [Bool.and_eq_true] at hk
    obtain ⟨p1, p2, q1, q2, q3, q4⟩ := hk
    have p1 := beq_iff.mp p1
    have p2 := beq_iff.mp p2
    have q1 := beq_iff.mp q1
    have q2 : cs = cs' := q_l_eq beq_iff.mp q2
    subst p1
    subst p2
    subst q1
    subst q2
    obtain ⟨z1, z2⟩ := g2
    rcases z2 with ⟨w, -⟩ | ⟨w, -⟩ | ⟨w, -⟩ | ⟨w, f, w2, w3⟩
    · cases w
    · cases w
    · cases w
    · refine ⟨z1, Or.inr ⟨w, cs, f, rfl, w2, fun q c hc => ?_⟩⟩
      obtain ⟨s, r, y1, y2, y3⟩ := q_gh_ok q3 q c hc
      have hsm : s < m := ble_iff.mp (List.all_eq_true.mp q4 s (List.mem_of_getElem? y1))
      have y4 := w3 s hsm
      rw [y2] at y4
      obtain ⟨x, y5, y6⟩ := y4
      rw [hgv q s y1, show (a_i32 s).toNatClampNeg = s from (in_ok hsm z1).2]
      exact ⟨x, pm_adr hσ y3 y5, y6⟩
theorem q_pm_ok {gv : Nat → Int32} {cA : Nat → ClassId} {σ : List Nat} {h h' : AH} {sp n : Nat} {ss cs : List Nat} (hq : q_pm σ h h' sp n ss cs = true) (hh : ∀ c x, hlook h' c = some x → c < n) {ws : va_W} (hσ : ∀ i ∈ σ, i < ws.length) (hgv : ∀ (q s : Nat), ss[q]? = some s → gv q = a_i32 s) (hR : ∀ c x, hlook h c = some x → ∃ a e, ws[c]? = some (a, e) ∧ cR gv cA (adr ws) x e) :
    ∀ c x, hlook h' c = some x → ∃ a e, (a_pm σ ws)[c]? = some (a, e) ∧ cR gv cA (adr (a_pm σ ws)) x e := by
  intro k x' hx'
  have hk := q_all_at hq k (hh k x' hx')
  cases hs : σ[k]? with
  | none => rw [hs] at hk; cases hk
  | some i =>
    rw [hs, hx'] at hk
    dsimp only at hk
    cases hx : hlook h i with
    | none => rw [hx] at hk; cases hk
    | some x =>
      rw [hx] at hk
      obtain ⟨a, e, g1, g2⟩ := hR i x hx
      refine ⟨a, e, by rw [pm_get hσ hs]; exact g1, ?_⟩
      have hk : a_if (Nat.beq k sp) (q_or σ ss cs x x') (q_pc σ x x') = true := hk
      cases hb : Nat.beq k sp
      · rw [hb] at hk
        exact q_pc_ok hσ hk g2
      · rw [hb] at hk
        exact q_or_ok hσ hgv hk g2
