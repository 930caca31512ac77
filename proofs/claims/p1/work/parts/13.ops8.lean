/-! ===== blocks with their locals and stack taken apart: the same answers, sooner ===== -/
noncomputable def a_let {α : Type} (e : α) (k : α → AO) : AO := k e
noncomputable def a_nz (n : Nat) (k : Nat → AO) : AO := @Nat.rec (fun _ => AO) none (fun c _ => k c) n
noncomputable def g_I (o : Option AV) (k : Nat → AO) : AO := @Option.rec AV (fun _ => AO) none (fun v => @Sum.rec _ _ (fun _ => AO) k (fun _ => none) v) o
noncomputable def g_C (o : Option AV) (k : Nat → AO) : AO := @Option.rec AV (fun _ => AO) none (fun v => a_isC v k) o
noncomputable def g_L (o : Option AV) (k : Nat → AO) : AO := @Option.rec AV (fun _ => AO) none (fun v => a_isL v k) o
noncomputable def g_N (o : Option AV) (x : AO) : AO := @Option.rec AV (fun _ => AO) x (fun _ => none) o
noncomputable def w_I (L : ALs) (k : Nat → ALs → AO) : AO := @List.rec (Option AV) (fun _ => AO) none (fun o L' _ => g_I o fun n => k n L') L
noncomputable def w_C (L : ALs) (k : Nat → ALs → AO) : AO := @List.rec (Option AV) (fun _ => AO) none (fun o L' _ => g_C o fun n => k n L') L
noncomputable def w_L (L : ALs) (k : Nat → ALs → AO) : AO := @List.rec (Option AV) (fun _ => AO) none (fun o L' _ => g_L o fun n => k n L') L
noncomputable def w_N (L : ALs) (k : ALs → AO) : AO := @List.rec (Option AV) (fun _ => AO) none (fun o L' _ => g_N o (k L')) L
noncomputable def w_X (L : ALs) (k : Option AV → ALs → AO) : AO := @List.rec (Option AV) (fun _ => AO) none (fun o L' _ => k o L') L
noncomputable def w_0 (L : ALs) (x : AO) : AO := @List.rec (Option AV) (fun _ => AO) x (fun _ _ _ => none) L
/-- what a call came to -/
noncomputable def b_I (k : Nat → AH → AO) (r : AO) : AO := @Option.rec ARes (fun _ => AO) none (fun x => @Sum.rec _ _ (fun _ => AO) (fun q => @Prod.rec _ _ (fun _ => AO) (fun w h1 => g_I w fun n => k n h1) q) (fun _ => none) x) r
noncomputable def b_C (k : Nat → AH → AO) (r : AO) : AO := @Option.rec ARes (fun _ => AO) none (fun x => @Sum.rec _ _ (fun _ => AO) (fun q => @Prod.rec _ _ (fun _ => AO) (fun w h1 => g_C w fun n => k n h1) q) (fun _ => none) x) r
noncomputable def b_L (k : Nat → AH → AO) (r : AO) : AO := @Option.rec ARes (fun _ => AO) none (fun x => @Sum.rec _ _ (fun _ => AO) (fun q => @Prod.rec _ _ (fun _ => AO) (fun w h1 => g_L w fun n => k n h1) q) (fun _ => none) x) r
noncomputable def b_N (k : AH → AO) (r : AO) : AO := @Option.rec ARes (fun _ => AO) none (fun x => @Sum.rec _ _ (fun _ => AO) (fun q => @Prod.rec _ _ (fun _ => AO) (fun w h1 => g_N w (k h1)) q) (fun _ => none) x) r
abbrev ABK : Type := (Option AV → AH → AO) → AO → AO
noncomputable def bk_I : ABK := fun K r => b_I (fun n h1 => K (some (aI n)) h1) r
noncomputable def bk_C : ABK := fun K r => b_C (fun n h1 => K (some (aR (Nat.succ n))) h1) r
noncomputable def bk_L : ABK := fun K r => b_L (fun n h1 => K (some (aL n)) h1) r
noncomputable def bk_N : ABK := fun K r => b_N (fun h1 => K none h1) r
noncomputable def a_psh (v : Option AV) (S : ASt) : ASt := @Option.rec AV (fun _ => ASt) S (fun v => v :: S) v
noncomputable def o_callE (bk : ABK) (sh : List Bool) (pad : ALs) (t k : AK) : AK := fun L S h => a_args sh S pad fun S args => a_sh4 S (bk (fun v h1 => k L (a_psh v S) h1) (t args [] h))
noncomputable def o_callvE (bk : ABK) (ci : Nat) (sh : List Bool) (pad : ALs) (t k : AK) : AK := fun L S h => a_args sh S pad fun S args => a_hd args fun c => a_obj h c ci fun _ => a_sh4 S (bk (fun v h1 => k L (a_psh v S) h1) (t args [] h))
theorem so_weak {M : AM} {pc : Nat} {k k' : AK} (hk : Sound M pc k) (hi : ∀ (L : ALs) (S : ASt) (h : AH) (r : ARes), k' L S h = some r → k L S h = some r) : Sound M pc k' := fun L S h r hr => hk L S h r (hi L S h r hr)
theorem g_I_some {o : Option AV} {k : Nat → AO} {r : ARes} (h : g_I o k = some r) : ∃ n, o = some (aI n) ∧ k n = some r := by
  match o, h with
  | some (.inl n), h => exact ⟨n, rfl, h⟩
theorem g_C_some {o : Option AV} {k : Nat → AO} {r : ARes} (h : g_C o k = some r) : ∃ n, o = some (aR (Nat.succ n)) ∧ k n = some r := by
  match o, h with
  | some v, h => obtain ⟨n, rfl, h1⟩ := a_isC_some h; exact ⟨n, rfl, h1⟩
theorem g_L_some {o : Option AV} {k : Nat → AO} {r : ARes} (h : g_L o k = some r) : ∃ n, o = some (aL n) ∧ k n = some r := by
  match o, h with
  | some v, h => obtain ⟨n, rfl, h1⟩ := a_isL_some h; exact ⟨n, rfl, h1⟩
theorem g_N_some {o : Option AV} {x : AO} {r : ARes} (h : g_N o x = some r) : o = none ∧ x = some r := by
  match o, h with
  | none, h => exact ⟨rfl, h⟩
theorem w_I_some {L : ALs} {k : Nat → ALs → AO} {r : ARes} (h : w_I L k = some r) : ∃ n L', L = some (aI n) :: L' ∧ k n L' = some r := by
  match L, h with
  | o :: L', h => obtain ⟨n, rfl, h1⟩ := g_I_some h; exact ⟨n, L', rfl, h1⟩
theorem w_C_some {L : ALs} {k : Nat → ALs → AO} {r : ARes} (h : w_C L k = some r) : ∃ n L', L = some (aR (Nat.succ n)) :: L' ∧ k n L' = some r := by
  match L, h with
  | o :: L', h => obtain ⟨n, rfl, h1⟩ := g_C_some h; exact ⟨n, L', rfl, h1⟩
theorem w_L_some {L : ALs} {k : Nat → ALs → AO} {r : ARes} (h : w_L L k = some r) : ∃ n L', L = some (aL n) :: L' ∧ k n L' = some r := by
  match L, h with
  | o :: L', h => obtain ⟨n, rfl, h1⟩ := g_L_some h; exact ⟨n, L', rfl, h1⟩
theorem w_N_some {L : ALs} {k : ALs → AO} {r : ARes} (h : w_N L k = some r) : ∃ L', L = none :: L' ∧ k L' = some r := by
  match L, h with
  | o :: L', h => obtain ⟨rfl, h1⟩ := g_N_some h; exact ⟨L', rfl, h1⟩
theorem w_X_some {L : ALs} {k : Option AV → ALs → AO} {r : ARes} (h : w_X L k = some r) : ∃ o L', L = o :: L' ∧ k o L' = some r := by
  match L, h with
  | o :: L', h => exact ⟨o, L', rfl, h⟩
theorem w_0_some {L : ALs} {x : AO} {r : ARes} (h : w_0 L x = some r) : L = [] ∧ x = some r := by
  match L, h with
  | [], h => exact ⟨rfl, h⟩
def BK (bk : ABK) : Prop := ∀ (K : Option AV → AH → AO) (r : AO) (z : ARes), bk K r = some z → ∃ v h1, r = some (.inl (v, h1)) ∧ K v h1 = some z
theorem BK_I : BK bk_I := by
  intro K r z h
  match r, h with
  | some (.inl (w, h1)), h => obtain ⟨n, rfl, h2⟩ := g_I_some h; exact ⟨_, h1, rfl, h2⟩
theorem BK_C : BK bk_C := by
  intro K r z h
  match r, h with
  | some (.inl (w, h1)), h => obtain ⟨n, rfl, h2⟩ := g_C_some h; exact ⟨_, h1, rfl, h2⟩
theorem BK_L : BK bk_L := by
  intro K r z h
  match r, h with
  | some (.inl (w, h1)), h => obtain ⟨n, rfl, h2⟩ := g_L_some h; exact ⟨_, h1, rfl, h2⟩
theorem BK_N : BK bk_N := by
  intro K r z h
  match r, h with
  | some (.inl (w, h1)), h => obtain ⟨rfl, h2⟩ := g_N_some h; exact ⟨_, h1, rfl, h2⟩
theorem a_args_imp {r : ARes} {K K' : ASt → ALs → AO} (hi : ∀ S a, K S a = some r → K' S a = some r) : ∀ (sh : List Bool) (S : ASt) (acc : ALs), a_args sh S acc K = some r → a_args sh S acc K' = some r
  | [], S, acc, h => hi S acc h
  | b :: sh, S, acc, h => by
    match S, h with
    | v :: S, h =>
      have h : a_if b (a_if (a_cat1 v) (a_args sh S (some v :: acc) K) none) (a_if (a_cat1 v) none (a_args sh S (some v :: none :: acc) K)) = some r := h
      show a_if b (a_if (a_cat1 v) (a_args sh S (some v :: acc) K') none) (a_if (a_cat1 v) none (a_args sh S (some v :: none :: acc) K')) = some r
      cases b <;> cases hv : a_cat1 v <;> rw [hv] at h
      · exact a_args_imp hi sh S _ h
      · cases h
      · cases h
      · exact a_args_imp hi sh S _ h
theorem a_sh4_imp {S : ASt} {x y : AO} {r : ARes} (hi : x = some r → y = some r) (h : a_sh4 S x = some r) : a_sh4 S y = some r := by
  match S, h with
  | [], h => exact hi h
  | [_], h => exact hi h
  | [_, _], h => exact hi h
  | [_, _, _], h => exact hi h
  | [_, _, _, _], h => exact hi h
  | [v1, v2, v3, v4, v5], h =>
    obtain ⟨h1, h⟩ := cond_some h
    obtain ⟨h2, h⟩ := cond_some h
    obtain ⟨h3, h⟩ := cond_some h
    obtain ⟨h4, h⟩ := cond_some h
    obtain ⟨h5, h⟩ := cond_some h
    show a_if (a_cat1 v1) (a_if (a_cat1 v2) (a_if (a_cat1 v3) (a_if (a_cat1 v4) (a_if (a_cat1 v5) y none) none) none) none) none = some r
    rw [h1, h2, h3, h4, h5]
    exact hi h
theorem bk_back {bk : ABK} (hb : BK bk) {k : AK} {L : ALs} {S : ASt} {x : AO} {r : ARes} (h : bk (fun v h1 => k L (a_psh v S) h1) x = some r) : a_back k L S x = some r := by
  obtain ⟨v, h1, rfl, h2⟩ := hb _ _ _ h
  cases v with
  | none => exact h2
  | some v => exact h2
theorem callE_imp {bk : ABK} (hb : BK bk) {sh : List Bool} {pad : ALs} {t k : AK} (L : ALs) (S : ASt) (h : AH) (r : ARes) (hr : o_callE bk sh pad t k L S h = some r) : o_call sh pad t k L S h = some r :=
  a_args_imp (fun S a q => a_sh4_imp (fun z => bk_back hb z) q) sh S pad hr
theorem callvE_imp {bk : ABK} (hb : BK bk) {ci : Nat} {sh : List Bool} {pad : ALs} {t k : AK} (L : ALs) (S : ASt) (h : AH) (r : ARes) (hr : o_callvE bk ci sh pad t k L S h = some r) : o_callv ci sh pad t k L S h = some r := by
  refine a_args_imp (fun S a q => ?_) sh S pad hr
  match a, q with
  | some v :: a, q =>
    obtain ⟨c, rfl, q1⟩ := a_isC_some (v := v) q
    show (a_obj h c ci fun _ => a_sh4 S (a_back k L S (t _ [] h))) = some r
    unfold a_obj at q1 ⊢
    match hx : a_ob h c ci, q1 with
    | some N, q1 => exact a_sh4_imp (fun z => bk_back hb z) q1
