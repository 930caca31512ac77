/-! ===== instructions over ints of which only bounds are known: indices of SPOTS ===== -/
/-- an index: known, or within bounds -/
noncomputable def a_ix (v : AV) (n : Nat) (k : Nat → AO) (u : Nat → Nat → Nat → AO) : AO := a_isI v (fun i => a_if (Nat.ble (Nat.succ i) n) (k i) none) (fun g lo hi => a_if (Nat.ble 2147483648 lo) (a_if (Nat.ble (Nat.succ hi) (Nat.add 2147483648 n)) (u g (Nat.sub lo 2147483648) (Nat.sub hi 2147483648)) none) none)
noncomputable def a_uni (N lo d : Nat) (c : Nat) : Bool := a_if (Nat.beq N 0) (Nat.beq d 0) (@Nat.rec (fun _ => Bool) (Nat.beq (a_dig N 32 lo) d) (fun c ih => a_if (Nat.beq (a_dig N 32 (Nat.add lo (Nat.succ c))) d) ih false) c)
noncomputable def o_ialdU (k : AK) : AK := fun L S h => a_popV S fun v S => a_popC S fun c S => a_arr h c 0 fun n N => a_ix v n (fun i => k L (aI (a_dig N 32 i) :: S) h) (fun _ lo hi => a_if (a_uni N lo (a_dig N 32 lo) (Nat.sub hi lo)) (k L (aI (a_dig N 32 lo) :: S) h) none)
/-- an int array's new cell: a known value at a known place is kept, all else is forgotten -/
noncomputable def a_stI (x : AC) (v w : AV) (K : AC → AO) : AO := @Sum.rec _ _ (fun _ => AO)
  (fun q => a_if (Nat.beq q.1 0) (a_isI w (fun m => a_ix v q.2.1 (fun i => K (Sum.inl (0, q.2.1, a_put q.2.2 32 i m))) (fun _ _ _ => K (Sum.inr (Sum.inr (0, q.2.1, none))))) (fun _ _ _ => a_ix v q.2.1 (fun _ => K (Sum.inr (Sum.inr (0, q.2.1, none)))) (fun _ _ _ => K (Sum.inr (Sum.inr (0, q.2.1, none)))))) none)
  (fun y => @Sum.rec _ _ (fun _ => AO) (fun _ => none) (fun q => a_if (Nat.beq q.1 0) (a_isI w (fun _ => a_ix v q.2.1 (fun _ => K (Sum.inr (Sum.inr (0, q.2.1, none)))) (fun _ _ _ => K (Sum.inr (Sum.inr (0, q.2.1, none))))) (fun _ _ _ => a_ix v q.2.1 (fun _ => K (Sum.inr (Sum.inr (0, q.2.1, none)))) (fun _ _ _ => K (Sum.inr (Sum.inr (0, q.2.1, none)))))) none) y) x
noncomputable def o_iastU (k : AK) : AK := fun L S h => a_popV S fun w S => a_popV S fun v S => a_popC S fun c S => a_hget h c fun x => a_stI x v w fun x' => k L S (a_hset h c x')
/-- two ints, at least one known: f where both are, else the bounds by g -/
noncomputable def a_two (v w : AV) (f : Nat → Nat → AO) (g : Nat → Nat → Nat → AO) : AO := a_isI v (fun x => a_isI w (fun y => f x y) (fun _ lo hi => a_if (Nat.ble 2147483648 lo) (g x (Nat.sub lo 2147483648) (Nat.sub hi 2147483648)) none)) (fun _ lo hi => a_isI w (fun y => a_if (Nat.ble 2147483648 lo) (g y (Nat.sub lo 2147483648) (Nat.sub hi 2147483648)) none) (fun _ _ _ => none))
noncomputable def o_mulU (k : AK) : AK := fun L S h => a_popV S fun w S => a_popV S fun v S => a_two v w (fun x y => k L (aI (f_mul x y) :: S) h) (fun e lo hi => a_if (Nat.ble e 2147483647) (a_if (Nat.ble (Nat.mul e hi) 2147483647) (k L (aU 0 (Nat.add 2147483648 (Nat.mul e lo)) (Nat.add 2147483648 (Nat.mul e hi)) :: S) h) none) none)
noncomputable def o_addU (k : AK) : AK := fun L S h => a_popV S fun w S => a_popV S fun v S => a_two v w (fun x y => k L (aI (f_add x y) :: S) h) (fun e lo hi => a_if (Nat.ble e 2147483647) (a_if (Nat.ble (Nat.add e hi) 2147483647) (k L (aU 0 (Nat.add 2147483648 (Nat.add e lo)) (Nat.add 2147483648 (Nat.add e hi)) :: S) h) none) none)
noncomputable def o_subU (k : AK) : AK := fun L S h => a_popV S fun w S => a_popV S fun v S => a_isI w (fun y => a_isI v (fun x => k L (aI (f_sub x y) :: S) h) (fun _ lo hi => a_if (Nat.ble (Nat.add 2147483648 y) lo) (k L (aU 0 (Nat.sub lo y) (Nat.sub hi y) :: S) h) none)) (fun _ _ _ => none)
noncomputable def o_iincU (i c : Nat) (k : AK) : AK := fun L S h => a_lget L i fun v => a_isI v (fun n => k (a_lset (aI (f_add n c)) L i) S h) (fun _ lo hi => a_if (Nat.ble 2147483648 lo) (a_if (Nat.ble c 2147483647) (a_if (Nat.ble (Nat.add hi c) 4294967295) (k (a_lset (aU 0 (Nat.add lo c) (Nat.add hi c)) L i) S h) none) none) none)
noncomputable def o_aaldG (k : AK) : AK := fun L S h => a_popV S fun v S => a_popC S fun c S => a_hget h c fun x => @Sum.rec _ _ (fun _ => AO)
  (fun q => a_if (Nat.ble 3 q.1) (a_ix v q.2.1 (fun i => k L (aR (a_dig q.2.2 32 i) :: S) h) (fun _ _ _ => none)) none)
  (fun y => @Sum.rec _ _ (fun _ => AO) (fun _ => none) (fun q => a_if (Nat.ble 3 q.1) (a_ix v q.2.1 (fun _ => none) (fun g _ _ => @Nat.rec (fun _ => AO) none (fun g' _ => a_if (Nat.ble g' 1000) (@Option.rec (List Nat) (fun _ => AO) none (fun cs => a_nth (fun cell => k L (aR (Nat.succ cell) :: S) h) cs g') q.2.2) none) g)) none) y) x
section
variable {M : AM} {pc pc' : Nat} {k t : AK}
/-- an int with bounds above 0 -/
theorem bs_pos {x : Int32} {lo hi : Nat} (h0 : 2147483648 ≤ lo) (h1 : lo ≤ a_bs x) (h2 : a_bs x ≤ hi) : (x.toInt : Int) = ((a_bs x - 2147483648 : Nat) : Int) ∧ x.toNatClampNeg = a_bs x - 2147483648 ∧ lo - 2147483648 ≤ x.toNatClampNeg ∧ x.toNatClampNeg ≤ hi - 2147483648 := by
  have h := a_bs_val x
  have e : x.toNatClampNeg = x.toInt.toNat := rfl
  omega
theorem a_ix_some {v : AV} {n : Nat} {f : Nat → AO} {u : Nat → Nat → Nat → AO} {r : ARes} (h : a_ix v n f u = some r) : (∃ i, v = aI i ∧ i < n ∧ f i = some r) ∨ ∃ g lo hi, v = aU g lo hi ∧ 2147483648 ≤ lo ∧ hi < 2147483648 + n ∧ u g (lo - 2147483648) (hi - 2147483648) = some r := by
  rcases a_isI_some h with ⟨i, rfl, h1⟩ | ⟨g, lo, hi, rfl, h1⟩
  · obtain ⟨h2, h3⟩ := cond_some h1
    exact Or.inl ⟨i, rfl, ble_iff.mp h2, h3⟩
  · obtain ⟨h2, h3⟩ := cond_some h1
    obtain ⟨h4, h5⟩ := cond_some h3
    exact Or.inr ⟨g, lo, hi, rfl, ble_iff.mp h2, ble_iff.mp h4, h5⟩
theorem in_okU {x : Int32} {lo hi n : Nat} (h0 : 2147483648 ≤ lo) (h1 : lo ≤ a_bs x) (h2 : a_bs x ≤ hi) (hn : hi < 2147483648 + n) : vp_in x n := by
  obtain ⟨g1, g2, g3, g4⟩ := bs_pos h0 h1 h2
  intro q
  rcases q with q | q
  · rw [Int32.lt_iff_toInt_lt] at q
    have : ((0 : Int32).toInt : Int) = 0 := by decide
    omega
  · omega
theorem uni_ok {N lo d : Nat} : ∀ (c : Nat), a_uni N lo d c = true → ∀ i, lo ≤ i → i ≤ lo + c → a_dig N 32 i = d := by
  intro c h i h1 h2
  unfold a_uni at h
  by_cases h0 : N = 0
  · rw [beq_iff.mpr h0] at h
    have h : Nat.beq d 0 = true := h
    rw [beq_iff.mp h, h0, dig_zero]
  · rw [beq_no h0] at h
    have key : ∀ c, (@Nat.rec (fun _ => Bool) (Nat.beq (a_dig N 32 lo) d) (fun c ih => a_if (Nat.beq (a_dig N 32 (Nat.add lo (Nat.succ c))) d) ih false) c) = true → ∀ i, lo ≤ i → i ≤ lo + c → a_dig N 32 i = d := by
      intro c
      induction c with
      | zero =>
        intro h i h1 h2
        have : i = lo := by omega
        subst this
        exact beq_iff.mp h
      | succ c ih =>
        intro h i h1 h2
        have h : a_if (Nat.beq (a_dig N 32 (lo + (c + 1))) d) (@Nat.rec (fun _ => Bool) (Nat.beq (a_dig N 32 lo) d) (fun c ih => a_if (Nat.beq (a_dig N 32 (Nat.add lo (Nat.succ c))) d) ih false) c) false = true := h
        cases hb : Nat.beq (a_dig N 32 (lo + (c + 1))) d
        · rw [hb] at h; cases h
        · rw [hb] at h
          by_cases hi : i = lo + (c + 1)
          · rw [hi]; exact beq_iff.mp hb
          · exact ih h i h1 (by omega)
    exact key c h i h1 h2
theorem so_ialdU (hd : decode M.2.1 pc = .ok (.iaload, 1)) (hk : Sound M (pc + 1) k) : Sound M pc (o_ialdU k) := by
  refine so_read hk fun L S h r hr => ?_
  obtain ⟨v, S1, rfl, hr1⟩ := a_popV_some hr
  obtain ⟨cn, S2, rfl, hr2⟩ := a_popC_some hr1
  obtain ⟨n, N, hN, hr3⟩ := a_arr_some hr2
  have fin : ∀ (d : Nat), d < 4294967296 → k L (aI d :: S2) h = some r → (∀ (gv : Nat → Int32) (ad : List Nat) (x : Value), n < 2147483648 → vR gv ad v x → ∃ y : Int32, x = .int y ∧ vp_in y n ∧ a_dig N 32 y.toNatClampNeg = d) → ∃ S' : ASt, k L S' h = some r ∧
      ∀ (p : Program) (l : Launch) (e : Env) (R : Room) (s : State) (m : MethodId) (args : Array Value) (below : List Frame) (meth : Method) (c : Code) (gv : Nat → Int32) (cA : Nat → ClassId) (D : va_G) (A : Nat → Prop) (ws : va_W) (H : Heap) (locs : List Loc) (cells slots : Nat) (ls : Array Slot) (st : List Value) (Q : State → Prop),
        CX M p R s m args meth c → WD gv cA D A s h ws H locs → SR gv (adr ws) (v :: aR (cn + 1) :: S2) st → (∀ st' : List Value, SR gv (adr ws) S' st' → W p l e R s m args below meth c H locs cells slots Q (F0 m (pc + 1) ls st')) → W p l e R s m args below meth c H locs cells slots Q (F0 m pc ls st) := by
    intro d hdl hgo hv
    refine ⟨_, hgo, ?_⟩
    intro p l e R s m args below meth c gv cA D A ws H locs cells slots ls st Q hC hW hS kk
    obtain ⟨xv, st', rfl, hxv, hS1⟩ := SR_cons hS
    obtain ⟨v2, st'', rfl, ⟨x, hx, rfl⟩, hS2⟩ := SR_cons hS1
    obtain ⟨hK, hP, hD, hS0, hA, hlen, hR⟩ := hW
    obtain ⟨a, e0, g1, g2, g3⟩ := hR cn _ hN
    have hxa : x = a := adr_uniq g1 hx
    subst hxa
    obtain ⟨y, rfl, o1, o2⟩ := hv gv (adr ws) xv g2 hxv
    rcases g3 with ⟨-, f, rfl, g4⟩ | ⟨q, -⟩ | ⟨q, -⟩ | ⟨q, -⟩
    · refine va_iald hC.1 hC.2.1 hK hP cn 0 g1 rfl o1 hd ?_
      rw [g4 _ (Nat.not_le.mp fun q => o1 (Or.inr q)), o2]
      exact kk _ ⟨⟨hdl, rfl⟩, hS2⟩
    · cases q
    · cases q
    · rcases q with q | q <;> cases q
  rcases a_ix_some hr3 with ⟨i, rfl, hi, hr4⟩ | ⟨g, lo, hi, rfl, h1, h2, hr4⟩
  · refine fin _ (dig_lt N 32 i) hr4 (fun gv ad x hn hx => ⟨_, hx.2, ?_⟩)
    obtain ⟨o1, o2⟩ := in_ok hi hn
    exact ⟨o1, by rw [o2]⟩
  · obtain ⟨h3, hr5⟩ := cond_some hr4
    refine fin _ (dig_lt N 32 _) hr5 (fun gv ad x _ hx => ?_)
    obtain ⟨y, rfl, q1, q2, -⟩ := hx
    refine ⟨y, rfl, in_okU h1 q1 q2 h2, ?_⟩
    obtain ⟨z1, z2, z3, z4⟩ := bs_pos h1 q1 q2
    exact uni_ok _ h3 _ z3 (by show _ ≤ (lo - 2147483648) + ((hi - 2147483648) - (lo - 2147483648)); omega)
theorem a_isI_any {w : AV} {f : Nat → AO} {u : Nat → Nat → Nat → AO} {r : ARes} (h : a_isI w f u = some r) {gv : Nat → Int32} {ad : List Nat} {x : Value} (hx : vR gv ad w x) : ∃ y : Int32, x = .int y := by
  rcases a_isI_some h with ⟨n, rfl, -⟩ | ⟨g, lo, hi, rfl, -⟩
  · exact ⟨_, hx.2⟩
  · obtain ⟨y, hy, -⟩ := hx; exact ⟨y, hy⟩
theorem a_ix_in {v : AV} {n : Nat} {f : Nat → AO} {u : Nat → Nat → Nat → AO} {r : ARes} (h : a_ix v n f u = some r) (hn : n < 2147483648) {gv : Nat → Int32} {ad : List Nat} {x : Value} (hx : vR gv ad v x) : ∃ y : Int32, x = .int y ∧ vp_in y n := by
  rcases a_ix_some h with ⟨i, rfl, hi, -⟩ | ⟨g, lo, hi, rfl, h1, h2, -⟩
  · exact ⟨_, hx.2, (in_ok hi hn).1⟩
  · obtain ⟨y, hy, q1, q2, -⟩ := hx; exact ⟨y, hy, in_okU h1 q1 q2 h2⟩
theorem a_ix_go {v : AV} {n : Nat} {x : AO} {r : ARes} (h : a_ix v n (fun _ => x) (fun _ _ _ => x) = some r) : x = some r := by
  rcases a_ix_some h with ⟨i, _, _, h1⟩ | ⟨g, lo, hi, _, _, _, h1⟩
  · exact h1
  · exact h1
/-- what is stored: the new cell, and what it was -/
theorem a_stI_some {x : AC} {v w : AV} {K : AC → AO} {r : ARes} (h : a_stI x v w K = some r) : ∃ (n : Nat) (x' : AC), a_csz x = n ∧ a_csz x' = n ∧ K x' = some r ∧
    (∀ (gv : Nat → Int32) (cA : Nat → ClassId) (ad : List Nat) (e : va_E), cR gv cA ad x e → n < 2147483648 ∧ ∃ f : Nat → Int32, e = .inl (cA 0, n, .inl f) ∧ ∀ (iv wv : Value), vR gv ad v iv → vR gv ad w wv → ∃ i z : Int32, iv = .int i ∧ wv = .int z ∧ vp_in i n ∧ cR gv cA ad x' (.inl (cA 0, n, .inl (upd f i.toNatClampNeg z)))) := by
  match x, h with
  | .inl (kd, n, N), h =>
    have h : a_if (Nat.beq kd 0) (a_isI w (fun m => a_ix v n (fun i => K (Sum.inl (0, n, a_put N 32 i m))) (fun _ _ _ => K (Sum.inr (Sum.inr (0, n, none))))) (fun _ _ _ => a_ix v n (fun _ => K (Sum.inr (Sum.inr (0, n, none)))) (fun _ _ _ => K (Sum.inr (Sum.inr (0, n, none)))))) none = some r := h
    obtain ⟨h0, hq⟩ := cond_some h
    have h0 := beq_iff.mp h0
    subst h0
    have base : ∀ (gv : Nat → Int32) (cA : Nat → ClassId) (ad : List Nat) (e : va_E), cR gv cA ad (.inl (0, n, N)) e → n < 2147483648 ∧ ∃ f : Nat → Int32, e = .inl (cA 0, n, .inl f) ∧ ∀ i, i < n → f i = a_i32 (a_dig N 32 i) := by
      intro gv cA ad e he
      obtain ⟨g2, g3⟩ := he
      rcases g3 with ⟨-, f, rfl, g4⟩ | ⟨q, -⟩ | ⟨q, -⟩ | ⟨q, -⟩
      · exact ⟨g2, f, rfl, g4⟩
      · cases q
      · cases q
      · rcases q with q | q <;> cases q
    have unk : K (Sum.inr (Sum.inr (0, n, none))) = some r → (∀ (gv : Nat → Int32) (ad : List Nat) (iv wv : Value), n < 2147483648 → vR gv ad v iv → vR gv ad w wv → ∃ i z : Int32, iv = .int i ∧ wv = .int z ∧ vp_in i n) → _ := fun hgo hin => (⟨n, Sum.inr (Sum.inr (0, n, none)), rfl, rfl, hgo, fun gv cA ad e he => by
      obtain ⟨g1, f, g2, -⟩ := base gv cA ad e he
      refine ⟨g1, f, g2, fun iv wv hi hw => ?_⟩
      obtain ⟨i, z, z1, z2, z3⟩ := hin gv ad iv wv g1 hi hw
      exact ⟨i, z, z1, z2, z3, g1, Or.inl ⟨rfl, rfl, _, rfl⟩⟩⟩ : ∃ (n' : Nat) (x' : AC), a_csz (.inl (0, n, N)) = n' ∧ a_csz x' = n' ∧ K x' = some r ∧ (∀ (gv : Nat → Int32) (cA : Nat → ClassId) (ad : List Nat) (e : va_E), cR gv cA ad (.inl (0, n, N)) e → n' < 2147483648 ∧ ∃ f : Nat → Int32, e = .inl (cA 0, n', .inl f) ∧ ∀ (iv wv : Value), vR gv ad v iv → vR gv ad w wv → ∃ i z : Int32, iv = .int i ∧ wv = .int z ∧ vp_in i n' ∧ cR gv cA ad x' (.inl (cA 0, n', .inl (upd f i.toNatClampNeg z)))))
    rcases a_isI_some hq with ⟨m, rfl, h1⟩ | ⟨g, lo, hi, rfl, h1⟩
    · rcases a_ix_some h1 with ⟨i, rfl, hi, h2⟩ | ⟨g, lo, hi, rfl, q1, q2, h2⟩
      · refine ⟨n, _, rfl, rfl, h2, fun gv cA ad e he => ?_⟩
        obtain ⟨g1, f, g2, g3⟩ := base gv cA ad e he
        refine ⟨g1, f, g2, fun iv wv hiv hw => ?_⟩
        obtain ⟨o1, o2⟩ := in_ok hi g1
        refine ⟨_, _, hiv.2, hw.2, o1, g1, Or.inl ⟨rfl, _, rfl, fun j hj => ?_⟩⟩
        rw [o2, dig_put N 32 i m j hw.1]
        unfold upd
        by_cases hji : j = i
        · rw [if_pos hji, if_pos hji]
        · rw [if_neg hji, if_neg hji]; exact g3 j hj
      · refine unk h2 (fun gv ad iv wv hn hiv hw => ?_)
        obtain ⟨y, hy, z1, z2, -⟩ := hiv
        exact ⟨y, _, hy, hw.2, in_okU q1 z1 z2 q2⟩
    · refine unk (a_ix_go h1) (fun gv ad iv wv hn hiv hw => ?_)
      obtain ⟨y, hy, hin⟩ := a_ix_in h1 hn hiv
      obtain ⟨z, hz, -⟩ := hw
      exact ⟨y, z, hy, hz, hin⟩
  | .inr (.inr (kd, n, o)), h =>
    have h : a_if (Nat.beq kd 0) (a_isI w (fun _ => a_ix v n (fun _ => K (Sum.inr (Sum.inr (0, n, none)))) (fun _ _ _ => K (Sum.inr (Sum.inr (0, n, none))))) (fun _ _ _ => a_ix v n (fun _ => K (Sum.inr (Sum.inr (0, n, none)))) (fun _ _ _ => K (Sum.inr (Sum.inr (0, n, none)))))) none = some r := h
    obtain ⟨h0, hq⟩ := cond_some h
    have h0 := beq_iff.mp h0
    subst h0
    have hgo : a_ix v n (fun _ => K (Sum.inr (Sum.inr (0, n, none)))) (fun _ _ _ => K (Sum.inr (Sum.inr (0, n, none)))) = some r := by
      rcases a_isI_some hq with ⟨m, _, h1⟩ | ⟨g, lo, hi, _, h1⟩
      · exact h1
      · exact h1
    refine ⟨n, _, rfl, rfl, a_ix_go hgo, fun gv cA ad e he => ?_⟩
    obtain ⟨g1, g2⟩ := he
    rcases g2 with ⟨-, -, f, rfl⟩ | ⟨q, -⟩
    · refine ⟨g1, f, rfl, fun iv wv hiv hw => ?_⟩
      obtain ⟨y, hy, hin⟩ := a_ix_in hgo g1 hiv
      obtain ⟨z, hz⟩ := a_isI_any hq hw
      exact ⟨y, z, hy, hz, hin, g1, Or.inl ⟨rfl, rfl, _, rfl⟩⟩
    · rcases q with q | q <;> cases q
theorem so_iastU (hd : decode M.2.1 pc = .ok (.iastore, 1)) (hk : Sound M (pc + 1) k) : Sound M pc (o_iastU k) := by
  refine so_write hk fun L S h r hr => ?_
  obtain ⟨w, S0, rfl, hr0⟩ := a_popV_some hr
  obtain ⟨v, S1, rfl, hr1⟩ := a_popV_some hr0
  obtain ⟨cn, S2, rfl, hr2⟩ := a_popC_some hr1
  obtain ⟨x0, hN, hr3⟩ := a_hget_some hr2
  obtain ⟨n, x', z1, z2, hgo, hz⟩ := a_stI_some hr3
  refine ⟨S2, cn, _, x', hN, by rw [z1, z2], hgo, ?_⟩
  intro p l e R s m args below meth c gv cA D A ws H locs cells slots ls st Q hC hW hS kk
  obtain ⟨v0, st0, rfl, hv0, hS00⟩ := SR_cons hS
  obtain ⟨v1, st', rfl, hv1, hS1⟩ := SR_cons hS00
  obtain ⟨v2, st'', rfl, ⟨x, hx, rfl⟩, hS2⟩ := SR_cons hS1
  obtain ⟨hK, hP, hD, hS0, hA, hlen, hR⟩ := hW
  obtain ⟨a, e0, g1, g2⟩ := hR cn _ hN
  have hxa : x = a := adr_uniq g1 hx
  subst hxa
  obtain ⟨g3, f, rfl, g4⟩ := hz gv cA (adr ws) e0 g2
  obtain ⟨i, z, rfl, rfl, g5, g6⟩ := g4 v1 v0 hv1 hv0
  exact va_iast hC.1 hC.2.1 hK hP hD hS0 cn 0 g1 rfl g5 hd (fun H1 locs1 q1 q2 q3 => kk x _ _ H1 locs1 st'' g1 g6 q1 q2 q3 hS2)
theorem a_two_some {v w : AV} {f : Nat → Nat → AO} {g : Nat → Nat → Nat → AO} {r : ARes} (h : a_two v w f g = some r) : (∃ x y, v = aI x ∧ w = aI y ∧ f x y = some r) ∨ (∃ x q lo hi, v = aI x ∧ w = aU q lo hi ∧ 2147483648 ≤ lo ∧ g x (lo - 2147483648) (hi - 2147483648) = some r) ∨ ∃ y q lo hi, v = aU q lo hi ∧ w = aI y ∧ 2147483648 ≤ lo ∧ g y (lo - 2147483648) (hi - 2147483648) = some r := by
  rcases a_isI_some h with ⟨x, rfl, h1⟩ | ⟨q, lo, hi, rfl, h1⟩
  · rcases a_isI_some h1 with ⟨y, rfl, h2⟩ | ⟨q, lo, hi, rfl, h2⟩
    · exact Or.inl ⟨x, y, rfl, rfl, h2⟩
    · obtain ⟨h3, h4⟩ := cond_some h2
      exact Or.inr (Or.inl ⟨x, q, lo, hi, rfl, rfl, ble_iff.mp h3, h4⟩)
  · rcases a_isI_some h1 with ⟨y, rfl, h2⟩ | ⟨q, lo, hi, rfl, h2⟩
    · obtain ⟨h3, h4⟩ := cond_some h2
      exact Or.inr (Or.inr ⟨y, q, lo, hi, rfl, rfl, ble_iff.mp h3, h4⟩)
    · cases h2
theorem mulU_val {e lo hi : Nat} {y : Int32} (he : e ≤ 2147483647) (h0 : 2147483648 ≤ lo) (h1 : lo ≤ a_bs y) (h2 : a_bs y ≤ hi) (hb : e * (hi - 2147483648) ≤ 2147483647) : 2147483648 + e * (lo - 2147483648) ≤ a_bs (a_i32 e * y) ∧ a_bs (a_i32 e * y) ≤ 2147483648 + e * (hi - 2147483648) ∧ a_i32 e * y = y * a_i32 e := by
  obtain ⟨g1, -, -, -⟩ := bs_pos h0 h1 h2
  have hti : (a_i32 e).toInt = (e : Int) := by rw [t32 (by omega), if_pos (by omega)]
  have l1 : e * (lo - 2147483648) ≤ e * (a_bs y - 2147483648) := Nat.mul_le_mul_left e (by omega)
  have l2 : e * (a_bs y - 2147483648) ≤ e * (hi - 2147483648) := Nat.mul_le_mul_left e (by omega)
  have hm : (a_i32 e * y).toInt = ((e * (a_bs y - 2147483648) : Nat) : Int) := by
    rw [Int32.toInt_mul, hti, g1, ← Int.natCast_mul]
    exact Int.bmod_eq_of_le_mul_two (by omega) (by omega)
  have hv := a_bs_val (a_i32 e * y)
  rw [hm] at hv
  refine ⟨by omega, by omega, Int32.mul_comm _ _⟩
theorem addU_val {e lo hi : Nat} {y : Int32} (he : e ≤ 2147483647) (h0 : 2147483648 ≤ lo) (h1 : lo ≤ a_bs y) (h2 : a_bs y ≤ hi) (hb : e + (hi - 2147483648) ≤ 2147483647) : 2147483648 + (e + (lo - 2147483648)) ≤ a_bs (a_i32 e + y) ∧ a_bs (a_i32 e + y) ≤ 2147483648 + (e + (hi - 2147483648)) ∧ a_i32 e + y = y + a_i32 e := by
  obtain ⟨g1, -, -, -⟩ := bs_pos h0 h1 h2
  have hti : (a_i32 e).toInt = (e : Int) := by rw [t32 (by omega), if_pos (by omega)]
  have hm : (a_i32 e + y).toInt = ((e + (a_bs y - 2147483648) : Nat) : Int) := by
    rw [Int32.toInt_add, hti, g1, ← Int.natCast_add]
    exact Int.bmod_eq_of_le_mul_two (by omega) (by omega)
  have hv := a_bs_val (a_i32 e + y)
  rw [hm] at hv
  refine ⟨by omega, by omega, Int32.add_comm _ _⟩
theorem so_mulU (hd : decode M.2.1 pc = .ok (.imul, 1)) (hk : Sound M (pc + 1) k) : Sound M pc (o_mulU k) := by
  refine so_step hk fun L S h r hr => ?_
  obtain ⟨w, S1, rfl, hr1⟩ := a_popV_some hr
  obtain ⟨v, S2, rfl, hr2⟩ := a_popV_some hr1
  rcases a_two_some hr2 with ⟨x, y, rfl, rfl, hr3⟩ | ⟨x, q, lo, hi, rfl, rfl, h0, hr3⟩ | ⟨y, q, lo, hi, rfl, rfl, h0, hr3⟩
  · refine ⟨L, _, hr3, ?_⟩
    intro p l e R s m args below meth c gv ad H locs cells slots ls st Q hC hL hS kk
    obtain ⟨v', st', rfl, ⟨hy, rfl⟩, hS1⟩ := SR_cons hS
    obtain ⟨w', st'', rfl, ⟨hx, rfl⟩, hS2⟩ := SR_cons hS1
    obtain ⟨e1, e2⟩ := i32_mul hx hy
    exact lv_imul hC.1 hC.2.1 hd (by rw [e1]; exact kk ls _ hL ⟨⟨e2, rfl⟩, hS2⟩)
  · obtain ⟨c1, hr4⟩ := cond_some hr3
    obtain ⟨c2, hr5⟩ := cond_some hr4
    refine ⟨L, _, hr5, ?_⟩
    intro p l e R s m args below meth c gv ad H locs cells slots ls st Q hC hL hS kk
    obtain ⟨v', st', rfl, ⟨y, rfl, q1, q2, -⟩, hS1⟩ := SR_cons hS
    obtain ⟨w', st'', rfl, ⟨hx, rfl⟩, hS2⟩ := SR_cons hS1
    obtain ⟨e1, e2, -⟩ := mulU_val (ble_iff.mp c1) h0 q1 q2 (ble_iff.mp c2)
    exact lv_imul hC.1 hC.2.1 hd (kk ls _ hL ⟨⟨_, rfl, e1, e2, gR_0⟩, hS2⟩)
  · obtain ⟨c1, hr4⟩ := cond_some hr3
    obtain ⟨c2, hr5⟩ := cond_some hr4
    refine ⟨L, _, hr5, ?_⟩
    intro p l e R s m args below meth c gv ad H locs cells slots ls st Q hC hL hS kk
    obtain ⟨v', st', rfl, ⟨hy, rfl⟩, hS1⟩ := SR_cons hS
    obtain ⟨w', st'', rfl, ⟨x, rfl, q1, q2, -⟩, hS2⟩ := SR_cons hS1
    obtain ⟨e1, e2, e3⟩ := mulU_val (ble_iff.mp c1) h0 q1 q2 (ble_iff.mp c2)
    exact lv_imul hC.1 hC.2.1 hd (by rw [← e3]; exact kk ls _ hL ⟨⟨_, rfl, e1, e2, gR_0⟩, hS2⟩)
theorem so_addU (hd : decode M.2.1 pc = .ok (.iadd, 1)) (hk : Sound M (pc + 1) k) : Sound M pc (o_addU k) := by
  refine so_step hk fun L S h r hr => ?_
  obtain ⟨w, S1, rfl, hr1⟩ := a_popV_some hr
  obtain ⟨v, S2, rfl, hr2⟩ := a_popV_some hr1
  rcases a_two_some hr2 with ⟨x, y, rfl, rfl, hr3⟩ | ⟨x, q, lo, hi, rfl, rfl, h0, hr3⟩ | ⟨y, q, lo, hi, rfl, rfl, h0, hr3⟩
  · refine ⟨L, _, hr3, ?_⟩
    intro p l e R s m args below meth c gv ad H locs cells slots ls st Q hC hL hS kk
    obtain ⟨v', st', rfl, ⟨hy, rfl⟩, hS1⟩ := SR_cons hS
    obtain ⟨w', st'', rfl, ⟨hx, rfl⟩, hS2⟩ := SR_cons hS1
    obtain ⟨e1, e2⟩ := i32_add hx hy
    exact lv_iadd hC.1 hC.2.1 hd (by rw [e1]; exact kk ls _ hL ⟨⟨e2, rfl⟩, hS2⟩)
  · obtain ⟨c1, hr4⟩ := cond_some hr3
    obtain ⟨c2, hr5⟩ := cond_some hr4
    refine ⟨L, _, hr5, ?_⟩
    intro p l e R s m args below meth c gv ad H locs cells slots ls st Q hC hL hS kk
    obtain ⟨v', st', rfl, ⟨y, rfl, q1, q2, -⟩, hS1⟩ := SR_cons hS
    obtain ⟨w', st'', rfl, ⟨hx, rfl⟩, hS2⟩ := SR_cons hS1
    obtain ⟨e1, e2, -⟩ := addU_val (ble_iff.mp c1) h0 q1 q2 (ble_iff.mp c2)
    exact lv_iadd hC.1 hC.2.1 hd (kk ls _ hL ⟨⟨_, rfl, e1, e2, gR_0⟩, hS2⟩)
  · obtain ⟨c1, hr4⟩ := cond_some hr3
    obtain ⟨c2, hr5⟩ := cond_some hr4
    refine ⟨L, _, hr5, ?_⟩
    intro p l e R s m args below meth c gv ad H locs cells slots ls st Q hC hL hS kk
    obtain ⟨v', st', rfl, ⟨hy, rfl⟩, hS1⟩ := SR_cons hS
    obtain ⟨w', st'', rfl, ⟨x, rfl, q1, q2, -⟩, hS2⟩ := SR_cons hS1
    obtain ⟨e1, e2, e3⟩ := addU_val (ble_iff.mp c1) h0 q1 q2 (ble_iff.mp c2)
    exact lv_iadd hC.1 hC.2.1 hd (by rw [← e3]; exact kk ls _ hL ⟨⟨_, rfl, e1, e2, gR_0⟩, hS2⟩)
theorem subU_val {e lo hi : Nat} {y : Int32} (h0 : 2147483648 + e ≤ lo) (h1 : lo ≤ a_bs y) (h2 : a_bs y ≤ hi) : lo - e ≤ a_bs (y - a_i32 e) ∧ a_bs (y - a_i32 e) ≤ hi - e := by
  have hy := a_bs_val y
  have hmax : y.toInt ≤ 2147483647 := Int32.toInt_le y
  have hti : (a_i32 e).toInt = (e : Int) := by rw [t32 (by omega), if_pos (by omega)]
  have hm : (y - a_i32 e).toInt = y.toInt - (e : Int) := by
    rw [Int32.toInt_sub, hti]
    exact Int.bmod_eq_of_le_mul_two (by omega) (by omega)
  have hv := a_bs_val (y - a_i32 e)
  rw [hm] at hv
  omega
theorem so_subU (hd : decode M.2.1 pc = .ok (.isub, 1)) (hk : Sound M (pc + 1) k) : Sound M pc (o_subU k) := by
  refine so_step hk fun L S h r hr => ?_
  obtain ⟨w, S1, rfl, hr1⟩ := a_popV_some hr
  obtain ⟨v, S2, rfl, hr2⟩ := a_popV_some hr1
  rcases a_isI_some hr2 with ⟨y, rfl, hr3⟩ | ⟨q, lo, hi, rfl, hr3⟩
  · rcases a_isI_some hr3 with ⟨x, rfl, hr4⟩ | ⟨q, lo, hi, rfl, hr4⟩
    · refine ⟨L, _, hr4, ?_⟩
      intro p l e R s m args below meth c gv ad H locs cells slots ls st Q hC hL hS kk
      obtain ⟨v', st', rfl, ⟨hy, rfl⟩, hS1⟩ := SR_cons hS
      obtain ⟨w', st'', rfl, ⟨hx, rfl⟩, hS2⟩ := SR_cons hS1
      obtain ⟨e1, e2⟩ := i32_sub hx hy
      exact lv_isub hC.1 hC.2.1 hd (by rw [e1]; exact kk ls _ hL ⟨⟨e2, rfl⟩, hS2⟩)
    · obtain ⟨c1, hr5⟩ := cond_some hr4
      refine ⟨L, _, hr5, ?_⟩
      intro p l e R s m args below meth c gv ad H locs cells slots ls st Q hC hL hS kk
      obtain ⟨v', st', rfl, ⟨hy, rfl⟩, hS1⟩ := SR_cons hS
      obtain ⟨w', st'', rfl, ⟨x, rfl, q1, q2, -⟩, hS2⟩ := SR_cons hS1
      obtain ⟨e1, e2⟩ := subU_val (ble_iff.mp c1) q1 q2
      exact lv_isub hC.1 hC.2.1 hd (kk ls _ hL ⟨⟨_, rfl, e1, e2, gR_0⟩, hS2⟩)
  · cases hr3
theorem so_iincU {i n : Nat} {z : Int} (hd : decode M.2.1 pc = .ok (.iinc i z, 3)) (hz : Int32.ofInt z = a_i32 n) (hnn : n < 4294967296) (hn : i < M.2.2.1) (hk : Sound M (pc + 3) k) : Sound M pc (o_iincU i n k) := by
  refine so_step hk fun L S h r hr => ?_
  obtain ⟨a, ha, hr1⟩ := a_lget_some hr
  rcases a_isI_some hr1 with ⟨x, rfl, hr2⟩ | ⟨g, lo, hi, rfl, hr2⟩
  · refine ⟨_, S, hr2, ?_⟩
    intro p l e R s m args below meth c gv ad H locs cells slots ls st Q hC hL hS kk
    obtain ⟨lv, h1, h2, h3⟩ := hL
    obtain ⟨v, hv, hx, rfl⟩ := h3 i _ ha
    obtain ⟨j, hj⟩ := List.getElem?_of_mem hv
    obtain ⟨e1, e2⟩ := i32_add hx hnn
    exact lv_iinc hC.1 hC.2.1 hd h1 (k := j) hj (by rw [hz, e1]) hn rfl (fun ls' h' => kk ls' st (LR_set1 (a := aI (f_add x n)) h1 h2 h3 ⟨e2, rfl⟩ h') hS)
  · obtain ⟨c0, hr3⟩ := cond_some hr2
    obtain ⟨c1, hr4⟩ := cond_some hr3
    obtain ⟨c2, hr5⟩ := cond_some hr4
    have c0 := ble_iff.mp c0
    have c1 := ble_iff.mp c1
    have c2 : hi + n ≤ 4294967295 := ble_iff.mp c2
    refine ⟨_, S, hr5, ?_⟩
    intro p l e R s m args below meth c gv ad H locs cells slots ls st Q hC hL hS kk
    obtain ⟨lv, h1, h2, h3⟩ := hL
    obtain ⟨v, hv, y, rfl, q1, q2, -⟩ := h3 i _ ha
    obtain ⟨j, hj⟩ := List.getElem?_of_mem hv
    obtain ⟨e1, e2, e3⟩ := addU_val c1 c0 q1 q2 (by omega)
    exact lv_iinc hC.1 hC.2.1 hd h1 (k := j) hj (by rw [hz]) hn rfl (fun ls' h' => kk ls' st (LR_set1 (a := aU 0 (lo + n) (hi + n)) h1 h2 h3 ⟨_, rfl, by rw [← e3]; omega, by rw [← e3]; omega, gR_0⟩ h') hS)
theorem so_aaldG (hd : decode M.2.1 pc = .ok (.aaload, 1)) (hk : Sound M (pc + 1) k) : Sound M pc (o_aaldG k) := by
  refine so_read hk fun L S h r hr => ?_
  obtain ⟨v, S1, rfl, hr1⟩ := a_popV_some hr
  obtain ⟨cn, S2, rfl, hr2⟩ := a_popC_some hr1
  obtain ⟨x0, hN, hr3⟩ := a_hget_some hr2
  match x0, hN, hr3 with
  | .inl (kind, n, N), hN, hr3 =>
    obtain ⟨hkd, hr4⟩ := cond_some hr3
    have hkd : 3 ≤ kind := ble_iff.mp hkd
    rcases a_ix_some hr4 with ⟨i, rfl, hi, hr5⟩ | ⟨g, lo, hi, rfl, h1, h2, hr5⟩
    · refine ⟨_, hr5, ?_⟩
      intro p l e R s m args below meth c gv cA D A ws H locs cells slots ls st Q hC hW hS kk
      obtain ⟨v, st', rfl, ⟨hn, rfl⟩, hS1⟩ := SR_cons hS
      obtain ⟨v2, st'', rfl, ⟨x, hx, rfl⟩, hS2⟩ := SR_cons hS1
      obtain ⟨hK, hP, hD, hS0, hA, hlen, hR⟩ := hW
      obtain ⟨a, e0, g1, g2, g3⟩ := hR cn _ hN
      have hxa : x = a := adr_uniq g1 hx
      subst hxa
      rcases g3 with ⟨q, -⟩ | ⟨q, -⟩ | ⟨q, -⟩ | ⟨hk34, f, rfl, g4⟩
      · omega
      · omega
      · omega
      · obtain ⟨o1, o2⟩ := in_ok hi g2
        have g5 := g4 i hi
        have fin : W p l e R s m args below meth c H locs cells slots Q (F0 m (pc + 1) ls (va_rf (f (a_i32 i).toNatClampNeg) :: st'')) := by
          rw [o2]
          refine kk _ ⟨?_, hS2⟩
          show vR gv (adr ws) (aR (a_dig N 32 i)) _
          cases hdg : a_dig N 32 i with
          | zero => rw [hdg] at g5; rw [show f i = none from g5]; rfl
          | succ q => rw [hdg] at g5; obtain ⟨y, z1, z2⟩ := g5; rw [z2]; exact ⟨y, z1, rfl⟩
        rcases hk34 with rfl | rfl
        · exact va_aldq hC.1 hC.2.1 hK hP cn 3 (C := RX0) g1 rfl o1 hd fin
        · exact va_aldq hC.1 hC.2.1 hK hP cn 4 (C := RX1) g1 rfl o1 hd fin
    · cases hr5
  | .inr (.inr (kind, n, o)), hN, hr3 =>
    obtain ⟨hkd, hr4⟩ := cond_some hr3
    have hkd : 3 ≤ kind := ble_iff.mp hkd
    rcases a_ix_some hr4 with ⟨i, rfl, hi, hr5⟩ | ⟨g, lo, hi, rfl, h1, h2, hr5⟩
    · cases hr5
    · match g, o, hN, hr5 with
      | g' + 1, o, hN, hr5 =>
       obtain ⟨hg1, hr5⟩ := cond_some hr5
       have hg1 : g' ≤ 1000 := ble_iff.mp hg1
       match o, hN, hr5 with
       | some cs, hN, hr5 =>
        have hr5 : a_nth (fun cell => k L (aR (Nat.succ cell) :: S2) h) cs g' = some r := hr5
        rw [a_nth_eq] at hr5
        obtain ⟨cell, hcell, hr6⟩ := Option.bind_eq_some_iff.mp hr5
        refine ⟨_, hr6, ?_⟩
        intro p l e R s m args below meth c gv cA D A ws H locs cells slots ls st Q hC hW hS kk
        obtain ⟨v, st', rfl, ⟨y, rfl, q1, q2, q3⟩, hS1⟩ := SR_cons hS
        obtain ⟨v2, st'', rfl, ⟨x, hx, rfl⟩, hS2⟩ := SR_cons hS1
        obtain ⟨hK, hP, hD, hS0, hA, hlen, hR⟩ := hW
        obtain ⟨a, e0, g1, g2, g3⟩ := hR cn _ hN
        have hxa : x = a := adr_uniq g1 hx
        subst hxa
        rcases g3 with ⟨q, -⟩ | ⟨hk34, cs', f, hcs, rfl, g4⟩
        · omega
        · cases hcs
          have hy := q3.1 (by omega) g' rfl
          obtain ⟨z, z1, z2⟩ := g4 g' cell hcell
          rw [← hy] at z2
          have o1 := in_okU h1 q1 q2 h2
          have fin : W p l e R s m args below meth c H locs cells slots Q (F0 m (pc + 1) ls (va_rf (f y.toNatClampNeg) :: st'')) := by
            rw [z2]
            exact kk _ ⟨⟨z, z1, rfl⟩, hS2⟩
          rcases hk34 with rfl | rfl
          · exact va_aldq hC.1 hC.2.1 hK hP cn 3 (C := RX0) g1 rfl o1 hd fin
          · exact va_aldq hC.1 hC.2.1 hK hP cn 4 (C := RX1) g1 rfl o1 hd fin
end
