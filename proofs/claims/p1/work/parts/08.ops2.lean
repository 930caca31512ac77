/-! ===== instructions, second part: division, longs, the stack, jumps ===== -/
section
variable {M : AM} {pc pc' : Nat} {k t : AK}
theorem so_binz0 {f : Nat → Nat → Nat} {g : Int32 → Int32 → Int32} (hf : ∀ x y, x < 4294967296 → y < 4294967296 → y ≠ 0 → g (a_i32 x) (a_i32 y) = a_i32 (f x y) ∧ f x y < 4294967296) (hk : Sound M pc' k)
    (row : ∀ (p : Program) (l : Launch) (e : Env) (R : Room) (s : State) (m : MethodId) (args : Array Value) (below : List Frame) (meth : Method) (c : Code) (H : Heap) (locs : List Loc) (cells slots : Nat) (ls : Array Slot) (st : List Value) (Q : State → Prop) (x y : Int32), CX M p R s m args meth c → ¬ y = 0 → W p l e R s m args below meth c H locs cells slots Q (F0 m pc' ls (.int (g x y) :: st)) → W p l e R s m args below meth c H locs cells slots Q (F0 m pc ls (.int y :: .int x :: st))) : Sound M pc (o_binz f k) := by
  refine so_step hk fun L S h r hr => ?_
  obtain ⟨y, S1, rfl, hr1⟩ := a_popI_some hr
  obtain ⟨x, S2, rfl, hr2⟩ := a_popI_some hr1
  cases y with
  | zero => cases hr2
  | succ y =>
    refine ⟨L, _, hr2, ?_⟩
    intro p l e R s m args below meth c gv ad H locs cells slots ls st Q hC hL hS kk
    obtain ⟨v, st', rfl, ⟨hy, rfl⟩, hS1⟩ := SR_cons hS
    obtain ⟨w, st'', rfl, ⟨hx, rfl⟩, hS2⟩ := SR_cons hS1
    obtain ⟨e1, e2⟩ := hf x (y + 1) hx hy (by omega)
    refine row p l e R s m args below meth c H locs cells slots ls st'' Q _ _ hC (fun q => ?_) (by rw [e1]; exact kk ls _ hL ⟨⟨e2, rfl⟩, hS2⟩)
    have := (i32_inj hy (show 0 < 4294967296 by decide)).mp q
    omega
theorem so_idiv (hd : decode M.2.1 pc = .ok (.idiv, 1)) (hk : Sound M (pc + 1) k) : Sound M pc (o_binz a_div k) :=
  so_binz0 (g := fun x y => x / y) (fun _ _ hx hy _ => i32_div hx hy) hk fun p l e R s m args below meth c H locs cells slots ls st Q x y hC h0 w => lv_idiv hC.1 hC.2.1 hd h0 w
theorem so_irem (hd : decode M.2.1 pc = .ok (.irem, 1)) (hk : Sound M (pc + 1) k) : Sound M pc (o_binz a_rem k) :=
  so_binz0 (g := fun x y => x - x / y * y) (fun _ _ hx hy h0 => i32_rem hx hy h0) hk fun p l e R s m args below meth c H locs cells slots ls st Q x y hC h0 w => lv_irem hC.1 hC.2.1 hd h0 w
theorem so_ineg (hd : decode M.2.1 pc = .ok (.ineg, 1)) (hk : Sound M (pc + 1) k) : Sound M pc (o_un a_neg k) := by
  refine so_step hk fun L S h r hr => ?_
  obtain ⟨x, S1, rfl, hr1⟩ := a_popI_some hr
  refine ⟨L, _, hr1, ?_⟩
  intro p l e R s m args below meth c gv ad H locs cells slots ls st Q hC hL hS kk
  obtain ⟨v, st', rfl, ⟨hx, rfl⟩, hS1⟩ := SR_cons hS
  obtain ⟨e1, e2⟩ := i32_neg hx
  exact lv_ineg hC.1 hC.2.1 hd (by rw [e1]; exact kk ls _ hL ⟨⟨e2, rfl⟩, hS1⟩)
theorem so_lbin0 {f : Nat → Nat → Nat} {g : Int64 → Int64 → Int64} (hf : ∀ x y, x < 18446744073709551616 → y < 18446744073709551616 → g (a_i64 x) (a_i64 y) = a_i64 (f x y) ∧ f x y < 18446744073709551616) (hk : Sound M pc' k)
    (row : ∀ (p : Program) (l : Launch) (e : Env) (R : Room) (s : State) (m : MethodId) (args : Array Value) (below : List Frame) (meth : Method) (c : Code) (H : Heap) (locs : List Loc) (cells slots : Nat) (ls : Array Slot) (st : List Value) (Q : State → Prop) (x y : Int64), CX M p R s m args meth c → W p l e R s m args below meth c H locs cells slots Q (F0 m pc' ls (.long (g x y) :: st)) → W p l e R s m args below meth c H locs cells slots Q (F0 m pc ls (.long y :: .long x :: st))) : Sound M pc (o_lbin f k) := by
  refine so_step hk fun L S h r hr => ?_
  obtain ⟨y, S1, rfl, hr1⟩ := a_popL_some hr
  obtain ⟨x, S2, rfl, hr2⟩ := a_popL_some hr1
  refine ⟨L, _, hr2, ?_⟩
  intro p l e R s m args below meth c gv ad H locs cells slots ls st Q hC hL hS kk
  obtain ⟨v, st', rfl, ⟨hy, rfl⟩, hS1⟩ := SR_cons hS
  obtain ⟨w, st'', rfl, ⟨hx, rfl⟩, hS2⟩ := SR_cons hS1
  obtain ⟨e1, e2⟩ := hf x y hx hy
  exact row p l e R s m args below meth c H locs cells slots ls st'' Q _ _ hC (by rw [e1]; exact kk ls _ hL ⟨⟨e2, rfl⟩, hS2⟩)
theorem so_ladd (hd : decode M.2.1 pc = .ok (.ladd, 1)) (hk : Sound M (pc + 1) k) : Sound M pc (o_lbin f_ladd k) :=
  so_lbin0 (g := fun x y => x + y) (fun _ _ hx hy => i64_add hx hy) hk fun p l e R s m args below meth c H locs cells slots ls st Q x y hC w => lv_ladd hC.1 hC.2.1 hd w
theorem so_lsub (hd : decode M.2.1 pc = .ok (.lsub, 1)) (hk : Sound M (pc + 1) k) : Sound M pc (o_lbin f_lsub k) :=
  so_lbin0 (g := fun x y => x - y) (fun _ _ hx hy => i64_sub hx hy) hk fun p l e R s m args below meth c H locs cells slots ls st Q x y hC w => lv_lsub hC.1 hC.2.1 hd w
theorem so_land (hd : decode M.2.1 pc = .ok (.land, 1)) (hk : Sound M (pc + 1) k) : Sound M pc (o_lbin Nat.land k) :=
  so_lbin0 (g := fun x y => x &&& y) (fun _ _ hx hy => i64_and hx hy) hk fun p l e R s m args below meth c H locs cells slots ls st Q x y hC w => lv_land hC.1 hC.2.1 hd w
theorem so_lor (hd : decode M.2.1 pc = .ok (.lor, 1)) (hk : Sound M (pc + 1) k) : Sound M pc (o_lbin Nat.lor k) :=
  so_lbin0 (g := fun x y => x ||| y) (fun _ _ hx hy => i64_or hx hy) hk fun p l e R s m args below meth c H locs cells slots ls st Q x y hC w => lv_lor hC.1 hC.2.1 hd w
theorem so_lxor (hd : decode M.2.1 pc = .ok (.lxor, 1)) (hk : Sound M (pc + 1) k) : Sound M pc (o_lbin Nat.xor k) :=
  so_lbin0 (g := fun x y => x ^^^ y) (fun _ _ hx hy => i64_xor hx hy) hk fun p l e R s m args below meth c H locs cells slots ls st Q x y hC w => lv_lxor hC.1 hC.2.1 hd w
theorem so_lsh0 {f : Nat → Nat → Nat} {g : Int64 → Int32 → Int64} (hf : ∀ x y, x < 18446744073709551616 → y < 4294967296 → g (a_i64 x) (a_i32 y) = a_i64 (f x y) ∧ f x y < 18446744073709551616) (hk : Sound M pc' k)
    (row : ∀ (p : Program) (l : Launch) (e : Env) (R : Room) (s : State) (m : MethodId) (args : Array Value) (below : List Frame) (meth : Method) (c : Code) (H : Heap) (locs : List Loc) (cells slots : Nat) (ls : Array Slot) (st : List Value) (Q : State → Prop) (x : Int64) (y : Int32), CX M p R s m args meth c → W p l e R s m args below meth c H locs cells slots Q (F0 m pc' ls (.long (g x y) :: st)) → W p l e R s m args below meth c H locs cells slots Q (F0 m pc ls (.int y :: .long x :: st))) : Sound M pc (o_lsh f k) := by
  refine so_step hk fun L S h r hr => ?_
  obtain ⟨y, S1, rfl, hr1⟩ := a_popI_some hr
  obtain ⟨x, S2, rfl, hr2⟩ := a_popL_some hr1
  refine ⟨L, _, hr2, ?_⟩
  intro p l e R s m args below meth c gv ad H locs cells slots ls st Q hC hL hS kk
  obtain ⟨v, st', rfl, ⟨hy, rfl⟩, hS1⟩ := SR_cons hS
  obtain ⟨w, st'', rfl, ⟨hx, rfl⟩, hS2⟩ := SR_cons hS1
  obtain ⟨e1, e2⟩ := hf x y hx hy
  exact row p l e R s m args below meth c H locs cells slots ls st'' Q _ _ hC (by rw [e1]; exact kk ls _ hL ⟨⟨e2, rfl⟩, hS2⟩)
theorem so_lshl (hd : decode M.2.1 pc = .ok (.lshl, 1)) (hk : Sound M (pc + 1) k) : Sound M pc (o_lsh f_lshl k) :=
  so_lsh0 (g := fun x y => x <<< (y.toInt64 &&& 63)) (fun _ _ hx hy => i64_shl hx hy) hk fun p l e R s m args below meth c H locs cells slots ls st Q x y hC w => lv_lshl hC.1 hC.2.1 hd rfl w
theorem so_lshr (hd : decode M.2.1 pc = .ok (.lshr, 1)) (hk : Sound M (pc + 1) k) : Sound M pc (o_lsh a_lshr k) :=
  so_lsh0 (g := fun x y => x >>> (y.toInt64 &&& 63)) (fun _ _ hx hy => i64_shr hx hy) hk fun p l e R s m args below meth c H locs cells slots ls st Q x y hC w => lv_lshr hC.1 hC.2.1 hd rfl w
theorem so_lushr (hd : decode M.2.1 pc = .ok (.lushr, 1)) (hk : Sound M (pc + 1) k) : Sound M pc (o_lsh f_lushr k) :=
  so_lsh0 (g := fun x y => (x.toUInt64 >>> (y.toInt64.toUInt64 &&& Int64.toUInt64 63)).toInt64) (fun _ _ hx hy => i64_ushr hx hy) hk fun p l e R s m args below meth c H locs cells slots ls st Q x y hC w => lv_lushr hC.1 hC.2.1 hd rfl w
theorem so_lneg (hd : decode M.2.1 pc = .ok (.lneg, 1)) (hk : Sound M (pc + 1) k) : Sound M pc (o_lun f_lneg k) := by
  refine so_step hk fun L S h r hr => ?_
  obtain ⟨x, S1, rfl, hr1⟩ := a_popL_some hr
  refine ⟨L, _, hr1, ?_⟩
  intro p l e R s m args below meth c gv ad H locs cells slots ls st Q hC hL hS kk
  obtain ⟨v, st', rfl, ⟨hx, rfl⟩, hS1⟩ := SR_cons hS
  obtain ⟨e1, e2⟩ := i64_neg hx
  exact lv_lneg hC.1 hC.2.1 hd (by rw [e1]; exact kk ls _ hL ⟨⟨e2, rfl⟩, hS1⟩)
theorem so_l2i (hd : decode M.2.1 pc = .ok (.l2i, 1)) (hk : Sound M (pc + 1) k) : Sound M pc (o_l2i k) := by
  refine so_step hk fun L S h r hr => ?_
  obtain ⟨x, S1, rfl, hr1⟩ := a_popL_some hr
  refine ⟨L, _, hr1, ?_⟩
  intro p l e R s m args below meth c gv ad H locs cells slots ls st Q hC hL hS kk
  obtain ⟨v, st', rfl, ⟨hx, rfl⟩, hS1⟩ := SR_cons hS
  obtain ⟨e1, e2⟩ := i64_l2i hx
  exact lv_l2i hC.1 hC.2.1 hd e1 (kk ls _ hL ⟨⟨e2, rfl⟩, hS1⟩)
theorem so_lcmp (hd : decode M.2.1 pc = .ok (.lcmp, 1)) (hk : Sound M (pc + 1) k) : Sound M pc (o_lcmp k) := by
  refine so_step hk fun L S h r hr => ?_
  obtain ⟨y, S1, rfl, hr1⟩ := a_popL_some hr
  obtain ⟨x, S2, rfl, hr2⟩ := a_popL_some hr1
  refine ⟨L, _, hr2, ?_⟩
  intro p l e R s m args below meth c gv ad H locs cells slots ls st Q hC hL hS kk
  obtain ⟨v, st', rfl, ⟨hy, rfl⟩, hS1⟩ := SR_cons hS
  obtain ⟨w, st'', rfl, ⟨hx, rfl⟩, hS2⟩ := SR_cons hS1
  obtain ⟨e1, e2⟩ := i64_cmp hx hy
  exact W.lcmp hC.1 hC.2.1 hd (by rw [e1]; exact kk ls _ hL ⟨⟨e2, rfl⟩, hS2⟩)
/-! the stack -/
theorem vR_cat1 {gv : Nat → Int32} {ad : List Nat} {a : AV} {v : Value} (h : vR gv ad a v) (hc : a_cat1 a = true) : v.category = 1 := by
  match a, h with
  | .inl n, h => rw [h.2]; rfl
  | .inr (.inl 0), h => rw [show v = Value.null from h]; rfl
  | .inr (.inl (r + 1)), ⟨x, _, hx⟩ => rw [hx]; rfl
  | .inr (.inr (.inl n)), h => cases hc
  | .inr (.inr (.inr (g, lo, hi))), ⟨x, hx, _⟩ => rw [hx]; rfl
theorem so_dup (hd : decode M.2.1 pc = .ok (.dup, 1)) (hk : Sound M (pc + 1) k) : Sound M pc (o_dup k) := by
  refine so_step hk fun L S h r hr => ?_
  obtain ⟨a, S1, rfl, hr1⟩ := a_popV_some hr
  obtain ⟨hc, hr2⟩ := cond_some hr1
  refine ⟨L, _, hr2, ?_⟩
  intro p l e R s m args below meth c gv ad H locs cells slots ls st Q hC hL hS kk
  obtain ⟨v, st', rfl, hv, hS1⟩ := SR_cons hS
  exact lv_dup hC.1 hC.2.1 hd (vR_cat1 hv hc) (kk ls _ hL ⟨hv, hv, hS1⟩)
theorem so_pop (hd : decode M.2.1 pc = .ok (.pop, 1)) (hk : Sound M (pc + 1) k) : Sound M pc (o_pop k) := by
  refine so_step hk fun L S h r hr => ?_
  obtain ⟨a, S1, rfl, hr1⟩ := a_popV_some hr
  obtain ⟨hc, hr2⟩ := cond_some hr1
  refine ⟨L, _, hr2, ?_⟩
  intro p l e R s m args below meth c gv ad H locs cells slots ls st Q hC hL hS kk
  obtain ⟨v, st', rfl, hv, hS1⟩ := SR_cons hS
  exact lv_pop hC.1 hC.2.1 hd (vR_cat1 hv hc) (kk ls _ hL hS1)
theorem so_dup2 (hd : decode M.2.1 pc = .ok (.dup2, 1)) (hk : Sound M (pc + 1) k) : Sound M pc (o_dup2 k) := by
  refine so_step hk fun L S h r hr => ?_
  obtain ⟨a, S1, rfl, hr1⟩ := a_popV_some hr
  obtain ⟨b, S2, rfl, hr2⟩ := a_popV_some hr1
  obtain ⟨hc, hr3⟩ := cond_some hr2
  obtain ⟨hc2, hr4⟩ := cond_some hr3
  refine ⟨L, _, hr4, ?_⟩
  intro p l e R s m args below meth c gv ad H locs cells slots ls st Q hC hL hS kk
  obtain ⟨v, st', rfl, hv, hS1⟩ := SR_cons hS
  obtain ⟨w, st'', rfl, hw, hS2⟩ := SR_cons hS1
  exact lv_dup2_11 hC.1 hC.2.1 hd (vR_cat1 hv hc) (vR_cat1 hw hc2) (kk ls _ hL ⟨hv, hw, hv, hw, hS2⟩)
/-! jumps -/
theorem so_goto {off : Int} {tgt : Nat} (hd : decode M.2.1 pc = .ok (.goto off, 3)) (ht : (pc : Int) + off = (tgt : Int)) (hk : Sound M tgt k) : Sound M pc k := by
  refine so_step hk fun L S h r hr => ⟨L, S, hr, ?_⟩
  intro p l e R s m args below meth c gv ad H locs cells slots ls st Q hC hL hS kk
  exact lv_goto hC.1 hC.2.1 hd ht (kk ls st hL hS)
def a_P (c : ClassFile.Cond) (x y : Int32) : Prop := match c with
  | .eq => x = y
  | .ne => ¬ x = y
  | .lt => x < y
  | .ge => y ≤ x
  | .gt => y < x
  | .le => x ≤ y
theorem a_cmp_iff (c : ClassFile.Cond) {x y : Nat} (hx : x < 4294967296) (hy : y < 4294967296) : a_cmp c x y = true ↔ a_P c (a_i32 x) (a_i32 y) := by
  cases c with
  | eq => exact a_eqb_iff hx hy
  | ne =>
    show Bool.not (a_eqb x y) = true ↔ ¬ _
    rw [← a_eqb_iff hx hy]
    cases a_eqb x y <;> simp
  | lt => exact a_lt_iff hx hy
  | ge => exact a_leb_iff hy hx
  | gt =>
    show a_lt y x = true ↔ a_i32 y < a_i32 x
    exact a_lt_iff hy hx
  | le => exact a_leb_iff hx hy
theorem a_bs_val (x : Int32) : ((a_bs x : Nat) : Int) = x.toInt + 2147483648 := by
  have h1 : -2147483648 ≤ x.toInt := Int32.minValue_le_toInt x
  show (((x.toInt + 2147483648).toNat : Nat) : Int) = _
  omega
theorem a_bias_bs {n : Nat} (h : n < 4294967296) : a_bias n = a_bs (a_i32 n) := by
  have h1 := a_bias_val h
  have h2 := a_bs_val (a_i32 n)
  omega
theorem a_cmpU_iff {c : ClassFile.Cond} {lo hi : Nat} {x y : Int32} {b : Bool} (h : a_cmpU c lo hi (a_bs y) = some b) (h1 : lo ≤ a_bs x) (h2 : a_bs x ≤ hi) : b = true ↔ a_P c x y := by
  have hx := a_bs_val x
  have hy := a_bs_val y
  have he : x = y ↔ x.toInt = y.toInt := Int32.toInt_inj.symm
  have two : ∀ {P R : Prop} (hP : Decidable P) (hR : Decidable R) {u v w : Option Bool}, True := fun _ _ => trivial
  cases c with
  | eq =>
    simp only [a_cmpU] at h
    by_cases q : (Nat.ble (Nat.succ hi) (a_bs y) || Nat.ble (Nat.succ (a_bs y)) lo) = true
    · rw [q] at h
      cases h
      simp only [Bool.or_eq_true, ble_iff] at q
      show false = true ↔ x = y
      rw [he]
      constructor
      · intro z; cases z
      · intro z; exfalso; rcases q with q | q <;> omega
    · simp only [Bool.not_eq_true] at q
      rw [q] at h
      cases h
  | ne =>
    simp only [a_cmpU] at h
    by_cases q : (Nat.ble (Nat.succ hi) (a_bs y) || Nat.ble (Nat.succ (a_bs y)) lo) = true
    · rw [q] at h
      cases h
      simp only [Bool.or_eq_true, ble_iff] at q
      show true = true ↔ ¬ x = y
      rw [he]
      constructor
      · intro _ z; rcases q with q | q <;> omega
      · intro _; rfl
    · simp only [Bool.not_eq_true] at q
      rw [q] at h
      cases h
  | lt =>
    simp only [a_cmpU] at h
    show b = true ↔ x < y
    rw [Int32.lt_iff_toInt_lt]
    cases q1 : Nat.ble (Nat.succ hi) (a_bs y)
    · rw [q1] at h
      cases q2 : Nat.ble (a_bs y) lo
      · rw [q2] at h; cases h
      · rw [q2] at h; cases h
        have := ble_iff.mp q2
        constructor
        · intro z; cases z
        · intro z; exfalso; omega
    · rw [q1] at h; cases h
      have := ble_iff.mp q1
      exact ⟨fun _ => by omega, fun _ => rfl⟩
  | ge =>
    simp only [a_cmpU] at h
    show b = true ↔ y ≤ x
    rw [Int32.le_iff_toInt_le]
    cases q1 : Nat.ble (Nat.succ hi) (a_bs y)
    · rw [q1] at h
      cases q2 : Nat.ble (a_bs y) lo
      · rw [q2] at h; cases h
      · rw [q2] at h; cases h
        have := ble_iff.mp q2
        exact ⟨fun _ => by omega, fun _ => rfl⟩
    · rw [q1] at h; cases h
      have := ble_iff.mp q1
      constructor
      · intro z; cases z
      · intro z; exfalso; omega
  | gt =>
    simp only [a_cmpU] at h
    show b = true ↔ y < x
    rw [Int32.lt_iff_toInt_lt]
    cases q1 : Nat.ble (Nat.succ (a_bs y)) lo
    · rw [q1] at h
      cases q2 : Nat.ble hi (a_bs y)
      · rw [q2] at h; cases h
      · rw [q2] at h; cases h
        have := ble_iff.mp q2
        constructor
        · intro z; cases z
        · intro z; exfalso; omega
    · rw [q1] at h; cases h
      have := ble_iff.mp q1
      exact ⟨fun _ => by omega, fun _ => rfl⟩
  | le =>
    simp only [a_cmpU] at h
    show b = true ↔ x ≤ y
    rw [Int32.le_iff_toInt_le]
    cases q1 : Nat.ble (Nat.succ (a_bs y)) lo
    · rw [q1] at h
      cases q2 : Nat.ble hi (a_bs y)
      · rw [q2] at h; cases h
      · rw [q2] at h; cases h
        have := ble_iff.mp q2
        exact ⟨fun _ => by omega, fun _ => rfl⟩
    · rw [q1] at h; cases h
      have := ble_iff.mp q1
      constructor
      · intro z; cases z
      · intro z; exfalso; omega
theorem a_P_swap (c : ClassFile.Cond) (x y : Int32) : a_P (a_swapC c) y x ↔ a_P c x y := by
  cases c with
  | eq => exact ⟨Eq.symm, Eq.symm⟩
  | ne => exact ⟨fun h q => h q.symm, fun h q => h q.symm⟩
  | lt => exact Iff.rfl
  | ge => exact Iff.rfl
  | gt => exact Iff.rfl
  | le => exact Iff.rfl
/-- a jump that hangs on a comparison of what lies on the stack: both ways are sound -/
theorem so_two {o : AK} (hk : Sound M pc' k) {tgt : Nat} (ht : Sound M tgt t)
    (hs : ∀ (L : ALs) (S : ASt) (h : AH) (r : ARes), o L S h = some r → ∃ (b : Bool) (S' : ASt), (a_if b (t L S' h) (k L S' h)) = some r ∧
      ∀ (p : Program) (l : Launch) (e : Env) (R : Room) (s : State) (m : MethodId) (args : Array Value) (below : List Frame) (meth : Method) (c : Code) (gv : Nat → Int32) (ad : List Nat) (H : Heap) (locs : List Loc) (cells slots : Nat) (ls : Array Slot) (st : List Value) (Q : State → Prop),
        CX M p R s m args meth c → SR gv ad S st → (∀ st', SR gv ad S' st' → W p l e R s m args below meth c H locs cells slots Q (F0 m (a_if b tgt pc') ls st')) → W p l e R s m args below meth c H locs cells slots Q (F0 m pc ls st)) : Sound M pc o := by
  intro L S h r hr
  obtain ⟨b, S', e1, e2⟩ := hs L S h r hr
  cases b
  · obtain ⟨h1, h2⟩ := hk L S' h r e1
    refine ⟨h1, ?_⟩
    intro p l e R s m args below meth c gv cA D A ws H locs cells slots n0 z0 ls st Q hC hW hc hz hrc hrz hL hS hF
    exact e2 p l e R s m args below meth c gv (adr ws) H locs cells slots ls st Q hC hS (fun st' hS' => h2 p l e R s m args below meth c gv cA D A ws H locs cells slots n0 z0 ls st' Q hC hW hc hz hrc hrz hL hS' hF)
  · obtain ⟨h1, h2⟩ := ht L S' h r e1
    refine ⟨h1, ?_⟩
    intro p l e R s m args below meth c gv cA D A ws H locs cells slots n0 z0 ls st Q hC hW hc hz hrc hrz hL hS hF
    exact e2 p l e R s m args below meth c gv (adr ws) H locs cells slots ls st Q hC hS (fun st' hS' => h2 p l e R s m args below meth c gv cA D A ws H locs cells slots n0 z0 ls st' Q hC hW hc hz hrc hrz hL hS' hF)
section
variable {p : Program} {l : Launch} {e : Env} {R : Room} {s : State} {m : MethodId} {args : Array Value} {below : List Frame} {meth : Method} {c : Code} {H : Heap} {locs : List Loc} {cells slots : Nat} {Q : State → Prop} {cc : ByteArray} {ls : Array Slot} {rest : List Value}
theorem w_icmp (hexec : p.tables.exec = Jvm.exec) (hb : c.code = cc) {cd : ClassFile.Cond} {x y : Int32} {off : Int} {tgt : Nat} (hd : decode cc pc = .ok (.if_icmp cd off, 3)) (ht : (pc : Int) + off = (tgt : Int))
    (kt : a_P cd x y → W p l e R s m args below meth c H locs cells slots Q (F0 m tgt ls rest)) (kf : ¬ a_P cd x y → W p l e R s m args below meth c H locs cells slots Q (F0 m (pc + 3) ls rest)) : W p l e R s m args below meth c H locs cells slots Q (F0 m pc ls (.int y :: .int x :: rest)) := by
  cases cd with
  | eq => exact lv_icmp_eq hexec hb hd ht kt kf
  | ne => exact lv_icmp_ne hexec hb hd ht kt (fun q => kf (fun z => z q))
  | lt => exact lv_icmp_lt hexec hb hd ht kt kf
  | ge => exact lv_icmp_ge hexec hb hd ht kt kf
  | gt => exact lv_icmp_gt hexec hb hd ht kt kf
  | le => exact lv_icmp_le hexec hb hd ht kt kf
theorem w_if (hexec : p.tables.exec = Jvm.exec) (hb : c.code = cc) {cd : ClassFile.Cond} {x : Int32} {off : Int} {tgt : Nat} (hd : decode cc pc = .ok (.ifCond cd off, 3)) (ht : (pc : Int) + off = (tgt : Int))
    (kt : a_P cd x 0 → W p l e R s m args below meth c H locs cells slots Q (F0 m tgt ls rest)) (kf : ¬ a_P cd x 0 → W p l e R s m args below meth c H locs cells slots Q (F0 m (pc + 3) ls rest)) : W p l e R s m args below meth c H locs cells slots Q (F0 m pc ls (.int x :: rest)) := by
  cases cd with
  | eq => exact lv_if_eq hexec hb hd ht kt kf
  | ne => exact lv_if_ne hexec hb hd ht kt (fun q => kf (fun z => z q))
  | lt => exact lv_if_lt hexec hb hd ht kt kf
  | ge => exact lv_if_ge hexec hb hd ht kt kf
  | gt => exact lv_if_gt hexec hb hd ht kt kf
  | le => exact lv_if_le hexec hb hd ht kt kf
end
theorem a_br_some {o : Option Bool} {L : ALs} {S : ASt} {h : AH} {r : ARes} (e : a_br t k o L S h = some r) : ∃ b, o = some b ∧ a_if b (t L S h) (k L S h) = some r := by
  match o, e with
  | some b, e => exact ⟨b, rfl, e⟩
theorem so_if {cd : ClassFile.Cond} {f : Nat → Nat → Bool} {off : Int} {tgt : Nat} (hd : decode M.2.1 pc = .ok (.ifCond cd off, 3)) (htg : (pc : Int) + off = (tgt : Int)) (hf : f = a_cmp cd) (ht : Sound M tgt t) (hk : Sound M (pc + 3) k) : Sound M pc (o_if cd f t k) := by
  subst hf
  refine so_two hk ht fun L S h r hr => ?_
  obtain ⟨a, S1, rfl, hr1⟩ := a_popV_some hr
  rcases a_isI_some hr1 with ⟨n, rfl, hr2⟩ | ⟨g, lo, hi, rfl, hr2⟩
  · refine ⟨_, S1, hr2, ?_⟩
    intro p l e R s m args below meth c gv ad H locs cells slots ls st Q hC hS kk
    obtain ⟨v, st', rfl, ⟨hn, rfl⟩, hS1⟩ := SR_cons hS
    have hi := a_cmp_iff cd hn (show 0 < 4294967296 by decide)
    refine w_if hC.1 hC.2.1 hd htg (fun q => ?_) (fun q => ?_)
    · have := kk st' hS1
      rw [hi.mpr q] at this
      exact this
    · have := kk st' hS1
      rw [show a_cmp cd n 0 = false from by
        cases z : a_cmp cd n 0
        · rfl
        · exact absurd (hi.mp z) q] at this
      exact this
  · obtain ⟨b, hb, hr3⟩ := a_br_some hr2
    refine ⟨b, S1, hr3, ?_⟩
    intro p l e R s m args below meth c gv ad H locs cells slots ls st Q hC hS kk
    obtain ⟨v, st', rfl, ⟨x, rfl, h1, h2, -⟩, hS1⟩ := SR_cons hS
    have hi : b = true ↔ a_P cd x 0 := a_cmpU_iff (y := 0) hb h1 h2
    refine w_if hC.1 hC.2.1 hd htg (fun q => ?_) (fun q => ?_)
    · have := kk st' hS1
      rw [hi.mpr q] at this
      exact this
    · have := kk st' hS1
      rw [show b = false from by
        cases z : b
        · rfl
        · exact absurd (hi.mp z) q] at this
      exact this
theorem so_icmp {cd : ClassFile.Cond} {f : Nat → Nat → Bool} {off : Int} {tgt : Nat} (hd : decode M.2.1 pc = .ok (.if_icmp cd off, 3)) (htg : (pc : Int) + off = (tgt : Int)) (hf : f = a_cmp cd) (ht : Sound M tgt t) (hk : Sound M (pc + 3) k) : Sound M pc (o_icmp cd f t k) := by
  subst hf
  refine so_two hk ht fun L S h r hr => ?_
  obtain ⟨w, S1, rfl, hr1⟩ := a_popV_some hr
  obtain ⟨v, S2, rfl, hr2⟩ := a_popV_some hr1
  have fin : ∀ (b : Bool) (hr : a_if b (t L S2 h) (k L S2 h) = some r) (hP : ∀ (gv : Nat → Int32) (ad : List Nat) (x y : Value), vR gv ad v x → vR gv ad w y → ∃ x' y' : Int32, x = .int x' ∧ y = .int y' ∧ (b = true ↔ a_P cd x' y')), ∃ (b : Bool) (S' : ASt), (a_if b (t L S' h) (k L S' h)) = some r ∧
      ∀ (p : Program) (l : Launch) (e : Env) (R : Room) (s : State) (m : MethodId) (args : Array Value) (below : List Frame) (meth : Method) (c : Code) (gv : Nat → Int32) (ad : List Nat) (H : Heap) (locs : List Loc) (cells slots : Nat) (ls : Array Slot) (st : List Value) (Q : State → Prop),
        CX M p R s m args meth c → SR gv ad (w :: v :: S2) st → (∀ st', SR gv ad S' st' → W p l e R s m args below meth c H locs cells slots Q (F0 m (a_if b tgt (pc + 3)) ls st')) → W p l e R s m args below meth c H locs cells slots Q (F0 m pc ls st) := by
    intro b hr hP
    refine ⟨b, S2, hr, ?_⟩
    intro p l e R s m args below meth c gv ad H locs cells slots ls st Q hC hS kk
    obtain ⟨yv, st', rfl, hy, hS1⟩ := SR_cons hS
    obtain ⟨xv, st'', rfl, hx, hS2⟩ := SR_cons hS1
    obtain ⟨x, y, rfl, rfl, hi⟩ := hP gv ad xv yv hx hy
    refine w_icmp hC.1 hC.2.1 hd htg (fun q => ?_) (fun q => ?_)
    · have := kk st'' hS2
      rw [hi.mpr q] at this
      exact this
    · have := kk st'' hS2
      rw [show b = false from by
        cases z : b
        · rfl
        · exact absurd (hi.mp z) q] at this
      exact this
  rcases a_isI_some hr2 with ⟨n, rfl, hr3⟩ | ⟨g, lo, hi, rfl, hr3⟩
  · rcases a_isI_some hr3 with ⟨m, rfl, hr4⟩ | ⟨g, lo, hi, rfl, hr4⟩
    · exact fin _ hr4 (fun gv ad x y hx hy => ⟨_, _, hx.2, hy.2, a_cmp_iff cd hx.1 hy.1⟩)
    · obtain ⟨b, hb, hr5⟩ := a_br_some hr4
      refine fin b hr5 (fun gv ad x y hx hy => ?_)
      obtain ⟨z, hz, h1, h2, -⟩ := hy
      refine ⟨_, z, hx.2, hz, ?_⟩
      rw [a_bias_bs hx.1] at hb
      exact (a_cmpU_iff hb h1 h2).trans (a_P_swap cd _ _)
  · rcases a_isI_some hr3 with ⟨m, rfl, hr4⟩ | ⟨g, lo, hi, rfl, hr4⟩
    · obtain ⟨b, hb, hr5⟩ := a_br_some hr4
      refine fin b hr5 (fun gv ad x y hx hy => ?_)
      obtain ⟨z, hz, h1, h2, -⟩ := hx
      refine ⟨z, _, hz, hy.2, ?_⟩
      rw [a_bias_bs hy.1] at hb
      exact a_cmpU_iff hb h1 h2
    · cases hr4
theorem so_ifnull {off : Int} (hd : decode M.2.1 pc = .ok (.ifnull off, 3)) (hk : Sound M (pc + 3) k) : Sound M pc (o_ifnull t k) := by
  refine so_step hk fun L S h r hr => ?_
  obtain ⟨n, S1, rfl, hr1⟩ := a_popC_some hr
  refine ⟨L, S1, hr1, ?_⟩
  intro p l e R s m args below meth c gv ad H locs cells slots ls st Q hC hL hS kk
  obtain ⟨v, st', rfl, ⟨x, hx, rfl⟩, hS1⟩ := SR_cons hS
  exact lv_ifnull hC.1 hC.2.1 hd (kk ls st' hL hS1)
end
