/-! ===== ints of which some bits are known ===== -/
/-- a bit, where it is known -/
noncomputable def a_bit (v : AV) (s : Nat) : Option Nat := @Sum.rec _ _ (fun _ => Option Nat) (fun x => a_if (Nat.ble x 1023) (some (Nat.land (Nat.shiftRight x s) 1)) none) (fun w => @Sum.rec _ _ (fun _ => Option Nat) (fun _ => none) (fun z => @Sum.rec _ _ (fun _ => Option Nat) (fun _ => none) (fun q => a_if (Nat.ble 1048576 q.1) (a_if (Nat.ble 2147483648 q.2.1) (a_if (Nat.ble q.2.2 2147484671) (a_if (Nat.beq (Nat.land (Nat.shiftRight (Nat.mod (Nat.div q.1 1024) 1024) s) 1) 1) (some (Nat.land (Nat.shiftRight (Nat.mod q.1 1024) s) 1)) none) none) none) none) z) w) v
/-- shifted to the right, and with one -/
noncomputable def o_sa1 (k : AK) : AK := fun L S h => a_popI S fun s S => a_popV S fun v S => a_if (Nat.ble s 9) (@Option.rec Nat (fun _ => AO) none (fun b => k L (aI b :: S) h) (a_bit v s)) none
/-- both together, shifted to the right by a local, and with one -/
noncomputable def o_osa (i : Nat) (k : AK) : AK := fun L S h => a_popV S fun w S => a_popV S fun v S => a_lget L i fun u => a_isI u (fun s => a_if (Nat.ble s 9) (@Option.rec Nat (fun _ => AO) none (fun b => @Option.rec Nat (fun _ => AO) none (fun d => k L (aI (Nat.lor b d) :: S) h) (a_bit w s)) (a_bit v s)) none) (fun _ _ _ => none)
/-- below 1024 -/
noncomputable def a_k10 (v : AV) : Bool := @Sum.rec _ _ (fun _ => Bool) (fun x => Nat.ble x 1023) (fun w => @Sum.rec _ _ (fun _ => Bool) (fun _ => false) (fun z => @Sum.rec _ _ (fun _ => Bool) (fun _ => false) (fun q => a_if (Nat.ble 2147483648 q.2.1) (Nat.ble q.2.2 2147484671) false) z) w) v
/-- two ints below 1024, together: below 1024 -/
noncomputable def o_orG (k : AK) : AK := fun L S h => a_popV S fun w S => a_popV S fun v S => a_if (a_k10 v) (a_if (a_k10 w) (k L (aU 0 2147483648 2147484671 :: S) h) none) none
theorem if_some {α : Type} {b : Bool} {x : Option α} {r : α} (h : a_if b x none = some r) : b = true ∧ x = some r := by
  cases b
  · cases h
  · exact ⟨rfl, h⟩
theorem bs_i32 {x : Int32} {hi : Nat} (h0 : 2147483648 ≤ a_bs x) (h1 : a_bs x ≤ 2147483648 + hi) (h2 : hi < 2147483648) : ∃ n, n ≤ hi ∧ x = a_i32 n ∧ x.toNatClampNeg = n := by
  have h := a_bs_val x
  have e : x.toNatClampNeg = x.toInt.toNat := rfl
  refine ⟨a_bs x - 2147483648, by omega, ?_, by omega⟩
  apply Int32.toInt.inj
  rw [t32 (by omega), if_pos (by omega)]
  omega
theorem a_bit_ok {v : AV} {s b : Nat} (h : a_bit v s = some b) : (∃ n, n < 1024 ∧ Nat.land (Nat.shiftRight n s) 1 = b) ∧ ∀ (gv : Nat → Int32) (ad : List Nat) (x : Value), vR gv ad v x → ∃ n, n < 1024 ∧ x = .int (a_i32 n) ∧ Nat.land (Nat.shiftRight n s) 1 = b := by
  match v, h with
  | .inl n, h =>
    obtain ⟨h1, h2⟩ := if_some h
    cases h2
    have h1 : n ≤ 1023 := ble_iff.mp h1
    exact ⟨⟨n, by omega, rfl⟩, fun gv ad x hx => ⟨n, by omega, hx.2, rfl⟩⟩
  | .inr (.inr (.inr (g, lo, hi))), h =>
    obtain ⟨h1, h⟩ := if_some h
    obtain ⟨h2, h⟩ := if_some h
    obtain ⟨h3, h⟩ := if_some h
    obtain ⟨h4, h⟩ := if_some h
    cases h
    have h1 : 1048576 ≤ g := ble_iff.mp h1
    have h2 : 2147483648 ≤ lo := ble_iff.mp h2
    have h3 : hi ≤ 2147484671 := ble_iff.mp h3
    have h4 : Nat.land (Nat.shiftRight (Nat.mod (Nat.div g 1024) 1024) s) 1 = 1 := beq_iff.mp h4
    refine ⟨⟨Nat.mod g 1024, Nat.mod_lt _ (by decide), rfl⟩, fun gv ad x hx => ?_⟩
    obtain ⟨y, rfl, q1, q2, q3⟩ := hx
    obtain ⟨n, z1, z2, z3⟩ := bs_i32 (x := y) (hi := 1023) (by omega) (by omega) (by decide)
    have q4 := q3.2.2 h1
    rw [z3] at q4
    refine ⟨n, by omega, by rw [z2], ?_⟩
    show Nat.land (Nat.shiftRight n s) 1 = Nat.land (Nat.shiftRight (Nat.mod g 1024) s) 1
    rw [← q4]
    show (n >>> s) &&& 1 = ((n &&& (g / 1024 % 1024)) >>> s) &&& 1
    have h4 : ((g / 1024 % 1024) >>> s) &&& 1 = 1 := h4
    rw [Nat.shiftRight_and_distrib, Nat.and_assoc, h4]
theorem so_ref {M : AM} {pc : Nat} {k k' : AK} (hk : Sound M pc k) (hi : ∀ (L : ALs) (S : ASt) (h : AH) (r : ARes), k' L S h = some r → (∃ S0, k L S0 h = some r) ∧ ∀ (gv : Nat → Int32) (ad : List Nat) (st : List Value), SR gv ad S st → ∃ S1, k L S1 h = some r ∧ SR gv ad S1 st) : Sound M pc k' := by
  intro L S h r hr
  obtain ⟨⟨S0, h0⟩, h1⟩ := hi L S h r hr
  refine ⟨(hk L S0 h r h0).1, ?_⟩
  intro p l e R s m args below meth c gv cA D A ws H locs cells slots n0 z0 ls st Q hC hW hc hz hrc hrz hL hS hF
  obtain ⟨S1, g1, g2⟩ := h1 gv (adr ws) st hS
  exact (hk L S1 h r g1).2 p l e R s m args below meth c gv cA D A ws H locs cells slots n0 z0 ls st Q hC hW hc hz hrc hrz hL g2 hF
theorem shr_small {n s : Nat} (hn : n < 1024) (hs : s ≤ 9) : a_shr n s = Nat.shiftRight n s := by
  have e : Nat.ble n 2147483647 = true := ble_iff.mpr (by omega)
  have e2 : Nat.mod s 32 = s := Nat.mod_eq_of_lt (by omega)
  unfold a_shr
  rw [e, e2]
  rfl
section
variable {M : AM} {pc pc' : Nat} {k t : AK}
theorem so_sa1 (hk : Sound M pc (o_bin a_shr (o_ldc 1 (o_bin Nat.land k)))) : Sound M pc (o_sa1 k) := by
  refine so_ref hk (fun L S h r hr => ?_)
  obtain ⟨s, S1, rfl, hr1⟩ := a_popI_some hr
  obtain ⟨v, S2, rfl, hr2⟩ := a_popV_some hr1
  obtain ⟨hs, hr3⟩ := cond_some hr2
  have hs : s ≤ 9 := ble_iff.mp hs
  match hb : a_bit v s, hr3 with
  | some b, hr3 =>
    obtain ⟨⟨n0, a1, a2⟩, a3⟩ := a_bit_ok hb
    have go : ∀ n, n < 1024 → Nat.land (Nat.shiftRight n s) 1 = b → o_bin a_shr (o_ldc 1 (o_bin Nat.land k)) L (aI s :: aI n :: S2) h = some r := by
      intro n h1 h2
      show k L (aI (Nat.land (a_shr n s) 1) :: S2) h = some r
      rw [shr_small h1 hs, h2]
      exact hr3
    refine ⟨⟨_, go n0 a1 a2⟩, fun gv ad st hS => ?_⟩
    obtain ⟨v1, st1, rfl, g1, hS1⟩ := SR_cons hS
    obtain ⟨v2, st2, rfl, g2, hS2⟩ := SR_cons hS1
    obtain ⟨n, b1, rfl, b2⟩ := a3 gv ad v2 g2
    exact ⟨_, go n b1 b2, g1, ⟨by omega, rfl⟩, hS2⟩
theorem so_osa {i : Nat} (hk : Sound M pc (o_bin Nat.lor (o_iload i (o_bin a_shr (o_ldc 1 (o_bin Nat.land k)))))) : Sound M pc (o_osa i k) := by
  refine so_ref hk (fun L S h r hr => ?_)
  obtain ⟨w, S1, rfl, hr1⟩ := a_popV_some hr
  obtain ⟨v, S2, rfl, hr2⟩ := a_popV_some hr1
  obtain ⟨u, hu, hr3⟩ := a_lget_some hr2
  rcases a_isI_some hr3 with ⟨s, rfl, hr4⟩ | ⟨g, lo, hi, rfl, hr4⟩
  · obtain ⟨hs, hr5⟩ := cond_some hr4
    have hs : s ≤ 9 := ble_iff.mp hs
    match hb : a_bit v s, hr5 with
    | some b, hr5 =>
      match hd : a_bit w s, hr5 with
      | some d, hr5 =>
        obtain ⟨⟨n0, a1, a2⟩, a3⟩ := a_bit_ok hb
        obtain ⟨⟨m0, c1, c2⟩, c3⟩ := a_bit_ok hd
        have go : ∀ n m, n < 1024 → Nat.land (Nat.shiftRight n s) 1 = b → m < 1024 → Nat.land (Nat.shiftRight m s) 1 = d → o_bin Nat.lor (o_iload i (o_bin a_shr (o_ldc 1 (o_bin Nat.land k)))) L (aI m :: aI n :: S2) h = some r := by
          intro n m h1 h2 h3 h4
          show a_lget L i (fun v => a_isI v (fun x => o_bin a_shr (o_ldc 1 (o_bin Nat.land k)) L (aI x :: aI (Nat.lor n m) :: S2) h) (fun g lo hi => o_bin a_shr (o_ldc 1 (o_bin Nat.land k)) L (aU g lo hi :: aI (Nat.lor n m) :: S2) h)) = some r
          unfold a_lget
          rw [a_nth_eq, hu]
          show k L (aI (Nat.land (a_shr (Nat.lor n m) s) 1) :: S2) h = some r
          have hl : Nat.lor n m < 1024 := Nat.or_lt_two_pow (n := 10) h1 h3
          rw [shr_small hl hs]
          have e : Nat.land (Nat.shiftRight (Nat.lor n m) s) 1 = Nat.lor b d := by
            rw [← h2, ← h4]
            show ((n ||| m) >>> s) &&& 1 = ((n >>> s) &&& 1) ||| ((m >>> s) &&& 1)
            rw [Nat.shiftRight_or_distrib, Nat.and_or_distrib_right]
          rw [e]
          exact hr5
        refine ⟨⟨_, go n0 m0 a1 a2 c1 c2⟩, fun gv ad st hS => ?_⟩
        obtain ⟨v1, st1, rfl, g1, hS1⟩ := SR_cons hS
        obtain ⟨v2, st2, rfl, g2, hS2⟩ := SR_cons hS1
        obtain ⟨n, b1, rfl, b2⟩ := a3 gv ad v2 g2
        obtain ⟨m, d1, rfl, d2⟩ := c3 gv ad v1 g1
        exact ⟨_, go n m b1 b2 d1 d2, ⟨by omega, rfl⟩, ⟨by omega, rfl⟩, hS2⟩
  · cases hr4
theorem a_k10_ok {v : AV} (h : a_k10 v = true) {gv : Nat → Int32} {ad : List Nat} {x : Value} (hx : vR gv ad v x) : ∃ n, n < 1024 ∧ x = .int (a_i32 n) := by
  match v, h with
  | .inl n, h => exact ⟨n, by have h : n ≤ 1023 := ble_iff.mp h; omega, hx.2⟩
  | .inr (.inr (.inr (g, lo, hi))), h =>
    have h : a_if (Nat.ble 2147483648 lo) (Nat.ble hi 2147484671) false = true := h
    cases h1 : Nat.ble 2147483648 lo
    · rw [h1] at h; cases h
    · rw [h1] at h
      have h1 : 2147483648 ≤ lo := ble_iff.mp h1
      have h2 : hi ≤ 2147484671 := ble_iff.mp h
      obtain ⟨y, rfl, q1, q2, -⟩ := hx
      obtain ⟨n, z1, z2, -⟩ := bs_i32 (x := y) (hi := 1023) (by omega) (by omega) (by decide)
      exact ⟨n, by omega, by rw [z2]⟩
theorem so_orG (hd : decode M.2.1 pc = .ok (.ior, 1)) (hk : Sound M (pc + 1) k) : Sound M pc (o_orG k) := by
  refine so_step hk fun L S h r hr => ?_
  obtain ⟨w, S1, rfl, hr1⟩ := a_popV_some hr
  obtain ⟨v, S2, rfl, hr2⟩ := a_popV_some hr1
  obtain ⟨h1, hr3⟩ := cond_some hr2
  obtain ⟨h2, hr4⟩ := cond_some hr3
  refine ⟨L, _, hr4, ?_⟩
  intro p l e R s m args below meth c gv ad H locs cells slots ls st Q hC hL hS kk
  obtain ⟨v1, st', rfl, g1, hS1⟩ := SR_cons hS
  obtain ⟨v2, st'', rfl, g2, hS2⟩ := SR_cons hS1
  obtain ⟨n1, a1, rfl⟩ := a_k10_ok h2 g1
  obtain ⟨n2, a2, rfl⟩ := a_k10_ok h1 g2
  obtain ⟨e1, e2⟩ := i32_or (x := n2) (y := n1) (by omega) (by omega)
  have hl : Nat.lor n2 n1 < 1024 := Nat.or_lt_two_pow (n := 10) a2 a1
  refine lv_ior hC.1 hC.2.1 hd ?_
  rw [e1]
  refine kk ls _ hL ⟨⟨_, rfl, ?_, ?_, gR_0⟩, hS2⟩
  · have := a_bs_val (a_i32 (Nat.lor n2 n1))
    rw [t32 e2, if_pos (by omega)] at this
    omega
  · have := a_bs_val (a_i32 (Nat.lor n2 n1))
    rw [t32 e2, if_pos (by omega)] at this
    omega
end
/-- a switch on an int of which it is known that it is none of the cases -/
noncomputable def o_tswU (ts : List AK) (df : AK) : AK := fun L S h => a_popV S fun v S' => a_isI v (fun n => o_tsw 0 ts df L (aI n :: S') h) (fun _ lo hi => a_if (Nat.ble hi 2147483647) (df L S' h) (a_if (Nat.ble (Nat.add 2147483648 ts.length) lo) (df L S' h) none))
theorem i32_ex (x : Int32) : ∃ n, n < 4294967296 ∧ x = a_i32 n ∧ (a_bs x ≤ 2147483647 → 2147483648 ≤ n) ∧ (2147483648 ≤ a_bs x → n = a_bs x - 2147483648) := by
  have h := a_bs_val x
  have h1 : -2147483648 ≤ x.toInt := Int32.minValue_le_toInt x
  have h2 : x.toInt ≤ 2147483647 := Int32.toInt_le x
  by_cases h0 : a_bs x ≤ 2147483647
  · refine ⟨a_bs x + 2147483648, by omega, ?_, by omega, by omega⟩
    apply Int32.toInt.inj
    rw [t32 (by omega), if_neg (by omega)]
    omega
  · refine ⟨a_bs x - 2147483648, by omega, ?_, by omega, by omega⟩
    apply Int32.toInt.inj
    rw [t32 (by omega), if_pos (by omega)]
    omega
theorem so_tswU {M : AM} {pc : Nat} {ts : List AK} {df : AK} (hl : ts.length ≤ 1000) (hk : Sound M pc (o_tsw 0 ts df)) : Sound M pc (o_tswU ts df) := by
  refine so_ref hk (fun L S h r hr => ?_)
  obtain ⟨v, S1, rfl, hr1⟩ := a_popV_some hr
  rcases a_isI_some hr1 with ⟨n, rfl, hr2⟩ | ⟨g, lo, hi, rfl, hr2⟩
  · exact ⟨⟨_, hr2⟩, fun gv ad st hS => ⟨_, hr2, hS⟩⟩
  · have go : df L S1 h = some r → ∀ n, ts.length ≤ n → o_tsw 0 ts df L (aI n :: S1) h = some r := by
      intro hd n hn
      show a_if (Nat.ble (Nat.succ (Nat.sub n 0)) ts.length) (a_nth (fun k : AK => k L S1 h) ts (Nat.sub n 0)) (df L S1 h) = some r
      rw [show Nat.ble (Nat.succ (Nat.sub n 0)) ts.length = false from ble_no (fun q => by have q : n + 1 ≤ ts.length := q; omega)]
      exact hd
    cases hb : Nat.ble hi 2147483647
    · rw [hb] at hr2
      obtain ⟨h3, hr3⟩ := if_some hr2
      have h3 : 2147483648 + ts.length ≤ lo := ble_iff.mp h3
      refine ⟨⟨_, go hr3 2000 (by omega)⟩, fun gv ad st hS => ?_⟩
      obtain ⟨v1, st1, rfl, ⟨x, rfl, q1, q2, -⟩, hS1⟩ := SR_cons hS
      obtain ⟨n, e1, e2, e3, e4⟩ := i32_ex x
      exact ⟨_, go hr3 n (by have := e4 (by omega); omega), ⟨e1, by rw [e2]⟩, hS1⟩
    · rw [hb] at hr2
      have hb : hi ≤ 2147483647 := ble_iff.mp hb
      refine ⟨⟨_, go hr2 2000 (by omega)⟩, fun gv ad st hS => ?_⟩
      obtain ⟨v1, st1, rfl, ⟨x, rfl, q1, q2, -⟩, hS1⟩ := SR_cons hS
      obtain ⟨n, e1, e2, e3, e4⟩ := i32_ex x
      exact ⟨_, go hr2 n (by have := e3 (by omega); omega), ⟨e1, by rw [e2]⟩, hS1⟩
