/-! ===== claims in a row: runs that stop and go on, with what is known of ints told anew at a stop ===== -/
/-- all that a run from here gives -/
def CG (gv : Nat → Int32) (M : AM) (pc : Nat) (L : ALs) (S : ASt) (h : AH) (r : ARes) : Prop := a_le h (a_rh r) ∧ rOK M.2.2.2.1 r ∧ ClaimG gv M pc L S h r
theorem CG_run {gv : Nat → Int32} {M : AM} {pc : Nat} {k : AK} (hs : Sound M pc k) {L : ALs} {S : ASt} {h : AH} {r : ARes} (hr : k L S h = some r) : CG gv M pc L S h r := by
  obtain ⟨⟨h1, h2⟩, h3⟩ := hs L S h r hr
  exact ⟨h1, h2, Claim_G h3 gv⟩
theorem CG_trans {gv : Nat → Int32} {M : AM} {pc pc' : Nat} {L L' : ALs} {S S' : ASt} {h h' : AH} {r : ARes} (h1 : CG gv M pc L S h (.inr (pc', L', S', h'))) (h2 : CG gv M pc' L' S' h' r) : CG gv M pc L S h r := by
  obtain ⟨a1, -, c1⟩ := h1
  obtain ⟨a2, b2, c2⟩ := h2
  have a1 : a_le h h' := a1
  refine ⟨⟨Nat.le_trans a1.1 a2.1, Nat.le_trans a1.2 a2.2⟩, b2, ?_⟩
  intro p l e R s m args below meth c cA D A ws H locs cells slots n0 z0 ls st Q hC hW hc hz hrc hrz hL hS hF
  refine c1 p l e R s m args below meth c cA D A ws H locs cells slots n0 z0 ls st Q hC hW hc hz (Nat.le_trans a2.1 hrc) (Nat.le_trans a2.2 hrz) hL hS ?_
  intro ws' H' locs' cells' slots' ls' st' hW' hext hc' hz' hL' hS'
  exact c2 p l e R s m args below meth c cA D A ws' H' locs' cells' slots' n0 z0 ls' st' Q hC hW' hc' hz' hrc hrz hL' hS' (Fin_ext hext hF)
/-- what is known of the locals may be told otherwise, by what they are -/
theorem CG_locals {gv : Nat → Int32} {M : AM} {pc : Nat} {L : ALs} {S : ASt} {h : AH} {r : ARes} (h0 : ∃ L', CG gv M pc L' S h r)
    (hk : ∀ (ad : List Nat) (ls : Array Slot), LR gv ad ls M.2.2.1 L → ∃ L', CG gv M pc L' S h r ∧ LR gv ad ls M.2.2.1 L') : CG gv M pc L S h r := by
  obtain ⟨L0, a0, b0, -⟩ := h0
  refine ⟨a0, b0, ?_⟩
  intro p l e R s m args below meth c cA D A ws H locs cells slots n0 z0 ls st Q hC hW hc hz hrc hrz hL hS hF
  obtain ⟨L', g1, g2⟩ := hk (adr ws) ls hL
  exact g1.2.2 p l e R s m args below meth c cA D A ws H locs cells slots n0 z0 ls st Q hC hW hc hz hrc hrz g2 hS hF
/-- one local told otherwise -/
theorem LR_at {gv : Nat → Int32} {ad : List Nat} {ls : Array Slot} {n : Nat} {L : ALs} (h : LR gv ad ls n L) {i : Nat} {a b : AV} (hi : L[i]? = some (some a)) (hv : ∀ v, vR gv ad a v → vR gv ad b v) : LR gv ad ls n (L.set i (some b)) := by
  obtain ⟨lv, h1, h2, h3⟩ := h
  refine ⟨lv, h1, by rw [List.length_set]; exact h2, fun j c hj => ?_⟩
  by_cases e : i = j
  · subst e
    rw [List.getElem?_set_self (List.getElem?_eq_some_iff.mp hi).1] at hj
    cases hj
    obtain ⟨v, g1, g2⟩ := h3 i a hi
    exact ⟨v, g1, hv v g2⟩
  · rw [List.getElem?_set_ne e] at hj
    exact h3 j c hj
theorem CG_weak {gv : Nat → Int32} {M : AM} {pc : Nat} {L : ALs} {S : ASt} {h : AH} {r : ARes} {i : Nat} {a b : AV} (hi : L[i]? = some (some a)) (hv : ∀ (ad : List Nat) (v : Value), vR gv ad a v → vR gv ad b v) (hc : CG gv M pc (L.set i (some b)) S h r) : CG gv M pc L S h r :=
  CG_locals ⟨_, hc⟩ (fun ad _ hL => ⟨_, hc, LR_at hL hi (hv ad)⟩)
/-- a tag: of which one (0: none), which bit, what it is -/
def a_tg (b s v : Nat) : Nat := 1048576 * (b + 1) + (1024 * 2 ^ s + v * 2 ^ s)
theorem tg_div {b s v : Nat} (hs : s < 10) (hv : v < 2) : a_tg b s v / 1048576 = b + 1 ∧ Nat.mod (Nat.div (a_tg b s v) 1024) 1024 = 2 ^ s ∧ Nat.mod (a_tg b s v) 1024 = v * 2 ^ s := by
  have h2 : 2 ^ s ≤ 512 := Nat.pow_le_pow_right (by decide) (by omega : s ≤ 9)
  have h1 : 1 ≤ 2 ^ s := Nat.one_le_two_pow
  have h3 : v * 2 ^ s ≤ 512 := by
    rcases (by omega : v = 0 ∨ v = 1) with rfl | rfl <;> omega
  unfold a_tg
  refine ⟨by omega, ?_, ?_⟩
  · show (1048576 * (b + 1) + (1024 * 2 ^ s + v * 2 ^ s)) / 1024 % 1024 = 2 ^ s
    omega
  · show (1048576 * (b + 1) + (1024 * 2 ^ s + v * 2 ^ s)) % 1024 = v * 2 ^ s
    omega
/-- nothing known but of which one it is, and bounds -/
abbrev aB (b lo hi : Nat) : AV := aU (1048576 * (b + 1)) lo hi
theorem vB_tag {gv : Nat → Int32} {ad : List Nat} {b lo hi s : Nat} {v : Value} (hs : s < 10) (h0 : 2147483648 ≤ lo) (h : vR gv ad (aB b lo hi) v) : ∃ d, d < 2 ∧ vR gv ad (aU (a_tg b s d) lo hi) v := by
  obtain ⟨x, rfl, q1, q2, q3⟩ := h
  obtain ⟨n, hn⟩ : ∃ n, x.toNatClampNeg = n := ⟨_, rfl⟩
  have hd : n / 2 ^ s % 2 < 2 := Nat.mod_lt _ (by decide)
  obtain ⟨t1, t2, t3⟩ := tg_div (b := b) hs hd
  refine ⟨n / 2 ^ s % 2, hd, x, rfl, q1, q2, fun z => ?_, fun z => ?_, fun z => ?_⟩
  · have : 1048576 ≤ a_tg b s (n / 2 ^ s % 2) := by unfold a_tg; omega
    omega
  · rw [t1]
    have z2 : 2097152 ≤ 1048576 * (b + 1) := by
      have : 1 ≤ b := by omega
      omega
    have := q3.2.1 z2
    rw [this, show 1048576 * (b + 1) / 1048576 = b + 1 by omega]
  · rw [t2, t3, hn]
    show n &&& 2 ^ s = n / 2 ^ s % 2 * 2 ^ s
    have hb : n.testBit s = decide (n / 2 ^ s % 2 = 1) := Nat.testBit_eq_decide_div_mod_eq
    apply Nat.eq_of_testBit_eq
    intro j
    rw [Nat.testBit_and, Nat.testBit_two_pow]
    rcases (by omega : n / 2 ^ s % 2 = 0 ∨ n / 2 ^ s % 2 = 1) with e | e
    · rw [e, Nat.zero_mul, Nat.zero_testBit]
      by_cases hj : s = j
      · subst hj
        rw [hb, e]
        simp
      · simp [hj]
    · rw [e, Nat.one_mul, Nat.testBit_two_pow]
      by_cases hj : s = j
      · subst hj
        rw [hb, e]
        simp
      · simp [hj]
theorem vB_un {gv : Nat → Int32} {ad : List Nat} {b lo hi s d : Nat} {v : Value} (hs : s < 10) (hd : d < 2) (h : vR gv ad (aU (a_tg b s d) lo hi) v) : vR gv ad (aB b lo hi) v := by
  obtain ⟨x, rfl, q1, q2, q3⟩ := h
  obtain ⟨t1, t2, t3⟩ := tg_div (b := b) hs hd
  refine ⟨x, rfl, q1, q2, fun z => absurd z (by omega), fun z => ?_, fun z => ?_⟩
  · have h1 : 1 ≤ b := by omega
    have := q3.2.1 (by unfold a_tg; omega)
    rw [this, t1, show 1048576 * (b + 1) / 1048576 = b + 1 by omega]
  · show x.toNatClampNeg &&& (1048576 * (b + 1) / 1024 % 1024) = 1048576 * (b + 1) % 1024
    rw [show 1048576 * (b + 1) / 1024 % 1024 = 0 by omega, show 1048576 * (b + 1) % 1024 = 0 by omega, Nat.and_zero]
/-- an int without a tag has one that says nothing -/
theorem vB_of {gv : Nat → Int32} {ad : List Nat} {g lo hi : Nat} {v : Value} (h : vR gv ad (aU g lo hi) v) : vR gv ad (aB 0 lo hi) v := by
  obtain ⟨x, rfl, q1, q2, -⟩ := h
  refine ⟨x, rfl, q1, q2, fun z => absurd z (by decide), fun z => absurd z (by decide), fun z => ?_⟩
  show x.toNatClampNeg &&& 0 = 0
  exact Nat.and_zero _
/-- both ways of a bit -/
theorem CG_bit {gv : Nat → Int32} {M : AM} {pc : Nat} {L : ALs} {S : ASt} {h : AH} {r : ARes} {i b lo up : Nat} (s : Nat) (hi : L[i]? = some (some (aB b lo up))) (hs : s < 10) (h0 : 2147483648 ≤ lo) (hc : ∀ d, d < 2 → CG gv M pc (L.set i (some (aU (a_tg b s d) lo up))) S h r) : CG gv M pc L S h r := by
  refine CG_locals ⟨_, hc 0 (by decide)⟩ (fun ad ls hL => ?_)
  obtain ⟨lv, h1, h2, h3⟩ := hL
  obtain ⟨v, g1, g2⟩ := h3 i _ hi
  obtain ⟨d, e1, e2⟩ := vB_tag hs h0 g2
  refine ⟨_, hc d e1, lv, h1, by rw [List.length_set]; exact h2, fun j c hj => ?_⟩
  by_cases e : i = j
  · subst e
    rw [List.getElem?_set_self (List.getElem?_eq_some_iff.mp hi).1] at hj
    cases hj
    exact ⟨v, g1, e2⟩
  · rw [List.getElem?_set_ne e] at hj
    exact h3 j c hj
/-- a call whose callee is told by its claim -/
theorem CG_call {M My : AM} {pc : Nat} {y : MethodName} {sh : List Bool} {pad : ALs} {n : Nat} (cf : CF My y sh pad n) (hfr : My.2.2.2.2.2 + 1 ≤ M.2.2.2.2.2) {X : List AV → AH → Prop} (mk : MK M My pc y sh X) {gv : Nat → Int32} {As : List AV} {S' : ASt} {v : Option AV} {L : ALs} {h h1 : AH} {r : ARes} (hn : As.length = sh.length) (hlay : (a_lay As).length = a_shw sh) (hs4 : a_cw S' ≤ 8) (hX : X As h)
    (hcle : CG gv My 0 (a_lay As ++ pad) [] h (.inl (v, h1))) (hcl : CG gv M (pc + 3) L (v.toList ++ S') h1 r) : CG gv M pc L (As.reverse ++ S') h r := by
  obtain ⟨a1, b1, c1⟩ := hcle
  obtain ⟨a2, b2, c2⟩ := hcl
  have a1 : a_le h h1 := a1
  exact ⟨⟨Nat.le_trans a1.1 a2.1, Nat.le_trans a1.2 a2.2⟩, b2, cg_call0 cf hfr X mk hn hlay hs4 hX a1 b1 c1 a2 c2⟩
