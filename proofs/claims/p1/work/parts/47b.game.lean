/-! ===== loops over bits ===== -/
noncomputable def k_st : List (Nat × Nat) → Nat → Option Nat
  | [], _ => none
  | (a, b) :: l, t => a_if (Nat.beq t a) (some b) (k_st l t)
theorem k_st_ok : ∀ {l : List (Nat × Nat)}, (∀ q ∈ l, ∃ M, k_loops[q.1]? = some (M, q.2)) → q_st (k_st l)
  | [], _, t, p, M, pc, h1, _ => by cases h1
  | (a, b) :: l, h, t, p, M, pc, h1, h2 => by
    have h1 : a_if (Nat.beq t a) (some b) (k_st l t) = some p := h1
    cases hb : Nat.beq t a
    · rw [hb] at h1
      exact k_st_ok (fun q hq => h q (List.mem_cons_of_mem _ hq)) t p M pc h1 h2
    · rw [hb] at h1
      cases h1
      have hb := beq_iff.mp hb
      obtain ⟨M', h3⟩ := h (a, b) List.mem_cons_self
      rw [hb] at h2
      have h3 : k_loops[a]? = some (M', b) := h3
      rw [h3] at h2
      cases h2
      rfl
/-- some bit below s is one -/
def a_fl (n : Nat) : Nat → Nat
  | 0 => 0
  | s + 1 => Nat.lor (a_fl n s) (n / 2 ^ s % 2)
/-- of either -/
def a_f2 (n m : Nat) : Nat → Nat
  | 0 => 0
  | s + 1 => Nat.lor (a_f2 n m s) (Nat.lor (n / 2 ^ s % 2) (m / 2 ^ s % 2))
/-- how many bits below s are one -/
def a_pc (n : Nat) : Nat → Nat
  | 0 => 0
  | s + 1 => a_pc n s + n / 2 ^ s % 2
theorem lor_lt {a b : Nat} (ha : a < 2) (hb : b < 2) : Nat.lor a b < 2 := Nat.or_lt_two_pow (n := 1) ha hb
theorem bit_lt (n s : Nat) : n / 2 ^ s % 2 < 2 := Nat.mod_lt _ (by decide)
theorem a_fl_lt (n : Nat) : ∀ s, a_fl n s < 2
  | 0 => by unfold a_fl; decide
  | s + 1 => lor_lt (a_fl_lt n s) (bit_lt n s)
theorem a_f2_lt (n m : Nat) : ∀ s, a_f2 n m s < 2
  | 0 => by unfold a_f2; decide
  | s + 1 => lor_lt (a_f2_lt n m s) (lor_lt (bit_lt n s) (bit_lt m s))
theorem a_pc_le (n : Nat) : ∀ s, a_pc n s ≤ s
  | 0 => Nat.le_refl _
  | s + 1 => by
    have := a_pc_le n s
    have := bit_lt n s
    show a_pc n s + n / 2 ^ s % 2 ≤ s + 1
    omega
theorem a_f2_or (n m : Nat) : ∀ s, a_f2 n m s = Nat.lor (a_fl n s) (a_fl m s)
  | 0 => by unfold a_f2 a_fl; rfl
  | s + 1 => by
    have h := a_f2_or n m s
    show Nat.lor (a_f2 n m s) (Nat.lor (n / 2 ^ s % 2) (m / 2 ^ s % 2)) = Nat.lor (Nat.lor (a_fl n s) (n / 2 ^ s % 2)) (Nat.lor (a_fl m s) (m / 2 ^ s % 2))
    rw [h]
    have h1 := a_fl_lt n s
    have h2 := a_fl_lt m s
    have h3 := bit_lt n s
    have h4 := bit_lt m s
    generalize a_fl n s = a at *
    generalize a_fl m s = b at *
    generalize n / 2 ^ s % 2 = c at *
    generalize m / 2 ^ s % 2 = d at *
    match a, b, c, d, h1, h2, h3, h4 with
    | 0, 0, 0, 0, _, _, _, _ => rfl
    | 0, 0, 0, 1, _, _, _, _ => rfl
    | 0, 0, 1, 0, _, _, _, _ => rfl
    | 0, 0, 1, 1, _, _, _, _ => rfl
    | 0, 1, 0, 0, _, _, _, _ => rfl
    | 0, 1, 0, 1, _, _, _, _ => rfl
    | 0, 1, 1, 0, _, _, _, _ => rfl
    | 0, 1, 1, 1, _, _, _, _ => rfl
    | 1, 0, 0, 0, _, _, _, _ => rfl
    | 1, 0, 0, 1, _, _, _, _ => rfl
    | 1, 0, 1, 0, _, _, _, _ => rfl
    | 1, 0, 1, 1, _, _, _, _ => rfl
    | 1, 1, 0, 0, _, _, _, _ => rfl
    | 1, 1, 0, 1, _, _, _, _ => rfl
    | 1, 1, 1, 0, _, _, _, _ => rfl
    | 1, 1, 1, 1, _, _, _, _ => rfl
theorem a_fl_pc (n : Nat) : ∀ s, (a_fl n s = 0 ↔ a_pc n s = 0)
  | 0 => ⟨fun _ => rfl, fun _ => rfl⟩
  | s + 1 => by
    have ih := a_fl_pc n s
    have h1 := a_fl_lt n s
    have h2 := bit_lt n s
    show Nat.lor (a_fl n s) (n / 2 ^ s % 2) = 0 ↔ a_pc n s + n / 2 ^ s % 2 = 0
    generalize n / 2 ^ s % 2 = c at *
    generalize a_fl n s = a at *
    match a, c, h1, h2 with
    | 0, 0, _, _ => exact ⟨fun _ => by have := ih.mp rfl; omega, fun _ => rfl⟩
    | 0, 1, _, _ => exact ⟨fun z => absurd z (by decide), fun z => absurd z (by omega)⟩
    | 1, 0, _, _ => exact ⟨fun z => absurd z (by decide), fun z => absurd (ih.mpr (by omega)) (by decide)⟩
    | 1, 1, _, _ => exact ⟨fun z => absurd z (by decide), fun z => absurd z (by omega)⟩
theorem and_bit (n s : Nat) : n &&& 2 ^ s = n / 2 ^ s % 2 * 2 ^ s := by
  have hb : n.testBit s = decide (n / 2 ^ s % 2 = 1) := Nat.testBit_eq_decide_div_mod_eq
  apply Nat.eq_of_testBit_eq
  intro j
  rw [Nat.testBit_and, Nat.testBit_two_pow]
  rcases (by have := bit_lt n s; omega : n / 2 ^ s % 2 = 0 ∨ n / 2 ^ s % 2 = 1) with e | e
  · rw [e, Nat.zero_mul, Nat.zero_testBit]
    by_cases hj : s = j
    · subst hj
      rw [hb, e]
      simp
    · simp [hj]
  · rw [e, Nat.one_mul, Nat.testBit_two_pow]
    by_cases hj : s = j
    · subst hj
      rw [hb, e]
      simp
    · simp [hj]
/-- a bit of a known one -/
theorem vB_tagI {gv : Nat → Int32} {ad : List Nat} {b lo hi s n : Nat} {v : Value} (hb : 1 ≤ b) (hs : s < 10) (hn : n < 1024) (hg : gv (1048576 + (b + 1)) = a_i32 n) (h : vR gv ad (aB b lo hi) v) : vR gv ad (aU (a_tg b s (n / 2 ^ s % 2)) lo hi) v := by
  obtain ⟨x, rfl, q1, q2, q3⟩ := h
  have hx : x = a_i32 n := by
    have := q3.2.1 (by omega)
    rw [this, show 1048576 * (b + 1) / 1048576 = b + 1 by omega, hg]
  obtain ⟨t1, t2, t3⟩ := tg_div (b := b) hs (bit_lt n s)
  have hxn : x.toNatClampNeg = n := by
    rw [hx]
    exact (in_ok (i := n) (n := 1024) hn (by decide)).2
  refine ⟨x, rfl, q1, q2, fun z => ?_, fun z => ?_, fun z => ?_⟩
  · have : 1048576 ≤ a_tg b s (n / 2 ^ s % 2) := by unfold a_tg; omega
    omega
  · rw [t1, hg]; exact hx
  · rw [t2, t3, hxn]
    show n &&& 2 ^ s = n / 2 ^ s % 2 * 2 ^ s
    exact and_bit n s
theorem CG_bitI {gv : Nat → Int32} {M : AM} {pc : Nat} {L : ALs} {S : ASt} {h : AH} {r : ARes} {i b lo up n : Nat} (s : Nat) (hi : L[i]? = some (some (aB b lo up))) (hb : 1 ≤ b) (hs : s < 10) (hn : n < 1024) (hg : gv (1048576 + (b + 1)) = a_i32 n) (hc : CG gv M pc (L.set i (some (aU (a_tg b s (n / 2 ^ s % 2)) lo up))) S h r) : CG gv M pc L S h r :=
  CG_weak hi (fun _ _ hv => vB_tagI hb hs hn hg hv) hc
theorem CG_un {gv : Nat → Int32} {M : AM} {pc : Nat} {L : ALs} {S : ASt} {h : AH} {r : ARes} {i b lo up s d : Nat} (hi : L[i]? = some (some (aU (a_tg b s d) lo up))) (hs : s < 10) (hd : d < 2) (hc : CG gv M pc (L.set i (some (aB b lo up))) S h r) : CG gv M pc L S h r :=
  CG_weak hi (fun _ _ hv => vB_un hs hd hv) hc
/-- a local of which no more is said -/
theorem CG_drop {gv : Nat → Int32} {M : AM} {pc : Nat} {L : ALs} {S : ASt} {h : AH} {r : ARes} (i : Nat) (hc : CG gv M pc (L.set i none) S h r) : CG gv M pc L S h r := by
  refine CG_locals ⟨_, hc⟩ (fun ad ls hL => ⟨_, hc, ?_⟩)
  obtain ⟨lv, h1, h2, h3⟩ := hL
  refine ⟨lv, h1, by rw [List.length_set]; exact h2, fun j c hj => ?_⟩
  by_cases e : i = j
  · subst e
    by_cases hl : i < L.length
    · rw [List.getElem?_set_self hl] at hj
      cases hj
    · rw [List.getElem?_eq_none (by rw [List.length_set]; omega)] at hj
      cases hj
  · rw [List.getElem?_set_ne e] at hj
    exact h3 j c hj
theorem vU_wide {gv : Nat → Int32} {ad : List Nat} {g lo hi lo' hi' : Nat} {v : Value} (h1 : lo' ≤ lo) (h2 : hi ≤ hi') (h : vR gv ad (aU g lo hi) v) : vR gv ad (aU 0 lo' hi') v := by
  obtain ⟨x, rfl, q1, q2, -⟩ := h
  exact ⟨x, rfl, by omega, by omega, gR_0⟩
/-- ghosts: two sets of bits -/
def k_gl (x y : Int32) (q : Nat) : Int32 := bif Nat.beq q 1048578 then x else y
theorem vB_set {gv : Nat → Int32} {ad : List Nat} {b n : Nat} (hb : 1 ≤ b) (hn : n < 1024) (hg : gv (1048576 + (b + 1)) = a_i32 n) : vR gv ad (aB b 2147483648 2147484671) (.int (a_i32 n)) := by
  have h := a_bs_val (a_i32 n)
  rw [t32 (by omega), if_pos (by omega)] at h
  refine ⟨_, rfl, by omega, by omega, fun z => absurd z (by omega), fun z => ?_, fun z => ?_⟩
  · rw [show 1048576 * (b + 1) / 1048576 = b + 1 by omega, hg]
  · show (a_i32 n).toNatClampNeg &&& (1048576 * (b + 1) / 1024 % 1024) = 1048576 * (b + 1) % 1024
    rw [show 1048576 * (b + 1) / 1024 % 1024 = 0 by omega, show 1048576 * (b + 1) % 1024 = 0 by omega, Nat.and_zero]

set_option maxRecDepth 100000 in
theorem tdE : q_all (fun s => q_all (fun d => q_stop 2 [some (aR 1), some (aU (a_tg 0 s d) 2147483648 2147484671), some (aI (s + 1))] [] k_HX (mb_119_2 (a_runS k_BT (k_st [(60, 2)]) 10000) [some (aR 1), some (aU (a_tg 0 s d) 2147483648 2147484671), some (aI s)] [] k_HX)) 2) 10 = true := by decide +kernel
set_option maxRecDepth 100000 in
theorem td0 : q_all (fun d => q_stop 2 [some (aR 1), some (aU (a_tg 0 0 d) 2147483648 2147484671), some (aI (0 + 1))] [] k_HX (mb_119_0 (a_runS k_BT (k_st [(60, 2)]) 10000) [some (aR 1), some (aU (a_tg 0 0 d) 2147483648 2147484671), none] [] k_HX)) 2 = true := by decide +kernel
set_option maxRecDepth 100000 in
theorem tdZ : mb_119_2 (a_run k_BT 100000) [some (aR 1), some (aB 0 2147483648 2147484671), some (aI 10)] [] k_HX = some (.inl (some (aI 0), k_HX)) := q_end_eq (by decide +kernel)
theorem tdH {gv : Nat → Int32} : ∀ (k s : Nat), s + k = 10 → CG gv kM_119 2 [some (aR 1), some (aB 0 2147483648 2147484671), some (aI s)] [] k_HX (.inl (some (aI 0), k_HX))
  | 0, s, h => by
    have : s = 10 := by omega
    subst this
    exact CG_run (sb_119_2 (run_sound 100000)) tdZ
  | k + 1, s, h => by
    have hs : s < 10 := by omega
    refine CG_bit (i := 1) (b := 0) s rfl hs (by decide) (fun d hd => ?_)
    refine CG_trans (CG_run (sb_119_2 (runS_sound (k_st_ok (by intro q hq; simp only [List.mem_cons, List.not_mem_nil, or_false] at hq; subst hq <;> exact ⟨_, rfl⟩)) _)) (q_stop_eq (q_all_at (q_all_at tdE s hs) d hd))) ?_
    exact CG_un (i := 1) rfl hs hd (tdH k (s + 1) (by omega))
theorem tdA {gv : Nat → Int32} : CG gv kM_119 0 [some (aR 1), some (aU 0 2147483648 2147484671), none] [] k_HX (.inl (some (aI 0), k_HX)) := by
  refine CG_weak (i := 1) (b := aB 0 2147483648 2147484671) rfl (fun _ _ hv => vB_of hv) ?_
  refine CG_bit (i := 1) (b := 0) 0 rfl (by decide) (by decide) (fun d hd => ?_)
  refine CG_trans (CG_run (sb_119_0 (runS_sound (k_st_ok (by intro q hq; simp only [List.mem_cons, List.not_mem_nil, or_false] at hq; subst hq <;> exact ⟨_, rfl⟩)) _)) (q_stop_eq (q_all_at td0 d hd))) ?_
  exact CG_un (i := 1) rfl (by decide) hd (tdH 9 1 rfl)
set_option maxRecDepth 100000 in
theorem szE1 : q_all (fun s => q_all (fun u => q_all (fun d => q_stop 4 [some (aR 1), some (aU (a_tg 1 s d) 2147483648 2147484671), some (aI (u + d)), some (aI (s + 1))] [] k_HX (mb_120_4 (a_runS k_BT (k_st [(61, 4)]) 10000) [some (aR 1), some (aU (a_tg 1 s d) 2147483648 2147484671), some (aI u), some (aI s)] [] k_HX)) 2) 10) 10 = true := by decide +kernel
set_option maxRecDepth 100000 in
theorem sz01 : q_all (fun d => q_stop 4 [some (aR 1), some (aU (a_tg 1 0 d) 2147483648 2147484671), some (aI (0 + d)), some (aI (0 + 1))] [] k_HX (mb_120_0 (a_runS k_BT (k_st [(61, 4)]) 10000) [some (aR 1), some (aU (a_tg 1 0 d) 2147483648 2147484671), none, none] [] k_HX)) 2 = true := by decide +kernel
set_option maxRecDepth 100000 in
theorem szZ1 : q_all (fun u => q_end (some (aI u)) k_HX (mb_120_4 (a_run k_BT 100000) [some (aR 1), some (aB 1 2147483648 2147484671), some (aI u), some (aI 10)] [] k_HX)) 11 = true := by decide +kernel
theorem szH1 {gv : Nat → Int32} {n : Nat} (hn : n < 1024) (hg : gv (1048576 + (1 + 1)) = a_i32 n) : ∀ (k s : Nat), s + k = 10 → CG gv kM_120 4 [some (aR 1), some (aB 1 2147483648 2147484671), some (aI (a_pc n s)), some (aI s)] [] k_HX (.inl (some (aI (a_pc n 10)), k_HX))
  | 0, s, h => by
    have : s = 10 := by omega
    subst this
    exact CG_run (sb_120_4 (run_sound 100000)) (q_end_eq (q_all_at szZ1 _ (by have := a_pc_le n 10; omega)))
  | k + 1, s, h => by
    have hs : s < 10 := by omega
    have hu : a_pc n s < 10 := by have := a_pc_le n s; omega
    refine CG_bitI (i := 1) (b := 1) s rfl (by decide) hs hn hg ?_
    refine CG_trans (CG_run (sb_120_4 (runS_sound (k_st_ok (by intro q hq; simp only [List.mem_cons, List.not_mem_nil, or_false] at hq; subst hq <;> exact ⟨_, rfl⟩)) _)) (q_stop_eq (q_all_at (q_all_at (q_all_at szE1 s hs) _ hu) _ (bit_lt n s)))) ?_
    exact CG_un (i := 1) rfl hs (bit_lt n s) (szH1 hn hg k (s + 1) (by omega))
theorem szA1 {gv : Nat → Int32} {n : Nat} (hn : n < 1024) (hg : gv (1048576 + (1 + 1)) = a_i32 n) : CG gv kM_120 0 [some (aR 1), some (aB 1 2147483648 2147484671), none, none] [] k_HX (.inl (some (aI (a_pc n 10)), k_HX)) := by
  refine CG_bitI (i := 1) (b := 1) 0 rfl (by decide) (by decide) hn hg ?_
  refine CG_trans (CG_run (sb_120_0 (runS_sound (k_st_ok (by intro q hq; simp only [List.mem_cons, List.not_mem_nil, or_false] at hq; subst hq <;> exact ⟨_, rfl⟩)) _)) (q_stop_eq (q_all_at sz01 _ (bit_lt n 0)))) ?_
  exact CG_un (i := 1) rfl (by decide) (bit_lt n 0) (szH1 hn hg 9 1 rfl)
set_option maxRecDepth 100000 in
theorem szE2 : q_all (fun s => q_all (fun u => q_all (fun d => q_stop 4 [some (aR 1), some (aU (a_tg 2 s d) 2147483648 2147484671), some (aI (u + d)), some (aI (s + 1))] [] k_HX (mb_120_4 (a_runS k_BT (k_st [(61, 4)]) 10000) [some (aR 1), some (aU (a_tg 2 s d) 2147483648 2147484671), some (aI u), some (aI s)] [] k_HX)) 2) 10) 10 = true := by decide +kernel
set_option maxRecDepth 100000 in
theorem sz02 : q_all (fun d => q_stop 4 [some (aR 1), some (aU (a_tg 2 0 d) 2147483648 2147484671), some (aI (0 + d)), some (aI (0 + 1))] [] k_HX (mb_120_0 (a_runS k_BT (k_st [(61, 4)]) 10000) [some (aR 1), some (aU (a_tg 2 0 d) 2147483648 2147484671), none, none] [] k_HX)) 2 = true := by decide +kernel
set_option maxRecDepth 100000 in
theorem szZ2 : q_all (fun u => q_end (some (aI u)) k_HX (mb_120_4 (a_run k_BT 100000) [some (aR 1), some (aB 2 2147483648 2147484671), some (aI u), some (aI 10)] [] k_HX)) 11 = true := by decide +kernel
theorem szH2 {gv : Nat → Int32} {n : Nat} (hn : n < 1024) (hg : gv (1048576 + (2 + 1)) = a_i32 n) : ∀ (k s : Nat), s + k = 10 → CG gv kM_120 4 [some (aR 1), some (aB 2 2147483648 2147484671), some (aI (a_pc n s)), some (aI s)] [] k_HX (.inl (some (aI (a_pc n 10)), k_HX))
  | 0, s, h => by
    have : s = 10 := by omega
    subst this
    exact CG_run (sb_120_4 (run_sound 100000)) (q_end_eq (q_all_at szZ2 _ (by have := a_pc_le n 10; omega)))
  | k + 1, s, h => by
    have hs : s < 10 := by omega
    have hu : a_pc n s < 10 := by have := a_pc_le n s; omega
    refine CG_bitI (i := 1) (b := 2) s rfl (by decide) hs hn hg ?_
    refine CG_trans (CG_run (sb_120_4 (runS_sound (k_st_ok (by intro q hq; simp only [List.mem_cons, List.not_mem_nil, or_false] at hq; subst hq <;> exact ⟨_, rfl⟩)) _)) (q_stop_eq (q_all_at (q_all_at (q_all_at szE2 s hs) _ hu) _ (bit_lt n s)))) ?_
    exact CG_un (i := 1) rfl hs (bit_lt n s) (szH2 hn hg k (s + 1) (by omega))
theorem szA2 {gv : Nat → Int32} {n : Nat} (hn : n < 1024) (hg : gv (1048576 + (2 + 1)) = a_i32 n) : CG gv kM_120 0 [some (aR 1), some (aB 2 2147483648 2147484671), none, none] [] k_HX (.inl (some (aI (a_pc n 10)), k_HX)) := by
  refine CG_bitI (i := 1) (b := 2) 0 rfl (by decide) (by decide) hn hg ?_
  refine CG_trans (CG_run (sb_120_0 (runS_sound (k_st_ok (by intro q hq; simp only [List.mem_cons, List.not_mem_nil, or_false] at hq; subst hq <;> exact ⟨_, rfl⟩)) _)) (q_stop_eq (q_all_at sz02 _ (bit_lt n 0)))) ?_
  exact CG_un (i := 1) rfl (by decide) (bit_lt n 0) (szH2 hn hg 9 1 rfl)
