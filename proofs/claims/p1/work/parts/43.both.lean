/-! ===== both sides answer the same ===== -/
/-- two runs: the same int, no cell made -/
def q_both (c1 z1 c2 z2 : Nat) : AO → AO → Bool
  | some (.inl (some (.inl m), h1)), some (.inl (some (.inl n), h2)) => Nat.beq m n && (Nat.beq (a_cnt h1) c1 && (Nat.beq (a_slt h1) z1 && (Nat.beq (a_cnt h2) c2 && Nat.beq (a_slt h2) z2)))
  | _, _ => false
theorem q_both_ex {c1 z1 c2 z2 : Nat} : ∀ {x y : AO}, q_both c1 z1 c2 z2 x y = true → ∃ n h1 h2, x = some (.inl (some (aI n), h1)) ∧ y = some (.inl (some (aI n), h2)) ∧ a_cnt h1 = c1 ∧ a_slt h1 = z1 ∧ a_cnt h2 = c2 ∧ a_slt h2 = z2
  | some (.inl (some (.inl m), h1)), some (.inl (some (.inl n), h2)), h => by
    have h : (Nat.beq m n && (Nat.beq (a_cnt h1) c1 && (Nat.beq (a_slt h1) z1 && (Nat.beq (a_cnt h2) c2 && Nat.beq (a_slt h2) z2)))) = true := h
    simp only [Bool.and_eq_true] at h
    obtain ⟨q1, q2, q3, q4, q5⟩ := h
    have q1 := beq_iff.mp q1
    subst q1
    exact ⟨m, h1, h2, rfl, rfl, beq_iff.mp q2, beq_iff.mp q3, beq_iff.mp q4, beq_iff.mp q5⟩
/-- an int is one of 0 .. n - 1, or below, or above -/
theorem i_box (x : Int32) (n : Nat) (hn : n ≤ 2147483648) : (∃ m, m < n ∧ x = a_i32 m) ∨ a_bs x ≤ 2147483647 ∨ 2147483648 + n ≤ a_bs x := by
  have h := a_bs_val x
  have h1 : -2147483648 ≤ x.toInt := Int32.minValue_le_toInt x
  have h2 : x.toInt ≤ 2147483647 := Int32.toInt_le x
  by_cases h0 : a_bs x ≤ 2147483647
  · exact Or.inr (Or.inl h0)
  · by_cases h3 : 2147483648 + n ≤ a_bs x
    · exact Or.inr (Or.inr h3)
    · refine Or.inl ⟨a_bs x - 2147483648, by omega, ?_⟩
      apply Int32.toInt.inj
      rw [t32 (by omega), if_pos (by omega)]
      omega
theorem a_bs_max (x : Int32) : a_bs x ≤ 4294967295 := by
  have h := a_bs_val x
  have h2 : x.toInt ≤ 2147483647 := Int32.toInt_le x
  omega
theorem vU_low {gv : Nat → Int32} {ad : List Nat} {x : Int32} (h : a_bs x ≤ 2147483647) : vR gv ad (aU 0 0 2147483647) (.int x) := ⟨x, rfl, by omega, h, gR_0⟩
theorem vU_high {gv : Nat → Int32} {ad : List Nat} {x : Int32} {n : Nat} (h : 2147483648 + n ≤ a_bs x) : vR gv ad (aU 0 (2147483648 + n) 4294967295) (.int x) := ⟨x, rfl, h, a_bs_max x, gR_0⟩
/-- one of 0 .. n - 1, not told which -/
theorem vU_in {gv : Nat → Int32} {ad : List Nat} {m n : Nat} (hm : m < n) (hn : n ≤ 2147483648) : vR gv ad (aU 0 2147483648 (2147483647 + n)) (.int (a_i32 m)) := by
  have h := a_bs_val (a_i32 m)
  rw [t32 (by omega), if_pos (by omega)] at h
  exact ⟨_, rfl, by omega, by omega, gR_0⟩
/-- the ghost g, one of 0 .. n - 1 -/
theorem vG_in {gv : Nat → Int32} {ad : List Nat} {m n g : Nat} (hm : m < n) (hn : n ≤ 2147483648) (hgl : g < 1000) (hg : gv g = a_i32 m) : vR gv ad (aU (g + 1) 2147483648 (2147483647 + n)) (.int (a_i32 m)) := by
  have h := a_bs_val (a_i32 m)
  rw [t32 (by omega), if_pos (by omega)] at h
  exact ⟨_, rfl, by omega, by omega, fun _ q z => by cases z; exact hg.symm, fun z => absurd z (by omega), fun z => absurd z (by omega)⟩
/-- the smallest and the greatest int that there are: any -/
theorem vU_any {gv : Nat → Int32} {ad : List Nat} (x : Int32) : vR gv ad (aU 0 0 4294967295) (.int x) := ⟨x, rfl, by omega, a_bs_max x, gR_0⟩
noncomputable def cX_0 (h : AH) (a b c : AV) : AO := mb_105_0 (a_run k_BT 1000000) [some (aR 1), some a, some b, some c] [] h
noncomputable def cM_0 (h : AH) (a b c : AV) : AO := mb_139_0 (a_run k_BT 1000000) [some (aR 1), some a, some b, some c] [] h
noncomputable def cE_0 (a b c : AV) : Bool := q_both 105 50555 35 3149830 (cX_0 k_HX a b c) (cM_0 k_HM a b c)
noncomputable def cX_1 (h : AH) (a b : AV) : AO := mb_106_0 (a_run k_BT 1000000) [some (aR 1), some a, some b] [] h
noncomputable def cM_1 (h : AH) (a b : AV) : AO := mb_140_0 (a_run k_BT 1000000) [some (aR 1), some a, some b] [] h
noncomputable def cE_1 (a b : AV) : Bool := q_both 105 50555 35 3149830 (cX_1 k_HX a b) (cM_1 k_HM a b)
noncomputable def cX_2 (h : AH) (a : AV) : AO := mb_107_0 (a_run k_BT 1000000) [some (aR 1), some a] [] h
noncomputable def cM_2 (h : AH) (a : AV) : AO := mb_141_0 (a_run k_BT 1000000) [some (aR 1), some a] [] h
noncomputable def cE_2 (a : AV) : Bool := q_both 105 50555 35 3149830 (cX_2 k_HX a) (cM_2 k_HM a)
noncomputable def cX_3 (h : AH) (a : AV) : AO := mb_108_0 (a_run k_BT 1000000) [some (aR 1), some a] [] h
noncomputable def cM_3 (h : AH) (a : AV) : AO := mb_142_0 (a_run k_BT 1000000) [some (aR 1), some a, none, none, none, none, none] [] h
noncomputable def cE_3 (a : AV) : Bool := q_both 105 50555 35 3149830 (cX_3 k_HX a) (cM_3 k_HM a)
noncomputable def cX_4 (h : AH) (a b : AV) : AO := mb_109_0 (a_run k_BT 1000000) [some (aR 1), some a, some b] [] h
noncomputable def cM_4 (h : AH) (a b : AV) : AO := mb_144_0 (a_run k_BT 1000000) [some (aR 1), some a, some b, none, none] [] h
noncomputable def cE_4 (a b : AV) : Bool := q_both 105 50555 35 3149830 (cX_4 k_HX a b) (cM_4 k_HM a b)
noncomputable def cX_5 (h : AH) (a b c : AV) : AO := mb_110_0 (a_run k_BT 1000000) [some (aR 1), some a, some b, some c] [] h
noncomputable def cM_5 (h : AH) (a b c : AV) : AO := mb_145_0 (a_run k_BT 1000000) [some (aR 1), some a, some b, some c, none] [] h
noncomputable def cE_5 (a b c : AV) : Bool := q_both 105 50555 35 3149830 (cX_5 k_HX a b c) (cM_5 k_HM a b c)
noncomputable def cX_6 (h : AH) (a : AV) : AO := mb_111_0 (a_run k_BT 1000000) [some (aR 1), some a] [] h
noncomputable def cM_6 (h : AH) (a : AV) : AO := mb_146_0 (a_run k_BT 1000000) [some (aR 1), some a, none] [] h
noncomputable def cE_6 (a : AV) : Bool := q_both 105 50555 35 3149830 (cX_6 k_HX a) (cM_6 k_HM a)
noncomputable def cX_7 (h : AH) (a b : AV) : AO := mb_112_0 (a_run k_BT 1000000) [some (aR 1), some a, some b] [] h
noncomputable def cM_7 (h : AH) (a b : AV) : AO := mb_147_0 (a_run k_BT 1000000) [some (aR 1), some a, some b, none, none, none] [] h
noncomputable def cE_7 (a b : AV) : Bool := q_both 105 50555 35 3149830 (cX_7 k_HX a b) (cM_7 k_HM a b)
noncomputable def cX_8 (h : AH) (a b : AV) : AO := mb_115_0 (a_run k_BT 1000000) [some (aR 1), some a, some b] [] h
noncomputable def cM_8 (h : AH) (a b : AV) : AO := mb_167_0 (a_run k_BT 1000000) [some (aR 1), some a, some b, none, none, none, none] [] h
noncomputable def cE_8 (a b : AV) : Bool := q_both 105 50555 35 3149830 (cX_8 k_HX a b) (cM_8 k_HM a b)
noncomputable def cX_9 (h : AH) (a b c : AV) : AO := mb_116_0 (a_run k_BT 1000000) [some (aR 1), some a, some b, some c] [] h
noncomputable def cM_9 (h : AH) (a b c : AV) : AO := mb_170_0 (a_run k_BT 1000000) [some (aR 1), some a, some b, some c] [] h
noncomputable def cE_9 (a b c : AV) : Bool := q_both 105 50555 35 3149830 (cX_9 k_HX a b c) (cM_9 k_HM a b c)
noncomputable def cX_10 (h : AH) (a b c : AV) : AO := mb_117_0 (a_run k_BT 1000000) [some (aR 1), some a, some b, some c] [] h
noncomputable def cM_10 (h : AH) (a b c : AV) : AO := mb_173_0 (a_run k_BT 1000000) [some (aR 1), some a, some b, some c, none, none, none, none] [] h
noncomputable def cE_10 (a b c : AV) : Bool := q_both 105 50555 35 3149830 (cX_10 k_HX a b c) (cM_10 k_HM a b c)
noncomputable def cX_11 (h : AH) (a b c : AV) : AO := mb_121_0 (a_run k_BT 1000000) [some (aR 1), some a, some b, some c] [] h
noncomputable def cM_11 (h : AH) (a b c : AV) : AO := mb_175_0 (a_run k_BT 1000000) [some (aR 1), some a, some b, some c, none, none, none, none] [] h
noncomputable def cE_11 (a b c : AV) : Bool := q_both 105 50555 35 3149830 (cX_11 k_HX a b c) (cM_11 k_HM a b c)
noncomputable def cX_12 (h : AH) (a b c : AV) : AO := mb_122_0 (a_run k_BT 1000000) [some (aR 1), some a, some b, some c] [] h
noncomputable def cM_12 (h : AH) (a b c : AV) : AO := mb_176_0 (a_run k_BT 1000000) [some (aR 1), some a, some b, some c, none, none] [] h
noncomputable def cE_12 (a b c : AV) : Bool := q_both 105 50555 35 3149830 (cX_12 k_HX a b c) (cM_12 k_HM a b c)
noncomputable def cX_13 (h : AH) (a b : AV) : AO := mb_123_0 (a_run k_BT 1000000) [some (aR 1), some a, some b] [] h
noncomputable def cM_13 (h : AH) (a b : AV) : AO := mb_177_0 (a_run k_BT 1000000) [some (aR 1), some a, some b, none, none, none, none] [] h
noncomputable def cE_13 (a b : AV) : Bool := q_both 105 50555 35 3149830 (cX_13 k_HX a b) (cM_13 k_HM a b)
noncomputable def cX_14 (h : AH) (a b c d : AV) : AO := mb_124_0 (a_run k_BT 1000000) [some (aR 1), some a, some b, some c, some d, none] [] h
noncomputable def cM_14 (h : AH) (a b c d : AV) : AO := mb_178_0 (a_run k_BT 1000000) [some (aR 1), some a, some b, some c, some d, none] [] h
noncomputable def cE_14 (a b c d : AV) : Bool := q_both 105 50555 35 3149830 (cX_14 k_HX a b c d) (cM_14 k_HM a b c d)
noncomputable def cX_15 (h : AH) (a b : AV) : AO := mb_125_0 (a_run k_BT 1000000) [some (aR 1), some a, some b, none] [] h
noncomputable def cM_15 (h : AH) (a b : AV) : AO := mb_187_0 (a_run k_BT 1000000) [some (aR 1), some a, some b, none] [] h
noncomputable def cE_15 (a b : AV) : Bool := q_both 105 50555 35 3149830 (cX_15 k_HX a b) (cM_15 k_HM a b)
noncomputable def cX_16 (h : AH) (a b : AV) : AO := mb_126_0 (a_run k_BT 1000000) [some (aR 1), some a, some b] [] h
noncomputable def cM_16 (h : AH) (a b : AV) : AO := mb_188_0 (a_run k_BT 1000000) [some (aR 1), some a, some b, none, none] [] h
noncomputable def cE_16 (a b : AV) : Bool := q_both 105 50555 35 3149830 (cX_16 k_HX a b) (cM_16 k_HM a b)
noncomputable def cX_17 (h : AH) (a : AV) : AO := mb_127_0 (a_run k_BT 1000000) [some (aR 1), some a] [] h
noncomputable def cM_17 (h : AH) (a : AV) : AO := mb_189_0 (a_run k_BT 1000000) [some (aR 1), some a, none] [] h
noncomputable def cE_17 (a : AV) : Bool := q_both 105 50555 35 3149830 (cX_17 k_HX a) (cM_17 k_HM a)
noncomputable def cX_18 (h : AH) (a b : AV) : AO := mb_129_0 (a_run k_BT 1000000) [some (aR 1), some a, some b] [] h
noncomputable def cM_18 (h : AH) (a b : AV) : AO := mb_190_0 (a_run k_BT 1000000) [some (aR 1), some a, some b, none] [] h
noncomputable def cE_18 (a b : AV) : Bool := q_both 105 50555 35 3149830 (cX_18 k_HX a b) (cM_18 k_HM a b)
noncomputable def cX_19 (h : AH) (a b : AV) : AO := mb_130_0 (a_run k_BT 1000000) [some (aR 1), some a, some b] [] h
noncomputable def cM_19 (h : AH) (a b : AV) : AO := mb_191_0 (a_run k_BT 1000000) [some (aR 1), some a, some b, none, none] [] h
noncomputable def cE_19 (a b : AV) : Bool := q_both 105 50555 35 3149830 (cX_19 k_HX a b) (cM_19 k_HM a b)
noncomputable def cX_20 (h : AH) (a b c : AV) : AO := mb_131_0 (a_run k_BT 1000000) [some (aR 1), some a, some b, some c] [] h
noncomputable def cM_20 (h : AH) (a b c : AV) : AO := mb_192_0 (a_run k_BT 1000000) [some (aR 1), some a, some b, some c, none] [] h
noncomputable def cE_20 (a b c : AV) : Bool := q_both 105 50555 35 3149830 (cX_20 k_HX a b c) (cM_20 k_HM a b c)
noncomputable def cX_21 (h : AH) (a b : AV) : AO := mb_133_0 (a_run k_BT 1000000) [some (aR 1), some a, some b, none] [] h
noncomputable def cM_21 (h : AH) (a b : AV) : AO := mb_196_0 (a_run k_BT 1000000) [some (aR 1), some a, some b, none] [] h
noncomputable def cE_21 (a b : AV) : Bool := q_both 105 50555 35 3149830 (cX_21 k_HX a b) (cM_21 k_HM a b)
noncomputable def cX_22 (h : AH) (a b : AV) : AO := mb_134_0 (a_run k_BT 1000000) [some (aR 1), some a, some b, none, none] [] h
noncomputable def cM_22 (h : AH) (a b : AV) : AO := mb_197_0 (a_run k_BT 1000000) [some (aR 1), some a, some b, none, none, none, none] [] h
noncomputable def cE_22 (a b : AV) : Bool := q_both 105 50555 35 3149830 (cX_22 k_HX a b) (cM_22 k_HM a b)
