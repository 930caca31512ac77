/-! ===== the calls' answers ===== -/
theorem and_t {a b : Bool} (h : (a && b) = true) : a = true ∧ b = true := by
  simp only [Bool.and_eq_true] at h
  exact h
theorem vU_bd {gv : Nat → Int32} {ad : List Nat} {x : Int32} {lo hi : Nat} (h1 : lo ≤ a_bs x) (h2 : a_bs x ≤ hi) : vR gv ad (aU 0 lo hi) (.int x) := ⟨x, rfl, h1, h2, gR_0⟩
/-- m - p, as an int -/
def a_ofs (p m : Nat) : Nat := bif Nat.ble p m then Nat.sub m p else Nat.sub (Nat.add 4294967296 m) p
theorem a_ofs_lt {p m n : Nat} (hp : p ≤ 2147483648) (hm : m < n) (hn : n ≤ 2147483648) : a_ofs p m < 4294967296 ∧ (a_i32 (a_ofs p m)).toInt = (m : Int) - p := by
  unfold a_ofs
  by_cases h : p ≤ m
  · rw [ble_iff.mpr h]
    show m - p < 4294967296 ∧ (a_i32 (m - p)).toInt = _
    refine ⟨by omega, ?_⟩
    rw [t32 (by omega), if_pos (by omega)]
    omega
  · rw [ble_no h]
    show 4294967296 + m - p < 4294967296 ∧ (a_i32 (4294967296 + m - p)).toInt = _
    refine ⟨by omega, ?_⟩
    rw [t32 (by omega), if_neg (by omega)]
    omega
theorem i_boxS (x : Int32) (p n : Nat) (hp : p ≤ 2147483647) (hn : n ≤ 2147483648) : (∃ m, m < n ∧ x = a_i32 (a_ofs p m)) ∨ a_bs x ≤ 2147483647 - p ∨ 2147483648 - p + n ≤ a_bs x := by
  have h := a_bs_val x
  have h1 : -2147483648 ≤ x.toInt := Int32.minValue_le_toInt x
  have h2 : x.toInt ≤ 2147483647 := Int32.toInt_le x
  by_cases h0 : a_bs x ≤ 2147483647 - p
  · exact Or.inr (Or.inl h0)
  · by_cases h3 : 2147483648 - p + n ≤ a_bs x
    · exact Or.inr (Or.inr h3)
    · obtain ⟨m, hm⟩ : ∃ m, a_bs x = 2147483648 - p + m := ⟨a_bs x - (2147483648 - p), by omega⟩
      refine Or.inl ⟨m, by omega, ?_⟩
      apply Int32.toInt.inj
      rw [(a_ofs_lt (n := n) (by omega) (by omega) hn).2]
      omega
theorem vI_ofs {gv : Nat → Int32} {ad : List Nat} {p m n : Nat} (hp : p ≤ 2147483648) (hm : m < n) (hn : n ≤ 2147483648) : vR gv ad (aI (a_ofs p m)) (.int (a_i32 (a_ofs p m))) := ⟨(a_ofs_lt hp hm hn).1, rfl⟩
theorem vU_ofs {gv : Nat → Int32} {ad : List Nat} {p m n : Nat} (hp : p ≤ 2147483648) (hm : m < n) (hn : n ≤ 2147483648) : vR gv ad (aU 0 (2147483648 - p) (2147483647 - p + n)) (.int (a_i32 (a_ofs p m))) := by
  have h := a_bs_val (a_i32 (a_ofs p m))
  rw [(a_ofs_lt hp hm hn).2] at h
  exact vU_bd (by omega) (by omega)

set_option maxRecDepth 100000 in
theorem e0_0l : (q_1 4294967295 105 Z_X (cX_0 k_HX (aU 0 0 2147483647) (aU 0 0 4294967295) (aU 0 0 4294967295)) && q_1 4294967295 35 Z_M (cM_0 k_HM (aU 0 0 2147483647) (aU 0 0 4294967295) (aU 0 0 4294967295))) = true := by decide +kernel
set_option maxRecDepth 100000 in
theorem e0_0h : (q_1 4294967295 105 Z_X (cX_0 k_HX (aU 0 2147483654 4294967295) (aU 0 0 4294967295) (aU 0 0 4294967295)) && q_1 4294967295 35 Z_M (cM_0 k_HM (aU 0 2147483654 4294967295) (aU 0 0 4294967295) (aU 0 0 4294967295))) = true := by decide +kernel
set_option maxRecDepth 100000 in
theorem e0_1l : q_all (fun a => (q_1 4294967295 105 Z_X (cX_0 k_HX (aI a) (aU 0 0 2147483647) (aU 0 0 4294967295)) && q_1 4294967295 35 Z_M (cM_0 k_HM (aI a) (aU 0 0 2147483647) (aU 0 0 4294967295)))) 6 = true := by decide +kernel
set_option maxRecDepth 100000 in
theorem e0_1h : q_all (fun a => (q_1 4294967295 105 Z_X (cX_0 k_HX (aI a) (aU 0 2147483652 4294967295) (aU 0 0 4294967295)) && q_1 4294967295 35 Z_M (cM_0 k_HM (aI a) (aU 0 2147483652 4294967295) (aU 0 0 4294967295)))) 6 = true := by decide +kernel
set_option maxRecDepth 100000 in
theorem e0_2l : q_all (fun a => q_all (fun b => (q_1 4294967295 105 Z_X (cX_0 k_HX (aI a) (aI b) (aU 0 0 2147483647)) && q_1 4294967295 35 Z_M (cM_0 k_HM (aI a) (aI b) (aU 0 0 2147483647)))) 4) 6 = true := by decide +kernel
set_option maxRecDepth 100000 in
theorem e0_2h : q_all (fun a => q_all (fun b => (q_1 4294967295 105 Z_X (cX_0 k_HX (aI a) (aI b) (aU 0 2147483664 4294967295)) && q_1 4294967295 35 Z_M (cM_0 k_HM (aI a) (aI b) (aU 0 2147483664 4294967295)))) 4) 6 = true := by decide +kernel
def T0 : List Nat := [0, 1, 1, 2, 1, 2, 2, 3, 1, 2, 2, 3, 2, 3, 3, 4, 0, 1, 1, 2, 1, 2, 2, 3, 1, 2, 2, 3, 2, 3, 3, 4, 0, 1, 1, 2, 1, 2, 2, 3, 1, 2, 2, 3, 2, 3, 3, 4, 0, 1, 1, 2, 1, 2, 2, 3, 1, 2, 2, 3, 2, 3, 3, 4, 0, 1, 1, 2, 1, 2, 2, 3, 1, 2, 2, 3, 2, 3, 3, 4, 0, 1, 1, 2, 1, 2, 2, 3, 1, 2, 2, 3, 2, 3, 3, 4, 0, 1, 1, 2, 1, 2, 2, 3, 1, 2, 2, 3, 2, 3, 3, 4, 0, 1, 1, 2, 1, 2, 2, 3, 1, 2, 2, 3, 2, 3, 3, 4, 0, 1, 1, 2, 1, 2, 2, 3, 1, 2, 2, 3, 2, 3, 3, 4, 0, 1, 1, 2, 1, 2, 2, 3, 1, 2, 2, 3, 2, 3, 3, 4, 0, 1, 1, 2, 1, 2, 2, 3, 1, 2, 2, 3, 2, 3, 3, 4, 0, 1, 1, 2, 1, 2, 2, 3, 1, 2, 2, 3, 2, 3, 3, 4, 0, 1, 1, 2, 1, 2, 2, 3, 1, 2, 2, 3, 2, 3, 3, 4, 0, 1, 1, 2, 1, 2, 2, 3, 1, 2, 2, 3, 2, 3, 3, 4, 0, 1, 1, 2, 1, 2, 2, 3, 1, 2, 2, 3, 2, 3, 3, 4, 0, 1, 1, 2, 1, 2, 2, 3, 1, 2, 2, 3, 2, 3, 3, 4, 0, 1, 1, 2, 1, 2, 2, 3, 1, 2, 2, 3, 2, 3, 3, 4, 0, 1, 1, 2, 1, 2, 2, 3, 1, 2, 2, 3, 2, 3, 3, 4, 0, 1, 1, 2, 1, 2, 2, 3, 1, 2, 2, 3, 2, 3, 3, 4, 0, 1, 1, 2, 1, 2, 2, 3, 1, 2, 2, 3, 2, 3, 3, 4, 0, 1, 1, 2, 1, 2, 2, 3, 1, 2, 2, 3, 2, 3, 3, 4, 0, 1, 1, 2, 1, 2, 2, 3, 1, 2, 2, 3, 2, 3, 3, 4, 0, 1, 1, 2, 1, 2, 2, 3, 1, 2, 2, 3, 2, 3, 3, 4, 0, 1, 1, 2, 1, 2, 2, 3, 1, 2, 2, 3, 2, 3, 3, 4]
set_option maxRecDepth 100000 in
theorem e0_X : q_all (fun a => q_all (fun b => q_all (fun c => q_1 (k_l T0 ((a * 4 + b) * 16 + c)) 105 Z_X (cX_0 k_HX (aI a) (aI b) (aI c))) 16) 4) 6 = true := by decide +kernel
set_option maxRecDepth 100000 in
theorem e0_M : q_all (fun a => q_all (fun b => q_all (fun c => q_1 (k_l T0 ((a * 4 + b) * 16 + c)) 35 Z_M (cM_0 k_HM (aI a) (aI b) (aI c))) 16) 4) 6 = true := by decide +kernel
set_option maxRecDepth 20000 in
theorem op_0 (xa xb xc : Int32) : OP_0 [xa, xb, xc] := by
  rcases i_box xa 6 (by decide) with ⟨ma, ha, rfl⟩ | ha | ha
  rotate_left
  · exact ⟨fun _ => 0, 4294967295, SideX_of [(aU 0 0 2147483647), (aU 0 0 4294967295), (aU 0 0 4294967295)] (sb_105_0 (run_sound 1000000)) (TrX_id _) (fun ad => ⟨vU_bd (Nat.zero_le _) ha, vU_any _, vU_any _, trivial⟩) (and_t e0_0l).1, SideM_of [(aU 0 0 2147483647), (aU 0 0 4294967295), (aU 0 0 4294967295)] (sb_139_0 (run_sound 1000000)) (fun ad => ⟨vU_bd (Nat.zero_le _) ha, vU_any _, vU_any _, trivial⟩) (and_t e0_0l).2⟩
  · exact ⟨fun _ => 0, 4294967295, SideX_of [(aU 0 2147483654 4294967295), (aU 0 0 4294967295), (aU 0 0 4294967295)] (sb_105_0 (run_sound 1000000)) (TrX_id _) (fun ad => ⟨vU_bd ha (a_bs_max _), vU_any _, vU_any _, trivial⟩) (and_t e0_0h).1, SideM_of [(aU 0 2147483654 4294967295), (aU 0 0 4294967295), (aU 0 0 4294967295)] (sb_139_0 (run_sound 1000000)) (fun ad => ⟨vU_bd ha (a_bs_max _), vU_any _, vU_any _, trivial⟩) (and_t e0_0h).2⟩
  rcases i_box xb 4 (by decide) with ⟨mb, hb, rfl⟩ | hb | hb
  rotate_left
  · exact ⟨fun _ => 0, 4294967295, SideX_of [(aI ma), (aU 0 0 2147483647), (aU 0 0 4294967295)] (sb_105_0 (run_sound 1000000)) (TrX_id _) (fun ad => ⟨⟨Nat.lt_of_lt_of_le ha (by decide), rfl⟩, vU_bd (Nat.zero_le _) hb, vU_any _, trivial⟩) (and_t (q_all_at e0_1l ma ha)).1, SideM_of [(aI ma), (aU 0 0 2147483647), (aU 0 0 4294967295)] (sb_139_0 (run_sound 1000000)) (fun ad => ⟨⟨Nat.lt_of_lt_of_le ha (by decide), rfl⟩, vU_bd (Nat.zero_le _) hb, vU_any _, trivial⟩) (and_t (q_all_at e0_1l ma ha)).2⟩
  · exact ⟨fun _ => 0, 4294967295, SideX_of [(aI ma), (aU 0 2147483652 4294967295), (aU 0 0 4294967295)] (sb_105_0 (run_sound 1000000)) (TrX_id _) (fun ad => ⟨⟨Nat.lt_of_lt_of_le ha (by decide), rfl⟩, vU_bd hb (a_bs_max _), vU_any _, trivial⟩) (and_t (q_all_at e0_1h ma ha)).1, SideM_of [(aI ma), (aU 0 2147483652 4294967295), (aU 0 0 4294967295)] (sb_139_0 (run_sound 1000000)) (fun ad => ⟨⟨Nat.lt_of_lt_of_le ha (by decide), rfl⟩, vU_bd hb (a_bs_max _), vU_any _, trivial⟩) (and_t (q_all_at e0_1h ma ha)).2⟩
  rcases i_box xc 16 (by decide) with ⟨mc, hc, rfl⟩ | hc | hc
  rotate_left
  · exact ⟨fun _ => 0, 4294967295, SideX_of [(aI ma), (aI mb), (aU 0 0 2147483647)] (sb_105_0 (run_sound 1000000)) (TrX_id _) (fun ad => ⟨⟨Nat.lt_of_lt_of_le ha (by decide), rfl⟩, ⟨Nat.lt_of_lt_of_le hb (by decide), rfl⟩, vU_bd (Nat.zero_le _) hc, trivial⟩) (and_t (q_all_at (q_all_at e0_2l ma ha) mb hb)).1, SideM_of [(aI ma), (aI mb), (aU 0 0 2147483647)] (sb_139_0 (run_sound 1000000)) (fun ad => ⟨⟨Nat.lt_of_lt_of_le ha (by decide), rfl⟩, ⟨Nat.lt_of_lt_of_le hb (by decide), rfl⟩, vU_bd (Nat.zero_le _) hc, trivial⟩) (and_t (q_all_at (q_all_at e0_2l ma ha) mb hb)).2⟩
  · exact ⟨fun _ => 0, 4294967295, SideX_of [(aI ma), (aI mb), (aU 0 2147483664 4294967295)] (sb_105_0 (run_sound 1000000)) (TrX_id _) (fun ad => ⟨⟨Nat.lt_of_lt_of_le ha (by decide), rfl⟩, ⟨Nat.lt_of_lt_of_le hb (by decide), rfl⟩, vU_bd hc (a_bs_max _), trivial⟩) (and_t (q_all_at (q_all_at e0_2h ma ha) mb hb)).1, SideM_of [(aI ma), (aI mb), (aU 0 2147483664 4294967295)] (sb_139_0 (run_sound 1000000)) (fun ad => ⟨⟨Nat.lt_of_lt_of_le ha (by decide), rfl⟩, ⟨Nat.lt_of_lt_of_le hb (by decide), rfl⟩, vU_bd hc (a_bs_max _), trivial⟩) (and_t (q_all_at (q_all_at e0_2h ma ha) mb hb)).2⟩
  exact ⟨fun _ => 0, (k_l T0 ((ma * 4 + mb) * 16 + mc)), SideX_of [(aI ma), (aI mb), (aI mc)] (sb_105_0 (run_sound 1000000)) (TrX_id _) (fun ad => ⟨⟨Nat.lt_of_lt_of_le ha (by decide), rfl⟩, ⟨Nat.lt_of_lt_of_le hb (by decide), rfl⟩, ⟨Nat.lt_of_lt_of_le hc (by decide), rfl⟩, trivial⟩) (q_all_at (q_all_at (q_all_at e0_X ma ha) mb hb) mc hc), SideM_of [(aI ma), (aI mb), (aI mc)] (sb_139_0 (run_sound 1000000)) (fun ad => ⟨⟨Nat.lt_of_lt_of_le ha (by decide), rfl⟩, ⟨Nat.lt_of_lt_of_le hb (by decide), rfl⟩, ⟨Nat.lt_of_lt_of_le hc (by decide), rfl⟩, trivial⟩) (q_all_at (q_all_at (q_all_at e0_M ma ha) mb hb) mc hc)⟩
set_option maxRecDepth 100000 in
theorem e2_0l : (q_1 4294967295 105 Z_X (cX_2 k_HX (aU 0 0 2147483647)) && q_1 4294967295 35 Z_M (cM_2 k_HM (aU 0 0 2147483647))) = true := by decide +kernel
set_option maxRecDepth 100000 in
theorem e2_0h : (q_1 4294967295 105 Z_X (cX_2 k_HX (aU 0 2147483654 4294967295)) && q_1 4294967295 35 Z_M (cM_2 k_HM (aU 0 2147483654 4294967295))) = true := by decide +kernel
set_option maxRecDepth 100000 in
theorem e2_X : q_all (fun a => q_1 0 105 Z_X (cX_2 k_HX (aI a))) 6 = true := by decide +kernel
set_option maxRecDepth 100000 in
theorem e2_M : q_all (fun a => q_1 0 35 Z_M (cM_2 k_HM (aI a))) 6 = true := by decide +kernel
set_option maxRecDepth 20000 in
theorem op_2 (xa : Int32) : OP_2 [xa] := by
  rcases i_box xa 6 (by decide) with ⟨ma, ha, rfl⟩ | ha | ha
  rotate_left
  · exact ⟨fun _ => 0, 4294967295, SideX_of [(aU 0 0 2147483647)] (sb_107_0 (run_sound 1000000)) (TrX_id _) (fun ad => ⟨vU_bd (Nat.zero_le _) ha, trivial⟩) (and_t e2_0l).1, SideM_of [(aU 0 0 2147483647)] (sb_141_0 (run_sound 1000000)) (fun ad => ⟨vU_bd (Nat.zero_le _) ha, trivial⟩) (and_t e2_0l).2⟩
  · exact ⟨fun _ => 0, 4294967295, SideX_of [(aU 0 2147483654 4294967295)] (sb_107_0 (run_sound 1000000)) (TrX_id _) (fun ad => ⟨vU_bd ha (a_bs_max _), trivial⟩) (and_t e2_0h).1, SideM_of [(aU 0 2147483654 4294967295)] (sb_141_0 (run_sound 1000000)) (fun ad => ⟨vU_bd ha (a_bs_max _), trivial⟩) (and_t e2_0h).2⟩
  exact ⟨fun _ => 0, 0, SideX_of [(aI ma)] (sb_107_0 (run_sound 1000000)) (TrX_id _) (fun ad => ⟨⟨Nat.lt_of_lt_of_le ha (by decide), rfl⟩, trivial⟩) (q_all_at e2_X ma ha), SideM_of [(aI ma)] (sb_141_0 (run_sound 1000000)) (fun ad => ⟨⟨Nat.lt_of_lt_of_le ha (by decide), rfl⟩, trivial⟩) (q_all_at e2_M ma ha)⟩
set_option maxRecDepth 100000 in
theorem e3_0l : (q_1 4294967295 105 Z_X (cX_3 k_HX (aU 0 0 2147483647)) && q_1 4294967295 35 Z_M (cM_3 k_HM (aU 0 0 2147483647))) = true := by decide +kernel
set_option maxRecDepth 100000 in
theorem e3_0h : (q_1 4294967295 105 Z_X (cX_3 k_HX (aU 0 2147483654 4294967295)) && q_1 4294967295 35 Z_M (cM_3 k_HM (aU 0 2147483654 4294967295))) = true := by decide +kernel
set_option maxRecDepth 100000 in
theorem e3_X : q_all (fun a => q_1 0 105 Z_X (cX_3 k_HX (aI a))) 6 = true := by decide +kernel
set_option maxRecDepth 100000 in
theorem e3_M : q_all (fun a => q_1 0 35 Z_M (cM_3 k_HM (aI a))) 6 = true := by decide +kernel
set_option maxRecDepth 20000 in
theorem op_3 (xa : Int32) : OP_3 [xa] := by
  rcases i_box xa 6 (by decide) with ⟨ma, ha, rfl⟩ | ha | ha
  rotate_left
  · exact ⟨fun _ => 0, 4294967295, SideX_of [(aU 0 0 2147483647)] (sb_108_0 (run_sound 1000000)) (TrX_id _) (fun ad => ⟨vU_bd (Nat.zero_le _) ha, trivial⟩) (and_t e3_0l).1, SideM_of [(aU 0 0 2147483647)] (sb_142_0 (run_sound 1000000)) (fun ad => ⟨vU_bd (Nat.zero_le _) ha, trivial⟩) (and_t e3_0l).2⟩
  · exact ⟨fun _ => 0, 4294967295, SideX_of [(aU 0 2147483654 4294967295)] (sb_108_0 (run_sound 1000000)) (TrX_id _) (fun ad => ⟨vU_bd ha (a_bs_max _), trivial⟩) (and_t e3_0h).1, SideM_of [(aU 0 2147483654 4294967295)] (sb_142_0 (run_sound 1000000)) (fun ad => ⟨vU_bd ha (a_bs_max _), trivial⟩) (and_t e3_0h).2⟩
  exact ⟨fun _ => 0, 0, SideX_of [(aI ma)] (sb_108_0 (run_sound 1000000)) (TrX_id _) (fun ad => ⟨⟨Nat.lt_of_lt_of_le ha (by decide), rfl⟩, trivial⟩) (q_all_at e3_X ma ha), SideM_of [(aI ma)] (sb_142_0 (run_sound 1000000)) (fun ad => ⟨⟨Nat.lt_of_lt_of_le ha (by decide), rfl⟩, trivial⟩) (q_all_at e3_M ma ha)⟩
set_option maxRecDepth 100000 in
theorem e4_0l : (q_1 4294967295 105 Z_X (cX_4 k_HX (aU 0 0 2147483647) (aU 0 0 4294967295)) && q_1 4294967295 35 Z_M (cM_4 k_HM (aU 0 0 2147483647) (aU 0 0 4294967295))) = true := by decide +kernel
set_option maxRecDepth 100000 in
theorem e4_0h : (q_1 4294967295 105 Z_X (cX_4 k_HX (aU 0 2147483654 4294967295) (aU 0 0 4294967295)) && q_1 4294967295 35 Z_M (cM_4 k_HM (aU 0 2147483654 4294967295) (aU 0 0 4294967295))) = true := by decide +kernel
set_option maxRecDepth 100000 in
theorem e4_1l : q_all (fun a => (q_1 4294967295 105 Z_X (cX_4 k_HX (aI a) (aU 0 0 2147483647)) && q_1 4294967295 35 Z_M (cM_4 k_HM (aI a) (aU 0 0 2147483647)))) 6 = true := by decide +kernel
set_option maxRecDepth 100000 in
theorem e4_1h : q_all (fun a => (q_1 4294967295 105 Z_X (cX_4 k_HX (aI a) (aU 0 2147483650 4294967295)) && q_1 4294967295 35 Z_M (cM_4 k_HM (aI a) (aU 0 2147483650 4294967295)))) 6 = true := by decide +kernel
set_option maxRecDepth 100000 in
theorem e4_X : q_all (fun a => q_all (fun b => q_1 0 105 Z_X (cX_4 k_HX (aI a) (aI b))) 2) 6 = true := by decide +kernel
set_option maxRecDepth 100000 in
theorem e4_M : q_all (fun a => q_all (fun b => q_1 0 35 Z_M (cM_4 k_HM (aI a) (aI b))) 2) 6 = true := by decide +kernel
set_option maxRecDepth 20000 in
theorem op_4 (xa xb : Int32) : OP_4 [xa, xb] := by
  rcases i_box xa 6 (by decide) with ⟨ma, ha, rfl⟩ | ha | ha
  rotate_left
  · exact ⟨fun _ => 0, 4294967295, SideX_of [(aU 0 0 2147483647), (aU 0 0 4294967295)] (sb_109_0 (run_sound 1000000)) (TrX_id _) (fun ad => ⟨vU_bd (Nat.zero_le _) ha, vU_any _, trivial⟩) (and_t e4_0l).1, SideM_of [(aU 0 0 2147483647), (aU 0 0 4294967295)] (sb_144_0 (run_sound 1000000)) (fun ad => ⟨vU_bd (Nat.zero_le _) ha, vU_any _, trivial⟩) (and_t e4_0l).2⟩
  · exact ⟨fun _ => 0, 4294967295, SideX_of [(aU 0 2147483654 4294967295), (aU 0 0 4294967295)] (sb_109_0 (run_sound 1000000)) (TrX_id _) (fun ad => ⟨vU_bd ha (a_bs_max _), vU_any _, trivial⟩) (and_t e4_0h).1, SideM_of [(aU 0 2147483654 4294967295), (aU 0 0 4294967295)] (sb_144_0 (run_sound 1000000)) (fun ad => ⟨vU_bd ha (a_bs_max _), vU_any _, trivial⟩) (and_t e4_0h).2⟩
  rcases i_box xb 2 (by decide) with ⟨mb, hb, rfl⟩ | hb | hb
  rotate_left
  · exact ⟨fun _ => 0, 4294967295, SideX_of [(aI ma), (aU 0 0 2147483647)] (sb_109_0 (run_sound 1000000)) (TrX_id _) (fun ad => ⟨⟨Nat.lt_of_lt_of_le ha (by decide), rfl⟩, vU_bd (Nat.zero_le _) hb, trivial⟩) (and_t (q_all_at e4_1l ma ha)).1, SideM_of [(aI ma), (aU 0 0 2147483647)] (sb_144_0 (run_sound 1000000)) (fun ad => ⟨⟨Nat.lt_of_lt_of_le ha (by decide), rfl⟩, vU_bd (Nat.zero_le _) hb, trivial⟩) (and_t (q_all_at e4_1l ma ha)).2⟩
  · exact ⟨fun _ => 0, 4294967295, SideX_of [(aI ma), (aU 0 2147483650 4294967295)] (sb_109_0 (run_sound 1000000)) (TrX_id _) (fun ad => ⟨⟨Nat.lt_of_lt_of_le ha (by decide), rfl⟩, vU_bd hb (a_bs_max _), trivial⟩) (and_t (q_all_at e4_1h ma ha)).1, SideM_of [(aI ma), (aU 0 2147483650 4294967295)] (sb_144_0 (run_sound 1000000)) (fun ad => ⟨⟨Nat.lt_of_lt_of_le ha (by decide), rfl⟩, vU_bd hb (a_bs_max _), trivial⟩) (and_t (q_all_at e4_1h ma ha)).2⟩
  exact ⟨fun _ => 0, 0, SideX_of [(aI ma), (aI mb)] (sb_109_0 (run_sound 1000000)) (TrX_id _) (fun ad => ⟨⟨Nat.lt_of_lt_of_le ha (by decide), rfl⟩, ⟨Nat.lt_of_lt_of_le hb (by decide), rfl⟩, trivial⟩) (q_all_at (q_all_at e4_X ma ha) mb hb), SideM_of [(aI ma), (aI mb)] (sb_144_0 (run_sound 1000000)) (fun ad => ⟨⟨Nat.lt_of_lt_of_le ha (by decide), rfl⟩, ⟨Nat.lt_of_lt_of_le hb (by decide), rfl⟩, trivial⟩) (q_all_at (q_all_at e4_M ma ha) mb hb)⟩
set_option maxRecDepth 100000 in
theorem e6_0l : (q_1 4294967295 105 Z_X (cX_6 k_HX (aU 0 0 2147483647)) && q_1 4294967295 35 Z_M (cM_6 k_HM (aU 0 0 2147483647))) = true := by decide +kernel
set_option maxRecDepth 100000 in
theorem e6_0h : (q_1 4294967295 105 Z_X (cX_6 k_HX (aU 0 2147483654 4294967295)) && q_1 4294967295 35 Z_M (cM_6 k_HM (aU 0 2147483654 4294967295))) = true := by decide +kernel
set_option maxRecDepth 100000 in
theorem e6_X : q_all (fun a => q_1 4294967292 105 Z_X (cX_6 k_HX (aI a))) 6 = true := by decide +kernel
set_option maxRecDepth 100000 in
theorem e6_M : q_all (fun a => q_1 4294967292 35 Z_M (cM_6 k_HM (aI a))) 6 = true := by decide +kernel
set_option maxRecDepth 20000 in
theorem op_6 (xa : Int32) : OP_6 [xa] := by
  rcases i_box xa 6 (by decide) with ⟨ma, ha, rfl⟩ | ha | ha
  rotate_left
  · exact ⟨fun _ => 0, 4294967295, SideX_of [(aU 0 0 2147483647)] (sb_111_0 (run_sound 1000000)) (TrX_id _) (fun ad => ⟨vU_bd (Nat.zero_le _) ha, trivial⟩) (and_t e6_0l).1, SideM_of [(aU 0 0 2147483647)] (sb_146_0 (run_sound 1000000)) (fun ad => ⟨vU_bd (Nat.zero_le _) ha, trivial⟩) (and_t e6_0l).2⟩
  · exact ⟨fun _ => 0, 4294967295, SideX_of [(aU 0 2147483654 4294967295)] (sb_111_0 (run_sound 1000000)) (TrX_id _) (fun ad => ⟨vU_bd ha (a_bs_max _), trivial⟩) (and_t e6_0h).1, SideM_of [(aU 0 2147483654 4294967295)] (sb_146_0 (run_sound 1000000)) (fun ad => ⟨vU_bd ha (a_bs_max _), trivial⟩) (and_t e6_0h).2⟩
  exact ⟨fun _ => 0, 4294967292, SideX_of [(aI ma)] (sb_111_0 (run_sound 1000000)) (TrX_id _) (fun ad => ⟨⟨Nat.lt_of_lt_of_le ha (by decide), rfl⟩, trivial⟩) (q_all_at e6_X ma ha), SideM_of [(aI ma)] (sb_146_0 (run_sound 1000000)) (fun ad => ⟨⟨Nat.lt_of_lt_of_le ha (by decide), rfl⟩, trivial⟩) (q_all_at e6_M ma ha)⟩
set_option maxRecDepth 100000 in
theorem e7_0l : (q_1 4294967295 105 Z_X (cX_7 k_HX (aU 0 0 2147483647) (aU 0 0 4294967295)) && q_1 4294967295 35 Z_M (cM_7 k_HM (aU 0 0 2147483647) (aU 0 0 4294967295))) = true := by decide +kernel
set_option maxRecDepth 100000 in
theorem e7_0h : (q_1 4294967295 105 Z_X (cX_7 k_HX (aU 0 2147483654 4294967295) (aU 0 0 4294967295)) && q_1 4294967295 35 Z_M (cM_7 k_HM (aU 0 2147483654 4294967295) (aU 0 0 4294967295))) = true := by decide +kernel
set_option maxRecDepth 100000 in
theorem e7_1l : q_all (fun a => (q_1 4294967295 105 Z_X (cX_7 k_HX (aI a) (aU 0 0 2147483647)) && q_1 4294967295 35 Z_M (cM_7 k_HM (aI a) (aU 0 0 2147483647)))) 6 = true := by decide +kernel
set_option maxRecDepth 100000 in
theorem e7_1h : q_all (fun a => (q_1 4294967295 105 Z_X (cX_7 k_HX (aI a) (aU 0 2147483654 4294967295)) && q_1 4294967295 35 Z_M (cM_7 k_HM (aI a) (aU 0 2147483654 4294967295)))) 6 = true := by decide +kernel
set_option maxRecDepth 100000 in
theorem e7_X : q_all (fun a => q_all (fun b => q_1 0 105 Z_X (cX_7 k_HX (aI a) (aI b))) 6) 6 = true := by decide +kernel
set_option maxRecDepth 100000 in
theorem e7_M : q_all (fun a => q_all (fun b => q_1 0 35 Z_M (cM_7 k_HM (aI a) (aI b))) 6) 6 = true := by decide +kernel
set_option maxRecDepth 20000 in
theorem op_7 (xa xb : Int32) : OP_7 [xa, xb] := by
  rcases i_box xa 6 (by decide) with ⟨ma, ha, rfl⟩ | ha | ha
  rotate_left
  · exact ⟨fun _ => 0, 4294967295, SideX_of [(aU 0 0 2147483647), (aU 0 0 4294967295)] (sb_112_0 (run_sound 1000000)) (TrX_id _) (fun ad => ⟨vU_bd (Nat.zero_le _) ha, vU_any _, trivial⟩) (and_t e7_0l).1, SideM_of [(aU 0 0 2147483647), (aU 0 0 4294967295)] (sb_147_0 (run_sound 1000000)) (fun ad => ⟨vU_bd (Nat.zero_le _) ha, vU_any _, trivial⟩) (and_t e7_0l).2⟩
  · exact ⟨fun _ => 0, 4294967295, SideX_of [(aU 0 2147483654 4294967295), (aU 0 0 4294967295)] (sb_112_0 (run_sound 1000000)) (TrX_id _) (fun ad => ⟨vU_bd ha (a_bs_max _), vU_any _, trivial⟩) (and_t e7_0h).1, SideM_of [(aU 0 2147483654 4294967295), (aU 0 0 4294967295)] (sb_147_0 (run_sound 1000000)) (fun ad => ⟨vU_bd ha (a_bs_max _), vU_any _, trivial⟩) (and_t e7_0h).2⟩
  rcases i_box xb 6 (by decide) with ⟨mb, hb, rfl⟩ | hb | hb
  rotate_left
  · exact ⟨fun _ => 0, 4294967295, SideX_of [(aI ma), (aU 0 0 2147483647)] (sb_112_0 (run_sound 1000000)) (TrX_id _) (fun ad => ⟨⟨Nat.lt_of_lt_of_le ha (by decide), rfl⟩, vU_bd (Nat.zero_le _) hb, trivial⟩) (and_t (q_all_at e7_1l ma ha)).1, SideM_of [(aI ma), (aU 0 0 2147483647)] (sb_147_0 (run_sound 1000000)) (fun ad => ⟨⟨Nat.lt_of_lt_of_le ha (by decide), rfl⟩, vU_bd (Nat.zero_le _) hb, trivial⟩) (and_t (q_all_at e7_1l ma ha)).2⟩
  · exact ⟨fun _ => 0, 4294967295, SideX_of [(aI ma), (aU 0 2147483654 4294967295)] (sb_112_0 (run_sound 1000000)) (TrX_id _) (fun ad => ⟨⟨Nat.lt_of_lt_of_le ha (by decide), rfl⟩, vU_bd hb (a_bs_max _), trivial⟩) (and_t (q_all_at e7_1h ma ha)).1, SideM_of [(aI ma), (aU 0 2147483654 4294967295)] (sb_147_0 (run_sound 1000000)) (fun ad => ⟨⟨Nat.lt_of_lt_of_le ha (by decide), rfl⟩, vU_bd hb (a_bs_max _), trivial⟩) (and_t (q_all_at e7_1h ma ha)).2⟩
  exact ⟨fun _ => 0, 0, SideX_of [(aI ma), (aI mb)] (sb_112_0 (run_sound 1000000)) (TrX_id _) (fun ad => ⟨⟨Nat.lt_of_lt_of_le ha (by decide), rfl⟩, ⟨Nat.lt_of_lt_of_le hb (by decide), rfl⟩, trivial⟩) (q_all_at (q_all_at e7_X ma ha) mb hb), SideM_of [(aI ma), (aI mb)] (sb_147_0 (run_sound 1000000)) (fun ad => ⟨⟨Nat.lt_of_lt_of_le ha (by decide), rfl⟩, ⟨Nat.lt_of_lt_of_le hb (by decide), rfl⟩, trivial⟩) (q_all_at (q_all_at e7_M ma ha) mb hb)⟩
set_option maxRecDepth 100000 in
theorem e5_0l : (q_1 4294967295 105 Z_X (cX_5 k_HX (aU 0 0 2147483647) (aU 0 0 4294967295) (aU 0 0 4294967295)) && q_1 4294967295 35 Z_M (cM_5 k_HM (aU 0 0 2147483647) (aU 0 0 4294967295) (aU 0 0 4294967295))) = true := by decide +kernel
set_option maxRecDepth 100000 in
theorem e5_0h : (q_1 4294967295 105 Z_X (cX_5 k_HX (aU 0 2147483654 4294967295) (aU 0 0 4294967295) (aU 0 0 4294967295)) && q_1 4294967295 35 Z_M (cM_5 k_HM (aU 0 2147483654 4294967295) (aU 0 0 4294967295) (aU 0 0 4294967295))) = true := by decide +kernel
set_option maxRecDepth 100000 in
theorem e5_2l : q_all (fun a => (q_1 4294967295 105 Z_X (cX_5 k_HX (aI a) (aU 0 0 4294967295) (aU 0 0 2147483647)) && q_1 4294967295 35 Z_M (cM_5 k_HM (aI a) (aU 0 0 4294967295) (aU 0 0 2147483647)))) 6 = true := by decide +kernel
set_option maxRecDepth 100000 in
theorem e5_2h : q_all (fun a => (q_1 4294967295 105 Z_X (cX_5 k_HX (aI a) (aU 0 0 4294967295) (aU 0 2147483650 4294967295)) && q_1 4294967295 35 Z_M (cM_5 k_HM (aI a) (aU 0 0 4294967295) (aU 0 2147483650 4294967295)))) 6 = true := by decide +kernel
set_option maxRecDepth 100000 in
theorem e5_1l : q_all (fun a => q_all (fun c => (q_1 4294967295 105 Z_X (cX_5 k_HX (aI a) (aU 0 0 2147483647) (aI c)) && q_1 4294967295 35 Z_M (cM_5 k_HM (aI a) (aU 0 0 2147483647) (aI c)))) 2) 6 = true := by decide +kernel
set_option maxRecDepth 100000 in
theorem e5_1h : q_all (fun a => q_all (fun c => (q_1 4294967295 105 Z_X (cX_5 k_HX (aI a) (aU 0 2147483664 4294967295) (aI c)) && q_1 4294967295 35 Z_M (cM_5 k_HM (aI a) (aU 0 2147483664 4294967295) (aI c)))) 2) 6 = true := by decide +kernel
set_option maxRecDepth 100000 in
theorem e5_X : q_all (fun a => q_all (fun b => q_all (fun c => q_1 4294967294 105 Z_X (cX_5 k_HX (aI a) (aI b) (aI c))) 2) 16) 6 = true := by decide +kernel
set_option maxRecDepth 100000 in
theorem e5_M : q_all (fun a => q_all (fun b => q_all (fun c => q_1 4294967294 35 Z_M (cM_5 k_HM (aI a) (aI b) (aI c))) 2) 16) 6 = true := by decide +kernel
set_option maxRecDepth 20000 in
theorem op_5 (xa xb xc : Int32) : OP_5 [xa, xb, xc] := by
  rcases i_box xa 6 (by decide) with ⟨ma, ha, rfl⟩ | ha | ha
  rotate_left
  · exact ⟨fun _ => 0, 4294967295, SideX_of [(aU 0 0 2147483647), (aU 0 0 4294967295), (aU 0 0 4294967295)] (sb_110_0 (run_sound 1000000)) (TrX_id _) (fun ad => ⟨vU_bd (Nat.zero_le _) ha, vU_any _, vU_any _, trivial⟩) (and_t e5_0l).1, SideM_of [(aU 0 0 2147483647), (aU 0 0 4294967295), (aU 0 0 4294967295)] (sb_145_0 (run_sound 1000000)) (fun ad => ⟨vU_bd (Nat.zero_le _) ha, vU_any _, vU_any _, trivial⟩) (and_t e5_0l).2⟩
  · exact ⟨fun _ => 0, 4294967295, SideX_of [(aU 0 2147483654 4294967295), (aU 0 0 4294967295), (aU 0 0 4294967295)] (sb_110_0 (run_sound 1000000)) (TrX_id _) (fun ad => ⟨vU_bd ha (a_bs_max _), vU_any _, vU_any _, trivial⟩) (and_t e5_0h).1, SideM_of [(aU 0 2147483654 4294967295), (aU 0 0 4294967295), (aU 0 0 4294967295)] (sb_145_0 (run_sound 1000000)) (fun ad => ⟨vU_bd ha (a_bs_max _), vU_any _, vU_any _, trivial⟩) (and_t e5_0h).2⟩
  rcases i_box xc 2 (by decide) with ⟨mc, hc, rfl⟩ | hc | hc
  rotate_left
  · exact ⟨fun _ => 0, 4294967295, SideX_of [(aI ma), (aU 0 0 4294967295), (aU 0 0 2147483647)] (sb_110_0 (run_sound 1000000)) (TrX_id _) (fun ad => ⟨⟨Nat.lt_of_lt_of_le ha (by decide), rfl⟩, vU_any _, vU_bd (Nat.zero_le _) hc, trivial⟩) (and_t (q_all_at e5_2l ma ha)).1, SideM_of [(aI ma), (aU 0 0 4294967295), (aU 0 0 2147483647)] (sb_145_0 (run_sound 1000000)) (fun ad => ⟨⟨Nat.lt_of_lt_of_le ha (by decide), rfl⟩, vU_any _, vU_bd (Nat.zero_le _) hc, trivial⟩) (and_t (q_all_at e5_2l ma ha)).2⟩
  · exact ⟨fun _ => 0, 4294967295, SideX_of [(aI ma), (aU 0 0 4294967295), (aU 0 2147483650 4294967295)] (sb_110_0 (run_sound 1000000)) (TrX_id _) (fun ad => ⟨⟨Nat.lt_of_lt_of_le ha (by decide), rfl⟩, vU_any _, vU_bd hc (a_bs_max _), trivial⟩) (and_t (q_all_at e5_2h ma ha)).1, SideM_of [(aI ma), (aU 0 0 4294967295), (aU 0 2147483650 4294967295)] (sb_145_0 (run_sound 1000000)) (fun ad => ⟨⟨Nat.lt_of_lt_of_le ha (by decide), rfl⟩, vU_any _, vU_bd hc (a_bs_max _), trivial⟩) (and_t (q_all_at e5_2h ma ha)).2⟩
  rcases i_box xb 16 (by decide) with ⟨mb, hb, rfl⟩ | hb | hb
  rotate_left
  · exact ⟨fun _ => 0, 4294967295, SideX_of [(aI ma), (aU 0 0 2147483647), (aI mc)] (sb_110_0 (run_sound 1000000)) (TrX_id _) (fun ad => ⟨⟨Nat.lt_of_lt_of_le ha (by decide), rfl⟩, vU_bd (Nat.zero_le _) hb, ⟨Nat.lt_of_lt_of_le hc (by decide), rfl⟩, trivial⟩) (and_t (q_all_at (q_all_at e5_1l ma ha) mc hc)).1, SideM_of [(aI ma), (aU 0 0 2147483647), (aI mc)] (sb_145_0 (run_sound 1000000)) (fun ad => ⟨⟨Nat.lt_of_lt_of_le ha (by decide), rfl⟩, vU_bd (Nat.zero_le _) hb, ⟨Nat.lt_of_lt_of_le hc (by decide), rfl⟩, trivial⟩) (and_t (q_all_at (q_all_at e5_1l ma ha) mc hc)).2⟩
  · exact ⟨fun _ => 0, 4294967295, SideX_of [(aI ma), (aU 0 2147483664 4294967295), (aI mc)] (sb_110_0 (run_sound 1000000)) (TrX_id _) (fun ad => ⟨⟨Nat.lt_of_lt_of_le ha (by decide), rfl⟩, vU_bd hb (a_bs_max _), ⟨Nat.lt_of_lt_of_le hc (by decide), rfl⟩, trivial⟩) (and_t (q_all_at (q_all_at e5_1h ma ha) mc hc)).1, SideM_of [(aI ma), (aU 0 2147483664 4294967295), (aI mc)] (sb_145_0 (run_sound 1000000)) (fun ad => ⟨⟨Nat.lt_of_lt_of_le ha (by decide), rfl⟩, vU_bd hb (a_bs_max _), ⟨Nat.lt_of_lt_of_le hc (by decide), rfl⟩, trivial⟩) (and_t (q_all_at (q_all_at e5_1h ma ha) mc hc)).2⟩
  exact ⟨fun _ => 0, 4294967294, SideX_of [(aI ma), (aI mb), (aI mc)] (sb_110_0 (run_sound 1000000)) (TrX_id _) (fun ad => ⟨⟨Nat.lt_of_lt_of_le ha (by decide), rfl⟩, ⟨Nat.lt_of_lt_of_le hb (by decide), rfl⟩, ⟨Nat.lt_of_lt_of_le hc (by decide), rfl⟩, trivial⟩) (q_all_at (q_all_at (q_all_at e5_X ma ha) mb hb) mc hc), SideM_of [(aI ma), (aI mb), (aI mc)] (sb_145_0 (run_sound 1000000)) (fun ad => ⟨⟨Nat.lt_of_lt_of_le ha (by decide), rfl⟩, ⟨Nat.lt_of_lt_of_le hb (by decide), rfl⟩, ⟨Nat.lt_of_lt_of_le hc (by decide), rfl⟩, trivial⟩) (q_all_at (q_all_at (q_all_at e5_M ma ha) mb hb) mc hc)⟩
set_option maxRecDepth 100000 in
theorem e1_0l : (q_1 0 105 Z_X (cX_1 k_HX (aU 0 0 2147483647) (aU 0 0 4294967295)) && q_1 0 35 Z_M (cM_1 k_HM (aU 0 0 2147483647) (aU 0 0 4294967295))) = true := by decide +kernel
set_option maxRecDepth 100000 in
theorem e1_0h : (q_1 0 105 Z_X (cX_1 k_HX (aU 0 2147483654 4294967295) (aU 0 0 4294967295)) && q_1 0 35 Z_M (cM_1 k_HM (aU 0 2147483654 4294967295) (aU 0 0 4294967295))) = true := by decide +kernel
set_option maxRecDepth 100000 in
theorem e1_1l : q_all (fun a => (q_1 0 105 Z_X (cX_1 k_HX (aI a) (aU 0 0 2147483647)) && q_1 0 35 Z_M (cM_1 k_HM (aI a) (aU 0 0 2147483647)))) 6 = true := by decide +kernel
set_option maxRecDepth 100000 in
theorem e1_1h : q_all (fun a => (q_1 0 105 Z_X (cX_1 k_HX (aI a) (aU 0 2147483664 4294967295)) && q_1 0 35 Z_M (cM_1 k_HM (aI a) (aU 0 2147483664 4294967295)))) 6 = true := by decide +kernel
set_option maxRecDepth 100000 in
theorem e1_X : q_all (fun a => q_all (fun b => q_1 0 105 Z_X (cX_1 k_HX (aI a) (aI b))) 16) 6 = true := by decide +kernel
set_option maxRecDepth 100000 in
theorem e1_M : q_all (fun a => q_all (fun b => q_1 0 35 Z_M (cM_1 k_HM (aI a) (aI b))) 16) 6 = true := by decide +kernel
set_option maxRecDepth 20000 in
theorem op_1 (xa xb : Int32) : OP_1 [xa, xb] := by
  rcases i_box xa 6 (by decide) with ⟨ma, ha, rfl⟩ | ha | ha
  rotate_left
  · exact ⟨fun _ => 0, 0, SideX_of [(aU 0 0 2147483647), (aU 0 0 4294967295)] (sb_106_0 (run_sound 1000000)) (TrX_id _) (fun ad => ⟨vU_bd (Nat.zero_le _) ha, vU_any _, trivial⟩) (and_t e1_0l).1, SideM_of [(aU 0 0 2147483647), (aU 0 0 4294967295)] (sb_140_0 (run_sound 1000000)) (fun ad => ⟨vU_bd (Nat.zero_le _) ha, vU_any _, trivial⟩) (and_t e1_0l).2⟩
  · exact ⟨fun _ => 0, 0, SideX_of [(aU 0 2147483654 4294967295), (aU 0 0 4294967295)] (sb_106_0 (run_sound 1000000)) (TrX_id _) (fun ad => ⟨vU_bd ha (a_bs_max _), vU_any _, trivial⟩) (and_t e1_0h).1, SideM_of [(aU 0 2147483654 4294967295), (aU 0 0 4294967295)] (sb_140_0 (run_sound 1000000)) (fun ad => ⟨vU_bd ha (a_bs_max _), vU_any _, trivial⟩) (and_t e1_0h).2⟩
  rcases i_box xb 16 (by decide) with ⟨mb, hb, rfl⟩ | hb | hb
  rotate_left
  · exact ⟨fun _ => 0, 0, SideX_of [(aI ma), (aU 0 0 2147483647)] (sb_106_0 (run_sound 1000000)) (TrX_id _) (fun ad => ⟨⟨Nat.lt_of_lt_of_le ha (by decide), rfl⟩, vU_bd (Nat.zero_le _) hb, trivial⟩) (and_t (q_all_at e1_1l ma ha)).1, SideM_of [(aI ma), (aU 0 0 2147483647)] (sb_140_0 (run_sound 1000000)) (fun ad => ⟨⟨Nat.lt_of_lt_of_le ha (by decide), rfl⟩, vU_bd (Nat.zero_le _) hb, trivial⟩) (and_t (q_all_at e1_1l ma ha)).2⟩
  · exact ⟨fun _ => 0, 0, SideX_of [(aI ma), (aU 0 2147483664 4294967295)] (sb_106_0 (run_sound 1000000)) (TrX_id _) (fun ad => ⟨⟨Nat.lt_of_lt_of_le ha (by decide), rfl⟩, vU_bd hb (a_bs_max _), trivial⟩) (and_t (q_all_at e1_1h ma ha)).1, SideM_of [(aI ma), (aU 0 2147483664 4294967295)] (sb_140_0 (run_sound 1000000)) (fun ad => ⟨⟨Nat.lt_of_lt_of_le ha (by decide), rfl⟩, vU_bd hb (a_bs_max _), trivial⟩) (and_t (q_all_at e1_1h ma ha)).2⟩
  exact ⟨fun _ => 0, 0, SideX_of [(aI ma), (aI mb)] (sb_106_0 (run_sound 1000000)) (TrX_id _) (fun ad => ⟨⟨Nat.lt_of_lt_of_le ha (by decide), rfl⟩, ⟨Nat.lt_of_lt_of_le hb (by decide), rfl⟩, trivial⟩) (q_all_at (q_all_at e1_X ma ha) mb hb), SideM_of [(aI ma), (aI mb)] (sb_140_0 (run_sound 1000000)) (fun ad => ⟨⟨Nat.lt_of_lt_of_le ha (by decide), rfl⟩, ⟨Nat.lt_of_lt_of_le hb (by decide), rfl⟩, trivial⟩) (q_all_at (q_all_at e1_M ma ha) mb hb)⟩
