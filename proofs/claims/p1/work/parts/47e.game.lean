/-! ===== game: the answer ===== -/
set_option maxRecDepth 100000 in
theorem e11_0l : (q_1 4294967295 105 Z_X (cX_11 k_HX (aU 0 0 2147483647) (aU 0 0 4294967295) (aU 0 0 4294967295)) && q_1 4294967295 35 Z_M (cM_11 k_HM (aU 0 0 2147483647) (aU 0 0 4294967295) (aU 0 0 4294967295))) = true := by decide +kernel
set_option maxRecDepth 100000 in
theorem e11_0h : (q_1 4294967295 105 Z_X (cX_11 k_HX (aU 0 2147484672 4294967295) (aU 0 0 4294967295) (aU 0 0 4294967295)) && q_1 4294967295 35 Z_M (cM_11 k_HM (aU 0 2147484672 4294967295) (aU 0 0 4294967295) (aU 0 0 4294967295))) = true := by decide +kernel
set_option maxRecDepth 100000 in
theorem e11_1l : (q_1 4294967295 105 Z_X (cX_11 k_HX (aU 0 2147483648 2147484671) (aU 0 0 2147483647) (aU 0 0 4294967295)) && q_1 4294967295 35 Z_M (cM_11 k_HM (aU 0 2147483648 2147484671) (aU 0 0 2147483647) (aU 0 0 4294967295))) = true := by decide +kernel
set_option maxRecDepth 100000 in
theorem e11_1h : (q_1 4294967295 105 Z_X (cX_11 k_HX (aU 0 2147483648 2147484671) (aU 0 2147484672 4294967295) (aU 0 0 4294967295)) && q_1 4294967295 35 Z_M (cM_11 k_HM (aU 0 2147483648 2147484671) (aU 0 2147484672 4294967295) (aU 0 0 4294967295))) = true := by decide +kernel
set_option maxRecDepth 100000 in
theorem e11_2l : (q_1 4294967295 105 Z_X (cX_11 k_HX (aU 0 2147483648 2147484671) (aU 0 2147483648 2147484671) (aU 0 0 2147483647)) && q_1 4294967295 35 Z_M (cM_11 k_HM (aU 0 2147483648 2147484671) (aU 0 2147483648 2147484671) (aU 0 0 2147483647))) = true := by decide +kernel
set_option maxRecDepth 100000 in
theorem e11_2h : (q_1 4294967295 105 Z_X (cX_11 k_HX (aU 0 2147483648 2147484671) (aU 0 2147483648 2147484671) (aU 0 2147483658 4294967295)) && q_1 4294967295 35 Z_M (cM_11 k_HM (aU 0 2147483648 2147484671) (aU 0 2147483648 2147484671) (aU 0 2147483658 4294967295))) = true := by decide +kernel
set_option maxRecDepth 100000 in
theorem e11_z0 : q_all (fun t => q_stop 27 [some (aR 1), some (aI 0), some (aI 0), some (aI t)] [aU 0 2147483648 2147484671, aR 1] k_HX (mz_121_0 (a_run k_BT 100000) [some (aR 1), some (aI 0), some (aI 0), some (aI t)] [] k_HX)) 10 = true := by decide +kernel
set_option maxRecDepth 100000 in
theorem e11_z1 : q_all (fun t => q_1 1 105 Z_X (mb_121_30 (a_run k_BT 100000) [some (aR 1), some (aI 0), some (aI 0), some (aI t)] [aI 0] k_HX)) 10 = true := by decide +kernel
set_option maxRecDepth 20000 in
theorem gmZ {gv : Nat → Int32} (t : Nat) (ht : t < 10) : SideX kM_121 [] gv [a_i32 0, a_i32 0, a_i32 t] 1 := by
  obtain ⟨h1, c1, c2, c3⟩ := q_1_ex (q_all_at e11_z1 t ht)
  refine ⟨_, k_HX, h1, [aI 0, aI 0, aI t], TrX_id _, fun ad => ⟨⟨by decide, rfl⟩, ⟨by decide, rfl⟩, ⟨by omega, rfl⟩, trivial⟩, c2, c3, ?_⟩
  refine CG_trans (CG_run (sz_121_0 (run_sound 100000)) (q_stop_eq (q_all_at e11_z0 t ht))) ?_
  exact CG_call (As := [aR 1, aU 0 2147483648 2147484671]) (S' := []) kcf_119 (by decide +kernel) pk_121_27 rfl rfl (by decide +kernel) ⟨0, _, _, rfl, rfl⟩ tdA (CG_run (sb_121_30 (run_sound 100000)) c1)
set_option maxRecDepth 100000 in
theorem e11_zM : q_1 1 35 Z_M (cM_11 k_HM (aI 0) (aI 0) (aU 0 2147483648 2147483657)) = true := by decide +kernel
set_option maxRecDepth 100000 in
theorem fl_0 : q_all (fun n => a_if (Nat.beq (a_fl n 10) 0) (Nat.beq n 0) true) 1024 = true := by decide +kernel
theorem fl_pos {n : Nat} (hn : n < 1024) (h : a_fl n 10 = 0) : n = 0 := by
  have := q_all_at fl_0 n hn
  rw [h] at this
  exact beq_iff.mp this
theorem sg_pc {n : Nat} : Nat.sub 1 (Nat.sub 1 (a_pc n 10)) = a_fl n 10 := by
  have h := a_fl_pc n 10
  have h1 := a_fl_lt n 10
  show 1 - (1 - a_pc n 10) = a_fl n 10
  rcases Nat.eq_zero_or_pos (a_pc n 10) with e | e
  · rw [e, h.mpr e]
  · have : a_fl n 10 ≠ 0 := fun z => by have := h.mp z; omega
    omega
theorem f2_1 {n m : Nat} (hn : n < 1024) (hm : m < 1024) (hnz : ¬ (n = 0 ∧ m = 0)) : a_f2 n m 10 = 1 := by
  have h1 := a_f2_lt n m 10
  have h2 := a_f2_or n m 10
  rcases (by omega : a_f2 n m 10 = 0 ∨ a_f2 n m 10 = 1) with e | e
  · rw [e] at h2
    have h3 := a_fl_lt n 10
    have h4 := a_fl_lt m 10
    rcases (by omega : a_fl n 10 = 0 ∨ a_fl n 10 = 1) with g1 | g1 <;> rcases (by omega : a_fl m 10 = 0 ∨ a_fl m 10 = 1) with g2 | g2
    · exact absurd ⟨fl_pos hn g1, fl_pos hm g2⟩ hnz
    · rw [g1, g2] at h2; exact absurd h2 (by decide)
    · rw [g1, g2] at h2; exact absurd h2 (by decide)
    · rw [g1, g2] at h2; exact absurd h2 (by decide)
  · exact e
set_option maxRecDepth 20000 in
theorem gmS {gv : Nat → Int32} {n m : Nat} (hn : n < 1024) (hm : m < 1024) (hgn : gv (1048576 + (1 + 1)) = a_i32 n) (hgm : gv (1048576 + (2 + 1)) = a_i32 m) (hnz : ¬ (n = 0 ∧ m = 0)) (t : Nat) (ht : t < 10) : SideX kM_121 [] gv [a_i32 n, a_i32 m, a_i32 t] (k_l T11 (2 * a_fl n 10 + a_fl m 10)) := by
  have hf := f2_1 hn hm hnz
  have hA : ∀ ad, SR gv ad [aB 1 2147483648 2147484671, aB 2 2147483648 2147484671, aI t] ([a_i32 n, a_i32 m, a_i32 t].map Value.int) := fun ad => ⟨vB_set (by decide) hn hgn, vB_set (by decide) hm hgm, ⟨by omega, rfl⟩, trivial⟩
  have h3 := a_fl_lt n 10
  have h4 := a_fl_lt m 10
  rcases (by omega : a_fl n 10 = 0 ∨ a_fl n 10 = 1) with g1 | g1 <;> rcases (by omega : a_fl m 10 = 0 ∨ a_fl m 10 = 1) with g2 | g2
  · exact absurd ⟨fl_pos hn g1, fl_pos hm g2⟩ hnz
  · rw [g1, g2]
    obtain ⟨h1, c1, c2, c3⟩ := q_1_ex (q_all_at gm4_01 t ht)
    exact ⟨_, k_HX, h1, _, TrX_id _, hA, c2, c3, gmX hn hm hgn hgm hf t ht (by rw [g1, g2]; exact CG_run (sb_99_63 (run_sound 100000)) mo4_01) (CG_run (sb_121_67 (run_sound 100000)) c1)⟩
  · rw [g1, g2]
    obtain ⟨h1, c1, c2, c3⟩ := q_1_ex (q_all_at gm4_10 t ht)
    exact ⟨_, k_HX, h1, _, TrX_id _, hA, c2, c3, gmX hn hm hgn hgm hf t ht (by rw [g1, g2]; exact CG_run (sb_99_63 (run_sound 100000)) mo4_10) (CG_run (sb_121_67 (run_sound 100000)) c1)⟩
  · rw [g1, g2]
    obtain ⟨h1, c1, c2, c3⟩ := q_1_ex (q_all_at gm4_11 t ht)
    exact ⟨_, k_HX, h1, _, TrX_id _, hA, c2, c3, gmX hn hm hgn hgm hf t ht (by rw [g1, g2]; exact CG_run (sb_99_63 (run_sound 100000)) mo4_11) (CG_run (sb_121_67 (run_sound 100000)) c1)⟩
set_option maxRecDepth 20000 in
theorem gmR {gv : Nat → Int32} {n m : Nat} (hn : n < 1024) (hm : m < 1024) (hgn : gv (1048576 + (1 + 1)) = a_i32 n) (hgm : gv (1048576 + (2 + 1)) = a_i32 m) (hnz : ¬ (n = 0 ∧ m = 0)) (t : Nat) (ht : t < 10) : SideM kM_175 [none, none, none, none] gv [a_i32 n, a_i32 m, a_i32 t] (k_l T11 (2 * a_fl n 10 + a_fl m 10)) := by
  obtain ⟨h1, c1, c2, c3⟩ := q_1_ex (rg8 (a_pc n 10) (a_pc m 10) (by have := a_pc_le n 10; omega) (by have := a_pc_le m 10; omega))
  rw [sg_pc, sg_pc] at c1
  exact ⟨h1, [aB 1 2147483648 2147484671, aB 2 2147483648 2147484671, aU 0 2147483648 2147483657], fun ad => ⟨vB_set (by decide) hn hgn, vB_set (by decide) hm hgm, vU_in ht (by decide), trivial⟩, c2, c3, rgE hn hm hgn hgm (f2_1 hn hm hnz) (CG_run (sb_175_214 (run_sound 100000)) c1)⟩
set_option maxRecDepth 20000 in
theorem op_11 (xa xb xc : Int32) : OP_11 [xa, xb, xc] := by
  rcases i_box xa 1024 (by decide) with ⟨ma, ha, rfl⟩ | ha | ha
  rotate_left
  · exact ⟨fun _ => 0, 4294967295, SideX_of [(aU 0 0 2147483647), (aU 0 0 4294967295), (aU 0 0 4294967295)] (sb_121_0 (run_sound 1000000)) (TrX_id _) (fun ad => ⟨vU_bd (Nat.zero_le _) ha, vU_any _, vU_any _, trivial⟩) (and_t e11_0l).1, SideM_of [(aU 0 0 2147483647), (aU 0 0 4294967295), (aU 0 0 4294967295)] (sb_175_0 (run_sound 1000000)) (fun ad => ⟨vU_bd (Nat.zero_le _) ha, vU_any _, vU_any _, trivial⟩) (and_t e11_0l).2⟩
  · exact ⟨fun _ => 0, 4294967295, SideX_of [(aU 0 2147484672 4294967295), (aU 0 0 4294967295), (aU 0 0 4294967295)] (sb_121_0 (run_sound 1000000)) (TrX_id _) (fun ad => ⟨vU_bd ha (a_bs_max _), vU_any _, vU_any _, trivial⟩) (and_t e11_0h).1, SideM_of [(aU 0 2147484672 4294967295), (aU 0 0 4294967295), (aU 0 0 4294967295)] (sb_175_0 (run_sound 1000000)) (fun ad => ⟨vU_bd ha (a_bs_max _), vU_any _, vU_any _, trivial⟩) (and_t e11_0h).2⟩
  rcases i_box xb 1024 (by decide) with ⟨mb, hb, rfl⟩ | hb | hb
  rotate_left
  · exact ⟨fun _ => 0, 4294967295, SideX_of [(aU 0 2147483648 2147484671), (aU 0 0 2147483647), (aU 0 0 4294967295)] (sb_121_0 (run_sound 1000000)) (TrX_id _) (fun ad => ⟨vU_in (n := 1024) ha (by decide), vU_bd (Nat.zero_le _) hb, vU_any _, trivial⟩) (and_t e11_1l).1, SideM_of [(aU 0 2147483648 2147484671), (aU 0 0 2147483647), (aU 0 0 4294967295)] (sb_175_0 (run_sound 1000000)) (fun ad => ⟨vU_in (n := 1024) ha (by decide), vU_bd (Nat.zero_le _) hb, vU_any _, trivial⟩) (and_t e11_1l).2⟩
  · exact ⟨fun _ => 0, 4294967295, SideX_of [(aU 0 2147483648 2147484671), (aU 0 2147484672 4294967295), (aU 0 0 4294967295)] (sb_121_0 (run_sound 1000000)) (TrX_id _) (fun ad => ⟨vU_in (n := 1024) ha (by decide), vU_bd hb (a_bs_max _), vU_any _, trivial⟩) (and_t e11_1h).1, SideM_of [(aU 0 2147483648 2147484671), (aU 0 2147484672 4294967295), (aU 0 0 4294967295)] (sb_175_0 (run_sound 1000000)) (fun ad => ⟨vU_in (n := 1024) ha (by decide), vU_bd hb (a_bs_max _), vU_any _, trivial⟩) (and_t e11_1h).2⟩
  rcases i_box xc 10 (by decide) with ⟨mc, hc, rfl⟩ | hc | hc
  rotate_left
  · exact ⟨fun _ => 0, 4294967295, SideX_of [(aU 0 2147483648 2147484671), (aU 0 2147483648 2147484671), (aU 0 0 2147483647)] (sb_121_0 (run_sound 1000000)) (TrX_id _) (fun ad => ⟨vU_in (n := 1024) ha (by decide), vU_in (n := 1024) hb (by decide), vU_bd (Nat.zero_le _) hc, trivial⟩) (and_t e11_2l).1, SideM_of [(aU 0 2147483648 2147484671), (aU 0 2147483648 2147484671), (aU 0 0 2147483647)] (sb_175_0 (run_sound 1000000)) (fun ad => ⟨vU_in (n := 1024) ha (by decide), vU_in (n := 1024) hb (by decide), vU_bd (Nat.zero_le _) hc, trivial⟩) (and_t e11_2l).2⟩
  · exact ⟨fun _ => 0, 4294967295, SideX_of [(aU 0 2147483648 2147484671), (aU 0 2147483648 2147484671), (aU 0 2147483658 4294967295)] (sb_121_0 (run_sound 1000000)) (TrX_id _) (fun ad => ⟨vU_in (n := 1024) ha (by decide), vU_in (n := 1024) hb (by decide), vU_bd hc (a_bs_max _), trivial⟩) (and_t e11_2h).1, SideM_of [(aU 0 2147483648 2147484671), (aU 0 2147483648 2147484671), (aU 0 2147483658 4294967295)] (sb_175_0 (run_sound 1000000)) (fun ad => ⟨vU_in (n := 1024) ha (by decide), vU_in (n := 1024) hb (by decide), vU_bd hc (a_bs_max _), trivial⟩) (and_t e11_2h).2⟩
  by_cases hz : ma = 0 ∧ mb = 0
  · obtain ⟨rfl, rfl⟩ := hz
    exact ⟨fun _ => 0, 1, gmZ mc hc, SideM_of [aI 0, aI 0, aU 0 2147483648 2147483657] (sb_175_0 (run_sound 1000000)) (fun ad => ⟨⟨by decide, rfl⟩, ⟨by decide, rfl⟩, vU_in hc (by decide), trivial⟩) e11_zM⟩
  · exact ⟨k_gl (a_i32 ma) (a_i32 mb), _, gmS ha hb rfl rfl hz mc hc, gmR ha hb rfl rfl hz mc hc⟩
