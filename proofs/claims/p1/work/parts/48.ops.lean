/-! ===== SPOTS ===== -/
set_option maxRecDepth 100000 in
theorem e8_0l : (q_1 4294967295 105 Z_X (cX_8 k_HX (aU 0 0 2147483647) (aU 0 0 4294967295)) && q_1 4294967295 35 Z_M (cM_8 k_HM (aU 0 0 2147483647) (aU 0 0 4294967295))) = true := by decide +kernel
set_option maxRecDepth 100000 in
theorem e8_0h : (q_1 4294967295 105 Z_X (cX_8 k_HX (aU 0 2147483654 4294967295) (aU 0 0 4294967295)) && q_1 4294967295 35 Z_M (cM_8 k_HM (aU 0 2147483654 4294967295) (aU 0 0 4294967295))) = true := by decide +kernel
set_option maxRecDepth 100000 in
theorem e8_1l : q_all (fun a => (q_1 4294967295 105 Z_X (cX_8 k_HX (aI a) (aU 0 0 2147483647)) && q_1 4294967295 35 Z_M (cM_8 k_HM (aI a) (aU 0 0 2147483647)))) 6 = true := by decide +kernel
set_option maxRecDepth 100000 in
theorem e8_1h : q_all (fun a => (q_1 4294967295 105 Z_X (cX_8 k_HX (aI a) (aU 0 2147483658 4294967295)) && q_1 4294967295 35 Z_M (cM_8 k_HM (aI a) (aU 0 2147483658 4294967295)))) 6 = true := by decide +kernel
set_option maxRecDepth 100000 in
theorem e8_X : q_all (fun a => q_all (fun b => q_1 1 105 Z_X (cX_8 k_HX (aI a) (aI b))) 10) 6 = true := by decide +kernel
set_option maxRecDepth 100000 in
theorem e8_M : q_all (fun a => q_1 1 35 Z_M (cM_8 k_HM (aI a) (aU 0 2147483648 2147483657))) 6 = true := by decide +kernel
set_option maxRecDepth 20000 in
theorem op_8 (xa xb : Int32) : OP_8 [xa, xb] := by
  rcases i_box xa 6 (by decide) with ⟨ma, ha, rfl⟩ | ha | ha
  rotate_left
  · exact ⟨fun _ => 0, 4294967295, SideX_of [(aU 0 0 2147483647), (aU 0 0 4294967295)] (sb_115_0 (run_sound 1000000)) (TrX_id _) (fun ad => ⟨vU_bd (Nat.zero_le _) ha, vU_any _, trivial⟩) (and_t e8_0l).1, SideM_of [(aU 0 0 2147483647), (aU 0 0 4294967295)] (sb_167_0 (run_sound 1000000)) (fun ad => ⟨vU_bd (Nat.zero_le _) ha, vU_any _, trivial⟩) (and_t e8_0l).2⟩
  · exact ⟨fun _ => 0, 4294967295, SideX_of [(aU 0 2147483654 4294967295), (aU 0 0 4294967295)] (sb_115_0 (run_sound 1000000)) (TrX_id _) (fun ad => ⟨vU_bd ha (a_bs_max _), vU_any _, trivial⟩) (and_t e8_0h).1, SideM_of [(aU 0 2147483654 4294967295), (aU 0 0 4294967295)] (sb_167_0 (run_sound 1000000)) (fun ad => ⟨vU_bd ha (a_bs_max _), vU_any _, trivial⟩) (and_t e8_0h).2⟩
  rcases i_box xb 10 (by decide) with ⟨mb, hb, rfl⟩ | hb | hb
  rotate_left
  · exact ⟨fun _ => 0, 4294967295, SideX_of [(aI ma), (aU 0 0 2147483647)] (sb_115_0 (run_sound 1000000)) (TrX_id _) (fun ad => ⟨⟨Nat.lt_of_lt_of_le ha (by decide), rfl⟩, vU_bd (Nat.zero_le _) hb, trivial⟩) (and_t (q_all_at e8_1l ma ha)).1, SideM_of [(aI ma), (aU 0 0 2147483647)] (sb_167_0 (run_sound 1000000)) (fun ad => ⟨⟨Nat.lt_of_lt_of_le ha (by decide), rfl⟩, vU_bd (Nat.zero_le _) hb, trivial⟩) (and_t (q_all_at e8_1l ma ha)).2⟩
  · exact ⟨fun _ => 0, 4294967295, SideX_of [(aI ma), (aU 0 2147483658 4294967295)] (sb_115_0 (run_sound 1000000)) (TrX_id _) (fun ad => ⟨⟨Nat.lt_of_lt_of_le ha (by decide), rfl⟩, vU_bd hb (a_bs_max _), trivial⟩) (and_t (q_all_at e8_1h ma ha)).1, SideM_of [(aI ma), (aU 0 2147483658 4294967295)] (sb_167_0 (run_sound 1000000)) (fun ad => ⟨⟨Nat.lt_of_lt_of_le ha (by decide), rfl⟩, vU_bd hb (a_bs_max _), trivial⟩) (and_t (q_all_at e8_1h ma ha)).2⟩
  exact ⟨fun _ => 0, 1, SideX_of [(aI ma), (aI mb)] (sb_115_0 (run_sound 1000000)) (TrX_id _) (fun ad => ⟨⟨Nat.lt_of_lt_of_le ha (by decide), rfl⟩, ⟨Nat.lt_of_lt_of_le hb (by decide), rfl⟩, trivial⟩) (q_all_at (q_all_at e8_X ma ha) mb hb), SideM_of [(aI ma), (aU 0 2147483648 2147483657)] (sb_167_0 (run_sound 1000000)) (fun ad => ⟨⟨Nat.lt_of_lt_of_le ha (by decide), rfl⟩, vU_in hb (by decide), trivial⟩) (q_all_at e8_M ma ha)⟩
set_option maxRecDepth 100000 in
theorem e13_0l : (q_1 4294967295 105 Z_X (cX_13 k_HX (aU 0 0 2147483647) (aU 0 0 4294967295)) && q_1 4294967295 35 Z_M (cM_13 k_HM (aU 0 0 2147483647) (aU 0 0 4294967295))) = true := by decide +kernel
set_option maxRecDepth 100000 in
theorem e13_0h : (q_1 4294967295 105 Z_X (cX_13 k_HX (aU 0 2147483658 4294967295) (aU 0 0 4294967295)) && q_1 4294967295 35 Z_M (cM_13 k_HM (aU 0 2147483658 4294967295) (aU 0 0 4294967295))) = true := by decide +kernel
set_option maxRecDepth 100000 in
theorem e13_1l : (q_1 4294967295 105 Z_X (cX_13 k_HX (aU 0 2147483648 2147483657) (aU 0 0 2147483647)) && q_1 4294967295 35 Z_M (cM_13 k_HM (aU 0 2147483648 2147483657) (aU 0 0 2147483647))) = true := by decide +kernel
set_option maxRecDepth 100000 in
theorem e13_1h : (q_1 4294967295 105 Z_X (cX_13 k_HX (aU 0 2147483648 2147483657) (aU 0 2147483658 4294967295)) && q_1 4294967295 35 Z_M (cM_13 k_HM (aU 0 2147483648 2147483657) (aU 0 2147483658 4294967295))) = true := by decide +kernel
set_option maxRecDepth 100000 in
theorem e13_X : q_all (fun a => q_all (fun b => q_1 1 105 Z_X (cX_13 k_HX (aI a) (aI b))) 10) 10 = true := by decide +kernel
set_option maxRecDepth 100000 in
theorem e13_M : q_1 1 35 Z_M (cM_13 k_HM (aU 0 2147483648 2147483657) (aU 0 2147483648 2147483657)) = true := by decide +kernel
set_option maxRecDepth 20000 in
theorem op_13 (xa xb : Int32) : OP_13 [xa, xb] := by
  rcases i_box xa 10 (by decide) with ⟨ma, ha, rfl⟩ | ha | ha
  rotate_left
  · exact ⟨fun _ => 0, 4294967295, SideX_of [(aU 0 0 2147483647), (aU 0 0 4294967295)] (sb_123_0 (run_sound 1000000)) (TrX_id _) (fun ad => ⟨vU_bd (Nat.zero_le _) ha, vU_any _, trivial⟩) (and_t e13_0l).1, SideM_of [(aU 0 0 2147483647), (aU 0 0 4294967295)] (sb_177_0 (run_sound 1000000)) (fun ad => ⟨vU_bd (Nat.zero_le _) ha, vU_any _, trivial⟩) (and_t e13_0l).2⟩
  · exact ⟨fun _ => 0, 4294967295, SideX_of [(aU 0 2147483658 4294967295), (aU 0 0 4294967295)] (sb_123_0 (run_sound 1000000)) (TrX_id _) (fun ad => ⟨vU_bd ha (a_bs_max _), vU_any _, trivial⟩) (and_t e13_0h).1, SideM_of [(aU 0 2147483658 4294967295), (aU 0 0 4294967295)] (sb_177_0 (run_sound 1000000)) (fun ad => ⟨vU_bd ha (a_bs_max _), vU_any _, trivial⟩) (and_t e13_0h).2⟩
  rcases i_box xb 10 (by decide) with ⟨mb, hb, rfl⟩ | hb | hb
  rotate_left
  · exact ⟨fun _ => 0, 4294967295, SideX_of [(aU 0 2147483648 2147483657), (aU 0 0 2147483647)] (sb_123_0 (run_sound 1000000)) (TrX_id _) (fun ad => ⟨vU_in ha (by decide), vU_bd (Nat.zero_le _) hb, trivial⟩) (and_t e13_1l).1, SideM_of [(aU 0 2147483648 2147483657), (aU 0 0 2147483647)] (sb_177_0 (run_sound 1000000)) (fun ad => ⟨vU_in ha (by decide), vU_bd (Nat.zero_le _) hb, trivial⟩) (and_t e13_1l).2⟩
  · exact ⟨fun _ => 0, 4294967295, SideX_of [(aU 0 2147483648 2147483657), (aU 0 2147483658 4294967295)] (sb_123_0 (run_sound 1000000)) (TrX_id _) (fun ad => ⟨vU_in ha (by decide), vU_bd hb (a_bs_max _), trivial⟩) (and_t e13_1h).1, SideM_of [(aU 0 2147483648 2147483657), (aU 0 2147483658 4294967295)] (sb_177_0 (run_sound 1000000)) (fun ad => ⟨vU_in ha (by decide), vU_bd hb (a_bs_max _), trivial⟩) (and_t e13_1h).2⟩
  exact ⟨fun _ => 0, 1, SideX_of [(aI ma), (aI mb)] (sb_123_0 (run_sound 1000000)) (TrX_id _) (fun ad => ⟨⟨Nat.lt_of_lt_of_le ha (by decide), rfl⟩, ⟨Nat.lt_of_lt_of_le hb (by decide), rfl⟩, trivial⟩) (q_all_at (q_all_at e13_X ma ha) mb hb), SideM_of [(aU 0 2147483648 2147483657), (aU 0 2147483648 2147483657)] (sb_177_0 (run_sound 1000000)) (fun ad => ⟨vU_in ha (by decide), vU_in hb (by decide), trivial⟩) e13_M⟩
set_option maxRecDepth 100000 in
theorem e14_0l : (q_1 4294967295 105 Z_X (cX_14 k_HX (aU 0 0 2147483647) (aU 0 0 4294967295) (aU 0 0 4294967295) (aU 0 0 4294967295)) && q_1 4294967295 35 Z_M (cM_14 k_HM (aU 0 0 2147483647) (aU 0 0 4294967295) (aU 0 0 4294967295) (aU 0 0 4294967295))) = true := by decide +kernel
set_option maxRecDepth 100000 in
theorem e14_0h : (q_1 4294967295 105 Z_X (cX_14 k_HX (aU 0 2147483658 4294967295) (aU 0 0 4294967295) (aU 0 0 4294967295) (aU 0 0 4294967295)) && q_1 4294967295 35 Z_M (cM_14 k_HM (aU 0 2147483658 4294967295) (aU 0 0 4294967295) (aU 0 0 4294967295) (aU 0 0 4294967295))) = true := by decide +kernel
set_option maxRecDepth 100000 in
theorem e14_1l : (q_1 4294967295 105 Z_X (cX_14 k_HX (aU 0 2147483648 2147483657) (aU 0 0 2147483647) (aU 0 0 4294967295) (aU 0 0 4294967295)) && q_1 4294967295 35 Z_M (cM_14 k_HM (aU 0 2147483648 2147483657) (aU 0 0 2147483647) (aU 0 0 4294967295) (aU 0 0 4294967295))) = true := by decide +kernel
set_option maxRecDepth 100000 in
theorem e14_1h : (q_1 4294967295 105 Z_X (cX_14 k_HX (aU 0 2147483648 2147483657) (aU 0 2147483650 4294967295) (aU 0 0 4294967295) (aU 0 0 4294967295)) && q_1 4294967295 35 Z_M (cM_14 k_HM (aU 0 2147483648 2147483657) (aU 0 2147483650 4294967295) (aU 0 0 4294967295) (aU 0 0 4294967295))) = true := by decide +kernel
set_option maxRecDepth 100000 in
theorem e14_3l : q_all (fun b => (q_1 4294967295 105 Z_X (cX_14 k_HX (aU 0 2147483648 2147483657) (aI b) (aU 0 0 4294967295) (aU 0 0 2147483647)) && q_1 4294967295 35 Z_M (cM_14 k_HM (aU 0 2147483648 2147483657) (aI b) (aU 0 0 4294967295) (aU 0 0 2147483647)))) 2 = true := by decide +kernel
set_option maxRecDepth 100000 in
theorem e14_3h : q_all (fun b => (q_1 4294967295 105 Z_X (cX_14 k_HX (aU 0 2147483648 2147483657) (aI b) (aU 0 0 4294967295) (aU 0 2147483658 4294967295)) && q_1 4294967295 35 Z_M (cM_14 k_HM (aU 0 2147483648 2147483657) (aI b) (aU 0 0 4294967295) (aU 0 2147483658 4294967295)))) 2 = true := by decide +kernel
set_option maxRecDepth 100000 in
theorem e14_Xl : q_all (fun a => q_all (fun b => q_all (fun d => q_1 4294967292 105 Z_X (cX_14 k_HX (aI a) (aI b) (aU 0 0 2147483647) (aI d))) 10) 2) 10 = true := by decide +kernel
set_option maxRecDepth 100000 in
theorem e14_Ml : q_all (fun b => q_1 4294967292 35 Z_M (cM_14 k_HM (aU 0 2147483648 2147483657) (aI b) (aU 0 0 2147483647) (aU 0 2147483648 2147483657))) 2 = true := by decide +kernel
set_option maxRecDepth 100000 in
theorem e14_Xh : q_all (fun a => q_all (fun b => q_all (fun d => q_1 4294967292 105 Z_X (cX_14 k_HX (aI a) (aI b) (aU 0 2147483648 4294967295) (aI d))) 10) 2) 10 = true := by decide +kernel
set_option maxRecDepth 100000 in
theorem e14_Mh : q_all (fun b => q_1 4294967292 35 Z_M (cM_14 k_HM (aU 0 2147483648 2147483657) (aI b) (aU 0 2147483648 4294967295) (aU 0 2147483648 2147483657))) 2 = true := by decide +kernel
set_option maxRecDepth 20000 in
theorem op_14 (xa xb xc xd : Int32) : OP_14 [xa, xb, xc, xd] := by
  rcases i_box xa 10 (by decide) with ⟨ma, ha, rfl⟩ | ha | ha
  rotate_left
  · exact ⟨fun _ => 0, 4294967295, SideX_of [(aU 0 0 2147483647), (aU 0 0 4294967295), (aU 0 0 4294967295), (aU 0 0 4294967295)] (sb_124_0 (run_sound 1000000)) (TrX_id _) (fun ad => ⟨vU_bd (Nat.zero_le _) ha, vU_any _, vU_any _, vU_any _, trivial⟩) (and_t e14_0l).1, SideM_of [(aU 0 0 2147483647), (aU 0 0 4294967295), (aU 0 0 4294967295), (aU 0 0 4294967295)] (sb_178_0 (run_sound 1000000)) (fun ad => ⟨vU_bd (Nat.zero_le _) ha, vU_any _, vU_any _, vU_any _, trivial⟩) (and_t e14_0l).2⟩
  · exact ⟨fun _ => 0, 4294967295, SideX_of [(aU 0 2147483658 4294967295), (aU 0 0 4294967295), (aU 0 0 4294967295), (aU 0 0 4294967295)] (sb_124_0 (run_sound 1000000)) (TrX_id _) (fun ad => ⟨vU_bd ha (a_bs_max _), vU_any _, vU_any _, vU_any _, trivial⟩) (and_t e14_0h).1, SideM_of [(aU 0 2147483658 4294967295), (aU 0 0 4294967295), (aU 0 0 4294967295), (aU 0 0 4294967295)] (sb_178_0 (run_sound 1000000)) (fun ad => ⟨vU_bd ha (a_bs_max _), vU_any _, vU_any _, vU_any _, trivial⟩) (and_t e14_0h).2⟩
  rcases i_box xb 2 (by decide) with ⟨mb, hb, rfl⟩ | hb | hb
  rotate_left
  · exact ⟨fun _ => 0, 4294967295, SideX_of [(aU 0 2147483648 2147483657), (aU 0 0 2147483647), (aU 0 0 4294967295), (aU 0 0 4294967295)] (sb_124_0 (run_sound 1000000)) (TrX_id _) (fun ad => ⟨vU_in ha (by decide), vU_bd (Nat.zero_le _) hb, vU_any _, vU_any _, trivial⟩) (and_t e14_1l).1, SideM_of [(aU 0 2147483648 2147483657), (aU 0 0 2147483647), (aU 0 0 4294967295), (aU 0 0 4294967295)] (sb_178_0 (run_sound 1000000)) (fun ad => ⟨vU_in ha (by decide), vU_bd (Nat.zero_le _) hb, vU_any _, vU_any _, trivial⟩) (and_t e14_1l).2⟩
  · exact ⟨fun _ => 0, 4294967295, SideX_of [(aU 0 2147483648 2147483657), (aU 0 2147483650 4294967295), (aU 0 0 4294967295), (aU 0 0 4294967295)] (sb_124_0 (run_sound 1000000)) (TrX_id _) (fun ad => ⟨vU_in ha (by decide), vU_bd hb (a_bs_max _), vU_any _, vU_any _, trivial⟩) (and_t e14_1h).1, SideM_of [(aU 0 2147483648 2147483657), (aU 0 2147483650 4294967295), (aU 0 0 4294967295), (aU 0 0 4294967295)] (sb_178_0 (run_sound 1000000)) (fun ad => ⟨vU_in ha (by decide), vU_bd hb (a_bs_max _), vU_any _, vU_any _, trivial⟩) (and_t e14_1h).2⟩
  rcases i_box xd 10 (by decide) with ⟨md, hd, rfl⟩ | hd | hd
  rotate_left
  · exact ⟨fun _ => 0, 4294967295, SideX_of [(aU 0 2147483648 2147483657), (aI mb), (aU 0 0 4294967295), (aU 0 0 2147483647)] (sb_124_0 (run_sound 1000000)) (TrX_id _) (fun ad => ⟨vU_in ha (by decide), ⟨Nat.lt_of_lt_of_le hb (by decide), rfl⟩, vU_any _, vU_bd (Nat.zero_le _) hd, trivial⟩) (and_t (q_all_at e14_3l mb hb)).1, SideM_of [(aU 0 2147483648 2147483657), (aI mb), (aU 0 0 4294967295), (aU 0 0 2147483647)] (sb_178_0 (run_sound 1000000)) (fun ad => ⟨vU_in ha (by decide), ⟨Nat.lt_of_lt_of_le hb (by decide), rfl⟩, vU_any _, vU_bd (Nat.zero_le _) hd, trivial⟩) (and_t (q_all_at e14_3l mb hb)).2⟩
  · exact ⟨fun _ => 0, 4294967295, SideX_of [(aU 0 2147483648 2147483657), (aI mb), (aU 0 0 4294967295), (aU 0 2147483658 4294967295)] (sb_124_0 (run_sound 1000000)) (TrX_id _) (fun ad => ⟨vU_in ha (by decide), ⟨Nat.lt_of_lt_of_le hb (by decide), rfl⟩, vU_any _, vU_bd hd (a_bs_max _), trivial⟩) (and_t (q_all_at e14_3h mb hb)).1, SideM_of [(aU 0 2147483648 2147483657), (aI mb), (aU 0 0 4294967295), (aU 0 2147483658 4294967295)] (sb_178_0 (run_sound 1000000)) (fun ad => ⟨vU_in ha (by decide), ⟨Nat.lt_of_lt_of_le hb (by decide), rfl⟩, vU_any _, vU_bd hd (a_bs_max _), trivial⟩) (and_t (q_all_at e14_3h mb hb)).2⟩
  rcases i_box xc 0 (by decide) with ⟨mc, hc, rfl⟩ | hc | hc
  · exact absurd hc (Nat.not_lt_zero _)
  · exact ⟨fun _ => 0, 4294967292, SideX_of [(aI ma), (aI mb), (aU 0 0 2147483647), (aI md)] (sb_124_0 (run_sound 1000000)) (TrX_id _) (fun ad => ⟨⟨Nat.lt_of_lt_of_le ha (by decide), rfl⟩, ⟨Nat.lt_of_lt_of_le hb (by decide), rfl⟩, vU_bd (Nat.zero_le _) hc, ⟨Nat.lt_of_lt_of_le hd (by decide), rfl⟩, trivial⟩) (q_all_at (q_all_at (q_all_at e14_Xl ma ha) mb hb) md hd), SideM_of [(aU 0 2147483648 2147483657), (aI mb), (aU 0 0 2147483647), (aU 0 2147483648 2147483657)] (sb_178_0 (run_sound 1000000)) (fun ad => ⟨vU_in ha (by decide), ⟨Nat.lt_of_lt_of_le hb (by decide), rfl⟩, vU_bd (Nat.zero_le _) hc, vU_in hd (by decide), trivial⟩) (q_all_at e14_Ml mb hb)⟩
  · exact ⟨fun _ => 0, 4294967292, SideX_of [(aI ma), (aI mb), (aU 0 2147483648 4294967295), (aI md)] (sb_124_0 (run_sound 1000000)) (TrX_id _) (fun ad => ⟨⟨Nat.lt_of_lt_of_le ha (by decide), rfl⟩, ⟨Nat.lt_of_lt_of_le hb (by decide), rfl⟩, vU_bd hc (a_bs_max _), ⟨Nat.lt_of_lt_of_le hd (by decide), rfl⟩, trivial⟩) (q_all_at (q_all_at (q_all_at e14_Xh ma ha) mb hb) md hd), SideM_of [(aU 0 2147483648 2147483657), (aI mb), (aU 0 2147483648 4294967295), (aU 0 2147483648 2147483657)] (sb_178_0 (run_sound 1000000)) (fun ad => ⟨vU_in ha (by decide), ⟨Nat.lt_of_lt_of_le hb (by decide), rfl⟩, vU_bd hc (a_bs_max _), vU_in hd (by decide), trivial⟩) (q_all_at e14_Mh mb hb)⟩
set_option maxRecDepth 100000 in
theorem e15_0l : (q_1 4294967295 105 Z_X (cX_15 k_HX (aU 0 0 2147483647) (aU 0 0 4294967295)) && q_1 4294967295 35 Z_M (cM_15 k_HM (aU 0 0 2147483647) (aU 0 0 4294967295))) = true := by decide +kernel
set_option maxRecDepth 100000 in
theorem e15_0h : (q_1 4294967295 105 Z_X (cX_15 k_HX (aU 0 2147483658 4294967295) (aU 0 0 4294967295)) && q_1 4294967295 35 Z_M (cM_15 k_HM (aU 0 2147483658 4294967295) (aU 0 0 4294967295))) = true := by decide +kernel
set_option maxRecDepth 100000 in
theorem e15_1l : q_all (fun a => (q_1 4294967295 105 Z_X (cX_15 k_HX (aI a) (aU 0 0 2147483647)) && q_1 4294967295 35 Z_M (cM_15 k_HM (aI a) (aU 0 0 2147483647)))) 10 = true := by decide +kernel
set_option maxRecDepth 100000 in
theorem e15_1h : q_all (fun a => (q_1 4294967295 105 Z_X (cX_15 k_HX (aI a) (aU 0 2147483653 4294967295)) && q_1 4294967295 35 Z_M (cM_15 k_HM (aI a) (aU 0 2147483653 4294967295)))) 10 = true := by decide +kernel
def T15 : List Nat := [1, 0, 0, 0, 1, 1, 0, 0, 0, 1, 1, 0, 0, 0, 1, 1, 0, 0, 0, 1, 1, 0, 0, 0, 1, 1, 0, 0, 0, 1, 1, 0, 0, 0, 1, 1, 0, 0, 0, 1, 1, 0, 0, 0, 1, 1, 0, 0, 0, 1]
set_option maxRecDepth 100000 in
theorem e15_X : q_all (fun a => q_all (fun b => q_1 (k_l T15 (a * 5 + b)) 105 Z_X (cX_15 k_HX (aI a) (aI b))) 5) 10 = true := by decide +kernel
set_option maxRecDepth 100000 in
theorem e15_M : q_all (fun a => q_all (fun b => q_1 (k_l T15 (a * 5 + b)) 35 Z_M (cM_15 k_HM (aI a) (aI b))) 5) 10 = true := by decide +kernel
set_option maxRecDepth 20000 in
theorem op_15 (xa xb : Int32) : OP_15 [xa, xb] := by
  rcases i_box xa 10 (by decide) with ⟨ma, ha, rfl⟩ | ha | ha
  rotate_left
  · exact ⟨fun _ => 0, 4294967295, SideX_of [(aU 0 0 2147483647), (aU 0 0 4294967295)] (sb_125_0 (run_sound 1000000)) (TrX_id _) (fun ad => ⟨vU_bd (Nat.zero_le _) ha, vU_any _, trivial⟩) (and_t e15_0l).1, SideM_of [(aU 0 0 2147483647), (aU 0 0 4294967295)] (sb_187_0 (run_sound 1000000)) (fun ad => ⟨vU_bd (Nat.zero_le _) ha, vU_any _, trivial⟩) (and_t e15_0l).2⟩
  · exact ⟨fun _ => 0, 4294967295, SideX_of [(aU 0 2147483658 4294967295), (aU 0 0 4294967295)] (sb_125_0 (run_sound 1000000)) (TrX_id _) (fun ad => ⟨vU_bd ha (a_bs_max _), vU_any _, trivial⟩) (and_t e15_0h).1, SideM_of [(aU 0 2147483658 4294967295), (aU 0 0 4294967295)] (sb_187_0 (run_sound 1000000)) (fun ad => ⟨vU_bd ha (a_bs_max _), vU_any _, trivial⟩) (and_t e15_0h).2⟩
  rcases i_box xb 5 (by decide) with ⟨mb, hb, rfl⟩ | hb | hb
  rotate_left
  · exact ⟨fun _ => 0, 4294967295, SideX_of [(aI ma), (aU 0 0 2147483647)] (sb_125_0 (run_sound 1000000)) (TrX_id _) (fun ad => ⟨⟨Nat.lt_of_lt_of_le ha (by decide), rfl⟩, vU_bd (Nat.zero_le _) hb, trivial⟩) (and_t (q_all_at e15_1l ma ha)).1, SideM_of [(aI ma), (aU 0 0 2147483647)] (sb_187_0 (run_sound 1000000)) (fun ad => ⟨⟨Nat.lt_of_lt_of_le ha (by decide), rfl⟩, vU_bd (Nat.zero_le _) hb, trivial⟩) (and_t (q_all_at e15_1l ma ha)).2⟩
  · exact ⟨fun _ => 0, 4294967295, SideX_of [(aI ma), (aU 0 2147483653 4294967295)] (sb_125_0 (run_sound 1000000)) (TrX_id _) (fun ad => ⟨⟨Nat.lt_of_lt_of_le ha (by decide), rfl⟩, vU_bd hb (a_bs_max _), trivial⟩) (and_t (q_all_at e15_1h ma ha)).1, SideM_of [(aI ma), (aU 0 2147483653 4294967295)] (sb_187_0 (run_sound 1000000)) (fun ad => ⟨⟨Nat.lt_of_lt_of_le ha (by decide), rfl⟩, vU_bd hb (a_bs_max _), trivial⟩) (and_t (q_all_at e15_1h ma ha)).2⟩
  exact ⟨fun _ => 0, (k_l T15 (ma * 5 + mb)), SideX_of [(aI ma), (aI mb)] (sb_125_0 (run_sound 1000000)) (TrX_id _) (fun ad => ⟨⟨Nat.lt_of_lt_of_le ha (by decide), rfl⟩, ⟨Nat.lt_of_lt_of_le hb (by decide), rfl⟩, trivial⟩) (q_all_at (q_all_at e15_X ma ha) mb hb), SideM_of [(aI ma), (aI mb)] (sb_187_0 (run_sound 1000000)) (fun ad => ⟨⟨Nat.lt_of_lt_of_le ha (by decide), rfl⟩, ⟨Nat.lt_of_lt_of_le hb (by decide), rfl⟩, trivial⟩) (q_all_at (q_all_at e15_M ma ha) mb hb)⟩
set_option maxRecDepth 100000 in
theorem e16_0l : (q_1 4294967295 105 Z_X (cX_16 k_HX (aU 0 0 2147483647) (aU 0 0 4294967295)) && q_1 4294967295 35 Z_M (cM_16 k_HM (aU 0 0 2147483647) (aU 0 0 4294967295))) = true := by decide +kernel
set_option maxRecDepth 100000 in
theorem e16_0h : (q_1 4294967295 105 Z_X (cX_16 k_HX (aU 0 2147483658 4294967295) (aU 0 0 4294967295)) && q_1 4294967295 35 Z_M (cM_16 k_HM (aU 0 2147483658 4294967295) (aU 0 0 4294967295))) = true := by decide +kernel
set_option maxRecDepth 100000 in
theorem e16_1l : (q_1 4294967295 105 Z_X (cX_16 k_HX (aU 0 2147483648 2147483657) (aU 0 0 2147483647)) && q_1 4294967295 35 Z_M (cM_16 k_HM (aU 0 2147483648 2147483657) (aU 0 0 2147483647))) = true := by decide +kernel
set_option maxRecDepth 100000 in
theorem e16_1h : (q_1 4294967295 105 Z_X (cX_16 k_HX (aU 0 2147483648 2147483657) (aU 0 2147483658 4294967295)) && q_1 4294967295 35 Z_M (cM_16 k_HM (aU 0 2147483648 2147483657) (aU 0 2147483658 4294967295))) = true := by decide +kernel
set_option maxRecDepth 100000 in
theorem e16_X : q_all (fun a => q_all (fun b => q_1 0 105 Z_X (cX_16 k_HX (aI a) (aI b))) 10) 10 = true := by decide +kernel
set_option maxRecDepth 100000 in
theorem e16_M : q_1 0 35 Z_M (cM_16 k_HM (aU 0 2147483648 2147483657) (aU 0 2147483648 2147483657)) = true := by decide +kernel
set_option maxRecDepth 20000 in
theorem op_16 (xa xb : Int32) : OP_16 [xa, xb] := by
  rcases i_box xa 10 (by decide) with ⟨ma, ha, rfl⟩ | ha | ha
  rotate_left
  · exact ⟨fun _ => 0, 4294967295, SideX_of [(aU 0 0 2147483647), (aU 0 0 4294967295)] (sb_126_0 (run_sound 1000000)) (TrX_id _) (fun ad => ⟨vU_bd (Nat.zero_le _) ha, vU_any _, trivial⟩) (and_t e16_0l).1, SideM_of [(aU 0 0 2147483647), (aU 0 0 4294967295)] (sb_188_0 (run_sound 1000000)) (fun ad => ⟨vU_bd (Nat.zero_le _) ha, vU_any _, trivial⟩) (and_t e16_0l).2⟩
  · exact ⟨fun _ => 0, 4294967295, SideX_of [(aU 0 2147483658 4294967295), (aU 0 0 4294967295)] (sb_126_0 (run_sound 1000000)) (TrX_id _) (fun ad => ⟨vU_bd ha (a_bs_max _), vU_any _, trivial⟩) (and_t e16_0h).1, SideM_of [(aU 0 2147483658 4294967295), (aU 0 0 4294967295)] (sb_188_0 (run_sound 1000000)) (fun ad => ⟨vU_bd ha (a_bs_max _), vU_any _, trivial⟩) (and_t e16_0h).2⟩
  rcases i_box xb 10 (by decide) with ⟨mb, hb, rfl⟩ | hb | hb
  rotate_left
  · exact ⟨fun _ => 0, 4294967295, SideX_of [(aU 0 2147483648 2147483657), (aU 0 0 2147483647)] (sb_126_0 (run_sound 1000000)) (TrX_id _) (fun ad => ⟨vU_in ha (by decide), vU_bd (Nat.zero_le _) hb, trivial⟩) (and_t e16_1l).1, SideM_of [(aU 0 2147483648 2147483657), (aU 0 0 2147483647)] (sb_188_0 (run_sound 1000000)) (fun ad => ⟨vU_in ha (by decide), vU_bd (Nat.zero_le _) hb, trivial⟩) (and_t e16_1l).2⟩
  · exact ⟨fun _ => 0, 4294967295, SideX_of [(aU 0 2147483648 2147483657), (aU 0 2147483658 4294967295)] (sb_126_0 (run_sound 1000000)) (TrX_id _) (fun ad => ⟨vU_in ha (by decide), vU_bd hb (a_bs_max _), trivial⟩) (and_t e16_1h).1, SideM_of [(aU 0 2147483648 2147483657), (aU 0 2147483658 4294967295)] (sb_188_0 (run_sound 1000000)) (fun ad => ⟨vU_in ha (by decide), vU_bd hb (a_bs_max _), trivial⟩) (and_t e16_1h).2⟩
  exact ⟨fun _ => 0, 0, SideX_of [(aI ma), (aI mb)] (sb_126_0 (run_sound 1000000)) (TrX_id _) (fun ad => ⟨⟨Nat.lt_of_lt_of_le ha (by decide), rfl⟩, ⟨Nat.lt_of_lt_of_le hb (by decide), rfl⟩, trivial⟩) (q_all_at (q_all_at e16_X ma ha) mb hb), SideM_of [(aU 0 2147483648 2147483657), (aU 0 2147483648 2147483657)] (sb_188_0 (run_sound 1000000)) (fun ad => ⟨vU_in ha (by decide), vU_in hb (by decide), trivial⟩) e16_M⟩
set_option maxRecDepth 100000 in
theorem e17_0l : (q_1 4294967295 105 Z_X (cX_17 k_HX (aU 0 0 2147483647)) && q_1 4294967295 35 Z_M (cM_17 k_HM (aU 0 0 2147483647))) = true := by decide +kernel
set_option maxRecDepth 100000 in
theorem e17_0h : (q_1 4294967295 105 Z_X (cX_17 k_HX (aU 0 2147483658 4294967295)) && q_1 4294967295 35 Z_M (cM_17 k_HM (aU 0 2147483658 4294967295))) = true := by decide +kernel
set_option maxRecDepth 100000 in
theorem e17_X : q_all (fun a => q_1 0 105 Z_X (cX_17 k_HX (aI a))) 10 = true := by decide +kernel
set_option maxRecDepth 100000 in
theorem e17_M : q_1 0 35 Z_M (cM_17 k_HM (aU 0 2147483648 2147483657)) = true := by decide +kernel
set_option maxRecDepth 20000 in
theorem op_17 (xa : Int32) : OP_17 [xa] := by
  rcases i_box xa 10 (by decide) with ⟨ma, ha, rfl⟩ | ha | ha
  rotate_left
  · exact ⟨fun _ => 0, 4294967295, SideX_of [(aU 0 0 2147483647)] (sb_127_0 (run_sound 1000000)) (TrX_id _) (fun ad => ⟨vU_bd (Nat.zero_le _) ha, trivial⟩) (and_t e17_0l).1, SideM_of [(aU 0 0 2147483647)] (sb_189_0 (run_sound 1000000)) (fun ad => ⟨vU_bd (Nat.zero_le _) ha, trivial⟩) (and_t e17_0l).2⟩
  · exact ⟨fun _ => 0, 4294967295, SideX_of [(aU 0 2147483658 4294967295)] (sb_127_0 (run_sound 1000000)) (TrX_id _) (fun ad => ⟨vU_bd ha (a_bs_max _), trivial⟩) (and_t e17_0h).1, SideM_of [(aU 0 2147483658 4294967295)] (sb_189_0 (run_sound 1000000)) (fun ad => ⟨vU_bd ha (a_bs_max _), trivial⟩) (and_t e17_0h).2⟩
  exact ⟨fun _ => 0, 0, SideX_of [(aI ma)] (sb_127_0 (run_sound 1000000)) (TrX_id _) (fun ad => ⟨⟨Nat.lt_of_lt_of_le ha (by decide), rfl⟩, trivial⟩) (q_all_at e17_X ma ha), SideM_of [(aU 0 2147483648 2147483657)] (sb_189_0 (run_sound 1000000)) (fun ad => ⟨vU_in ha (by decide), trivial⟩) e17_M⟩
set_option maxRecDepth 100000 in
theorem e18_0l : (q_1 4293967296 105 Z_X (cX_18 k_HX (aU 0 0 2147483647) (aU 0 0 4294967295)) && q_1 4293967296 35 Z_M (cM_18 k_HM (aU 0 0 2147483647) (aU 0 0 4294967295))) = true := by decide +kernel
set_option maxRecDepth 100000 in
theorem e18_0h : (q_1 4293967296 105 Z_X (cX_18 k_HX (aU 0 2147483658 4294967295) (aU 0 0 4294967295)) && q_1 4293967296 35 Z_M (cM_18 k_HM (aU 0 2147483658 4294967295) (aU 0 0 4294967295))) = true := by decide +kernel
set_option maxRecDepth 100000 in
theorem e18_1l : (q_1 4293967296 105 Z_X (cX_18 k_HX (aU 0 2147483648 2147483657) (aU 0 0 2147483647)) && q_1 4293967296 35 Z_M (cM_18 k_HM (aU 0 2147483648 2147483657) (aU 0 0 2147483647))) = true := by decide +kernel
set_option maxRecDepth 100000 in
theorem e18_1h : (q_1 4293967296 105 Z_X (cX_18 k_HX (aU 0 2147483648 2147483657) (aU 0 2147483650 4294967295)) && q_1 4293967296 35 Z_M (cM_18 k_HM (aU 0 2147483648 2147483657) (aU 0 2147483650 4294967295))) = true := by decide +kernel
set_option maxRecDepth 100000 in
theorem e18_X : q_all (fun a => q_all (fun b => q_1 0 105 Z_X (cX_18 k_HX (aI a) (aI b))) 2) 10 = true := by decide +kernel
set_option maxRecDepth 100000 in
theorem e18_M : q_all (fun b => q_1 0 35 Z_M (cM_18 k_HM (aU 0 2147483648 2147483657) (aI b))) 2 = true := by decide +kernel
set_option maxRecDepth 20000 in
theorem op_18 (xa xb : Int32) : OP_18 [xa, xb] := by
  rcases i_box xa 10 (by decide) with ⟨ma, ha, rfl⟩ | ha | ha
  rotate_left
  · exact ⟨fun _ => 0, 4293967296, SideX_of [(aU 0 0 2147483647), (aU 0 0 4294967295)] (sb_129_0 (run_sound 1000000)) (TrX_id _) (fun ad => ⟨vU_bd (Nat.zero_le _) ha, vU_any _, trivial⟩) (and_t e18_0l).1, SideM_of [(aU 0 0 2147483647), (aU 0 0 4294967295)] (sb_190_0 (run_sound 1000000)) (fun ad => ⟨vU_bd (Nat.zero_le _) ha, vU_any _, trivial⟩) (and_t e18_0l).2⟩
  · exact ⟨fun _ => 0, 4293967296, SideX_of [(aU 0 2147483658 4294967295), (aU 0 0 4294967295)] (sb_129_0 (run_sound 1000000)) (TrX_id _) (fun ad => ⟨vU_bd ha (a_bs_max _), vU_any _, trivial⟩) (and_t e18_0h).1, SideM_of [(aU 0 2147483658 4294967295), (aU 0 0 4294967295)] (sb_190_0 (run_sound 1000000)) (fun ad => ⟨vU_bd ha (a_bs_max _), vU_any _, trivial⟩) (and_t e18_0h).2⟩
  rcases i_box xb 2 (by decide) with ⟨mb, hb, rfl⟩ | hb | hb
  rotate_left
  · exact ⟨fun _ => 0, 4293967296, SideX_of [(aU 0 2147483648 2147483657), (aU 0 0 2147483647)] (sb_129_0 (run_sound 1000000)) (TrX_id _) (fun ad => ⟨vU_in ha (by decide), vU_bd (Nat.zero_le _) hb, trivial⟩) (and_t e18_1l).1, SideM_of [(aU 0 2147483648 2147483657), (aU 0 0 2147483647)] (sb_190_0 (run_sound 1000000)) (fun ad => ⟨vU_in ha (by decide), vU_bd (Nat.zero_le _) hb, trivial⟩) (and_t e18_1l).2⟩
  · exact ⟨fun _ => 0, 4293967296, SideX_of [(aU 0 2147483648 2147483657), (aU 0 2147483650 4294967295)] (sb_129_0 (run_sound 1000000)) (TrX_id _) (fun ad => ⟨vU_in ha (by decide), vU_bd hb (a_bs_max _), trivial⟩) (and_t e18_1h).1, SideM_of [(aU 0 2147483648 2147483657), (aU 0 2147483650 4294967295)] (sb_190_0 (run_sound 1000000)) (fun ad => ⟨vU_in ha (by decide), vU_bd hb (a_bs_max _), trivial⟩) (and_t e18_1h).2⟩
  exact ⟨fun _ => 0, 0, SideX_of [(aI ma), (aI mb)] (sb_129_0 (run_sound 1000000)) (TrX_id _) (fun ad => ⟨⟨Nat.lt_of_lt_of_le ha (by decide), rfl⟩, ⟨Nat.lt_of_lt_of_le hb (by decide), rfl⟩, trivial⟩) (q_all_at (q_all_at e18_X ma ha) mb hb), SideM_of [(aU 0 2147483648 2147483657), (aI mb)] (sb_190_0 (run_sound 1000000)) (fun ad => ⟨vU_in ha (by decide), ⟨Nat.lt_of_lt_of_le hb (by decide), rfl⟩, trivial⟩) (q_all_at e18_M mb hb)⟩
set_option maxRecDepth 100000 in
theorem e19_0l : (q_1 4293967296 105 Z_X (cX_19 k_HX (aU 0 0 2147483647) (aU 0 0 4294967295)) && q_1 4293967296 35 Z_M (cM_19 k_HM (aU 0 0 2147483647) (aU 0 0 4294967295))) = true := by decide +kernel
set_option maxRecDepth 100000 in
theorem e19_0h : (q_1 4293967296 105 Z_X (cX_19 k_HX (aU 0 2147483658 4294967295) (aU 0 0 4294967295)) && q_1 4293967296 35 Z_M (cM_19 k_HM (aU 0 2147483658 4294967295) (aU 0 0 4294967295))) = true := by decide +kernel
set_option maxRecDepth 100000 in
theorem e19_1l : (q_1 4293967296 105 Z_X (cX_19 k_HX (aU 0 2147483648 2147483657) (aU 0 0 2147483647)) && q_1 4293967296 35 Z_M (cM_19 k_HM (aU 0 2147483648 2147483657) (aU 0 0 2147483647))) = true := by decide +kernel
set_option maxRecDepth 100000 in
theorem e19_1h : (q_1 4293967296 105 Z_X (cX_19 k_HX (aU 0 2147483648 2147483657) (aU 0 2147483650 4294967295)) && q_1 4293967296 35 Z_M (cM_19 k_HM (aU 0 2147483648 2147483657) (aU 0 2147483650 4294967295))) = true := by decide +kernel
set_option maxRecDepth 100000 in
theorem e19_X : q_all (fun a => q_all (fun b => q_1 4293967296 105 Z_X (cX_19 k_HX (aI a) (aI b))) 2) 10 = true := by decide +kernel
set_option maxRecDepth 100000 in
theorem e19_M : q_all (fun b => q_1 4293967296 35 Z_M (cM_19 k_HM (aU 0 2147483648 2147483657) (aI b))) 2 = true := by decide +kernel
set_option maxRecDepth 20000 in
theorem op_19 (xa xb : Int32) : OP_19 [xa, xb] := by
  rcases i_box xa 10 (by decide) with ⟨ma, ha, rfl⟩ | ha | ha
  rotate_left
  · exact ⟨fun _ => 0, 4293967296, SideX_of [(aU 0 0 2147483647), (aU 0 0 4294967295)] (sb_130_0 (run_sound 1000000)) (TrX_id _) (fun ad => ⟨vU_bd (Nat.zero_le _) ha, vU_any _, trivial⟩) (and_t e19_0l).1, SideM_of [(aU 0 0 2147483647), (aU 0 0 4294967295)] (sb_191_0 (run_sound 1000000)) (fun ad => ⟨vU_bd (Nat.zero_le _) ha, vU_any _, trivial⟩) (and_t e19_0l).2⟩
  · exact ⟨fun _ => 0, 4293967296, SideX_of [(aU 0 2147483658 4294967295), (aU 0 0 4294967295)] (sb_130_0 (run_sound 1000000)) (TrX_id _) (fun ad => ⟨vU_bd ha (a_bs_max _), vU_any _, trivial⟩) (and_t e19_0h).1, SideM_of [(aU 0 2147483658 4294967295), (aU 0 0 4294967295)] (sb_191_0 (run_sound 1000000)) (fun ad => ⟨vU_bd ha (a_bs_max _), vU_any _, trivial⟩) (and_t e19_0h).2⟩
  rcases i_box xb 2 (by decide) with ⟨mb, hb, rfl⟩ | hb | hb
  rotate_left
  · exact ⟨fun _ => 0, 4293967296, SideX_of [(aU 0 2147483648 2147483657), (aU 0 0 2147483647)] (sb_130_0 (run_sound 1000000)) (TrX_id _) (fun ad => ⟨vU_in ha (by decide), vU_bd (Nat.zero_le _) hb, trivial⟩) (and_t e19_1l).1, SideM_of [(aU 0 2147483648 2147483657), (aU 0 0 2147483647)] (sb_191_0 (run_sound 1000000)) (fun ad => ⟨vU_in ha (by decide), vU_bd (Nat.zero_le _) hb, trivial⟩) (and_t e19_1l).2⟩
  · exact ⟨fun _ => 0, 4293967296, SideX_of [(aU 0 2147483648 2147483657), (aU 0 2147483650 4294967295)] (sb_130_0 (run_sound 1000000)) (TrX_id _) (fun ad => ⟨vU_in ha (by decide), vU_bd hb (a_bs_max _), trivial⟩) (and_t e19_1h).1, SideM_of [(aU 0 2147483648 2147483657), (aU 0 2147483650 4294967295)] (sb_191_0 (run_sound 1000000)) (fun ad => ⟨vU_in ha (by decide), vU_bd hb (a_bs_max _), trivial⟩) (and_t e19_1h).2⟩
  exact ⟨fun _ => 0, 4293967296, SideX_of [(aI ma), (aI mb)] (sb_130_0 (run_sound 1000000)) (TrX_id _) (fun ad => ⟨⟨Nat.lt_of_lt_of_le ha (by decide), rfl⟩, ⟨Nat.lt_of_lt_of_le hb (by decide), rfl⟩, trivial⟩) (q_all_at (q_all_at e19_X ma ha) mb hb), SideM_of [(aU 0 2147483648 2147483657), (aI mb)] (sb_191_0 (run_sound 1000000)) (fun ad => ⟨vU_in ha (by decide), ⟨Nat.lt_of_lt_of_le hb (by decide), rfl⟩, trivial⟩) (q_all_at e19_M mb hb)⟩
set_option maxRecDepth 100000 in
theorem e20_0l : (q_1 4293967296 105 Z_X (cX_20 k_HX (aU 0 0 2147483647) (aU 0 0 4294967295) (aU 0 0 4294967295)) && q_1 4293967296 35 Z_M (cM_20 k_HM (aU 0 0 2147483647) (aU 0 0 4294967295) (aU 0 0 4294967295))) = true := by decide +kernel
set_option maxRecDepth 100000 in
theorem e20_0h : (q_1 4293967296 105 Z_X (cX_20 k_HX (aU 0 2147483658 4294967295) (aU 0 0 4294967295) (aU 0 0 4294967295)) && q_1 4293967296 35 Z_M (cM_20 k_HM (aU 0 2147483658 4294967295) (aU 0 0 4294967295) (aU 0 0 4294967295))) = true := by decide +kernel
set_option maxRecDepth 100000 in
theorem e20_1l : (q_1 4293967296 105 Z_X (cX_20 k_HX (aU 0 2147483648 2147483657) (aU 0 0 2147483647) (aU 0 0 4294967295)) && q_1 4293967296 35 Z_M (cM_20 k_HM (aU 0 2147483648 2147483657) (aU 0 0 2147483647) (aU 0 0 4294967295))) = true := by decide +kernel
set_option maxRecDepth 100000 in
theorem e20_1h : (q_1 4293967296 105 Z_X (cX_20 k_HX (aU 0 2147483648 2147483657) (aU 0 2147483650 4294967295) (aU 0 0 4294967295)) && q_1 4293967296 35 Z_M (cM_20 k_HM (aU 0 2147483648 2147483657) (aU 0 2147483650 4294967295) (aU 0 0 4294967295))) = true := by decide +kernel
set_option maxRecDepth 100000 in
theorem e20_2l : q_all (fun b => (q_1 4293967296 105 Z_X (cX_20 k_HX (aU 0 2147483648 2147483657) (aI b) (aU 0 0 2147483647)) && q_1 4293967296 35 Z_M (cM_20 k_HM (aU 0 2147483648 2147483657) (aI b) (aU 0 0 2147483647)))) 2 = true := by decide +kernel
set_option maxRecDepth 100000 in
theorem e20_2h : q_all (fun b => (q_1 4293967296 105 Z_X (cX_20 k_HX (aU 0 2147483648 2147483657) (aI b) (aU 0 2147483650 4294967295)) && q_1 4293967296 35 Z_M (cM_20 k_HM (aU 0 2147483648 2147483657) (aI b) (aU 0 2147483650 4294967295)))) 2 = true := by decide +kernel
set_option maxRecDepth 100000 in
theorem e20_X : q_all (fun a => q_all (fun b => q_all (fun c => q_1 0 105 Z_X (cX_20 k_HX (aI a) (aI b) (aI c))) 2) 2) 10 = true := by decide +kernel
set_option maxRecDepth 100000 in
theorem e20_M : q_all (fun b => q_all (fun c => q_1 0 35 Z_M (cM_20 k_HM (aU 0 2147483648 2147483657) (aI b) (aI c))) 2) 2 = true := by decide +kernel
set_option maxRecDepth 20000 in
theorem op_20 (xa xb xc : Int32) : OP_20 [xa, xb, xc] := by
  rcases i_box xa 10 (by decide) with ⟨ma, ha, rfl⟩ | ha | ha
  rotate_left
  · exact ⟨fun _ => 0, 4293967296, SideX_of [(aU 0 0 2147483647), (aU 0 0 4294967295), (aU 0 0 4294967295)] (sb_131_0 (run_sound 1000000)) (TrX_id _) (fun ad => ⟨vU_bd (Nat.zero_le _) ha, vU_any _, vU_any _, trivial⟩) (and_t e20_0l).1, SideM_of [(aU 0 0 2147483647), (aU 0 0 4294967295), (aU 0 0 4294967295)] (sb_192_0 (run_sound 1000000)) (fun ad => ⟨vU_bd (Nat.zero_le _) ha, vU_any _, vU_any _, trivial⟩) (and_t e20_0l).2⟩
  · exact ⟨fun _ => 0, 4293967296, SideX_of [(aU 0 2147483658 4294967295), (aU 0 0 4294967295), (aU 0 0 4294967295)] (sb_131_0 (run_sound 1000000)) (TrX_id _) (fun ad => ⟨vU_bd ha (a_bs_max _), vU_any _, vU_any _, trivial⟩) (and_t e20_0h).1, SideM_of [(aU 0 2147483658 4294967295), (aU 0 0 4294967295), (aU 0 0 4294967295)] (sb_192_0 (run_sound 1000000)) (fun ad => ⟨vU_bd ha (a_bs_max _), vU_any _, vU_any _, trivial⟩) (and_t e20_0h).2⟩
  rcases i_box xb 2 (by decide) with ⟨mb, hb, rfl⟩ | hb | hb
  rotate_left
  · exact ⟨fun _ => 0, 4293967296, SideX_of [(aU 0 2147483648 2147483657), (aU 0 0 2147483647), (aU 0 0 4294967295)] (sb_131_0 (run_sound 1000000)) (TrX_id _) (fun ad => ⟨vU_in ha (by decide), vU_bd (Nat.zero_le _) hb, vU_any _, trivial⟩) (and_t e20_1l).1, SideM_of [(aU 0 2147483648 2147483657), (aU 0 0 2147483647), (aU 0 0 4294967295)] (sb_192_0 (run_sound 1000000)) (fun ad => ⟨vU_in ha (by decide), vU_bd (Nat.zero_le _) hb, vU_any _, trivial⟩) (and_t e20_1l).2⟩
  · exact ⟨fun _ => 0, 4293967296, SideX_of [(aU 0 2147483648 2147483657), (aU 0 2147483650 4294967295), (aU 0 0 4294967295)] (sb_131_0 (run_sound 1000000)) (TrX_id _) (fun ad => ⟨vU_in ha (by decide), vU_bd hb (a_bs_max _), vU_any _, trivial⟩) (and_t e20_1h).1, SideM_of [(aU 0 2147483648 2147483657), (aU 0 2147483650 4294967295), (aU 0 0 4294967295)] (sb_192_0 (run_sound 1000000)) (fun ad => ⟨vU_in ha (by decide), vU_bd hb (a_bs_max _), vU_any _, trivial⟩) (and_t e20_1h).2⟩
  rcases i_box xc 2 (by decide) with ⟨mc, hc, rfl⟩ | hc | hc
  rotate_left
  · exact ⟨fun _ => 0, 4293967296, SideX_of [(aU 0 2147483648 2147483657), (aI mb), (aU 0 0 2147483647)] (sb_131_0 (run_sound 1000000)) (TrX_id _) (fun ad => ⟨vU_in ha (by decide), ⟨Nat.lt_of_lt_of_le hb (by decide), rfl⟩, vU_bd (Nat.zero_le _) hc, trivial⟩) (and_t (q_all_at e20_2l mb hb)).1, SideM_of [(aU 0 2147483648 2147483657), (aI mb), (aU 0 0 2147483647)] (sb_192_0 (run_sound 1000000)) (fun ad => ⟨vU_in ha (by decide), ⟨Nat.lt_of_lt_of_le hb (by decide), rfl⟩, vU_bd (Nat.zero_le _) hc, trivial⟩) (and_t (q_all_at e20_2l mb hb)).2⟩
  · exact ⟨fun _ => 0, 4293967296, SideX_of [(aU 0 2147483648 2147483657), (aI mb), (aU 0 2147483650 4294967295)] (sb_131_0 (run_sound 1000000)) (TrX_id _) (fun ad => ⟨vU_in ha (by decide), ⟨Nat.lt_of_lt_of_le hb (by decide), rfl⟩, vU_bd hc (a_bs_max _), trivial⟩) (and_t (q_all_at e20_2h mb hb)).1, SideM_of [(aU 0 2147483648 2147483657), (aI mb), (aU 0 2147483650 4294967295)] (sb_192_0 (run_sound 1000000)) (fun ad => ⟨vU_in ha (by decide), ⟨Nat.lt_of_lt_of_le hb (by decide), rfl⟩, vU_bd hc (a_bs_max _), trivial⟩) (and_t (q_all_at e20_2h mb hb)).2⟩
  exact ⟨fun _ => 0, 0, SideX_of [(aI ma), (aI mb), (aI mc)] (sb_131_0 (run_sound 1000000)) (TrX_id _) (fun ad => ⟨⟨Nat.lt_of_lt_of_le ha (by decide), rfl⟩, ⟨Nat.lt_of_lt_of_le hb (by decide), rfl⟩, ⟨Nat.lt_of_lt_of_le hc (by decide), rfl⟩, trivial⟩) (q_all_at (q_all_at (q_all_at e20_X ma ha) mb hb) mc hc), SideM_of [(aU 0 2147483648 2147483657), (aI mb), (aI mc)] (sb_192_0 (run_sound 1000000)) (fun ad => ⟨vU_in ha (by decide), ⟨Nat.lt_of_lt_of_le hb (by decide), rfl⟩, ⟨Nat.lt_of_lt_of_le hc (by decide), rfl⟩, trivial⟩) (q_all_at (q_all_at e20_M mb hb) mc hc)⟩
