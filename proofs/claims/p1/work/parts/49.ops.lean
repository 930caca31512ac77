/-! ===== add ===== -/
set_option maxRecDepth 100000 in
theorem e12_0l : (q_1 4294967295 105 Z_X (cX_12 k_HX (aU 0 0 2147483647) (aU 0 0 4294967295) (aU 0 0 4294967295)) && q_1 4294967295 35 Z_M (cM_12 k_HM (aU 0 0 2147483647) (aU 0 0 4294967295) (aU 0 0 4294967295))) = true := by decide +kernel
set_option maxRecDepth 100000 in
theorem e12_0h : (q_1 4294967295 105 Z_X (cX_12 k_HX (aU 0 2147483658 4294967295) (aU 0 0 4294967295) (aU 0 0 4294967295)) && q_1 4294967295 35 Z_M (cM_12 k_HM (aU 0 2147483658 4294967295) (aU 0 0 4294967295) (aU 0 0 4294967295))) = true := by decide +kernel
set_option maxRecDepth 100000 in
theorem e12_1l : (q_1 4294967295 105 Z_X (cX_12 k_HX (aU 0 2147483648 2147483657) (aU 0 0 2147483647) (aU 0 0 4294967295)) && q_1 4294967295 35 Z_M (cM_12 k_HM (aU 0 2147483648 2147483657) (aU 0 0 2147483647) (aU 0 0 4294967295))) = true := by decide +kernel
set_option maxRecDepth 100000 in
theorem e12_1h : (q_1 4294967295 105 Z_X (cX_12 k_HX (aU 0 2147483648 2147483657) (aU 0 2147483658 4294967295) (aU 0 0 4294967295)) && q_1 4294967295 35 Z_M (cM_12 k_HM (aU 0 2147483648 2147483657) (aU 0 2147483658 4294967295) (aU 0 0 4294967295))) = true := by decide +kernel
set_option maxRecDepth 100000 in
theorem e12_2l : (q_1 4294967295 105 Z_X (cX_12 k_HX (aU 0 2147483648 2147483657) (aU 0 2147483648 2147483657) (aU 0 0 2147483647)) && q_1 4294967295 35 Z_M (cM_12 k_HM (aU 0 2147483648 2147483657) (aU 0 2147483648 2147483657) (aU 0 0 2147483647))) = true := by decide +kernel
set_option maxRecDepth 100000 in
theorem e12_2h : (q_1 4294967295 105 Z_X (cX_12 k_HX (aU 0 2147483648 2147483657) (aU 0 2147483648 2147483657) (aU 0 2147483658 4294967295)) && q_1 4294967295 35 Z_M (cM_12 k_HM (aU 0 2147483648 2147483657) (aU 0 2147483648 2147483657) (aU 0 2147483658 4294967295))) = true := by decide +kernel
set_option maxRecDepth 100000 in
theorem e12_X_0 : (fun a => q_all (fun b => q_all (fun c => q_1 1 105 Z_X (cX_12 k_HX (aI a) (aI b) (aI c))) 10) 10) 0 = true := by decide +kernel
set_option maxRecDepth 100000 in
theorem e12_X_1 : (fun a => q_all (fun b => q_all (fun c => q_1 1 105 Z_X (cX_12 k_HX (aI a) (aI b) (aI c))) 10) 10) 1 = true := by decide +kernel
set_option maxRecDepth 100000 in
theorem e12_X_2 : (fun a => q_all (fun b => q_all (fun c => q_1 1 105 Z_X (cX_12 k_HX (aI a) (aI b) (aI c))) 10) 10) 2 = true := by decide +kernel
set_option maxRecDepth 100000 in
theorem e12_X_3 : (fun a => q_all (fun b => q_all (fun c => q_1 1 105 Z_X (cX_12 k_HX (aI a) (aI b) (aI c))) 10) 10) 3 = true := by decide +kernel
set_option maxRecDepth 100000 in
theorem e12_X_4 : (fun a => q_all (fun b => q_all (fun c => q_1 1 105 Z_X (cX_12 k_HX (aI a) (aI b) (aI c))) 10) 10) 4 = true := by decide +kernel
set_option maxRecDepth 100000 in
theorem e12_X_5 : (fun a => q_all (fun b => q_all (fun c => q_1 1 105 Z_X (cX_12 k_HX (aI a) (aI b) (aI c))) 10) 10) 5 = true := by decide +kernel
set_option maxRecDepth 100000 in
theorem e12_X_6 : (fun a => q_all (fun b => q_all (fun c => q_1 1 105 Z_X (cX_12 k_HX (aI a) (aI b) (aI c))) 10) 10) 6 = true := by decide +kernel
set_option maxRecDepth 100000 in
theorem e12_X_7 : (fun a => q_all (fun b => q_all (fun c => q_1 1 105 Z_X (cX_12 k_HX (aI a) (aI b) (aI c))) 10) 10) 7 = true := by decide +kernel
set_option maxRecDepth 100000 in
theorem e12_X_8 : (fun a => q_all (fun b => q_all (fun c => q_1 1 105 Z_X (cX_12 k_HX (aI a) (aI b) (aI c))) 10) 10) 8 = true := by decide +kernel
set_option maxRecDepth 100000 in
theorem e12_X_9 : (fun a => q_all (fun b => q_all (fun c => q_1 1 105 Z_X (cX_12 k_HX (aI a) (aI b) (aI c))) 10) 10) 9 = true := by decide +kernel
theorem e12_X : ∀ a : Nat, a < 10 → q_all (fun b => q_all (fun c => q_1 1 105 Z_X (cX_12 k_HX (aI a) (aI b) (aI c))) 10) 10 = true := by
  intro a h
  match a, h with
  | 0, _ => exact e12_X_0
  | 1, _ => exact e12_X_1
  | 2, _ => exact e12_X_2
  | 3, _ => exact e12_X_3
  | 4, _ => exact e12_X_4
  | 5, _ => exact e12_X_5
  | 6, _ => exact e12_X_6
  | 7, _ => exact e12_X_7
  | 8, _ => exact e12_X_8
  | 9, _ => exact e12_X_9
  | n + 10, h => exact absurd h (by omega)
set_option maxRecDepth 100000 in
theorem e12_M : q_1 1 35 Z_M (cM_12 k_HM (aU 0 2147483648 2147483657) (aU 0 2147483648 2147483657) (aU 0 2147483648 2147483657)) = true := by decide +kernel
set_option maxRecDepth 20000 in
theorem op_12 (xa xb xc : Int32) : OP_12 [xa, xb, xc] := by
  rcases i_box xa 10 (by decide) with ⟨ma, ha, rfl⟩ | ha | ha
  rotate_left
  · exact ⟨fun _ => 0, 4294967295, SideX_of [(aU 0 0 2147483647), (aU 0 0 4294967295), (aU 0 0 4294967295)] (sb_122_0 (run_sound 1000000)) (TrX_id _) (fun ad => ⟨vU_bd (Nat.zero_le _) ha, vU_any _, vU_any _, trivial⟩) (and_t e12_0l).1, SideM_of [(aU 0 0 2147483647), (aU 0 0 4294967295), (aU 0 0 4294967295)] (sb_176_0 (run_sound 1000000)) (fun ad => ⟨vU_bd (Nat.zero_le _) ha, vU_any _, vU_any _, trivial⟩) (and_t e12_0l).2⟩
  · exact ⟨fun _ => 0, 4294967295, SideX_of [(aU 0 2147483658 4294967295), (aU 0 0 4294967295), (aU 0 0 4294967295)] (sb_122_0 (run_sound 1000000)) (TrX_id _) (fun ad => ⟨vU_bd ha (a_bs_max _), vU_any _, vU_any _, trivial⟩) (and_t e12_0h).1, SideM_of [(aU 0 2147483658 4294967295), (aU 0 0 4294967295), (aU 0 0 4294967295)] (sb_176_0 (run_sound 1000000)) (fun ad => ⟨vU_bd ha (a_bs_max _), vU_any _, vU_any _, trivial⟩) (and_t e12_0h).2⟩
  rcases i_box xb 10 (by decide) with ⟨mb, hb, rfl⟩ | hb | hb
  rotate_left
  · exact ⟨fun _ => 0, 4294967295, SideX_of [(aU 0 2147483648 2147483657), (aU 0 0 2147483647), (aU 0 0 4294967295)] (sb_122_0 (run_sound 1000000)) (TrX_id _) (fun ad => ⟨vU_in ha (by decide), vU_bd (Nat.zero_le _) hb, vU_any _, trivial⟩) (and_t e12_1l).1, SideM_of [(aU 0 2147483648 2147483657), (aU 0 0 2147483647), (aU 0 0 4294967295)] (sb_176_0 (run_sound 1000000)) (fun ad => ⟨vU_in ha (by decide), vU_bd (Nat.zero_le _) hb, vU_any _, trivial⟩) (and_t e12_1l).2⟩
  · exact ⟨fun _ => 0, 4294967295, SideX_of [(aU 0 2147483648 2147483657), (aU 0 2147483658 4294967295), (aU 0 0 4294967295)] (sb_122_0 (run_sound 1000000)) (TrX_id _) (fun ad => ⟨vU_in ha (by decide), vU_bd hb (a_bs_max _), vU_any _, trivial⟩) (and_t e12_1h).1, SideM_of [(aU 0 2147483648 2147483657), (aU 0 2147483658 4294967295), (aU 0 0 4294967295)] (sb_176_0 (run_sound 1000000)) (fun ad => ⟨vU_in ha (by decide), vU_bd hb (a_bs_max _), vU_any _, trivial⟩) (and_t e12_1h).2⟩
  rcases i_box xc 10 (by decide) with ⟨mc, hc, rfl⟩ | hc | hc
  rotate_left
  · exact ⟨fun _ => 0, 4294967295, SideX_of [(aU 0 2147483648 2147483657), (aU 0 2147483648 2147483657), (aU 0 0 2147483647)] (sb_122_0 (run_sound 1000000)) (TrX_id _) (fun ad => ⟨vU_in ha (by decide), vU_in hb (by decide), vU_bd (Nat.zero_le _) hc, trivial⟩) (and_t e12_2l).1, SideM_of [(aU 0 2147483648 2147483657), (aU 0 2147483648 2147483657), (aU 0 0 2147483647)] (sb_176_0 (run_sound 1000000)) (fun ad => ⟨vU_in ha (by decide), vU_in hb (by decide), vU_bd (Nat.zero_le _) hc, trivial⟩) (and_t e12_2l).2⟩
  · exact ⟨fun _ => 0, 4294967295, SideX_of [(aU 0 2147483648 2147483657), (aU 0 2147483648 2147483657), (aU 0 2147483658 4294967295)] (sb_122_0 (run_sound 1000000)) (TrX_id _) (fun ad => ⟨vU_in ha (by decide), vU_in hb (by decide), vU_bd hc (a_bs_max _), trivial⟩) (and_t e12_2h).1, SideM_of [(aU 0 2147483648 2147483657), (aU 0 2147483648 2147483657), (aU 0 2147483658 4294967295)] (sb_176_0 (run_sound 1000000)) (fun ad => ⟨vU_in ha (by decide), vU_in hb (by decide), vU_bd hc (a_bs_max _), trivial⟩) (and_t e12_2h).2⟩
  exact ⟨fun _ => 0, 1, SideX_of [(aI ma), (aI mb), (aI mc)] (sb_122_0 (run_sound 1000000)) (TrX_id _) (fun ad => ⟨⟨Nat.lt_of_lt_of_le ha (by decide), rfl⟩, ⟨Nat.lt_of_lt_of_le hb (by decide), rfl⟩, ⟨Nat.lt_of_lt_of_le hc (by decide), rfl⟩, trivial⟩) (q_all_at (q_all_at (e12_X ma ha) mb hb) mc hc), SideM_of [(aU 0 2147483648 2147483657), (aU 0 2147483648 2147483657), (aU 0 2147483648 2147483657)] (sb_176_0 (run_sound 1000000)) (fun ad => ⟨vU_in ha (by decide), vU_in hb (by decide), vU_in hc (by decide), trivial⟩) e12_M⟩
