/-! ===== number, the class ===== -/
set_option maxRecDepth 100000 in
theorem e9_0_0l : (q_1 4294967295 105 Z_X (cX_9 k_HX (aU 0 0 2147483639) (aI 0) (aU 0 0 4294967295)) && q_1 4294967295 35 Z_M (cM_9 k_HM (aU 0 0 2147483639) (aI 0) (aU 0 0 4294967295))) = true := by decide +kernel
set_option maxRecDepth 100000 in
theorem e9_0_0h : (q_1 4294967295 105 Z_X (cX_9 k_HX (aU 0 2147483657 4294967295) (aI 0) (aU 0 0 4294967295)) && q_1 4294967295 35 Z_M (cM_9 k_HM (aU 0 2147483657 4294967295) (aI 0) (aU 0 0 4294967295))) = true := by decide +kernel
set_option maxRecDepth 100000 in
theorem e9_0_2l : q_all (fun a => (q_1 4294967295 105 Z_X (cX_9 k_HX (aI (a_ofs 8 a)) (aI 0) (aU 0 0 2147483647)) && q_1 4294967295 35 Z_M (cM_9 k_HM (aI (a_ofs 8 a)) (aI 0) (aU 0 0 2147483647)))) 17 = true := by decide +kernel
set_option maxRecDepth 100000 in
theorem e9_0_2h : q_all (fun a => (q_1 4294967295 105 Z_X (cX_9 k_HX (aI (a_ofs 8 a)) (aI 0) (aU 0 2147483658 4294967295)) && q_1 4294967295 35 Z_M (cM_9 k_HM (aI (a_ofs 8 a)) (aI 0) (aU 0 2147483658 4294967295)))) 17 = true := by decide +kernel
set_option maxRecDepth 100000 in
theorem e9_0_X_0 : (fun a => q_1 (k_l TN0 a) 105 Z_X (cX_9 (k_HXs [21]) (aI (a_ofs 8 a)) (aI 0) (aU (0 + 1) 2147483648 (2147483647 + 10)))) 0 = true := by decide +kernel
set_option maxRecDepth 100000 in
theorem e9_0_X_1 : (fun a => q_1 (k_l TN0 a) 105 Z_X (cX_9 (k_HXs [21]) (aI (a_ofs 8 a)) (aI 0) (aU (0 + 1) 2147483648 (2147483647 + 10)))) 1 = true := by decide +kernel
set_option maxRecDepth 100000 in
theorem e9_0_X_2 : (fun a => q_1 (k_l TN0 a) 105 Z_X (cX_9 (k_HXs [21]) (aI (a_ofs 8 a)) (aI 0) (aU (0 + 1) 2147483648 (2147483647 + 10)))) 2 = true := by decide +kernel
set_option maxRecDepth 100000 in
theorem e9_0_X_3 : (fun a => q_1 (k_l TN0 a) 105 Z_X (cX_9 (k_HXs [21]) (aI (a_ofs 8 a)) (aI 0) (aU (0 + 1) 2147483648 (2147483647 + 10)))) 3 = true := by decide +kernel
set_option maxRecDepth 100000 in
theorem e9_0_X_4 : (fun a => q_1 (k_l TN0 a) 105 Z_X (cX_9 (k_HXs [21]) (aI (a_ofs 8 a)) (aI 0) (aU (0 + 1) 2147483648 (2147483647 + 10)))) 4 = true := by decide +kernel
set_option maxRecDepth 100000 in
theorem e9_0_X_5 : (fun a => q_1 (k_l TN0 a) 105 Z_X (cX_9 (k_HXs [21]) (aI (a_ofs 8 a)) (aI 0) (aU (0 + 1) 2147483648 (2147483647 + 10)))) 5 = true := by decide +kernel
set_option maxRecDepth 100000 in
theorem e9_0_X_6 : (fun a => q_1 (k_l TN0 a) 105 Z_X (cX_9 (k_HXs [21]) (aI (a_ofs 8 a)) (aI 0) (aU (0 + 1) 2147483648 (2147483647 + 10)))) 6 = true := by decide +kernel
set_option maxRecDepth 100000 in
theorem e9_0_X_7 : (fun a => q_1 (k_l TN0 a) 105 Z_X (cX_9 (k_HXs [21]) (aI (a_ofs 8 a)) (aI 0) (aU (0 + 1) 2147483648 (2147483647 + 10)))) 7 = true := by decide +kernel
set_option maxRecDepth 100000 in
theorem e9_0_X_8 : (fun a => q_1 (k_l TN0 a) 105 Z_X (cX_9 (k_HXs [21]) (aI (a_ofs 8 a)) (aI 0) (aU (0 + 1) 2147483648 (2147483647 + 10)))) 8 = true := by decide +kernel
set_option maxRecDepth 100000 in
theorem e9_0_X_9 : (fun a => q_1 (k_l TN0 a) 105 Z_X (cX_9 (k_HXs [21]) (aI (a_ofs 8 a)) (aI 0) (aU (0 + 1) 2147483648 (2147483647 + 10)))) 9 = true := by decide +kernel
set_option maxRecDepth 100000 in
theorem e9_0_X_10 : (fun a => q_1 (k_l TN0 a) 105 Z_X (cX_9 (k_HXs [21]) (aI (a_ofs 8 a)) (aI 0) (aU (0 + 1) 2147483648 (2147483647 + 10)))) 10 = true := by decide +kernel
set_option maxRecDepth 100000 in
theorem e9_0_X_11 : (fun a => q_1 (k_l TN0 a) 105 Z_X (cX_9 (k_HXs [21]) (aI (a_ofs 8 a)) (aI 0) (aU (0 + 1) 2147483648 (2147483647 + 10)))) 11 = true := by decide +kernel
set_option maxRecDepth 100000 in
theorem e9_0_X_12 : (fun a => q_1 (k_l TN0 a) 105 Z_X (cX_9 (k_HXs [21]) (aI (a_ofs 8 a)) (aI 0) (aU (0 + 1) 2147483648 (2147483647 + 10)))) 12 = true := by decide +kernel
set_option maxRecDepth 100000 in
theorem e9_0_X_13 : (fun a => q_1 (k_l TN0 a) 105 Z_X (cX_9 (k_HXs [21]) (aI (a_ofs 8 a)) (aI 0) (aU (0 + 1) 2147483648 (2147483647 + 10)))) 13 = true := by decide +kernel
set_option maxRecDepth 100000 in
theorem e9_0_X_14 : (fun a => q_1 (k_l TN0 a) 105 Z_X (cX_9 (k_HXs [21]) (aI (a_ofs 8 a)) (aI 0) (aU (0 + 1) 2147483648 (2147483647 + 10)))) 14 = true := by decide +kernel
set_option maxRecDepth 100000 in
theorem e9_0_X_15 : (fun a => q_1 (k_l TN0 a) 105 Z_X (cX_9 (k_HXs [21]) (aI (a_ofs 8 a)) (aI 0) (aU (0 + 1) 2147483648 (2147483647 + 10)))) 15 = true := by decide +kernel
set_option maxRecDepth 100000 in
theorem e9_0_X_16 : (fun a => q_1 (k_l TN0 a) 105 Z_X (cX_9 (k_HXs [21]) (aI (a_ofs 8 a)) (aI 0) (aU (0 + 1) 2147483648 (2147483647 + 10)))) 16 = true := by decide +kernel
theorem e9_0_X : ∀ a : Nat, a < 17 → q_1 (k_l TN0 a) 105 Z_X (cX_9 (k_HXs [21]) (aI (a_ofs 8 a)) (aI 0) (aU (0 + 1) 2147483648 (2147483647 + 10))) = true := by
  intro a h
  match a, h with
  | 0, _ => exact e9_0_X_0
  | 1, _ => exact e9_0_X_1
  | 2, _ => exact e9_0_X_2
  | 3, _ => exact e9_0_X_3
  | 4, _ => exact e9_0_X_4
  | 5, _ => exact e9_0_X_5
  | 6, _ => exact e9_0_X_6
  | 7, _ => exact e9_0_X_7
  | 8, _ => exact e9_0_X_8
  | 9, _ => exact e9_0_X_9
  | 10, _ => exact e9_0_X_10
  | 11, _ => exact e9_0_X_11
  | 12, _ => exact e9_0_X_12
  | 13, _ => exact e9_0_X_13
  | 14, _ => exact e9_0_X_14
  | 15, _ => exact e9_0_X_15
  | 16, _ => exact e9_0_X_16
  | n + 17, h => exact absurd h (by omega)
set_option maxRecDepth 20000 in
theorem op_9_0 (xa xc : Int32) : OP_9 [xa, a_i32 0, xc] := by
  rcases i_boxS xa 8 17 (by decide) (by decide) with ⟨ma, ha, rfl⟩ | ha | ha
  rotate_left
  · exact ⟨fun _ => 0, 4294967295, SideX_of [(aU 0 0 2147483639), (aI 0), (aU 0 0 4294967295)] (sb_116_0 (run_sound 1000000)) (TrX_id _) (fun ad => ⟨vU_bd (Nat.zero_le _) ha, ⟨by decide, rfl⟩, vU_any _, trivial⟩) (and_t e9_0_0l).1, SideM_of [(aU 0 0 2147483639), (aI 0), (aU 0 0 4294967295)] (sb_170_0 (run_sound 1000000)) (fun ad => ⟨vU_bd (Nat.zero_le _) ha, ⟨by decide, rfl⟩, vU_any _, trivial⟩) (and_t e9_0_0l).2⟩
  · exact ⟨fun _ => 0, 4294967295, SideX_of [(aU 0 2147483657 4294967295), (aI 0), (aU 0 0 4294967295)] (sb_116_0 (run_sound 1000000)) (TrX_id _) (fun ad => ⟨vU_bd ha (a_bs_max _), ⟨by decide, rfl⟩, vU_any _, trivial⟩) (and_t e9_0_0h).1, SideM_of [(aU 0 2147483657 4294967295), (aI 0), (aU 0 0 4294967295)] (sb_170_0 (run_sound 1000000)) (fun ad => ⟨vU_bd ha (a_bs_max _), ⟨by decide, rfl⟩, vU_any _, trivial⟩) (and_t e9_0_0h).2⟩
  rcases i_box xc 10 (by decide) with ⟨mc, hc, rfl⟩ | hc | hc
  rotate_left
  · exact ⟨fun _ => 0, 4294967295, SideX_of [(aI (a_ofs 8 ma)), (aI 0), (aU 0 0 2147483647)] (sb_116_0 (run_sound 1000000)) (TrX_id _) (fun ad => ⟨vI_ofs (n := 17) (by decide) ha (by decide), ⟨by decide, rfl⟩, vU_bd (Nat.zero_le _) hc, trivial⟩) (and_t (q_all_at e9_0_2l ma ha)).1, SideM_of [(aI (a_ofs 8 ma)), (aI 0), (aU 0 0 2147483647)] (sb_170_0 (run_sound 1000000)) (fun ad => ⟨vI_ofs (n := 17) (by decide) ha (by decide), ⟨by decide, rfl⟩, vU_bd (Nat.zero_le _) hc, trivial⟩) (and_t (q_all_at e9_0_2l ma ha)).2⟩
  · exact ⟨fun _ => 0, 4294967295, SideX_of [(aI (a_ofs 8 ma)), (aI 0), (aU 0 2147483658 4294967295)] (sb_116_0 (run_sound 1000000)) (TrX_id _) (fun ad => ⟨vI_ofs (n := 17) (by decide) ha (by decide), ⟨by decide, rfl⟩, vU_bd hc (a_bs_max _), trivial⟩) (and_t (q_all_at e9_0_2h ma ha)).1, SideM_of [(aI (a_ofs 8 ma)), (aI 0), (aU 0 2147483658 4294967295)] (sb_170_0 (run_sound 1000000)) (fun ad => ⟨vI_ofs (n := 17) (by decide) ha (by decide), ⟨by decide, rfl⟩, vU_bd hc (a_bs_max _), trivial⟩) (and_t (q_all_at e9_0_2h ma ha)).2⟩
  obtain ⟨σ, hσ⟩ := TrX_sp (gv := k_gn (a_i32 mc) (a_i32 (a_ofs 8 ma))) hc rfl
  exact ⟨k_gn (a_i32 mc) (a_i32 (a_ofs 8 ma)), (k_l TN0 ma), SideX_of [(aI (a_ofs 8 ma)), (aI 0), (aU (0 + 1) 2147483648 (2147483647 + 10))] (sb_116_0 (run_sound 1000000)) hσ (fun ad => ⟨vI_ofs (n := 17) (by decide) ha (by decide), ⟨by decide, rfl⟩, vG_in hc (by decide) (by decide) rfl, trivial⟩) (e9_0_X ma ha), numM_0 ma ha mc hc⟩
set_option maxRecDepth 100000 in
theorem e9_1_0l : (q_1 4294967295 105 Z_X (cX_9 k_HX (aU 0 0 2147483631) (aI 1) (aU 0 0 4294967295)) && q_1 4294967295 35 Z_M (cM_9 k_HM (aU 0 0 2147483631) (aI 1) (aU 0 0 4294967295))) = true := by decide +kernel
set_option maxRecDepth 100000 in
theorem e9_1_0h : (q_1 4294967295 105 Z_X (cX_9 k_HX (aU 0 2147483665 4294967295) (aI 1) (aU 0 0 4294967295)) && q_1 4294967295 35 Z_M (cM_9 k_HM (aU 0 2147483665 4294967295) (aI 1) (aU 0 0 4294967295))) = true := by decide +kernel
set_option maxRecDepth 100000 in
theorem e9_1_2l : q_all (fun a => (q_1 4294967295 105 Z_X (cX_9 k_HX (aI (a_ofs 16 a)) (aI 1) (aU 0 0 2147483647)) && q_1 4294967295 35 Z_M (cM_9 k_HM (aI (a_ofs 16 a)) (aI 1) (aU 0 0 2147483647)))) 33 = true := by decide +kernel
set_option maxRecDepth 100000 in
theorem e9_1_2h : q_all (fun a => (q_1 4294967295 105 Z_X (cX_9 k_HX (aI (a_ofs 16 a)) (aI 1) (aU 0 2147483658 4294967295)) && q_1 4294967295 35 Z_M (cM_9 k_HM (aI (a_ofs 16 a)) (aI 1) (aU 0 2147483658 4294967295)))) 33 = true := by decide +kernel
set_option maxRecDepth 100000 in
theorem e9_1_X_0 : (fun a => q_1 (k_l TN1 a) 105 Z_X (cX_9 (k_HXs [21]) (aI (a_ofs 16 a)) (aI 1) (aU (0 + 1) 2147483648 (2147483647 + 10)))) 0 = true := by decide +kernel
set_option maxRecDepth 100000 in
theorem e9_1_X_1 : (fun a => q_1 (k_l TN1 a) 105 Z_X (cX_9 (k_HXs [21]) (aI (a_ofs 16 a)) (aI 1) (aU (0 + 1) 2147483648 (2147483647 + 10)))) 1 = true := by decide +kernel
set_option maxRecDepth 100000 in
theorem e9_1_X_2 : (fun a => q_1 (k_l TN1 a) 105 Z_X (cX_9 (k_HXs [21]) (aI (a_ofs 16 a)) (aI 1) (aU (0 + 1) 2147483648 (2147483647 + 10)))) 2 = true := by decide +kernel
set_option maxRecDepth 100000 in
theorem e9_1_X_3 : (fun a => q_1 (k_l TN1 a) 105 Z_X (cX_9 (k_HXs [21]) (aI (a_ofs 16 a)) (aI 1) (aU (0 + 1) 2147483648 (2147483647 + 10)))) 3 = true := by decide +kernel
set_option maxRecDepth 100000 in
theorem e9_1_X_4 : (fun a => q_1 (k_l TN1 a) 105 Z_X (cX_9 (k_HXs [21]) (aI (a_ofs 16 a)) (aI 1) (aU (0 + 1) 2147483648 (2147483647 + 10)))) 4 = true := by decide +kernel
set_option maxRecDepth 100000 in
theorem e9_1_X_5 : (fun a => q_1 (k_l TN1 a) 105 Z_X (cX_9 (k_HXs [21]) (aI (a_ofs 16 a)) (aI 1) (aU (0 + 1) 2147483648 (2147483647 + 10)))) 5 = true := by decide +kernel
set_option maxRecDepth 100000 in
theorem e9_1_X_6 : (fun a => q_1 (k_l TN1 a) 105 Z_X (cX_9 (k_HXs [21]) (aI (a_ofs 16 a)) (aI 1) (aU (0 + 1) 2147483648 (2147483647 + 10)))) 6 = true := by decide +kernel
set_option maxRecDepth 100000 in
theorem e9_1_X_7 : (fun a => q_1 (k_l TN1 a) 105 Z_X (cX_9 (k_HXs [21]) (aI (a_ofs 16 a)) (aI 1) (aU (0 + 1) 2147483648 (2147483647 + 10)))) 7 = true := by decide +kernel
set_option maxRecDepth 100000 in
theorem e9_1_X_8 : (fun a => q_1 (k_l TN1 a) 105 Z_X (cX_9 (k_HXs [21]) (aI (a_ofs 16 a)) (aI 1) (aU (0 + 1) 2147483648 (2147483647 + 10)))) 8 = true := by decide +kernel
set_option maxRecDepth 100000 in
theorem e9_1_X_9 : (fun a => q_1 (k_l TN1 a) 105 Z_X (cX_9 (k_HXs [21]) (aI (a_ofs 16 a)) (aI 1) (aU (0 + 1) 2147483648 (2147483647 + 10)))) 9 = true := by decide +kernel
set_option maxRecDepth 100000 in
theorem e9_1_X_10 : (fun a => q_1 (k_l TN1 a) 105 Z_X (cX_9 (k_HXs [21]) (aI (a_ofs 16 a)) (aI 1) (aU (0 + 1) 2147483648 (2147483647 + 10)))) 10 = true := by decide +kernel
set_option maxRecDepth 100000 in
theorem e9_1_X_11 : (fun a => q_1 (k_l TN1 a) 105 Z_X (cX_9 (k_HXs [21]) (aI (a_ofs 16 a)) (aI 1) (aU (0 + 1) 2147483648 (2147483647 + 10)))) 11 = true := by decide +kernel
set_option maxRecDepth 100000 in
theorem e9_1_X_12 : (fun a => q_1 (k_l TN1 a) 105 Z_X (cX_9 (k_HXs [21]) (aI (a_ofs 16 a)) (aI 1) (aU (0 + 1) 2147483648 (2147483647 + 10)))) 12 = true := by decide +kernel
set_option maxRecDepth 100000 in
theorem e9_1_X_13 : (fun a => q_1 (k_l TN1 a) 105 Z_X (cX_9 (k_HXs [21]) (aI (a_ofs 16 a)) (aI 1) (aU (0 + 1) 2147483648 (2147483647 + 10)))) 13 = true := by decide +kernel
set_option maxRecDepth 100000 in
theorem e9_1_X_14 : (fun a => q_1 (k_l TN1 a) 105 Z_X (cX_9 (k_HXs [21]) (aI (a_ofs 16 a)) (aI 1) (aU (0 + 1) 2147483648 (2147483647 + 10)))) 14 = true := by decide +kernel
set_option maxRecDepth 100000 in
theorem e9_1_X_15 : (fun a => q_1 (k_l TN1 a) 105 Z_X (cX_9 (k_HXs [21]) (aI (a_ofs 16 a)) (aI 1) (aU (0 + 1) 2147483648 (2147483647 + 10)))) 15 = true := by decide +kernel
set_option maxRecDepth 100000 in
theorem e9_1_X_16 : (fun a => q_1 (k_l TN1 a) 105 Z_X (cX_9 (k_HXs [21]) (aI (a_ofs 16 a)) (aI 1) (aU (0 + 1) 2147483648 (2147483647 + 10)))) 16 = true := by decide +kernel
set_option maxRecDepth 100000 in
theorem e9_1_X_17 : (fun a => q_1 (k_l TN1 a) 105 Z_X (cX_9 (k_HXs [21]) (aI (a_ofs 16 a)) (aI 1) (aU (0 + 1) 2147483648 (2147483647 + 10)))) 17 = true := by decide +kernel
set_option maxRecDepth 100000 in
theorem e9_1_X_18 : (fun a => q_1 (k_l TN1 a) 105 Z_X (cX_9 (k_HXs [21]) (aI (a_ofs 16 a)) (aI 1) (aU (0 + 1) 2147483648 (2147483647 + 10)))) 18 = true := by decide +kernel
set_option maxRecDepth 100000 in
theorem e9_1_X_19 : (fun a => q_1 (k_l TN1 a) 105 Z_X (cX_9 (k_HXs [21]) (aI (a_ofs 16 a)) (aI 1) (aU (0 + 1) 2147483648 (2147483647 + 10)))) 19 = true := by decide +kernel
set_option maxRecDepth 100000 in
theorem e9_1_X_20 : (fun a => q_1 (k_l TN1 a) 105 Z_X (cX_9 (k_HXs [21]) (aI (a_ofs 16 a)) (aI 1) (aU (0 + 1) 2147483648 (2147483647 + 10)))) 20 = true := by decide +kernel
set_option maxRecDepth 100000 in
theorem e9_1_X_21 : (fun a => q_1 (k_l TN1 a) 105 Z_X (cX_9 (k_HXs [21]) (aI (a_ofs 16 a)) (aI 1) (aU (0 + 1) 2147483648 (2147483647 + 10)))) 21 = true := by decide +kernel
set_option maxRecDepth 100000 in
theorem e9_1_X_22 : (fun a => q_1 (k_l TN1 a) 105 Z_X (cX_9 (k_HXs [21]) (aI (a_ofs 16 a)) (aI 1) (aU (0 + 1) 2147483648 (2147483647 + 10)))) 22 = true := by decide +kernel
set_option maxRecDepth 100000 in
theorem e9_1_X_23 : (fun a => q_1 (k_l TN1 a) 105 Z_X (cX_9 (k_HXs [21]) (aI (a_ofs 16 a)) (aI 1) (aU (0 + 1) 2147483648 (2147483647 + 10)))) 23 = true := by decide +kernel
set_option maxRecDepth 100000 in
theorem e9_1_X_24 : (fun a => q_1 (k_l TN1 a) 105 Z_X (cX_9 (k_HXs [21]) (aI (a_ofs 16 a)) (aI 1) (aU (0 + 1) 2147483648 (2147483647 + 10)))) 24 = true := by decide +kernel
set_option maxRecDepth 100000 in
theorem e9_1_X_25 : (fun a => q_1 (k_l TN1 a) 105 Z_X (cX_9 (k_HXs [21]) (aI (a_ofs 16 a)) (aI 1) (aU (0 + 1) 2147483648 (2147483647 + 10)))) 25 = true := by decide +kernel
set_option maxRecDepth 100000 in
theorem e9_1_X_26 : (fun a => q_1 (k_l TN1 a) 105 Z_X (cX_9 (k_HXs [21]) (aI (a_ofs 16 a)) (aI 1) (aU (0 + 1) 2147483648 (2147483647 + 10)))) 26 = true := by decide +kernel
set_option maxRecDepth 100000 in
theorem e9_1_X_27 : (fun a => q_1 (k_l TN1 a) 105 Z_X (cX_9 (k_HXs [21]) (aI (a_ofs 16 a)) (aI 1) (aU (0 + 1) 2147483648 (2147483647 + 10)))) 27 = true := by decide +kernel
set_option maxRecDepth 100000 in
theorem e9_1_X_28 : (fun a => q_1 (k_l TN1 a) 105 Z_X (cX_9 (k_HXs [21]) (aI (a_ofs 16 a)) (aI 1) (aU (0 + 1) 2147483648 (2147483647 + 10)))) 28 = true := by decide +kernel
set_option maxRecDepth 100000 in
theorem e9_1_X_29 : (fun a => q_1 (k_l TN1 a) 105 Z_X (cX_9 (k_HXs [21]) (aI (a_ofs 16 a)) (aI 1) (aU (0 + 1) 2147483648 (2147483647 + 10)))) 29 = true := by decide +kernel
set_option maxRecDepth 100000 in
theorem e9_1_X_30 : (fun a => q_1 (k_l TN1 a) 105 Z_X (cX_9 (k_HXs [21]) (aI (a_ofs 16 a)) (aI 1) (aU (0 + 1) 2147483648 (2147483647 + 10)))) 30 = true := by decide +kernel
set_option maxRecDepth 100000 in
theorem e9_1_X_31 : (fun a => q_1 (k_l TN1 a) 105 Z_X (cX_9 (k_HXs [21]) (aI (a_ofs 16 a)) (aI 1) (aU (0 + 1) 2147483648 (2147483647 + 10)))) 31 = true := by decide +kernel
set_option maxRecDepth 100000 in
theorem e9_1_X_32 : (fun a => q_1 (k_l TN1 a) 105 Z_X (cX_9 (k_HXs [21]) (aI (a_ofs 16 a)) (aI 1) (aU (0 + 1) 2147483648 (2147483647 + 10)))) 32 = true := by decide +kernel
theorem e9_1_X : ∀ a : Nat, a < 33 → q_1 (k_l TN1 a) 105 Z_X (cX_9 (k_HXs [21]) (aI (a_ofs 16 a)) (aI 1) (aU (0 + 1) 2147483648 (2147483647 + 10))) = true := by
  intro a h
  match a, h with
  | 0, _ => exact e9_1_X_0
  | 1, _ => exact e9_1_X_1
  | 2, _ => exact e9_1_X_2
  | 3, _ => exact e9_1_X_3
  | 4, _ => exact e9_1_X_4
  | 5, _ => exact e9_1_X_5
  | 6, _ => exact e9_1_X_6
  | 7, _ => exact e9_1_X_7
  | 8, _ => exact e9_1_X_8
  | 9, _ => exact e9_1_X_9
  | 10, _ => exact e9_1_X_10
  | 11, _ => exact e9_1_X_11
  | 12, _ => exact e9_1_X_12
  | 13, _ => exact e9_1_X_13
  | 14, _ => exact e9_1_X_14
  | 15, _ => exact e9_1_X_15
  | 16, _ => exact e9_1_X_16
  | 17, _ => exact e9_1_X_17
  | 18, _ => exact e9_1_X_18
  | 19, _ => exact e9_1_X_19
  | 20, _ => exact e9_1_X_20
  | 21, _ => exact e9_1_X_21
  | 22, _ => exact e9_1_X_22
  | 23, _ => exact e9_1_X_23
  | 24, _ => exact e9_1_X_24
  | 25, _ => exact e9_1_X_25
  | 26, _ => exact e9_1_X_26
  | 27, _ => exact e9_1_X_27
  | 28, _ => exact e9_1_X_28
  | 29, _ => exact e9_1_X_29
  | 30, _ => exact e9_1_X_30
  | 31, _ => exact e9_1_X_31
  | 32, _ => exact e9_1_X_32
  | n + 33, h => exact absurd h (by omega)
set_option maxRecDepth 20000 in
theorem op_9_1 (xa xc : Int32) : OP_9 [xa, a_i32 1, xc] := by
  rcases i_boxS xa 16 33 (by decide) (by decide) with ⟨ma, ha, rfl⟩ | ha | ha
  rotate_left
  · exact ⟨fun _ => 0, 4294967295, SideX_of [(aU 0 0 2147483631), (aI 1), (aU 0 0 4294967295)] (sb_116_0 (run_sound 1000000)) (TrX_id _) (fun ad => ⟨vU_bd (Nat.zero_le _) ha, ⟨by decide, rfl⟩, vU_any _, trivial⟩) (and_t e9_1_0l).1, SideM_of [(aU 0 0 2147483631), (aI 1), (aU 0 0 4294967295)] (sb_170_0 (run_sound 1000000)) (fun ad => ⟨vU_bd (Nat.zero_le _) ha, ⟨by decide, rfl⟩, vU_any _, trivial⟩) (and_t e9_1_0l).2⟩
  · exact ⟨fun _ => 0, 4294967295, SideX_of [(aU 0 2147483665 4294967295), (aI 1), (aU 0 0 4294967295)] (sb_116_0 (run_sound 1000000)) (TrX_id _) (fun ad => ⟨vU_bd ha (a_bs_max _), ⟨by decide, rfl⟩, vU_any _, trivial⟩) (and_t e9_1_0h).1, SideM_of [(aU 0 2147483665 4294967295), (aI 1), (aU 0 0 4294967295)] (sb_170_0 (run_sound 1000000)) (fun ad => ⟨vU_bd ha (a_bs_max _), ⟨by decide, rfl⟩, vU_any _, trivial⟩) (and_t e9_1_0h).2⟩
  rcases i_box xc 10 (by decide) with ⟨mc, hc, rfl⟩ | hc | hc
  rotate_left
  · exact ⟨fun _ => 0, 4294967295, SideX_of [(aI (a_ofs 16 ma)), (aI 1), (aU 0 0 2147483647)] (sb_116_0 (run_sound 1000000)) (TrX_id _) (fun ad => ⟨vI_ofs (n := 33) (by decide) ha (by decide), ⟨by decide, rfl⟩, vU_bd (Nat.zero_le _) hc, trivial⟩) (and_t (q_all_at e9_1_2l ma ha)).1, SideM_of [(aI (a_ofs 16 ma)), (aI 1), (aU 0 0 2147483647)] (sb_170_0 (run_sound 1000000)) (fun ad => ⟨vI_ofs (n := 33) (by decide) ha (by decide), ⟨by decide, rfl⟩, vU_bd (Nat.zero_le _) hc, trivial⟩) (and_t (q_all_at e9_1_2l ma ha)).2⟩
  · exact ⟨fun _ => 0, 4294967295, SideX_of [(aI (a_ofs 16 ma)), (aI 1), (aU 0 2147483658 4294967295)] (sb_116_0 (run_sound 1000000)) (TrX_id _) (fun ad => ⟨vI_ofs (n := 33) (by decide) ha (by decide), ⟨by decide, rfl⟩, vU_bd hc (a_bs_max _), trivial⟩) (and_t (q_all_at e9_1_2h ma ha)).1, SideM_of [(aI (a_ofs 16 ma)), (aI 1), (aU 0 2147483658 4294967295)] (sb_170_0 (run_sound 1000000)) (fun ad => ⟨vI_ofs (n := 33) (by decide) ha (by decide), ⟨by decide, rfl⟩, vU_bd hc (a_bs_max _), trivial⟩) (and_t (q_all_at e9_1_2h ma ha)).2⟩
  obtain ⟨σ, hσ⟩ := TrX_sp (gv := k_gn (a_i32 mc) (a_i32 (a_ofs 16 ma))) hc rfl
  exact ⟨k_gn (a_i32 mc) (a_i32 (a_ofs 16 ma)), (k_l TN1 ma), SideX_of [(aI (a_ofs 16 ma)), (aI 1), (aU (0 + 1) 2147483648 (2147483647 + 10))] (sb_116_0 (run_sound 1000000)) hσ (fun ad => ⟨vI_ofs (n := 33) (by decide) ha (by decide), ⟨by decide, rfl⟩, vG_in hc (by decide) (by decide) rfl, trivial⟩) (e9_1_X ma ha), numM_1 ma ha mc hc⟩
set_option maxRecDepth 100000 in
theorem e9_2_0l : (q_1 4294967295 105 Z_X (cX_9 k_HX (aU 0 0 2147483615) (aI 2) (aU 0 0 4294967295)) && q_1 4294967295 35 Z_M (cM_9 k_HM (aU 0 0 2147483615) (aI 2) (aU 0 0 4294967295))) = true := by decide +kernel
set_option maxRecDepth 100000 in
theorem e9_2_0h : (q_1 4294967295 105 Z_X (cX_9 k_HX (aU 0 2147483681 4294967295) (aI 2) (aU 0 0 4294967295)) && q_1 4294967295 35 Z_M (cM_9 k_HM (aU 0 2147483681 4294967295) (aI 2) (aU 0 0 4294967295))) = true := by decide +kernel
set_option maxRecDepth 100000 in
theorem e9_2_2l : q_all (fun a => (q_1 4294967295 105 Z_X (cX_9 k_HX (aI (a_ofs 32 a)) (aI 2) (aU 0 0 2147483647)) && q_1 4294967295 35 Z_M (cM_9 k_HM (aI (a_ofs 32 a)) (aI 2) (aU 0 0 2147483647)))) 65 = true := by decide +kernel
set_option maxRecDepth 100000 in
theorem e9_2_2h : q_all (fun a => (q_1 4294967295 105 Z_X (cX_9 k_HX (aI (a_ofs 32 a)) (aI 2) (aU 0 2147483658 4294967295)) && q_1 4294967295 35 Z_M (cM_9 k_HM (aI (a_ofs 32 a)) (aI 2) (aU 0 2147483658 4294967295)))) 65 = true := by decide +kernel
set_option maxRecDepth 100000 in
theorem e9_2_X_0 : (fun a => q_1 (k_l TN2 a) 105 Z_X (cX_9 (k_HXs [21]) (aI (a_ofs 32 a)) (aI 2) (aU (0 + 1) 2147483648 (2147483647 + 10)))) 0 = true := by decide +kernel
set_option maxRecDepth 100000 in
theorem e9_2_X_1 : (fun a => q_1 (k_l TN2 a) 105 Z_X (cX_9 (k_HXs [21]) (aI (a_ofs 32 a)) (aI 2) (aU (0 + 1) 2147483648 (2147483647 + 10)))) 1 = true := by decide +kernel
set_option maxRecDepth 100000 in
theorem e9_2_X_2 : (fun a => q_1 (k_l TN2 a) 105 Z_X (cX_9 (k_HXs [21]) (aI (a_ofs 32 a)) (aI 2) (aU (0 + 1) 2147483648 (2147483647 + 10)))) 2 = true := by decide +kernel
set_option maxRecDepth 100000 in
theorem e9_2_X_3 : (fun a => q_1 (k_l TN2 a) 105 Z_X (cX_9 (k_HXs [21]) (aI (a_ofs 32 a)) (aI 2) (aU (0 + 1) 2147483648 (2147483647 + 10)))) 3 = true := by decide +kernel
set_option maxRecDepth 100000 in
theorem e9_2_X_4 : (fun a => q_1 (k_l TN2 a) 105 Z_X (cX_9 (k_HXs [21]) (aI (a_ofs 32 a)) (aI 2) (aU (0 + 1) 2147483648 (2147483647 + 10)))) 4 = true := by decide +kernel
set_option maxRecDepth 100000 in
theorem e9_2_X_5 : (fun a => q_1 (k_l TN2 a) 105 Z_X (cX_9 (k_HXs [21]) (aI (a_ofs 32 a)) (aI 2) (aU (0 + 1) 2147483648 (2147483647 + 10)))) 5 = true := by decide +kernel
set_option maxRecDepth 100000 in
theorem e9_2_X_6 : (fun a => q_1 (k_l TN2 a) 105 Z_X (cX_9 (k_HXs [21]) (aI (a_ofs 32 a)) (aI 2) (aU (0 + 1) 2147483648 (2147483647 + 10)))) 6 = true := by decide +kernel
set_option maxRecDepth 100000 in
theorem e9_2_X_7 : (fun a => q_1 (k_l TN2 a) 105 Z_X (cX_9 (k_HXs [21]) (aI (a_ofs 32 a)) (aI 2) (aU (0 + 1) 2147483648 (2147483647 + 10)))) 7 = true := by decide +kernel
set_option maxRecDepth 100000 in
theorem e9_2_X_8 : (fun a => q_1 (k_l TN2 a) 105 Z_X (cX_9 (k_HXs [21]) (aI (a_ofs 32 a)) (aI 2) (aU (0 + 1) 2147483648 (2147483647 + 10)))) 8 = true := by decide +kernel
set_option maxRecDepth 100000 in
theorem e9_2_X_9 : (fun a => q_1 (k_l TN2 a) 105 Z_X (cX_9 (k_HXs [21]) (aI (a_ofs 32 a)) (aI 2) (aU (0 + 1) 2147483648 (2147483647 + 10)))) 9 = true := by decide +kernel
set_option maxRecDepth 100000 in
theorem e9_2_X_10 : (fun a => q_1 (k_l TN2 a) 105 Z_X (cX_9 (k_HXs [21]) (aI (a_ofs 32 a)) (aI 2) (aU (0 + 1) 2147483648 (2147483647 + 10)))) 10 = true := by decide +kernel
set_option maxRecDepth 100000 in
theorem e9_2_X_11 : (fun a => q_1 (k_l TN2 a) 105 Z_X (cX_9 (k_HXs [21]) (aI (a_ofs 32 a)) (aI 2) (aU (0 + 1) 2147483648 (2147483647 + 10)))) 11 = true := by decide +kernel
set_option maxRecDepth 100000 in
theorem e9_2_X_12 : (fun a => q_1 (k_l TN2 a) 105 Z_X (cX_9 (k_HXs [21]) (aI (a_ofs 32 a)) (aI 2) (aU (0 + 1) 2147483648 (2147483647 + 10)))) 12 = true := by decide +kernel
set_option maxRecDepth 100000 in
theorem e9_2_X_13 : (fun a => q_1 (k_l TN2 a) 105 Z_X (cX_9 (k_HXs [21]) (aI (a_ofs 32 a)) (aI 2) (aU (0 + 1) 2147483648 (2147483647 + 10)))) 13 = true := by decide +kernel
set_option maxRecDepth 100000 in
theorem e9_2_X_14 : (fun a => q_1 (k_l TN2 a) 105 Z_X (cX_9 (k_HXs [21]) (aI (a_ofs 32 a)) (aI 2) (aU (0 + 1) 2147483648 (2147483647 + 10)))) 14 = true := by decide +kernel
set_option maxRecDepth 100000 in
theorem e9_2_X_15 : (fun a => q_1 (k_l TN2 a) 105 Z_X (cX_9 (k_HXs [21]) (aI (a_ofs 32 a)) (aI 2) (aU (0 + 1) 2147483648 (2147483647 + 10)))) 15 = true := by decide +kernel
set_option maxRecDepth 100000 in
theorem e9_2_X_16 : (fun a => q_1 (k_l TN2 a) 105 Z_X (cX_9 (k_HXs [21]) (aI (a_ofs 32 a)) (aI 2) (aU (0 + 1) 2147483648 (2147483647 + 10)))) 16 = true := by decide +kernel
set_option maxRecDepth 100000 in
theorem e9_2_X_17 : (fun a => q_1 (k_l TN2 a) 105 Z_X (cX_9 (k_HXs [21]) (aI (a_ofs 32 a)) (aI 2) (aU (0 + 1) 2147483648 (2147483647 + 10)))) 17 = true := by decide +kernel
set_option maxRecDepth 100000 in
theorem e9_2_X_18 : (fun a => q_1 (k_l TN2 a) 105 Z_X (cX_9 (k_HXs [21]) (aI (a_ofs 32 a)) (aI 2) (aU (0 + 1) 2147483648 (2147483647 + 10)))) 18 = true := by decide +kernel
set_option maxRecDepth 100000 in
theorem e9_2_X_19 : (fun a => q_1 (k_l TN2 a) 105 Z_X (cX_9 (k_HXs [21]) (aI (a_ofs 32 a)) (aI 2) (aU (0 + 1) 2147483648 (2147483647 + 10)))) 19 = true := by decide +kernel
set_option maxRecDepth 100000 in
theorem e9_2_X_20 : (fun a => q_1 (k_l TN2 a) 105 Z_X (cX_9 (k_HXs [21]) (aI (a_ofs 32 a)) (aI 2) (aU (0 + 1) 2147483648 (2147483647 + 10)))) 20 = true := by decide +kernel
set_option maxRecDepth 100000 in
theorem e9_2_X_21 : (fun a => q_1 (k_l TN2 a) 105 Z_X (cX_9 (k_HXs [21]) (aI (a_ofs 32 a)) (aI 2) (aU (0 + 1) 2147483648 (2147483647 + 10)))) 21 = true := by decide +kernel
set_option maxRecDepth 100000 in
theorem e9_2_X_22 : (fun a => q_1 (k_l TN2 a) 105 Z_X (cX_9 (k_HXs [21]) (aI (a_ofs 32 a)) (aI 2) (aU (0 + 1) 2147483648 (2147483647 + 10)))) 22 = true := by decide +kernel
set_option maxRecDepth 100000 in
theorem e9_2_X_23 : (fun a => q_1 (k_l TN2 a) 105 Z_X (cX_9 (k_HXs [21]) (aI (a_ofs 32 a)) (aI 2) (aU (0 + 1) 2147483648 (2147483647 + 10)))) 23 = true := by decide +kernel
set_option maxRecDepth 100000 in
theorem e9_2_X_24 : (fun a => q_1 (k_l TN2 a) 105 Z_X (cX_9 (k_HXs [21]) (aI (a_ofs 32 a)) (aI 2) (aU (0 + 1) 2147483648 (2147483647 + 10)))) 24 = true := by decide +kernel
set_option maxRecDepth 100000 in
theorem e9_2_X_25 : (fun a => q_1 (k_l TN2 a) 105 Z_X (cX_9 (k_HXs [21]) (aI (a_ofs 32 a)) (aI 2) (aU (0 + 1) 2147483648 (2147483647 + 10)))) 25 = true := by decide +kernel
set_option maxRecDepth 100000 in
theorem e9_2_X_26 : (fun a => q_1 (k_l TN2 a) 105 Z_X (cX_9 (k_HXs [21]) (aI (a_ofs 32 a)) (aI 2) (aU (0 + 1) 2147483648 (2147483647 + 10)))) 26 = true := by decide +kernel
set_option maxRecDepth 100000 in
theorem e9_2_X_27 : (fun a => q_1 (k_l TN2 a) 105 Z_X (cX_9 (k_HXs [21]) (aI (a_ofs 32 a)) (aI 2) (aU (0 + 1) 2147483648 (2147483647 + 10)))) 27 = true := by decide +kernel
set_option maxRecDepth 100000 in
theorem e9_2_X_28 : (fun a => q_1 (k_l TN2 a) 105 Z_X (cX_9 (k_HXs [21]) (aI (a_ofs 32 a)) (aI 2) (aU (0 + 1) 2147483648 (2147483647 + 10)))) 28 = true := by decide +kernel
set_option maxRecDepth 100000 in
theorem e9_2_X_29 : (fun a => q_1 (k_l TN2 a) 105 Z_X (cX_9 (k_HXs [21]) (aI (a_ofs 32 a)) (aI 2) (aU (0 + 1) 2147483648 (2147483647 + 10)))) 29 = true := by decide +kernel
set_option maxRecDepth 100000 in
theorem e9_2_X_30 : (fun a => q_1 (k_l TN2 a) 105 Z_X (cX_9 (k_HXs [21]) (aI (a_ofs 32 a)) (aI 2) (aU (0 + 1) 2147483648 (2147483647 + 10)))) 30 = true := by decide +kernel
set_option maxRecDepth 100000 in
theorem e9_2_X_31 : (fun a => q_1 (k_l TN2 a) 105 Z_X (cX_9 (k_HXs [21]) (aI (a_ofs 32 a)) (aI 2) (aU (0 + 1) 2147483648 (2147483647 + 10)))) 31 = true := by decide +kernel
set_option maxRecDepth 100000 in
theorem e9_2_X_32 : (fun a => q_1 (k_l TN2 a) 105 Z_X (cX_9 (k_HXs [21]) (aI (a_ofs 32 a)) (aI 2) (aU (0 + 1) 2147483648 (2147483647 + 10)))) 32 = true := by decide +kernel
set_option maxRecDepth 100000 in
theorem e9_2_X_33 : (fun a => q_1 (k_l TN2 a) 105 Z_X (cX_9 (k_HXs [21]) (aI (a_ofs 32 a)) (aI 2) (aU (0 + 1) 2147483648 (2147483647 + 10)))) 33 = true := by decide +kernel
set_option maxRecDepth 100000 in
theorem e9_2_X_34 : (fun a => q_1 (k_l TN2 a) 105 Z_X (cX_9 (k_HXs [21]) (aI (a_ofs 32 a)) (aI 2) (aU (0 + 1) 2147483648 (2147483647 + 10)))) 34 = true := by decide +kernel
set_option maxRecDepth 100000 in
theorem e9_2_X_35 : (fun a => q_1 (k_l TN2 a) 105 Z_X (cX_9 (k_HXs [21]) (aI (a_ofs 32 a)) (aI 2) (aU (0 + 1) 2147483648 (2147483647 + 10)))) 35 = true := by decide +kernel
set_option maxRecDepth 100000 in
theorem e9_2_X_36 : (fun a => q_1 (k_l TN2 a) 105 Z_X (cX_9 (k_HXs [21]) (aI (a_ofs 32 a)) (aI 2) (aU (0 + 1) 2147483648 (2147483647 + 10)))) 36 = true := by decide +kernel
set_option maxRecDepth 100000 in
theorem e9_2_X_37 : (fun a => q_1 (k_l TN2 a) 105 Z_X (cX_9 (k_HXs [21]) (aI (a_ofs 32 a)) (aI 2) (aU (0 + 1) 2147483648 (2147483647 + 10)))) 37 = true := by decide +kernel
set_option maxRecDepth 100000 in
theorem e9_2_X_38 : (fun a => q_1 (k_l TN2 a) 105 Z_X (cX_9 (k_HXs [21]) (aI (a_ofs 32 a)) (aI 2) (aU (0 + 1) 2147483648 (2147483647 + 10)))) 38 = true := by decide +kernel
set_option maxRecDepth 100000 in
theorem e9_2_X_39 : (fun a => q_1 (k_l TN2 a) 105 Z_X (cX_9 (k_HXs [21]) (aI (a_ofs 32 a)) (aI 2) (aU (0 + 1) 2147483648 (2147483647 + 10)))) 39 = true := by decide +kernel
set_option maxRecDepth 100000 in
theorem e9_2_X_40 : (fun a => q_1 (k_l TN2 a) 105 Z_X (cX_9 (k_HXs [21]) (aI (a_ofs 32 a)) (aI 2) (aU (0 + 1) 2147483648 (2147483647 + 10)))) 40 = true := by decide +kernel
set_option maxRecDepth 100000 in
theorem e9_2_X_41 : (fun a => q_1 (k_l TN2 a) 105 Z_X (cX_9 (k_HXs [21]) (aI (a_ofs 32 a)) (aI 2) (aU (0 + 1) 2147483648 (2147483647 + 10)))) 41 = true := by decide +kernel
set_option maxRecDepth 100000 in
theorem e9_2_X_42 : (fun a => q_1 (k_l TN2 a) 105 Z_X (cX_9 (k_HXs [21]) (aI (a_ofs 32 a)) (aI 2) (aU (0 + 1) 2147483648 (2147483647 + 10)))) 42 = true := by decide +kernel
set_option maxRecDepth 100000 in
theorem e9_2_X_43 : (fun a => q_1 (k_l TN2 a) 105 Z_X (cX_9 (k_HXs [21]) (aI (a_ofs 32 a)) (aI 2) (aU (0 + 1) 2147483648 (2147483647 + 10)))) 43 = true := by decide +kernel
set_option maxRecDepth 100000 in
theorem e9_2_X_44 : (fun a => q_1 (k_l TN2 a) 105 Z_X (cX_9 (k_HXs [21]) (aI (a_ofs 32 a)) (aI 2) (aU (0 + 1) 2147483648 (2147483647 + 10)))) 44 = true := by decide +kernel
set_option maxRecDepth 100000 in
theorem e9_2_X_45 : (fun a => q_1 (k_l TN2 a) 105 Z_X (cX_9 (k_HXs [21]) (aI (a_ofs 32 a)) (aI 2) (aU (0 + 1) 2147483648 (2147483647 + 10)))) 45 = true := by decide +kernel
set_option maxRecDepth 100000 in
theorem e9_2_X_46 : (fun a => q_1 (k_l TN2 a) 105 Z_X (cX_9 (k_HXs [21]) (aI (a_ofs 32 a)) (aI 2) (aU (0 + 1) 2147483648 (2147483647 + 10)))) 46 = true := by decide +kernel
set_option maxRecDepth 100000 in
theorem e9_2_X_47 : (fun a => q_1 (k_l TN2 a) 105 Z_X (cX_9 (k_HXs [21]) (aI (a_ofs 32 a)) (aI 2) (aU (0 + 1) 2147483648 (2147483647 + 10)))) 47 = true := by decide +kernel
set_option maxRecDepth 100000 in
theorem e9_2_X_48 : (fun a => q_1 (k_l TN2 a) 105 Z_X (cX_9 (k_HXs [21]) (aI (a_ofs 32 a)) (aI 2) (aU (0 + 1) 2147483648 (2147483647 + 10)))) 48 = true := by decide +kernel
set_option maxRecDepth 100000 in
theorem e9_2_X_49 : (fun a => q_1 (k_l TN2 a) 105 Z_X (cX_9 (k_HXs [21]) (aI (a_ofs 32 a)) (aI 2) (aU (0 + 1) 2147483648 (2147483647 + 10)))) 49 = true := by decide +kernel
set_option maxRecDepth 100000 in
theorem e9_2_X_50 : (fun a => q_1 (k_l TN2 a) 105 Z_X (cX_9 (k_HXs [21]) (aI (a_ofs 32 a)) (aI 2) (aU (0 + 1) 2147483648 (2147483647 + 10)))) 50 = true := by decide +kernel
set_option maxRecDepth 100000 in
theorem e9_2_X_51 : (fun a => q_1 (k_l TN2 a) 105 Z_X (cX_9 (k_HXs [21]) (aI (a_ofs 32 a)) (aI 2) (aU (0 + 1) 2147483648 (2147483647 + 10)))) 51 = true := by decide +kernel
set_option maxRecDepth 100000 in
theorem e9_2_X_52 : (fun a => q_1 (k_l TN2 a) 105 Z_X (cX_9 (k_HXs [21]) (aI (a_ofs 32 a)) (aI 2) (aU (0 + 1) 2147483648 (2147483647 + 10)))) 52 = true := by decide +kernel
set_option maxRecDepth 100000 in
theorem e9_2_X_53 : (fun a => q_1 (k_l TN2 a) 105 Z_X (cX_9 (k_HXs [21]) (aI (a_ofs 32 a)) (aI 2) (aU (0 + 1) 2147483648 (2147483647 + 10)))) 53 = true := by decide +kernel
set_option maxRecDepth 100000 in
theorem e9_2_X_54 : (fun a => q_1 (k_l TN2 a) 105 Z_X (cX_9 (k_HXs [21]) (aI (a_ofs 32 a)) (aI 2) (aU (0 + 1) 2147483648 (2147483647 + 10)))) 54 = true := by decide +kernel
set_option maxRecDepth 100000 in
theorem e9_2_X_55 : (fun a => q_1 (k_l TN2 a) 105 Z_X (cX_9 (k_HXs [21]) (aI (a_ofs 32 a)) (aI 2) (aU (0 + 1) 2147483648 (2147483647 + 10)))) 55 = true := by decide +kernel
set_option maxRecDepth 100000 in
theorem e9_2_X_56 : (fun a => q_1 (k_l TN2 a) 105 Z_X (cX_9 (k_HXs [21]) (aI (a_ofs 32 a)) (aI 2) (aU (0 + 1) 2147483648 (2147483647 + 10)))) 56 = true := by decide +kernel
set_option maxRecDepth 100000 in
theorem e9_2_X_57 : (fun a => q_1 (k_l TN2 a) 105 Z_X (cX_9 (k_HXs [21]) (aI (a_ofs 32 a)) (aI 2) (aU (0 + 1) 2147483648 (2147483647 + 10)))) 57 = true := by decide +kernel
set_option maxRecDepth 100000 in
theorem e9_2_X_58 : (fun a => q_1 (k_l TN2 a) 105 Z_X (cX_9 (k_HXs [21]) (aI (a_ofs 32 a)) (aI 2) (aU (0 + 1) 2147483648 (2147483647 + 10)))) 58 = true := by decide +kernel
set_option maxRecDepth 100000 in
theorem e9_2_X_59 : (fun a => q_1 (k_l TN2 a) 105 Z_X (cX_9 (k_HXs [21]) (aI (a_ofs 32 a)) (aI 2) (aU (0 + 1) 2147483648 (2147483647 + 10)))) 59 = true := by decide +kernel
set_option maxRecDepth 100000 in
theorem e9_2_X_60 : (fun a => q_1 (k_l TN2 a) 105 Z_X (cX_9 (k_HXs [21]) (aI (a_ofs 32 a)) (aI 2) (aU (0 + 1) 2147483648 (2147483647 + 10)))) 60 = true := by decide +kernel
set_option maxRecDepth 100000 in
theorem e9_2_X_61 : (fun a => q_1 (k_l TN2 a) 105 Z_X (cX_9 (k_HXs [21]) (aI (a_ofs 32 a)) (aI 2) (aU (0 + 1) 2147483648 (2147483647 + 10)))) 61 = true := by decide +kernel
set_option maxRecDepth 100000 in
theorem e9_2_X_62 : (fun a => q_1 (k_l TN2 a) 105 Z_X (cX_9 (k_HXs [21]) (aI (a_ofs 32 a)) (aI 2) (aU (0 + 1) 2147483648 (2147483647 + 10)))) 62 = true := by decide +kernel
set_option maxRecDepth 100000 in
theorem e9_2_X_63 : (fun a => q_1 (k_l TN2 a) 105 Z_X (cX_9 (k_HXs [21]) (aI (a_ofs 32 a)) (aI 2) (aU (0 + 1) 2147483648 (2147483647 + 10)))) 63 = true := by decide +kernel
set_option maxRecDepth 100000 in
theorem e9_2_X_64 : (fun a => q_1 (k_l TN2 a) 105 Z_X (cX_9 (k_HXs [21]) (aI (a_ofs 32 a)) (aI 2) (aU (0 + 1) 2147483648 (2147483647 + 10)))) 64 = true := by decide +kernel
theorem e9_2_X : ∀ a : Nat, a < 65 → q_1 (k_l TN2 a) 105 Z_X (cX_9 (k_HXs [21]) (aI (a_ofs 32 a)) (aI 2) (aU (0 + 1) 2147483648 (2147483647 + 10))) = true := by
  intro a h
  match a, h with
  | 0, _ => exact e9_2_X_0
  | 1, _ => exact e9_2_X_1
  | 2, _ => exact e9_2_X_2
  | 3, _ => exact e9_2_X_3
  | 4, _ => exact e9_2_X_4
  | 5, _ => exact e9_2_X_5
  | 6, _ => exact e9_2_X_6
  | 7, _ => exact e9_2_X_7
  | 8, _ => exact e9_2_X_8
  | 9, _ => exact e9_2_X_9
  | 10, _ => exact e9_2_X_10
  | 11, _ => exact e9_2_X_11
  | 12, _ => exact e9_2_X_12
  | 13, _ => exact e9_2_X_13
  | 14, _ => exact e9_2_X_14
  | 15, _ => exact e9_2_X_15
  | 16, _ => exact e9_2_X_16
  | 17, _ => exact e9_2_X_17
  | 18, _ => exact e9_2_X_18
  | 19, _ => exact e9_2_X_19
  | 20, _ => exact e9_2_X_20
  | 21, _ => exact e9_2_X_21
  | 22, _ => exact e9_2_X_22
  | 23, _ => exact e9_2_X_23
  | 24, _ => exact e9_2_X_24
  | 25, _ => exact e9_2_X_25
  | 26, _ => exact e9_2_X_26
  | 27, _ => exact e9_2_X_27
  | 28, _ => exact e9_2_X_28
  | 29, _ => exact e9_2_X_29
  | 30, _ => exact e9_2_X_30
  | 31, _ => exact e9_2_X_31
  | 32, _ => exact e9_2_X_32
  | 33, _ => exact e9_2_X_33
  | 34, _ => exact e9_2_X_34
  | 35, _ => exact e9_2_X_35
  | 36, _ => exact e9_2_X_36
  | 37, _ => exact e9_2_X_37
  | 38, _ => exact e9_2_X_38
  | 39, _ => exact e9_2_X_39
  | 40, _ => exact e9_2_X_40
  | 41, _ => exact e9_2_X_41
  | 42, _ => exact e9_2_X_42
  | 43, _ => exact e9_2_X_43
  | 44, _ => exact e9_2_X_44
  | 45, _ => exact e9_2_X_45
  | 46, _ => exact e9_2_X_46
  | 47, _ => exact e9_2_X_47
  | 48, _ => exact e9_2_X_48
  | 49, _ => exact e9_2_X_49
  | 50, _ => exact e9_2_X_50
  | 51, _ => exact e9_2_X_51
  | 52, _ => exact e9_2_X_52
  | 53, _ => exact e9_2_X_53
  | 54, _ => exact e9_2_X_54
  | 55, _ => exact e9_2_X_55
  | 56, _ => exact e9_2_X_56
  | 57, _ => exact e9_2_X_57
  | 58, _ => exact e9_2_X_58
  | 59, _ => exact e9_2_X_59
  | 60, _ => exact e9_2_X_60
  | 61, _ => exact e9_2_X_61
  | 62, _ => exact e9_2_X_62
  | 63, _ => exact e9_2_X_63
  | 64, _ => exact e9_2_X_64
  | n + 65, h => exact absurd h (by omega)
set_option maxRecDepth 20000 in
theorem op_9_2 (xa xc : Int32) : OP_9 [xa, a_i32 2, xc] := by
  rcases i_boxS xa 32 65 (by decide) (by decide) with ⟨ma, ha, rfl⟩ | ha | ha
  rotate_left
  · exact ⟨fun _ => 0, 4294967295, SideX_of [(aU 0 0 2147483615), (aI 2), (aU 0 0 4294967295)] (sb_116_0 (run_sound 1000000)) (TrX_id _) (fun ad => ⟨vU_bd (Nat.zero_le _) ha, ⟨by decide, rfl⟩, vU_any _, trivial⟩) (and_t e9_2_0l).1, SideM_of [(aU 0 0 2147483615), (aI 2), (aU 0 0 4294967295)] (sb_170_0 (run_sound 1000000)) (fun ad => ⟨vU_bd (Nat.zero_le _) ha, ⟨by decide, rfl⟩, vU_any _, trivial⟩) (and_t e9_2_0l).2⟩
  · exact ⟨fun _ => 0, 4294967295, SideX_of [(aU 0 2147483681 4294967295), (aI 2), (aU 0 0 4294967295)] (sb_116_0 (run_sound 1000000)) (TrX_id _) (fun ad => ⟨vU_bd ha (a_bs_max _), ⟨by decide, rfl⟩, vU_any _, trivial⟩) (and_t e9_2_0h).1, SideM_of [(aU 0 2147483681 4294967295), (aI 2), (aU 0 0 4294967295)] (sb_170_0 (run_sound 1000000)) (fun ad => ⟨vU_bd ha (a_bs_max _), ⟨by decide, rfl⟩, vU_any _, trivial⟩) (and_t e9_2_0h).2⟩
  rcases i_box xc 10 (by decide) with ⟨mc, hc, rfl⟩ | hc | hc
  rotate_left
  · exact ⟨fun _ => 0, 4294967295, SideX_of [(aI (a_ofs 32 ma)), (aI 2), (aU 0 0 2147483647)] (sb_116_0 (run_sound 1000000)) (TrX_id _) (fun ad => ⟨vI_ofs (n := 65) (by decide) ha (by decide), ⟨by decide, rfl⟩, vU_bd (Nat.zero_le _) hc, trivial⟩) (and_t (q_all_at e9_2_2l ma ha)).1, SideM_of [(aI (a_ofs 32 ma)), (aI 2), (aU 0 0 2147483647)] (sb_170_0 (run_sound 1000000)) (fun ad => ⟨vI_ofs (n := 65) (by decide) ha (by decide), ⟨by decide, rfl⟩, vU_bd (Nat.zero_le _) hc, trivial⟩) (and_t (q_all_at e9_2_2l ma ha)).2⟩
  · exact ⟨fun _ => 0, 4294967295, SideX_of [(aI (a_ofs 32 ma)), (aI 2), (aU 0 2147483658 4294967295)] (sb_116_0 (run_sound 1000000)) (TrX_id _) (fun ad => ⟨vI_ofs (n := 65) (by decide) ha (by decide), ⟨by decide, rfl⟩, vU_bd hc (a_bs_max _), trivial⟩) (and_t (q_all_at e9_2_2h ma ha)).1, SideM_of [(aI (a_ofs 32 ma)), (aI 2), (aU 0 2147483658 4294967295)] (sb_170_0 (run_sound 1000000)) (fun ad => ⟨vI_ofs (n := 65) (by decide) ha (by decide), ⟨by decide, rfl⟩, vU_bd hc (a_bs_max _), trivial⟩) (and_t (q_all_at e9_2_2h ma ha)).2⟩
  obtain ⟨σ, hσ⟩ := TrX_sp (gv := k_gn (a_i32 mc) (a_i32 (a_ofs 32 ma))) hc rfl
  exact ⟨k_gn (a_i32 mc) (a_i32 (a_ofs 32 ma)), (k_l TN2 ma), SideX_of [(aI (a_ofs 32 ma)), (aI 2), (aU (0 + 1) 2147483648 (2147483647 + 10))] (sb_116_0 (run_sound 1000000)) hσ (fun ad => ⟨vI_ofs (n := 65) (by decide) ha (by decide), ⟨by decide, rfl⟩, vG_in hc (by decide) (by decide) rfl, trivial⟩) (e9_2_X ma ha), numM_2 ma ha mc hc⟩
set_option maxRecDepth 100000 in
theorem e9_3_0l : (q_1 4294967295 105 Z_X (cX_9 k_HX (aU 0 0 2147483583) (aI 3) (aU 0 0 4294967295)) && q_1 4294967295 35 Z_M (cM_9 k_HM (aU 0 0 2147483583) (aI 3) (aU 0 0 4294967295))) = true := by decide +kernel
set_option maxRecDepth 100000 in
theorem e9_3_0h : (q_1 4294967295 105 Z_X (cX_9 k_HX (aU 0 2147483713 4294967295) (aI 3) (aU 0 0 4294967295)) && q_1 4294967295 35 Z_M (cM_9 k_HM (aU 0 2147483713 4294967295) (aI 3) (aU 0 0 4294967295))) = true := by decide +kernel
set_option maxRecDepth 100000 in
theorem e9_3_2l : q_all (fun a => (q_1 4294967295 105 Z_X (cX_9 k_HX (aI (a_ofs 64 a)) (aI 3) (aU 0 0 2147483647)) && q_1 4294967295 35 Z_M (cM_9 k_HM (aI (a_ofs 64 a)) (aI 3) (aU 0 0 2147483647)))) 129 = true := by decide +kernel
set_option maxRecDepth 100000 in
theorem e9_3_2h : q_all (fun a => (q_1 4294967295 105 Z_X (cX_9 k_HX (aI (a_ofs 64 a)) (aI 3) (aU 0 2147483658 4294967295)) && q_1 4294967295 35 Z_M (cM_9 k_HM (aI (a_ofs 64 a)) (aI 3) (aU 0 2147483658 4294967295)))) 129 = true := by decide +kernel
set_option maxRecDepth 100000 in
theorem e9_3_X_0 : (fun a => q_1 (k_l TN3 a) 105 Z_X (cX_9 (k_HXs [21]) (aI (a_ofs 64 a)) (aI 3) (aU (0 + 1) 2147483648 (2147483647 + 10)))) 0 = true := by decide +kernel
set_option maxRecDepth 100000 in
theorem e9_3_X_1 : (fun a => q_1 (k_l TN3 a) 105 Z_X (cX_9 (k_HXs [21]) (aI (a_ofs 64 a)) (aI 3) (aU (0 + 1) 2147483648 (2147483647 + 10)))) 1 = true := by decide +kernel
set_option maxRecDepth 100000 in
theorem e9_3_X_2 : (fun a => q_1 (k_l TN3 a) 105 Z_X (cX_9 (k_HXs [21]) (aI (a_ofs 64 a)) (aI 3) (aU (0 + 1) 2147483648 (2147483647 + 10)))) 2 = true := by decide +kernel
set_option maxRecDepth 100000 in
theorem e9_3_X_3 : (fun a => q_1 (k_l TN3 a) 105 Z_X (cX_9 (k_HXs [21]) (aI (a_ofs 64 a)) (aI 3) (aU (0 + 1) 2147483648 (2147483647 + 10)))) 3 = true := by decide +kernel
set_option maxRecDepth 100000 in
theorem e9_3_X_4 : (fun a => q_1 (k_l TN3 a) 105 Z_X (cX_9 (k_HXs [21]) (aI (a_ofs 64 a)) (aI 3) (aU (0 + 1) 2147483648 (2147483647 + 10)))) 4 = true := by decide +kernel
set_option maxRecDepth 100000 in
theorem e9_3_X_5 : (fun a => q_1 (k_l TN3 a) 105 Z_X (cX_9 (k_HXs [21]) (aI (a_ofs 64 a)) (aI 3) (aU (0 + 1) 2147483648 (2147483647 + 10)))) 5 = true := by decide +kernel
set_option maxRecDepth 100000 in
theorem e9_3_X_6 : (fun a => q_1 (k_l TN3 a) 105 Z_X (cX_9 (k_HXs [21]) (aI (a_ofs 64 a)) (aI 3) (aU (0 + 1) 2147483648 (2147483647 + 10)))) 6 = true := by decide +kernel
set_option maxRecDepth 100000 in
theorem e9_3_X_7 : (fun a => q_1 (k_l TN3 a) 105 Z_X (cX_9 (k_HXs [21]) (aI (a_ofs 64 a)) (aI 3) (aU (0 + 1) 2147483648 (2147483647 + 10)))) 7 = true := by decide +kernel
set_option maxRecDepth 100000 in
theorem e9_3_X_8 : (fun a => q_1 (k_l TN3 a) 105 Z_X (cX_9 (k_HXs [21]) (aI (a_ofs 64 a)) (aI 3) (aU (0 + 1) 2147483648 (2147483647 + 10)))) 8 = true := by decide +kernel
set_option maxRecDepth 100000 in
theorem e9_3_X_9 : (fun a => q_1 (k_l TN3 a) 105 Z_X (cX_9 (k_HXs [21]) (aI (a_ofs 64 a)) (aI 3) (aU (0 + 1) 2147483648 (2147483647 + 10)))) 9 = true := by decide +kernel
set_option maxRecDepth 100000 in
theorem e9_3_X_10 : (fun a => q_1 (k_l TN3 a) 105 Z_X (cX_9 (k_HXs [21]) (aI (a_ofs 64 a)) (aI 3) (aU (0 + 1) 2147483648 (2147483647 + 10)))) 10 = true := by decide +kernel
set_option maxRecDepth 100000 in
theorem e9_3_X_11 : (fun a => q_1 (k_l TN3 a) 105 Z_X (cX_9 (k_HXs [21]) (aI (a_ofs 64 a)) (aI 3) (aU (0 + 1) 2147483648 (2147483647 + 10)))) 11 = true := by decide +kernel
set_option maxRecDepth 100000 in
theorem e9_3_X_12 : (fun a => q_1 (k_l TN3 a) 105 Z_X (cX_9 (k_HXs [21]) (aI (a_ofs 64 a)) (aI 3) (aU (0 + 1) 2147483648 (2147483647 + 10)))) 12 = true := by decide +kernel
set_option maxRecDepth 100000 in
theorem e9_3_X_13 : (fun a => q_1 (k_l TN3 a) 105 Z_X (cX_9 (k_HXs [21]) (aI (a_ofs 64 a)) (aI 3) (aU (0 + 1) 2147483648 (2147483647 + 10)))) 13 = true := by decide +kernel
set_option maxRecDepth 100000 in
theorem e9_3_X_14 : (fun a => q_1 (k_l TN3 a) 105 Z_X (cX_9 (k_HXs [21]) (aI (a_ofs 64 a)) (aI 3) (aU (0 + 1) 2147483648 (2147483647 + 10)))) 14 = true := by decide +kernel
set_option maxRecDepth 100000 in
theorem e9_3_X_15 : (fun a => q_1 (k_l TN3 a) 105 Z_X (cX_9 (k_HXs [21]) (aI (a_ofs 64 a)) (aI 3) (aU (0 + 1) 2147483648 (2147483647 + 10)))) 15 = true := by decide +kernel
set_option maxRecDepth 100000 in
theorem e9_3_X_16 : (fun a => q_1 (k_l TN3 a) 105 Z_X (cX_9 (k_HXs [21]) (aI (a_ofs 64 a)) (aI 3) (aU (0 + 1) 2147483648 (2147483647 + 10)))) 16 = true := by decide +kernel
set_option maxRecDepth 100000 in
theorem e9_3_X_17 : (fun a => q_1 (k_l TN3 a) 105 Z_X (cX_9 (k_HXs [21]) (aI (a_ofs 64 a)) (aI 3) (aU (0 + 1) 2147483648 (2147483647 + 10)))) 17 = true := by decide +kernel
set_option maxRecDepth 100000 in
theorem e9_3_X_18 : (fun a => q_1 (k_l TN3 a) 105 Z_X (cX_9 (k_HXs [21]) (aI (a_ofs 64 a)) (aI 3) (aU (0 + 1) 2147483648 (2147483647 + 10)))) 18 = true := by decide +kernel
set_option maxRecDepth 100000 in
theorem e9_3_X_19 : (fun a => q_1 (k_l TN3 a) 105 Z_X (cX_9 (k_HXs [21]) (aI (a_ofs 64 a)) (aI 3) (aU (0 + 1) 2147483648 (2147483647 + 10)))) 19 = true := by decide +kernel
set_option maxRecDepth 100000 in
theorem e9_3_X_20 : (fun a => q_1 (k_l TN3 a) 105 Z_X (cX_9 (k_HXs [21]) (aI (a_ofs 64 a)) (aI 3) (aU (0 + 1) 2147483648 (2147483647 + 10)))) 20 = true := by decide +kernel
set_option maxRecDepth 100000 in
theorem e9_3_X_21 : (fun a => q_1 (k_l TN3 a) 105 Z_X (cX_9 (k_HXs [21]) (aI (a_ofs 64 a)) (aI 3) (aU (0 + 1) 2147483648 (2147483647 + 10)))) 21 = true := by decide +kernel
set_option maxRecDepth 100000 in
theorem e9_3_X_22 : (fun a => q_1 (k_l TN3 a) 105 Z_X (cX_9 (k_HXs [21]) (aI (a_ofs 64 a)) (aI 3) (aU (0 + 1) 2147483648 (2147483647 + 10)))) 22 = true := by decide +kernel
set_option maxRecDepth 100000 in
theorem e9_3_X_23 : (fun a => q_1 (k_l TN3 a) 105 Z_X (cX_9 (k_HXs [21]) (aI (a_ofs 64 a)) (aI 3) (aU (0 + 1) 2147483648 (2147483647 + 10)))) 23 = true := by decide +kernel
set_option maxRecDepth 100000 in
theorem e9_3_X_24 : (fun a => q_1 (k_l TN3 a) 105 Z_X (cX_9 (k_HXs [21]) (aI (a_ofs 64 a)) (aI 3) (aU (0 + 1) 2147483648 (2147483647 + 10)))) 24 = true := by decide +kernel
set_option maxRecDepth 100000 in
theorem e9_3_X_25 : (fun a => q_1 (k_l TN3 a) 105 Z_X (cX_9 (k_HXs [21]) (aI (a_ofs 64 a)) (aI 3) (aU (0 + 1) 2147483648 (2147483647 + 10)))) 25 = true := by decide +kernel
set_option maxRecDepth 100000 in
theorem e9_3_X_26 : (fun a => q_1 (k_l TN3 a) 105 Z_X (cX_9 (k_HXs [21]) (aI (a_ofs 64 a)) (aI 3) (aU (0 + 1) 2147483648 (2147483647 + 10)))) 26 = true := by decide +kernel
set_option maxRecDepth 100000 in
theorem e9_3_X_27 : (fun a => q_1 (k_l TN3 a) 105 Z_X (cX_9 (k_HXs [21]) (aI (a_ofs 64 a)) (aI 3) (aU (0 + 1) 2147483648 (2147483647 + 10)))) 27 = true := by decide +kernel
set_option maxRecDepth 100000 in
theorem e9_3_X_28 : (fun a => q_1 (k_l TN3 a) 105 Z_X (cX_9 (k_HXs [21]) (aI (a_ofs 64 a)) (aI 3) (aU (0 + 1) 2147483648 (2147483647 + 10)))) 28 = true := by decide +kernel
set_option maxRecDepth 100000 in
theorem e9_3_X_29 : (fun a => q_1 (k_l TN3 a) 105 Z_X (cX_9 (k_HXs [21]) (aI (a_ofs 64 a)) (aI 3) (aU (0 + 1) 2147483648 (2147483647 + 10)))) 29 = true := by decide +kernel
set_option maxRecDepth 100000 in
theorem e9_3_X_30 : (fun a => q_1 (k_l TN3 a) 105 Z_X (cX_9 (k_HXs [21]) (aI (a_ofs 64 a)) (aI 3) (aU (0 + 1) 2147483648 (2147483647 + 10)))) 30 = true := by decide +kernel
set_option maxRecDepth 100000 in
theorem e9_3_X_31 : (fun a => q_1 (k_l TN3 a) 105 Z_X (cX_9 (k_HXs [21]) (aI (a_ofs 64 a)) (aI 3) (aU (0 + 1) 2147483648 (2147483647 + 10)))) 31 = true := by decide +kernel
set_option maxRecDepth 100000 in
theorem e9_3_X_32 : (fun a => q_1 (k_l TN3 a) 105 Z_X (cX_9 (k_HXs [21]) (aI (a_ofs 64 a)) (aI 3) (aU (0 + 1) 2147483648 (2147483647 + 10)))) 32 = true := by decide +kernel
set_option maxRecDepth 100000 in
theorem e9_3_X_33 : (fun a => q_1 (k_l TN3 a) 105 Z_X (cX_9 (k_HXs [21]) (aI (a_ofs 64 a)) (aI 3) (aU (0 + 1) 2147483648 (2147483647 + 10)))) 33 = true := by decide +kernel
set_option maxRecDepth 100000 in
theorem e9_3_X_34 : (fun a => q_1 (k_l TN3 a) 105 Z_X (cX_9 (k_HXs [21]) (aI (a_ofs 64 a)) (aI 3) (aU (0 + 1) 2147483648 (2147483647 + 10)))) 34 = true := by decide +kernel
set_option maxRecDepth 100000 in
theorem e9_3_X_35 : (fun a => q_1 (k_l TN3 a) 105 Z_X (cX_9 (k_HXs [21]) (aI (a_ofs 64 a)) (aI 3) (aU (0 + 1) 2147483648 (2147483647 + 10)))) 35 = true := by decide +kernel
set_option maxRecDepth 100000 in
theorem e9_3_X_36 : (fun a => q_1 (k_l TN3 a) 105 Z_X (cX_9 (k_HXs [21]) (aI (a_ofs 64 a)) (aI 3) (aU (0 + 1) 2147483648 (2147483647 + 10)))) 36 = true := by decide +kernel
set_option maxRecDepth 100000 in
theorem e9_3_X_37 : (fun a => q_1 (k_l TN3 a) 105 Z_X (cX_9 (k_HXs [21]) (aI (a_ofs 64 a)) (aI 3) (aU (0 + 1) 2147483648 (2147483647 + 10)))) 37 = true := by decide +kernel
set_option maxRecDepth 100000 in
theorem e9_3_X_38 : (fun a => q_1 (k_l TN3 a) 105 Z_X (cX_9 (k_HXs [21]) (aI (a_ofs 64 a)) (aI 3) (aU (0 + 1) 2147483648 (2147483647 + 10)))) 38 = true := by decide +kernel
set_option maxRecDepth 100000 in
theorem e9_3_X_39 : (fun a => q_1 (k_l TN3 a) 105 Z_X (cX_9 (k_HXs [21]) (aI (a_ofs 64 a)) (aI 3) (aU (0 + 1) 2147483648 (2147483647 + 10)))) 39 = true := by decide +kernel
set_option maxRecDepth 100000 in
theorem e9_3_X_40 : (fun a => q_1 (k_l TN3 a) 105 Z_X (cX_9 (k_HXs [21]) (aI (a_ofs 64 a)) (aI 3) (aU (0 + 1) 2147483648 (2147483647 + 10)))) 40 = true := by decide +kernel
set_option maxRecDepth 100000 in
theorem e9_3_X_41 : (fun a => q_1 (k_l TN3 a) 105 Z_X (cX_9 (k_HXs [21]) (aI (a_ofs 64 a)) (aI 3) (aU (0 + 1) 2147483648 (2147483647 + 10)))) 41 = true := by decide +kernel
set_option maxRecDepth 100000 in
theorem e9_3_X_42 : (fun a => q_1 (k_l TN3 a) 105 Z_X (cX_9 (k_HXs [21]) (aI (a_ofs 64 a)) (aI 3) (aU (0 + 1) 2147483648 (2147483647 + 10)))) 42 = true := by decide +kernel
set_option maxRecDepth 100000 in
theorem e9_3_X_43 : (fun a => q_1 (k_l TN3 a) 105 Z_X (cX_9 (k_HXs [21]) (aI (a_ofs 64 a)) (aI 3) (aU (0 + 1) 2147483648 (2147483647 + 10)))) 43 = true := by decide +kernel
set_option maxRecDepth 100000 in
theorem e9_3_X_44 : (fun a => q_1 (k_l TN3 a) 105 Z_X (cX_9 (k_HXs [21]) (aI (a_ofs 64 a)) (aI 3) (aU (0 + 1) 2147483648 (2147483647 + 10)))) 44 = true := by decide +kernel
set_option maxRecDepth 100000 in
theorem e9_3_X_45 : (fun a => q_1 (k_l TN3 a) 105 Z_X (cX_9 (k_HXs [21]) (aI (a_ofs 64 a)) (aI 3) (aU (0 + 1) 2147483648 (2147483647 + 10)))) 45 = true := by decide +kernel
set_option maxRecDepth 100000 in
theorem e9_3_X_46 : (fun a => q_1 (k_l TN3 a) 105 Z_X (cX_9 (k_HXs [21]) (aI (a_ofs 64 a)) (aI 3) (aU (0 + 1) 2147483648 (2147483647 + 10)))) 46 = true := by decide +kernel
set_option maxRecDepth 100000 in
theorem e9_3_X_47 : (fun a => q_1 (k_l TN3 a) 105 Z_X (cX_9 (k_HXs [21]) (aI (a_ofs 64 a)) (aI 3) (aU (0 + 1) 2147483648 (2147483647 + 10)))) 47 = true := by decide +kernel
set_option maxRecDepth 100000 in
theorem e9_3_X_48 : (fun a => q_1 (k_l TN3 a) 105 Z_X (cX_9 (k_HXs [21]) (aI (a_ofs 64 a)) (aI 3) (aU (0 + 1) 2147483648 (2147483647 + 10)))) 48 = true := by decide +kernel
set_option maxRecDepth 100000 in
theorem e9_3_X_49 : (fun a => q_1 (k_l TN3 a) 105 Z_X (cX_9 (k_HXs [21]) (aI (a_ofs 64 a)) (aI 3) (aU (0 + 1) 2147483648 (2147483647 + 10)))) 49 = true := by decide +kernel
set_option maxRecDepth 100000 in
theorem e9_3_X_50 : (fun a => q_1 (k_l TN3 a) 105 Z_X (cX_9 (k_HXs [21]) (aI (a_ofs 64 a)) (aI 3) (aU (0 + 1) 2147483648 (2147483647 + 10)))) 50 = true := by decide +kernel
set_option maxRecDepth 100000 in
theorem e9_3_X_51 : (fun a => q_1 (k_l TN3 a) 105 Z_X (cX_9 (k_HXs [21]) (aI (a_ofs 64 a)) (aI 3) (aU (0 + 1) 2147483648 (2147483647 + 10)))) 51 = true := by decide +kernel
set_option maxRecDepth 100000 in
theorem e9_3_X_52 : (fun a => q_1 (k_l TN3 a) 105 Z_X (cX_9 (k_HXs [21]) (aI (a_ofs 64 a)) (aI 3) (aU (0 + 1) 2147483648 (2147483647 + 10)))) 52 = true := by decide +kernel
set_option maxRecDepth 100000 in
theorem e9_3_X_53 : (fun a => q_1 (k_l TN3 a) 105 Z_X (cX_9 (k_HXs [21]) (aI (a_ofs 64 a)) (aI 3) (aU (0 + 1) 2147483648 (2147483647 + 10)))) 53 = true := by decide +kernel
set_option maxRecDepth 100000 in
theorem e9_3_X_54 : (fun a => q_1 (k_l TN3 a) 105 Z_X (cX_9 (k_HXs [21]) (aI (a_ofs 64 a)) (aI 3) (aU (0 + 1) 2147483648 (2147483647 + 10)))) 54 = true := by decide +kernel
set_option maxRecDepth 100000 in
theorem e9_3_X_55 : (fun a => q_1 (k_l TN3 a) 105 Z_X (cX_9 (k_HXs [21]) (aI (a_ofs 64 a)) (aI 3) (aU (0 + 1) 2147483648 (2147483647 + 10)))) 55 = true := by decide +kernel
set_option maxRecDepth 100000 in
theorem e9_3_X_56 : (fun a => q_1 (k_l TN3 a) 105 Z_X (cX_9 (k_HXs [21]) (aI (a_ofs 64 a)) (aI 3) (aU (0 + 1) 2147483648 (2147483647 + 10)))) 56 = true := by decide +kernel
set_option maxRecDepth 100000 in
theorem e9_3_X_57 : (fun a => q_1 (k_l TN3 a) 105 Z_X (cX_9 (k_HXs [21]) (aI (a_ofs 64 a)) (aI 3) (aU (0 + 1) 2147483648 (2147483647 + 10)))) 57 = true := by decide +kernel
set_option maxRecDepth 100000 in
theorem e9_3_X_58 : (fun a => q_1 (k_l TN3 a) 105 Z_X (cX_9 (k_HXs [21]) (aI (a_ofs 64 a)) (aI 3) (aU (0 + 1) 2147483648 (2147483647 + 10)))) 58 = true := by decide +kernel
set_option maxRecDepth 100000 in
theorem e9_3_X_59 : (fun a => q_1 (k_l TN3 a) 105 Z_X (cX_9 (k_HXs [21]) (aI (a_ofs 64 a)) (aI 3) (aU (0 + 1) 2147483648 (2147483647 + 10)))) 59 = true := by decide +kernel
set_option maxRecDepth 100000 in
theorem e9_3_X_60 : (fun a => q_1 (k_l TN3 a) 105 Z_X (cX_9 (k_HXs [21]) (aI (a_ofs 64 a)) (aI 3) (aU (0 + 1) 2147483648 (2147483647 + 10)))) 60 = true := by decide +kernel
set_option maxRecDepth 100000 in
theorem e9_3_X_61 : (fun a => q_1 (k_l TN3 a) 105 Z_X (cX_9 (k_HXs [21]) (aI (a_ofs 64 a)) (aI 3) (aU (0 + 1) 2147483648 (2147483647 + 10)))) 61 = true := by decide +kernel
set_option maxRecDepth 100000 in
theorem e9_3_X_62 : (fun a => q_1 (k_l TN3 a) 105 Z_X (cX_9 (k_HXs [21]) (aI (a_ofs 64 a)) (aI 3) (aU (0 + 1) 2147483648 (2147483647 + 10)))) 62 = true := by decide +kernel
set_option maxRecDepth 100000 in
theorem e9_3_X_63 : (fun a => q_1 (k_l TN3 a) 105 Z_X (cX_9 (k_HXs [21]) (aI (a_ofs 64 a)) (aI 3) (aU (0 + 1) 2147483648 (2147483647 + 10)))) 63 = true := by decide +kernel
set_option maxRecDepth 100000 in
theorem e9_3_X_64 : (fun a => q_1 (k_l TN3 a) 105 Z_X (cX_9 (k_HXs [21]) (aI (a_ofs 64 a)) (aI 3) (aU (0 + 1) 2147483648 (2147483647 + 10)))) 64 = true := by decide +kernel
set_option maxRecDepth 100000 in
theorem e9_3_X_65 : (fun a => q_1 (k_l TN3 a) 105 Z_X (cX_9 (k_HXs [21]) (aI (a_ofs 64 a)) (aI 3) (aU (0 + 1) 2147483648 (2147483647 + 10)))) 65 = true := by decide +kernel
set_option maxRecDepth 100000 in
theorem e9_3_X_66 : (fun a => q_1 (k_l TN3 a) 105 Z_X (cX_9 (k_HXs [21]) (aI (a_ofs 64 a)) (aI 3) (aU (0 + 1) 2147483648 (2147483647 + 10)))) 66 = true := by decide +kernel
set_option maxRecDepth 100000 in
theorem e9_3_X_67 : (fun a => q_1 (k_l TN3 a) 105 Z_X (cX_9 (k_HXs [21]) (aI (a_ofs 64 a)) (aI 3) (aU (0 + 1) 2147483648 (2147483647 + 10)))) 67 = true := by decide +kernel
set_option maxRecDepth 100000 in
theorem e9_3_X_68 : (fun a => q_1 (k_l TN3 a) 105 Z_X (cX_9 (k_HXs [21]) (aI (a_ofs 64 a)) (aI 3) (aU (0 + 1) 2147483648 (2147483647 + 10)))) 68 = true := by decide +kernel
set_option maxRecDepth 100000 in
theorem e9_3_X_69 : (fun a => q_1 (k_l TN3 a) 105 Z_X (cX_9 (k_HXs [21]) (aI (a_ofs 64 a)) (aI 3) (aU (0 + 1) 2147483648 (2147483647 + 10)))) 69 = true := by decide +kernel
set_option maxRecDepth 100000 in
theorem e9_3_X_70 : (fun a => q_1 (k_l TN3 a) 105 Z_X (cX_9 (k_HXs [21]) (aI (a_ofs 64 a)) (aI 3) (aU (0 + 1) 2147483648 (2147483647 + 10)))) 70 = true := by decide +kernel
set_option maxRecDepth 100000 in
theorem e9_3_X_71 : (fun a => q_1 (k_l TN3 a) 105 Z_X (cX_9 (k_HXs [21]) (aI (a_ofs 64 a)) (aI 3) (aU (0 + 1) 2147483648 (2147483647 + 10)))) 71 = true := by decide +kernel
set_option maxRecDepth 100000 in
theorem e9_3_X_72 : (fun a => q_1 (k_l TN3 a) 105 Z_X (cX_9 (k_HXs [21]) (aI (a_ofs 64 a)) (aI 3) (aU (0 + 1) 2147483648 (2147483647 + 10)))) 72 = true := by decide +kernel
set_option maxRecDepth 100000 in
theorem e9_3_X_73 : (fun a => q_1 (k_l TN3 a) 105 Z_X (cX_9 (k_HXs [21]) (aI (a_ofs 64 a)) (aI 3) (aU (0 + 1) 2147483648 (2147483647 + 10)))) 73 = true := by decide +kernel
set_option maxRecDepth 100000 in
theorem e9_3_X_74 : (fun a => q_1 (k_l TN3 a) 105 Z_X (cX_9 (k_HXs [21]) (aI (a_ofs 64 a)) (aI 3) (aU (0 + 1) 2147483648 (2147483647 + 10)))) 74 = true := by decide +kernel
set_option maxRecDepth 100000 in
theorem e9_3_X_75 : (fun a => q_1 (k_l TN3 a) 105 Z_X (cX_9 (k_HXs [21]) (aI (a_ofs 64 a)) (aI 3) (aU (0 + 1) 2147483648 (2147483647 + 10)))) 75 = true := by decide +kernel
set_option maxRecDepth 100000 in
theorem e9_3_X_76 : (fun a => q_1 (k_l TN3 a) 105 Z_X (cX_9 (k_HXs [21]) (aI (a_ofs 64 a)) (aI 3) (aU (0 + 1) 2147483648 (2147483647 + 10)))) 76 = true := by decide +kernel
set_option maxRecDepth 100000 in
theorem e9_3_X_77 : (fun a => q_1 (k_l TN3 a) 105 Z_X (cX_9 (k_HXs [21]) (aI (a_ofs 64 a)) (aI 3) (aU (0 + 1) 2147483648 (2147483647 + 10)))) 77 = true := by decide +kernel
set_option maxRecDepth 100000 in
theorem e9_3_X_78 : (fun a => q_1 (k_l TN3 a) 105 Z_X (cX_9 (k_HXs [21]) (aI (a_ofs 64 a)) (aI 3) (aU (0 + 1) 2147483648 (2147483647 + 10)))) 78 = true := by decide +kernel
set_option maxRecDepth 100000 in
theorem e9_3_X_79 : (fun a => q_1 (k_l TN3 a) 105 Z_X (cX_9 (k_HXs [21]) (aI (a_ofs 64 a)) (aI 3) (aU (0 + 1) 2147483648 (2147483647 + 10)))) 79 = true := by decide +kernel
set_option maxRecDepth 100000 in
theorem e9_3_X_80 : (fun a => q_1 (k_l TN3 a) 105 Z_X (cX_9 (k_HXs [21]) (aI (a_ofs 64 a)) (aI 3) (aU (0 + 1) 2147483648 (2147483647 + 10)))) 80 = true := by decide +kernel
set_option maxRecDepth 100000 in
theorem e9_3_X_81 : (fun a => q_1 (k_l TN3 a) 105 Z_X (cX_9 (k_HXs [21]) (aI (a_ofs 64 a)) (aI 3) (aU (0 + 1) 2147483648 (2147483647 + 10)))) 81 = true := by decide +kernel
set_option maxRecDepth 100000 in
theorem e9_3_X_82 : (fun a => q_1 (k_l TN3 a) 105 Z_X (cX_9 (k_HXs [21]) (aI (a_ofs 64 a)) (aI 3) (aU (0 + 1) 2147483648 (2147483647 + 10)))) 82 = true := by decide +kernel
set_option maxRecDepth 100000 in
theorem e9_3_X_83 : (fun a => q_1 (k_l TN3 a) 105 Z_X (cX_9 (k_HXs [21]) (aI (a_ofs 64 a)) (aI 3) (aU (0 + 1) 2147483648 (2147483647 + 10)))) 83 = true := by decide +kernel
set_option maxRecDepth 100000 in
theorem e9_3_X_84 : (fun a => q_1 (k_l TN3 a) 105 Z_X (cX_9 (k_HXs [21]) (aI (a_ofs 64 a)) (aI 3) (aU (0 + 1) 2147483648 (2147483647 + 10)))) 84 = true := by decide +kernel
set_option maxRecDepth 100000 in
theorem e9_3_X_85 : (fun a => q_1 (k_l TN3 a) 105 Z_X (cX_9 (k_HXs [21]) (aI (a_ofs 64 a)) (aI 3) (aU (0 + 1) 2147483648 (2147483647 + 10)))) 85 = true := by decide +kernel
set_option maxRecDepth 100000 in
theorem e9_3_X_86 : (fun a => q_1 (k_l TN3 a) 105 Z_X (cX_9 (k_HXs [21]) (aI (a_ofs 64 a)) (aI 3) (aU (0 + 1) 2147483648 (2147483647 + 10)))) 86 = true := by decide +kernel
set_option maxRecDepth 100000 in
theorem e9_3_X_87 : (fun a => q_1 (k_l TN3 a) 105 Z_X (cX_9 (k_HXs [21]) (aI (a_ofs 64 a)) (aI 3) (aU (0 + 1) 2147483648 (2147483647 + 10)))) 87 = true := by decide +kernel
set_option maxRecDepth 100000 in
theorem e9_3_X_88 : (fun a => q_1 (k_l TN3 a) 105 Z_X (cX_9 (k_HXs [21]) (aI (a_ofs 64 a)) (aI 3) (aU (0 + 1) 2147483648 (2147483647 + 10)))) 88 = true := by decide +kernel
set_option maxRecDepth 100000 in
theorem e9_3_X_89 : (fun a => q_1 (k_l TN3 a) 105 Z_X (cX_9 (k_HXs [21]) (aI (a_ofs 64 a)) (aI 3) (aU (0 + 1) 2147483648 (2147483647 + 10)))) 89 = true := by decide +kernel
set_option maxRecDepth 100000 in
theorem e9_3_X_90 : (fun a => q_1 (k_l TN3 a) 105 Z_X (cX_9 (k_HXs [21]) (aI (a_ofs 64 a)) (aI 3) (aU (0 + 1) 2147483648 (2147483647 + 10)))) 90 = true := by decide +kernel
set_option maxRecDepth 100000 in
theorem e9_3_X_91 : (fun a => q_1 (k_l TN3 a) 105 Z_X (cX_9 (k_HXs [21]) (aI (a_ofs 64 a)) (aI 3) (aU (0 + 1) 2147483648 (2147483647 + 10)))) 91 = true := by decide +kernel
set_option maxRecDepth 100000 in
theorem e9_3_X_92 : (fun a => q_1 (k_l TN3 a) 105 Z_X (cX_9 (k_HXs [21]) (aI (a_ofs 64 a)) (aI 3) (aU (0 + 1) 2147483648 (2147483647 + 10)))) 92 = true := by decide +kernel
set_option maxRecDepth 100000 in
theorem e9_3_X_93 : (fun a => q_1 (k_l TN3 a) 105 Z_X (cX_9 (k_HXs [21]) (aI (a_ofs 64 a)) (aI 3) (aU (0 + 1) 2147483648 (2147483647 + 10)))) 93 = true := by decide +kernel
set_option maxRecDepth 100000 in
theorem e9_3_X_94 : (fun a => q_1 (k_l TN3 a) 105 Z_X (cX_9 (k_HXs [21]) (aI (a_ofs 64 a)) (aI 3) (aU (0 + 1) 2147483648 (2147483647 + 10)))) 94 = true := by decide +kernel
set_option maxRecDepth 100000 in
theorem e9_3_X_95 : (fun a => q_1 (k_l TN3 a) 105 Z_X (cX_9 (k_HXs [21]) (aI (a_ofs 64 a)) (aI 3) (aU (0 + 1) 2147483648 (2147483647 + 10)))) 95 = true := by decide +kernel
set_option maxRecDepth 100000 in
theorem e9_3_X_96 : (fun a => q_1 (k_l TN3 a) 105 Z_X (cX_9 (k_HXs [21]) (aI (a_ofs 64 a)) (aI 3) (aU (0 + 1) 2147483648 (2147483647 + 10)))) 96 = true := by decide +kernel
set_option maxRecDepth 100000 in
theorem e9_3_X_97 : (fun a => q_1 (k_l TN3 a) 105 Z_X (cX_9 (k_HXs [21]) (aI (a_ofs 64 a)) (aI 3) (aU (0 + 1) 2147483648 (2147483647 + 10)))) 97 = true := by decide +kernel
set_option maxRecDepth 100000 in
theorem e9_3_X_98 : (fun a => q_1 (k_l TN3 a) 105 Z_X (cX_9 (k_HXs [21]) (aI (a_ofs 64 a)) (aI 3) (aU (0 + 1) 2147483648 (2147483647 + 10)))) 98 = true := by decide +kernel
set_option maxRecDepth 100000 in
theorem e9_3_X_99 : (fun a => q_1 (k_l TN3 a) 105 Z_X (cX_9 (k_HXs [21]) (aI (a_ofs 64 a)) (aI 3) (aU (0 + 1) 2147483648 (2147483647 + 10)))) 99 = true := by decide +kernel
set_option maxRecDepth 100000 in
theorem e9_3_X_100 : (fun a => q_1 (k_l TN3 a) 105 Z_X (cX_9 (k_HXs [21]) (aI (a_ofs 64 a)) (aI 3) (aU (0 + 1) 2147483648 (2147483647 + 10)))) 100 = true := by decide +kernel
set_option maxRecDepth 100000 in
theorem e9_3_X_101 : (fun a => q_1 (k_l TN3 a) 105 Z_X (cX_9 (k_HXs [21]) (aI (a_ofs 64 a)) (aI 3) (aU (0 + 1) 2147483648 (2147483647 + 10)))) 101 = true := by decide +kernel
set_option maxRecDepth 100000 in
theorem e9_3_X_102 : (fun a => q_1 (k_l TN3 a) 105 Z_X (cX_9 (k_HXs [21]) (aI (a_ofs 64 a)) (aI 3) (aU (0 + 1) 2147483648 (2147483647 + 10)))) 102 = true := by decide +kernel
set_option maxRecDepth 100000 in
theorem e9_3_X_103 : (fun a => q_1 (k_l TN3 a) 105 Z_X (cX_9 (k_HXs [21]) (aI (a_ofs 64 a)) (aI 3) (aU (0 + 1) 2147483648 (2147483647 + 10)))) 103 = true := by decide +kernel
set_option maxRecDepth 100000 in
theorem e9_3_X_104 : (fun a => q_1 (k_l TN3 a) 105 Z_X (cX_9 (k_HXs [21]) (aI (a_ofs 64 a)) (aI 3) (aU (0 + 1) 2147483648 (2147483647 + 10)))) 104 = true := by decide +kernel
set_option maxRecDepth 100000 in
theorem e9_3_X_105 : (fun a => q_1 (k_l TN3 a) 105 Z_X (cX_9 (k_HXs [21]) (aI (a_ofs 64 a)) (aI 3) (aU (0 + 1) 2147483648 (2147483647 + 10)))) 105 = true := by decide +kernel
set_option maxRecDepth 100000 in
theorem e9_3_X_106 : (fun a => q_1 (k_l TN3 a) 105 Z_X (cX_9 (k_HXs [21]) (aI (a_ofs 64 a)) (aI 3) (aU (0 + 1) 2147483648 (2147483647 + 10)))) 106 = true := by decide +kernel
set_option maxRecDepth 100000 in
theorem e9_3_X_107 : (fun a => q_1 (k_l TN3 a) 105 Z_X (cX_9 (k_HXs [21]) (aI (a_ofs 64 a)) (aI 3) (aU (0 + 1) 2147483648 (2147483647 + 10)))) 107 = true := by decide +kernel
set_option maxRecDepth 100000 in
theorem e9_3_X_108 : (fun a => q_1 (k_l TN3 a) 105 Z_X (cX_9 (k_HXs [21]) (aI (a_ofs 64 a)) (aI 3) (aU (0 + 1) 2147483648 (2147483647 + 10)))) 108 = true := by decide +kernel
set_option maxRecDepth 100000 in
theorem e9_3_X_109 : (fun a => q_1 (k_l TN3 a) 105 Z_X (cX_9 (k_HXs [21]) (aI (a_ofs 64 a)) (aI 3) (aU (0 + 1) 2147483648 (2147483647 + 10)))) 109 = true := by decide +kernel
set_option maxRecDepth 100000 in
theorem e9_3_X_110 : (fun a => q_1 (k_l TN3 a) 105 Z_X (cX_9 (k_HXs [21]) (aI (a_ofs 64 a)) (aI 3) (aU (0 + 1) 2147483648 (2147483647 + 10)))) 110 = true := by decide +kernel
set_option maxRecDepth 100000 in
theorem e9_3_X_111 : (fun a => q_1 (k_l TN3 a) 105 Z_X (cX_9 (k_HXs [21]) (aI (a_ofs 64 a)) (aI 3) (aU (0 + 1) 2147483648 (2147483647 + 10)))) 111 = true := by decide +kernel
set_option maxRecDepth 100000 in
theorem e9_3_X_112 : (fun a => q_1 (k_l TN3 a) 105 Z_X (cX_9 (k_HXs [21]) (aI (a_ofs 64 a)) (aI 3) (aU (0 + 1) 2147483648 (2147483647 + 10)))) 112 = true := by decide +kernel
set_option maxRecDepth 100000 in
theorem e9_3_X_113 : (fun a => q_1 (k_l TN3 a) 105 Z_X (cX_9 (k_HXs [21]) (aI (a_ofs 64 a)) (aI 3) (aU (0 + 1) 2147483648 (2147483647 + 10)))) 113 = true := by decide +kernel
set_option maxRecDepth 100000 in
theorem e9_3_X_114 : (fun a => q_1 (k_l TN3 a) 105 Z_X (cX_9 (k_HXs [21]) (aI (a_ofs 64 a)) (aI 3) (aU (0 + 1) 2147483648 (2147483647 + 10)))) 114 = true := by decide +kernel
set_option maxRecDepth 100000 in
theorem e9_3_X_115 : (fun a => q_1 (k_l TN3 a) 105 Z_X (cX_9 (k_HXs [21]) (aI (a_ofs 64 a)) (aI 3) (aU (0 + 1) 2147483648 (2147483647 + 10)))) 115 = true := by decide +kernel
set_option maxRecDepth 100000 in
theorem e9_3_X_116 : (fun a => q_1 (k_l TN3 a) 105 Z_X (cX_9 (k_HXs [21]) (aI (a_ofs 64 a)) (aI 3) (aU (0 + 1) 2147483648 (2147483647 + 10)))) 116 = true := by decide +kernel
set_option maxRecDepth 100000 in
theorem e9_3_X_117 : (fun a => q_1 (k_l TN3 a) 105 Z_X (cX_9 (k_HXs [21]) (aI (a_ofs 64 a)) (aI 3) (aU (0 + 1) 2147483648 (2147483647 + 10)))) 117 = true := by decide +kernel
set_option maxRecDepth 100000 in
theorem e9_3_X_118 : (fun a => q_1 (k_l TN3 a) 105 Z_X (cX_9 (k_HXs [21]) (aI (a_ofs 64 a)) (aI 3) (aU (0 + 1) 2147483648 (2147483647 + 10)))) 118 = true := by decide +kernel
set_option maxRecDepth 100000 in
theorem e9_3_X_119 : (fun a => q_1 (k_l TN3 a) 105 Z_X (cX_9 (k_HXs [21]) (aI (a_ofs 64 a)) (aI 3) (aU (0 + 1) 2147483648 (2147483647 + 10)))) 119 = true := by decide +kernel
set_option maxRecDepth 100000 in
theorem e9_3_X_120 : (fun a => q_1 (k_l TN3 a) 105 Z_X (cX_9 (k_HXs [21]) (aI (a_ofs 64 a)) (aI 3) (aU (0 + 1) 2147483648 (2147483647 + 10)))) 120 = true := by decide +kernel
set_option maxRecDepth 100000 in
theorem e9_3_X_121 : (fun a => q_1 (k_l TN3 a) 105 Z_X (cX_9 (k_HXs [21]) (aI (a_ofs 64 a)) (aI 3) (aU (0 + 1) 2147483648 (2147483647 + 10)))) 121 = true := by decide +kernel
set_option maxRecDepth 100000 in
theorem e9_3_X_122 : (fun a => q_1 (k_l TN3 a) 105 Z_X (cX_9 (k_HXs [21]) (aI (a_ofs 64 a)) (aI 3) (aU (0 + 1) 2147483648 (2147483647 + 10)))) 122 = true := by decide +kernel
set_option maxRecDepth 100000 in
theorem e9_3_X_123 : (fun a => q_1 (k_l TN3 a) 105 Z_X (cX_9 (k_HXs [21]) (aI (a_ofs 64 a)) (aI 3) (aU (0 + 1) 2147483648 (2147483647 + 10)))) 123 = true := by decide +kernel
set_option maxRecDepth 100000 in
theorem e9_3_X_124 : (fun a => q_1 (k_l TN3 a) 105 Z_X (cX_9 (k_HXs [21]) (aI (a_ofs 64 a)) (aI 3) (aU (0 + 1) 2147483648 (2147483647 + 10)))) 124 = true := by decide +kernel
set_option maxRecDepth 100000 in
theorem e9_3_X_125 : (fun a => q_1 (k_l TN3 a) 105 Z_X (cX_9 (k_HXs [21]) (aI (a_ofs 64 a)) (aI 3) (aU (0 + 1) 2147483648 (2147483647 + 10)))) 125 = true := by decide +kernel
set_option maxRecDepth 100000 in
theorem e9_3_X_126 : (fun a => q_1 (k_l TN3 a) 105 Z_X (cX_9 (k_HXs [21]) (aI (a_ofs 64 a)) (aI 3) (aU (0 + 1) 2147483648 (2147483647 + 10)))) 126 = true := by decide +kernel
set_option maxRecDepth 100000 in
theorem e9_3_X_127 : (fun a => q_1 (k_l TN3 a) 105 Z_X (cX_9 (k_HXs [21]) (aI (a_ofs 64 a)) (aI 3) (aU (0 + 1) 2147483648 (2147483647 + 10)))) 127 = true := by decide +kernel
set_option maxRecDepth 100000 in
theorem e9_3_X_128 : (fun a => q_1 (k_l TN3 a) 105 Z_X (cX_9 (k_HXs [21]) (aI (a_ofs 64 a)) (aI 3) (aU (0 + 1) 2147483648 (2147483647 + 10)))) 128 = true := by decide +kernel
theorem e9_3_X : ∀ a : Nat, a < 129 → q_1 (k_l TN3 a) 105 Z_X (cX_9 (k_HXs [21]) (aI (a_ofs 64 a)) (aI 3) (aU (0 + 1) 2147483648 (2147483647 + 10))) = true := by
  intro a h
  match a, h with
  | 0, _ => exact e9_3_X_0
  | 1, _ => exact e9_3_X_1
  | 2, _ => exact e9_3_X_2
  | 3, _ => exact e9_3_X_3
  | 4, _ => exact e9_3_X_4
  | 5, _ => exact e9_3_X_5
  | 6, _ => exact e9_3_X_6
  | 7, _ => exact e9_3_X_7
  | 8, _ => exact e9_3_X_8
  | 9, _ => exact e9_3_X_9
  | 10, _ => exact e9_3_X_10
  | 11, _ => exact e9_3_X_11
  | 12, _ => exact e9_3_X_12
  | 13, _ => exact e9_3_X_13
  | 14, _ => exact e9_3_X_14
  | 15, _ => exact e9_3_X_15
  | 16, _ => exact e9_3_X_16
  | 17, _ => exact e9_3_X_17
  | 18, _ => exact e9_3_X_18
  | 19, _ => exact e9_3_X_19
  | 20, _ => exact e9_3_X_20
  | 21, _ => exact e9_3_X_21
  | 22, _ => exact e9_3_X_22
  | 23, _ => exact e9_3_X_23
  | 24, _ => exact e9_3_X_24
  | 25, _ => exact e9_3_X_25
  | 26, _ => exact e9_3_X_26
  | 27, _ => exact e9_3_X_27
  | 28, _ => exact e9_3_X_28
  | 29, _ => exact e9_3_X_29
  | 30, _ => exact e9_3_X_30
  | 31, _ => exact e9_3_X_31
  | 32, _ => exact e9_3_X_32
  | 33, _ => exact e9_3_X_33
  | 34, _ => exact e9_3_X_34
  | 35, _ => exact e9_3_X_35
  | 36, _ => exact e9_3_X_36
  | 37, _ => exact e9_3_X_37
  | 38, _ => exact e9_3_X_38
  | 39, _ => exact e9_3_X_39
  | 40, _ => exact e9_3_X_40
  | 41, _ => exact e9_3_X_41
  | 42, _ => exact e9_3_X_42
  | 43, _ => exact e9_3_X_43
  | 44, _ => exact e9_3_X_44
  | 45, _ => exact e9_3_X_45
  | 46, _ => exact e9_3_X_46
  | 47, _ => exact e9_3_X_47
  | 48, _ => exact e9_3_X_48
  | 49, _ => exact e9_3_X_49
  | 50, _ => exact e9_3_X_50
  | 51, _ => exact e9_3_X_51
  | 52, _ => exact e9_3_X_52
  | 53, _ => exact e9_3_X_53
  | 54, _ => exact e9_3_X_54
  | 55, _ => exact e9_3_X_55
  | 56, _ => exact e9_3_X_56
  | 57, _ => exact e9_3_X_57
  | 58, _ => exact e9_3_X_58
  | 59, _ => exact e9_3_X_59
  | 60, _ => exact e9_3_X_60
  | 61, _ => exact e9_3_X_61
  | 62, _ => exact e9_3_X_62
  | 63, _ => exact e9_3_X_63
  | 64, _ => exact e9_3_X_64
  | 65, _ => exact e9_3_X_65
  | 66, _ => exact e9_3_X_66
  | 67, _ => exact e9_3_X_67
  | 68, _ => exact e9_3_X_68
  | 69, _ => exact e9_3_X_69
  | 70, _ => exact e9_3_X_70
  | 71, _ => exact e9_3_X_71
  | 72, _ => exact e9_3_X_72
  | 73, _ => exact e9_3_X_73
  | 74, _ => exact e9_3_X_74
  | 75, _ => exact e9_3_X_75
  | 76, _ => exact e9_3_X_76
  | 77, _ => exact e9_3_X_77
  | 78, _ => exact e9_3_X_78
  | 79, _ => exact e9_3_X_79
  | 80, _ => exact e9_3_X_80
  | 81, _ => exact e9_3_X_81
  | 82, _ => exact e9_3_X_82
  | 83, _ => exact e9_3_X_83
  | 84, _ => exact e9_3_X_84
  | 85, _ => exact e9_3_X_85
  | 86, _ => exact e9_3_X_86
  | 87, _ => exact e9_3_X_87
  | 88, _ => exact e9_3_X_88
  | 89, _ => exact e9_3_X_89
  | 90, _ => exact e9_3_X_90
  | 91, _ => exact e9_3_X_91
  | 92, _ => exact e9_3_X_92
  | 93, _ => exact e9_3_X_93
  | 94, _ => exact e9_3_X_94
  | 95, _ => exact e9_3_X_95
  | 96, _ => exact e9_3_X_96
  | 97, _ => exact e9_3_X_97
  | 98, _ => exact e9_3_X_98
  | 99, _ => exact e9_3_X_99
  | 100, _ => exact e9_3_X_100
  | 101, _ => exact e9_3_X_101
  | 102, _ => exact e9_3_X_102
  | 103, _ => exact e9_3_X_103
  | 104, _ => exact e9_3_X_104
  | 105, _ => exact e9_3_X_105
  | 106, _ => exact e9_3_X_106
  | 107, _ => exact e9_3_X_107
  | 108, _ => exact e9_3_X_108
  | 109, _ => exact e9_3_X_109
  | 110, _ => exact e9_3_X_110
  | 111, _ => exact e9_3_X_111
  | 112, _ => exact e9_3_X_112
  | 113, _ => exact e9_3_X_113
  | 114, _ => exact e9_3_X_114
  | 115, _ => exact e9_3_X_115
  | 116, _ => exact e9_3_X_116
  | 117, _ => exact e9_3_X_117
  | 118, _ => exact e9_3_X_118
  | 119, _ => exact e9_3_X_119
  | 120, _ => exact e9_3_X_120
  | 121, _ => exact e9_3_X_121
  | 122, _ => exact e9_3_X_122
  | 123, _ => exact e9_3_X_123
  | 124, _ => exact e9_3_X_124
  | 125, _ => exact e9_3_X_125
  | 126, _ => exact e9_3_X_126
  | 127, _ => exact e9_3_X_127
  | 128, _ => exact e9_3_X_128
  | n + 129, h => exact absurd h (by omega)
set_option maxRecDepth 20000 in
theorem op_9_3 (xa xc : Int32) : OP_9 [xa, a_i32 3, xc] := by
  rcases i_boxS xa 64 129 (by decide) (by decide) with ⟨ma, ha, rfl⟩ | ha | ha
  rotate_left
  · exact ⟨fun _ => 0, 4294967295, SideX_of [(aU 0 0 2147483583), (aI 3), (aU 0 0 4294967295)] (sb_116_0 (run_sound 1000000)) (TrX_id _) (fun ad => ⟨vU_bd (Nat.zero_le _) ha, ⟨by decide, rfl⟩, vU_any _, trivial⟩) (and_t e9_3_0l).1, SideM_of [(aU 0 0 2147483583), (aI 3), (aU 0 0 4294967295)] (sb_170_0 (run_sound 1000000)) (fun ad => ⟨vU_bd (Nat.zero_le _) ha, ⟨by decide, rfl⟩, vU_any _, trivial⟩) (and_t e9_3_0l).2⟩
  · exact ⟨fun _ => 0, 4294967295, SideX_of [(aU 0 2147483713 4294967295), (aI 3), (aU 0 0 4294967295)] (sb_116_0 (run_sound 1000000)) (TrX_id _) (fun ad => ⟨vU_bd ha (a_bs_max _), ⟨by decide, rfl⟩, vU_any _, trivial⟩) (and_t e9_3_0h).1, SideM_of [(aU 0 2147483713 4294967295), (aI 3), (aU 0 0 4294967295)] (sb_170_0 (run_sound 1000000)) (fun ad => ⟨vU_bd ha (a_bs_max _), ⟨by decide, rfl⟩, vU_any _, trivial⟩) (and_t e9_3_0h).2⟩
  rcases i_box xc 10 (by decide) with ⟨mc, hc, rfl⟩ | hc | hc
  rotate_left
  · exact ⟨fun _ => 0, 4294967295, SideX_of [(aI (a_ofs 64 ma)), (aI 3), (aU 0 0 2147483647)] (sb_116_0 (run_sound 1000000)) (TrX_id _) (fun ad => ⟨vI_ofs (n := 129) (by decide) ha (by decide), ⟨by decide, rfl⟩, vU_bd (Nat.zero_le _) hc, trivial⟩) (and_t (q_all_at e9_3_2l ma ha)).1, SideM_of [(aI (a_ofs 64 ma)), (aI 3), (aU 0 0 2147483647)] (sb_170_0 (run_sound 1000000)) (fun ad => ⟨vI_ofs (n := 129) (by decide) ha (by decide), ⟨by decide, rfl⟩, vU_bd (Nat.zero_le _) hc, trivial⟩) (and_t (q_all_at e9_3_2l ma ha)).2⟩
  · exact ⟨fun _ => 0, 4294967295, SideX_of [(aI (a_ofs 64 ma)), (aI 3), (aU 0 2147483658 4294967295)] (sb_116_0 (run_sound 1000000)) (TrX_id _) (fun ad => ⟨vI_ofs (n := 129) (by decide) ha (by decide), ⟨by decide, rfl⟩, vU_bd hc (a_bs_max _), trivial⟩) (and_t (q_all_at e9_3_2h ma ha)).1, SideM_of [(aI (a_ofs 64 ma)), (aI 3), (aU 0 2147483658 4294967295)] (sb_170_0 (run_sound 1000000)) (fun ad => ⟨vI_ofs (n := 129) (by decide) ha (by decide), ⟨by decide, rfl⟩, vU_bd hc (a_bs_max _), trivial⟩) (and_t (q_all_at e9_3_2h ma ha)).2⟩
  obtain ⟨σ, hσ⟩ := TrX_sp (gv := k_gn (a_i32 mc) (a_i32 (a_ofs 64 ma))) hc rfl
  exact ⟨k_gn (a_i32 mc) (a_i32 (a_ofs 64 ma)), (k_l TN3 ma), SideX_of [(aI (a_ofs 64 ma)), (aI 3), (aU (0 + 1) 2147483648 (2147483647 + 10))] (sb_116_0 (run_sound 1000000)) hσ (fun ad => ⟨vI_ofs (n := 129) (by decide) ha (by decide), ⟨by decide, rfl⟩, vG_in hc (by decide) (by decide) rfl, trivial⟩) (e9_3_X ma ha), numM_3 ma ha mc hc⟩
set_option maxRecDepth 100000 in
theorem e9_1l : (q_1 4294967295 105 Z_X (cX_9 k_HX (aU 0 0 4294967295) (aU 0 0 2147483647) (aU 0 0 4294967295)) && q_1 4294967295 35 Z_M (cM_9 k_HM (aU 0 0 4294967295) (aU 0 0 2147483647) (aU 0 0 4294967295))) = true := by decide +kernel
set_option maxRecDepth 100000 in
theorem e9_1h : (q_1 4294967295 105 Z_X (cX_9 k_HX (aU 0 0 4294967295) (aU 0 2147483652 4294967295) (aU 0 0 4294967295)) && q_1 4294967295 35 Z_M (cM_9 k_HM (aU 0 0 4294967295) (aU 0 2147483652 4294967295) (aU 0 0 4294967295))) = true := by decide +kernel
theorem op_9 (xa xb xc : Int32) : OP_9 [xa, xb, xc] := by
  rcases i_box xb 4 (by decide) with ⟨mb, hb, rfl⟩ | hb | hb
  rotate_left
  · exact ⟨fun _ => 0, 4294967295, SideX_of [(aU 0 0 4294967295), (aU 0 0 2147483647), (aU 0 0 4294967295)] (sb_116_0 (run_sound 1000000)) (TrX_id _) (fun ad => ⟨vU_any _, vU_bd (Nat.zero_le _) hb, vU_any _, trivial⟩) (and_t e9_1l).1, SideM_of [(aU 0 0 4294967295), (aU 0 0 2147483647), (aU 0 0 4294967295)] (sb_170_0 (run_sound 1000000)) (fun ad => ⟨vU_any _, vU_bd (Nat.zero_le _) hb, vU_any _, trivial⟩) (and_t e9_1l).2⟩
  · exact ⟨fun _ => 0, 4294967295, SideX_of [(aU 0 0 4294967295), (aU 0 2147483652 4294967295), (aU 0 0 4294967295)] (sb_116_0 (run_sound 1000000)) (TrX_id _) (fun ad => ⟨vU_any _, vU_bd hb (a_bs_max _), vU_any _, trivial⟩) (and_t e9_1h).1, SideM_of [(aU 0 0 4294967295), (aU 0 2147483652 4294967295), (aU 0 0 4294967295)] (sb_170_0 (run_sound 1000000)) (fun ad => ⟨vU_any _, vU_bd hb (a_bs_max _), vU_any _, trivial⟩) (and_t e9_1h).2⟩
  match mb, hb with
  | 0, _ => exact op_9_0 xa xc
  | 1, _ => exact op_9_1 xa xc
  | 2, _ => exact op_9_2 xa xc
  | 3, _ => exact op_9_3 xa xc
  | n + 4, h => exact absurd h (by omega)
