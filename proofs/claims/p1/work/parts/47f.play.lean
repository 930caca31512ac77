/-! ===== beginner, best ===== -/
theorem vB_set6 {gv : Nat → Int32} {ad : List Nat} {n : Nat} (hn : n < 64) (hg : gv (1048576 + (1 + 1)) = a_i32 n) : vR gv ad (aB 1 2147483648 2147483711) (.int (a_i32 n)) := by
  obtain ⟨x, h1, h2, h3, h4⟩ := vB_set (gv := gv) (ad := ad) (b := 1) (n := n) (by decide) (by omega) hg
  cases h1
  have h := a_bs_val (a_i32 n)
  rw [t32 (by omega), if_pos (by omega)] at h
  exact ⟨_, rfl, h2, by omega, h4⟩
set_option maxRecDepth 100000 in
theorem lo0 : q_all (fun w => q_all (fun d => q_stop 24 [some (aR 1), some (aU (a_tg 1 0 d) 2147483648 2147483711), some (aI w), some (aI 0), some (aI (0 + 1))] [] k_HX (mb_132_0 (a_runS k_BT (k_st [(62, 24), (63, 76)]) 10000) [some (aR 1), some (aU (a_tg 1 0 d) 2147483648 2147483711), some (aI w), none, none] [] k_HX)) 2) 2 = true := by decide +kernel
set_option maxRecDepth 100000 in
theorem lo1 : q_all (fun w => q_all (fun s => q_all (fun d => q_stop 24 [some (aR 1), some (aU (a_tg 1 s d) 2147483648 2147483711), some (aI w), some (aI 0), some (aI (s + 1))] [] k_HX (mb_132_24 (a_runS k_BT (k_st [(62, 24), (63, 76)]) 10000) [some (aR 1), some (aU (a_tg 1 s d) 2147483648 2147483711), some (aI w), some (aI 0), some (aI s)] [] k_HX)) 2) 6) 2 = true := by decide +kernel
set_option maxRecDepth 100000 in
theorem lo2 : q_all (fun w => q_all (fun d => q_stop 76 [some (aR 1), some (aU (a_tg 1 0 d) 2147483648 2147483711), some (aI w), some (aI 0), some (aI (0 + 1))] [] k_HX (mb_132_24 (a_runS k_BT (k_st [(62, 24), (63, 76)]) 10000) [some (aR 1), some (aU (a_tg 1 0 d) 2147483648 2147483711), some (aI w), some (aI 0), some (aI 6)] [] k_HX)) 2) 2 = true := by decide +kernel
set_option maxRecDepth 100000 in
theorem lo3 : q_all (fun w => q_all (fun s => q_all (fun d => q_stop 76 [some (aR 1), some (aU (a_tg 1 s d) 2147483648 2147483711), some (aI w), some (aI 0), some (aI (s + 1))] [] k_HX (mb_132_76 (a_runS k_BT (k_st [(62, 24), (63, 76)]) 10000) [some (aR 1), some (aU (a_tg 1 s d) 2147483648 2147483711), some (aI w), some (aI 0), some (aI s)] [] k_HX)) 2) 6) 2 = true := by decide +kernel
set_option maxRecDepth 100000 in
theorem lo4 : q_all (fun w => q_end (some (aI 0)) k_HX (mb_132_76 (a_run k_BT 100000) [some (aR 1), some (aB 1 2147483648 2147483711), some (aI w), some (aI 0), some (aI 6)] [] k_HX)) 2 = true := by decide +kernel
theorem loB {gv : Nat → Int32} {n w : Nat} (hn : n < 1024) (hw : w < 2) (hg : gv (1048576 + (1 + 1)) = a_i32 n) : ∀ (k s : Nat), s + k = 6 → CG gv kM_132 76 [some (aR 1), some (aB 1 2147483648 2147483711), some (aI w), some (aI 0), some (aI s)] [] k_HX (.inl (some (aI 0), k_HX))
  | 0, s, h => by
    have : s = 6 := by omega
    subst this
    exact CG_run (sb_132_76 (run_sound 100000)) (q_end_eq (q_all_at lo4 w hw))
  | k + 1, s, h => by
    have hs : s < 6 := by omega
    refine CG_bitI (i := 1) (b := 1) s rfl (by decide) (by omega) hn hg ?_
    refine CG_trans (CG_run (sb_132_76 (runS_sound (k_st_ok (by intro q hq; simp only [List.mem_cons, List.not_mem_nil, or_false] at hq; rcases hq with rfl | rfl <;> exact ⟨_, rfl⟩)) _)) (q_stop_eq (q_all_at (q_all_at (q_all_at lo3 w hw) s hs) _ (bit_lt n s)))) ?_
    exact CG_un (i := 1) rfl (by omega) (bit_lt n s) (loB hn hw hg k (s + 1) (by omega))
theorem loA {gv : Nat → Int32} {n w : Nat} (hn : n < 1024) (hw : w < 2) (hg : gv (1048576 + (1 + 1)) = a_i32 n) : ∀ (k s : Nat), s + k = 6 → CG gv kM_132 24 [some (aR 1), some (aB 1 2147483648 2147483711), some (aI w), some (aI 0), some (aI s)] [] k_HX (.inl (some (aI 0), k_HX))
  | 0, s, h => by
    have : s = 6 := by omega
    subst this
    refine CG_bitI (i := 1) (b := 1) 0 rfl (by decide) (by decide) hn hg ?_
    refine CG_trans (CG_run (sb_132_24 (runS_sound (k_st_ok (by intro q hq; simp only [List.mem_cons, List.not_mem_nil, or_false] at hq; rcases hq with rfl | rfl <;> exact ⟨_, rfl⟩)) _)) (q_stop_eq (q_all_at (q_all_at lo2 w hw) _ (bit_lt n 0)))) ?_
    exact CG_un (i := 1) rfl (by decide) (bit_lt n 0) (loB hn hw hg 5 1 rfl)
  | k + 1, s, h => by
    have hs : s < 6 := by omega
    refine CG_bitI (i := 1) (b := 1) s rfl (by decide) (by omega) hn hg ?_
    refine CG_trans (CG_run (sb_132_24 (runS_sound (k_st_ok (by intro q hq; simp only [List.mem_cons, List.not_mem_nil, or_false] at hq; rcases hq with rfl | rfl <;> exact ⟨_, rfl⟩)) _)) (q_stop_eq (q_all_at (q_all_at (q_all_at lo1 w hw) s hs) _ (bit_lt n s)))) ?_
    exact CG_un (i := 1) rfl (by omega) (bit_lt n s) (loA hn hw hg k (s + 1) (by omega))
theorem loE {gv : Nat → Int32} {n w : Nat} (hn : n < 1024) (hw : w < 2) (hg : gv (1048576 + (1 + 1)) = a_i32 n) : CG gv kM_132 0 [some (aR 1), some (aB 1 2147483648 2147483711), some (aI w), none, none] [] k_HX (.inl (some (aI 0), k_HX)) := by
    refine CG_bitI (i := 1) (b := 1) 0 rfl (by decide) (by decide) hn hg ?_
    refine CG_trans (CG_run (sb_132_0 (runS_sound (k_st_ok (by intro q hq; simp only [List.mem_cons, List.not_mem_nil, or_false] at hq; rcases hq with rfl | rfl <;> exact ⟨_, rfl⟩)) _)) (q_stop_eq (q_all_at (q_all_at lo0 w hw) _ (bit_lt n 0)))) ?_
    exact CG_un (i := 1) rfl (by decide) (bit_lt n 0) (loA hn hw hg 5 1 rfl)
set_option maxRecDepth 100000 in
theorem ff0 : q_all (fun d => q_stop 4 [some (aR 1), some (aU (a_tg 1 0 d) 2147483648 2147483711), some (aI 0), some (aI (0 + 1)), some (aI 16)] [] k_HM (mb_193_0 (a_runS k_BT (k_st [(148, 4)]) 10000) [some (aR 1), some (aU (a_tg 1 0 d) 2147483648 2147483711), none, none, none] [] k_HM)) 2 = true := by decide +kernel
set_option maxRecDepth 100000 in
theorem ff1 : q_all (fun s => q_all (fun d => q_stop 4 [some (aR 1), some (aU (a_tg 1 s d) 2147483648 2147483711), some (aI 0), some (aI (s + 1)), some (aI 16)] [] k_HM (mb_193_4 (a_runS k_BT (k_st [(148, 4)]) 10000) [some (aR 1), some (aU (a_tg 1 s d) 2147483648 2147483711), some (aI 0), some (aI s), some (aI 16)] [] k_HM)) 2) 6 = true := by decide +kernel
set_option maxRecDepth 100000 in
theorem ff2 : mb_193_4 (a_run k_BT 100000) [some (aR 1), some (aB 1 2147483648 2147483711), some (aI 0), some (aI 6), some (aI 16)] [] k_HM = some (.inl (some (aI 0), k_HM)) := q_end_eq (by decide +kernel)
theorem ffA {gv : Nat → Int32} {n : Nat} (hn : n < 1024) (hg : gv (1048576 + (1 + 1)) = a_i32 n) : ∀ (k s : Nat), s + k = 6 → CG gv kM_193 4 [some (aR 1), some (aB 1 2147483648 2147483711), some (aI 0), some (aI s), some (aI 16)] [] k_HM (.inl (some (aI 0), k_HM))
  | 0, s, h => by
    have : s = 6 := by omega
    subst this
    exact CG_run (sb_193_4 (run_sound 100000)) ff2
  | k + 1, s, h => by
    have hs : s < 6 := by omega
    refine CG_bitI (i := 1) (b := 1) s rfl (by decide) (by omega) hn hg ?_
    refine CG_trans (CG_run (sb_193_4 (runS_sound (k_st_ok (by intro q hq; simp only [List.mem_cons, List.not_mem_nil, or_false] at hq; subst hq <;> exact ⟨_, rfl⟩)) _)) (q_stop_eq (q_all_at (q_all_at ff1 s hs) _ (bit_lt n s)))) ?_
    exact CG_un (i := 1) rfl (by omega) (bit_lt n s) (ffA hn hg k (s + 1) (by omega))
theorem ffE {gv : Nat → Int32} {n : Nat} (hn : n < 1024) (hg : gv (1048576 + (1 + 1)) = a_i32 n) : CG gv kM_193 0 [some (aR 1), some (aB 1 2147483648 2147483711), none, none, none] [] k_HM (.inl (some (aI 0), k_HM)) := by
    refine CG_bitI (i := 1) (b := 1) 0 rfl (by decide) (by decide) hn hg ?_
    refine CG_trans (CG_run (sb_193_0 (runS_sound (k_st_ok (by intro q hq; simp only [List.mem_cons, List.not_mem_nil, or_false] at hq; subst hq <;> exact ⟨_, rfl⟩)) _)) (q_stop_eq (q_all_at ff0 _ (bit_lt n 0)))) ?_
    exact CG_un (i := 1) rfl (by decide) (bit_lt n 0) (ffA hn hg 5 1 rfl)
set_option maxRecDepth 100000 in
theorem be21_0 : q_all (fun w => q_stop 3 [some (aR 1), some (aB 1 2147483648 2147483711), some (aI w), none] [aI w, aB 1 2147483648 2147483711, aR 1] k_HX (mz_133_0 (a_run k_BT 100000) [some (aR 1), some (aB 1 2147483648 2147483711), some (aI w), none] [] k_HX)) 2 = true := by decide +kernel
set_option maxRecDepth 100000 in
theorem be21_1 : q_all (fun w => q_1 0 105 Z_X (mb_133_6 (a_run k_BT 100000) [some (aR 1), some (aB 1 2147483648 2147483711), some (aI w), none] [aI 0] k_HX)) 2 = true := by decide +kernel
theorem beX21 {gv : Nat → Int32} {n w : Nat} (hn : n < 1024) (hw : w < 2) (hg : gv (1048576 + (1 + 1)) = a_i32 n) (hn6 : n < 64) : SideX kM_133 [none] gv [a_i32 n, a_i32 w] 0 := by
  obtain ⟨h1, c1, c2, c3⟩ := q_1_ex (q_all_at be21_1 w hw)
  refine ⟨_, k_HX, h1, [aB 1 2147483648 2147483711, aI w], TrX_id _, fun ad => ⟨vB_set6 hn6 hg, ⟨by omega, rfl⟩, trivial⟩, c2, c3, ?_⟩
  refine CG_trans (CG_run (sz_133_0 (run_sound 100000)) (q_stop_eq (q_all_at be21_0 w hw))) ?_
  exact CG_call (As := [aR 1, aB 1 2147483648 2147483711, aI w]) (S' := []) kcf_132 (by decide +kernel) pk_133_3 rfl rfl (by decide +kernel) ⟨0, _, _, rfl, rfl⟩ (loE hn hw hg) (CG_run (sb_133_6 (run_sound 100000)) c1)
set_option maxRecDepth 100000 in
theorem be22_0 : q_all (fun w => q_stop 3 [some (aR 1), some (aB 1 2147483648 2147483711), some (aI w), none, none] [aI w, aB 1 2147483648 2147483711, aR 1] k_HX (mz_134_0 (a_run k_BT 100000) [some (aR 1), some (aB 1 2147483648 2147483711), some (aI w), none, none] [] k_HX)) 2 = true := by decide +kernel
set_option maxRecDepth 100000 in
theorem be22_1 : q_all (fun w => q_1 4294967292 105 Z_X (mb_134_6 (a_run k_BT 100000) [some (aR 1), some (aB 1 2147483648 2147483711), some (aI w), none, none] [aI 0] k_HX)) 2 = true := by decide +kernel
theorem beX22 {gv : Nat → Int32} {n w : Nat} (hn : n < 1024) (hw : w < 2) (hg : gv (1048576 + (1 + 1)) = a_i32 n) (hn6 : n < 64) : SideX kM_134 [none, none] gv [a_i32 n, a_i32 w] 4294967292 := by
  obtain ⟨h1, c1, c2, c3⟩ := q_1_ex (q_all_at be22_1 w hw)
  refine ⟨_, k_HX, h1, [aB 1 2147483648 2147483711, aI w], TrX_id _, fun ad => ⟨vB_set6 hn6 hg, ⟨by omega, rfl⟩, trivial⟩, c2, c3, ?_⟩
  refine CG_trans (CG_run (sz_134_0 (run_sound 100000)) (q_stop_eq (q_all_at be22_0 w hw))) ?_
  exact CG_call (As := [aR 1, aB 1 2147483648 2147483711, aI w]) (S' := []) kcf_132 (by decide +kernel) pk_134_3 rfl rfl (by decide +kernel) ⟨0, _, _, rfl, rfl⟩ (loE hn hw hg) (CG_run (sb_134_6 (run_sound 100000)) c1)
set_option maxRecDepth 100000 in
theorem bm_0 : q_all (fun w => q_stop 23 [some (aR 1), some (aB 1 2147483648 2147483711), some (aI w), none] [aB 1 2147483648 2147483711, aR 1] k_HM (mz_196_0 (a_run k_BT 100000) [some (aR 1), some (aB 1 2147483648 2147483711), some (aI w), none] [] k_HM)) 2 = true := by decide +kernel
set_option maxRecDepth 100000 in
theorem bm_1 : q_all (fun w => q_end (some (aI 0)) k_HM (mb_196_26 (a_run k_BT 100000) [some (aR 1), some (aB 1 2147483648 2147483711), some (aI w), none] [aI 0] k_HM)) 2 = true := by decide +kernel
theorem bmC {gv : Nat → Int32} {n w : Nat} (hn : n < 1024) (hw : w < 2) (hg : gv (1048576 + (1 + 1)) = a_i32 n) : CG gv kM_196 0 [some (aR 1), some (aB 1 2147483648 2147483711), some (aI w), none] [] k_HM (.inl (some (aI 0), k_HM)) := by
  refine CG_trans (CG_run (sz_196_0 (run_sound 100000)) (q_stop_eq (q_all_at bm_0 w hw))) ?_
  exact CG_call (As := [aR 1, aB 1 2147483648 2147483711]) (S' := []) kcf_193 (by decide +kernel) pk_196_23 rfl rfl (by decide +kernel) ⟨0, _, _, rfl, rfl⟩ (ffE hn hg) (CG_run (sb_196_26 (run_sound 100000)) (q_end_eq (q_all_at bm_1 w hw)))
theorem beM21 {gv : Nat → Int32} {n w : Nat} (hn : n < 1024) (hw : w < 2) (hg : gv (1048576 + (1 + 1)) = a_i32 n) (hn6 : n < 64) : SideM kM_196 [none] gv [a_i32 n, a_i32 w] 0 :=
  ⟨k_HM, [aB 1 2147483648 2147483711, aI w], fun ad => ⟨vB_set6 hn6 hg, ⟨by omega, rfl⟩, trivial⟩, by decide +kernel, by decide +kernel, bmC hn hw hg⟩
set_option maxRecDepth 100000 in
theorem bt_0 : q_all (fun w => q_stop 3 [some (aR 1), some (aB 1 2147483648 2147483711), some (aI w), none, none, none, none] [aI w, aB 1 2147483648 2147483711, aR 1] k_HM (mz_197_0 (a_run k_BT 100000) [some (aR 1), some (aB 1 2147483648 2147483711), some (aI w), none, none, none, none] [] k_HM)) 2 = true := by decide +kernel
set_option maxRecDepth 100000 in
theorem bt_1 : q_all (fun w => q_stop 15 [some (aR 1), some (aB 1 2147483648 2147483711), some (aI w), some (aI 0), none, none, none] [aB 1 2147483648 2147483711, aR 1] k_HM (mz_197_6 (a_run k_BT 100000) [some (aR 1), some (aB 1 2147483648 2147483711), some (aI w), none, none, none, none] [aI 0] k_HM)) 2 = true := by decide +kernel
set_option maxRecDepth 100000 in
theorem bt_2 : q_all (fun w => q_1 4294967292 35 Z_M (mb_197_18 (a_run k_BT 100000) [some (aR 1), some (aB 1 2147483648 2147483711), some (aI w), some (aI 0), none, none, none] [aI 0] k_HM)) 2 = true := by decide +kernel
theorem beM22 {gv : Nat → Int32} {n w : Nat} (hn : n < 1024) (hw : w < 2) (hg : gv (1048576 + (1 + 1)) = a_i32 n) (hn6 : n < 64) : SideM kM_197 [none, none, none, none] gv [a_i32 n, a_i32 w] 4294967292 := by
  obtain ⟨h1, c1, c2, c3⟩ := q_1_ex (q_all_at bt_2 w hw)
  refine ⟨h1, [aB 1 2147483648 2147483711, aI w], fun ad => ⟨vB_set6 hn6 hg, ⟨by omega, rfl⟩, trivial⟩, c2, c3, ?_⟩
  refine CG_trans (CG_run (sz_197_0 (run_sound 100000)) (q_stop_eq (q_all_at bt_0 w hw))) ?_
  refine CG_call (As := [aR 1, aB 1 2147483648 2147483711, aI w]) (S' := []) kcf_196 (by decide +kernel) pk_197_3 rfl rfl (by decide +kernel) ⟨0, _, _, rfl, rfl⟩ (bmC hn hw hg) ?_
  refine CG_trans (CG_run (sz_197_6 (run_sound 100000)) (q_stop_eq (q_all_at bt_1 w hw))) ?_
  exact CG_call (As := [aR 1, aB 1 2147483648 2147483711]) (S' := []) kcf_193 (by decide +kernel) pk_197_15 rfl rfl (by decide +kernel) ⟨0, _, _, rfl, rfl⟩ (ffE hn hg) (CG_run (sb_197_18 (run_sound 100000)) c1)
set_option maxRecDepth 100000 in
theorem e21_0l : (q_1 4294967295 105 Z_X (cX_21 k_HX (aU 0 0 2147483647) (aU 0 0 4294967295)) && q_1 4294967295 35 Z_M (cM_21 k_HM (aU 0 0 2147483647) (aU 0 0 4294967295))) = true := by decide +kernel
set_option maxRecDepth 100000 in
theorem e21_0h : (q_1 4294967295 105 Z_X (cX_21 k_HX (aU 0 2147483712 4294967295) (aU 0 0 4294967295)) && q_1 4294967295 35 Z_M (cM_21 k_HM (aU 0 2147483712 4294967295) (aU 0 0 4294967295))) = true := by decide +kernel
set_option maxRecDepth 100000 in
theorem e21_1l : (q_1 4294967295 105 Z_X (cX_21 k_HX (aU 0 2147483648 2147483711) (aU 0 0 2147483647)) && q_1 4294967295 35 Z_M (cM_21 k_HM (aU 0 2147483648 2147483711) (aU 0 0 2147483647))) = true := by decide +kernel
set_option maxRecDepth 100000 in
theorem e21_1h : (q_1 4294967295 105 Z_X (cX_21 k_HX (aU 0 2147483648 2147483711) (aU 0 2147483650 4294967295)) && q_1 4294967295 35 Z_M (cM_21 k_HM (aU 0 2147483648 2147483711) (aU 0 2147483650 4294967295))) = true := by decide +kernel
set_option maxRecDepth 20000 in
theorem op_21 (xa xb : Int32) : OP_21 [xa, xb] := by
  rcases i_box xa 64 (by decide) with ⟨ma, ha, rfl⟩ | ha | ha
  rotate_left
  · exact ⟨fun _ => 0, 4294967295, SideX_of [(aU 0 0 2147483647), (aU 0 0 4294967295)] (sb_133_0 (run_sound 1000000)) (TrX_id _) (fun ad => ⟨vU_bd (Nat.zero_le _) ha, vU_any _, trivial⟩) (and_t e21_0l).1, SideM_of [(aU 0 0 2147483647), (aU 0 0 4294967295)] (sb_196_0 (run_sound 1000000)) (fun ad => ⟨vU_bd (Nat.zero_le _) ha, vU_any _, trivial⟩) (and_t e21_0l).2⟩
  · exact ⟨fun _ => 0, 4294967295, SideX_of [(aU 0 2147483712 4294967295), (aU 0 0 4294967295)] (sb_133_0 (run_sound 1000000)) (TrX_id _) (fun ad => ⟨vU_bd ha (a_bs_max _), vU_any _, trivial⟩) (and_t e21_0h).1, SideM_of [(aU 0 2147483712 4294967295), (aU 0 0 4294967295)] (sb_196_0 (run_sound 1000000)) (fun ad => ⟨vU_bd ha (a_bs_max _), vU_any _, trivial⟩) (and_t e21_0h).2⟩
  rcases i_box xb 2 (by decide) with ⟨mb, hb, rfl⟩ | hb | hb
  rotate_left
  · exact ⟨fun _ => 0, 4294967295, SideX_of [(aU 0 2147483648 2147483711), (aU 0 0 2147483647)] (sb_133_0 (run_sound 1000000)) (TrX_id _) (fun ad => ⟨vU_in (n := 64) ha (by decide), vU_bd (Nat.zero_le _) hb, trivial⟩) (and_t e21_1l).1, SideM_of [(aU 0 2147483648 2147483711), (aU 0 0 2147483647)] (sb_196_0 (run_sound 1000000)) (fun ad => ⟨vU_in (n := 64) ha (by decide), vU_bd (Nat.zero_le _) hb, trivial⟩) (and_t e21_1l).2⟩
  · exact ⟨fun _ => 0, 4294967295, SideX_of [(aU 0 2147483648 2147483711), (aU 0 2147483650 4294967295)] (sb_133_0 (run_sound 1000000)) (TrX_id _) (fun ad => ⟨vU_in (n := 64) ha (by decide), vU_bd hb (a_bs_max _), trivial⟩) (and_t e21_1h).1, SideM_of [(aU 0 2147483648 2147483711), (aU 0 2147483650 4294967295)] (sb_196_0 (run_sound 1000000)) (fun ad => ⟨vU_in (n := 64) ha (by decide), vU_bd hb (a_bs_max _), trivial⟩) (and_t e21_1h).2⟩
  exact ⟨k_gl (a_i32 ma) 0, _, beX21 (by omega) hb rfl ha, beM21 (by omega) hb rfl ha⟩
set_option maxRecDepth 100000 in
theorem e22_0l : (q_1 4294967295 105 Z_X (cX_22 k_HX (aU 0 0 2147483647) (aU 0 0 4294967295)) && q_1 4294967295 35 Z_M (cM_22 k_HM (aU 0 0 2147483647) (aU 0 0 4294967295))) = true := by decide +kernel
set_option maxRecDepth 100000 in
theorem e22_0h : (q_1 4294967295 105 Z_X (cX_22 k_HX (aU 0 2147483712 4294967295) (aU 0 0 4294967295)) && q_1 4294967295 35 Z_M (cM_22 k_HM (aU 0 2147483712 4294967295) (aU 0 0 4294967295))) = true := by decide +kernel
set_option maxRecDepth 100000 in
theorem e22_1l : (q_1 4294967295 105 Z_X (cX_22 k_HX (aU 0 2147483648 2147483711) (aU 0 0 2147483647)) && q_1 4294967295 35 Z_M (cM_22 k_HM (aU 0 2147483648 2147483711) (aU 0 0 2147483647))) = true := by decide +kernel
set_option maxRecDepth 100000 in
theorem e22_1h : (q_1 4294967295 105 Z_X (cX_22 k_HX (aU 0 2147483648 2147483711) (aU 0 2147483650 4294967295)) && q_1 4294967295 35 Z_M (cM_22 k_HM (aU 0 2147483648 2147483711) (aU 0 2147483650 4294967295))) = true := by decide +kernel
set_option maxRecDepth 20000 in
theorem op_22 (xa xb : Int32) : OP_22 [xa, xb] := by
  rcases i_box xa 64 (by decide) with ⟨ma, ha, rfl⟩ | ha | ha
  rotate_left
  · exact ⟨fun _ => 0, 4294967295, SideX_of [(aU 0 0 2147483647), (aU 0 0 4294967295)] (sb_134_0 (run_sound 1000000)) (TrX_id _) (fun ad => ⟨vU_bd (Nat.zero_le _) ha, vU_any _, trivial⟩) (and_t e22_0l).1, SideM_of [(aU 0 0 2147483647), (aU 0 0 4294967295)] (sb_197_0 (run_sound 1000000)) (fun ad => ⟨vU_bd (Nat.zero_le _) ha, vU_any _, trivial⟩) (and_t e22_0l).2⟩
  · exact ⟨fun _ => 0, 4294967295, SideX_of [(aU 0 2147483712 4294967295), (aU 0 0 4294967295)] (sb_134_0 (run_sound 1000000)) (TrX_id _) (fun ad => ⟨vU_bd ha (a_bs_max _), vU_any _, trivial⟩) (and_t e22_0h).1, SideM_of [(aU 0 2147483712 4294967295), (aU 0 0 4294967295)] (sb_197_0 (run_sound 1000000)) (fun ad => ⟨vU_bd ha (a_bs_max _), vU_any _, trivial⟩) (and_t e22_0h).2⟩
  rcases i_box xb 2 (by decide) with ⟨mb, hb, rfl⟩ | hb | hb
  rotate_left
  · exact ⟨fun _ => 0, 4294967295, SideX_of [(aU 0 2147483648 2147483711), (aU 0 0 2147483647)] (sb_134_0 (run_sound 1000000)) (TrX_id _) (fun ad => ⟨vU_in (n := 64) ha (by decide), vU_bd (Nat.zero_le _) hb, trivial⟩) (and_t e22_1l).1, SideM_of [(aU 0 2147483648 2147483711), (aU 0 0 2147483647)] (sb_197_0 (run_sound 1000000)) (fun ad => ⟨vU_in (n := 64) ha (by decide), vU_bd (Nat.zero_le _) hb, trivial⟩) (and_t e22_1l).2⟩
  · exact ⟨fun _ => 0, 4294967295, SideX_of [(aU 0 2147483648 2147483711), (aU 0 2147483650 4294967295)] (sb_134_0 (run_sound 1000000)) (TrX_id _) (fun ad => ⟨vU_in (n := 64) ha (by decide), vU_bd hb (a_bs_max _), trivial⟩) (and_t e22_1h).1, SideM_of [(aU 0 2147483648 2147483711), (aU 0 2147483650 4294967295)] (sb_197_0 (run_sound 1000000)) (fun ad => ⟨vU_in (n := 64) ha (by decide), vU_bd hb (a_bs_max _), trivial⟩) (and_t e22_1h).2⟩
  exact ⟨k_gl (a_i32 ma) 0, _, beX22 (by omega) hb rfl ha, beM22 (by omega) hb rfl ha⟩
