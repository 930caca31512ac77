/-! ===== the blocks are sound ===== -/
set_option maxRecDepth 20000 in
theorem sb_165_15 {j : AJ} (hj : SJ j) : Sound kM_165 15 (mb_165_15 j) := by
  unfold mb_165_15
  exact so_retz (by decide +kernel) rfl
set_option maxRecDepth 20000 in
theorem sb_165_14 {j : AJ} (hj : SJ j) : Sound kM_165 14 (mb_165_14 j) := by
  unfold mb_165_14
  exact so_iconst (i := 0) (by decide +kernel) (by decide +kernel) (by decide) (sb_165_15 hj)
set_option maxRecDepth 20000 in
theorem sb_165_0 {j : AJ} (hj : SJ j) : Sound kM_165 0 (mb_165_0 j) := by
  unfold mb_165_0
  exact so_iload_n (f := 0) (by decide +kernel) rfl (so_if (off := 13) (tgt := 14) (by decide +kernel) (by decide) rfl (sb_165_14 hj) (so_iload_n (f := 0) (by decide +kernel) rfl (so_bipush (i := 10) (by decide +kernel) (by decide +kernel) (by decide) (so_icmp (off := 7) (tgt := 14) (by decide +kernel) (by decide) rfl (sb_165_14 hj) (so_iconst (i := 1) (by decide +kernel) (by decide +kernel) (by decide) (so_goto (off := 4) (tgt := 15) (by decide +kernel) (by decide) (sb_165_15 hj)))))))
set_option maxRecDepth 20000 in
theorem sc_166_111 {j : AJ} (hj : SJ j) : Sound kM_166 111 (mc_166_111 j) := by
  unfold mc_166_111
  exact so_retv (by decide +kernel) rfl
set_option maxRecDepth 20000 in
theorem sb_166_111 {j : AJ} (hj : SJ j) : Sound kM_166 111 (mb_166_111 j) := by
  refine so_weak (sc_166_111 hj) (fun L S h r q0 => ?_)
  obtain ⟨c0, L0_, rfl, q1⟩ := w_C_some q0
  obtain ⟨i1, L1_, rfl, q2⟩ := w_I_some q1
  obtain ⟨i2, L2_, rfl, q3⟩ := w_I_some q2
  obtain ⟨i3, L3_, rfl, q4⟩ := w_I_some q3
  obtain ⟨x4, L4_, rfl, q5⟩ := w_X_some q4
  obtain ⟨rfl, q6⟩ := w_0_some q5
  obtain ⟨rfl, q7⟩ := a_nil_some q6
  exact q7
set_option maxRecDepth 20000 in
theorem sc_166_105 {j : AJ} (hj : SJ j) : Sound kM_166 105 (mc_166_105 j) := by
  unfold mc_166_105
  exact so_iinc (z := 1) (by decide +kernel) (by decide +kernel) (by decide) (by decide +kernel) (so_goto (off := -106) (tgt := 2) (by decide +kernel) (by decide) (hj 111 _ _ rfl))
set_option maxRecDepth 20000 in
theorem sb_166_105 {j : AJ} (hj : SJ j) : Sound kM_166 105 (mb_166_105 j) := by
  refine so_weak (sc_166_105 hj) (fun L S h r q0 => ?_)
  obtain ⟨c0, L0_, rfl, q1⟩ := w_C_some q0
  obtain ⟨i1, L1_, rfl, q2⟩ := w_I_some q1
  obtain ⟨i2, L2_, rfl, q3⟩ := w_I_some q2
  obtain ⟨i3, L3_, rfl, q4⟩ := w_I_some q3
  obtain ⟨i4, L4_, rfl, q5⟩ := w_I_some q4
  obtain ⟨rfl, q6⟩ := w_0_some q5
  obtain ⟨rfl, q7⟩ := a_nil_some q6
  exact q7
set_option maxRecDepth 20000 in
theorem sc_166_64 {j : AJ} (hj : SJ j) : Sound kM_166 64 (mc_166_64 j) := by
  unfold mc_166_64
  exact so_iload (by decide +kernel) (so_if (off := 39) (tgt := 105) (by decide +kernel) (by decide) rfl (sb_166_105 hj) (so_aload_n (f := 0) (by decide +kernel) rfl (so_get (C := RX9) (T := TX9) (N := 38) (by decide +kernel) rfl kin_9 (by decide) kw_460 (b := true) rfl (fun _ => rfl) (so_aload_n (f := 0) (by decide +kernel) rfl (so_get (C := RX9) (T := TX9) (N := 38) (by decide +kernel) rfl kin_9 (by decide) kw_499 (b := false) rfl (fun _ => rfl) (so_aload_n (f := 0) (by decide +kernel) rfl (so_get (C := RX9) (T := TX9) (N := 38) (by decide +kernel) rfl kin_9 (by decide) kw_466 (b := true) rfl (fun _ => rfl) (so_iload_n (f := 1) (by decide +kernel) rfl (so_iconst (i := 1) (by decide +kernel) (by decide +kernel) (by decide) (so_iload_n (f := 3) (by decide +kernel) rfl (so_ishl (by decide +kernel) (so_iconst (i := 1) (by decide +kernel) (by decide +kernel) (by decide) (so_iload (by decide +kernel) (so_ishl (by decide +kernel) (so_ior (by decide +kernel) (so_iconst (i := -1) (by decide +kernel) (by decide +kernel) (by decide) (so_ixor (by decide +kernel) (so_iand (by decide +kernel) (so_iald (by decide +kernel) (so_iast (by decide +kernel) (so_aload_n (f := 0) (by decide +kernel) rfl (so_dup (by decide +kernel) (so_get (C := RX9) (T := TX9) (N := 38) (by decide +kernel) rfl kin_9 (by decide) kw_499 (b := false) rfl (fun _ => rfl) (so_iconst (i := 1) (by decide +kernel) (by decide +kernel) (by decide) (so_iadd (by decide +kernel) (so_putI (C := RX9) (T := TX9) (N := 38) (ty0 := tyX9) (by decide +kernel) rfl kin_9 tyX9_ok nmX9 (by decide) kw_499 rfl rfl rfl (sb_166_105 hj)))))))))))))))))))))))))))
set_option maxRecDepth 20000 in
theorem sb_166_64 {j : AJ} (hj : SJ j) : Sound kM_166 64 (mb_166_64 j) := by
  refine so_weak (sc_166_64 hj) (fun L S h r q0 => ?_)
  obtain ⟨c0, L0_, rfl, q1⟩ := w_C_some q0
  obtain ⟨i1, L1_, rfl, q2⟩ := w_I_some q1
  obtain ⟨i2, L2_, rfl, q3⟩ := w_I_some q2
  obtain ⟨i3, L3_, rfl, q4⟩ := w_I_some q3
  obtain ⟨i4, L4_, rfl, q5⟩ := w_I_some q4
  obtain ⟨rfl, q6⟩ := w_0_some q5
  obtain ⟨rfl, q7⟩ := a_nil_some q6
  exact q7
set_option maxRecDepth 20000 in
theorem sc_166_2 {j : AJ} (hj : SJ j) : Sound kM_166 2 (mc_166_2 j) := by
  unfold mc_166_2
  exact so_iload_n (f := 3) (by decide +kernel) rfl (so_bipush (i := 16) (by decide +kernel) (by decide +kernel) (by decide) (so_icmp (off := 106) (tgt := 111) (by decide +kernel) (by decide) rfl (sb_166_111 hj) (so_iload_n (f := 1) (by decide +kernel) rfl (so_iload_n (f := 3) (by decide +kernel) rfl (so_iload_n (f := 2) (by decide +kernel) rfl (so_weak (so_callS (by decide +kernel) kcf_143 rfl kw_484 kw_485 (by decide +kernel) (sb_143_0 hj) (so_istore (by decide +kernel) (by decide +kernel) (so_iload (by decide +kernel) (so_if (off := 46) (tgt := 64) (by decide +kernel) (by decide) rfl (sb_166_64 hj) (so_iload_n (f := 2) (by decide +kernel) rfl (so_if (off := 42) (tgt := 64) (by decide +kernel) (by decide) rfl (sb_166_64 hj) (so_aload_n (f := 0) (by decide +kernel) rfl (so_get (C := RX9) (T := TX9) (N := 38) (by decide +kernel) rfl kin_9 (by decide) kw_459 (b := true) rfl (fun _ => rfl) (so_aload_n (f := 0) (by decide +kernel) rfl (so_get (C := RX9) (T := TX9) (N := 38) (by decide +kernel) rfl kin_9 (by decide) kw_495 (b := false) rfl (fun _ => rfl) (so_aload_n (f := 0) (by decide +kernel) rfl (so_get (C := RX9) (T := TX9) (N := 38) (by decide +kernel) rfl kin_9 (by decide) kw_466 (b := true) rfl (fun _ => rfl) (so_iload_n (f := 1) (by decide +kernel) rfl (so_iconst (i := 1) (by decide +kernel) (by decide +kernel) (by decide) (so_iload_n (f := 3) (by decide +kernel) rfl (so_ishl (by decide +kernel) (so_iconst (i := 1) (by decide +kernel) (by decide +kernel) (by decide) (so_iload (by decide +kernel) (so_ishl (by decide +kernel) (so_ior (by decide +kernel) (so_iconst (i := -1) (by decide +kernel) (by decide +kernel) (by decide) (so_ixor (by decide +kernel) (so_iand (by decide +kernel) (so_iald (by decide +kernel) (so_iast (by decide +kernel) (so_aload_n (f := 0) (by decide +kernel) rfl (so_dup (by decide +kernel) (so_get (C := RX9) (T := TX9) (N := 38) (by decide +kernel) rfl kin_9 (by decide) kw_495 (b := false) rfl (fun _ => rfl) (so_iconst (i := 1) (by decide +kernel) (by decide +kernel) (by decide) (so_iadd (by decide +kernel) (so_putI (C := RX9) (T := TX9) (N := 38) (ty0 := tyX9) (by decide +kernel) rfl kin_9 tyX9_ok nmX9 (by decide) kw_495 rfl rfl rfl (so_goto (off := 44) (tgt := 105) (by decide +kernel) (by decide) (sb_166_105 hj))))))))))))))))))))))))))))))))) (callE_imp BK_I)))))))
set_option maxRecDepth 20000 in
theorem sb_166_2 {j : AJ} (hj : SJ j) : Sound kM_166 2 (mb_166_2 j) := by
  refine so_weak (sc_166_2 hj) (fun L S h r q0 => ?_)
  obtain ⟨c0, L0_, rfl, q1⟩ := w_C_some q0
  obtain ⟨i1, L1_, rfl, q2⟩ := w_I_some q1
  obtain ⟨i2, L2_, rfl, q3⟩ := w_I_some q2
  obtain ⟨i3, L3_, rfl, q4⟩ := w_I_some q3
  obtain ⟨x4, L4_, rfl, q5⟩ := w_X_some q4
  obtain ⟨rfl, q6⟩ := w_0_some q5
  obtain ⟨rfl, q7⟩ := a_nil_some q6
  exact q7
set_option maxRecDepth 20000 in
theorem sc_166_0 {j : AJ} (hj : SJ j) : Sound kM_166 0 (mc_166_0 j) := by
  unfold mc_166_0
  exact so_iconst (i := 0) (by decide +kernel) (by decide +kernel) (by decide) (so_istore_n (f := 3) (by decide +kernel) rfl (by decide +kernel) (sb_166_2 hj))
set_option maxRecDepth 20000 in
theorem sb_166_0 {j : AJ} (hj : SJ j) : Sound kM_166 0 (mb_166_0 j) := by
  refine so_weak (sc_166_0 hj) (fun L S h r q0 => ?_)
  obtain ⟨c0, L0_, rfl, q1⟩ := w_C_some q0
  obtain ⟨i1, L1_, rfl, q2⟩ := w_I_some q1
  obtain ⟨i2, L2_, rfl, q3⟩ := w_I_some q2
  obtain ⟨L3_, rfl, q4⟩ := w_N_some q3
  obtain ⟨L4_, rfl, q5⟩ := w_N_some q4
  obtain ⟨rfl, q6⟩ := w_0_some q5
  obtain ⟨rfl, q7⟩ := a_nil_some q6
  exact q7
set_option maxRecDepth 20000 in
theorem sb_167_208 {j : AJ} (hj : SJ j) : Sound kM_167 208 (mb_167_208 j) := by
  unfold mb_167_208
  exact so_aload_n (f := 0) (by decide +kernel) rfl (so_aload_n (f := 0) (by decide +kernel) rfl (so_get (C := RX9) (T := TX9) (N := 38) (by decide +kernel) rfl kin_9 (by decide) kw_466 (b := true) rfl (fun _ => rfl) (so_iload_n (f := 3) (by decide +kernel) rfl (so_ialdU (by decide +kernel) (so_iload_n (f := 2) (by decide +kernel) rfl (so_callV (C := RX9) (T := TX9) (N0 := 38) (by decide +kernel) kcf_164 rfl rfl rfl kw_531 kw_532 kw_533 (by decide +kernel) (sb_164_0 hj) (so_reti (by decide +kernel) rfl)))))))
set_option maxRecDepth 20000 in
theorem sb_167_202 {j : AJ} (hj : SJ j) : Sound kM_167 202 (mb_167_202 j) := by
  unfold mb_167_202
  exact so_iincU (z := 1) (by decide +kernel) (by decide +kernel) (by decide) (by decide +kernel) (so_goto (off := -48) (tgt := 157) (by decide +kernel) (by decide) (hj 115 _ _ rfl))
set_option maxRecDepth 20000 in
theorem sb_167_157 {j : AJ} (hj : SJ j) : Sound kM_167 157 (mb_167_157 j) := by
  unfold mb_167_157
  exact so_iload (by decide +kernel) (so_iload_n (f := 3) (by decide +kernel) rfl (so_icmp (off := 48) (tgt := 208) (by decide +kernel) (by decide) rfl (sb_167_208 hj) (so_aload_n (f := 0) (by decide +kernel) rfl (so_get (C := RX9) (T := TX9) (N := 38) (by decide +kernel) rfl kin_9 (by decide) kw_466 (b := true) rfl (fun _ => rfl) (so_iload (by decide +kernel) (so_ialdU (by decide +kernel) (so_if (off := 32) (tgt := 202) (by decide +kernel) (by decide) rfl (sb_167_202 hj) (so_aload_n (f := 0) (by decide +kernel) rfl (so_callV (C := RX9) (T := TX9) (N0 := 38) (by decide +kernel) kcf_161 rfl rfl rfl kw_525 kw_526 kw_527 (by decide +kernel) (sb_161_0 hj) (so_aload_n (f := 0) (by decide +kernel) rfl (so_iload (by decide +kernel) (so_iconst (i := 0) (by decide +kernel) (by decide +kernel) (by decide) (so_callV (C := RX9) (T := TX9) (N0 := 38) (by decide +kernel) kcf_166 rfl rfl rfl kw_534 kw_535 kw_536 (by decide +kernel) (sb_166_0 hj) (so_aload_n (f := 0) (by decide +kernel) rfl (so_iload (by decide +kernel) (so_iconst (i := 1) (by decide +kernel) (by decide +kernel) (by decide) (so_callV (C := RX9) (T := TX9) (N0 := 38) (by decide +kernel) kcf_166 rfl rfl rfl kw_534 kw_535 kw_536 (by decide +kernel) (sb_166_0 hj) (so_aload_n (f := 0) (by decide +kernel) rfl (so_get (C := RX9) (T := TX9) (N := 38) (by decide +kernel) rfl kin_9 (by decide) kw_466 (b := true) rfl (fun _ => rfl) (so_iload (by decide +kernel) (so_aload_n (f := 0) (by decide +kernel) rfl (so_callV (C := RX9) (T := TX9) (N0 := 38) (by decide +kernel) kcf_160 rfl rfl rfl kw_528 kw_529 kw_530 (by decide +kernel) (sb_160_0 hj) (so_iastU (by decide +kernel) (sb_167_202 hj))))))))))))))))))))))))
set_option maxRecDepth 20000 in
theorem sb_167_154 {j : AJ} (hj : SJ j) : Sound kM_167 154 (mb_167_154 j) := by
  unfold mb_167_154
  exact so_iconst (i := 0) (by decide +kernel) (by decide +kernel) (by decide) (so_istore (by decide +kernel) (by decide +kernel) (sb_167_157 hj))
set_option maxRecDepth 20000 in
theorem sb_167_148 {j : AJ} (hj : SJ j) : Sound kM_167 148 (mb_167_148 j) := by
  unfold mb_167_148
  exact so_iincU (z := -1) (by decide +kernel) (by decide +kernel) (by decide) (by decide +kernel) (so_goto (off := -76) (tgt := 75) (by decide +kernel) (by decide) (hj 114 _ _ rfl))
set_option maxRecDepth 20000 in
theorem sb_167_142 {j : AJ} (hj : SJ j) : Sound kM_167 142 (mb_167_142 j) := by
  unfold mb_167_142
  exact so_iincU (z := 1) (by decide +kernel) (by decide +kernel) (by decide) (by decide +kernel) (so_goto (off := -62) (tgt := 83) (by decide +kernel) (by decide) (hj 113 _ _ rfl))
set_option maxRecDepth 20000 in
theorem sb_167_83 {j : AJ} (hj : SJ j) : Sound kM_167 83 (mb_167_83 j) := by
  unfold mb_167_83
  exact so_iload (by decide +kernel) (so_bipush (i := 32) (by decide +kernel) (by decide +kernel) (by decide) (so_icmp (off := 61) (tgt := 148) (by decide +kernel) (by decide) rfl (sb_167_148 hj) (so_aload_n (f := 0) (by decide +kernel) rfl (so_get (C := RX9) (T := TX9) (N := 38) (by decide +kernel) rfl kin_9 (by decide) kw_466 (b := true) rfl (fun _ => rfl) (so_iload (by decide +kernel) (so_ialdU (by decide +kernel) (so_if (off := 51) (tgt := 148) (by decide +kernel) (by decide) rfl (sb_167_148 hj) (so_iload (by decide +kernel) (so_iload (by decide +kernel) (so_iconst (i := 2) (by decide +kernel) (by decide +kernel) (by decide) (so_idiv (by decide +kernel) (so_iload (by decide +kernel) (so_iconst (i := 2) (by decide +kernel) (by decide +kernel) (by decide) (so_irem (by decide +kernel) (so_callS (by decide +kernel) kcf_143 rfl kw_484 kw_485 (by decide +kernel) (sb_143_0 hj) (so_istore (by decide +kernel) (by decide +kernel) (so_iload (by decide +kernel) (so_if (off := 25) (tgt := 142) (by decide +kernel) (by decide) rfl (sb_167_142 hj) (so_aload_n (f := 0) (by decide +kernel) rfl (so_get (C := RX9) (T := TX9) (N := 38) (by decide +kernel) rfl kin_9 (by decide) kw_466 (b := true) rfl (fun _ => rfl) (so_iload (by decide +kernel) (so_iconst (i := 1) (by decide +kernel) (by decide +kernel) (by decide) (so_iload (by decide +kernel) (so_iconst (i := 2) (by decide +kernel) (by decide +kernel) (by decide) (so_idiv (by decide +kernel) (so_ishl (by decide +kernel) (so_iconst (i := 1) (by decide +kernel) (by decide +kernel) (by decide) (so_iload (by decide +kernel) (so_ishl (by decide +kernel) (so_ior (by decide +kernel) (so_iconst (i := -1) (by decide +kernel) (by decide +kernel) (by decide) (so_ixor (by decide +kernel) (so_iand (by decide +kernel) (so_iconst (i := 0) (by decide +kernel) (by decide +kernel) (by decide) (so_iastU (by decide +kernel) (sb_167_142 hj))))))))))))))))))))))))))))))))))))
set_option maxRecDepth 20000 in
theorem sb_167_75 {j : AJ} (hj : SJ j) : Sound kM_167 75 (mb_167_75 j) := by
  unfold mb_167_75
  exact so_iload (by decide +kernel) (so_if (off := 77) (tgt := 154) (by decide +kernel) (by decide) rfl (sb_167_154 hj) (so_iconst (i := 0) (by decide +kernel) (by decide +kernel) (by decide) (so_istore (by decide +kernel) (by decide +kernel) (sb_167_83 hj))))
set_option maxRecDepth 20000 in
theorem sb_167_72 {j : AJ} (hj : SJ j) : Sound kM_167 72 (mb_167_72 j) := by
  unfold mb_167_72
  exact so_iload_n (f := 3) (by decide +kernel) rfl (so_istore (by decide +kernel) (by decide +kernel) (sb_167_75 hj))
set_option maxRecDepth 20000 in
theorem sb_167_65 {j : AJ} (hj : SJ j) : Sound kM_167 65 (mb_167_65 j) := by
  unfold mb_167_65
  exact so_iastU (by decide +kernel) (so_iincU (z := 1) (by decide +kernel) (by decide +kernel) (by decide) (by decide +kernel) (so_goto (off := -27) (tgt := 42) (by decide +kernel) (by decide) (hj 112 _ _ rfl)))
set_option maxRecDepth 20000 in
theorem sb_167_64 {j : AJ} (hj : SJ j) : Sound kM_167 64 (mb_167_64 j) := by
  unfold mb_167_64
  exact so_iconst (i := -1) (by decide +kernel) (by decide +kernel) (by decide) (sb_167_65 hj)
set_option maxRecDepth 20000 in
theorem sb_167_42 {j : AJ} (hj : SJ j) : Sound kM_167 42 (mb_167_42 j) := by
  unfold mb_167_42
  exact so_iload (by decide +kernel) (so_iload_n (f := 3) (by decide +kernel) rfl (so_icmp (off := 27) (tgt := 72) (by decide +kernel) (by decide) rfl (sb_167_72 hj) (so_aload_n (f := 0) (by decide +kernel) rfl (so_get (C := RX9) (T := TX9) (N := 38) (by decide +kernel) rfl kin_9 (by decide) kw_466 (b := true) rfl (fun _ => rfl) (so_iload (by decide +kernel) (so_iload (by decide +kernel) (so_iload_n (f := 3) (by decide +kernel) rfl (so_icmp (off := 7) (tgt := 64) (by decide +kernel) (by decide) rfl (sb_167_64 hj) (so_iconst (i := 0) (by decide +kernel) (by decide +kernel) (by decide) (so_goto (off := 4) (tgt := 65) (by decide +kernel) (by decide) (sb_167_65 hj)))))))))))
set_option maxRecDepth 20000 in
theorem sb_167_35 {j : AJ} (hj : SJ j) : Sound kM_167 35 (mb_167_35 j) := by
  unfold mb_167_35
  exact so_aload_n (f := 0) (by decide +kernel) rfl (so_callV (C := RX9) (T := TX9) (N0 := 38) (by decide +kernel) kcf_162 rfl rfl rfl kw_537 kw_538 kw_539 (by decide +kernel) (sb_162_0 hj) (so_iconst (i := 0) (by decide +kernel) (by decide +kernel) (by decide) (so_istore (by decide +kernel) (by decide +kernel) (sb_167_42 hj))))
set_option maxRecDepth 20000 in
theorem sb_167_16 {j : AJ} (hj : SJ j) : Sound kM_167 16 (mb_167_16 j) := by
  unfold mb_167_16
  exact so_aload_n (f := 0) (by decide +kernel) rfl (so_get (C := RX9) (T := TX9) (N := 38) (by decide +kernel) rfl kin_9 (by decide) kw_442 (b := true) rfl (fun _ => rfl) (so_iload_n (f := 1) (by decide +kernel) rfl (so_ialdU (by decide +kernel) (so_istore_n (f := 3) (by decide +kernel) rfl (by decide +kernel) (so_iload_n (f := 3) (by decide +kernel) rfl (so_callS (by decide +kernel) kcf_138 rfl kw_478 kw_479 (by decide +kernel) (sb_138_0 hj) (so_bipush (i := 10) (by decide +kernel) (by decide +kernel) (by decide) (so_icmp (off := 6) (tgt := 35) (by decide +kernel) (by decide) rfl (sb_167_35 hj) (so_bipush (i := -3) (by decide +kernel) (by decide +kernel) (by decide) (so_reti (by decide +kernel) rfl))))))))))
set_option maxRecDepth 20000 in
theorem sb_167_14 {j : AJ} (hj : SJ j) : Sound kM_167 14 (mb_167_14 j) := by
  unfold mb_167_14
  exact so_iconst (i := -1) (by decide +kernel) (by decide +kernel) (by decide) (so_reti (by decide +kernel) rfl)
set_option maxRecDepth 20000 in
theorem sb_167_0 {j : AJ} (hj : SJ j) : Sound kM_167 0 (mb_167_0 j) := by
  unfold mb_167_0
  exact so_iload_n (f := 1) (by decide +kernel) rfl (so_callS (by decide +kernel) kcf_136 rfl kw_480 kw_481 (by decide +kernel) (sb_136_0 hj) (so_if (off := 10) (tgt := 14) (by decide +kernel) (by decide) rfl (sb_167_14 hj) (so_iload_n (f := 2) (by decide +kernel) rfl (so_callS (by decide +kernel) kcf_165 rfl kw_540 kw_541 (by decide +kernel) (sb_165_0 hj) (so_if (off := 5) (tgt := 16) (by decide +kernel) (by decide) rfl (sb_167_16 hj) (sb_167_14 hj))))))
set_option maxRecDepth 20000 in
theorem sc_168_36 {j : AJ} (hj : SJ j) : Sound kM_168 36 (mc_168_36 j) := by
  unfold mc_168_36
  exact so_aload_n (f := 0) (by decide +kernel) rfl (so_weak (so_callV (C := RX9) (T := TX9) (N0 := 38) (by decide +kernel) kcf_160 rfl rfl rfl kw_528 kw_529 kw_530 (by decide +kernel) (sb_160_0 hj) (so_reti (by decide +kernel) rfl)) (callvE_imp BK_I))
set_option maxRecDepth 20000 in
theorem sb_168_36 {j : AJ} (hj : SJ j) : Sound kM_168 36 (mb_168_36 j) := by
  refine so_weak (sc_168_36 hj) (fun L S h r q0 => ?_)
  obtain ⟨c0, L0_, rfl, q1⟩ := w_C_some q0
  obtain ⟨i1, L1_, rfl, q2⟩ := w_I_some q1
  obtain ⟨i2, L2_, rfl, q3⟩ := w_I_some q2
  obtain ⟨rfl, q4⟩ := w_0_some q3
  obtain ⟨rfl, q5⟩ := a_nil_some q4
  exact q5
set_option maxRecDepth 20000 in
theorem sc_168_20 {j : AJ} (hj : SJ j) : Sound kM_168 20 (mc_168_20 j) := by
  unfold mc_168_20
  exact so_iload_n (f := 2) (by decide +kernel) rfl (so_if (off := 15) (tgt := 36) (by decide +kernel) (by decide) rfl (sb_168_36 hj) (so_aload_n (f := 0) (by decide +kernel) rfl (so_get (C := RX9) (T := TX9) (N := 38) (by decide +kernel) rfl kin_9 (by decide) kw_460 (b := true) rfl (fun _ => rfl) (so_iconst (i := 0) (by decide +kernel) (by decide +kernel) (by decide) (so_iload_n (f := 2) (by decide +kernel) rfl (so_iast (by decide +kernel) (so_aload_n (f := 0) (by decide +kernel) rfl (so_iconst (i := 1) (by decide +kernel) (by decide +kernel) (by decide) (so_putI (C := RX9) (T := TX9) (N := 38) (ty0 := tyX9) (by decide +kernel) rfl kin_9 tyX9_ok nmX9 (by decide) kw_499 rfl rfl rfl (sb_168_36 hj))))))))))
set_option maxRecDepth 20000 in
theorem sb_168_20 {j : AJ} (hj : SJ j) : Sound kM_168 20 (mb_168_20 j) := by
  refine so_weak (sc_168_20 hj) (fun L S h r q0 => ?_)
  obtain ⟨c0, L0_, rfl, q1⟩ := w_C_some q0
  obtain ⟨i1, L1_, rfl, q2⟩ := w_I_some q1
  obtain ⟨i2, L2_, rfl, q3⟩ := w_I_some q2
  obtain ⟨rfl, q4⟩ := w_0_some q3
  obtain ⟨rfl, q5⟩ := a_nil_some q4
  exact q5
set_option maxRecDepth 20000 in
theorem sc_168_0 {j : AJ} (hj : SJ j) : Sound kM_168 0 (mc_168_0 j) := by
  unfold mc_168_0
  exact so_aload_n (f := 0) (by decide +kernel) rfl (so_weak (so_callV (C := RX9) (T := TX9) (N0 := 38) (by decide +kernel) kcf_161 rfl rfl rfl kw_525 kw_526 kw_527 (by decide +kernel) (sb_161_0 hj) (so_iload_n (f := 1) (by decide +kernel) rfl (so_if (off := 15) (tgt := 20) (by decide +kernel) (by decide) rfl (sb_168_20 hj) (so_aload_n (f := 0) (by decide +kernel) rfl (so_get (C := RX9) (T := TX9) (N := 38) (by decide +kernel) rfl kin_9 (by decide) kw_459 (b := true) rfl (fun _ => rfl) (so_iconst (i := 0) (by decide +kernel) (by decide +kernel) (by decide) (so_iload_n (f := 1) (by decide +kernel) rfl (so_iast (by decide +kernel) (so_aload_n (f := 0) (by decide +kernel) rfl (so_iconst (i := 1) (by decide +kernel) (by decide +kernel) (by decide) (so_putI (C := RX9) (T := TX9) (N := 38) (ty0 := tyX9) (by decide +kernel) rfl kin_9 tyX9_ok nmX9 (by decide) kw_495 rfl rfl rfl (sb_168_20 hj)))))))))))) (callvE_imp BK_N))
set_option maxRecDepth 20000 in
theorem sb_168_0 {j : AJ} (hj : SJ j) : Sound kM_168 0 (mb_168_0 j) := by
  refine so_weak (sc_168_0 hj) (fun L S h r q0 => ?_)
  obtain ⟨c0, L0_, rfl, q1⟩ := w_C_some q0
  obtain ⟨i1, L1_, rfl, q2⟩ := w_I_some q1
  obtain ⟨i2, L2_, rfl, q3⟩ := w_I_some q2
  obtain ⟨rfl, q4⟩ := w_0_some q3
  obtain ⟨rfl, q5⟩ := a_nil_some q4
  exact q5
set_option maxRecDepth 20000 in
theorem sb_169_207 {j : AJ} (hj : SJ j) : Sound kM_169 207 (mb_169_207 j) := by
  unfold mb_169_207
  exact so_aload_n (f := 0) (by decide +kernel) rfl (so_get (C := RX9) (T := TX9) (N := 38) (by decide +kernel) rfl kin_9 (by decide) kw_466 (b := true) rfl (fun _ => rfl) (so_bipush (i := 64) (by decide +kernel) (by decide +kernel) (by decide) (so_iload_n (f := 1) (by decide +kernel) rfl (so_iadd (by decide +kernel) (so_iald (by decide +kernel) (so_reti (by decide +kernel) rfl))))))
set_option maxRecDepth 20000 in
theorem sb_169_201 {j : AJ} (hj : SJ j) : Sound kM_169 201 (mb_169_201 j) := by
  unfold mb_169_201
  exact so_iinc (z := 1) (by decide +kernel) (by decide +kernel) (by decide) (by decide +kernel) (so_goto (off := -134) (tgt := 70) (by decide +kernel) (by decide) (hj 119 _ _ rfl))
set_option maxRecDepth 20000 in
theorem sb_169_168 {j : AJ} (hj : SJ j) : Sound kM_169 168 (mb_169_168 j) := by
  unfold mb_169_168
  exact so_iload (by decide +kernel) (so_iload (by decide +kernel) (so_icmp (off := 29) (tgt := 201) (by decide +kernel) (by decide) rfl (sb_169_201 hj) (so_aload_n (f := 0) (by decide +kernel) rfl (so_get (C := RX9) (T := TX9) (N := 38) (by decide +kernel) rfl kin_9 (by decide) kw_466 (b := true) rfl (fun _ => rfl) (so_bipush (i := 64) (by decide +kernel) (by decide +kernel) (by decide) (so_iload (by decide +kernel) (so_iadd (by decide +kernel) (so_aload_n (f := 0) (by decide +kernel) rfl (so_get (C := RX9) (T := TX9) (N := 38) (by decide +kernel) rfl kin_9 (by decide) kw_463 (b := true) rfl (fun _ => rfl) (so_iload (by decide +kernel) (so_iload (by decide +kernel) (so_iadd (by decide +kernel) (so_iald (by decide +kernel) (so_iast (by decide +kernel) (so_iinc (z := 1) (by decide +kernel) (by decide +kernel) (by decide) (by decide +kernel) (so_goto (off := -30) (tgt := 168) (by decide +kernel) (by decide) (hj 118 _ _ rfl)))))))))))))))))
set_option maxRecDepth 20000 in
theorem sb_169_163 {j : AJ} (hj : SJ j) : Sound kM_169 163 (mb_169_163 j) := by
  unfold mb_169_163
  exact so_iload (by decide +kernel) (so_ineg (by decide +kernel) (so_istore (by decide +kernel) (by decide +kernel) (sb_169_168 hj)))
set_option maxRecDepth 20000 in
theorem sb_169_156 {j : AJ} (hj : SJ j) : Sound kM_169 156 (mb_169_156 j) := by
  unfold mb_169_156
  exact so_iast (by decide +kernel) (so_iinc (z := 1) (by decide +kernel) (by decide +kernel) (by decide) (by decide +kernel) (so_goto (off := -74) (tgt := 86) (by decide +kernel) (by decide) (hj 117 _ _ rfl)))
set_option maxRecDepth 20000 in
theorem sb_169_124 {j : AJ} (hj : SJ j) : Sound kM_169 124 (mb_169_124 j) := by
  unfold mb_169_124
  exact so_aload_n (f := 0) (by decide +kernel) rfl (so_aload_n (f := 0) (by decide +kernel) rfl (so_get (C := RX9) (T := TX9) (N := 38) (by decide +kernel) rfl kin_9 (by decide) kw_466 (b := true) rfl (fun _ => rfl) (so_bipush (i := 64) (by decide +kernel) (by decide +kernel) (by decide) (so_iload (by decide +kernel) (so_iconst (i := 1) (by decide +kernel) (by decide +kernel) (by decide) (so_isub (by decide +kernel) (so_iconst (i := 2) (by decide +kernel) (by decide +kernel) (by decide) (so_idiv (by decide +kernel) (so_iadd (by decide +kernel) (so_iald (by decide +kernel) (so_aload_n (f := 0) (by decide +kernel) rfl (so_get (C := RX9) (T := TX9) (N := 38) (by decide +kernel) rfl kin_9 (by decide) kw_466 (b := true) rfl (fun _ => rfl) (so_bipush (i := 64) (by decide +kernel) (by decide +kernel) (by decide) (so_iload (by decide +kernel) (so_iconst (i := 1) (by decide +kernel) (by decide +kernel) (by decide) (so_iadd (by decide +kernel) (so_iconst (i := 2) (by decide +kernel) (by decide +kernel) (by decide) (so_idiv (by decide +kernel) (so_iadd (by decide +kernel) (so_iald (by decide +kernel) (so_callV (C := RX9) (T := TX9) (N0 := 38) (by decide +kernel) kcf_168 rfl rfl rfl kw_542 kw_543 kw_544 (by decide +kernel) (sb_168_0 hj) (sb_169_156 hj))))))))))))))))))))))
set_option maxRecDepth 20000 in
theorem sb_169_86 {j : AJ} (hj : SJ j) : Sound kM_169 86 (mb_169_86 j) := by
  unfold mb_169_86
  exact so_iload (by decide +kernel) (so_iload (by decide +kernel) (so_icmp (off := 73) (tgt := 163) (by decide +kernel) (by decide) rfl (sb_169_163 hj) (so_aload_n (f := 0) (by decide +kernel) rfl (so_get (C := RX9) (T := TX9) (N := 38) (by decide +kernel) rfl kin_9 (by decide) kw_463 (b := true) rfl (fun _ => rfl) (so_iload (by decide +kernel) (so_iload (by decide +kernel) (so_iadd (by decide +kernel) (so_iload (by decide +kernel) (so_iconst (i := 2) (by decide +kernel) (by decide +kernel) (by decide) (so_irem (by decide +kernel) (so_if (off := 18) (tgt := 124) (by decide +kernel) (by decide) rfl (sb_169_124 hj) (so_aload_n (f := 0) (by decide +kernel) rfl (so_get (C := RX9) (T := TX9) (N := 38) (by decide +kernel) rfl kin_9 (by decide) kw_466 (b := true) rfl (fun _ => rfl) (so_bipush (i := 64) (by decide +kernel) (by decide +kernel) (by decide) (so_iload (by decide +kernel) (so_iconst (i := 2) (by decide +kernel) (by decide +kernel) (by decide) (so_idiv (by decide +kernel) (so_iadd (by decide +kernel) (so_iald (by decide +kernel) (so_goto (off := 35) (tgt := 156) (by decide +kernel) (by decide) (sb_169_156 hj)))))))))))))))))))))
set_option maxRecDepth 20000 in
theorem sb_169_70 {j : AJ} (hj : SJ j) : Sound kM_169 70 (mb_169_70 j) := by
  unfold mb_169_70
  exact so_iload_n (f := 3) (by decide +kernel) rfl (so_iload_n (f := 2) (by decide +kernel) rfl (so_icmp (off := 135) (tgt := 207) (by decide +kernel) (by decide) rfl (sb_169_207 hj) (so_bipush (i := 8) (by decide +kernel) (by decide +kernel) (by decide) (so_iload_n (f := 3) (by decide +kernel) rfl (so_ishl (by decide +kernel) (so_istore (by decide +kernel) (by decide +kernel) (so_iload (by decide +kernel) (so_ineg (by decide +kernel) (so_istore (by decide +kernel) (by decide +kernel) (sb_169_86 hj))))))))))
set_option maxRecDepth 20000 in
theorem sb_169_68 {j : AJ} (hj : SJ j) : Sound kM_169 68 (mb_169_68 j) := by
  unfold mb_169_68
  exact so_iconst (i := 1) (by decide +kernel) (by decide +kernel) (by decide) (so_istore_n (f := 3) (by decide +kernel) rfl (by decide +kernel) (sb_169_70 hj))
set_option maxRecDepth 20000 in
theorem sb_169_10 {j : AJ} (hj : SJ j) : Sound kM_169 10 (mb_169_10 j) := by
  unfold mb_169_10
  exact so_iload_n (f := 3) (by decide +kernel) rfl (so_bipush (i := 8) (by decide +kernel) (by decide +kernel) (by decide) (so_icmp (off := 55) (tgt := 68) (by decide +kernel) (by decide) rfl (sb_169_68 hj) (so_aload_n (f := 0) (by decide +kernel) rfl (so_get (C := RX9) (T := TX9) (N := 38) (by decide +kernel) rfl kin_9 (by decide) kw_466 (b := true) rfl (fun _ => rfl) (so_bipush (i := 64) (by decide +kernel) (by decide +kernel) (by decide) (so_iload_n (f := 3) (by decide +kernel) rfl (so_iadd (by decide +kernel) (so_aload_n (f := 0) (by decide +kernel) rfl (so_aload_n (f := 0) (by decide +kernel) rfl (so_get (C := RX9) (T := TX9) (N := 38) (by decide +kernel) rfl kin_9 (by decide) kw_466 (b := true) rfl (fun _ => rfl) (so_bipush (i := 63) (by decide +kernel) (by decide +kernel) (by decide) (so_iload_n (f := 3) (by decide +kernel) rfl (so_iadd (by decide +kernel) (so_iald (by decide +kernel) (so_iconst (i := -1) (by decide +kernel) (by decide +kernel) (by decide) (so_callV (C := RX9) (T := TX9) (N0 := 38) (by decide +kernel) kcf_168 rfl rfl rfl kw_542 kw_543 kw_544 (by decide +kernel) (sb_168_0 hj) (so_iast (by decide +kernel) (so_aload_n (f := 0) (by decide +kernel) rfl (so_get (C := RX9) (T := TX9) (N := 38) (by decide +kernel) rfl kin_9 (by decide) kw_466 (b := true) rfl (fun _ => rfl) (so_bipush (i := 64) (by decide +kernel) (by decide +kernel) (by decide) (so_iload_n (f := 3) (by decide +kernel) rfl (so_isub (by decide +kernel) (so_aload_n (f := 0) (by decide +kernel) rfl (so_iconst (i := -1) (by decide +kernel) (by decide +kernel) (by decide) (so_aload_n (f := 0) (by decide +kernel) rfl (so_get (C := RX9) (T := TX9) (N := 38) (by decide +kernel) rfl kin_9 (by decide) kw_466 (b := true) rfl (fun _ => rfl) (so_bipush (i := 65) (by decide +kernel) (by decide +kernel) (by decide) (so_iload_n (f := 3) (by decide +kernel) rfl (so_isub (by decide +kernel) (so_iald (by decide +kernel) (so_callV (C := RX9) (T := TX9) (N0 := 38) (by decide +kernel) kcf_168 rfl rfl rfl kw_542 kw_543 kw_544 (by decide +kernel) (sb_168_0 hj) (so_iast (by decide +kernel) (so_iinc (z := 1) (by decide +kernel) (by decide +kernel) (by decide) (by decide +kernel) (so_goto (off := -55) (tgt := 10) (by decide +kernel) (by decide) (hj 116 _ _ rfl)))))))))))))))))))))))))))))))))))
set_option maxRecDepth 20000 in
theorem sb_169_0 {j : AJ} (hj : SJ j) : Sound kM_169 0 (mb_169_0 j) := by
  unfold mb_169_0
  exact so_aload_n (f := 0) (by decide +kernel) rfl (so_get (C := RX9) (T := TX9) (N := 38) (by decide +kernel) rfl kin_9 (by decide) kw_466 (b := true) rfl (fun _ => rfl) (so_bipush (i := 64) (by decide +kernel) (by decide +kernel) (by decide) (so_iconst (i := 0) (by decide +kernel) (by decide +kernel) (by decide) (so_iast (by decide +kernel) (so_iconst (i := 1) (by decide +kernel) (by decide +kernel) (by decide) (so_istore_n (f := 3) (by decide +kernel) rfl (by decide +kernel) (sb_169_10 hj)))))))
set_option maxRecDepth 20000 in
theorem sb_170_45 {j : AJ} (hj : SJ j) : Sound kM_170 45 (mb_170_45 j) := by
  unfold mb_170_45
  exact so_iload_n (f := 3) (by decide +kernel) rfl (so_callV (C := RX9) (T := TX9) (N0 := 38) (by decide +kernel) kcf_164 rfl rfl rfl kw_531 kw_532 kw_533 (by decide +kernel) (sb_164_0 hj) (so_reti (by decide +kernel) rfl))
set_option maxRecDepth 20000 in
theorem sb_170_42 {j : AJ} (hj : SJ j) : Sound kM_170 42 (mb_170_42 j) := by
  unfold mb_170_42
  exact so_callV (C := RX9) (T := TX9) (N0 := 38) (by decide +kernel) kcf_169 rfl rfl rfl kw_545 kw_546 kw_547 (by decide +kernel) (sb_169_0 hj) (sb_170_45 hj)
set_option maxRecDepth 20000 in
theorem sb_170_34 {j : AJ} (hj : SJ j) : Sound kM_170 34 (mb_170_34 j) := by
  unfold mb_170_34
  exact so_aload_n (f := 0) (by decide +kernel) rfl (so_callV (C := RX9) (T := TX9) (N0 := 38) (by decide +kernel) kcf_162 rfl rfl rfl kw_537 kw_538 kw_539 (by decide +kernel) (sb_162_0 hj) (so_aload_n (f := 0) (by decide +kernel) rfl (so_aload_n (f := 0) (by decide +kernel) rfl (so_iload_n (f := 1) (by decide +kernel) rfl (so_iload_n (f := 2) (by decide +kernel) rfl (sb_170_42 hj))))))
set_option maxRecDepth 20000 in
theorem sb_170_32 {j : AJ} (hj : SJ j) : Sound kM_170 32 (mb_170_32 j) := by
  unfold mb_170_32
  exact so_iconst (i := -1) (by decide +kernel) (by decide +kernel) (by decide) (so_reti (by decide +kernel) rfl)
set_option maxRecDepth 20000 in
theorem sb_170_0 {j : AJ} (hj : SJ j) : Sound kM_170 0 (mb_170_0 j) := by
  unfold mb_170_0
  exact so_iload_n (f := 2) (by decide +kernel) rfl (so_if (off := 31) (tgt := 32) (by decide +kernel) (by decide) rfl (sb_170_32 hj) (so_iload_n (f := 2) (by decide +kernel) rfl (so_iconst (i := 3) (by decide +kernel) (by decide +kernel) (by decide) (so_icmp (off := 26) (tgt := 32) (by decide +kernel) (by decide) rfl (sb_170_32 hj) (so_iload_n (f := 1) (by decide +kernel) rfl (so_bipush (i := -8) (by decide +kernel) (by decide +kernel) (by decide) (so_iload_n (f := 2) (by decide +kernel) rfl (so_ishl (by decide +kernel) (so_icmp (off := 18) (tgt := 32) (by decide +kernel) (by decide) rfl (sb_170_32 hj) (so_iload_n (f := 1) (by decide +kernel) rfl (so_bipush (i := 8) (by decide +kernel) (by decide +kernel) (by decide) (so_iload_n (f := 2) (by decide +kernel) rfl (so_ishl (by decide +kernel) (so_icmp (off := 10) (tgt := 32) (by decide +kernel) (by decide) rfl (sb_170_32 hj) (so_iload_n (f := 3) (by decide +kernel) rfl (so_callS (by decide +kernel) kcf_165 rfl kw_540 kw_541 (by decide +kernel) (sb_165_0 hj) (so_if (off := 5) (tgt := 34) (by decide +kernel) (by decide) rfl (sb_170_34 hj) (sb_170_32 hj))))))))))))))))))
set_option maxRecDepth 20000 in
theorem sz_170_45 {j : AJ} (hj : SJ j) : Sound kM_170 45 (mz_170_45 j) := by
  unfold mz_170_45
  exact so_iload_n (f := 3) (by decide +kernel) rfl (so_callV (C := RX9) (T := TX9) (N0 := 38) (by decide +kernel) kcf_164 rfl rfl rfl kw_531 kw_532 kw_533 (by decide +kernel) (sb_164_0 hj) (so_reti (by decide +kernel) rfl))
set_option maxRecDepth 20000 in
theorem sz_170_34 {j : AJ} (hj : SJ j) : Sound kM_170 34 (mz_170_34 j) := by
  unfold mz_170_34
  exact so_aload_n (f := 0) (by decide +kernel) rfl (so_callV (C := RX9) (T := TX9) (N0 := 38) (by decide +kernel) kcf_162 rfl rfl rfl kw_537 kw_538 kw_539 (by decide +kernel) (sb_162_0 hj) (so_aload_n (f := 0) (by decide +kernel) rfl (so_aload_n (f := 0) (by decide +kernel) rfl (so_iload_n (f := 1) (by decide +kernel) rfl (so_iload_n (f := 2) (by decide +kernel) rfl (so_stop rfl))))))
set_option maxRecDepth 20000 in
theorem sz_170_32 {j : AJ} (hj : SJ j) : Sound kM_170 32 (mz_170_32 j) := by
  unfold mz_170_32
  exact so_iconst (i := -1) (by decide +kernel) (by decide +kernel) (by decide) (so_reti (by decide +kernel) rfl)
set_option maxRecDepth 20000 in
theorem sz_170_0 {j : AJ} (hj : SJ j) : Sound kM_170 0 (mz_170_0 j) := by
  unfold mz_170_0
  exact so_iload_n (f := 2) (by decide +kernel) rfl (so_if (off := 31) (tgt := 32) (by decide +kernel) (by decide) rfl (sz_170_32 hj) (so_iload_n (f := 2) (by decide +kernel) rfl (so_iconst (i := 3) (by decide +kernel) (by decide +kernel) (by decide) (so_icmp (off := 26) (tgt := 32) (by decide +kernel) (by decide) rfl (sz_170_32 hj) (so_iload_n (f := 1) (by decide +kernel) rfl (so_bipush (i := -8) (by decide +kernel) (by decide +kernel) (by decide) (so_iload_n (f := 2) (by decide +kernel) rfl (so_ishl (by decide +kernel) (so_icmp (off := 18) (tgt := 32) (by decide +kernel) (by decide) rfl (sz_170_32 hj) (so_iload_n (f := 1) (by decide +kernel) rfl (so_bipush (i := 8) (by decide +kernel) (by decide +kernel) (by decide) (so_iload_n (f := 2) (by decide +kernel) rfl (so_ishl (by decide +kernel) (so_icmp (off := 10) (tgt := 32) (by decide +kernel) (by decide) rfl (sz_170_32 hj) (so_iload_n (f := 3) (by decide +kernel) rfl (so_callS (by decide +kernel) kcf_165 rfl kw_540 kw_541 (by decide +kernel) (sb_165_0 hj) (so_if (off := 5) (tgt := 34) (by decide +kernel) (by decide) rfl (sz_170_34 hj) (sz_170_32 hj))))))))))))))))))
set_option maxRecDepth 20000 in
theorem pk_170_42 : MK kM_170 kM_169 42 yX9_numbered [true, true, true] (XV 9) := mk_V (C := RX9) (T := TX9) (N0 := 38) (pad := [none, none, none]) (n := 2) (by decide +kernel) kcf_169 rfl rfl rfl kw_545 kw_546 kw_547
set_option maxRecDepth 20000 in
theorem sc_171_160 {j : AJ} (hj : SJ j) : Sound kM_171 160 (mc_171_160 j) := by
  unfold mc_171_160
  exact so_iload_n (f := 3) (by decide +kernel) rfl (so_reti (by decide +kernel) rfl)
set_option maxRecDepth 20000 in
theorem sb_171_160 {j : AJ} (hj : SJ j) : Sound kM_171 160 (mb_171_160 j) := by
  refine so_weak (sc_171_160 hj) (fun L S h r q0 => ?_)
  obtain ⟨c0, L0_, rfl, q1⟩ := w_C_some q0
  obtain ⟨i1, L1_, rfl, q2⟩ := w_I_some q1
  obtain ⟨c2, L2_, rfl, q3⟩ := w_C_some q2
  obtain ⟨i3, L3_, rfl, q4⟩ := w_I_some q3
  obtain ⟨i4, L4_, rfl, q5⟩ := w_I_some q4
  obtain ⟨rfl, q6⟩ := w_0_some q5
  obtain ⟨rfl, q7⟩ := a_nil_some q6
  exact q7
set_option maxRecDepth 20000 in
theorem sc_171_154 {j : AJ} (hj : SJ j) : Sound kM_171 154 (mc_171_154 j) := by
  unfold mc_171_154
  exact so_iinc (z := 1) (by decide +kernel) (by decide +kernel) (by decide) (by decide +kernel) (so_goto (off := -27) (tgt := 130) (by decide +kernel) (by decide) (hj 124 _ _ rfl))
set_option maxRecDepth 20000 in
theorem sb_171_154 {j : AJ} (hj : SJ j) : Sound kM_171 154 (mb_171_154 j) := by
  refine so_weak (sc_171_154 hj) (fun L S h r q0 => ?_)
  obtain ⟨c0, L0_, rfl, q1⟩ := w_C_some q0
  obtain ⟨i1, L1_, rfl, q2⟩ := w_I_some q1
  obtain ⟨c2, L2_, rfl, q3⟩ := w_C_some q2
  obtain ⟨i3, L3_, rfl, q4⟩ := w_I_some q3
  obtain ⟨i4, L4_, rfl, q5⟩ := w_I_some q4
  obtain ⟨rfl, q6⟩ := w_0_some q5
  obtain ⟨rfl, q7⟩ := a_nil_some q6
  exact q7
set_option maxRecDepth 20000 in
theorem sc_171_130 {j : AJ} (hj : SJ j) : Sound kM_171 130 (mc_171_130 j) := by
  unfold mc_171_130
  exact so_iload (by decide +kernel) (so_iload_n (f := 1) (by decide +kernel) rfl (so_icmp (off := 27) (tgt := 160) (by decide +kernel) (by decide) rfl (sb_171_160 hj) (so_aload_n (f := 0) (by decide +kernel) rfl (so_get (C := RX9) (T := TX9) (N := 38) (by decide +kernel) rfl kin_9 (by decide) kw_465 (b := true) rfl (fun _ => rfl) (so_iload (by decide +kernel) (so_zald (by decide +kernel) (so_if (off := 11) (tgt := 154) (by decide +kernel) (by decide) rfl (sb_171_154 hj) (so_aload_n (f := 2) (by decide +kernel) rfl (so_iload_n (f := 3) (by decide +kernel) rfl (so_iload (by decide +kernel) (so_iast (by decide +kernel) (so_iinc (z := 1) (by decide +kernel) (by decide +kernel) (by decide) (by decide +kernel) (sb_171_154 hj)))))))))))))
set_option maxRecDepth 20000 in
theorem sb_171_130 {j : AJ} (hj : SJ j) : Sound kM_171 130 (mb_171_130 j) := by
  refine so_weak (sc_171_130 hj) (fun L S h r q0 => ?_)
  obtain ⟨c0, L0_, rfl, q1⟩ := w_C_some q0
  obtain ⟨i1, L1_, rfl, q2⟩ := w_I_some q1
  obtain ⟨c2, L2_, rfl, q3⟩ := w_C_some q2
  obtain ⟨i3, L3_, rfl, q4⟩ := w_I_some q3
  obtain ⟨i4, L4_, rfl, q5⟩ := w_I_some q4
  obtain ⟨rfl, q6⟩ := w_0_some q5
  obtain ⟨rfl, q7⟩ := a_nil_some q6
  exact q7
set_option maxRecDepth 20000 in
theorem sc_171_125 {j : AJ} (hj : SJ j) : Sound kM_171 125 (mc_171_125 j) := by
  unfold mc_171_125
  exact so_iconst (i := 0) (by decide +kernel) (by decide +kernel) (by decide) (so_istore_n (f := 3) (by decide +kernel) rfl (by decide +kernel) (so_iconst (i := 0) (by decide +kernel) (by decide +kernel) (by decide) (so_istore (by decide +kernel) (by decide +kernel) (sb_171_130 hj))))
set_option maxRecDepth 20000 in
theorem sb_171_125 {j : AJ} (hj : SJ j) : Sound kM_171 125 (mb_171_125 j) := by
  refine so_weak (sc_171_125 hj) (fun L S h r q0 => ?_)
  obtain ⟨c0, L0_, rfl, q1⟩ := w_C_some q0
  obtain ⟨i1, L1_, rfl, q2⟩ := w_I_some q1
  obtain ⟨c2, L2_, rfl, q3⟩ := w_C_some q2
  obtain ⟨i3, L3_, rfl, q4⟩ := w_I_some q3
  obtain ⟨x4, L4_, rfl, q5⟩ := w_X_some q4
  obtain ⟨rfl, q6⟩ := w_0_some q5
  obtain ⟨rfl, q7⟩ := a_nil_some q6
  exact q7
set_option maxRecDepth 20000 in
theorem sc_171_119 {j : AJ} (hj : SJ j) : Sound kM_171 119 (mc_171_119 j) := by
  unfold mc_171_119
  exact so_iinc (z := -1) (by decide +kernel) (by decide +kernel) (by decide) (by decide +kernel) (so_goto (off := -91) (tgt := 31) (by decide +kernel) (by decide) (hj 123 _ _ rfl))
set_option maxRecDepth 20000 in
theorem sb_171_119 {j : AJ} (hj : SJ j) : Sound kM_171 119 (mb_171_119 j) := by
  refine so_weak (sc_171_119 hj) (fun L S h r q0 => ?_)
  obtain ⟨c0, L0_, rfl, q1⟩ := w_C_some q0
  obtain ⟨i1, L1_, rfl, q2⟩ := w_I_some q1
  obtain ⟨c2, L2_, rfl, q3⟩ := w_C_some q2
  obtain ⟨i3, L3_, rfl, q4⟩ := w_I_some q3
  obtain ⟨i4, L4_, rfl, q5⟩ := w_I_some q4
  obtain ⟨rfl, q6⟩ := w_0_some q5
  obtain ⟨rfl, q7⟩ := a_nil_some q6
  exact q7
set_option maxRecDepth 20000 in
theorem sc_171_80 {j : AJ} (hj : SJ j) : Sound kM_171 80 (mc_171_80 j) := by
  unfold mc_171_80
  exact so_iload (by decide +kernel) (so_aload_n (f := 0) (by decide +kernel) rfl (so_get (C := RX9) (T := TX9) (N := 38) (by decide +kernel) rfl kin_9 (by decide) kw_454 (b := true) rfl (fun _ => rfl) (so_iload_n (f := 3) (by decide +kernel) rfl (so_iald (by decide +kernel) (so_icmp (off := 31) (tgt := 119) (by decide +kernel) (by decide) rfl (sb_171_119 hj) (so_aload_n (f := 0) (by decide +kernel) rfl (so_get (C := RX9) (T := TX9) (N := 38) (by decide +kernel) rfl kin_9 (by decide) kw_465 (b := true) rfl (fun _ => rfl) (so_iload_n (f := 3) (by decide +kernel) rfl (so_zald (by decide +kernel) (so_if (off := 22) (tgt := 119) (by decide +kernel) (by decide) rfl (sb_171_119 hj) (so_aload_n (f := 0) (by decide +kernel) rfl (so_get (C := RX9) (T := TX9) (N := 38) (by decide +kernel) rfl kin_9 (by decide) kw_465 (b := true) rfl (fun _ => rfl) (so_aload_n (f := 0) (by decide +kernel) rfl (so_iload_n (f := 3) (by decide +kernel) rfl (so_iload (by decide +kernel) (so_weak (so_callV (C := RX9) (T := TX9) (N0 := 38) (by decide +kernel) kcf_150 rfl rfl rfl kw_489 kw_490 kw_491 (by decide +kernel) (sb_150_0 hj) (so_iconst (i := 1) (by decide +kernel) (by decide +kernel) (by decide) (so_zast (by decide +kernel) (so_iinc (z := 1) (by decide +kernel) (by decide +kernel) (by decide) (by decide +kernel) (so_goto (off := -36) (tgt := 80) (by decide +kernel) (by decide) (hj 122 _ _ rfl)))))) (callvE_imp BK_I)))))))))))))))))
set_option maxRecDepth 20000 in
theorem sb_171_80 {j : AJ} (hj : SJ j) : Sound kM_171 80 (mb_171_80 j) := by
  refine so_weak (sc_171_80 hj) (fun L S h r q0 => ?_)
  obtain ⟨c0, L0_, rfl, q1⟩ := w_C_some q0
  obtain ⟨i1, L1_, rfl, q2⟩ := w_I_some q1
  obtain ⟨c2, L2_, rfl, q3⟩ := w_C_some q2
  obtain ⟨i3, L3_, rfl, q4⟩ := w_I_some q3
  obtain ⟨i4, L4_, rfl, q5⟩ := w_I_some q4
  obtain ⟨rfl, q6⟩ := w_0_some q5
  obtain ⟨rfl, q7⟩ := a_nil_some q6
  exact q7
set_option maxRecDepth 20000 in
theorem sc_171_77 {j : AJ} (hj : SJ j) : Sound kM_171 77 (mc_171_77 j) := by
  unfold mc_171_77
  exact so_iconst (i := 0) (by decide +kernel) (by decide +kernel) (by decide) (so_istore (by decide +kernel) (by decide +kernel) (sb_171_80 hj))
set_option maxRecDepth 20000 in
theorem sb_171_77 {j : AJ} (hj : SJ j) : Sound kM_171 77 (mb_171_77 j) := by
  refine so_weak (sc_171_77 hj) (fun L S h r q0 => ?_)
  obtain ⟨c0, L0_, rfl, q1⟩ := w_C_some q0
  obtain ⟨i1, L1_, rfl, q2⟩ := w_I_some q1
  obtain ⟨c2, L2_, rfl, q3⟩ := w_C_some q2
  obtain ⟨i3, L3_, rfl, q4⟩ := w_I_some q3
  obtain ⟨i4, L4_, rfl, q5⟩ := w_I_some q4
  obtain ⟨rfl, q6⟩ := w_0_some q5
  obtain ⟨rfl, q7⟩ := a_nil_some q6
  exact q7
set_option maxRecDepth 20000 in
theorem sc_171_38 {j : AJ} (hj : SJ j) : Sound kM_171 38 (mc_171_38 j) := by
  unfold mc_171_38
  exact so_iload (by decide +kernel) (so_aload_n (f := 0) (by decide +kernel) rfl (so_get (C := RX9) (T := TX9) (N := 38) (by decide +kernel) rfl kin_9 (by decide) kw_452 (b := true) rfl (fun _ => rfl) (so_iload_n (f := 3) (by decide +kernel) rfl (so_iald (by decide +kernel) (so_icmp (off := 31) (tgt := 77) (by decide +kernel) (by decide) rfl (sb_171_77 hj) (so_aload_n (f := 0) (by decide +kernel) rfl (so_get (C := RX9) (T := TX9) (N := 38) (by decide +kernel) rfl kin_9 (by decide) kw_465 (b := true) rfl (fun _ => rfl) (so_iload_n (f := 3) (by decide +kernel) rfl (so_zald (by decide +kernel) (so_if (off := 22) (tgt := 77) (by decide +kernel) (by decide) rfl (sb_171_77 hj) (so_aload_n (f := 0) (by decide +kernel) rfl (so_get (C := RX9) (T := TX9) (N := 38) (by decide +kernel) rfl kin_9 (by decide) kw_465 (b := true) rfl (fun _ => rfl) (so_aload_n (f := 0) (by decide +kernel) rfl (so_iload_n (f := 3) (by decide +kernel) rfl (so_iload (by decide +kernel) (so_weak (so_callV (C := RX9) (T := TX9) (N0 := 38) (by decide +kernel) kcf_149 rfl rfl rfl kw_486 kw_487 kw_488 (by decide +kernel) (sb_149_0 hj) (so_iconst (i := 1) (by decide +kernel) (by decide +kernel) (by decide) (so_zast (by decide +kernel) (so_iinc (z := 1) (by decide +kernel) (by decide +kernel) (by decide) (by decide +kernel) (so_goto (off := -36) (tgt := 38) (by decide +kernel) (by decide) (hj 121 _ _ rfl)))))) (callvE_imp BK_I)))))))))))))))))
set_option maxRecDepth 20000 in
theorem sb_171_38 {j : AJ} (hj : SJ j) : Sound kM_171 38 (mb_171_38 j) := by
  refine so_weak (sc_171_38 hj) (fun L S h r q0 => ?_)
  obtain ⟨c0, L0_, rfl, q1⟩ := w_C_some q0
  obtain ⟨i1, L1_, rfl, q2⟩ := w_I_some q1
  obtain ⟨c2, L2_, rfl, q3⟩ := w_C_some q2
  obtain ⟨i3, L3_, rfl, q4⟩ := w_I_some q3
  obtain ⟨i4, L4_, rfl, q5⟩ := w_I_some q4
  obtain ⟨rfl, q6⟩ := w_0_some q5
  obtain ⟨rfl, q7⟩ := a_nil_some q6
  exact q7
set_option maxRecDepth 20000 in
theorem sc_171_31 {j : AJ} (hj : SJ j) : Sound kM_171 31 (mc_171_31 j) := by
  unfold mc_171_31
  exact so_iload_n (f := 3) (by decide +kernel) rfl (so_if (off := 93) (tgt := 125) (by decide +kernel) (by decide) rfl (sb_171_125 hj) (so_iconst (i := 0) (by decide +kernel) (by decide +kernel) (by decide) (so_istore (by decide +kernel) (by decide +kernel) (sb_171_38 hj))))
set_option maxRecDepth 20000 in
theorem sb_171_31 {j : AJ} (hj : SJ j) : Sound kM_171 31 (mb_171_31 j) := by
  refine so_weak (sc_171_31 hj) (fun L S h r q0 => ?_)
  obtain ⟨c0, L0_, rfl, q1⟩ := w_C_some q0
  obtain ⟨i1, L1_, rfl, q2⟩ := w_I_some q1
  obtain ⟨c2, L2_, rfl, q3⟩ := w_C_some q2
  obtain ⟨i3, L3_, rfl, q4⟩ := w_I_some q3
  obtain ⟨x4, L4_, rfl, q5⟩ := w_X_some q4
  obtain ⟨rfl, q6⟩ := w_0_some q5
  obtain ⟨rfl, q7⟩ := a_nil_some q6
  exact q7
set_option maxRecDepth 20000 in
theorem sc_171_29 {j : AJ} (hj : SJ j) : Sound kM_171 29 (mc_171_29 j) := by
  unfold mc_171_29
  exact so_iload_n (f := 1) (by decide +kernel) rfl (so_istore_n (f := 3) (by decide +kernel) rfl (by decide +kernel) (sb_171_31 hj))
set_option maxRecDepth 20000 in
theorem sb_171_29 {j : AJ} (hj : SJ j) : Sound kM_171 29 (mb_171_29 j) := by
  refine so_weak (sc_171_29 hj) (fun L S h r q0 => ?_)
  obtain ⟨c0, L0_, rfl, q1⟩ := w_C_some q0
  obtain ⟨i1, L1_, rfl, q2⟩ := w_I_some q1
  obtain ⟨c2, L2_, rfl, q3⟩ := w_C_some q2
  obtain ⟨i3, L3_, rfl, q4⟩ := w_I_some q3
  obtain ⟨L4_, rfl, q5⟩ := w_N_some q4
  obtain ⟨rfl, q6⟩ := w_0_some q5
  obtain ⟨rfl, q7⟩ := a_nil_some q6
  exact q7
set_option maxRecDepth 20000 in
theorem sc_171_22 {j : AJ} (hj : SJ j) : Sound kM_171 22 (mc_171_22 j) := by
  unfold mc_171_22
  exact so_zast (by decide +kernel) (so_iinc (z := 1) (by decide +kernel) (by decide +kernel) (by decide) (by decide +kernel) (so_goto (off := -24) (tgt := 2) (by decide +kernel) (by decide) (hj 120 _ _ rfl)))
set_option maxRecDepth 20000 in
theorem sb_171_22 {j : AJ} (hj : SJ j) : Sound kM_171 22 (mb_171_22 j) := by
  refine so_weak (sc_171_22 hj) (fun L S h r q0 => ?_)
  obtain ⟨c0, L0_, rfl, q1⟩ := w_C_some q0
  obtain ⟨i1, L1_, rfl, q2⟩ := w_I_some q1
  obtain ⟨c2, L2_, rfl, q3⟩ := w_C_some q2
  obtain ⟨i3, L3_, rfl, q4⟩ := w_I_some q3
  obtain ⟨L4_, rfl, q5⟩ := w_N_some q4
  obtain ⟨rfl, q6⟩ := w_0_some q5
  obtain ⟨s2, S2_, rfl, q7⟩ := a_popI_some q6
  obtain ⟨s1, S1_, rfl, q8⟩ := a_popI_some q7
  obtain ⟨s0, S0_, rfl, q9⟩ := a_popR_some q8
  obtain ⟨rfl, q10⟩ := a_nil_some q9
  exact q10
set_option maxRecDepth 20000 in
theorem sc_171_21 {j : AJ} (hj : SJ j) : Sound kM_171 21 (mc_171_21 j) := by
  unfold mc_171_21
  exact so_iconst (i := 0) (by decide +kernel) (by decide +kernel) (by decide) (sb_171_22 hj)
set_option maxRecDepth 20000 in
theorem sb_171_21 {j : AJ} (hj : SJ j) : Sound kM_171 21 (mb_171_21 j) := by
  refine so_weak (sc_171_21 hj) (fun L S h r q0 => ?_)
  obtain ⟨c0, L0_, rfl, q1⟩ := w_C_some q0
  obtain ⟨i1, L1_, rfl, q2⟩ := w_I_some q1
  obtain ⟨c2, L2_, rfl, q3⟩ := w_C_some q2
  obtain ⟨i3, L3_, rfl, q4⟩ := w_I_some q3
  obtain ⟨L4_, rfl, q5⟩ := w_N_some q4
  obtain ⟨rfl, q6⟩ := w_0_some q5
  obtain ⟨s1, S1_, rfl, q7⟩ := a_popI_some q6
  obtain ⟨s0, S0_, rfl, q8⟩ := a_popR_some q7
  obtain ⟨rfl, q9⟩ := a_nil_some q8
  exact q9
set_option maxRecDepth 20000 in
theorem sc_171_2 {j : AJ} (hj : SJ j) : Sound kM_171 2 (mc_171_2 j) := by
  unfold mc_171_2
  exact so_iload_n (f := 3) (by decide +kernel) rfl (so_iload_n (f := 1) (by decide +kernel) rfl (so_icmp (off := 25) (tgt := 29) (by decide +kernel) (by decide) rfl (sb_171_29 hj) (so_aload_n (f := 0) (by decide +kernel) rfl (so_get (C := RX9) (T := TX9) (N := 38) (by decide +kernel) rfl kin_9 (by decide) kw_465 (b := true) rfl (fun _ => rfl) (so_iload_n (f := 3) (by decide +kernel) rfl (so_iload_n (f := 3) (by decide +kernel) rfl (so_iload_n (f := 1) (by decide +kernel) rfl (so_icmp (off := 7) (tgt := 21) (by decide +kernel) (by decide) rfl (sb_171_21 hj) (so_iconst (i := 1) (by decide +kernel) (by decide +kernel) (by decide) (so_goto (off := 4) (tgt := 22) (by decide +kernel) (by decide) (sb_171_22 hj)))))))))))
set_option maxRecDepth 20000 in
theorem sb_171_2 {j : AJ} (hj : SJ j) : Sound kM_171 2 (mb_171_2 j) := by
  refine so_weak (sc_171_2 hj) (fun L S h r q0 => ?_)
  obtain ⟨c0, L0_, rfl, q1⟩ := w_C_some q0
  obtain ⟨i1, L1_, rfl, q2⟩ := w_I_some q1
  obtain ⟨c2, L2_, rfl, q3⟩ := w_C_some q2
  obtain ⟨i3, L3_, rfl, q4⟩ := w_I_some q3
  obtain ⟨L4_, rfl, q5⟩ := w_N_some q4
  obtain ⟨rfl, q6⟩ := w_0_some q5
  obtain ⟨rfl, q7⟩ := a_nil_some q6
  exact q7
set_option maxRecDepth 20000 in
theorem sc_171_0 {j : AJ} (hj : SJ j) : Sound kM_171 0 (mc_171_0 j) := by
  unfold mc_171_0
  exact so_iconst (i := 0) (by decide +kernel) (by decide +kernel) (by decide) (so_istore_n (f := 3) (by decide +kernel) rfl (by decide +kernel) (sb_171_2 hj))
set_option maxRecDepth 20000 in
theorem sb_171_0 {j : AJ} (hj : SJ j) : Sound kM_171 0 (mb_171_0 j) := by
  refine so_weak (sc_171_0 hj) (fun L S h r q0 => ?_)
  obtain ⟨c0, L0_, rfl, q1⟩ := w_C_some q0
  obtain ⟨i1, L1_, rfl, q2⟩ := w_I_some q1
  obtain ⟨c2, L2_, rfl, q3⟩ := w_C_some q2
  obtain ⟨L3_, rfl, q4⟩ := w_N_some q3
  obtain ⟨L4_, rfl, q5⟩ := w_N_some q4
  obtain ⟨rfl, q6⟩ := w_0_some q5
  obtain ⟨rfl, q7⟩ := a_nil_some q6
  exact q7
set_option maxRecDepth 20000 in
theorem sc_172_406 {j : AJ} (hj : SJ j) : Sound kM_172 406 (mc_172_406 j) := by
  unfold mc_172_406
  exact so_aload_n (f := 0) (by decide +kernel) rfl (so_get (C := RX9) (T := TX9) (N := 38) (by decide +kernel) rfl kin_9 (by decide) kw_463 (b := true) rfl (fun _ => rfl) (so_iload_n (f := 3) (by decide +kernel) rfl (so_iload (by decide +kernel) (so_imul (by decide +kernel) (so_iconst (i := 1) (by decide +kernel) (by decide +kernel) (by decide) (so_isub (by decide +kernel) (so_iald (by decide +kernel) (so_reti (by decide +kernel) rfl))))))))
set_option maxRecDepth 20000 in
theorem sb_172_406 {j : AJ} (hj : SJ j) : Sound kM_172 406 (mb_172_406 j) := by
  refine so_weak (sc_172_406 hj) (fun L S h r q0 => ?_)
  obtain ⟨c0, L0_, rfl, q1⟩ := w_C_some q0
  obtain ⟨i1, L1_, rfl, q2⟩ := w_I_some q1
  obtain ⟨i2, L2_, rfl, q3⟩ := w_I_some q2
  obtain ⟨i3, L3_, rfl, q4⟩ := w_I_some q3
  obtain ⟨i4, L4_, rfl, q5⟩ := w_I_some q4
  obtain ⟨i5, L5_, rfl, q6⟩ := w_I_some q5
  obtain ⟨x6, L6_, rfl, q7⟩ := w_X_some q6
  obtain ⟨x7, L7_, rfl, q8⟩ := w_X_some q7
  obtain ⟨x8, L8_, rfl, q9⟩ := w_X_some q8
  obtain ⟨x9, L9_, rfl, q10⟩ := w_X_some q9
  obtain ⟨rfl, q11⟩ := w_0_some q10
  obtain ⟨rfl, q12⟩ := a_nil_some q11
  exact q12
set_option maxRecDepth 20000 in
theorem sc_172_400 {j : AJ} (hj : SJ j) : Sound kM_172 400 (mc_172_400 j) := by
  unfold mc_172_400
  exact so_iinc (z := 1) (by decide +kernel) (by decide +kernel) (by decide) (by decide +kernel) (so_goto (off := -320) (tgt := 83) (by decide +kernel) (by decide) (hj 132 _ _ rfl))
set_option maxRecDepth 20000 in
theorem sb_172_400 {j : AJ} (hj : SJ j) : Sound kM_172 400 (mb_172_400 j) := by
  refine so_weak (sc_172_400 hj) (fun L S h r q0 => ?_)
  obtain ⟨c0, L0_, rfl, q1⟩ := w_C_some q0
  obtain ⟨i1, L1_, rfl, q2⟩ := w_I_some q1
  obtain ⟨i2, L2_, rfl, q3⟩ := w_I_some q2
  obtain ⟨i3, L3_, rfl, q4⟩ := w_I_some q3
  obtain ⟨i4, L4_, rfl, q5⟩ := w_I_some q4
  obtain ⟨i5, L5_, rfl, q6⟩ := w_I_some q5
  obtain ⟨i6, L6_, rfl, q7⟩ := w_I_some q6
  obtain ⟨x7, L7_, rfl, q8⟩ := w_X_some q7
  obtain ⟨x8, L8_, rfl, q9⟩ := w_X_some q8
  obtain ⟨x9, L9_, rfl, q10⟩ := w_X_some q9
  obtain ⟨rfl, q11⟩ := w_0_some q10
  obtain ⟨rfl, q12⟩ := a_nil_some q11
  exact q12
set_option maxRecDepth 20000 in
theorem sc_172_377 {j : AJ} (hj : SJ j) : Sound kM_172 377 (mc_172_377 j) := by
  unfold mc_172_377
  exact so_aload_n (f := 0) (by decide +kernel) rfl (so_get (C := RX9) (T := TX9) (N := 38) (by decide +kernel) rfl kin_9 (by decide) kw_463 (b := true) rfl (fun _ => rfl) (so_iload (by decide +kernel) (so_iload (by decide +kernel) (so_imul (by decide +kernel) (so_iload (by decide +kernel) (so_iadd (by decide +kernel) (so_aload_n (f := 0) (by decide +kernel) rfl (so_weak (so_callV (C := RX9) (T := TX9) (N0 := 38) (by decide +kernel) kcf_160 rfl rfl rfl kw_528 kw_529 kw_530 (by decide +kernel) (sb_160_0 hj) (so_iast (by decide +kernel) (so_iinc (z := 1) (by decide +kernel) (by decide +kernel) (by decide) (by decide +kernel) (so_goto (off := -305) (tgt := 92) (by decide +kernel) (by decide) (hj 131 _ _ rfl))))) (callvE_imp BK_I)))))))))
set_option maxRecDepth 20000 in
theorem sb_172_377 {j : AJ} (hj : SJ j) : Sound kM_172 377 (mb_172_377 j) := by
  refine so_weak (sc_172_377 hj) (fun L S h r q0 => ?_)
  obtain ⟨c0, L0_, rfl, q1⟩ := w_C_some q0
  obtain ⟨i1, L1_, rfl, q2⟩ := w_I_some q1
  obtain ⟨i2, L2_, rfl, q3⟩ := w_I_some q2
  obtain ⟨i3, L3_, rfl, q4⟩ := w_I_some q3
  obtain ⟨i4, L4_, rfl, q5⟩ := w_I_some q4
  obtain ⟨i5, L5_, rfl, q6⟩ := w_I_some q5
  obtain ⟨i6, L6_, rfl, q7⟩ := w_I_some q6
  obtain ⟨i7, L7_, rfl, q8⟩ := w_I_some q7
  obtain ⟨i8, L8_, rfl, q9⟩ := w_I_some q8
  obtain ⟨i9, L9_, rfl, q10⟩ := w_I_some q9
  obtain ⟨rfl, q11⟩ := w_0_some q10
  obtain ⟨rfl, q12⟩ := a_nil_some q11
  exact q12
set_option maxRecDepth 20000 in
theorem sc_172_316 {j : AJ} (hj : SJ j) : Sound kM_172 316 (mc_172_316 j) := by
  unfold mc_172_316
  exact so_iload (by decide +kernel) (so_aload_n (f := 0) (by decide +kernel) rfl (so_get (C := RX9) (T := TX9) (N := 38) (by decide +kernel) rfl kin_9 (by decide) kw_454 (b := true) rfl (fun _ => rfl) (so_iload (by decide +kernel) (so_iald (by decide +kernel) (so_icmp (off := 52) (tgt := 377) (by decide +kernel) (by decide) rfl (sb_172_377 hj) (so_aload_n (f := 0) (by decide +kernel) rfl (so_get (C := RX9) (T := TX9) (N := 38) (by decide +kernel) rfl kin_9 (by decide) kw_460 (b := true) rfl (fun _ => rfl) (so_aload_n (f := 0) (by decide +kernel) rfl (so_get (C := RX9) (T := TX9) (N := 38) (by decide +kernel) rfl kin_9 (by decide) kw_499 (b := false) rfl (fun _ => rfl) (so_aload_n (f := 0) (by decide +kernel) rfl (so_get (C := RX9) (T := TX9) (N := 38) (by decide +kernel) rfl kin_9 (by decide) kw_463 (b := true) rfl (fun _ => rfl) (so_iload (by decide +kernel) (so_iload (by decide +kernel) (so_imul (by decide +kernel) (so_aload_n (f := 0) (by decide +kernel) rfl (so_get (C := RX9) (T := TX9) (N := 38) (by decide +kernel) rfl kin_9 (by decide) kw_477 (b := true) rfl (fun _ => rfl) (so_aload_n (f := 0) (by decide +kernel) rfl (so_iload (by decide +kernel) (so_iload (by decide +kernel) (so_weak (so_callV (C := RX9) (T := TX9) (N0 := 38) (by decide +kernel) kcf_150 rfl rfl rfl kw_489 kw_490 kw_491 (by decide +kernel) (sb_150_0 hj) (so_iald (by decide +kernel) (so_iadd (by decide +kernel) (so_iald (by decide +kernel) (so_iast (by decide +kernel) (so_aload_n (f := 0) (by decide +kernel) rfl (so_dup (by decide +kernel) (so_get (C := RX9) (T := TX9) (N := 38) (by decide +kernel) rfl kin_9 (by decide) kw_499 (b := false) rfl (fun _ => rfl) (so_iconst (i := 1) (by decide +kernel) (by decide +kernel) (by decide) (so_iadd (by decide +kernel) (so_putI (C := RX9) (T := TX9) (N := 38) (ty0 := tyX9) (by decide +kernel) rfl kin_9 tyX9_ok nmX9 (by decide) kw_499 rfl rfl rfl (so_iinc (z := 1) (by decide +kernel) (by decide +kernel) (by decide) (by decide +kernel) (so_goto (off := -58) (tgt := 316) (by decide +kernel) (by decide) (hj 130 _ _ rfl)))))))))))))) (callvE_imp BK_I)))))))))))))))))))))
set_option maxRecDepth 20000 in
theorem sb_172_316 {j : AJ} (hj : SJ j) : Sound kM_172 316 (mb_172_316 j) := by
  refine so_weak (sc_172_316 hj) (fun L S h r q0 => ?_)
  obtain ⟨c0, L0_, rfl, q1⟩ := w_C_some q0
  obtain ⟨i1, L1_, rfl, q2⟩ := w_I_some q1
  obtain ⟨i2, L2_, rfl, q3⟩ := w_I_some q2
  obtain ⟨i3, L3_, rfl, q4⟩ := w_I_some q3
  obtain ⟨i4, L4_, rfl, q5⟩ := w_I_some q4
  obtain ⟨i5, L5_, rfl, q6⟩ := w_I_some q5
  obtain ⟨i6, L6_, rfl, q7⟩ := w_I_some q6
  obtain ⟨i7, L7_, rfl, q8⟩ := w_I_some q7
  obtain ⟨i8, L8_, rfl, q9⟩ := w_I_some q8
  obtain ⟨i9, L9_, rfl, q10⟩ := w_I_some q9
  obtain ⟨rfl, q11⟩ := w_0_some q10
  obtain ⟨rfl, q12⟩ := a_nil_some q11
  exact q12
set_option maxRecDepth 20000 in
theorem sc_172_313 {j : AJ} (hj : SJ j) : Sound kM_172 313 (mc_172_313 j) := by
  unfold mc_172_313
  exact so_iconst (i := 0) (by decide +kernel) (by decide +kernel) (by decide) (so_istore (by decide +kernel) (by decide +kernel) (sb_172_316 hj))
set_option maxRecDepth 20000 in
theorem sb_172_313 {j : AJ} (hj : SJ j) : Sound kM_172 313 (mb_172_313 j) := by
  refine so_weak (sc_172_313 hj) (fun L S h r q0 => ?_)
  obtain ⟨c0, L0_, rfl, q1⟩ := w_C_some q0
  obtain ⟨i1, L1_, rfl, q2⟩ := w_I_some q1
  obtain ⟨i2, L2_, rfl, q3⟩ := w_I_some q2
  obtain ⟨i3, L3_, rfl, q4⟩ := w_I_some q3
  obtain ⟨i4, L4_, rfl, q5⟩ := w_I_some q4
  obtain ⟨i5, L5_, rfl, q6⟩ := w_I_some q5
  obtain ⟨i6, L6_, rfl, q7⟩ := w_I_some q6
  obtain ⟨i7, L7_, rfl, q8⟩ := w_I_some q7
  obtain ⟨i8, L8_, rfl, q9⟩ := w_I_some q8
  obtain ⟨i9, L9_, rfl, q10⟩ := w_I_some q9
  obtain ⟨rfl, q11⟩ := w_0_some q10
  obtain ⟨rfl, q12⟩ := a_nil_some q11
  exact q12
set_option maxRecDepth 20000 in
theorem sc_172_252 {j : AJ} (hj : SJ j) : Sound kM_172 252 (mc_172_252 j) := by
  unfold mc_172_252
  exact so_iload (by decide +kernel) (so_aload_n (f := 0) (by decide +kernel) rfl (so_get (C := RX9) (T := TX9) (N := 38) (by decide +kernel) rfl kin_9 (by decide) kw_454 (b := true) rfl (fun _ => rfl) (so_iload (by decide +kernel) (so_iald (by decide +kernel) (so_icmp (off := 52) (tgt := 313) (by decide +kernel) (by decide) rfl (sb_172_313 hj) (so_aload_n (f := 0) (by decide +kernel) rfl (so_get (C := RX9) (T := TX9) (N := 38) (by decide +kernel) rfl kin_9 (by decide) kw_460 (b := true) rfl (fun _ => rfl) (so_aload_n (f := 0) (by decide +kernel) rfl (so_get (C := RX9) (T := TX9) (N := 38) (by decide +kernel) rfl kin_9 (by decide) kw_499 (b := false) rfl (fun _ => rfl) (so_aload_n (f := 0) (by decide +kernel) rfl (so_get (C := RX9) (T := TX9) (N := 38) (by decide +kernel) rfl kin_9 (by decide) kw_463 (b := true) rfl (fun _ => rfl) (so_aload_n (f := 0) (by decide +kernel) rfl (so_get (C := RX9) (T := TX9) (N := 38) (by decide +kernel) rfl kin_9 (by decide) kw_476 (b := true) rfl (fun _ => rfl) (so_aload_n (f := 0) (by decide +kernel) rfl (so_iload (by decide +kernel) (so_iload (by decide +kernel) (so_weak (so_callV (C := RX9) (T := TX9) (N0 := 38) (by decide +kernel) kcf_150 rfl rfl rfl kw_489 kw_490 kw_491 (by decide +kernel) (sb_150_0 hj) (so_iald (by decide +kernel) (so_iload (by decide +kernel) (so_imul (by decide +kernel) (so_iload (by decide +kernel) (so_iadd (by decide +kernel) (so_iald (by decide +kernel) (so_iast (by decide +kernel) (so_aload_n (f := 0) (by decide +kernel) rfl (so_dup (by decide +kernel) (so_get (C := RX9) (T := TX9) (N := 38) (by decide +kernel) rfl kin_9 (by decide) kw_499 (b := false) rfl (fun _ => rfl) (so_iconst (i := 1) (by decide +kernel) (by decide +kernel) (by decide) (so_iadd (by decide +kernel) (so_putI (C := RX9) (T := TX9) (N := 38) (ty0 := tyX9) (by decide +kernel) rfl kin_9 tyX9_ok nmX9 (by decide) kw_499 rfl rfl rfl (so_iinc (z := 1) (by decide +kernel) (by decide +kernel) (by decide) (by decide +kernel) (so_goto (off := -58) (tgt := 252) (by decide +kernel) (by decide) (hj 129 _ _ rfl))))))))))))))))) (callvE_imp BK_I))))))))))))))))))
set_option maxRecDepth 20000 in
theorem sb_172_252 {j : AJ} (hj : SJ j) : Sound kM_172 252 (mb_172_252 j) := by
  refine so_weak (sc_172_252 hj) (fun L S h r q0 => ?_)
  obtain ⟨c0, L0_, rfl, q1⟩ := w_C_some q0
  obtain ⟨i1, L1_, rfl, q2⟩ := w_I_some q1
  obtain ⟨i2, L2_, rfl, q3⟩ := w_I_some q2
  obtain ⟨i3, L3_, rfl, q4⟩ := w_I_some q3
  obtain ⟨i4, L4_, rfl, q5⟩ := w_I_some q4
  obtain ⟨i5, L5_, rfl, q6⟩ := w_I_some q5
  obtain ⟨i6, L6_, rfl, q7⟩ := w_I_some q6
  obtain ⟨i7, L7_, rfl, q8⟩ := w_I_some q7
  obtain ⟨i8, L8_, rfl, q9⟩ := w_I_some q8
  obtain ⟨i9, L9_, rfl, q10⟩ := w_I_some q9
  obtain ⟨rfl, q11⟩ := w_0_some q10
  obtain ⟨rfl, q12⟩ := a_nil_some q11
  exact q12
set_option maxRecDepth 20000 in
theorem sc_172_249 {j : AJ} (hj : SJ j) : Sound kM_172 249 (mc_172_249 j) := by
  unfold mc_172_249
  exact so_iconst (i := 0) (by decide +kernel) (by decide +kernel) (by decide) (so_istore (by decide +kernel) (by decide +kernel) (sb_172_252 hj))
set_option maxRecDepth 20000 in
theorem sb_172_249 {j : AJ} (hj : SJ j) : Sound kM_172 249 (mb_172_249 j) := by
  refine so_weak (sc_172_249 hj) (fun L S h r q0 => ?_)
  obtain ⟨c0, L0_, rfl, q1⟩ := w_C_some q0
  obtain ⟨i1, L1_, rfl, q2⟩ := w_I_some q1
  obtain ⟨i2, L2_, rfl, q3⟩ := w_I_some q2
  obtain ⟨i3, L3_, rfl, q4⟩ := w_I_some q3
  obtain ⟨i4, L4_, rfl, q5⟩ := w_I_some q4
  obtain ⟨i5, L5_, rfl, q6⟩ := w_I_some q5
  obtain ⟨i6, L6_, rfl, q7⟩ := w_I_some q6
  obtain ⟨i7, L7_, rfl, q8⟩ := w_I_some q7
  obtain ⟨i8, L8_, rfl, q9⟩ := w_I_some q8
  obtain ⟨i9, L9_, rfl, q10⟩ := w_I_some q9
  obtain ⟨rfl, q11⟩ := w_0_some q10
  obtain ⟨rfl, q12⟩ := a_nil_some q11
  exact q12
set_option maxRecDepth 20000 in
theorem sc_172_188 {j : AJ} (hj : SJ j) : Sound kM_172 188 (mc_172_188 j) := by
  unfold mc_172_188
  exact so_iload (by decide +kernel) (so_aload_n (f := 0) (by decide +kernel) rfl (so_get (C := RX9) (T := TX9) (N := 38) (by decide +kernel) rfl kin_9 (by decide) kw_452 (b := true) rfl (fun _ => rfl) (so_iload (by decide +kernel) (so_iald (by decide +kernel) (so_icmp (off := 52) (tgt := 249) (by decide +kernel) (by decide) rfl (sb_172_249 hj) (so_aload_n (f := 0) (by decide +kernel) rfl (so_get (C := RX9) (T := TX9) (N := 38) (by decide +kernel) rfl kin_9 (by decide) kw_459 (b := true) rfl (fun _ => rfl) (so_aload_n (f := 0) (by decide +kernel) rfl (so_get (C := RX9) (T := TX9) (N := 38) (by decide +kernel) rfl kin_9 (by decide) kw_495 (b := false) rfl (fun _ => rfl) (so_aload_n (f := 0) (by decide +kernel) rfl (so_get (C := RX9) (T := TX9) (N := 38) (by decide +kernel) rfl kin_9 (by decide) kw_463 (b := true) rfl (fun _ => rfl) (so_iload (by decide +kernel) (so_iload (by decide +kernel) (so_imul (by decide +kernel) (so_aload_n (f := 0) (by decide +kernel) rfl (so_get (C := RX9) (T := TX9) (N := 38) (by decide +kernel) rfl kin_9 (by decide) kw_477 (b := true) rfl (fun _ => rfl) (so_aload_n (f := 0) (by decide +kernel) rfl (so_iload (by decide +kernel) (so_iload (by decide +kernel) (so_weak (so_callV (C := RX9) (T := TX9) (N0 := 38) (by decide +kernel) kcf_149 rfl rfl rfl kw_486 kw_487 kw_488 (by decide +kernel) (sb_149_0 hj) (so_iald (by decide +kernel) (so_iadd (by decide +kernel) (so_iald (by decide +kernel) (so_iast (by decide +kernel) (so_aload_n (f := 0) (by decide +kernel) rfl (so_dup (by decide +kernel) (so_get (C := RX9) (T := TX9) (N := 38) (by decide +kernel) rfl kin_9 (by decide) kw_495 (b := false) rfl (fun _ => rfl) (so_iconst (i := 1) (by decide +kernel) (by decide +kernel) (by decide) (so_iadd (by decide +kernel) (so_putI (C := RX9) (T := TX9) (N := 38) (ty0 := tyX9) (by decide +kernel) rfl kin_9 tyX9_ok nmX9 (by decide) kw_495 rfl rfl rfl (so_iinc (z := 1) (by decide +kernel) (by decide +kernel) (by decide) (by decide +kernel) (so_goto (off := -58) (tgt := 188) (by decide +kernel) (by decide) (hj 128 _ _ rfl)))))))))))))) (callvE_imp BK_I)))))))))))))))))))))
set_option maxRecDepth 20000 in
theorem sb_172_188 {j : AJ} (hj : SJ j) : Sound kM_172 188 (mb_172_188 j) := by
  refine so_weak (sc_172_188 hj) (fun L S h r q0 => ?_)
  obtain ⟨c0, L0_, rfl, q1⟩ := w_C_some q0
  obtain ⟨i1, L1_, rfl, q2⟩ := w_I_some q1
  obtain ⟨i2, L2_, rfl, q3⟩ := w_I_some q2
  obtain ⟨i3, L3_, rfl, q4⟩ := w_I_some q3
  obtain ⟨i4, L4_, rfl, q5⟩ := w_I_some q4
  obtain ⟨i5, L5_, rfl, q6⟩ := w_I_some q5
  obtain ⟨i6, L6_, rfl, q7⟩ := w_I_some q6
  obtain ⟨i7, L7_, rfl, q8⟩ := w_I_some q7
  obtain ⟨i8, L8_, rfl, q9⟩ := w_I_some q8
  obtain ⟨i9, L9_, rfl, q10⟩ := w_I_some q9
  obtain ⟨rfl, q11⟩ := w_0_some q10
  obtain ⟨rfl, q12⟩ := a_nil_some q11
  exact q12
set_option maxRecDepth 20000 in
theorem sc_172_185 {j : AJ} (hj : SJ j) : Sound kM_172 185 (mc_172_185 j) := by
  unfold mc_172_185
  exact so_iconst (i := 0) (by decide +kernel) (by decide +kernel) (by decide) (so_istore (by decide +kernel) (by decide +kernel) (sb_172_188 hj))
set_option maxRecDepth 20000 in
theorem sb_172_185 {j : AJ} (hj : SJ j) : Sound kM_172 185 (mb_172_185 j) := by
  refine so_weak (sc_172_185 hj) (fun L S h r q0 => ?_)
  obtain ⟨c0, L0_, rfl, q1⟩ := w_C_some q0
  obtain ⟨i1, L1_, rfl, q2⟩ := w_I_some q1
  obtain ⟨i2, L2_, rfl, q3⟩ := w_I_some q2
  obtain ⟨i3, L3_, rfl, q4⟩ := w_I_some q3
  obtain ⟨i4, L4_, rfl, q5⟩ := w_I_some q4
  obtain ⟨i5, L5_, rfl, q6⟩ := w_I_some q5
  obtain ⟨i6, L6_, rfl, q7⟩ := w_I_some q6
  obtain ⟨i7, L7_, rfl, q8⟩ := w_I_some q7
  obtain ⟨i8, L8_, rfl, q9⟩ := w_I_some q8
  obtain ⟨i9, L9_, rfl, q10⟩ := w_I_some q9
  obtain ⟨rfl, q11⟩ := w_0_some q10
  obtain ⟨rfl, q12⟩ := a_nil_some q11
  exact q12
set_option maxRecDepth 20000 in
theorem sc_172_124 {j : AJ} (hj : SJ j) : Sound kM_172 124 (mc_172_124 j) := by
  unfold mc_172_124
  exact so_iload (by decide +kernel) (so_aload_n (f := 0) (by decide +kernel) rfl (so_get (C := RX9) (T := TX9) (N := 38) (by decide +kernel) rfl kin_9 (by decide) kw_452 (b := true) rfl (fun _ => rfl) (so_iload (by decide +kernel) (so_iald (by decide +kernel) (so_icmp (off := 52) (tgt := 185) (by decide +kernel) (by decide) rfl (sb_172_185 hj) (so_aload_n (f := 0) (by decide +kernel) rfl (so_get (C := RX9) (T := TX9) (N := 38) (by decide +kernel) rfl kin_9 (by decide) kw_459 (b := true) rfl (fun _ => rfl) (so_aload_n (f := 0) (by decide +kernel) rfl (so_get (C := RX9) (T := TX9) (N := 38) (by decide +kernel) rfl kin_9 (by decide) kw_495 (b := false) rfl (fun _ => rfl) (so_aload_n (f := 0) (by decide +kernel) rfl (so_get (C := RX9) (T := TX9) (N := 38) (by decide +kernel) rfl kin_9 (by decide) kw_463 (b := true) rfl (fun _ => rfl) (so_aload_n (f := 0) (by decide +kernel) rfl (so_get (C := RX9) (T := TX9) (N := 38) (by decide +kernel) rfl kin_9 (by decide) kw_476 (b := true) rfl (fun _ => rfl) (so_aload_n (f := 0) (by decide +kernel) rfl (so_iload (by decide +kernel) (so_iload (by decide +kernel) (so_weak (so_callV (C := RX9) (T := TX9) (N0 := 38) (by decide +kernel) kcf_149 rfl rfl rfl kw_486 kw_487 kw_488 (by decide +kernel) (sb_149_0 hj) (so_iald (by decide +kernel) (so_iload (by decide +kernel) (so_imul (by decide +kernel) (so_iload (by decide +kernel) (so_iadd (by decide +kernel) (so_iald (by decide +kernel) (so_iast (by decide +kernel) (so_aload_n (f := 0) (by decide +kernel) rfl (so_dup (by decide +kernel) (so_get (C := RX9) (T := TX9) (N := 38) (by decide +kernel) rfl kin_9 (by decide) kw_495 (b := false) rfl (fun _ => rfl) (so_iconst (i := 1) (by decide +kernel) (by decide +kernel) (by decide) (so_iadd (by decide +kernel) (so_putI (C := RX9) (T := TX9) (N := 38) (ty0 := tyX9) (by decide +kernel) rfl kin_9 tyX9_ok nmX9 (by decide) kw_495 rfl rfl rfl (so_iinc (z := 1) (by decide +kernel) (by decide +kernel) (by decide) (by decide +kernel) (so_goto (off := -58) (tgt := 124) (by decide +kernel) (by decide) (hj 127 _ _ rfl))))))))))))))))) (callvE_imp BK_I))))))))))))))))))
set_option maxRecDepth 20000 in
theorem sb_172_124 {j : AJ} (hj : SJ j) : Sound kM_172 124 (mb_172_124 j) := by
  refine so_weak (sc_172_124 hj) (fun L S h r q0 => ?_)
  obtain ⟨c0, L0_, rfl, q1⟩ := w_C_some q0
  obtain ⟨i1, L1_, rfl, q2⟩ := w_I_some q1
  obtain ⟨i2, L2_, rfl, q3⟩ := w_I_some q2
  obtain ⟨i3, L3_, rfl, q4⟩ := w_I_some q3
  obtain ⟨i4, L4_, rfl, q5⟩ := w_I_some q4
  obtain ⟨i5, L5_, rfl, q6⟩ := w_I_some q5
  obtain ⟨i6, L6_, rfl, q7⟩ := w_I_some q6
  obtain ⟨i7, L7_, rfl, q8⟩ := w_I_some q7
  obtain ⟨i8, L8_, rfl, q9⟩ := w_I_some q8
  obtain ⟨i9, L9_, rfl, q10⟩ := w_I_some q9
  obtain ⟨rfl, q11⟩ := w_0_some q10
  obtain ⟨rfl, q12⟩ := a_nil_some q11
  exact q12
set_option maxRecDepth 20000 in
theorem sc_172_92 {j : AJ} (hj : SJ j) : Sound kM_172 92 (mc_172_92 j) := by
  unfold mc_172_92
  exact so_iload (by decide +kernel) (so_iload (by decide +kernel) (so_icmp (off := 304) (tgt := 400) (by decide +kernel) (by decide) rfl (sb_172_400 hj) (so_aload_n (f := 0) (by decide +kernel) rfl (so_get (C := RX9) (T := TX9) (N := 38) (by decide +kernel) rfl kin_9 (by decide) kw_474 (b := true) rfl (fun _ => rfl) (so_iload (by decide +kernel) (so_iald (by decide +kernel) (so_istore (by decide +kernel) (by decide +kernel) (so_aload_n (f := 0) (by decide +kernel) rfl (so_get (C := RX9) (T := TX9) (N := 38) (by decide +kernel) rfl kin_9 (by decide) kw_475 (b := true) rfl (fun _ => rfl) (so_iload (by decide +kernel) (so_iald (by decide +kernel) (so_istore (by decide +kernel) (by decide +kernel) (so_aload_n (f := 0) (by decide +kernel) rfl (so_weak (so_callV (C := RX9) (T := TX9) (N0 := 38) (by decide +kernel) kcf_161 rfl rfl rfl kw_525 kw_526 kw_527 (by decide +kernel) (sb_161_0 hj) (so_iconst (i := 0) (by decide +kernel) (by decide +kernel) (by decide) (so_istore (by decide +kernel) (by decide +kernel) (sb_172_124 hj)))) (callvE_imp BK_N)))))))))))))))
set_option maxRecDepth 20000 in
theorem sb_172_92 {j : AJ} (hj : SJ j) : Sound kM_172 92 (mb_172_92 j) := by
  refine so_weak (sc_172_92 hj) (fun L S h r q0 => ?_)
  obtain ⟨c0, L0_, rfl, q1⟩ := w_C_some q0
  obtain ⟨i1, L1_, rfl, q2⟩ := w_I_some q1
  obtain ⟨i2, L2_, rfl, q3⟩ := w_I_some q2
  obtain ⟨i3, L3_, rfl, q4⟩ := w_I_some q3
  obtain ⟨i4, L4_, rfl, q5⟩ := w_I_some q4
  obtain ⟨i5, L5_, rfl, q6⟩ := w_I_some q5
  obtain ⟨i6, L6_, rfl, q7⟩ := w_I_some q6
  obtain ⟨x7, L7_, rfl, q8⟩ := w_X_some q7
  obtain ⟨x8, L8_, rfl, q9⟩ := w_X_some q8
  obtain ⟨x9, L9_, rfl, q10⟩ := w_X_some q9
  obtain ⟨rfl, q11⟩ := w_0_some q10
  obtain ⟨rfl, q12⟩ := a_nil_some q11
  exact q12
set_option maxRecDepth 20000 in
theorem sc_172_83 {j : AJ} (hj : SJ j) : Sound kM_172 83 (mc_172_83 j) := by
  unfold mc_172_83
  exact so_iload (by decide +kernel) (so_iload_n (f := 3) (by decide +kernel) rfl (so_icmp (off := 320) (tgt := 406) (by decide +kernel) (by decide) rfl (sb_172_406 hj) (so_iconst (i := 0) (by decide +kernel) (by decide +kernel) (by decide) (so_istore (by decide +kernel) (by decide +kernel) (sb_172_92 hj)))))
set_option maxRecDepth 20000 in
theorem sb_172_83 {j : AJ} (hj : SJ j) : Sound kM_172 83 (mb_172_83 j) := by
  refine so_weak (sc_172_83 hj) (fun L S h r q0 => ?_)
  obtain ⟨c0, L0_, rfl, q1⟩ := w_C_some q0
  obtain ⟨i1, L1_, rfl, q2⟩ := w_I_some q1
  obtain ⟨i2, L2_, rfl, q3⟩ := w_I_some q2
  obtain ⟨i3, L3_, rfl, q4⟩ := w_I_some q3
  obtain ⟨i4, L4_, rfl, q5⟩ := w_I_some q4
  obtain ⟨i5, L5_, rfl, q6⟩ := w_I_some q5
  obtain ⟨x6, L6_, rfl, q7⟩ := w_X_some q6
  obtain ⟨x7, L7_, rfl, q8⟩ := w_X_some q7
  obtain ⟨x8, L8_, rfl, q9⟩ := w_X_some q8
  obtain ⟨x9, L9_, rfl, q10⟩ := w_X_some q9
  obtain ⟨rfl, q11⟩ := w_0_some q10
  obtain ⟨rfl, q12⟩ := a_nil_some q11
  exact q12
set_option maxRecDepth 20000 in
theorem sc_172_80 {j : AJ} (hj : SJ j) : Sound kM_172 80 (mc_172_80 j) := by
  unfold mc_172_80
  exact so_iconst (i := 0) (by decide +kernel) (by decide +kernel) (by decide) (so_istore (by decide +kernel) (by decide +kernel) (sb_172_83 hj))
set_option maxRecDepth 20000 in
theorem sb_172_80 {j : AJ} (hj : SJ j) : Sound kM_172 80 (mb_172_80 j) := by
  refine so_weak (sc_172_80 hj) (fun L S h r q0 => ?_)
  obtain ⟨c0, L0_, rfl, q1⟩ := w_C_some q0
  obtain ⟨i1, L1_, rfl, q2⟩ := w_I_some q1
  obtain ⟨i2, L2_, rfl, q3⟩ := w_I_some q2
  obtain ⟨i3, L3_, rfl, q4⟩ := w_I_some q3
  obtain ⟨i4, L4_, rfl, q5⟩ := w_I_some q4
  obtain ⟨i5, L5_, rfl, q6⟩ := w_I_some q5
  obtain ⟨L6_, rfl, q7⟩ := w_N_some q6
  obtain ⟨L7_, rfl, q8⟩ := w_N_some q7
  obtain ⟨L8_, rfl, q9⟩ := w_N_some q8
  obtain ⟨L9_, rfl, q10⟩ := w_N_some q9
  obtain ⟨rfl, q11⟩ := w_0_some q10
  obtain ⟨rfl, q12⟩ := a_nil_some q11
  exact q12
set_option maxRecDepth 20000 in
theorem sc_172_53 {j : AJ} (hj : SJ j) : Sound kM_172 53 (mc_172_53 j) := by
  unfold mc_172_53
  exact so_iload (by decide +kernel) (so_iload (by decide +kernel) (so_icmp (off := 23) (tgt := 80) (by decide +kernel) (by decide) rfl (sb_172_80 hj) (so_aload_n (f := 0) (by decide +kernel) rfl (so_get (C := RX9) (T := TX9) (N := 38) (by decide +kernel) rfl kin_9 (by decide) kw_477 (b := true) rfl (fun _ => rfl) (so_aload_n (f := 0) (by decide +kernel) rfl (so_get (C := RX9) (T := TX9) (N := 38) (by decide +kernel) rfl kin_9 (by decide) kw_475 (b := true) rfl (fun _ => rfl) (so_iload (by decide +kernel) (so_iald (by decide +kernel) (so_iload (by decide +kernel) (so_iast (by decide +kernel) (so_iinc (z := 1) (by decide +kernel) (by decide +kernel) (by decide) (by decide +kernel) (so_goto (off := -24) (tgt := 53) (by decide +kernel) (by decide) (hj 126 _ _ rfl)))))))))))))
set_option maxRecDepth 20000 in
theorem sb_172_53 {j : AJ} (hj : SJ j) : Sound kM_172 53 (mb_172_53 j) := by
  refine so_weak (sc_172_53 hj) (fun L S h r q0 => ?_)
  obtain ⟨c0, L0_, rfl, q1⟩ := w_C_some q0
  obtain ⟨i1, L1_, rfl, q2⟩ := w_I_some q1
  obtain ⟨i2, L2_, rfl, q3⟩ := w_I_some q2
  obtain ⟨i3, L3_, rfl, q4⟩ := w_I_some q3
  obtain ⟨i4, L4_, rfl, q5⟩ := w_I_some q4
  obtain ⟨i5, L5_, rfl, q6⟩ := w_I_some q5
  obtain ⟨L6_, rfl, q7⟩ := w_N_some q6
  obtain ⟨L7_, rfl, q8⟩ := w_N_some q7
  obtain ⟨L8_, rfl, q9⟩ := w_N_some q8
  obtain ⟨L9_, rfl, q10⟩ := w_N_some q9
  obtain ⟨rfl, q11⟩ := w_0_some q10
  obtain ⟨rfl, q12⟩ := a_nil_some q11
  exact q12
set_option maxRecDepth 20000 in
theorem sc_172_50 {j : AJ} (hj : SJ j) : Sound kM_172 50 (mc_172_50 j) := by
  unfold mc_172_50
  exact so_iconst (i := 0) (by decide +kernel) (by decide +kernel) (by decide) (so_istore (by decide +kernel) (by decide +kernel) (sb_172_53 hj))
set_option maxRecDepth 20000 in
theorem sb_172_50 {j : AJ} (hj : SJ j) : Sound kM_172 50 (mb_172_50 j) := by
  refine so_weak (sc_172_50 hj) (fun L S h r q0 => ?_)
  obtain ⟨c0, L0_, rfl, q1⟩ := w_C_some q0
  obtain ⟨i1, L1_, rfl, q2⟩ := w_I_some q1
  obtain ⟨i2, L2_, rfl, q3⟩ := w_I_some q2
  obtain ⟨i3, L3_, rfl, q4⟩ := w_I_some q3
  obtain ⟨i4, L4_, rfl, q5⟩ := w_I_some q4
  obtain ⟨i5, L5_, rfl, q6⟩ := w_I_some q5
  obtain ⟨L6_, rfl, q7⟩ := w_N_some q6
  obtain ⟨L7_, rfl, q8⟩ := w_N_some q7
  obtain ⟨L8_, rfl, q9⟩ := w_N_some q8
  obtain ⟨L9_, rfl, q10⟩ := w_N_some q9
  obtain ⟨rfl, q11⟩ := w_0_some q10
  obtain ⟨rfl, q12⟩ := a_nil_some q11
  exact q12
set_option maxRecDepth 20000 in
theorem sc_172_24 {j : AJ} (hj : SJ j) : Sound kM_172 24 (mc_172_24 j) := by
  unfold mc_172_24
  exact so_iload (by decide +kernel) (so_iload_n (f := 3) (by decide +kernel) rfl (so_icmp (off := 23) (tgt := 50) (by decide +kernel) (by decide) rfl (sb_172_50 hj) (so_aload_n (f := 0) (by decide +kernel) rfl (so_get (C := RX9) (T := TX9) (N := 38) (by decide +kernel) rfl kin_9 (by decide) kw_476 (b := true) rfl (fun _ => rfl) (so_aload_n (f := 0) (by decide +kernel) rfl (so_get (C := RX9) (T := TX9) (N := 38) (by decide +kernel) rfl kin_9 (by decide) kw_474 (b := true) rfl (fun _ => rfl) (so_iload (by decide +kernel) (so_iald (by decide +kernel) (so_iload (by decide +kernel) (so_iast (by decide +kernel) (so_iinc (z := 1) (by decide +kernel) (by decide +kernel) (by decide) (by decide +kernel) (so_goto (off := -23) (tgt := 24) (by decide +kernel) (by decide) (hj 125 _ _ rfl)))))))))))))
set_option maxRecDepth 20000 in
theorem sb_172_24 {j : AJ} (hj : SJ j) : Sound kM_172 24 (mb_172_24 j) := by
  refine so_weak (sc_172_24 hj) (fun L S h r q0 => ?_)
  obtain ⟨c0, L0_, rfl, q1⟩ := w_C_some q0
  obtain ⟨i1, L1_, rfl, q2⟩ := w_I_some q1
  obtain ⟨i2, L2_, rfl, q3⟩ := w_I_some q2
  obtain ⟨i3, L3_, rfl, q4⟩ := w_I_some q3
  obtain ⟨i4, L4_, rfl, q5⟩ := w_I_some q4
  obtain ⟨i5, L5_, rfl, q6⟩ := w_I_some q5
  obtain ⟨L6_, rfl, q7⟩ := w_N_some q6
  obtain ⟨L7_, rfl, q8⟩ := w_N_some q7
  obtain ⟨L8_, rfl, q9⟩ := w_N_some q8
  obtain ⟨L9_, rfl, q10⟩ := w_N_some q9
  obtain ⟨rfl, q11⟩ := w_0_some q10
  obtain ⟨rfl, q12⟩ := a_nil_some q11
  exact q12
set_option maxRecDepth 20000 in
theorem sc_172_0 {j : AJ} (hj : SJ j) : Sound kM_172 0 (mc_172_0 j) := by
  unfold mc_172_0
  exact so_aload_n (f := 0) (by decide +kernel) rfl (so_iload_n (f := 1) (by decide +kernel) rfl (so_aload_n (f := 0) (by decide +kernel) rfl (so_get (C := RX9) (T := TX9) (N := 38) (by decide +kernel) rfl kin_9 (by decide) kw_474 (b := true) rfl (fun _ => rfl) (so_weak (so_callV (C := RX9) (T := TX9) (N0 := 38) (by decide +kernel) kcf_171 rfl rfl rfl kw_548 kw_549 kw_550 (by decide +kernel) (sb_171_0 hj) (so_istore_n (f := 3) (by decide +kernel) rfl (by decide +kernel) (so_aload_n (f := 0) (by decide +kernel) rfl (so_iload_n (f := 2) (by decide +kernel) rfl (so_aload_n (f := 0) (by decide +kernel) rfl (so_get (C := RX9) (T := TX9) (N := 38) (by decide +kernel) rfl kin_9 (by decide) kw_475 (b := true) rfl (fun _ => rfl) (so_weak (so_callV (C := RX9) (T := TX9) (N0 := 38) (by decide +kernel) kcf_171 rfl rfl rfl kw_548 kw_549 kw_550 (by decide +kernel) (sb_171_0 hj) (so_istore (by decide +kernel) (by decide +kernel) (so_iconst (i := 0) (by decide +kernel) (by decide +kernel) (by decide) (so_istore (by decide +kernel) (by decide +kernel) (sb_172_24 hj))))) (callvE_imp BK_I)))))))) (callvE_imp BK_I)))))
set_option maxRecDepth 20000 in
theorem sb_172_0 {j : AJ} (hj : SJ j) : Sound kM_172 0 (mb_172_0 j) := by
  refine so_weak (sc_172_0 hj) (fun L S h r q0 => ?_)
  obtain ⟨c0, L0_, rfl, q1⟩ := w_C_some q0
  obtain ⟨i1, L1_, rfl, q2⟩ := w_I_some q1
  obtain ⟨i2, L2_, rfl, q3⟩ := w_I_some q2
  obtain ⟨L3_, rfl, q4⟩ := w_N_some q3
  obtain ⟨L4_, rfl, q5⟩ := w_N_some q4
  obtain ⟨L5_, rfl, q6⟩ := w_N_some q5
  obtain ⟨L6_, rfl, q7⟩ := w_N_some q6
  obtain ⟨L7_, rfl, q8⟩ := w_N_some q7
  obtain ⟨L8_, rfl, q9⟩ := w_N_some q8
  obtain ⟨L9_, rfl, q10⟩ := w_N_some q9
  obtain ⟨rfl, q11⟩ := w_0_some q10
  obtain ⟨rfl, q12⟩ := a_nil_some q11
  exact q12
