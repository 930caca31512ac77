/-! ===== the blocks are sound ===== -/
set_option maxRecDepth 20000 in
theorem sc_158_114 {j : AJ} (hj : SJ j) : Sound kM_158 114 (mc_158_114 j) := by
  unfold mc_158_114
  exact so_iload_n (f := 2) (by decide +kernel) rfl (so_retz (by decide +kernel) rfl)
set_option maxRecDepth 20000 in
theorem sb_158_114 {j : AJ} (hj : SJ j) : Sound kM_158 114 (mb_158_114 j) := by
  refine so_weak (sc_158_114 hj) (fun L S h r q0 => ?_)
  obtain ⟨c0, L0_, rfl, q1⟩ := w_C_some q0
  obtain ⟨i1, L1_, rfl, q2⟩ := w_I_some q1
  obtain ⟨i2, L2_, rfl, q3⟩ := w_I_some q2
  obtain ⟨i3, L3_, rfl, q4⟩ := w_I_some q3
  obtain ⟨rfl, q5⟩ := w_0_some q4
  obtain ⟨rfl, q6⟩ := a_nil_some q5
  exact q6
set_option maxRecDepth 20000 in
theorem sc_158_107 {j : AJ} (hj : SJ j) : Sound kM_158 107 (mc_158_107 j) := by
  unfold mc_158_107
  exact so_istore_n (f := 2) (by decide +kernel) rfl (by decide +kernel) (so_iinc (z := 1) (by decide +kernel) (by decide +kernel) (by decide) (by decide +kernel) (so_goto (off := -36) (tgt := 75) (by decide +kernel) (by decide) (hj 96 _ _ rfl)))
set_option maxRecDepth 20000 in
theorem sb_158_107 {j : AJ} (hj : SJ j) : Sound kM_158 107 (mb_158_107 j) := by
  refine so_weak (sc_158_107 hj) (fun L S h r q0 => ?_)
  obtain ⟨c0, L0_, rfl, q1⟩ := w_C_some q0
  obtain ⟨i1, L1_, rfl, q2⟩ := w_I_some q1
  obtain ⟨i2, L2_, rfl, q3⟩ := w_I_some q2
  obtain ⟨i3, L3_, rfl, q4⟩ := w_I_some q3
  obtain ⟨rfl, q5⟩ := w_0_some q4
  obtain ⟨s0, S0_, rfl, q6⟩ := a_popI_some q5
  obtain ⟨rfl, q7⟩ := a_nil_some q6
  exact q7
set_option maxRecDepth 20000 in
theorem sc_158_106 {j : AJ} (hj : SJ j) : Sound kM_158 106 (mc_158_106 j) := by
  unfold mc_158_106
  exact so_iconst (i := 0) (by decide +kernel) (by decide +kernel) (by decide) (sb_158_107 hj)
set_option maxRecDepth 20000 in
theorem sb_158_106 {j : AJ} (hj : SJ j) : Sound kM_158 106 (mb_158_106 j) := by
  refine so_weak (sc_158_106 hj) (fun L S h r q0 => ?_)
  obtain ⟨c0, L0_, rfl, q1⟩ := w_C_some q0
  obtain ⟨i1, L1_, rfl, q2⟩ := w_I_some q1
  obtain ⟨i2, L2_, rfl, q3⟩ := w_I_some q2
  obtain ⟨i3, L3_, rfl, q4⟩ := w_I_some q3
  obtain ⟨rfl, q5⟩ := w_0_some q4
  obtain ⟨rfl, q6⟩ := a_nil_some q5
  exact q6
set_option maxRecDepth 20000 in
theorem sc_158_75 {j : AJ} (hj : SJ j) : Sound kM_158 75 (mc_158_75 j) := by
  unfold mc_158_75
  exact so_iload_n (f := 3) (by decide +kernel) rfl (so_aload_n (f := 0) (by decide +kernel) rfl (so_get (C := RX9) (T := TX9) (N := 38) (by decide +kernel) rfl kin_9 (by decide) kw_499 (b := false) rfl (fun _ => rfl) (so_icmp (off := 34) (tgt := 114) (by decide +kernel) (by decide) rfl (sb_158_114 hj) (so_iload_n (f := 2) (by decide +kernel) rfl (so_if (off := 30) (tgt := 114) (by decide +kernel) (by decide) rfl (sb_158_114 hj) (so_aload_n (f := 0) (by decide +kernel) rfl (so_iload_n (f := 1) (by decide +kernel) rfl (so_iload_n (f := 3) (by decide +kernel) rfl (so_weak (so_callV (C := RX9) (T := TX9) (N0 := 38) (by decide +kernel) kcf_150 rfl rfl rfl kw_489 kw_490 kw_491 (by decide +kernel) (sb_150_0 hj) (so_aload_n (f := 0) (by decide +kernel) rfl (so_get (C := RX9) (T := TX9) (N := 38) (by decide +kernel) rfl kin_9 (by decide) kw_460 (b := true) rfl (fun _ => rfl) (so_iload_n (f := 3) (by decide +kernel) rfl (so_iald (by decide +kernel) (so_icmp (off := 7) (tgt := 106) (by decide +kernel) (by decide) rfl (sb_158_106 hj) (so_iconst (i := 1) (by decide +kernel) (by decide +kernel) (by decide) (so_goto (off := 4) (tgt := 107) (by decide +kernel) (by decide) (sb_158_107 hj))))))))) (callvE_imp BK_I))))))))))
set_option maxRecDepth 20000 in
theorem sb_158_75 {j : AJ} (hj : SJ j) : Sound kM_158 75 (mb_158_75 j) := by
  refine so_weak (sc_158_75 hj) (fun L S h r q0 => ?_)
  obtain ⟨c0, L0_, rfl, q1⟩ := w_C_some q0
  obtain ⟨i1, L1_, rfl, q2⟩ := w_I_some q1
  obtain ⟨i2, L2_, rfl, q3⟩ := w_I_some q2
  obtain ⟨i3, L3_, rfl, q4⟩ := w_I_some q3
  obtain ⟨rfl, q5⟩ := w_0_some q4
  obtain ⟨rfl, q6⟩ := a_nil_some q5
  exact q6
set_option maxRecDepth 20000 in
theorem sc_158_73 {j : AJ} (hj : SJ j) : Sound kM_158 73 (mc_158_73 j) := by
  unfold mc_158_73
  exact so_iconst (i := 0) (by decide +kernel) (by decide +kernel) (by decide) (so_istore_n (f := 3) (by decide +kernel) rfl (by decide +kernel) (sb_158_75 hj))
set_option maxRecDepth 20000 in
theorem sb_158_73 {j : AJ} (hj : SJ j) : Sound kM_158 73 (mb_158_73 j) := by
  refine so_weak (sc_158_73 hj) (fun L S h r q0 => ?_)
  obtain ⟨c0, L0_, rfl, q1⟩ := w_C_some q0
  obtain ⟨i1, L1_, rfl, q2⟩ := w_I_some q1
  obtain ⟨i2, L2_, rfl, q3⟩ := w_I_some q2
  obtain ⟨i3, L3_, rfl, q4⟩ := w_I_some q3
  obtain ⟨rfl, q5⟩ := w_0_some q4
  obtain ⟨rfl, q6⟩ := a_nil_some q5
  exact q6
set_option maxRecDepth 20000 in
theorem sc_158_66 {j : AJ} (hj : SJ j) : Sound kM_158 66 (mc_158_66 j) := by
  unfold mc_158_66
  exact so_istore_n (f := 2) (by decide +kernel) rfl (by decide +kernel) (so_iinc (z := 1) (by decide +kernel) (by decide +kernel) (by decide) (by decide +kernel) (so_goto (off := -36) (tgt := 34) (by decide +kernel) (by decide) (hj 95 _ _ rfl)))
set_option maxRecDepth 20000 in
theorem sb_158_66 {j : AJ} (hj : SJ j) : Sound kM_158 66 (mb_158_66 j) := by
  refine so_weak (sc_158_66 hj) (fun L S h r q0 => ?_)
  obtain ⟨c0, L0_, rfl, q1⟩ := w_C_some q0
  obtain ⟨i1, L1_, rfl, q2⟩ := w_I_some q1
  obtain ⟨i2, L2_, rfl, q3⟩ := w_I_some q2
  obtain ⟨i3, L3_, rfl, q4⟩ := w_I_some q3
  obtain ⟨rfl, q5⟩ := w_0_some q4
  obtain ⟨s0, S0_, rfl, q6⟩ := a_popI_some q5
  obtain ⟨rfl, q7⟩ := a_nil_some q6
  exact q7
set_option maxRecDepth 20000 in
theorem sc_158_65 {j : AJ} (hj : SJ j) : Sound kM_158 65 (mc_158_65 j) := by
  unfold mc_158_65
  exact so_iconst (i := 0) (by decide +kernel) (by decide +kernel) (by decide) (sb_158_66 hj)
set_option maxRecDepth 20000 in
theorem sb_158_65 {j : AJ} (hj : SJ j) : Sound kM_158 65 (mb_158_65 j) := by
  refine so_weak (sc_158_65 hj) (fun L S h r q0 => ?_)
  obtain ⟨c0, L0_, rfl, q1⟩ := w_C_some q0
  obtain ⟨i1, L1_, rfl, q2⟩ := w_I_some q1
  obtain ⟨i2, L2_, rfl, q3⟩ := w_I_some q2
  obtain ⟨i3, L3_, rfl, q4⟩ := w_I_some q3
  obtain ⟨rfl, q5⟩ := w_0_some q4
  obtain ⟨rfl, q6⟩ := a_nil_some q5
  exact q6
set_option maxRecDepth 20000 in
theorem sc_158_34 {j : AJ} (hj : SJ j) : Sound kM_158 34 (mc_158_34 j) := by
  unfold mc_158_34
  exact so_iload_n (f := 3) (by decide +kernel) rfl (so_aload_n (f := 0) (by decide +kernel) rfl (so_get (C := RX9) (T := TX9) (N := 38) (by decide +kernel) rfl kin_9 (by decide) kw_495 (b := false) rfl (fun _ => rfl) (so_icmp (off := 34) (tgt := 73) (by decide +kernel) (by decide) rfl (sb_158_73 hj) (so_iload_n (f := 2) (by decide +kernel) rfl (so_if (off := 30) (tgt := 73) (by decide +kernel) (by decide) rfl (sb_158_73 hj) (so_aload_n (f := 0) (by decide +kernel) rfl (so_iload_n (f := 1) (by decide +kernel) rfl (so_iload_n (f := 3) (by decide +kernel) rfl (so_weak (so_callV (C := RX9) (T := TX9) (N0 := 38) (by decide +kernel) kcf_149 rfl rfl rfl kw_486 kw_487 kw_488 (by decide +kernel) (sb_149_0 hj) (so_aload_n (f := 0) (by decide +kernel) rfl (so_get (C := RX9) (T := TX9) (N := 38) (by decide +kernel) rfl kin_9 (by decide) kw_459 (b := true) rfl (fun _ => rfl) (so_iload_n (f := 3) (by decide +kernel) rfl (so_iald (by decide +kernel) (so_icmp (off := 7) (tgt := 65) (by decide +kernel) (by decide) rfl (sb_158_65 hj) (so_iconst (i := 1) (by decide +kernel) (by decide +kernel) (by decide) (so_goto (off := 4) (tgt := 66) (by decide +kernel) (by decide) (sb_158_66 hj))))))))) (callvE_imp BK_I))))))))))
set_option maxRecDepth 20000 in
theorem sb_158_34 {j : AJ} (hj : SJ j) : Sound kM_158 34 (mb_158_34 j) := by
  refine so_weak (sc_158_34 hj) (fun L S h r q0 => ?_)
  obtain ⟨c0, L0_, rfl, q1⟩ := w_C_some q0
  obtain ⟨i1, L1_, rfl, q2⟩ := w_I_some q1
  obtain ⟨i2, L2_, rfl, q3⟩ := w_I_some q2
  obtain ⟨i3, L3_, rfl, q4⟩ := w_I_some q3
  obtain ⟨rfl, q5⟩ := w_0_some q4
  obtain ⟨rfl, q6⟩ := a_nil_some q5
  exact q6
set_option maxRecDepth 20000 in
theorem sc_158_31 {j : AJ} (hj : SJ j) : Sound kM_158 31 (mc_158_31 j) := by
  unfold mc_158_31
  exact so_istore_n (f := 2) (by decide +kernel) rfl (by decide +kernel) (so_iconst (i := 0) (by decide +kernel) (by decide +kernel) (by decide) (so_istore_n (f := 3) (by decide +kernel) rfl (by decide +kernel) (sb_158_34 hj)))
set_option maxRecDepth 20000 in
theorem sb_158_31 {j : AJ} (hj : SJ j) : Sound kM_158 31 (mb_158_31 j) := by
  refine so_weak (sc_158_31 hj) (fun L S h r q0 => ?_)
  obtain ⟨c0, L0_, rfl, q1⟩ := w_C_some q0
  obtain ⟨i1, L1_, rfl, q2⟩ := w_I_some q1
  obtain ⟨L2_, rfl, q3⟩ := w_N_some q2
  obtain ⟨L3_, rfl, q4⟩ := w_N_some q3
  obtain ⟨rfl, q5⟩ := w_0_some q4
  obtain ⟨s0, S0_, rfl, q6⟩ := a_popI_some q5
  obtain ⟨rfl, q7⟩ := a_nil_some q6
  exact q7
set_option maxRecDepth 20000 in
theorem sc_158_30 {j : AJ} (hj : SJ j) : Sound kM_158 30 (mc_158_30 j) := by
  unfold mc_158_30
  exact so_iconst (i := 0) (by decide +kernel) (by decide +kernel) (by decide) (sb_158_31 hj)
set_option maxRecDepth 20000 in
theorem sb_158_30 {j : AJ} (hj : SJ j) : Sound kM_158 30 (mb_158_30 j) := by
  refine so_weak (sc_158_30 hj) (fun L S h r q0 => ?_)
  obtain ⟨c0, L0_, rfl, q1⟩ := w_C_some q0
  obtain ⟨i1, L1_, rfl, q2⟩ := w_I_some q1
  obtain ⟨L2_, rfl, q3⟩ := w_N_some q2
  obtain ⟨L3_, rfl, q4⟩ := w_N_some q3
  obtain ⟨rfl, q5⟩ := w_0_some q4
  obtain ⟨rfl, q6⟩ := a_nil_some q5
  exact q6
set_option maxRecDepth 20000 in
theorem sc_158_0 {j : AJ} (hj : SJ j) : Sound kM_158 0 (mc_158_0 j) := by
  unfold mc_158_0
  exact so_aload_n (f := 0) (by decide +kernel) rfl (so_get (C := RX9) (T := TX9) (N := 38) (by decide +kernel) rfl kin_9 (by decide) kw_452 (b := true) rfl (fun _ => rfl) (so_iload_n (f := 1) (by decide +kernel) rfl (so_iald (by decide +kernel) (so_aload_n (f := 0) (by decide +kernel) rfl (so_get (C := RX9) (T := TX9) (N := 38) (by decide +kernel) rfl kin_9 (by decide) kw_495 (b := false) rfl (fun _ => rfl) (so_icmp (off := 20) (tgt := 30) (by decide +kernel) (by decide) rfl (sb_158_30 hj) (so_aload_n (f := 0) (by decide +kernel) rfl (so_get (C := RX9) (T := TX9) (N := 38) (by decide +kernel) rfl kin_9 (by decide) kw_454 (b := true) rfl (fun _ => rfl) (so_iload_n (f := 1) (by decide +kernel) rfl (so_iald (by decide +kernel) (so_aload_n (f := 0) (by decide +kernel) rfl (so_get (C := RX9) (T := TX9) (N := 38) (by decide +kernel) rfl kin_9 (by decide) kw_499 (b := false) rfl (fun _ => rfl) (so_icmp (off := 7) (tgt := 30) (by decide +kernel) (by decide) rfl (sb_158_30 hj) (so_iconst (i := 1) (by decide +kernel) (by decide +kernel) (by decide) (so_goto (off := 4) (tgt := 31) (by decide +kernel) (by decide) (sb_158_31 hj))))))))))))))))
set_option maxRecDepth 20000 in
theorem sb_158_0 {j : AJ} (hj : SJ j) : Sound kM_158 0 (mb_158_0 j) := by
  refine so_weak (sc_158_0 hj) (fun L S h r q0 => ?_)
  obtain ⟨c0, L0_, rfl, q1⟩ := w_C_some q0
  obtain ⟨i1, L1_, rfl, q2⟩ := w_I_some q1
  obtain ⟨L2_, rfl, q3⟩ := w_N_some q2
  obtain ⟨L3_, rfl, q4⟩ := w_N_some q3
  obtain ⟨rfl, q5⟩ := w_0_some q4
  obtain ⟨rfl, q6⟩ := a_nil_some q5
  exact q6
set_option maxRecDepth 20000 in
theorem sc_159_288 {j : AJ} (hj : SJ j) : Sound kM_159 288 (mc_159_288 j) := by
  unfold mc_159_288
  exact so_aload_n (f := 0) (by decide +kernel) rfl (so_dup (by decide +kernel) (so_get (C := RX9) (T := TX9) (N := 38) (by decide +kernel) rfl kin_9 (by decide) kw_500 (b := false) rfl (fun _ => rfl) (so_iconst (i := 1) (by decide +kernel) (by decide +kernel) (by decide) (so_iadd (by decide +kernel) (so_putI (C := RX9) (T := TX9) (N := 38) (ty0 := tyX9) (by decide +kernel) rfl kin_9 tyX9_ok nmX9 (by decide) kw_500 rfl rfl rfl (so_aload_n (f := 0) (by decide +kernel) rfl (so_get (C := RX9) (T := TX9) (N := 38) (by decide +kernel) rfl kin_9 (by decide) kw_500 (b := false) rfl (fun _ => rfl) (so_iconst (i := 1) (by decide +kernel) (by decide +kernel) (by decide) (so_isub (by decide +kernel) (so_reti (by decide +kernel) rfl))))))))))
set_option maxRecDepth 20000 in
theorem sb_159_288 {j : AJ} (hj : SJ j) : Sound kM_159 288 (mb_159_288 j) := by
  refine so_weak (sc_159_288 hj) (fun L S h r q0 => ?_)
  obtain ⟨c0, L0_, rfl, q1⟩ := w_C_some q0
  obtain ⟨i1, L1_, rfl, q2⟩ := w_I_some q1
  obtain ⟨rfl, q3⟩ := w_0_some q2
  obtain ⟨rfl, q4⟩ := a_nil_some q3
  exact q4
set_option maxRecDepth 20000 in
theorem sc_159_281 {j : AJ} (hj : SJ j) : Sound kM_159 281 (mc_159_281 j) := by
  unfold mc_159_281
  exact so_iast (by decide +kernel) (so_iinc (z := 1) (by decide +kernel) (by decide +kernel) (by decide) (by decide +kernel) (so_goto (off := -95) (tgt := 190) (by decide +kernel) (by decide) (hj 99 _ _ rfl)))
set_option maxRecDepth 20000 in
theorem sb_159_281 {j : AJ} (hj : SJ j) : Sound kM_159 281 (mb_159_281 j) := by
  refine so_weak (sc_159_281 hj) (fun L S h r q0 => ?_)
  obtain ⟨c0, L0_, rfl, q1⟩ := w_C_some q0
  obtain ⟨i1, L1_, rfl, q2⟩ := w_I_some q1
  obtain ⟨rfl, q3⟩ := w_0_some q2
  obtain ⟨s2, S2_, rfl, q4⟩ := a_popI_some q3
  obtain ⟨s1, S1_, rfl, q5⟩ := a_popI_some q4
  obtain ⟨s0, S0_, rfl, q6⟩ := a_popR_some q5
  obtain ⟨rfl, q7⟩ := a_nil_some q6
  exact q7
set_option maxRecDepth 20000 in
theorem sc_159_272 {j : AJ} (hj : SJ j) : Sound kM_159 272 (mc_159_272 j) := by
  unfold mc_159_272
  exact so_aload_n (f := 0) (by decide +kernel) rfl (so_get (C := RX9) (T := TX9) (N := 38) (by decide +kernel) rfl kin_9 (by decide) kw_455 (b := true) rfl (fun _ => rfl) (so_aload_n (f := 0) (by decide +kernel) rfl (so_get (C := RX9) (T := TX9) (N := 38) (by decide +kernel) rfl kin_9 (by decide) kw_500 (b := false) rfl (fun _ => rfl) (so_iald (by decide +kernel) (sb_159_281 hj)))))
set_option maxRecDepth 20000 in
theorem sb_159_272 {j : AJ} (hj : SJ j) : Sound kM_159 272 (mb_159_272 j) := by
  refine so_weak (sc_159_272 hj) (fun L S h r q0 => ?_)
  obtain ⟨c0, L0_, rfl, q1⟩ := w_C_some q0
  obtain ⟨i1, L1_, rfl, q2⟩ := w_I_some q1
  obtain ⟨rfl, q3⟩ := w_0_some q2
  obtain ⟨s1, S1_, rfl, q4⟩ := a_popI_some q3
  obtain ⟨s0, S0_, rfl, q5⟩ := a_popR_some q4
  obtain ⟨rfl, q6⟩ := a_nil_some q5
  exact q6
set_option maxRecDepth 20000 in
theorem sc_159_190 {j : AJ} (hj : SJ j) : Sound kM_159 190 (mc_159_190 j) := by
  unfold mc_159_190
  exact so_iload_n (f := 1) (by decide +kernel) rfl (so_aload_n (f := 0) (by decide +kernel) rfl (so_get (C := RX9) (T := TX9) (N := 38) (by decide +kernel) rfl kin_9 (by decide) kw_499 (b := false) rfl (fun _ => rfl) (so_icmp (off := 93) (tgt := 288) (by decide +kernel) (by decide) rfl (sb_159_288 hj) (so_aload_n (f := 0) (by decide +kernel) rfl (so_get (C := RX9) (T := TX9) (N := 38) (by decide +kernel) rfl kin_9 (by decide) kw_456 (b := true) rfl (fun _ => rfl) (so_aload_n (f := 0) (by decide +kernel) rfl (so_get (C := RX9) (T := TX9) (N := 38) (by decide +kernel) rfl kin_9 (by decide) kw_503 (b := false) rfl (fun _ => rfl) (so_aload_n (f := 0) (by decide +kernel) rfl (so_get (C := RX9) (T := TX9) (N := 38) (by decide +kernel) rfl kin_9 (by decide) kw_460 (b := true) rfl (fun _ => rfl) (so_iload_n (f := 1) (by decide +kernel) rfl (so_iald (by decide +kernel) (so_iast (by decide +kernel) (so_aload_n (f := 0) (by decide +kernel) rfl (so_dup (by decide +kernel) (so_get (C := RX9) (T := TX9) (N := 38) (by decide +kernel) rfl kin_9 (by decide) kw_503 (b := false) rfl (fun _ => rfl) (so_iconst (i := 1) (by decide +kernel) (by decide +kernel) (by decide) (so_iadd (by decide +kernel) (so_putI (C := RX9) (T := TX9) (N := 38) (ty0 := tyX9) (by decide +kernel) rfl kin_9 tyX9_ok nmX9 (by decide) kw_503 rfl rfl rfl (so_aload_n (f := 0) (by decide +kernel) rfl (so_get (C := RX9) (T := TX9) (N := 38) (by decide +kernel) rfl kin_9 (by decide) kw_455 (b := true) rfl (fun _ => rfl) (so_aload_n (f := 0) (by decide +kernel) rfl (so_get (C := RX9) (T := TX9) (N := 38) (by decide +kernel) rfl kin_9 (by decide) kw_500 (b := false) rfl (fun _ => rfl) (so_aload_n (f := 0) (by decide +kernel) rfl (so_get (C := RX9) (T := TX9) (N := 38) (by decide +kernel) rfl kin_9 (by decide) kw_455 (b := true) rfl (fun _ => rfl) (so_aload_n (f := 0) (by decide +kernel) rfl (so_get (C := RX9) (T := TX9) (N := 38) (by decide +kernel) rfl kin_9 (by decide) kw_460 (b := true) rfl (fun _ => rfl) (so_iload_n (f := 1) (by decide +kernel) rfl (so_iald (by decide +kernel) (so_iald (by decide +kernel) (so_iconst (i := 1) (by decide +kernel) (by decide +kernel) (by decide) (so_iadd (by decide +kernel) (so_aload_n (f := 0) (by decide +kernel) rfl (so_get (C := RX9) (T := TX9) (N := 38) (by decide +kernel) rfl kin_9 (by decide) kw_455 (b := true) rfl (fun _ => rfl) (so_aload_n (f := 0) (by decide +kernel) rfl (so_get (C := RX9) (T := TX9) (N := 38) (by decide +kernel) rfl kin_9 (by decide) kw_500 (b := false) rfl (fun _ => rfl) (so_iald (by decide +kernel) (so_icmp (off := 19) (tgt := 272) (by decide +kernel) (by decide) rfl (sb_159_272 hj) (so_aload_n (f := 0) (by decide +kernel) rfl (so_get (C := RX9) (T := TX9) (N := 38) (by decide +kernel) rfl kin_9 (by decide) kw_455 (b := true) rfl (fun _ => rfl) (so_aload_n (f := 0) (by decide +kernel) rfl (so_get (C := RX9) (T := TX9) (N := 38) (by decide +kernel) rfl kin_9 (by decide) kw_460 (b := true) rfl (fun _ => rfl) (so_iload_n (f := 1) (by decide +kernel) rfl (so_iald (by decide +kernel) (so_iald (by decide +kernel) (so_iconst (i := 1) (by decide +kernel) (by decide +kernel) (by decide) (so_iadd (by decide +kernel) (so_goto (off := 12) (tgt := 281) (by decide +kernel) (by decide) (sb_159_281 hj))))))))))))))))))))))))))))))))))))))))))))))))
set_option maxRecDepth 20000 in
theorem sb_159_190 {j : AJ} (hj : SJ j) : Sound kM_159 190 (mb_159_190 j) := by
  refine so_weak (sc_159_190 hj) (fun L S h r q0 => ?_)
  obtain ⟨c0, L0_, rfl, q1⟩ := w_C_some q0
  obtain ⟨i1, L1_, rfl, q2⟩ := w_I_some q1
  obtain ⟨rfl, q3⟩ := w_0_some q2
  obtain ⟨rfl, q4⟩ := a_nil_some q3
  exact q4
set_option maxRecDepth 20000 in
theorem sc_159_162 {j : AJ} (hj : SJ j) : Sound kM_159 162 (mc_159_162 j) := by
  unfold mc_159_162
  exact so_aload_n (f := 0) (by decide +kernel) rfl (so_get (C := RX9) (T := TX9) (N := 38) (by decide +kernel) rfl kin_9 (by decide) kw_453 (b := true) rfl (fun _ => rfl) (so_aload_n (f := 0) (by decide +kernel) rfl (so_get (C := RX9) (T := TX9) (N := 38) (by decide +kernel) rfl kin_9 (by decide) kw_500 (b := false) rfl (fun _ => rfl) (so_aload_n (f := 0) (by decide +kernel) rfl (so_get (C := RX9) (T := TX9) (N := 38) (by decide +kernel) rfl kin_9 (by decide) kw_503 (b := false) rfl (fun _ => rfl) (so_iast (by decide +kernel) (so_aload_n (f := 0) (by decide +kernel) rfl (so_get (C := RX9) (T := TX9) (N := 38) (by decide +kernel) rfl kin_9 (by decide) kw_454 (b := true) rfl (fun _ => rfl) (so_aload_n (f := 0) (by decide +kernel) rfl (so_get (C := RX9) (T := TX9) (N := 38) (by decide +kernel) rfl kin_9 (by decide) kw_500 (b := false) rfl (fun _ => rfl) (so_aload_n (f := 0) (by decide +kernel) rfl (so_get (C := RX9) (T := TX9) (N := 38) (by decide +kernel) rfl kin_9 (by decide) kw_499 (b := false) rfl (fun _ => rfl) (so_iast (by decide +kernel) (so_iconst (i := 0) (by decide +kernel) (by decide +kernel) (by decide) (so_istore_n (f := 1) (by decide +kernel) rfl (by decide +kernel) (sb_159_190 hj))))))))))))))))
set_option maxRecDepth 20000 in
theorem sb_159_162 {j : AJ} (hj : SJ j) : Sound kM_159 162 (mb_159_162 j) := by
  refine so_weak (sc_159_162 hj) (fun L S h r q0 => ?_)
  obtain ⟨c0, L0_, rfl, q1⟩ := w_C_some q0
  obtain ⟨i1, L1_, rfl, q2⟩ := w_I_some q1
  obtain ⟨rfl, q3⟩ := w_0_some q2
  obtain ⟨rfl, q4⟩ := a_nil_some q3
  exact q4
set_option maxRecDepth 20000 in
theorem sc_159_155 {j : AJ} (hj : SJ j) : Sound kM_159 155 (mc_159_155 j) := by
  unfold mc_159_155
  exact so_iast (by decide +kernel) (so_iinc (z := 1) (by decide +kernel) (by decide +kernel) (by decide) (by decide +kernel) (so_goto (off := -95) (tgt := 64) (by decide +kernel) (by decide) (hj 98 _ _ rfl)))
set_option maxRecDepth 20000 in
theorem sb_159_155 {j : AJ} (hj : SJ j) : Sound kM_159 155 (mb_159_155 j) := by
  refine so_weak (sc_159_155 hj) (fun L S h r q0 => ?_)
  obtain ⟨c0, L0_, rfl, q1⟩ := w_C_some q0
  obtain ⟨i1, L1_, rfl, q2⟩ := w_I_some q1
  obtain ⟨rfl, q3⟩ := w_0_some q2
  obtain ⟨s2, S2_, rfl, q4⟩ := a_popI_some q3
  obtain ⟨s1, S1_, rfl, q5⟩ := a_popI_some q4
  obtain ⟨s0, S0_, rfl, q6⟩ := a_popR_some q5
  obtain ⟨rfl, q7⟩ := a_nil_some q6
  exact q7
set_option maxRecDepth 20000 in
theorem sc_159_146 {j : AJ} (hj : SJ j) : Sound kM_159 146 (mc_159_146 j) := by
  unfold mc_159_146
  exact so_aload_n (f := 0) (by decide +kernel) rfl (so_get (C := RX9) (T := TX9) (N := 38) (by decide +kernel) rfl kin_9 (by decide) kw_455 (b := true) rfl (fun _ => rfl) (so_aload_n (f := 0) (by decide +kernel) rfl (so_get (C := RX9) (T := TX9) (N := 38) (by decide +kernel) rfl kin_9 (by decide) kw_500 (b := false) rfl (fun _ => rfl) (so_iald (by decide +kernel) (sb_159_155 hj)))))
set_option maxRecDepth 20000 in
theorem sb_159_146 {j : AJ} (hj : SJ j) : Sound kM_159 146 (mb_159_146 j) := by
  refine so_weak (sc_159_146 hj) (fun L S h r q0 => ?_)
  obtain ⟨c0, L0_, rfl, q1⟩ := w_C_some q0
  obtain ⟨i1, L1_, rfl, q2⟩ := w_I_some q1
  obtain ⟨rfl, q3⟩ := w_0_some q2
  obtain ⟨s1, S1_, rfl, q4⟩ := a_popI_some q3
  obtain ⟨s0, S0_, rfl, q5⟩ := a_popR_some q4
  obtain ⟨rfl, q6⟩ := a_nil_some q5
  exact q6
set_option maxRecDepth 20000 in
theorem sc_159_64 {j : AJ} (hj : SJ j) : Sound kM_159 64 (mc_159_64 j) := by
  unfold mc_159_64
  exact so_iload_n (f := 1) (by decide +kernel) rfl (so_aload_n (f := 0) (by decide +kernel) rfl (so_get (C := RX9) (T := TX9) (N := 38) (by decide +kernel) rfl kin_9 (by decide) kw_495 (b := false) rfl (fun _ => rfl) (so_icmp (off := 93) (tgt := 162) (by decide +kernel) (by decide) rfl (sb_159_162 hj) (so_aload_n (f := 0) (by decide +kernel) rfl (so_get (C := RX9) (T := TX9) (N := 38) (by decide +kernel) rfl kin_9 (by decide) kw_456 (b := true) rfl (fun _ => rfl) (so_aload_n (f := 0) (by decide +kernel) rfl (so_get (C := RX9) (T := TX9) (N := 38) (by decide +kernel) rfl kin_9 (by decide) kw_503 (b := false) rfl (fun _ => rfl) (so_aload_n (f := 0) (by decide +kernel) rfl (so_get (C := RX9) (T := TX9) (N := 38) (by decide +kernel) rfl kin_9 (by decide) kw_459 (b := true) rfl (fun _ => rfl) (so_iload_n (f := 1) (by decide +kernel) rfl (so_iald (by decide +kernel) (so_iast (by decide +kernel) (so_aload_n (f := 0) (by decide +kernel) rfl (so_dup (by decide +kernel) (so_get (C := RX9) (T := TX9) (N := 38) (by decide +kernel) rfl kin_9 (by decide) kw_503 (b := false) rfl (fun _ => rfl) (so_iconst (i := 1) (by decide +kernel) (by decide +kernel) (by decide) (so_iadd (by decide +kernel) (so_putI (C := RX9) (T := TX9) (N := 38) (ty0 := tyX9) (by decide +kernel) rfl kin_9 tyX9_ok nmX9 (by decide) kw_503 rfl rfl rfl (so_aload_n (f := 0) (by decide +kernel) rfl (so_get (C := RX9) (T := TX9) (N := 38) (by decide +kernel) rfl kin_9 (by decide) kw_455 (b := true) rfl (fun _ => rfl) (so_aload_n (f := 0) (by decide +kernel) rfl (so_get (C := RX9) (T := TX9) (N := 38) (by decide +kernel) rfl kin_9 (by decide) kw_500 (b := false) rfl (fun _ => rfl) (so_aload_n (f := 0) (by decide +kernel) rfl (so_get (C := RX9) (T := TX9) (N := 38) (by decide +kernel) rfl kin_9 (by decide) kw_455 (b := true) rfl (fun _ => rfl) (so_aload_n (f := 0) (by decide +kernel) rfl (so_get (C := RX9) (T := TX9) (N := 38) (by decide +kernel) rfl kin_9 (by decide) kw_459 (b := true) rfl (fun _ => rfl) (so_iload_n (f := 1) (by decide +kernel) rfl (so_iald (by decide +kernel) (so_iald (by decide +kernel) (so_iconst (i := 1) (by decide +kernel) (by decide +kernel) (by decide) (so_iadd (by decide +kernel) (so_aload_n (f := 0) (by decide +kernel) rfl (so_get (C := RX9) (T := TX9) (N := 38) (by decide +kernel) rfl kin_9 (by decide) kw_455 (b := true) rfl (fun _ => rfl) (so_aload_n (f := 0) (by decide +kernel) rfl (so_get (C := RX9) (T := TX9) (N := 38) (by decide +kernel) rfl kin_9 (by decide) kw_500 (b := false) rfl (fun _ => rfl) (so_iald (by decide +kernel) (so_icmp (off := 19) (tgt := 146) (by decide +kernel) (by decide) rfl (sb_159_146 hj) (so_aload_n (f := 0) (by decide +kernel) rfl (so_get (C := RX9) (T := TX9) (N := 38) (by decide +kernel) rfl kin_9 (by decide) kw_455 (b := true) rfl (fun _ => rfl) (so_aload_n (f := 0) (by decide +kernel) rfl (so_get (C := RX9) (T := TX9) (N := 38) (by decide +kernel) rfl kin_9 (by decide) kw_459 (b := true) rfl (fun _ => rfl) (so_iload_n (f := 1) (by decide +kernel) rfl (so_iald (by decide +kernel) (so_iald (by decide +kernel) (so_iconst (i := 1) (by decide +kernel) (by decide +kernel) (by decide) (so_iadd (by decide +kernel) (so_goto (off := 12) (tgt := 155) (by decide +kernel) (by decide) (sb_159_155 hj))))))))))))))))))))))))))))))))))))))))))))))))
set_option maxRecDepth 20000 in
theorem sb_159_64 {j : AJ} (hj : SJ j) : Sound kM_159 64 (mb_159_64 j) := by
  refine so_weak (sc_159_64 hj) (fun L S h r q0 => ?_)
  obtain ⟨c0, L0_, rfl, q1⟩ := w_C_some q0
  obtain ⟨i1, L1_, rfl, q2⟩ := w_I_some q1
  obtain ⟨rfl, q3⟩ := w_0_some q2
  obtain ⟨rfl, q4⟩ := a_nil_some q3
  exact q4
set_option maxRecDepth 20000 in
theorem sc_159_26 {j : AJ} (hj : SJ j) : Sound kM_159 26 (mc_159_26 j) := by
  unfold mc_159_26
  exact so_aload_n (f := 0) (by decide +kernel) rfl (so_get (C := RX9) (T := TX9) (N := 38) (by decide +kernel) rfl kin_9 (by decide) kw_451 (b := true) rfl (fun _ => rfl) (so_aload_n (f := 0) (by decide +kernel) rfl (so_get (C := RX9) (T := TX9) (N := 38) (by decide +kernel) rfl kin_9 (by decide) kw_500 (b := false) rfl (fun _ => rfl) (so_aload_n (f := 0) (by decide +kernel) rfl (so_get (C := RX9) (T := TX9) (N := 38) (by decide +kernel) rfl kin_9 (by decide) kw_503 (b := false) rfl (fun _ => rfl) (so_iast (by decide +kernel) (so_aload_n (f := 0) (by decide +kernel) rfl (so_get (C := RX9) (T := TX9) (N := 38) (by decide +kernel) rfl kin_9 (by decide) kw_452 (b := true) rfl (fun _ => rfl) (so_aload_n (f := 0) (by decide +kernel) rfl (so_get (C := RX9) (T := TX9) (N := 38) (by decide +kernel) rfl kin_9 (by decide) kw_500 (b := false) rfl (fun _ => rfl) (so_aload_n (f := 0) (by decide +kernel) rfl (so_get (C := RX9) (T := TX9) (N := 38) (by decide +kernel) rfl kin_9 (by decide) kw_495 (b := false) rfl (fun _ => rfl) (so_iast (by decide +kernel) (so_aload_n (f := 0) (by decide +kernel) rfl (so_get (C := RX9) (T := TX9) (N := 38) (by decide +kernel) rfl kin_9 (by decide) kw_455 (b := true) rfl (fun _ => rfl) (so_aload_n (f := 0) (by decide +kernel) rfl (so_get (C := RX9) (T := TX9) (N := 38) (by decide +kernel) rfl kin_9 (by decide) kw_500 (b := false) rfl (fun _ => rfl) (so_iconst (i := 0) (by decide +kernel) (by decide +kernel) (by decide) (so_iast (by decide +kernel) (so_iconst (i := 0) (by decide +kernel) (by decide +kernel) (by decide) (so_istore_n (f := 1) (by decide +kernel) rfl (by decide +kernel) (sb_159_64 hj))))))))))))))))))))))
set_option maxRecDepth 20000 in
theorem sb_159_26 {j : AJ} (hj : SJ j) : Sound kM_159 26 (mb_159_26 j) := by
  refine so_weak (sc_159_26 hj) (fun L S h r q0 => ?_)
  obtain ⟨c0, L0_, rfl, q1⟩ := w_C_some q0
  obtain ⟨i1, L1_, rfl, q2⟩ := w_I_some q1
  obtain ⟨rfl, q3⟩ := w_0_some q2
  obtain ⟨rfl, q4⟩ := a_nil_some q3
  exact q4
set_option maxRecDepth 20000 in
theorem sc_159_20 {j : AJ} (hj : SJ j) : Sound kM_159 20 (mc_159_20 j) := by
  unfold mc_159_20
  exact so_iinc (z := 1) (by decide +kernel) (by decide +kernel) (by decide) (by decide +kernel) (so_goto (off := -21) (tgt := 2) (by decide +kernel) (by decide) (hj 97 _ _ rfl))
set_option maxRecDepth 20000 in
theorem sb_159_20 {j : AJ} (hj : SJ j) : Sound kM_159 20 (mb_159_20 j) := by
  refine so_weak (sc_159_20 hj) (fun L S h r q0 => ?_)
  obtain ⟨c0, L0_, rfl, q1⟩ := w_C_some q0
  obtain ⟨i1, L1_, rfl, q2⟩ := w_I_some q1
  obtain ⟨rfl, q3⟩ := w_0_some q2
  obtain ⟨rfl, q4⟩ := a_nil_some q3
  exact q4
set_option maxRecDepth 20000 in
theorem sc_159_2 {j : AJ} (hj : SJ j) : Sound kM_159 2 (mc_159_2 j) := by
  unfold mc_159_2
  exact so_iload_n (f := 1) (by decide +kernel) rfl (so_aload_n (f := 0) (by decide +kernel) rfl (so_get (C := RX9) (T := TX9) (N := 38) (by decide +kernel) rfl kin_9 (by decide) kw_500 (b := false) rfl (fun _ => rfl) (so_icmp (off := 19) (tgt := 26) (by decide +kernel) (by decide) rfl (sb_159_26 hj) (so_aload_n (f := 0) (by decide +kernel) rfl (so_iload_n (f := 1) (by decide +kernel) rfl (so_weak (so_callV (C := RX9) (T := TX9) (N0 := 38) (by decide +kernel) kcf_158 rfl rfl rfl kw_504 kw_505 kw_506 (by decide +kernel) (sb_158_0 hj) (so_if (off := 5) (tgt := 20) (by decide +kernel) (by decide) rfl (sb_159_20 hj) (so_iload_n (f := 1) (by decide +kernel) rfl (so_reti (by decide +kernel) rfl)))) (callvE_imp BK_I)))))))
set_option maxRecDepth 20000 in
theorem sb_159_2 {j : AJ} (hj : SJ j) : Sound kM_159 2 (mb_159_2 j) := by
  refine so_weak (sc_159_2 hj) (fun L S h r q0 => ?_)
  obtain ⟨c0, L0_, rfl, q1⟩ := w_C_some q0
  obtain ⟨i1, L1_, rfl, q2⟩ := w_I_some q1
  obtain ⟨rfl, q3⟩ := w_0_some q2
  obtain ⟨rfl, q4⟩ := a_nil_some q3
  exact q4
set_option maxRecDepth 20000 in
theorem sc_159_0 {j : AJ} (hj : SJ j) : Sound kM_159 0 (mc_159_0 j) := by
  unfold mc_159_0
  exact so_iconst (i := 0) (by decide +kernel) (by decide +kernel) (by decide) (so_istore_n (f := 1) (by decide +kernel) rfl (by decide +kernel) (sb_159_2 hj))
set_option maxRecDepth 20000 in
theorem sb_159_0 {j : AJ} (hj : SJ j) : Sound kM_159 0 (mb_159_0 j) := by
  refine so_weak (sc_159_0 hj) (fun L S h r q0 => ?_)
  obtain ⟨c0, L0_, rfl, q1⟩ := w_C_some q0
  obtain ⟨L1_, rfl, q2⟩ := w_N_some q1
  obtain ⟨rfl, q3⟩ := w_0_some q2
  obtain ⟨rfl, q4⟩ := a_nil_some q3
  exact q4
set_option maxRecDepth 20000 in
theorem sc_160_63 {j : AJ} (hj : SJ j) : Sound kM_160 63 (mc_160_63 j) := by
  unfold mc_160_63
  exact so_aload_n (f := 0) (by decide +kernel) rfl (so_weak (so_callV (C := RX9) (T := TX9) (N0 := 38) (by decide +kernel) kcf_157 rfl rfl rfl kw_507 kw_508 kw_509 (by decide +kernel) (sb_157_0 hj) (so_aload_n (f := 0) (by decide +kernel) rfl (so_aload_n (f := 0) (by decide +kernel) rfl (so_get (C := RX9) (T := TX9) (N := 38) (by decide +kernel) rfl kin_9 (by decide) kw_459 (b := true) rfl (fun _ => rfl) (so_aload_n (f := 0) (by decide +kernel) rfl (so_get (C := RX9) (T := TX9) (N := 38) (by decide +kernel) rfl kin_9 (by decide) kw_495 (b := false) rfl (fun _ => rfl) (so_weak (so_callV (C := RX9) (T := TX9) (N0 := 38) (by decide +kernel) kcf_153 rfl rfl rfl kw_510 kw_511 kw_512 (by decide +kernel) (sb_153_0 hj) (so_aload_n (f := 0) (by decide +kernel) rfl (so_aload_n (f := 0) (by decide +kernel) rfl (so_get (C := RX9) (T := TX9) (N := 38) (by decide +kernel) rfl kin_9 (by decide) kw_460 (b := true) rfl (fun _ => rfl) (so_aload_n (f := 0) (by decide +kernel) rfl (so_get (C := RX9) (T := TX9) (N := 38) (by decide +kernel) rfl kin_9 (by decide) kw_499 (b := false) rfl (fun _ => rfl) (so_weak (so_callV (C := RX9) (T := TX9) (N0 := 38) (by decide +kernel) kcf_153 rfl rfl rfl kw_510 kw_511 kw_512 (by decide +kernel) (sb_153_0 hj) (so_aload_n (f := 0) (by decide +kernel) rfl (so_weak (so_callV (C := RX9) (T := TX9) (N0 := 38) (by decide +kernel) kcf_159 rfl rfl rfl kw_513 kw_514 kw_515 (by decide +kernel) (sb_159_0 hj) (so_reti (by decide +kernel) rfl)) (callvE_imp BK_I)))) (callvE_imp BK_N)))))))) (callvE_imp BK_N)))))))) (callvE_imp BK_N))
set_option maxRecDepth 20000 in
theorem sb_160_63 {j : AJ} (hj : SJ j) : Sound kM_160 63 (mb_160_63 j) := by
  refine so_weak (sc_160_63 hj) (fun L S h r q0 => ?_)
  obtain ⟨c0, L0_, rfl, q1⟩ := w_C_some q0
  obtain ⟨i1, L1_, rfl, q2⟩ := w_I_some q1
  obtain ⟨rfl, q3⟩ := w_0_some q2
  obtain ⟨rfl, q4⟩ := a_nil_some q3
  exact q4
set_option maxRecDepth 20000 in
theorem sc_160_59 {j : AJ} (hj : SJ j) : Sound kM_160 59 (mc_160_59 j) := by
  unfold mc_160_59
  exact so_istore_n (f := 1) (by decide +kernel) rfl (by decide +kernel) (so_goto (off := -24) (tgt := 36) (by decide +kernel) (by decide) (hj 100 _ _ rfl))
set_option maxRecDepth 20000 in
theorem sb_160_59 {j : AJ} (hj : SJ j) : Sound kM_160 59 (mb_160_59 j) := by
  refine so_weak (sc_160_59 hj) (fun L S h r q0 => ?_)
  obtain ⟨c0, L0_, rfl, q1⟩ := w_C_some q0
  obtain ⟨i1, L1_, rfl, q2⟩ := w_I_some q1
  obtain ⟨rfl, q3⟩ := w_0_some q2
  obtain ⟨s0, S0_, rfl, q4⟩ := a_popI_some q3
  obtain ⟨rfl, q5⟩ := a_nil_some q4
  exact q5
set_option maxRecDepth 20000 in
theorem sc_160_58 {j : AJ} (hj : SJ j) : Sound kM_160 58 (mc_160_58 j) := by
  unfold mc_160_58
  exact so_iconst (i := 0) (by decide +kernel) (by decide +kernel) (by decide) (sb_160_59 hj)
set_option maxRecDepth 20000 in
theorem sb_160_58 {j : AJ} (hj : SJ j) : Sound kM_160 58 (mb_160_58 j) := by
  refine so_weak (sc_160_58 hj) (fun L S h r q0 => ?_)
  obtain ⟨c0, L0_, rfl, q1⟩ := w_C_some q0
  obtain ⟨i1, L1_, rfl, q2⟩ := w_I_some q1
  obtain ⟨rfl, q3⟩ := w_0_some q2
  obtain ⟨rfl, q4⟩ := a_nil_some q3
  exact q4
set_option maxRecDepth 20000 in
theorem sc_160_54 {j : AJ} (hj : SJ j) : Sound kM_160 54 (mc_160_54 j) := by
  unfold mc_160_54
  exact so_iconst (i := 1) (by decide +kernel) (by decide +kernel) (by decide) (so_goto (off := 4) (tgt := 59) (by decide +kernel) (by decide) (sb_160_59 hj))
set_option maxRecDepth 20000 in
theorem sb_160_54 {j : AJ} (hj : SJ j) : Sound kM_160 54 (mb_160_54 j) := by
  refine so_weak (sc_160_54 hj) (fun L S h r q0 => ?_)
  obtain ⟨c0, L0_, rfl, q1⟩ := w_C_some q0
  obtain ⟨i1, L1_, rfl, q2⟩ := w_I_some q1
  obtain ⟨rfl, q3⟩ := w_0_some q2
  obtain ⟨rfl, q4⟩ := a_nil_some q3
  exact q4
set_option maxRecDepth 20000 in
theorem sc_160_36 {j : AJ} (hj : SJ j) : Sound kM_160 36 (mc_160_36 j) := by
  unfold mc_160_36
  exact so_iload_n (f := 1) (by decide +kernel) rfl (so_if (off := 26) (tgt := 63) (by decide +kernel) (by decide) rfl (sb_160_63 hj) (so_aload_n (f := 0) (by decide +kernel) rfl (so_weak (so_callV (C := RX9) (T := TX9) (N0 := 38) (by decide +kernel) kcf_155 rfl rfl rfl kw_516 kw_517 kw_518 (by decide +kernel) (sb_155_0 hj) (so_if (off := 10) (tgt := 54) (by decide +kernel) (by decide) rfl (sb_160_54 hj) (so_aload_n (f := 0) (by decide +kernel) rfl (so_weak (so_callV (C := RX9) (T := TX9) (N0 := 38) (by decide +kernel) kcf_156 rfl rfl rfl kw_519 kw_520 kw_521 (by decide +kernel) (sb_156_0 hj) (so_if (off := 7) (tgt := 58) (by decide +kernel) (by decide) rfl (sb_160_58 hj) (sb_160_54 hj))) (callvE_imp BK_I))))) (callvE_imp BK_I))))
set_option maxRecDepth 20000 in
theorem sb_160_36 {j : AJ} (hj : SJ j) : Sound kM_160 36 (mb_160_36 j) := by
  refine so_weak (sc_160_36 hj) (fun L S h r q0 => ?_)
  obtain ⟨c0, L0_, rfl, q1⟩ := w_C_some q0
  obtain ⟨i1, L1_, rfl, q2⟩ := w_I_some q1
  obtain ⟨rfl, q3⟩ := w_0_some q2
  obtain ⟨rfl, q4⟩ := a_nil_some q3
  exact q4
set_option maxRecDepth 20000 in
theorem sc_160_0 {j : AJ} (hj : SJ j) : Sound kM_160 0 (mc_160_0 j) := by
  unfold mc_160_0
  exact so_aload_n (f := 0) (by decide +kernel) rfl (so_aload_n (f := 0) (by decide +kernel) rfl (so_get (C := RX9) (T := TX9) (N := 38) (by decide +kernel) rfl kin_9 (by decide) kw_459 (b := true) rfl (fun _ => rfl) (so_aload_n (f := 0) (by decide +kernel) rfl (so_get (C := RX9) (T := TX9) (N := 38) (by decide +kernel) rfl kin_9 (by decide) kw_495 (b := false) rfl (fun _ => rfl) (so_weak (so_callS (by decide +kernel) kcf_152 rfl kw_501 kw_502 (by decide +kernel) (sb_152_0 hj) (so_putI (C := RX9) (T := TX9) (N := 38) (ty0 := tyX9) (by decide +kernel) rfl kin_9 tyX9_ok nmX9 (by decide) kw_495 rfl rfl rfl (so_aload_n (f := 0) (by decide +kernel) rfl (so_aload_n (f := 0) (by decide +kernel) rfl (so_get (C := RX9) (T := TX9) (N := 38) (by decide +kernel) rfl kin_9 (by decide) kw_460 (b := true) rfl (fun _ => rfl) (so_aload_n (f := 0) (by decide +kernel) rfl (so_get (C := RX9) (T := TX9) (N := 38) (by decide +kernel) rfl kin_9 (by decide) kw_499 (b := false) rfl (fun _ => rfl) (so_weak (so_callS (by decide +kernel) kcf_152 rfl kw_501 kw_502 (by decide +kernel) (sb_152_0 hj) (so_putI (C := RX9) (T := TX9) (N := 38) (ty0 := tyX9) (by decide +kernel) rfl kin_9 tyX9_ok nmX9 (by decide) kw_499 rfl rfl rfl (so_aload_n (f := 0) (by decide +kernel) rfl (so_weak (so_callV (C := RX9) (T := TX9) (N0 := 38) (by decide +kernel) kcf_154 rfl rfl rfl kw_522 kw_523 kw_524 (by decide +kernel) (sb_154_0 hj) (so_iconst (i := 1) (by decide +kernel) (by decide +kernel) (by decide) (so_istore_n (f := 1) (by decide +kernel) rfl (by decide +kernel) (sb_160_36 hj)))) (callvE_imp BK_N))))) (callE_imp BK_I))))))))) (callE_imp BK_I))))))
set_option maxRecDepth 20000 in
theorem sb_160_0 {j : AJ} (hj : SJ j) : Sound kM_160 0 (mb_160_0 j) := by
  refine so_weak (sc_160_0 hj) (fun L S h r q0 => ?_)
  obtain ⟨c0, L0_, rfl, q1⟩ := w_C_some q0
  obtain ⟨L1_, rfl, q2⟩ := w_N_some q1
  obtain ⟨rfl, q3⟩ := w_0_some q2
  obtain ⟨rfl, q4⟩ := a_nil_some q3
  exact q4
set_option maxRecDepth 20000 in
theorem sc_161_0 {j : AJ} (hj : SJ j) : Sound kM_161 0 (mc_161_0 j) := by
  unfold mc_161_0
  exact so_aload_n (f := 0) (by decide +kernel) rfl (so_iconst (i := 0) (by decide +kernel) (by decide +kernel) (by decide) (so_putI (C := RX9) (T := TX9) (N := 38) (ty0 := tyX9) (by decide +kernel) rfl kin_9 tyX9_ok nmX9 (by decide) kw_495 rfl rfl rfl (so_aload_n (f := 0) (by decide +kernel) rfl (so_iconst (i := 0) (by decide +kernel) (by decide +kernel) (by decide) (so_putI (C := RX9) (T := TX9) (N := 38) (ty0 := tyX9) (by decide +kernel) rfl kin_9 tyX9_ok nmX9 (by decide) kw_499 rfl rfl rfl (so_retv (by decide +kernel) rfl))))))
set_option maxRecDepth 20000 in
theorem sb_161_0 {j : AJ} (hj : SJ j) : Sound kM_161 0 (mb_161_0 j) := by
  refine so_weak (sc_161_0 hj) (fun L S h r q0 => ?_)
  obtain ⟨c0, L0_, rfl, q1⟩ := w_C_some q0
  obtain ⟨rfl, q2⟩ := w_0_some q1
  obtain ⟨rfl, q3⟩ := a_nil_some q2
  exact q3
set_option maxRecDepth 20000 in
theorem sc_162_0 {j : AJ} (hj : SJ j) : Sound kM_162 0 (mc_162_0 j) := by
  unfold mc_162_0
  exact so_aload_n (f := 0) (by decide +kernel) rfl (so_iconst (i := 0) (by decide +kernel) (by decide +kernel) (by decide) (so_putI (C := RX9) (T := TX9) (N := 38) (ty0 := tyX9) (by decide +kernel) rfl kin_9 tyX9_ok nmX9 (by decide) kw_500 rfl rfl rfl (so_aload_n (f := 0) (by decide +kernel) rfl (so_iconst (i := 0) (by decide +kernel) (by decide +kernel) (by decide) (so_putI (C := RX9) (T := TX9) (N := 38) (ty0 := tyX9) (by decide +kernel) rfl kin_9 tyX9_ok nmX9 (by decide) kw_503 rfl rfl rfl (so_aload_n (f := 0) (by decide +kernel) rfl (so_weak (so_callV (C := RX9) (T := TX9) (N0 := 38) (by decide +kernel) kcf_161 rfl rfl rfl kw_525 kw_526 kw_527 (by decide +kernel) (sb_161_0 hj) (so_aload_n (f := 0) (by decide +kernel) rfl (so_weak (so_callV (C := RX9) (T := TX9) (N0 := 38) (by decide +kernel) kcf_160 rfl rfl rfl kw_528 kw_529 kw_530 (by decide +kernel) (sb_160_0 hj) (so_istore_n (f := 1) (by decide +kernel) rfl (by decide +kernel) (so_retv (by decide +kernel) rfl))) (callvE_imp BK_I)))) (callvE_imp BK_N))))))))
set_option maxRecDepth 20000 in
theorem sb_162_0 {j : AJ} (hj : SJ j) : Sound kM_162 0 (mb_162_0 j) := by
  refine so_weak (sc_162_0 hj) (fun L S h r q0 => ?_)
  obtain ⟨c0, L0_, rfl, q1⟩ := w_C_some q0
  obtain ⟨L1_, rfl, q2⟩ := w_N_some q1
  obtain ⟨rfl, q3⟩ := w_0_some q2
  obtain ⟨rfl, q4⟩ := a_nil_some q3
  exact q4
set_option maxRecDepth 20000 in
theorem sb_163_166 {j : AJ} (hj : SJ j) : Sound kM_163 166 (mb_163_166 j) := by
  unfold mb_163_166
  exact so_iload_n (f := 2) (by decide +kernel) rfl (so_reti (by decide +kernel) rfl)
set_option maxRecDepth 20000 in
theorem sb_163_143 {j : AJ} (hj : SJ j) : Sound kM_163 143 (mb_163_143 j) := by
  unfold mb_163_143
  exact so_aload_n (f := 0) (by decide +kernel) rfl (so_get (C := RX9) (T := TX9) (N := 38) (by decide +kernel) rfl kin_9 (by decide) kw_461 (b := true) rfl (fun _ => rfl) (so_iload_n (f := 3) (by decide +kernel) rfl (so_aload_n (f := 0) (by decide +kernel) rfl (so_callV (C := RX9) (T := TX9) (N0 := 38) (by decide +kernel) kcf_160 rfl rfl rfl kw_528 kw_529 kw_530 (by decide +kernel) (sb_160_0 hj) (so_iastU (by decide +kernel) (so_aload_n (f := 0) (by decide +kernel) rfl (so_get (C := RX9) (T := TX9) (N := 38) (by decide +kernel) rfl kin_9 (by decide) kw_461 (b := true) rfl (fun _ => rfl) (so_iload_n (f := 3) (by decide +kernel) rfl (so_ialdU (by decide +kernel) (so_istore_n (f := 2) (by decide +kernel) rfl (by decide +kernel) (so_iincU (z := 1) (by decide +kernel) (by decide +kernel) (by decide) (by decide +kernel) (so_goto (off := -159) (tgt := 4) (by decide +kernel) (by decide) (hj 103 _ _ rfl)))))))))))))
set_option maxRecDepth 20000 in
theorem sb_163_88 {j : AJ} (hj : SJ j) : Sound kM_163 88 (mb_163_88 j) := by
  unfold mb_163_88
  exact so_iload (by decide +kernel) (so_aload_n (f := 0) (by decide +kernel) rfl (so_get (C := RX9) (T := TX9) (N := 38) (by decide +kernel) rfl kin_9 (by decide) kw_448 (b := true) rfl (fun _ => rfl) (so_iload (by decide +kernel) (so_ialdU (by decide +kernel) (so_icmp (off := 46) (tgt := 143) (by decide +kernel) (by decide) rfl (sb_163_143 hj) (so_aload_n (f := 0) (by decide +kernel) rfl (so_get (C := RX9) (T := TX9) (N := 38) (by decide +kernel) rfl kin_9 (by decide) kw_460 (b := true) rfl (fun _ => rfl) (so_iload (by decide +kernel) (so_aload_n (f := 0) (by decide +kernel) rfl (so_get (C := RX9) (T := TX9) (N := 38) (by decide +kernel) rfl kin_9 (by decide) kw_461 (b := true) rfl (fun _ => rfl) (so_aload_n (f := 0) (by decide +kernel) rfl (so_get (C := RX9) (T := TX9) (N := 38) (by decide +kernel) rfl kin_9 (by decide) kw_450 (b := true) rfl (fun _ => rfl) (so_aload_n (f := 0) (by decide +kernel) rfl (so_get (C := RX9) (T := TX9) (N := 38) (by decide +kernel) rfl kin_9 (by decide) kw_447 (b := true) rfl (fun _ => rfl) (so_iload (by decide +kernel) (so_ialdU (by decide +kernel) (so_iload (by decide +kernel) (so_addU (by decide +kernel) (so_ialdU (by decide +kernel) (so_ialdU (by decide +kernel) (so_iastU (by decide +kernel) (so_aload_n (f := 0) (by decide +kernel) rfl (so_dup (by decide +kernel) (so_get (C := RX9) (T := TX9) (N := 38) (by decide +kernel) rfl kin_9 (by decide) kw_499 (b := false) rfl (fun _ => rfl) (so_iconst (i := 1) (by decide +kernel) (by decide +kernel) (by decide) (so_addU (by decide +kernel) (so_putI (C := RX9) (T := TX9) (N := 38) (ty0 := tyX9) (by decide +kernel) rfl kin_9 tyX9_ok nmX9 (by decide) kw_499 rfl rfl rfl (so_iincU (z := 1) (by decide +kernel) (by decide +kernel) (by decide) (by decide +kernel) (so_goto (off := -52) (tgt := 88) (by decide +kernel) (by decide) (hj 102 _ _ rfl))))))))))))))))))))))))))))))
set_option maxRecDepth 20000 in
theorem sb_163_85 {j : AJ} (hj : SJ j) : Sound kM_163 85 (mb_163_85 j) := by
  unfold mb_163_85
  exact so_iconst (i := 0) (by decide +kernel) (by decide +kernel) (by decide) (so_istore (by decide +kernel) (by decide +kernel) (sb_163_88 hj))
set_option maxRecDepth 20000 in
theorem sb_163_30 {j : AJ} (hj : SJ j) : Sound kM_163 30 (mb_163_30 j) := by
  unfold mb_163_30
  exact so_iload (by decide +kernel) (so_aload_n (f := 0) (by decide +kernel) rfl (so_get (C := RX9) (T := TX9) (N := 38) (by decide +kernel) rfl kin_9 (by decide) kw_446 (b := true) rfl (fun _ => rfl) (so_iload (by decide +kernel) (so_ialdU (by decide +kernel) (so_icmp (off := 46) (tgt := 85) (by decide +kernel) (by decide) rfl (sb_163_85 hj) (so_aload_n (f := 0) (by decide +kernel) rfl (so_get (C := RX9) (T := TX9) (N := 38) (by decide +kernel) rfl kin_9 (by decide) kw_459 (b := true) rfl (fun _ => rfl) (so_iload (by decide +kernel) (so_aload_n (f := 0) (by decide +kernel) rfl (so_get (C := RX9) (T := TX9) (N := 38) (by decide +kernel) rfl kin_9 (by decide) kw_461 (b := true) rfl (fun _ => rfl) (so_aload_n (f := 0) (by decide +kernel) rfl (so_get (C := RX9) (T := TX9) (N := 38) (by decide +kernel) rfl kin_9 (by decide) kw_450 (b := true) rfl (fun _ => rfl) (so_aload_n (f := 0) (by decide +kernel) rfl (so_get (C := RX9) (T := TX9) (N := 38) (by decide +kernel) rfl kin_9 (by decide) kw_445 (b := true) rfl (fun _ => rfl) (so_iload (by decide +kernel) (so_ialdU (by decide +kernel) (so_iload (by decide +kernel) (so_addU (by decide +kernel) (so_ialdU (by decide +kernel) (so_ialdU (by decide +kernel) (so_iastU (by decide +kernel) (so_aload_n (f := 0) (by decide +kernel) rfl (so_dup (by decide +kernel) (so_get (C := RX9) (T := TX9) (N := 38) (by decide +kernel) rfl kin_9 (by decide) kw_495 (b := false) rfl (fun _ => rfl) (so_iconst (i := 1) (by decide +kernel) (by decide +kernel) (by decide) (so_addU (by decide +kernel) (so_putI (C := RX9) (T := TX9) (N := 38) (ty0 := tyX9) (by decide +kernel) rfl kin_9 tyX9_ok nmX9 (by decide) kw_495 rfl rfl rfl (so_iincU (z := 1) (by decide +kernel) (by decide +kernel) (by decide) (by decide +kernel) (so_goto (off := -52) (tgt := 30) (by decide +kernel) (by decide) (hj 101 _ _ rfl))))))))))))))))))))))))))))))
set_option maxRecDepth 20000 in
theorem sb_163_4 {j : AJ} (hj : SJ j) : Sound kM_163 4 (mb_163_4 j) := by
  unfold mb_163_4
  exact so_iload_n (f := 3) (by decide +kernel) rfl (so_aload_n (f := 0) (by decide +kernel) rfl (so_get (C := RX9) (T := TX9) (N := 38) (by decide +kernel) rfl kin_9 (by decide) kw_440 (b := true) rfl (fun _ => rfl) (so_iload_n (f := 1) (by decide +kernel) rfl (so_ialdU (by decide +kernel) (so_icmp (off := 155) (tgt := 166) (by decide +kernel) (by decide) rfl (sb_163_166 hj) (so_sipush (i := 520) (by decide +kernel) (by decide +kernel) (by decide) (so_iload_n (f := 1) (by decide +kernel) rfl (so_mulU (by decide +kernel) (so_iload_n (f := 3) (by decide +kernel) rfl (so_addU (by decide +kernel) (so_istore (by decide +kernel) (by decide +kernel) (so_aload_n (f := 0) (by decide +kernel) rfl (so_callV (C := RX9) (T := TX9) (N0 := 38) (by decide +kernel) kcf_161 rfl rfl rfl kw_525 kw_526 kw_527 (by decide +kernel) (sb_161_0 hj) (so_iconst (i := 0) (by decide +kernel) (by decide +kernel) (by decide) (so_istore (by decide +kernel) (by decide +kernel) (sb_163_30 hj))))))))))))))))
set_option maxRecDepth 20000 in
theorem sb_163_0 {j : AJ} (hj : SJ j) : Sound kM_163 0 (mb_163_0 j) := by
  unfold mb_163_0
  exact so_iconst (i := 0) (by decide +kernel) (by decide +kernel) (by decide) (so_istore_n (f := 2) (by decide +kernel) rfl (by decide +kernel) (so_iconst (i := 0) (by decide +kernel) (by decide +kernel) (by decide) (so_istore_n (f := 3) (by decide +kernel) rfl (by decide +kernel) (sb_163_4 hj))))
set_option maxRecDepth 20000 in
theorem sb_164_313 {j : AJ} (hj : SJ j) : Sound kM_164 313 (mb_164_313 j) := by
  unfold mb_164_313
  exact so_aload_n (f := 0) (by decide +kernel) rfl (so_get (C := RX9) (T := TX9) (N := 38) (by decide +kernel) rfl kin_9 (by decide) kw_440 (b := true) rfl (fun _ => rfl) (so_iload_n (f := 2) (by decide +kernel) rfl (so_iload_n (f := 3) (by decide +kernel) rfl (so_iastU (by decide +kernel) (so_iload_n (f := 3) (by decide +kernel) rfl (so_reti (by decide +kernel) rfl))))))
set_option maxRecDepth 20000 in
theorem sb_164_307 {j : AJ} (hj : SJ j) : Sound kM_164 307 (mb_164_307 j) := by
  unfold mb_164_307
  exact so_iincU (z := 1) (by decide +kernel) (by decide +kernel) (by decide) (by decide +kernel) (so_goto (off := -173) (tgt := 137) (by decide +kernel) (by decide) (hj 110 _ _ rfl))
set_option maxRecDepth 20000 in
theorem sb_164_304 {j : AJ} (hj : SJ j) : Sound kM_164 304 (mb_164_304 j) := by
  unfold mb_164_304
  exact so_iincU (z := 1) (by decide +kernel) (by decide +kernel) (by decide) (by decide +kernel) (sb_164_307 hj)
set_option maxRecDepth 20000 in
theorem sb_164_263 {j : AJ} (hj : SJ j) : Sound kM_164 263 (mb_164_263 j) := by
  unfold mb_164_263
  exact so_iload (by decide +kernel) (so_aload_n (f := 0) (by decide +kernel) rfl (so_get (C := RX9) (T := TX9) (N := 38) (by decide +kernel) rfl kin_9 (by decide) kw_454 (b := true) rfl (fun _ => rfl) (so_iload (by decide +kernel) (so_ialdU (by decide +kernel) (so_icmp (off := 32) (tgt := 304) (by decide +kernel) (by decide) rfl (sb_164_304 hj) (so_aload_n (f := 0) (by decide +kernel) rfl (so_get (C := RX9) (T := TX9) (N := 38) (by decide +kernel) rfl kin_9 (by decide) kw_450 (b := true) rfl (fun _ => rfl) (so_iload (by decide +kernel) (so_aload_n (f := 0) (by decide +kernel) rfl (so_get (C := RX9) (T := TX9) (N := 38) (by decide +kernel) rfl kin_9 (by decide) kw_461 (b := true) rfl (fun _ => rfl) (so_aload_n (f := 0) (by decide +kernel) rfl (so_iload (by decide +kernel) (so_iload (by decide +kernel) (so_callV (C := RX9) (T := TX9) (N0 := 38) (by decide +kernel) kcf_150 rfl rfl rfl kw_489 kw_490 kw_491 (by decide +kernel) (sb_150_0 hj) (so_ialdU (by decide +kernel) (so_iastU (by decide +kernel) (so_iincU (z := 1) (by decide +kernel) (by decide +kernel) (by decide) (by decide +kernel) (so_iincU (z := 1) (by decide +kernel) (by decide +kernel) (by decide) (by decide +kernel) (so_goto (off := -38) (tgt := 263) (by decide +kernel) (by decide) (hj 109 _ _ rfl))))))))))))))))))))
set_option maxRecDepth 20000 in
theorem sb_164_237 {j : AJ} (hj : SJ j) : Sound kM_164 237 (mb_164_237 j) := by
  unfold mb_164_237
  exact so_aload_n (f := 0) (by decide +kernel) rfl (so_get (C := RX9) (T := TX9) (N := 38) (by decide +kernel) rfl kin_9 (by decide) kw_447 (b := true) rfl (fun _ => rfl) (so_iload (by decide +kernel) (so_iload (by decide +kernel) (so_iastU (by decide +kernel) (so_aload_n (f := 0) (by decide +kernel) rfl (so_get (C := RX9) (T := TX9) (N := 38) (by decide +kernel) rfl kin_9 (by decide) kw_448 (b := true) rfl (fun _ => rfl) (so_iload (by decide +kernel) (so_aload_n (f := 0) (by decide +kernel) rfl (so_get (C := RX9) (T := TX9) (N := 38) (by decide +kernel) rfl kin_9 (by decide) kw_454 (b := true) rfl (fun _ => rfl) (so_iload (by decide +kernel) (so_ialdU (by decide +kernel) (so_iastU (by decide +kernel) (so_iconst (i := 0) (by decide +kernel) (by decide +kernel) (by decide) (so_istore (by decide +kernel) (by decide +kernel) (sb_164_263 hj)))))))))))))))
set_option maxRecDepth 20000 in
theorem sb_164_196 {j : AJ} (hj : SJ j) : Sound kM_164 196 (mb_164_196 j) := by
  unfold mb_164_196
  exact so_iload (by decide +kernel) (so_aload_n (f := 0) (by decide +kernel) rfl (so_get (C := RX9) (T := TX9) (N := 38) (by decide +kernel) rfl kin_9 (by decide) kw_452 (b := true) rfl (fun _ => rfl) (so_iload (by decide +kernel) (so_ialdU (by decide +kernel) (so_icmp (off := 32) (tgt := 237) (by decide +kernel) (by decide) rfl (sb_164_237 hj) (so_aload_n (f := 0) (by decide +kernel) rfl (so_get (C := RX9) (T := TX9) (N := 38) (by decide +kernel) rfl kin_9 (by decide) kw_450 (b := true) rfl (fun _ => rfl) (so_iload (by decide +kernel) (so_aload_n (f := 0) (by decide +kernel) rfl (so_get (C := RX9) (T := TX9) (N := 38) (by decide +kernel) rfl kin_9 (by decide) kw_461 (b := true) rfl (fun _ => rfl) (so_aload_n (f := 0) (by decide +kernel) rfl (so_iload (by decide +kernel) (so_iload (by decide +kernel) (so_callV (C := RX9) (T := TX9) (N0 := 38) (by decide +kernel) kcf_149 rfl rfl rfl kw_486 kw_487 kw_488 (by decide +kernel) (sb_149_0 hj) (so_ialdU (by decide +kernel) (so_iastU (by decide +kernel) (so_iincU (z := 1) (by decide +kernel) (by decide +kernel) (by decide) (by decide +kernel) (so_iincU (z := 1) (by decide +kernel) (by decide +kernel) (by decide) (by decide +kernel) (so_goto (off := -38) (tgt := 196) (by decide +kernel) (by decide) (hj 108 _ _ rfl))))))))))))))))))))
set_option maxRecDepth 20000 in
theorem sb_164_137 {j : AJ} (hj : SJ j) : Sound kM_164 137 (mb_164_137 j) := by
  unfold mb_164_137
  exact so_iload (by decide +kernel) (so_iload_n (f := 1) (by decide +kernel) rfl (so_icmp (off := 173) (tgt := 313) (by decide +kernel) (by decide) rfl (sb_164_313 hj) (so_aload_n (f := 0) (by decide +kernel) rfl (so_get (C := RX9) (T := TX9) (N := 38) (by decide +kernel) rfl kin_9 (by decide) kw_465 (b := true) rfl (fun _ => rfl) (so_iload (by decide +kernel) (so_zald (by decide +kernel) (so_if (off := 157) (tgt := 307) (by decide +kernel) (by decide) rfl (sb_164_307 hj) (so_sipush (i := 520) (by decide +kernel) (by decide +kernel) (by decide) (so_iload_n (f := 2) (by decide +kernel) rfl (so_mulU (by decide +kernel) (so_iload_n (f := 3) (by decide +kernel) rfl (so_addU (by decide +kernel) (so_istore (by decide +kernel) (by decide +kernel) (so_aload_n (f := 0) (by decide +kernel) rfl (so_get (C := RX9) (T := TX9) (N := 38) (by decide +kernel) rfl kin_9 (by decide) kw_461 (b := true) rfl (fun _ => rfl) (so_iload (by decide +kernel) (so_iload_n (f := 3) (by decide +kernel) rfl (so_iastU (by decide +kernel) (so_aload_n (f := 0) (by decide +kernel) rfl (so_get (C := RX9) (T := TX9) (N := 38) (by decide +kernel) rfl kin_9 (by decide) kw_445 (b := true) rfl (fun _ => rfl) (so_iload (by decide +kernel) (so_iload (by decide +kernel) (so_iastU (by decide +kernel) (so_aload_n (f := 0) (by decide +kernel) rfl (so_get (C := RX9) (T := TX9) (N := 38) (by decide +kernel) rfl kin_9 (by decide) kw_446 (b := true) rfl (fun _ => rfl) (so_iload (by decide +kernel) (so_aload_n (f := 0) (by decide +kernel) rfl (so_get (C := RX9) (T := TX9) (N := 38) (by decide +kernel) rfl kin_9 (by decide) kw_452 (b := true) rfl (fun _ => rfl) (so_iload (by decide +kernel) (so_ialdU (by decide +kernel) (so_iastU (by decide +kernel) (so_iconst (i := 0) (by decide +kernel) (by decide +kernel) (by decide) (so_istore (by decide +kernel) (by decide +kernel) (sb_164_196 hj))))))))))))))))))))))))))))))))))
set_option maxRecDepth 20000 in
theorem sb_164_125 {j : AJ} (hj : SJ j) : Sound kM_164 125 (mb_164_125 j) := by
  unfold mb_164_125
  exact so_iconst (i := 0) (by decide +kernel) (by decide +kernel) (by decide) (so_istore_n (f := 3) (by decide +kernel) rfl (by decide +kernel) (so_sipush (i := 20000) (by decide +kernel) (by decide +kernel) (by decide) (so_iload_n (f := 2) (by decide +kernel) rfl (so_mulU (by decide +kernel) (so_istore (by decide +kernel) (by decide +kernel) (so_iconst (i := 0) (by decide +kernel) (by decide +kernel) (by decide) (so_istore (by decide +kernel) (by decide +kernel) (sb_164_137 hj))))))))
set_option maxRecDepth 20000 in
theorem sb_164_119 {j : AJ} (hj : SJ j) : Sound kM_164 119 (mb_164_119 j) := by
  unfold mb_164_119
  exact so_iincU (z := -1) (by decide +kernel) (by decide +kernel) (by decide) (by decide +kernel) (so_goto (off := -91) (tgt := 31) (by decide +kernel) (by decide) (hj 107 _ _ rfl))
set_option maxRecDepth 20000 in
theorem sb_164_80 {j : AJ} (hj : SJ j) : Sound kM_164 80 (mb_164_80 j) := by
  unfold mb_164_80
  exact so_iload (by decide +kernel) (so_aload_n (f := 0) (by decide +kernel) rfl (so_get (C := RX9) (T := TX9) (N := 38) (by decide +kernel) rfl kin_9 (by decide) kw_454 (b := true) rfl (fun _ => rfl) (so_iload_n (f := 3) (by decide +kernel) rfl (so_ialdU (by decide +kernel) (so_icmp (off := 31) (tgt := 119) (by decide +kernel) (by decide) rfl (sb_164_119 hj) (so_aload_n (f := 0) (by decide +kernel) rfl (so_get (C := RX9) (T := TX9) (N := 38) (by decide +kernel) rfl kin_9 (by decide) kw_465 (b := true) rfl (fun _ => rfl) (so_iload_n (f := 3) (by decide +kernel) rfl (so_zald (by decide +kernel) (so_if (off := 22) (tgt := 119) (by decide +kernel) (by decide) rfl (sb_164_119 hj) (so_aload_n (f := 0) (by decide +kernel) rfl (so_get (C := RX9) (T := TX9) (N := 38) (by decide +kernel) rfl kin_9 (by decide) kw_465 (b := true) rfl (fun _ => rfl) (so_aload_n (f := 0) (by decide +kernel) rfl (so_iload_n (f := 3) (by decide +kernel) rfl (so_iload (by decide +kernel) (so_callV (C := RX9) (T := TX9) (N0 := 38) (by decide +kernel) kcf_150 rfl rfl rfl kw_489 kw_490 kw_491 (by decide +kernel) (sb_150_0 hj) (so_iconst (i := 1) (by decide +kernel) (by decide +kernel) (by decide) (so_zast (by decide +kernel) (so_iincU (z := 1) (by decide +kernel) (by decide +kernel) (by decide) (by decide +kernel) (so_goto (off := -36) (tgt := 80) (by decide +kernel) (by decide) (hj 106 _ _ rfl)))))))))))))))))))))
set_option maxRecDepth 20000 in
theorem sb_164_77 {j : AJ} (hj : SJ j) : Sound kM_164 77 (mb_164_77 j) := by
  unfold mb_164_77
  exact so_iconst (i := 0) (by decide +kernel) (by decide +kernel) (by decide) (so_istore (by decide +kernel) (by decide +kernel) (sb_164_80 hj))
set_option maxRecDepth 20000 in
theorem sb_164_38 {j : AJ} (hj : SJ j) : Sound kM_164 38 (mb_164_38 j) := by
  unfold mb_164_38
  exact so_iload (by decide +kernel) (so_aload_n (f := 0) (by decide +kernel) rfl (so_get (C := RX9) (T := TX9) (N := 38) (by decide +kernel) rfl kin_9 (by decide) kw_452 (b := true) rfl (fun _ => rfl) (so_iload_n (f := 3) (by decide +kernel) rfl (so_ialdU (by decide +kernel) (so_icmp (off := 31) (tgt := 77) (by decide +kernel) (by decide) rfl (sb_164_77 hj) (so_aload_n (f := 0) (by decide +kernel) rfl (so_get (C := RX9) (T := TX9) (N := 38) (by decide +kernel) rfl kin_9 (by decide) kw_465 (b := true) rfl (fun _ => rfl) (so_iload_n (f := 3) (by decide +kernel) rfl (so_zald (by decide +kernel) (so_if (off := 22) (tgt := 77) (by decide +kernel) (by decide) rfl (sb_164_77 hj) (so_aload_n (f := 0) (by decide +kernel) rfl (so_get (C := RX9) (T := TX9) (N := 38) (by decide +kernel) rfl kin_9 (by decide) kw_465 (b := true) rfl (fun _ => rfl) (so_aload_n (f := 0) (by decide +kernel) rfl (so_iload_n (f := 3) (by decide +kernel) rfl (so_iload (by decide +kernel) (so_callV (C := RX9) (T := TX9) (N0 := 38) (by decide +kernel) kcf_149 rfl rfl rfl kw_486 kw_487 kw_488 (by decide +kernel) (sb_149_0 hj) (so_iconst (i := 1) (by decide +kernel) (by decide +kernel) (by decide) (so_zast (by decide +kernel) (so_iincU (z := 1) (by decide +kernel) (by decide +kernel) (by decide) (by decide +kernel) (so_goto (off := -36) (tgt := 38) (by decide +kernel) (by decide) (hj 105 _ _ rfl)))))))))))))))))))))
set_option maxRecDepth 20000 in
theorem sb_164_31 {j : AJ} (hj : SJ j) : Sound kM_164 31 (mb_164_31 j) := by
  unfold mb_164_31
  exact so_iload_n (f := 3) (by decide +kernel) rfl (so_if (off := 93) (tgt := 125) (by decide +kernel) (by decide) rfl (sb_164_125 hj) (so_iconst (i := 0) (by decide +kernel) (by decide +kernel) (by decide) (so_istore (by decide +kernel) (by decide +kernel) (sb_164_38 hj))))
set_option maxRecDepth 20000 in
theorem sb_164_29 {j : AJ} (hj : SJ j) : Sound kM_164 29 (mb_164_29 j) := by
  unfold mb_164_29
  exact so_iload_n (f := 1) (by decide +kernel) rfl (so_istore_n (f := 3) (by decide +kernel) rfl (by decide +kernel) (sb_164_31 hj))
set_option maxRecDepth 20000 in
theorem sb_164_22 {j : AJ} (hj : SJ j) : Sound kM_164 22 (mb_164_22 j) := by
  unfold mb_164_22
  exact so_zast (by decide +kernel) (so_iincU (z := 1) (by decide +kernel) (by decide +kernel) (by decide) (by decide +kernel) (so_goto (off := -24) (tgt := 2) (by decide +kernel) (by decide) (hj 104 _ _ rfl)))
set_option maxRecDepth 20000 in
theorem sb_164_21 {j : AJ} (hj : SJ j) : Sound kM_164 21 (mb_164_21 j) := by
  unfold mb_164_21
  exact so_iconst (i := 0) (by decide +kernel) (by decide +kernel) (by decide) (sb_164_22 hj)
set_option maxRecDepth 20000 in
theorem sb_164_2 {j : AJ} (hj : SJ j) : Sound kM_164 2 (mb_164_2 j) := by
  unfold mb_164_2
  exact so_iload_n (f := 3) (by decide +kernel) rfl (so_iload_n (f := 1) (by decide +kernel) rfl (so_icmp (off := 25) (tgt := 29) (by decide +kernel) (by decide) rfl (sb_164_29 hj) (so_aload_n (f := 0) (by decide +kernel) rfl (so_get (C := RX9) (T := TX9) (N := 38) (by decide +kernel) rfl kin_9 (by decide) kw_465 (b := true) rfl (fun _ => rfl) (so_iload_n (f := 3) (by decide +kernel) rfl (so_iload_n (f := 3) (by decide +kernel) rfl (so_iload_n (f := 1) (by decide +kernel) rfl (so_icmp (off := 7) (tgt := 21) (by decide +kernel) (by decide) rfl (sb_164_21 hj) (so_iconst (i := 1) (by decide +kernel) (by decide +kernel) (by decide) (so_goto (off := 4) (tgt := 22) (by decide +kernel) (by decide) (sb_164_22 hj)))))))))))
set_option maxRecDepth 20000 in
theorem sb_164_0 {j : AJ} (hj : SJ j) : Sound kM_164 0 (mb_164_0 j) := by
  unfold mb_164_0
  exact so_iconst (i := 0) (by decide +kernel) (by decide +kernel) (by decide) (so_istore_n (f := 3) (by decide +kernel) rfl (by decide +kernel) (sb_164_2 hj))
