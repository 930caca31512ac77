/-! ===== the blocks are sound ===== -/
set_option maxRecDepth 20000 in
theorem sc_96_153 {j : AJ} (hj : SJ j) : Sound kM_96 153 (mc_96_153 j) := by
  unfold mc_96_153
  exact so_reti (by decide +kernel) rfl
set_option maxRecDepth 20000 in
theorem sb_96_153 {j : AJ} (hj : SJ j) : Sound kM_96 153 (mb_96_153 j) := by
  refine so_weak (sc_96_153 hj) (fun L S h r q0 => ?_)
  obtain ⟨c0, L0_, rfl, q1⟩ := w_C_some q0
  obtain ⟨i1, L1_, rfl, q2⟩ := w_I_some q1
  obtain ⟨i2, L2_, rfl, q3⟩ := w_I_some q2
  obtain ⟨i3, L3_, rfl, q4⟩ := w_I_some q3
  obtain ⟨i4, L4_, rfl, q5⟩ := w_I_some q4
  obtain ⟨i5, L5_, rfl, q6⟩ := w_I_some q5
  obtain ⟨i6, L6_, rfl, q7⟩ := w_I_some q6
  obtain ⟨i7, L7_, rfl, q8⟩ := w_I_some q7
  obtain ⟨i8, L8_, rfl, q9⟩ := w_I_some q8
  obtain ⟨x9, L9_, rfl, q10⟩ := w_X_some q9
  obtain ⟨rfl, q11⟩ := w_0_some q10
  obtain ⟨s0, S0_, rfl, q12⟩ := a_popI_some q11
  obtain ⟨rfl, q13⟩ := a_nil_some q12
  exact q13
set_option maxRecDepth 20000 in
theorem sc_96_151 {j : AJ} (hj : SJ j) : Sound kM_96 151 (mc_96_151 j) := by
  unfold mc_96_151
  exact so_iload (by decide +kernel) (sb_96_153 hj)
set_option maxRecDepth 20000 in
theorem sb_96_151 {j : AJ} (hj : SJ j) : Sound kM_96 151 (mb_96_151 j) := by
  refine so_weak (sc_96_151 hj) (fun L S h r q0 => ?_)
  obtain ⟨c0, L0_, rfl, q1⟩ := w_C_some q0
  obtain ⟨i1, L1_, rfl, q2⟩ := w_I_some q1
  obtain ⟨i2, L2_, rfl, q3⟩ := w_I_some q2
  obtain ⟨i3, L3_, rfl, q4⟩ := w_I_some q3
  obtain ⟨i4, L4_, rfl, q5⟩ := w_I_some q4
  obtain ⟨i5, L5_, rfl, q6⟩ := w_I_some q5
  obtain ⟨i6, L6_, rfl, q7⟩ := w_I_some q6
  obtain ⟨i7, L7_, rfl, q8⟩ := w_I_some q7
  obtain ⟨i8, L8_, rfl, q9⟩ := w_I_some q8
  obtain ⟨x9, L9_, rfl, q10⟩ := w_X_some q9
  obtain ⟨rfl, q11⟩ := w_0_some q10
  obtain ⟨rfl, q12⟩ := a_nil_some q11
  exact q12
set_option maxRecDepth 20000 in
theorem sc_96_142 {j : AJ} (hj : SJ j) : Sound kM_96 142 (mc_96_142 j) := by
  unfold mc_96_142
  exact so_iload_n (f := 2) (by decide +kernel) rfl (so_if (off := 8) (tgt := 151) (by decide +kernel) (by decide) rfl (sb_96_151 hj) (so_iload (by decide +kernel) (so_goto (off := 5) (tgt := 153) (by decide +kernel) (by decide) (sb_96_153 hj))))
set_option maxRecDepth 20000 in
theorem sb_96_142 {j : AJ} (hj : SJ j) : Sound kM_96 142 (mb_96_142 j) := by
  refine so_weak (sc_96_142 hj) (fun L S h r q0 => ?_)
  obtain ⟨c0, L0_, rfl, q1⟩ := w_C_some q0
  obtain ⟨i1, L1_, rfl, q2⟩ := w_I_some q1
  obtain ⟨i2, L2_, rfl, q3⟩ := w_I_some q2
  obtain ⟨i3, L3_, rfl, q4⟩ := w_I_some q3
  obtain ⟨i4, L4_, rfl, q5⟩ := w_I_some q4
  obtain ⟨i5, L5_, rfl, q6⟩ := w_I_some q5
  obtain ⟨i6, L6_, rfl, q7⟩ := w_I_some q6
  obtain ⟨i7, L7_, rfl, q8⟩ := w_I_some q7
  obtain ⟨i8, L8_, rfl, q9⟩ := w_I_some q8
  obtain ⟨x9, L9_, rfl, q10⟩ := w_X_some q9
  obtain ⟨rfl, q11⟩ := w_0_some q10
  obtain ⟨rfl, q12⟩ := a_nil_some q11
  exact q12
set_option maxRecDepth 20000 in
theorem sc_96_37 {j : AJ} (hj : SJ j) : Sound kM_96 37 (mc_96_37 j) := by
  unfold mc_96_37
  exact so_iload (by decide +kernel) (so_iload_n (f := 1) (by decide +kernel) rfl (so_weak (so_callS (by decide +kernel) kcf_93 rfl kw_277 kw_278 (by decide +kernel) (sb_93_0 hj) (so_icmp (off := 99) (tgt := 142) (by decide +kernel) (by decide) rfl (sb_96_142 hj) (so_aload_n (f := 0) (by decide +kernel) rfl (so_weak (so_callV (C := RX7) (T := TX7) (N0 := 8) (by decide +kernel) kcf_80 rfl rfl rfl kw_253 kw_254 kw_255 (by decide +kernel) (sb_80_0 hj) (so_aload_n (f := 0) (by decide +kernel) rfl (so_get (C := RX7) (T := TX7) (N := 8) (by decide +kernel) rfl kin_7 (by decide) kw_214 (b := true) rfl (fun _ => rfl) (so_iload_n (f := 3) (by decide +kernel) rfl (so_iload (by decide +kernel) (so_weak (so_callV (C := RX5) (T := TX5) (N0 := 2) (by decide +kernel) kcf_30 rfl rfl rfl kw_223 kw_72 kw_73 (by decide +kernel) (sb_30_0 hj) (so_aload_n (f := 0) (by decide +kernel) rfl (so_get (C := RX7) (T := TX7) (N := 8) (by decide +kernel) rfl kin_7 (by decide) kw_214 (b := true) rfl (fun _ => rfl) (so_iconst (i := 1) (by decide +kernel) (by decide +kernel) (by decide) (so_iload_n (f := 3) (by decide +kernel) rfl (so_isub (by decide +kernel) (so_iload (by decide +kernel) (so_weak (so_callV (C := RX5) (T := TX5) (N0 := 2) (by decide +kernel) kcf_30 rfl rfl rfl kw_223 kw_72 kw_73 (by decide +kernel) (sb_30_0 hj) (so_aload_n (f := 0) (by decide +kernel) rfl (so_weak (so_callV (C := RX7) (T := TX7) (N0 := 8) (by decide +kernel) kcf_86 rfl rfl rfl kw_256 kw_257 kw_258 (by decide +kernel) (sb_86_0 hj) (so_istore (by decide +kernel) (by decide +kernel) (so_aload_n (f := 0) (by decide +kernel) rfl (so_weak (so_callV (C := RX7) (T := TX7) (N0 := 8) (by decide +kernel) kcf_80 rfl rfl rfl kw_253 kw_254 kw_255 (by decide +kernel) (sb_80_0 hj) (so_aload_n (f := 0) (by decide +kernel) rfl (so_get (C := RX7) (T := TX7) (N := 8) (by decide +kernel) rfl kin_7 (by decide) kw_214 (b := true) rfl (fun _ => rfl) (so_iload_n (f := 3) (by decide +kernel) rfl (so_iload (by decide +kernel) (so_weak (so_callV (C := RX5) (T := TX5) (N0 := 2) (by decide +kernel) kcf_30 rfl rfl rfl kw_223 kw_72 kw_73 (by decide +kernel) (sb_30_0 hj) (so_aload_n (f := 0) (by decide +kernel) rfl (so_get (C := RX7) (T := TX7) (N := 8) (by decide +kernel) rfl kin_7 (by decide) kw_214 (b := true) rfl (fun _ => rfl) (so_iload_n (f := 3) (by decide +kernel) rfl (so_iload (by decide +kernel) (so_weak (so_callV (C := RX5) (T := TX5) (N0 := 2) (by decide +kernel) kcf_30 rfl rfl rfl kw_223 kw_72 kw_73 (by decide +kernel) (sb_30_0 hj) (so_aload_n (f := 0) (by decide +kernel) rfl (so_get (C := RX7) (T := TX7) (N := 8) (by decide +kernel) rfl kin_7 (by decide) kw_214 (b := true) rfl (fun _ => rfl) (so_iconst (i := 1) (by decide +kernel) (by decide +kernel) (by decide) (so_iload_n (f := 3) (by decide +kernel) rfl (so_isub (by decide +kernel) (so_iload (by decide +kernel) (so_weak (so_callV (C := RX5) (T := TX5) (N0 := 2) (by decide +kernel) kcf_30 rfl rfl rfl kw_223 kw_72 kw_73 (by decide +kernel) (sb_30_0 hj) (so_aload_n (f := 0) (by decide +kernel) rfl (so_get (C := RX7) (T := TX7) (N := 8) (by decide +kernel) rfl kin_7 (by decide) kw_214 (b := true) rfl (fun _ => rfl) (so_iconst (i := 1) (by decide +kernel) (by decide +kernel) (by decide) (so_iload_n (f := 3) (by decide +kernel) rfl (so_isub (by decide +kernel) (so_iload (by decide +kernel) (so_weak (so_callV (C := RX5) (T := TX5) (N0 := 2) (by decide +kernel) kcf_30 rfl rfl rfl kw_223 kw_72 kw_73 (by decide +kernel) (sb_30_0 hj) (so_aload_n (f := 0) (by decide +kernel) rfl (so_weak (so_callV (C := RX7) (T := TX7) (N0 := 8) (by decide +kernel) kcf_86 rfl rfl rfl kw_256 kw_257 kw_258 (by decide +kernel) (sb_86_0 hj) (so_istore (by decide +kernel) (by decide +kernel) (so_iload (by decide +kernel) (so_istore (by decide +kernel) (by decide +kernel) (so_iinc (z := 1) (by decide +kernel) (by decide +kernel) (by decide) (by decide +kernel) (so_goto (off := -102) (tgt := 37) (by decide +kernel) (by decide) (hj 48 _ _ rfl))))))) (callvE_imp BK_I)))) (callvE_imp BK_N))))))))) (callvE_imp BK_N))))))))) (callvE_imp BK_N))))))) (callvE_imp BK_N))))))) (callvE_imp BK_N))))) (callvE_imp BK_I)))) (callvE_imp BK_N))))))))) (callvE_imp BK_N))))))) (callvE_imp BK_N))))) (callE_imp BK_I)))
set_option maxRecDepth 20000 in
theorem sb_96_37 {j : AJ} (hj : SJ j) : Sound kM_96 37 (mb_96_37 j) := by
  refine so_weak (sc_96_37 hj) (fun L S h r q0 => ?_)
  obtain ⟨c0, L0_, rfl, q1⟩ := w_C_some q0
  obtain ⟨i1, L1_, rfl, q2⟩ := w_I_some q1
  obtain ⟨i2, L2_, rfl, q3⟩ := w_I_some q2
  obtain ⟨i3, L3_, rfl, q4⟩ := w_I_some q3
  obtain ⟨i4, L4_, rfl, q5⟩ := w_I_some q4
  obtain ⟨i5, L5_, rfl, q6⟩ := w_I_some q5
  obtain ⟨i6, L6_, rfl, q7⟩ := w_I_some q6
  obtain ⟨i7, L7_, rfl, q8⟩ := w_I_some q7
  obtain ⟨i8, L8_, rfl, q9⟩ := w_I_some q8
  obtain ⟨x9, L9_, rfl, q10⟩ := w_X_some q9
  obtain ⟨rfl, q11⟩ := w_0_some q10
  obtain ⟨rfl, q12⟩ := a_nil_some q11
  exact q12
set_option maxRecDepth 20000 in
theorem sc_96_9 {j : AJ} (hj : SJ j) : Sound kM_96 9 (mc_96_9 j) := by
  unfold mc_96_9
  exact so_istore_n (f := 3) (by decide +kernel) rfl (by decide +kernel) (so_aload_n (f := 0) (by decide +kernel) rfl (so_weak (so_callV (C := RX7) (T := TX7) (N0 := 8) (by decide +kernel) kcf_87 rfl rfl rfl kw_270 kw_271 kw_272 (by decide +kernel) (sb_87_0 hj) (so_istore (by decide +kernel) (by decide +kernel) (so_aload_n (f := 0) (by decide +kernel) rfl (so_iload (by decide +kernel) (so_iload (by decide +kernel) (so_weak (so_callV (C := RX7) (T := TX7) (N0 := 8) (by decide +kernel) kcf_92 rfl rfl rfl kw_274 kw_275 kw_276 (by decide +kernel) (sb_92_0 hj) (so_istore (by decide +kernel) (by decide +kernel) (so_iload (by decide +kernel) (so_istore (by decide +kernel) (by decide +kernel) (so_iload (by decide +kernel) (so_istore (by decide +kernel) (by decide +kernel) (so_iconst (i := 0) (by decide +kernel) (by decide +kernel) (by decide) (so_istore (by decide +kernel) (by decide +kernel) (sb_96_37 hj))))))))) (callvE_imp BK_I))))))) (callvE_imp BK_I)))
set_option maxRecDepth 20000 in
theorem sb_96_9 {j : AJ} (hj : SJ j) : Sound kM_96 9 (mb_96_9 j) := by
  refine so_weak (sc_96_9 hj) (fun L S h r q0 => ?_)
  obtain ⟨c0, L0_, rfl, q1⟩ := w_C_some q0
  obtain ⟨i1, L1_, rfl, q2⟩ := w_I_some q1
  obtain ⟨i2, L2_, rfl, q3⟩ := w_I_some q2
  obtain ⟨L3_, rfl, q4⟩ := w_N_some q3
  obtain ⟨L4_, rfl, q5⟩ := w_N_some q4
  obtain ⟨L5_, rfl, q6⟩ := w_N_some q5
  obtain ⟨L6_, rfl, q7⟩ := w_N_some q6
  obtain ⟨L7_, rfl, q8⟩ := w_N_some q7
  obtain ⟨L8_, rfl, q9⟩ := w_N_some q8
  obtain ⟨L9_, rfl, q10⟩ := w_N_some q9
  obtain ⟨rfl, q11⟩ := w_0_some q10
  obtain ⟨s0, S0_, rfl, q12⟩ := a_popI_some q11
  obtain ⟨rfl, q13⟩ := a_nil_some q12
  exact q13
set_option maxRecDepth 20000 in
theorem sc_96_8 {j : AJ} (hj : SJ j) : Sound kM_96 8 (mc_96_8 j) := by
  unfold mc_96_8
  exact so_iconst (i := 0) (by decide +kernel) (by decide +kernel) (by decide) (sb_96_9 hj)
set_option maxRecDepth 20000 in
theorem sb_96_8 {j : AJ} (hj : SJ j) : Sound kM_96 8 (mb_96_8 j) := by
  refine so_weak (sc_96_8 hj) (fun L S h r q0 => ?_)
  obtain ⟨c0, L0_, rfl, q1⟩ := w_C_some q0
  obtain ⟨i1, L1_, rfl, q2⟩ := w_I_some q1
  obtain ⟨i2, L2_, rfl, q3⟩ := w_I_some q2
  obtain ⟨L3_, rfl, q4⟩ := w_N_some q3
  obtain ⟨L4_, rfl, q5⟩ := w_N_some q4
  obtain ⟨L5_, rfl, q6⟩ := w_N_some q5
  obtain ⟨L6_, rfl, q7⟩ := w_N_some q6
  obtain ⟨L7_, rfl, q8⟩ := w_N_some q7
  obtain ⟨L8_, rfl, q9⟩ := w_N_some q8
  obtain ⟨L9_, rfl, q10⟩ := w_N_some q9
  obtain ⟨rfl, q11⟩ := w_0_some q10
  obtain ⟨rfl, q12⟩ := a_nil_some q11
  exact q12
set_option maxRecDepth 20000 in
theorem sc_96_0 {j : AJ} (hj : SJ j) : Sound kM_96 0 (mc_96_0 j) := by
  unfold mc_96_0
  exact so_iload_n (f := 1) (by decide +kernel) rfl (so_if (off := 7) (tgt := 8) (by decide +kernel) (by decide) rfl (sb_96_8 hj) (so_iconst (i := 1) (by decide +kernel) (by decide +kernel) (by decide) (so_goto (off := 4) (tgt := 9) (by decide +kernel) (by decide) (sb_96_9 hj))))
set_option maxRecDepth 20000 in
theorem sb_96_0 {j : AJ} (hj : SJ j) : Sound kM_96 0 (mb_96_0 j) := by
  refine so_weak (sc_96_0 hj) (fun L S h r q0 => ?_)
  obtain ⟨c0, L0_, rfl, q1⟩ := w_C_some q0
  obtain ⟨i1, L1_, rfl, q2⟩ := w_I_some q1
  obtain ⟨i2, L2_, rfl, q3⟩ := w_I_some q2
  obtain ⟨L3_, rfl, q4⟩ := w_N_some q3
  obtain ⟨L4_, rfl, q5⟩ := w_N_some q4
  obtain ⟨L5_, rfl, q6⟩ := w_N_some q5
  obtain ⟨L6_, rfl, q7⟩ := w_N_some q6
  obtain ⟨L7_, rfl, q8⟩ := w_N_some q7
  obtain ⟨L8_, rfl, q9⟩ := w_N_some q8
  obtain ⟨L9_, rfl, q10⟩ := w_N_some q9
  obtain ⟨rfl, q11⟩ := w_0_some q10
  obtain ⟨rfl, q12⟩ := a_nil_some q11
  exact q12
set_option maxRecDepth 20000 in
theorem sc_97_82 {j : AJ} (hj : SJ j) : Sound kM_97 82 (mc_97_82 j) := by
  unfold mc_97_82
  exact so_retv (by decide +kernel) rfl
set_option maxRecDepth 20000 in
theorem sb_97_82 {j : AJ} (hj : SJ j) : Sound kM_97 82 (mb_97_82 j) := by
  refine so_weak (sc_97_82 hj) (fun L S h r q0 => ?_)
  obtain ⟨c0, L0_, rfl, q1⟩ := w_C_some q0
  obtain ⟨c1, L1_, rfl, q2⟩ := w_C_some q1
  obtain ⟨i2, L2_, rfl, q3⟩ := w_I_some q2
  obtain ⟨i3, L3_, rfl, q4⟩ := w_I_some q3
  obtain ⟨i4, L4_, rfl, q5⟩ := w_I_some q4
  obtain ⟨i5, L5_, rfl, q6⟩ := w_I_some q5
  obtain ⟨c6, L6_, rfl, q7⟩ := w_C_some q6
  obtain ⟨i7, L7_, rfl, q8⟩ := w_I_some q7
  obtain ⟨x8, L8_, rfl, q9⟩ := w_X_some q8
  obtain ⟨rfl, q10⟩ := w_0_some q9
  obtain ⟨rfl, q11⟩ := a_nil_some q10
  exact q11
set_option maxRecDepth 20000 in
theorem sc_97_60 {j : AJ} (hj : SJ j) : Sound kM_97 60 (mc_97_60 j) := by
  unfold mc_97_60
  exact so_iload (by decide +kernel) (so_iconst (i := 1) (by decide +kernel) (by decide +kernel) (by decide) (so_iadd (by decide +kernel) (so_aload (by decide +kernel) (so_iload_n (f := 2) (by decide +kernel) rfl (so_iload (by decide +kernel) (so_iconst (i := 1) (by decide +kernel) (by decide +kernel) (by decide) (so_iadd (by decide +kernel) (so_weak (so_callV (C := RX5) (T := TX5) (N0 := 2) (by decide +kernel) kcf_23 rfl rfl rfl kw_221 kw_57 kw_58 (by decide +kernel) (sb_23_0 hj) (so_weak (so_callS (by decide +kernel) kcf_16 rfl kw_222 kw_27 (by decide +kernel) (sb_16_0 hj) (so_istore (by decide +kernel) (by decide +kernel) (so_goto (off := -63) (tgt := 16) (by decide +kernel) (by decide) (hj 49 _ _ rfl)))) (callE_imp BK_I))) (callvE_imp BK_I)))))))))
set_option maxRecDepth 20000 in
theorem sb_97_60 {j : AJ} (hj : SJ j) : Sound kM_97 60 (mb_97_60 j) := by
  refine so_weak (sc_97_60 hj) (fun L S h r q0 => ?_)
  obtain ⟨c0, L0_, rfl, q1⟩ := w_C_some q0
  obtain ⟨c1, L1_, rfl, q2⟩ := w_C_some q1
  obtain ⟨i2, L2_, rfl, q3⟩ := w_I_some q2
  obtain ⟨i3, L3_, rfl, q4⟩ := w_I_some q3
  obtain ⟨i4, L4_, rfl, q5⟩ := w_I_some q4
  obtain ⟨i5, L5_, rfl, q6⟩ := w_I_some q5
  obtain ⟨c6, L6_, rfl, q7⟩ := w_C_some q6
  obtain ⟨i7, L7_, rfl, q8⟩ := w_I_some q7
  obtain ⟨i8, L8_, rfl, q9⟩ := w_I_some q8
  obtain ⟨rfl, q10⟩ := w_0_some q9
  obtain ⟨rfl, q11⟩ := a_nil_some q10
  exact q11
set_option maxRecDepth 20000 in
theorem sc_97_16 {j : AJ} (hj : SJ j) : Sound kM_97 16 (mc_97_16 j) := by
  unfold mc_97_16
  exact so_iload (by decide +kernel) (so_iload_n (f := 2) (by decide +kernel) rfl (so_icmp (off := 63) (tgt := 82) (by decide +kernel) (by decide) rfl (sb_97_82 hj) (so_iload (by decide +kernel) (so_iload (by decide +kernel) (so_imul (by decide +kernel) (so_iload (by decide +kernel) (so_iadd (by decide +kernel) (so_istore (by decide +kernel) (by decide +kernel) (so_iload (by decide +kernel) (so_if (off := 26) (tgt := 60) (by decide +kernel) (by decide) rfl (sb_97_60 hj) (so_iload (by decide +kernel) (so_sipush (i := 1024) (by decide +kernel) (by decide +kernel) (by decide) (so_icmp (off := 18) (tgt := 60) (by decide +kernel) (by decide) rfl (sb_97_60 hj) (so_aload_n (f := 0) (by decide +kernel) rfl (so_get (C := RX7) (T := TX7) (N := 8) (by decide +kernel) rfl kin_7 (by decide) kw_214 (b := true) rfl (fun _ => rfl) (so_iload_n (f := 3) (by decide +kernel) rfl (so_aload_n (f := 0) (by decide +kernel) rfl (so_get (C := RX7) (T := TX7) (N := 8) (by decide +kernel) rfl kin_7 (by decide) kw_215 (b := true) rfl (fun _ => rfl) (so_iload (by decide +kernel) (so_iald (by decide +kernel) (so_weak (so_callV (C := RX5) (T := TX5) (N0 := 2) (by decide +kernel) kcf_30 rfl rfl rfl kw_223 kw_72 kw_73 (by decide +kernel) (sb_30_0 hj) (sb_97_60 hj)) (callvE_imp BK_N))))))))))))))))))))))
set_option maxRecDepth 20000 in
theorem sb_97_16 {j : AJ} (hj : SJ j) : Sound kM_97 16 (mb_97_16 j) := by
  refine so_weak (sc_97_16 hj) (fun L S h r q0 => ?_)
  obtain ⟨c0, L0_, rfl, q1⟩ := w_C_some q0
  obtain ⟨c1, L1_, rfl, q2⟩ := w_C_some q1
  obtain ⟨i2, L2_, rfl, q3⟩ := w_I_some q2
  obtain ⟨i3, L3_, rfl, q4⟩ := w_I_some q3
  obtain ⟨i4, L4_, rfl, q5⟩ := w_I_some q4
  obtain ⟨i5, L5_, rfl, q6⟩ := w_I_some q5
  obtain ⟨c6, L6_, rfl, q7⟩ := w_C_some q6
  obtain ⟨i7, L7_, rfl, q8⟩ := w_I_some q7
  obtain ⟨x8, L8_, rfl, q9⟩ := w_X_some q8
  obtain ⟨rfl, q10⟩ := w_0_some q9
  obtain ⟨rfl, q11⟩ := a_nil_some q10
  exact q11
set_option maxRecDepth 20000 in
theorem sc_97_0 {j : AJ} (hj : SJ j) : Sound kM_97 0 (mc_97_0 j) := by
  unfold mc_97_0
  exact so_aload_n (f := 1) (by decide +kernel) rfl (so_iload_n (f := 3) (by decide +kernel) rfl (so_weak (so_callV (C := RX1) (T := TX1) (N0 := 4) (by decide +kernel) kcf_19 rfl rfl rfl kw_284 kw_188 kw_189 (by decide +kernel) (sb_19_0 hj) (so_astore (by decide +kernel) (by decide +kernel) (so_aload (by decide +kernel) (so_iload_n (f := 2) (by decide +kernel) rfl (so_iconst (i := 0) (by decide +kernel) (by decide +kernel) (by decide) (so_weak (so_callV (C := RX5) (T := TX5) (N0 := 2) (by decide +kernel) kcf_23 rfl rfl rfl kw_221 kw_57 kw_58 (by decide +kernel) (sb_23_0 hj) (so_istore (by decide +kernel) (by decide +kernel) (sb_97_16 hj))) (callvE_imp BK_I))))))) (callvE_imp BK_C)))
set_option maxRecDepth 20000 in
theorem sb_97_0 {j : AJ} (hj : SJ j) : Sound kM_97 0 (mb_97_0 j) := by
  refine so_weak (sc_97_0 hj) (fun L S h r q0 => ?_)
  obtain ⟨c0, L0_, rfl, q1⟩ := w_C_some q0
  obtain ⟨c1, L1_, rfl, q2⟩ := w_C_some q1
  obtain ⟨i2, L2_, rfl, q3⟩ := w_I_some q2
  obtain ⟨i3, L3_, rfl, q4⟩ := w_I_some q3
  obtain ⟨i4, L4_, rfl, q5⟩ := w_I_some q4
  obtain ⟨i5, L5_, rfl, q6⟩ := w_I_some q5
  obtain ⟨L6_, rfl, q7⟩ := w_N_some q6
  obtain ⟨L7_, rfl, q8⟩ := w_N_some q7
  obtain ⟨L8_, rfl, q9⟩ := w_N_some q8
  obtain ⟨rfl, q10⟩ := w_0_some q9
  obtain ⟨rfl, q11⟩ := a_nil_some q10
  exact q11
set_option maxRecDepth 20000 in
theorem sc_98_59 {j : AJ} (hj : SJ j) : Sound kM_98 59 (mc_98_59 j) := by
  unfold mc_98_59
  exact so_iload_n (f := 2) (by decide +kernel) rfl (so_reti (by decide +kernel) rfl)
set_option maxRecDepth 20000 in
theorem sb_98_59 {j : AJ} (hj : SJ j) : Sound kM_98 59 (mb_98_59 j) := by
  refine so_weak (sc_98_59 hj) (fun L S h r q0 => ?_)
  obtain ⟨c0, L0_, rfl, q1⟩ := w_C_some q0
  obtain ⟨c1, L1_, rfl, q2⟩ := w_C_some q1
  obtain ⟨i2, L2_, rfl, q3⟩ := w_I_some q2
  obtain ⟨i3, L3_, rfl, q4⟩ := w_I_some q3
  obtain ⟨rfl, q5⟩ := w_0_some q4
  obtain ⟨rfl, q6⟩ := a_nil_some q5
  exact q6
set_option maxRecDepth 20000 in
theorem sc_98_4 {j : AJ} (hj : SJ j) : Sound kM_98 4 (mc_98_4 j) := by
  unfold mc_98_4
  exact so_iload_n (f := 3) (by decide +kernel) rfl (so_aload_n (f := 1) (by decide +kernel) rfl (so_getN (C := RX1) (T := TX1) (N := 4) (by decide +kernel) rfl kin_1 (by decide) kw_285 (b := false) rfl (fun _ => rfl) (so_icmp (off := 50) (tgt := 59) (by decide +kernel) (by decide) rfl (sb_98_59 hj) (so_iload_n (f := 3) (by decide +kernel) rfl (so_sipush (i := 1024) (by decide +kernel) (by decide +kernel) (by decide) (so_icmp (off := 43) (tgt := 59) (by decide +kernel) (by decide) rfl (sb_98_59 hj) (so_aload_n (f := 0) (by decide +kernel) rfl (so_weak (so_callV (C := RX7) (T := TX7) (N0 := 8) (by decide +kernel) kcf_80 rfl rfl rfl kw_253 kw_254 kw_255 (by decide +kernel) (sb_80_0 hj) (so_aload_n (f := 0) (by decide +kernel) rfl (so_aload_n (f := 1) (by decide +kernel) rfl (so_iload_n (f := 3) (by decide +kernel) rfl (so_iconst (i := 0) (by decide +kernel) (by decide +kernel) (by decide) (so_iconst (i := 1) (by decide +kernel) (by decide +kernel) (by decide) (so_iconst (i := 0) (by decide +kernel) (by decide +kernel) (by decide) (so_weak (so_callV (C := RX7) (T := TX7) (N0 := 8) (by decide +kernel) kcf_97 rfl rfl rfl kw_286 kw_287 kw_288 (by decide +kernel) (sb_97_0 hj) (so_aload_n (f := 0) (by decide +kernel) rfl (so_aload_n (f := 1) (by decide +kernel) rfl (so_iload_n (f := 3) (by decide +kernel) rfl (so_iconst (i := 1) (by decide +kernel) (by decide +kernel) (by decide) (so_iconst (i := 1) (by decide +kernel) (by decide +kernel) (by decide) (so_iconst (i := 0) (by decide +kernel) (by decide +kernel) (by decide) (so_weak (so_callV (C := RX7) (T := TX7) (N0 := 8) (by decide +kernel) kcf_97 rfl rfl rfl kw_286 kw_287 kw_288 (by decide +kernel) (sb_97_0 hj) (so_aload_n (f := 0) (by decide +kernel) rfl (so_weak (so_callV (C := RX7) (T := TX7) (N0 := 8) (by decide +kernel) kcf_86 rfl rfl rfl kw_256 kw_257 kw_258 (by decide +kernel) (sb_86_0 hj) (so_istore_n (f := 2) (by decide +kernel) rfl (by decide +kernel) (so_aload_n (f := 0) (by decide +kernel) rfl (so_get (C := RX7) (T := TX7) (N := 8) (by decide +kernel) rfl kin_7 (by decide) kw_215 (b := true) rfl (fun _ => rfl) (so_iload_n (f := 3) (by decide +kernel) rfl (so_iload_n (f := 2) (by decide +kernel) rfl (so_iast (by decide +kernel) (so_iinc (z := 1) (by decide +kernel) (by decide +kernel) (by decide) (by decide +kernel) (so_goto (off := -52) (tgt := 4) (by decide +kernel) (by decide) (hj 50 _ _ rfl)))))))))) (callvE_imp BK_I)))) (callvE_imp BK_N))))))))) (callvE_imp BK_N))))))))) (callvE_imp BK_N)))))))))
set_option maxRecDepth 20000 in
theorem sb_98_4 {j : AJ} (hj : SJ j) : Sound kM_98 4 (mb_98_4 j) := by
  refine so_weak (sc_98_4 hj) (fun L S h r q0 => ?_)
  obtain ⟨c0, L0_, rfl, q1⟩ := w_C_some q0
  obtain ⟨c1, L1_, rfl, q2⟩ := w_C_some q1
  obtain ⟨i2, L2_, rfl, q3⟩ := w_I_some q2
  obtain ⟨i3, L3_, rfl, q4⟩ := w_I_some q3
  obtain ⟨rfl, q5⟩ := w_0_some q4
  obtain ⟨rfl, q6⟩ := a_nil_some q5
  exact q6
set_option maxRecDepth 20000 in
theorem sc_98_0 {j : AJ} (hj : SJ j) : Sound kM_98 0 (mc_98_0 j) := by
  unfold mc_98_0
  exact so_iconst (i := 0) (by decide +kernel) (by decide +kernel) (by decide) (so_istore_n (f := 2) (by decide +kernel) rfl (by decide +kernel) (so_iconst (i := 0) (by decide +kernel) (by decide +kernel) (by decide) (so_istore_n (f := 3) (by decide +kernel) rfl (by decide +kernel) (sb_98_4 hj))))
set_option maxRecDepth 20000 in
theorem sb_98_0 {j : AJ} (hj : SJ j) : Sound kM_98 0 (mb_98_0 j) := by
  refine so_weak (sc_98_0 hj) (fun L S h r q0 => ?_)
  obtain ⟨c0, L0_, rfl, q1⟩ := w_C_some q0
  obtain ⟨c1, L1_, rfl, q2⟩ := w_C_some q1
  obtain ⟨L2_, rfl, q3⟩ := w_N_some q2
  obtain ⟨L3_, rfl, q4⟩ := w_N_some q3
  obtain ⟨rfl, q5⟩ := w_0_some q4
  obtain ⟨rfl, q6⟩ := a_nil_some q5
  exact q6
set_option maxRecDepth 20000 in
theorem sb_99_124 {j : AJ} (hj : SJ j) : Sound kM_99 124 (mb_99_124 j) := by
  unfold mb_99_124
  exact so_aload_n (f := 0) (by decide +kernel) rfl (so_callV (C := RX7) (T := TX7) (N0 := 8) (by decide +kernel) kcf_86 rfl rfl rfl kw_256 kw_257 kw_258 (by decide +kernel) (sb_86_0 hj) (so_reti (by decide +kernel) rfl))
set_option maxRecDepth 20000 in
theorem sb_99_118 {j : AJ} (hj : SJ j) : Sound kM_99 118 (mb_99_118 j) := by
  unfold mb_99_118
  exact so_iinc (z := 1) (by decide +kernel) (by decide +kernel) (by decide) (by decide +kernel) (so_goto (off := -58) (tgt := 63) (by decide +kernel) (by decide) (hj 52 _ _ rfl))
set_option maxRecDepth 20000 in
theorem sb_99_94 {j : AJ} (hj : SJ j) : Sound kM_99 94 (mb_99_94 j) := by
  unfold mb_99_94
  exact so_iload_n (f := 3) (by decide +kernel) rfl (so_iload (by decide +kernel) (so_sa1 (so_ishr (by decide +kernel) (so_iconst (i := 1) (by decide +kernel) (by decide +kernel) (by decide) (so_iand (by decide +kernel) (so_if (off := 18) (tgt := 118) (by decide +kernel) (by decide) rfl (sb_99_118 hj) (so_aload_n (f := 0) (by decide +kernel) rfl (so_get (C := RX7) (T := TX7) (N := 8) (by decide +kernel) rfl kin_7 (by decide) kw_214 (b := true) rfl (fun _ => rfl) (so_iconst (i := 1) (by decide +kernel) (by decide +kernel) (by decide) (so_aload_n (f := 0) (by decide +kernel) rfl (so_get (C := RX7) (T := TX7) (N := 8) (by decide +kernel) rfl kin_7 (by decide) kw_216 (b := true) rfl (fun _ => rfl) (so_iload (by decide +kernel) (so_iald (by decide +kernel) (so_callV (C := RX5) (T := TX5) (N0 := 2) (by decide +kernel) kcf_30 rfl rfl rfl kw_223 kw_72 kw_73 (by decide +kernel) (sb_30_0 hj) (sb_99_118 hj)))))))))))))))
set_option maxRecDepth 20000 in
theorem sb_99_63 {j : AJ} (hj : SJ j) : Sound kM_99 63 (mb_99_63 j) := by
  unfold mb_99_63
  exact so_iload (by decide +kernel) (so_iload (by decide +kernel) (so_icmp (off := 57) (tgt := 124) (by decide +kernel) (by decide) rfl (sb_99_124 hj) (so_iload_n (f := 2) (by decide +kernel) rfl (so_iload (by decide +kernel) (so_sa1 (so_ishr (by decide +kernel) (so_iconst (i := 1) (by decide +kernel) (by decide +kernel) (by decide) (so_iand (by decide +kernel) (so_if (off := 18) (tgt := 94) (by decide +kernel) (by decide) rfl (sb_99_94 hj) (so_aload_n (f := 0) (by decide +kernel) rfl (so_get (C := RX7) (T := TX7) (N := 8) (by decide +kernel) rfl kin_7 (by decide) kw_214 (b := true) rfl (fun _ => rfl) (so_iconst (i := 0) (by decide +kernel) (by decide +kernel) (by decide) (so_aload_n (f := 0) (by decide +kernel) rfl (so_get (C := RX7) (T := TX7) (N := 8) (by decide +kernel) rfl kin_7 (by decide) kw_216 (b := true) rfl (fun _ => rfl) (so_iload (by decide +kernel) (so_iald (by decide +kernel) (so_callV (C := RX5) (T := TX5) (N0 := 2) (by decide +kernel) kcf_30 rfl rfl rfl kw_223 kw_72 kw_73 (by decide +kernel) (sb_30_0 hj) (sb_99_94 hj))))))))))))))))))
set_option maxRecDepth 20000 in
theorem sb_99_56 {j : AJ} (hj : SJ j) : Sound kM_99 56 (mb_99_56 j) := by
  unfold mb_99_56
  exact so_aload_n (f := 0) (by decide +kernel) rfl (so_callV (C := RX7) (T := TX7) (N0 := 8) (by decide +kernel) kcf_80 rfl rfl rfl kw_253 kw_254 kw_255 (by decide +kernel) (sb_80_0 hj) (so_iconst (i := 0) (by decide +kernel) (by decide +kernel) (by decide) (so_istore (by decide +kernel) (by decide +kernel) (sb_99_63 hj))))
set_option maxRecDepth 20000 in
theorem sb_99_50 {j : AJ} (hj : SJ j) : Sound kM_99 50 (mb_99_50 j) := by
  unfold mb_99_50
  exact so_iinc (z := 1) (by decide +kernel) (by decide +kernel) (by decide) (by decide +kernel) (so_goto (off := -36) (tgt := 17) (by decide +kernel) (by decide) (hj 51 _ _ rfl))
set_option maxRecDepth 20000 in
theorem sb_99_17 {j : AJ} (hj : SJ j) : Sound kM_99 17 (mb_99_17 j) := by
  unfold mb_99_17
  exact so_iload (by decide +kernel) (so_iload (by decide +kernel) (so_icmp (off := 35) (tgt := 56) (by decide +kernel) (by decide) rfl (sb_99_56 hj) (so_iload_n (f := 2) (by decide +kernel) rfl (so_iload_n (f := 3) (by decide +kernel) rfl (so_osa (so_ior (by decide +kernel) (so_iload (by decide +kernel) (so_ishr (by decide +kernel) (so_iconst (i := 1) (by decide +kernel) (by decide +kernel) (by decide) (so_iand (by decide +kernel) (so_if (off := 18) (tgt := 50) (by decide +kernel) (by decide) rfl (sb_99_50 hj) (so_aload_n (f := 0) (by decide +kernel) rfl (so_get (C := RX7) (T := TX7) (N := 8) (by decide +kernel) rfl kin_7 (by decide) kw_216 (b := true) rfl (fun _ => rfl) (so_iload (by decide +kernel) (so_aload_n (f := 0) (by decide +kernel) rfl (so_aload_n (f := 1) (by decide +kernel) rfl (so_iload (by decide +kernel) (so_aald (by decide +kernel) (so_callV (C := RX7) (T := TX7) (N0 := 8) (by decide +kernel) kcf_98 rfl rfl rfl kw_289 kw_290 kw_291 (by decide +kernel) (sb_98_0 hj) (so_iast (by decide +kernel) (sb_99_50 hj)))))))))))))))))))))
set_option maxRecDepth 20000 in
theorem sb_99_0 {j : AJ} (hj : SJ j) : Sound kM_99 0 (mb_99_0 j) := by
  unfold mb_99_0
  exact so_aload_n (f := 0) (by decide +kernel) rfl (so_callV (C := RX7) (T := TX7) (N0 := 8) (by decide +kernel) kcf_87 rfl rfl rfl kw_270 kw_271 kw_272 (by decide +kernel) (sb_87_0 hj) (so_pop (by decide +kernel) (so_bipush (i := 10) (by decide +kernel) (by decide +kernel) (by decide) (so_aload_n (f := 1) (by decide +kernel) rfl (so_alen (by decide +kernel) (so_callS (by decide +kernel) kcf_15 rfl kw_279 kw_25 (by decide +kernel) (sb_15_0 hj) (so_istore (by decide +kernel) (by decide +kernel) (so_iconst (i := 0) (by decide +kernel) (by decide +kernel) (by decide) (so_istore (by decide +kernel) (by decide +kernel) (sb_99_17 hj))))))))))
set_option maxRecDepth 20000 in
theorem sc_100_151 {j : AJ} (hj : SJ j) : Sound kM_100 151 (mc_100_151 j) := by
  unfold mc_100_151
  exact so_aload_n (f := 0) (by decide +kernel) rfl (so_get (C := RX7) (T := TX7) (N := 8) (by decide +kernel) rfl kin_7 (by decide) kw_215 (b := true) rfl (fun _ => rfl) (so_iload_n (f := 3) (by decide +kernel) rfl (so_iconst (i := 1) (by decide +kernel) (by decide +kernel) (by decide) (so_isub (by decide +kernel) (so_iald (by decide +kernel) (so_reti (by decide +kernel) rfl))))))
set_option maxRecDepth 20000 in
theorem sb_100_151 {j : AJ} (hj : SJ j) : Sound kM_100 151 (mb_100_151 j) := by
  refine so_weak (sc_100_151 hj) (fun L S h r q0 => ?_)
  obtain ⟨c0, L0_, rfl, q1⟩ := w_C_some q0
  obtain ⟨c1, L1_, rfl, q2⟩ := w_C_some q1
  obtain ⟨c2, L2_, rfl, q3⟩ := w_C_some q2
  obtain ⟨i3, L3_, rfl, q4⟩ := w_I_some q3
  obtain ⟨i4, L4_, rfl, q5⟩ := w_I_some q4
  obtain ⟨x5, L5_, rfl, q6⟩ := w_X_some q5
  obtain ⟨rfl, q7⟩ := w_0_some q6
  obtain ⟨rfl, q8⟩ := a_nil_some q7
  exact q8
set_option maxRecDepth 20000 in
theorem sc_100_145 {j : AJ} (hj : SJ j) : Sound kM_100 145 (mc_100_145 j) := by
  unfold mc_100_145
  exact so_iinc (z := 1) (by decide +kernel) (by decide +kernel) (by decide) (by decide +kernel) (so_goto (off := -113) (tgt := 35) (by decide +kernel) (by decide) (hj 54 _ _ rfl))
set_option maxRecDepth 20000 in
theorem sb_100_145 {j : AJ} (hj : SJ j) : Sound kM_100 145 (mb_100_145 j) := by
  refine so_weak (sc_100_145 hj) (fun L S h r q0 => ?_)
  obtain ⟨c0, L0_, rfl, q1⟩ := w_C_some q0
  obtain ⟨c1, L1_, rfl, q2⟩ := w_C_some q1
  obtain ⟨c2, L2_, rfl, q3⟩ := w_C_some q2
  obtain ⟨i3, L3_, rfl, q4⟩ := w_I_some q3
  obtain ⟨i4, L4_, rfl, q5⟩ := w_I_some q4
  obtain ⟨i5, L5_, rfl, q6⟩ := w_I_some q5
  obtain ⟨rfl, q7⟩ := w_0_some q6
  obtain ⟨rfl, q8⟩ := a_nil_some q7
  exact q8
set_option maxRecDepth 20000 in
theorem sc_100_47 {j : AJ} (hj : SJ j) : Sound kM_100 47 (mc_100_47 j) := by
  unfold mc_100_47
  exact so_iload (by decide +kernel) (so_aload_n (f := 2) (by decide +kernel) rfl (so_getN (C := RX1) (T := TX1) (N := 4) (by decide +kernel) rfl kin_1 (by decide) kw_285 (b := false) rfl (fun _ => rfl) (so_icmp (off := 92) (tgt := 145) (by decide +kernel) (by decide) rfl (sb_100_145 hj) (so_aload_n (f := 0) (by decide +kernel) rfl (so_weak (so_callV (C := RX7) (T := TX7) (N0 := 8) (by decide +kernel) kcf_80 rfl rfl rfl kw_253 kw_254 kw_255 (by decide +kernel) (sb_80_0 hj) (so_aload_n (f := 0) (by decide +kernel) rfl (so_aload_n (f := 1) (by decide +kernel) rfl (so_iload (by decide +kernel) (so_iconst (i := 0) (by decide +kernel) (by decide +kernel) (by decide) (so_aload_n (f := 2) (by decide +kernel) rfl (so_getN (C := RX1) (T := TX1) (N := 4) (by decide +kernel) rfl kin_1 (by decide) kw_285 (b := false) rfl (fun _ => rfl) (so_iload (by decide +kernel) (so_weak (so_callV (C := RX7) (T := TX7) (N0 := 8) (by decide +kernel) kcf_97 rfl rfl rfl kw_286 kw_287 kw_288 (by decide +kernel) (sb_97_0 hj) (so_aload_n (f := 0) (by decide +kernel) rfl (so_aload_n (f := 1) (by decide +kernel) rfl (so_iload (by decide +kernel) (so_iconst (i := 1) (by decide +kernel) (by decide +kernel) (by decide) (so_aload_n (f := 2) (by decide +kernel) rfl (so_getN (C := RX1) (T := TX1) (N := 4) (by decide +kernel) rfl kin_1 (by decide) kw_285 (b := false) rfl (fun _ => rfl) (so_iload (by decide +kernel) (so_weak (so_callV (C := RX7) (T := TX7) (N0 := 8) (by decide +kernel) kcf_97 rfl rfl rfl kw_286 kw_287 kw_288 (by decide +kernel) (sb_97_0 hj) (so_aload_n (f := 0) (by decide +kernel) rfl (so_aload_n (f := 2) (by decide +kernel) rfl (so_iload (by decide +kernel) (so_iconst (i := 0) (by decide +kernel) (by decide +kernel) (by decide) (so_iconst (i := 1) (by decide +kernel) (by decide +kernel) (by decide) (so_iload (by decide +kernel) (so_aload_n (f := 2) (by decide +kernel) rfl (so_getN (C := RX1) (T := TX1) (N := 4) (by decide +kernel) rfl kin_1 (by decide) kw_285 (b := false) rfl (fun _ => rfl) (so_imul (by decide +kernel) (so_weak (so_callV (C := RX7) (T := TX7) (N0 := 8) (by decide +kernel) kcf_97 rfl rfl rfl kw_286 kw_287 kw_288 (by decide +kernel) (sb_97_0 hj) (so_aload_n (f := 0) (by decide +kernel) rfl (so_aload_n (f := 2) (by decide +kernel) rfl (so_iload (by decide +kernel) (so_iconst (i := 1) (by decide +kernel) (by decide +kernel) (by decide) (so_iconst (i := 1) (by decide +kernel) (by decide +kernel) (by decide) (so_iload (by decide +kernel) (so_aload_n (f := 2) (by decide +kernel) rfl (so_getN (C := RX1) (T := TX1) (N := 4) (by decide +kernel) rfl kin_1 (by decide) kw_285 (b := false) rfl (fun _ => rfl) (so_imul (by decide +kernel) (so_weak (so_callV (C := RX7) (T := TX7) (N0 := 8) (by decide +kernel) kcf_97 rfl rfl rfl kw_286 kw_287 kw_288 (by decide +kernel) (sb_97_0 hj) (so_aload_n (f := 0) (by decide +kernel) rfl (so_get (C := RX7) (T := TX7) (N := 8) (by decide +kernel) rfl kin_7 (by decide) kw_215 (b := true) rfl (fun _ => rfl) (so_iload (by decide +kernel) (so_aload_n (f := 2) (by decide +kernel) rfl (so_getN (C := RX1) (T := TX1) (N := 4) (by decide +kernel) rfl kin_1 (by decide) kw_285 (b := false) rfl (fun _ => rfl) (so_imul (by decide +kernel) (so_iload (by decide +kernel) (so_iadd (by decide +kernel) (so_aload_n (f := 0) (by decide +kernel) rfl (so_weak (so_callV (C := RX7) (T := TX7) (N0 := 8) (by decide +kernel) kcf_86 rfl rfl rfl kw_256 kw_257 kw_258 (by decide +kernel) (sb_86_0 hj) (so_iast (by decide +kernel) (so_iinc (z := 1) (by decide +kernel) (by decide +kernel) (by decide) (by decide +kernel) (so_goto (off := -95) (tgt := 47) (by decide +kernel) (by decide) (hj 53 _ _ rfl))))) (callvE_imp BK_I)))))))))))) (callvE_imp BK_N)))))))))))) (callvE_imp BK_N)))))))))))) (callvE_imp BK_N)))))))))) (callvE_imp BK_N)))))))))) (callvE_imp BK_N))))))
set_option maxRecDepth 20000 in
theorem sb_100_47 {j : AJ} (hj : SJ j) : Sound kM_100 47 (mb_100_47 j) := by
  refine so_weak (sc_100_47 hj) (fun L S h r q0 => ?_)
  obtain ⟨c0, L0_, rfl, q1⟩ := w_C_some q0
  obtain ⟨c1, L1_, rfl, q2⟩ := w_C_some q1
  obtain ⟨c2, L2_, rfl, q3⟩ := w_C_some q2
  obtain ⟨i3, L3_, rfl, q4⟩ := w_I_some q3
  obtain ⟨i4, L4_, rfl, q5⟩ := w_I_some q4
  obtain ⟨i5, L5_, rfl, q6⟩ := w_I_some q5
  obtain ⟨rfl, q7⟩ := w_0_some q6
  obtain ⟨rfl, q8⟩ := a_nil_some q7
  exact q8
set_option maxRecDepth 20000 in
theorem sc_100_35 {j : AJ} (hj : SJ j) : Sound kM_100 35 (mc_100_35 j) := by
  unfold mc_100_35
  exact so_iload (by decide +kernel) (so_aload_n (f := 1) (by decide +kernel) rfl (so_getN (C := RX1) (T := TX1) (N := 4) (by decide +kernel) rfl kin_1 (by decide) kw_285 (b := false) rfl (fun _ => rfl) (so_icmp (off := 110) (tgt := 151) (by decide +kernel) (by decide) rfl (sb_100_151 hj) (so_iconst (i := 0) (by decide +kernel) (by decide +kernel) (by decide) (so_istore (by decide +kernel) (by decide +kernel) (sb_100_47 hj))))))
set_option maxRecDepth 20000 in
theorem sb_100_35 {j : AJ} (hj : SJ j) : Sound kM_100 35 (mb_100_35 j) := by
  refine so_weak (sc_100_35 hj) (fun L S h r q0 => ?_)
  obtain ⟨c0, L0_, rfl, q1⟩ := w_C_some q0
  obtain ⟨c1, L1_, rfl, q2⟩ := w_C_some q1
  obtain ⟨c2, L2_, rfl, q3⟩ := w_C_some q2
  obtain ⟨i3, L3_, rfl, q4⟩ := w_I_some q3
  obtain ⟨i4, L4_, rfl, q5⟩ := w_I_some q4
  obtain ⟨x5, L5_, rfl, q6⟩ := w_X_some q5
  obtain ⟨rfl, q7⟩ := w_0_some q6
  obtain ⟨rfl, q8⟩ := a_nil_some q7
  exact q8
set_option maxRecDepth 20000 in
theorem sc_100_27 {j : AJ} (hj : SJ j) : Sound kM_100 27 (mc_100_27 j) := by
  unfold mc_100_27
  exact so_aload_n (f := 0) (by decide +kernel) rfl (so_iconst (i := 0) (by decide +kernel) (by decide +kernel) (by decide) (so_putI (C := RX7) (T := TX7) (N := 8) (ty0 := tyX7) (by decide +kernel) rfl kin_7 tyX7_ok nmX7 (by decide) kw_234 rfl rfl rfl (so_iconst (i := 0) (by decide +kernel) (by decide +kernel) (by decide) (so_istore (by decide +kernel) (by decide +kernel) (sb_100_35 hj)))))
set_option maxRecDepth 20000 in
theorem sb_100_27 {j : AJ} (hj : SJ j) : Sound kM_100 27 (mb_100_27 j) := by
  refine so_weak (sc_100_27 hj) (fun L S h r q0 => ?_)
  obtain ⟨c0, L0_, rfl, q1⟩ := w_C_some q0
  obtain ⟨c1, L1_, rfl, q2⟩ := w_C_some q1
  obtain ⟨c2, L2_, rfl, q3⟩ := w_C_some q2
  obtain ⟨i3, L3_, rfl, q4⟩ := w_I_some q3
  obtain ⟨L4_, rfl, q5⟩ := w_N_some q4
  obtain ⟨L5_, rfl, q6⟩ := w_N_some q5
  obtain ⟨rfl, q7⟩ := w_0_some q6
  obtain ⟨rfl, q8⟩ := a_nil_some q7
  exact q8
set_option maxRecDepth 20000 in
theorem sc_100_22 {j : AJ} (hj : SJ j) : Sound kM_100 22 (mc_100_22 j) := by
  unfold mc_100_22
  exact so_aload_n (f := 0) (by decide +kernel) rfl (so_weak (so_callV (C := RX7) (T := TX7) (N0 := 8) (by decide +kernel) kcf_87 rfl rfl rfl kw_270 kw_271 kw_272 (by decide +kernel) (sb_87_0 hj) (so_reti (by decide +kernel) rfl)) (callvE_imp BK_I))
set_option maxRecDepth 20000 in
theorem sb_100_22 {j : AJ} (hj : SJ j) : Sound kM_100 22 (mb_100_22 j) := by
  refine so_weak (sc_100_22 hj) (fun L S h r q0 => ?_)
  obtain ⟨c0, L0_, rfl, q1⟩ := w_C_some q0
  obtain ⟨c1, L1_, rfl, q2⟩ := w_C_some q1
  obtain ⟨c2, L2_, rfl, q3⟩ := w_C_some q2
  obtain ⟨i3, L3_, rfl, q4⟩ := w_I_some q3
  obtain ⟨L4_, rfl, q5⟩ := w_N_some q4
  obtain ⟨L5_, rfl, q6⟩ := w_N_some q5
  obtain ⟨rfl, q7⟩ := w_0_some q6
  obtain ⟨rfl, q8⟩ := a_nil_some q7
  exact q8
set_option maxRecDepth 20000 in
theorem sc_100_0 {j : AJ} (hj : SJ j) : Sound kM_100 0 (mc_100_0 j) := by
  unfold mc_100_0
  exact so_aload_n (f := 1) (by decide +kernel) rfl (so_getN (C := RX1) (T := TX1) (N := 4) (by decide +kernel) rfl kin_1 (by decide) kw_285 (b := false) rfl (fun _ => rfl) (so_aload_n (f := 2) (by decide +kernel) rfl (so_getN (C := RX1) (T := TX1) (N := 4) (by decide +kernel) rfl kin_1 (by decide) kw_285 (b := false) rfl (fun _ => rfl) (so_imul (by decide +kernel) (so_istore_n (f := 3) (by decide +kernel) rfl (by decide +kernel) (so_iload_n (f := 3) (by decide +kernel) rfl (so_iconst (i := 1) (by decide +kernel) (by decide +kernel) (by decide) (so_icmp (off := 10) (tgt := 22) (by decide +kernel) (by decide) rfl (sb_100_22 hj) (so_iload_n (f := 3) (by decide +kernel) rfl (so_sipush (i := 1024) (by decide +kernel) (by decide +kernel) (by decide) (so_icmp (off := 8) (tgt := 27) (by decide +kernel) (by decide) rfl (sb_100_27 hj) (sb_100_22 hj))))))))))))
set_option maxRecDepth 20000 in
theorem sb_100_0 {j : AJ} (hj : SJ j) : Sound kM_100 0 (mb_100_0 j) := by
  refine so_weak (sc_100_0 hj) (fun L S h r q0 => ?_)
  obtain ⟨c0, L0_, rfl, q1⟩ := w_C_some q0
  obtain ⟨c1, L1_, rfl, q2⟩ := w_C_some q1
  obtain ⟨c2, L2_, rfl, q3⟩ := w_C_some q2
  obtain ⟨L3_, rfl, q4⟩ := w_N_some q3
  obtain ⟨L4_, rfl, q5⟩ := w_N_some q4
  obtain ⟨L5_, rfl, q6⟩ := w_N_some q5
  obtain ⟨rfl, q7⟩ := w_0_some q6
  obtain ⟨rfl, q8⟩ := a_nil_some q7
  exact q8
set_option maxRecDepth 20000 in
theorem sb_101_74 {j : AJ} (hj : SJ j) : Sound kM_101 74 (mb_101_74 j) := by
  unfold mb_101_74
  exact so_aload_n (f := 0) (by decide +kernel) rfl (so_get (C := RX7) (T := TX7) (N := 8) (by decide +kernel) rfl kin_7 (by decide) kw_234 (b := false) rfl (fun _ => rfl) (so_iconst (i := 1) (by decide +kernel) (by decide +kernel) (by decide) (so_isub (by decide +kernel) (so_reti (by decide +kernel) rfl))))
set_option maxRecDepth 20000 in
theorem sb_101_61 {j : AJ} (hj : SJ j) : Sound kM_101 61 (mb_101_61 j) := by
  unfold mb_101_61
  exact so_callV (C := RX1) (T := TX1) (N0 := 4) (by decide +kernel) kcf_19 rfl rfl rfl kw_284 kw_188 kw_189 (by decide +kernel) (sb_19_0 hj) (so_iload_n (f := 3) (by decide +kernel) rfl (so_callV (C := RX5) (T := TX5) (N0 := 2) (by decide +kernel) kcf_56 rfl rfl rfl kw_235 kw_236 kw_237 (by decide +kernel) (sb_56_0 hj) (so_iinc (z := 1) (by decide +kernel) (by decide +kernel) (by decide) (by decide +kernel) (so_goto (off := -55) (tgt := 16) (by decide +kernel) (by decide) (hj 55 _ _ rfl)))))
set_option maxRecDepth 20000 in
theorem sb_101_60 {j : AJ} (hj : SJ j) : Sound kM_101 60 (mb_101_60 j) := by
  unfold mb_101_60
  exact so_iconst (i := 1) (by decide +kernel) (by decide +kernel) (by decide) (sb_101_61 hj)
set_option maxRecDepth 20000 in
theorem sb_101_39 {j : AJ} (hj : SJ j) : Sound kM_101 39 (mb_101_39 j) := by
  unfold mb_101_39
  exact so_callV (C := RX1) (T := TX1) (N0 := 4) (by decide +kernel) kcf_19 rfl rfl rfl kw_284 kw_188 kw_189 (by decide +kernel) (sb_19_0 hj) (so_iload_n (f := 3) (by decide +kernel) rfl (so_callV (C := RX5) (T := TX5) (N0 := 2) (by decide +kernel) kcf_56 rfl rfl rfl kw_235 kw_236 kw_237 (by decide +kernel) (sb_56_0 hj) (so_aload_n (f := 0) (by decide +kernel) rfl (so_get (C := RX7) (T := TX7) (N := 8) (by decide +kernel) rfl kin_7 (by decide) kw_211 (b := true) rfl (fun _ => rfl) (so_iload_n (f := 3) (by decide +kernel) rfl (so_aload_n (f := 1) (by decide +kernel) rfl (so_iload_n (f := 2) (by decide +kernel) rfl (so_if (off := 7) (tgt := 60) (by decide +kernel) (by decide) rfl (sb_101_60 hj) (so_iconst (i := 0) (by decide +kernel) (by decide +kernel) (by decide) (so_goto (off := 4) (tgt := 61) (by decide +kernel) (by decide) (sb_101_61 hj)))))))))))
set_option maxRecDepth 20000 in
theorem sb_101_38 {j : AJ} (hj : SJ j) : Sound kM_101 38 (mb_101_38 j) := by
  unfold mb_101_38
  exact so_iconst (i := 0) (by decide +kernel) (by decide +kernel) (by decide) (sb_101_39 hj)
set_option maxRecDepth 20000 in
theorem sb_101_16 {j : AJ} (hj : SJ j) : Sound kM_101 16 (mb_101_16 j) := by
  unfold mb_101_16
  exact so_iload_n (f := 3) (by decide +kernel) rfl (so_aload_n (f := 0) (by decide +kernel) rfl (so_get (C := RX7) (T := TX7) (N := 8) (by decide +kernel) rfl kin_7 (by decide) kw_234 (b := false) rfl (fun _ => rfl) (so_icmp (off := 53) (tgt := 74) (by decide +kernel) (by decide) rfl (sb_101_74 hj) (so_aload_n (f := 0) (by decide +kernel) rfl (so_get (C := RX7) (T := TX7) (N := 8) (by decide +kernel) rfl kin_7 (by decide) kw_210 (b := true) rfl (fun _ => rfl) (so_iload_n (f := 3) (by decide +kernel) rfl (so_aload_n (f := 1) (by decide +kernel) rfl (so_iload_n (f := 2) (by decide +kernel) rfl (so_if (off := 7) (tgt := 38) (by decide +kernel) (by decide) rfl (sb_101_38 hj) (so_iconst (i := 1) (by decide +kernel) (by decide +kernel) (by decide) (so_goto (off := 4) (tgt := 39) (by decide +kernel) (by decide) (sb_101_39 hj))))))))))))
set_option maxRecDepth 20000 in
theorem sb_101_0 {j : AJ} (hj : SJ j) : Sound kM_101 0 (mb_101_0 j) := by
  unfold mb_101_0
  exact so_aload_n (f := 0) (by decide +kernel) rfl (so_aload_n (f := 1) (by decide +kernel) rfl (so_getN (C := RX1) (T := TX1) (N := 4) (by decide +kernel) rfl kin_1 (by decide) kw_285 (b := false) rfl (fun _ => rfl) (so_sipush (i := 320) (by decide +kernel) (by decide +kernel) (by decide) (so_callS (by decide +kernel) kcf_15 rfl kw_279 kw_25 (by decide +kernel) (sb_15_0 hj) (so_putI (C := RX7) (T := TX7) (N := 8) (ty0 := tyX7) (by decide +kernel) rfl kin_7 tyX7_ok nmX7 (by decide) kw_234 rfl rfl rfl (so_iconst (i := 0) (by decide +kernel) (by decide +kernel) (by decide) (so_istore_n (f := 3) (by decide +kernel) rfl (by decide +kernel) (sb_101_16 hj))))))))
set_option maxRecDepth 20000 in
theorem sb_102_166 {j : AJ} (hj : SJ j) : Sound kM_102 166 (mb_102_166 j) := by
  unfold mb_102_166
  exact so_iadd (by decide +kernel) (so_reti (by decide +kernel) rfl)
set_option maxRecDepth 20000 in
theorem sb_102_165 {j : AJ} (hj : SJ j) : Sound kM_102 165 (mb_102_165 j) := by
  unfold mb_102_165
  exact so_iconst (i := 1) (by decide +kernel) (by decide +kernel) (by decide) (sb_102_166 hj)
set_option maxRecDepth 20000 in
theorem sb_102_156 {j : AJ} (hj : SJ j) : Sound kM_102 156 (mb_102_156 j) := by
  unfold mb_102_156
  exact so_iload (by decide +kernel) (so_if (off := 7) (tgt := 165) (by decide +kernel) (by decide) rfl (sb_102_165 hj) (so_iconst (i := 0) (by decide +kernel) (by decide +kernel) (by decide) (so_goto (off := 4) (tgt := 166) (by decide +kernel) (by decide) (sb_102_166 hj))))
set_option maxRecDepth 20000 in
theorem sb_102_155 {j : AJ} (hj : SJ j) : Sound kM_102 155 (mb_102_155 j) := by
  unfold mb_102_155
  exact so_iconst (i := 2) (by decide +kernel) (by decide +kernel) (by decide) (sb_102_156 hj)
set_option maxRecDepth 20000 in
theorem sb_102_106 {j : AJ} (hj : SJ j) : Sound kM_102 106 (mb_102_106 j) := by
  unfold mb_102_106
  exact so_aload_n (f := 0) (by decide +kernel) rfl (so_get (C := RX7) (T := TX7) (N := 8) (by decide +kernel) rfl kin_7 (by decide) kw_213 (b := true) rfl (fun _ => rfl) (so_aload_n (f := 1) (by decide +kernel) rfl (so_getN (C := RX1) (T := TX1) (N := 4) (by decide +kernel) rfl kin_1 (by decide) kw_285 (b := false) rfl (fun _ => rfl) (so_iconst (i := 1) (by decide +kernel) (by decide +kernel) (by decide) (so_isub (by decide +kernel) (so_aload_n (f := 2) (by decide +kernel) rfl (so_getN (C := RX1) (T := TX1) (N := 4) (by decide +kernel) rfl kin_1 (by decide) kw_285 (b := false) rfl (fun _ => rfl) (so_iconst (i := 1) (by decide +kernel) (by decide +kernel) (by decide) (so_isub (by decide +kernel) (so_callV (C := RX5) (T := TX5) (N0 := 2) (by decide +kernel) kcf_54 rfl rfl rfl kw_224 kw_191 kw_192 (by decide +kernel) (sb_54_0 hj) (so_istore_n (f := 3) (by decide +kernel) rfl (by decide +kernel) (so_aload_n (f := 0) (by decide +kernel) rfl (so_get (C := RX7) (T := TX7) (N := 8) (by decide +kernel) rfl kin_7 (by decide) kw_212 (b := true) rfl (fun _ => rfl) (so_aload_n (f := 1) (by decide +kernel) rfl (so_getN (C := RX1) (T := TX1) (N := 4) (by decide +kernel) rfl kin_1 (by decide) kw_285 (b := false) rfl (fun _ => rfl) (so_iconst (i := 1) (by decide +kernel) (by decide +kernel) (by decide) (so_isub (by decide +kernel) (so_aload_n (f := 2) (by decide +kernel) rfl (so_getN (C := RX1) (T := TX1) (N := 4) (by decide +kernel) rfl kin_1 (by decide) kw_285 (b := false) rfl (fun _ => rfl) (so_iconst (i := 1) (by decide +kernel) (by decide +kernel) (by decide) (so_isub (by decide +kernel) (so_callV (C := RX5) (T := TX5) (N0 := 2) (by decide +kernel) kcf_54 rfl rfl rfl kw_224 kw_191 kw_192 (by decide +kernel) (sb_54_0 hj) (so_istore (by decide +kernel) (by decide +kernel) (so_iload_n (f := 3) (by decide +kernel) rfl (so_if (off := 7) (tgt := 155) (by decide +kernel) (by decide) rfl (sb_102_155 hj) (so_iconst (i := 0) (by decide +kernel) (by decide +kernel) (by decide) (so_goto (off := 4) (tgt := 156) (by decide +kernel) (by decide) (sb_102_156 hj))))))))))))))))))))))))))))
set_option maxRecDepth 20000 in
theorem sb_102_74 {j : AJ} (hj : SJ j) : Sound kM_102 74 (mb_102_74 j) := by
  unfold mb_102_74
  exact so_aload_n (f := 0) (by decide +kernel) rfl (so_get (C := RX7) (T := TX7) (N := 8) (by decide +kernel) rfl kin_7 (by decide) kw_212 (b := true) rfl (fun _ => rfl) (so_iload_n (f := 3) (by decide +kernel) rfl (so_aload_n (f := 0) (by decide +kernel) rfl (so_get (C := RX7) (T := TX7) (N := 8) (by decide +kernel) rfl kin_7 (by decide) kw_214 (b := true) rfl (fun _ => rfl) (so_iconst (i := 2) (by decide +kernel) (by decide +kernel) (by decide) (so_callV (C := RX5) (T := TX5) (N0 := 2) (by decide +kernel) kcf_56 rfl rfl rfl kw_235 kw_236 kw_237 (by decide +kernel) (sb_56_0 hj) (so_aload_n (f := 0) (by decide +kernel) rfl (so_get (C := RX7) (T := TX7) (N := 8) (by decide +kernel) rfl kin_7 (by decide) kw_213 (b := true) rfl (fun _ => rfl) (so_iload_n (f := 3) (by decide +kernel) rfl (so_aload_n (f := 0) (by decide +kernel) rfl (so_get (C := RX7) (T := TX7) (N := 8) (by decide +kernel) rfl kin_7 (by decide) kw_214 (b := true) rfl (fun _ => rfl) (so_iconst (i := 3) (by decide +kernel) (by decide +kernel) (by decide) (so_callV (C := RX5) (T := TX5) (N0 := 2) (by decide +kernel) kcf_56 rfl rfl rfl kw_235 kw_236 kw_237 (by decide +kernel) (sb_56_0 hj) (so_iinc (z := 1) (by decide +kernel) (by decide +kernel) (by decide) (by decide +kernel) (so_goto (off := -101) (tgt := 2) (by decide +kernel) (by decide) (hj 57 _ _ rfl))))))))))))))))
set_option maxRecDepth 20000 in
theorem sb_102_44 {j : AJ} (hj : SJ j) : Sound kM_102 44 (mb_102_44 j) := by
  unfold mb_102_44
  exact so_iload (by decide +kernel) (so_aload_n (f := 2) (by decide +kernel) rfl (so_getN (C := RX1) (T := TX1) (N := 4) (by decide +kernel) rfl kin_1 (by decide) kw_285 (b := false) rfl (fun _ => rfl) (so_icmp (off := 24) (tgt := 74) (by decide +kernel) (by decide) rfl (sb_102_74 hj) (so_aload_n (f := 0) (by decide +kernel) rfl (so_iload (by decide +kernel) (so_aload_n (f := 2) (by decide +kernel) rfl (so_getN (C := RX1) (T := TX1) (N := 4) (by decide +kernel) rfl kin_1 (by decide) kw_292 (b := true) rfl (fun _ => rfl) (so_aload_n (f := 2) (by decide +kernel) rfl (so_getN (C := RX1) (T := TX1) (N := 4) (by decide +kernel) rfl kin_1 (by decide) kw_293 (b := true) rfl (fun _ => rfl) (so_callV (C := RX7) (T := TX7) (N0 := 8) (by decide +kernel) kcf_82 rfl rfl rfl kw_247 kw_248 kw_249 (by decide +kernel) (sb_82_0 hj) (so_pop (by decide +kernel) (so_iinc (z := 1) (by decide +kernel) (by decide +kernel) (by decide) (by decide +kernel) (so_goto (off := -27) (tgt := 44) (by decide +kernel) (by decide) (hj 56 _ _ rfl))))))))))))))
set_option maxRecDepth 20000 in
theorem sb_102_2 {j : AJ} (hj : SJ j) : Sound kM_102 2 (mb_102_2 j) := by
  unfold mb_102_2
  exact so_iload_n (f := 3) (by decide +kernel) rfl (so_aload_n (f := 1) (by decide +kernel) rfl (so_getN (C := RX1) (T := TX1) (N := 4) (by decide +kernel) rfl kin_1 (by decide) kw_285 (b := false) rfl (fun _ => rfl) (so_icmp (off := 99) (tgt := 106) (by decide +kernel) (by decide) rfl (sb_102_106 hj) (so_aload_n (f := 0) (by decide +kernel) rfl (so_get (C := RX7) (T := TX7) (N := 8) (by decide +kernel) rfl kin_7 (by decide) kw_214 (b := true) rfl (fun _ => rfl) (so_iconst (i := 0) (by decide +kernel) (by decide +kernel) (by decide) (so_aload_n (f := 1) (by decide +kernel) rfl (so_getN (C := RX1) (T := TX1) (N := 4) (by decide +kernel) rfl kin_1 (by decide) kw_292 (b := true) rfl (fun _ => rfl) (so_iload_n (f := 3) (by decide +kernel) rfl (so_callV (C := RX5) (T := TX5) (N0 := 2) (by decide +kernel) kcf_56 rfl rfl rfl kw_235 kw_236 kw_237 (by decide +kernel) (sb_56_0 hj) (so_aload_n (f := 0) (by decide +kernel) rfl (so_get (C := RX7) (T := TX7) (N := 8) (by decide +kernel) rfl kin_7 (by decide) kw_214 (b := true) rfl (fun _ => rfl) (so_iconst (i := 1) (by decide +kernel) (by decide +kernel) (by decide) (so_aload_n (f := 1) (by decide +kernel) rfl (so_getN (C := RX1) (T := TX1) (N := 4) (by decide +kernel) rfl kin_1 (by decide) kw_293 (b := true) rfl (fun _ => rfl) (so_iload_n (f := 3) (by decide +kernel) rfl (so_callV (C := RX5) (T := TX5) (N0 := 2) (by decide +kernel) kcf_56 rfl rfl rfl kw_235 kw_236 kw_237 (by decide +kernel) (sb_56_0 hj) (so_aload_n (f := 0) (by decide +kernel) rfl (so_iload_n (f := 3) (by decide +kernel) rfl (so_callV (C := RX7) (T := TX7) (N0 := 8) (by decide +kernel) kcf_81 rfl rfl rfl kw_250 kw_251 kw_252 (by decide +kernel) (sb_81_0 hj) (so_iconst (i := 0) (by decide +kernel) (by decide +kernel) (by decide) (so_istore (by decide +kernel) (by decide +kernel) (sb_102_44 hj)))))))))))))))))))))))
set_option maxRecDepth 20000 in
theorem sb_102_0 {j : AJ} (hj : SJ j) : Sound kM_102 0 (mb_102_0 j) := by
  unfold mb_102_0
  exact so_iconst (i := 0) (by decide +kernel) (by decide +kernel) (by decide) (so_istore_n (f := 3) (by decide +kernel) rfl (by decide +kernel) (sb_102_2 hj))
set_option maxRecDepth 20000 in
theorem sb_103_79 {j : AJ} (hj : SJ j) : Sound kM_103 79 (mb_103_79 j) := by
  unfold mb_103_79
  exact so_aload_n (f := 0) (by decide +kernel) rfl (so_new (C := RX1) (T := TX1) (N := 4) (ty := tyX1) (by decide +kernel) rfl kin_1 tyX1_ok kw_294 kw_295 kw_296 rfl (by decide +kernel) (so_dup (by decide +kernel) (so_iconst (i := 1) (by decide +kernel) (by decide +kernel) (by decide) (so_callI (by decide +kernel) kcf_18 rfl rfl rfl kw_297 kw_298 (by decide +kernel) (sb_18_0 hj) (so_putRF (C := RX8) (T := TX8) (N := 8) (ty0 := tyX8) (by decide +kernel) rfl kin_8 tyX8_ok nmX8 (by decide) kw_299 rfl rfl rfl (fun _ => rfl) (fun _ => rfl) rfl (so_aload_n (f := 0) (by decide +kernel) rfl (so_new (C := RX3) (T := TX3) (N := 4) (ty := tyX3) (by decide +kernel) rfl kin_3 tyX3_ok kw_300 kw_301 kw_302 rfl (by decide +kernel) (so_dup (by decide +kernel) (so_callIN (by decide +kernel) kcf_39 rfl rfl rfl kw_303 kw_304 (by decide +kernel) (sb_39_0 hj) (so_putRF (C := RX8) (T := TX8) (N := 8) (ty0 := tyX8) (by decide +kernel) rfl kin_8 tyX8_ok nmX8 (by decide) kw_305 rfl rfl rfl (fun _ => rfl) (fun _ => rfl) rfl (so_aload_n (f := 0) (by decide +kernel) rfl (so_new (C := RX7) (T := TX7) (N := 8) (ty := tyX7) (by decide +kernel) rfl kin_7 tyX7_ok kw_306 kw_307 kw_308 rfl (by decide +kernel) (so_dup (by decide +kernel) (so_callIN (by decide +kernel) kcf_78 rfl rfl rfl kw_309 kw_310 (by decide +kernel) (sb_78_0 hj) (so_putRF (C := RX8) (T := TX8) (N := 8) (ty0 := tyX8) (by decide +kernel) rfl kin_8 tyX8_ok nmX8 (by decide) kw_311 rfl rfl rfl (fun _ => rfl) (fun _ => rfl) rfl (so_aload_n (f := 0) (by decide +kernel) rfl (so_new (C := RX2) (T := TX2) (N := 4) (ty := tyX2) (by decide +kernel) rfl kin_2 tyX2_ok kw_312 kw_313 kw_314 rfl (by decide +kernel) (so_dup (by decide +kernel) (so_callIN (by decide +kernel) kcf_20 rfl rfl rfl kw_315 kw_316 (by decide +kernel) (sb_20_0 hj) (so_putRF (C := RX8) (T := TX8) (N := 8) (ty0 := tyX8) (by decide +kernel) rfl kin_8 tyX8_ok nmX8 (by decide) kw_317 rfl rfl rfl (fun _ => rfl) (fun _ => rfl) rfl (so_aload_n (f := 0) (by decide +kernel) rfl (so_new (C := RX6) (T := TX6) (N := 4) (ty := tyX6) (by decide +kernel) rfl kin_6 tyX6_ok kw_318 kw_319 kw_320 rfl (by decide +kernel) (so_dup (by decide +kernel) (so_callIN (by decide +kernel) kcf_60 rfl rfl rfl kw_321 kw_322 (by decide +kernel) (sb_60_0 hj) (so_putRF (C := RX8) (T := TX8) (N := 8) (ty0 := tyX8) (by decide +kernel) rfl kin_8 tyX8_ok nmX8 (by decide) kw_323 rfl rfl rfl (fun _ => rfl) (fun _ => rfl) rfl (so_aload_n (f := 0) (by decide +kernel) rfl (so_new (C := RX4) (T := TX4) (N := 1) (ty := tyX4) (by decide +kernel) rfl kin_4 tyX4_ok kw_324 kw_325 kw_326 rfl (by decide +kernel) (so_dup (by decide +kernel) (so_callIN (by decide +kernel) kcf_49 rfl rfl rfl kw_327 kw_328 (by decide +kernel) (sb_49_0 hj) (so_putRF (C := RX8) (T := TX8) (N := 8) (ty0 := tyX8) (by decide +kernel) rfl kin_8 tyX8_ok nmX8 (by decide) kw_329 rfl rfl rfl (fun _ => rfl) (fun _ => rfl) rfl (so_retv (by decide +kernel) rfl)))))))))))))))))))))))))))))))
set_option maxRecDepth 20000 in
theorem sb_103_51 {j : AJ} (hj : SJ j) : Sound kM_103 51 (mb_103_51 j) := by
  unfold mb_103_51
  exact so_iload_n (f := 1) (by decide +kernel) rfl (so_bipush (i := 10) (by decide +kernel) (by decide +kernel) (by decide) (so_icmp (off := 25) (tgt := 79) (by decide +kernel) (by decide) rfl (sb_103_79 hj) (so_aload_n (f := 0) (by decide +kernel) rfl (so_get (C := RX8) (T := TX8) (N := 8) (by decide +kernel) rfl kin_8 (by decide) kw_330 (b := true) rfl (fun _ => rfl) (so_iload_n (f := 1) (by decide +kernel) rfl (so_new (C := RX1) (T := TX1) (N := 4) (ty := tyX1) (by decide +kernel) rfl kin_1 tyX1_ok kw_294 kw_295 kw_296 rfl (by decide +kernel) (so_dup (by decide +kernel) (so_sipush (i := 320) (by decide +kernel) (by decide +kernel) (by decide) (so_callI (by decide +kernel) kcf_18 rfl rfl rfl kw_297 kw_298 (by decide +kernel) (sb_18_0 hj) (so_aast (r0 := (RX1, TX1, 4)) (by decide) (fun _ => rfl) rfl (by decide +kernel) (so_iinc (z := 1) (by decide +kernel) (by decide +kernel) (by decide) (by decide +kernel) (so_goto (off := -25) (tgt := 51) (by decide +kernel) (by decide) (hj 59 _ _ rfl)))))))))))))
set_option maxRecDepth 20000 in
theorem sb_103_40 {j : AJ} (hj : SJ j) : Sound kM_103 40 (mb_103_40 j) := by
  unfold mb_103_40
  exact so_aload_n (f := 0) (by decide +kernel) rfl (so_bipush (i := 10) (by decide +kernel) (by decide +kernel) (by decide) (so_anew (C := RX1) (by decide) (fun _ => rfl) (by decide +kernel) kw_294 kw_331 (so_putRF (C := RX8) (T := TX8) (N := 8) (ty0 := tyX8) (by decide +kernel) rfl kin_8 tyX8_ok nmX8 (by decide) kw_330 rfl rfl rfl (fun _ => rfl) (fun _ => rfl) rfl (so_iconst (i := 0) (by decide +kernel) (by decide +kernel) (by decide) (so_istore_n (f := 1) (by decide +kernel) rfl (by decide +kernel) (sb_103_51 hj))))))
set_option maxRecDepth 20000 in
theorem sb_103_15 {j : AJ} (hj : SJ j) : Sound kM_103 15 (mb_103_15 j) := by
  unfold mb_103_15
  exact so_iload_n (f := 1) (by decide +kernel) rfl (so_bipush (i := 6) (by decide +kernel) (by decide +kernel) (by decide) (so_icmp (off := 22) (tgt := 40) (by decide +kernel) (by decide) rfl (sb_103_40 hj) (so_aload_n (f := 0) (by decide +kernel) rfl (so_get (C := RX8) (T := TX8) (N := 8) (by decide +kernel) rfl kin_8 (by decide) kw_332 (b := true) rfl (fun _ => rfl) (so_iload_n (f := 1) (by decide +kernel) rfl (so_new (C := RX0) (T := TX0) (N := 4) (ty := tyX0) (by decide +kernel) rfl kin_0 tyX0_ok kw_333 kw_334 kw_335 rfl (by decide +kernel) (so_dup (by decide +kernel) (so_callIN (by decide +kernel) kcf_0 rfl rfl rfl kw_336 kw_337 (by decide +kernel) (sb_0_0 hj) (so_aast (r0 := (RX0, TX0, 4)) (by decide) (fun _ => rfl) rfl (by decide +kernel) (so_iinc (z := 1) (by decide +kernel) (by decide +kernel) (by decide) (by decide +kernel) (so_goto (off := -22) (tgt := 15) (by decide +kernel) (by decide) (hj 58 _ _ rfl))))))))))))
set_option maxRecDepth 20000 in
theorem sb_103_0 {j : AJ} (hj : SJ j) : Sound kM_103 0 (mb_103_0 j) := by
  unfold mb_103_0
  exact so_aload_n (f := 0) (by decide +kernel) rfl (so_objInit (by decide +kernel) kw_338 kw_1 kw_2 (by decide +kernel) (so_aload_n (f := 0) (by decide +kernel) rfl (so_bipush (i := 6) (by decide +kernel) (by decide +kernel) (by decide) (so_anew (C := RX0) (by decide) (fun _ => rfl) (by decide +kernel) kw_333 kw_339 (so_putRF (C := RX8) (T := TX8) (N := 8) (ty0 := tyX8) (by decide +kernel) rfl kin_8 tyX8_ok nmX8 (by decide) kw_332 rfl rfl rfl (fun _ => rfl) (fun _ => rfl) rfl (so_iconst (i := 0) (by decide +kernel) (by decide +kernel) (by decide) (so_istore_n (f := 1) (by decide +kernel) rfl (by decide +kernel) (sb_103_15 hj))))))))
set_option maxRecDepth 20000 in
theorem sb_104_15 {j : AJ} (hj : SJ j) : Sound kM_104 15 (mb_104_15 j) := by
  unfold mb_104_15
  exact so_retz (by decide +kernel) rfl
set_option maxRecDepth 20000 in
theorem sb_104_14 {j : AJ} (hj : SJ j) : Sound kM_104 14 (mb_104_14 j) := by
  unfold mb_104_14
  exact so_iconst (i := 0) (by decide +kernel) (by decide +kernel) (by decide) (sb_104_15 hj)
set_option maxRecDepth 20000 in
theorem sb_104_0 {j : AJ} (hj : SJ j) : Sound kM_104 0 (mb_104_0 j) := by
  unfold mb_104_0
  exact so_iload_n (f := 0) (by decide +kernel) rfl (so_if (off := 13) (tgt := 14) (by decide +kernel) (by decide) rfl (sb_104_14 hj) (so_iload_n (f := 0) (by decide +kernel) rfl (so_bipush (i := 6) (by decide +kernel) (by decide +kernel) (by decide) (so_icmp (off := 7) (tgt := 14) (by decide +kernel) (by decide) rfl (sb_104_14 hj) (so_iconst (i := 1) (by decide +kernel) (by decide +kernel) (by decide) (so_goto (off := 4) (tgt := 15) (by decide +kernel) (by decide) (sb_104_15 hj)))))))
set_option maxRecDepth 20000 in
theorem sb_105_28 {j : AJ} (hj : SJ j) : Sound kM_105 28 (mb_105_28 j) := by
  unfold mb_105_28
  exact so_aload_n (f := 0) (by decide +kernel) rfl (so_get (C := RX8) (T := TX8) (N := 8) (by decide +kernel) rfl kin_8 (by decide) kw_332 (b := true) rfl (fun _ => rfl) (so_iload_n (f := 1) (by decide +kernel) rfl (so_aaldG (by decide +kernel) (so_iload_n (f := 2) (by decide +kernel) rfl (so_iload_n (f := 3) (by decide +kernel) rfl (so_callV (C := RX0) (T := TX0) (N0 := 4) (by decide +kernel) kcf_1 rfl rfl rfl kw_340 kw_341 kw_342 (by decide +kernel) (sb_1_0 hj) (so_aload_n (f := 0) (by decide +kernel) rfl (so_get (C := RX8) (T := TX8) (N := 8) (by decide +kernel) rfl kin_8 (by decide) kw_332 (b := true) rfl (fun _ => rfl) (so_iload_n (f := 1) (by decide +kernel) rfl (so_aaldG (by decide +kernel) (so_callV (C := RX0) (T := TX0) (N0 := 4) (by decide +kernel) kcf_6 rfl rfl rfl kw_343 kw_115 kw_116 (by decide +kernel) (sb_6_0 hj) (so_reti (by decide +kernel) rfl))))))))))))
set_option maxRecDepth 20000 in
theorem sb_105_26 {j : AJ} (hj : SJ j) : Sound kM_105 26 (mb_105_26 j) := by
  unfold mb_105_26
  exact so_iconst (i := -1) (by decide +kernel) (by decide +kernel) (by decide) (so_reti (by decide +kernel) rfl)
set_option maxRecDepth 20000 in
theorem sb_105_0 {j : AJ} (hj : SJ j) : Sound kM_105 0 (mb_105_0 j) := by
  unfold mb_105_0
  exact so_iload_n (f := 1) (by decide +kernel) rfl (so_callS (by decide +kernel) kcf_104 rfl kw_344 kw_345 (by decide +kernel) (sb_104_0 hj) (so_if (off := 22) (tgt := 26) (by decide +kernel) (by decide) rfl (sb_105_26 hj) (so_iload_n (f := 2) (by decide +kernel) rfl (so_if (off := 18) (tgt := 26) (by decide +kernel) (by decide) rfl (sb_105_26 hj) (so_iload_n (f := 2) (by decide +kernel) rfl (so_iconst (i := 4) (by decide +kernel) (by decide +kernel) (by decide) (so_icmp (off := 13) (tgt := 26) (by decide +kernel) (by decide) rfl (sb_105_26 hj) (so_iload_n (f := 3) (by decide +kernel) rfl (so_if (off := 9) (tgt := 26) (by decide +kernel) (by decide) rfl (sb_105_26 hj) (so_iload_n (f := 3) (by decide +kernel) rfl (so_bipush (i := 15) (by decide +kernel) (by decide +kernel) (by decide) (so_icmp (off := 5) (tgt := 28) (by decide +kernel) (by decide) rfl (sb_105_28 hj) (sb_105_26 hj)))))))))))))
set_option maxRecDepth 20000 in
theorem sb_106_25 {j : AJ} (hj : SJ j) : Sound kM_106 25 (mb_106_25 j) := by
  unfold mb_106_25
  exact so_retz (by decide +kernel) rfl
set_option maxRecDepth 20000 in
theorem sb_106_24 {j : AJ} (hj : SJ j) : Sound kM_106 24 (mb_106_24 j) := by
  unfold mb_106_24
  exact so_iconst (i := 0) (by decide +kernel) (by decide +kernel) (by decide) (sb_106_25 hj)
set_option maxRecDepth 20000 in
theorem sb_106_0 {j : AJ} (hj : SJ j) : Sound kM_106 0 (mb_106_0 j) := by
  unfold mb_106_0
  exact so_iload_n (f := 1) (by decide +kernel) rfl (so_callS (by decide +kernel) kcf_104 rfl kw_344 kw_345 (by decide +kernel) (sb_104_0 hj) (so_if (off := 20) (tgt := 24) (by decide +kernel) (by decide) rfl (sb_106_24 hj) (so_aload_n (f := 0) (by decide +kernel) rfl (so_get (C := RX8) (T := TX8) (N := 8) (by decide +kernel) rfl kin_8 (by decide) kw_332 (b := true) rfl (fun _ => rfl) (so_iload_n (f := 1) (by decide +kernel) rfl (so_aaldG (by decide +kernel) (so_iload_n (f := 2) (by decide +kernel) rfl (so_callV (C := RX0) (T := TX0) (N0 := 4) (by decide +kernel) kcf_4 rfl rfl rfl kw_346 kw_14 kw_15 (by decide +kernel) (sb_4_0 hj) (so_if (off := 7) (tgt := 24) (by decide +kernel) (by decide) rfl (sb_106_24 hj) (so_iconst (i := 1) (by decide +kernel) (by decide +kernel) (by decide) (so_goto (off := 4) (tgt := 25) (by decide +kernel) (by decide) (sb_106_25 hj))))))))))))
set_option maxRecDepth 20000 in
theorem sb_107_20 {j : AJ} (hj : SJ j) : Sound kM_107 20 (mb_107_20 j) := by
  unfold mb_107_20
  exact so_reti (by decide +kernel) rfl
set_option maxRecDepth 20000 in
theorem sb_107_19 {j : AJ} (hj : SJ j) : Sound kM_107 19 (mb_107_19 j) := by
  unfold mb_107_19
  exact so_iconst (i := -1) (by decide +kernel) (by decide +kernel) (by decide) (sb_107_20 hj)
set_option maxRecDepth 20000 in
theorem sb_107_0 {j : AJ} (hj : SJ j) : Sound kM_107 0 (mb_107_0 j) := by
  unfold mb_107_0
  exact so_iload_n (f := 1) (by decide +kernel) rfl (so_callS (by decide +kernel) kcf_104 rfl kw_344 kw_345 (by decide +kernel) (sb_104_0 hj) (so_if (off := 15) (tgt := 19) (by decide +kernel) (by decide) rfl (sb_107_19 hj) (so_aload_n (f := 0) (by decide +kernel) rfl (so_get (C := RX8) (T := TX8) (N := 8) (by decide +kernel) rfl kin_8 (by decide) kw_332 (b := true) rfl (fun _ => rfl) (so_iload_n (f := 1) (by decide +kernel) rfl (so_aaldG (by decide +kernel) (so_callV (C := RX0) (T := TX0) (N0 := 4) (by decide +kernel) kcf_6 rfl rfl rfl kw_343 kw_115 kw_116 (by decide +kernel) (sb_6_0 hj) (so_goto (off := 4) (tgt := 20) (by decide +kernel) (by decide) (sb_107_20 hj)))))))))
set_option maxRecDepth 20000 in
theorem sb_108_20 {j : AJ} (hj : SJ j) : Sound kM_108 20 (mb_108_20 j) := by
  unfold mb_108_20
  exact so_reti (by decide +kernel) rfl
set_option maxRecDepth 20000 in
theorem sb_108_19 {j : AJ} (hj : SJ j) : Sound kM_108 19 (mb_108_19 j) := by
  unfold mb_108_19
  exact so_iconst (i := -1) (by decide +kernel) (by decide +kernel) (by decide) (sb_108_20 hj)
set_option maxRecDepth 20000 in
theorem sb_108_0 {j : AJ} (hj : SJ j) : Sound kM_108 0 (mb_108_0 j) := by
  unfold mb_108_0
  exact so_iload_n (f := 1) (by decide +kernel) rfl (so_callS (by decide +kernel) kcf_104 rfl kw_344 kw_345 (by decide +kernel) (sb_104_0 hj) (so_if (off := 15) (tgt := 19) (by decide +kernel) (by decide) rfl (sb_108_19 hj) (so_aload_n (f := 0) (by decide +kernel) rfl (so_get (C := RX8) (T := TX8) (N := 8) (by decide +kernel) rfl kin_8 (by decide) kw_332 (b := true) rfl (fun _ => rfl) (so_iload_n (f := 1) (by decide +kernel) rfl (so_aaldG (by decide +kernel) (so_callV (C := RX0) (T := TX0) (N0 := 4) (by decide +kernel) kcf_14 rfl rfl rfl kw_347 kw_348 kw_349 (by decide +kernel) (sb_14_0 hj) (so_goto (off := 4) (tgt := 20) (by decide +kernel) (by decide) (sb_108_20 hj)))))))))
set_option maxRecDepth 20000 in
theorem sb_109_28 {j : AJ} (hj : SJ j) : Sound kM_109 28 (mb_109_28 j) := by
  unfold mb_109_28
  exact so_reti (by decide +kernel) rfl
set_option maxRecDepth 20000 in
theorem sb_109_27 {j : AJ} (hj : SJ j) : Sound kM_109 27 (mb_109_27 j) := by
  unfold mb_109_27
  exact so_iconst (i := -1) (by decide +kernel) (by decide +kernel) (by decide) (sb_109_28 hj)
set_option maxRecDepth 20000 in
theorem sb_109_0 {j : AJ} (hj : SJ j) : Sound kM_109 0 (mb_109_0 j) := by
  unfold mb_109_0
  exact so_iload_n (f := 1) (by decide +kernel) rfl (so_callS (by decide +kernel) kcf_104 rfl kw_344 kw_345 (by decide +kernel) (sb_104_0 hj) (so_if (off := 23) (tgt := 27) (by decide +kernel) (by decide) rfl (sb_109_27 hj) (so_iload_n (f := 2) (by decide +kernel) rfl (so_callS (by decide +kernel) kcf_45 rfl kw_350 kw_125 (by decide +kernel) (sb_45_0 hj) (so_if (off := 16) (tgt := 27) (by decide +kernel) (by decide) rfl (sb_109_27 hj) (so_aload_n (f := 0) (by decide +kernel) rfl (so_get (C := RX8) (T := TX8) (N := 8) (by decide +kernel) rfl kin_8 (by decide) kw_332 (b := true) rfl (fun _ => rfl) (so_iload_n (f := 1) (by decide +kernel) rfl (so_aaldG (by decide +kernel) (so_iload_n (f := 2) (by decide +kernel) rfl (so_callV (C := RX0) (T := TX0) (N0 := 4) (by decide +kernel) kcf_9 rfl rfl rfl kw_351 kw_352 kw_353 (by decide +kernel) (sb_9_0 hj) (so_goto (off := 4) (tgt := 28) (by decide +kernel) (by decide) (sb_109_28 hj)))))))))))))
