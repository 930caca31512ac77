/-! ===== the blocks are sound ===== -/
set_option maxRecDepth 20000 in
theorem sc_84_74 {j : AJ} (hj : SJ j) : Sound kM_84 74 (mc_84_74 j) := by
  unfold mc_84_74
  exact so_retv (by decide +kernel) rfl
set_option maxRecDepth 20000 in
theorem sb_84_74 {j : AJ} (hj : SJ j) : Sound kM_84 74 (mb_84_74 j) := by
  refine so_weak (sc_84_74 hj) (fun L S h r q0 => ?_)
  obtain ⟨c0, L0_, rfl, q1⟩ := w_C_some q0
  obtain ⟨i1, L1_, rfl, q2⟩ := w_I_some q1
  obtain ⟨c2, L2_, rfl, q3⟩ := w_C_some q2
  obtain ⟨i3, L3_, rfl, q4⟩ := w_I_some q3
  obtain ⟨rfl, q5⟩ := w_0_some q4
  obtain ⟨rfl, q6⟩ := a_nil_some q5
  exact q6
set_option maxRecDepth 20000 in
theorem sc_84_53 {j : AJ} (hj : SJ j) : Sound kM_84 53 (mc_84_53 j) := by
  unfold mc_84_53
  exact so_iload_n (f := 3) (by decide +kernel) rfl (so_iconst (i := 1) (by decide +kernel) (by decide +kernel) (by decide) (so_iadd (by decide +kernel) (so_aload_n (f := 0) (by decide +kernel) rfl (so_get (C := RX7) (T := TX7) (N := 8) (by decide +kernel) rfl kin_7 (by decide) kw_214 (b := true) rfl (fun _ => rfl) (so_iload_n (f := 1) (by decide +kernel) rfl (so_iload_n (f := 3) (by decide +kernel) rfl (so_iconst (i := 1) (by decide +kernel) (by decide +kernel) (by decide) (so_iadd (by decide +kernel) (so_weak (so_callV (C := RX5) (T := TX5) (N0 := 2) (by decide +kernel) kcf_23 rfl rfl rfl kw_221 kw_57 kw_58 (by decide +kernel) (sb_23_0 hj) (so_weak (so_callS (by decide +kernel) kcf_16 rfl kw_222 kw_27 (by decide +kernel) (sb_16_0 hj) (so_istore_n (f := 3) (by decide +kernel) rfl (by decide +kernel) (so_goto (off := -61) (tgt := 10) (by decide +kernel) (by decide) (hj 37 _ _ rfl)))) (callE_imp BK_I))) (callvE_imp BK_I))))))))))
set_option maxRecDepth 20000 in
theorem sb_84_53 {j : AJ} (hj : SJ j) : Sound kM_84 53 (mb_84_53 j) := by
  refine so_weak (sc_84_53 hj) (fun L S h r q0 => ?_)
  obtain ⟨c0, L0_, rfl, q1⟩ := w_C_some q0
  obtain ⟨i1, L1_, rfl, q2⟩ := w_I_some q1
  obtain ⟨c2, L2_, rfl, q3⟩ := w_C_some q2
  obtain ⟨i3, L3_, rfl, q4⟩ := w_I_some q3
  obtain ⟨rfl, q5⟩ := w_0_some q4
  obtain ⟨rfl, q6⟩ := a_nil_some q5
  exact q6
set_option maxRecDepth 20000 in
theorem sc_84_10 {j : AJ} (hj : SJ j) : Sound kM_84 10 (mc_84_10 j) := by
  unfold mc_84_10
  exact so_iload_n (f := 3) (by decide +kernel) rfl (so_aload_n (f := 0) (by decide +kernel) rfl (so_get (C := RX7) (T := TX7) (N := 8) (by decide +kernel) rfl kin_7 (by decide) kw_234 (b := false) rfl (fun _ => rfl) (so_icmp (off := 59) (tgt := 74) (by decide +kernel) (by decide) rfl (sb_84_74 hj) (so_aload_n (f := 0) (by decide +kernel) rfl (so_get (C := RX7) (T := TX7) (N := 8) (by decide +kernel) rfl kin_7 (by decide) kw_214 (b := true) rfl (fun _ => rfl) (so_iload_n (f := 1) (by decide +kernel) rfl (so_iload_n (f := 3) (by decide +kernel) rfl (so_weak (so_callV (C := RX5) (T := TX5) (N0 := 2) (by decide +kernel) kcf_55 rfl rfl rfl kw_228 kw_229 kw_230 (by decide +kernel) (sb_55_0 hj) (so_aload_n (f := 2) (by decide +kernel) rfl (so_iload_n (f := 3) (by decide +kernel) rfl (so_aload_n (f := 0) (by decide +kernel) rfl (so_get (C := RX7) (T := TX7) (N := 8) (by decide +kernel) rfl kin_7 (by decide) kw_214 (b := true) rfl (fun _ => rfl) (so_iload_n (f := 1) (by decide +kernel) rfl (so_aload_n (f := 0) (by decide +kernel) rfl (so_get (C := RX7) (T := TX7) (N := 8) (by decide +kernel) rfl kin_7 (by decide) kw_234 (b := false) rfl (fun _ => rfl) (so_weak (so_callV (C := RX5) (T := TX5) (N0 := 2) (by decide +kernel) kcf_59 rfl rfl rfl kw_225 kw_226 kw_227 (by decide +kernel) (sb_59_0 hj) (so_if (off := 12) (tgt := 53) (by decide +kernel) (by decide) rfl (sb_84_53 hj) (so_aload_n (f := 0) (by decide +kernel) rfl (so_get (C := RX7) (T := TX7) (N := 8) (by decide +kernel) rfl kin_7 (by decide) kw_214 (b := true) rfl (fun _ => rfl) (so_iload_n (f := 1) (by decide +kernel) rfl (so_iload_n (f := 3) (by decide +kernel) rfl (so_weak (so_callV (C := RX5) (T := TX5) (N0 := 2) (by decide +kernel) kcf_30 rfl rfl rfl kw_223 kw_72 kw_73 (by decide +kernel) (sb_30_0 hj) (sb_84_53 hj)) (callvE_imp BK_N)))))))) (callvE_imp BK_I)))))))))) (callvE_imp BK_N)))))))))
set_option maxRecDepth 20000 in
theorem sb_84_10 {j : AJ} (hj : SJ j) : Sound kM_84 10 (mb_84_10 j) := by
  refine so_weak (sc_84_10 hj) (fun L S h r q0 => ?_)
  obtain ⟨c0, L0_, rfl, q1⟩ := w_C_some q0
  obtain ⟨i1, L1_, rfl, q2⟩ := w_I_some q1
  obtain ⟨c2, L2_, rfl, q3⟩ := w_C_some q2
  obtain ⟨i3, L3_, rfl, q4⟩ := w_I_some q3
  obtain ⟨rfl, q5⟩ := w_0_some q4
  obtain ⟨rfl, q6⟩ := a_nil_some q5
  exact q6
set_option maxRecDepth 20000 in
theorem sc_84_0 {j : AJ} (hj : SJ j) : Sound kM_84 0 (mc_84_0 j) := by
  unfold mc_84_0
  exact so_aload_n (f := 0) (by decide +kernel) rfl (so_get (C := RX7) (T := TX7) (N := 8) (by decide +kernel) rfl kin_7 (by decide) kw_214 (b := true) rfl (fun _ => rfl) (so_iload_n (f := 1) (by decide +kernel) rfl (so_iconst (i := 0) (by decide +kernel) (by decide +kernel) (by decide) (so_weak (so_callV (C := RX5) (T := TX5) (N0 := 2) (by decide +kernel) kcf_23 rfl rfl rfl kw_221 kw_57 kw_58 (by decide +kernel) (sb_23_0 hj) (so_istore_n (f := 3) (by decide +kernel) rfl (by decide +kernel) (sb_84_10 hj))) (callvE_imp BK_I)))))
set_option maxRecDepth 20000 in
theorem sb_84_0 {j : AJ} (hj : SJ j) : Sound kM_84 0 (mb_84_0 j) := by
  refine so_weak (sc_84_0 hj) (fun L S h r q0 => ?_)
  obtain ⟨c0, L0_, rfl, q1⟩ := w_C_some q0
  obtain ⟨i1, L1_, rfl, q2⟩ := w_I_some q1
  obtain ⟨c2, L2_, rfl, q3⟩ := w_C_some q2
  obtain ⟨L3_, rfl, q4⟩ := w_N_some q3
  obtain ⟨rfl, q5⟩ := w_0_some q4
  obtain ⟨rfl, q6⟩ := a_nil_some q5
  exact q6
set_option maxRecDepth 20000 in
theorem sc_85_165 {j : AJ} (hj : SJ j) : Sound kM_85 165 (mc_85_165 j) := by
  unfold mc_85_165
  exact so_aload_n (f := 0) (by decide +kernel) rfl (so_iload_n (f := 1) (by decide +kernel) rfl (so_iconst (i := 1) (by decide +kernel) (by decide +kernel) (by decide) (so_iadd (by decide +kernel) (so_putI (C := RX7) (T := TX7) (N := 8) (ty0 := tyX7) (by decide +kernel) rfl kin_7 tyX7_ok nmX7 (by decide) kw_234 rfl rfl rfl (so_iload_n (f := 1) (by decide +kernel) rfl (so_reti (by decide +kernel) rfl))))))
set_option maxRecDepth 20000 in
theorem sb_85_165 {j : AJ} (hj : SJ j) : Sound kM_85 165 (mb_85_165 j) := by
  refine so_weak (sc_85_165 hj) (fun L S h r q0 => ?_)
  obtain ⟨c0, L0_, rfl, q1⟩ := w_C_some q0
  obtain ⟨i1, L1_, rfl, q2⟩ := w_I_some q1
  obtain ⟨i2, L2_, rfl, q3⟩ := w_I_some q2
  obtain ⟨rfl, q4⟩ := w_0_some q3
  obtain ⟨rfl, q5⟩ := a_nil_some q4
  exact q5
set_option maxRecDepth 20000 in
theorem sc_85_130 {j : AJ} (hj : SJ j) : Sound kM_85 130 (mc_85_130 j) := by
  unfold mc_85_130
  exact so_iload_n (f := 2) (by decide +kernel) rfl (so_iload_n (f := 1) (by decide +kernel) rfl (so_icmp (off := 33) (tgt := 165) (by decide +kernel) (by decide) rfl (sb_85_165 hj) (so_aload_n (f := 0) (by decide +kernel) rfl (so_get (C := RX7) (T := TX7) (N := 8) (by decide +kernel) rfl kin_7 (by decide) kw_213 (b := true) rfl (fun _ => rfl) (so_iload_n (f := 2) (by decide +kernel) rfl (so_iload_n (f := 1) (by decide +kernel) rfl (so_weak (so_callV (C := RX5) (T := TX5) (N0 := 2) (by decide +kernel) kcf_30 rfl rfl rfl kw_223 kw_72 kw_73 (by decide +kernel) (sb_30_0 hj) (so_iload_n (f := 2) (by decide +kernel) rfl (so_iconst (i := 1) (by decide +kernel) (by decide +kernel) (by decide) (so_iadd (by decide +kernel) (so_aload_n (f := 0) (by decide +kernel) rfl (so_get (C := RX7) (T := TX7) (N := 8) (by decide +kernel) rfl kin_7 (by decide) kw_214 (b := true) rfl (fun _ => rfl) (so_iconst (i := 2) (by decide +kernel) (by decide +kernel) (by decide) (so_iload_n (f := 2) (by decide +kernel) rfl (so_iconst (i := 1) (by decide +kernel) (by decide +kernel) (by decide) (so_iadd (by decide +kernel) (so_weak (so_callV (C := RX5) (T := TX5) (N0 := 2) (by decide +kernel) kcf_23 rfl rfl rfl kw_221 kw_57 kw_58 (by decide +kernel) (sb_23_0 hj) (so_weak (so_callS (by decide +kernel) kcf_16 rfl kw_222 kw_27 (by decide +kernel) (sb_16_0 hj) (so_istore_n (f := 2) (by decide +kernel) rfl (by decide +kernel) (so_goto (off := -32) (tgt := 130) (by decide +kernel) (by decide) (hj 39 _ _ rfl)))) (callE_imp BK_I))) (callvE_imp BK_I)))))))))))) (callvE_imp BK_N))))))))
set_option maxRecDepth 20000 in
theorem sb_85_130 {j : AJ} (hj : SJ j) : Sound kM_85 130 (mb_85_130 j) := by
  refine so_weak (sc_85_130 hj) (fun L S h r q0 => ?_)
  obtain ⟨c0, L0_, rfl, q1⟩ := w_C_some q0
  obtain ⟨i1, L1_, rfl, q2⟩ := w_I_some q1
  obtain ⟨i2, L2_, rfl, q3⟩ := w_I_some q2
  obtain ⟨rfl, q4⟩ := w_0_some q3
  obtain ⟨rfl, q5⟩ := a_nil_some q4
  exact q5
set_option maxRecDepth 20000 in
theorem sc_85_120 {j : AJ} (hj : SJ j) : Sound kM_85 120 (mc_85_120 j) := by
  unfold mc_85_120
  exact so_aload_n (f := 0) (by decide +kernel) rfl (so_get (C := RX7) (T := TX7) (N := 8) (by decide +kernel) rfl kin_7 (by decide) kw_214 (b := true) rfl (fun _ => rfl) (so_iconst (i := 2) (by decide +kernel) (by decide +kernel) (by decide) (so_iconst (i := 0) (by decide +kernel) (by decide +kernel) (by decide) (so_weak (so_callV (C := RX5) (T := TX5) (N0 := 2) (by decide +kernel) kcf_23 rfl rfl rfl kw_221 kw_57 kw_58 (by decide +kernel) (sb_23_0 hj) (so_istore_n (f := 2) (by decide +kernel) rfl (by decide +kernel) (sb_85_130 hj))) (callvE_imp BK_I)))))
set_option maxRecDepth 20000 in
theorem sb_85_120 {j : AJ} (hj : SJ j) : Sound kM_85 120 (mb_85_120 j) := by
  refine so_weak (sc_85_120 hj) (fun L S h r q0 => ?_)
  obtain ⟨c0, L0_, rfl, q1⟩ := w_C_some q0
  obtain ⟨i1, L1_, rfl, q2⟩ := w_I_some q1
  obtain ⟨i2, L2_, rfl, q3⟩ := w_I_some q2
  obtain ⟨rfl, q4⟩ := w_0_some q3
  obtain ⟨rfl, q5⟩ := a_nil_some q4
  exact q5
set_option maxRecDepth 20000 in
theorem sc_85_85 {j : AJ} (hj : SJ j) : Sound kM_85 85 (mc_85_85 j) := by
  unfold mc_85_85
  exact so_iload_n (f := 2) (by decide +kernel) rfl (so_iload_n (f := 1) (by decide +kernel) rfl (so_icmp (off := 33) (tgt := 120) (by decide +kernel) (by decide) rfl (sb_85_120 hj) (so_aload_n (f := 0) (by decide +kernel) rfl (so_get (C := RX7) (T := TX7) (N := 8) (by decide +kernel) rfl kin_7 (by decide) kw_212 (b := true) rfl (fun _ => rfl) (so_iload_n (f := 2) (by decide +kernel) rfl (so_iload_n (f := 1) (by decide +kernel) rfl (so_weak (so_callV (C := RX5) (T := TX5) (N0 := 2) (by decide +kernel) kcf_30 rfl rfl rfl kw_223 kw_72 kw_73 (by decide +kernel) (sb_30_0 hj) (so_iload_n (f := 2) (by decide +kernel) rfl (so_iconst (i := 1) (by decide +kernel) (by decide +kernel) (by decide) (so_iadd (by decide +kernel) (so_aload_n (f := 0) (by decide +kernel) rfl (so_get (C := RX7) (T := TX7) (N := 8) (by decide +kernel) rfl kin_7 (by decide) kw_214 (b := true) rfl (fun _ => rfl) (so_iconst (i := 3) (by decide +kernel) (by decide +kernel) (by decide) (so_iload_n (f := 2) (by decide +kernel) rfl (so_iconst (i := 1) (by decide +kernel) (by decide +kernel) (by decide) (so_iadd (by decide +kernel) (so_weak (so_callV (C := RX5) (T := TX5) (N0 := 2) (by decide +kernel) kcf_23 rfl rfl rfl kw_221 kw_57 kw_58 (by decide +kernel) (sb_23_0 hj) (so_weak (so_callS (by decide +kernel) kcf_16 rfl kw_222 kw_27 (by decide +kernel) (sb_16_0 hj) (so_istore_n (f := 2) (by decide +kernel) rfl (by decide +kernel) (so_goto (off := -32) (tgt := 85) (by decide +kernel) (by decide) (hj 38 _ _ rfl)))) (callE_imp BK_I))) (callvE_imp BK_I)))))))))))) (callvE_imp BK_N))))))))
set_option maxRecDepth 20000 in
theorem sb_85_85 {j : AJ} (hj : SJ j) : Sound kM_85 85 (mb_85_85 j) := by
  refine so_weak (sc_85_85 hj) (fun L S h r q0 => ?_)
  obtain ⟨c0, L0_, rfl, q1⟩ := w_C_some q0
  obtain ⟨i1, L1_, rfl, q2⟩ := w_I_some q1
  obtain ⟨i2, L2_, rfl, q3⟩ := w_I_some q2
  obtain ⟨rfl, q4⟩ := w_0_some q3
  obtain ⟨rfl, q5⟩ := a_nil_some q4
  exact q5
set_option maxRecDepth 20000 in
theorem sc_85_0 {j : AJ} (hj : SJ j) : Sound kM_85 0 (mc_85_0 j) := by
  unfold mc_85_0
  exact so_aload_n (f := 0) (by decide +kernel) rfl (so_get (C := RX7) (T := TX7) (N := 8) (by decide +kernel) rfl kin_7 (by decide) kw_234 (b := false) rfl (fun _ => rfl) (so_istore_n (f := 1) (by decide +kernel) rfl (by decide +kernel) (so_aload_n (f := 0) (by decide +kernel) rfl (so_get (C := RX7) (T := TX7) (N := 8) (by decide +kernel) rfl kin_7 (by decide) kw_210 (b := true) rfl (fun _ => rfl) (so_iload_n (f := 1) (by decide +kernel) rfl (so_aload_n (f := 0) (by decide +kernel) rfl (so_get (C := RX7) (T := TX7) (N := 8) (by decide +kernel) rfl kin_7 (by decide) kw_214 (b := true) rfl (fun _ => rfl) (so_iconst (i := 0) (by decide +kernel) (by decide +kernel) (by decide) (so_weak (so_callV (C := RX5) (T := TX5) (N0 := 2) (by decide +kernel) kcf_56 rfl rfl rfl kw_235 kw_236 kw_237 (by decide +kernel) (sb_56_0 hj) (so_aload_n (f := 0) (by decide +kernel) rfl (so_get (C := RX7) (T := TX7) (N := 8) (by decide +kernel) rfl kin_7 (by decide) kw_211 (b := true) rfl (fun _ => rfl) (so_iload_n (f := 1) (by decide +kernel) rfl (so_aload_n (f := 0) (by decide +kernel) rfl (so_get (C := RX7) (T := TX7) (N := 8) (by decide +kernel) rfl kin_7 (by decide) kw_214 (b := true) rfl (fun _ => rfl) (so_iconst (i := 1) (by decide +kernel) (by decide +kernel) (by decide) (so_weak (so_callV (C := RX5) (T := TX5) (N0 := 2) (by decide +kernel) kcf_56 rfl rfl rfl kw_235 kw_236 kw_237 (by decide +kernel) (sb_56_0 hj) (so_aload_n (f := 0) (by decide +kernel) rfl (so_get (C := RX7) (T := TX7) (N := 8) (by decide +kernel) rfl kin_7 (by decide) kw_212 (b := true) rfl (fun _ => rfl) (so_iload_n (f := 1) (by decide +kernel) rfl (so_aload_n (f := 0) (by decide +kernel) rfl (so_get (C := RX7) (T := TX7) (N := 8) (by decide +kernel) rfl kin_7 (by decide) kw_214 (b := true) rfl (fun _ => rfl) (so_iconst (i := 2) (by decide +kernel) (by decide +kernel) (by decide) (so_weak (so_callV (C := RX5) (T := TX5) (N0 := 2) (by decide +kernel) kcf_56 rfl rfl rfl kw_235 kw_236 kw_237 (by decide +kernel) (sb_56_0 hj) (so_aload_n (f := 0) (by decide +kernel) rfl (so_get (C := RX7) (T := TX7) (N := 8) (by decide +kernel) rfl kin_7 (by decide) kw_213 (b := true) rfl (fun _ => rfl) (so_iload_n (f := 1) (by decide +kernel) rfl (so_aload_n (f := 0) (by decide +kernel) rfl (so_get (C := RX7) (T := TX7) (N := 8) (by decide +kernel) rfl kin_7 (by decide) kw_214 (b := true) rfl (fun _ => rfl) (so_iconst (i := 3) (by decide +kernel) (by decide +kernel) (by decide) (so_weak (so_callV (C := RX5) (T := TX5) (N0 := 2) (by decide +kernel) kcf_56 rfl rfl rfl kw_235 kw_236 kw_237 (by decide +kernel) (sb_56_0 hj) (so_aload_n (f := 0) (by decide +kernel) rfl (so_get (C := RX7) (T := TX7) (N := 8) (by decide +kernel) rfl kin_7 (by decide) kw_212 (b := true) rfl (fun _ => rfl) (so_iload_n (f := 1) (by decide +kernel) rfl (so_iload_n (f := 1) (by decide +kernel) rfl (so_weak (so_callV (C := RX5) (T := TX5) (N0 := 2) (by decide +kernel) kcf_30 rfl rfl rfl kw_223 kw_72 kw_73 (by decide +kernel) (sb_30_0 hj) (so_aload_n (f := 0) (by decide +kernel) rfl (so_get (C := RX7) (T := TX7) (N := 8) (by decide +kernel) rfl kin_7 (by decide) kw_213 (b := true) rfl (fun _ => rfl) (so_iload_n (f := 1) (by decide +kernel) rfl (so_iload_n (f := 1) (by decide +kernel) rfl (so_weak (so_callV (C := RX5) (T := TX5) (N0 := 2) (by decide +kernel) kcf_30 rfl rfl rfl kw_223 kw_72 kw_73 (by decide +kernel) (sb_30_0 hj) (so_aload_n (f := 0) (by decide +kernel) rfl (so_get (C := RX7) (T := TX7) (N := 8) (by decide +kernel) rfl kin_7 (by decide) kw_214 (b := true) rfl (fun _ => rfl) (so_iconst (i := 3) (by decide +kernel) (by decide +kernel) (by decide) (so_iconst (i := 0) (by decide +kernel) (by decide +kernel) (by decide) (so_weak (so_callV (C := RX5) (T := TX5) (N0 := 2) (by decide +kernel) kcf_23 rfl rfl rfl kw_221 kw_57 kw_58 (by decide +kernel) (sb_23_0 hj) (so_istore_n (f := 2) (by decide +kernel) rfl (by decide +kernel) (sb_85_85 hj))) (callvE_imp BK_I))))))) (callvE_imp BK_N))))))) (callvE_imp BK_N))))))) (callvE_imp BK_N))))))))) (callvE_imp BK_N))))))))) (callvE_imp BK_N))))))))) (callvE_imp BK_N))))))))))
set_option maxRecDepth 20000 in
theorem sb_85_0 {j : AJ} (hj : SJ j) : Sound kM_85 0 (mb_85_0 j) := by
  refine so_weak (sc_85_0 hj) (fun L S h r q0 => ?_)
  obtain ⟨c0, L0_, rfl, q1⟩ := w_C_some q0
  obtain ⟨L1_, rfl, q2⟩ := w_N_some q1
  obtain ⟨L2_, rfl, q3⟩ := w_N_some q2
  obtain ⟨rfl, q4⟩ := w_0_some q3
  obtain ⟨rfl, q5⟩ := a_nil_some q4
  exact q5
set_option maxRecDepth 20000 in
theorem sc_86_54 {j : AJ} (hj : SJ j) : Sound kM_86 54 (mc_86_54 j) := by
  unfold mc_86_54
  exact so_aload_n (f := 0) (by decide +kernel) rfl (so_iconst (i := 0) (by decide +kernel) (by decide +kernel) (by decide) (so_iconst (i := 3) (by decide +kernel) (by decide +kernel) (by decide) (so_weak (so_callV (C := RX7) (T := TX7) (N0 := 8) (by decide +kernel) kcf_83 rfl rfl rfl kw_238 kw_239 kw_240 (by decide +kernel) (sb_83_0 hj) (so_aload_n (f := 0) (by decide +kernel) rfl (so_iconst (i := 1) (by decide +kernel) (by decide +kernel) (by decide) (so_iconst (i := 2) (by decide +kernel) (by decide +kernel) (by decide) (so_weak (so_callV (C := RX7) (T := TX7) (N0 := 8) (by decide +kernel) kcf_83 rfl rfl rfl kw_238 kw_239 kw_240 (by decide +kernel) (sb_83_0 hj) (so_aload_n (f := 0) (by decide +kernel) rfl (so_iconst (i := 0) (by decide +kernel) (by decide +kernel) (by decide) (so_aload_n (f := 0) (by decide +kernel) rfl (so_get (C := RX7) (T := TX7) (N := 8) (by decide +kernel) rfl kin_7 (by decide) kw_212 (b := true) rfl (fun _ => rfl) (so_weak (so_callV (C := RX7) (T := TX7) (N0 := 8) (by decide +kernel) kcf_84 rfl rfl rfl kw_241 kw_242 kw_243 (by decide +kernel) (sb_84_0 hj) (so_aload_n (f := 0) (by decide +kernel) rfl (so_iconst (i := 1) (by decide +kernel) (by decide +kernel) (by decide) (so_aload_n (f := 0) (by decide +kernel) rfl (so_get (C := RX7) (T := TX7) (N := 8) (by decide +kernel) rfl kin_7 (by decide) kw_213 (b := true) rfl (fun _ => rfl) (so_weak (so_callV (C := RX7) (T := TX7) (N0 := 8) (by decide +kernel) kcf_84 rfl rfl rfl kw_241 kw_242 kw_243 (by decide +kernel) (sb_84_0 hj) (so_aload_n (f := 0) (by decide +kernel) rfl (so_weak (so_callV (C := RX7) (T := TX7) (N0 := 8) (by decide +kernel) kcf_85 rfl rfl rfl kw_244 kw_245 kw_246 (by decide +kernel) (sb_85_0 hj) (so_reti (by decide +kernel) rfl)) (callvE_imp BK_I)))) (callvE_imp BK_N))))))) (callvE_imp BK_N))))))) (callvE_imp BK_N)))))) (callvE_imp BK_N))))
set_option maxRecDepth 20000 in
theorem sb_86_54 {j : AJ} (hj : SJ j) : Sound kM_86 54 (mb_86_54 j) := by
  refine so_weak (sc_86_54 hj) (fun L S h r q0 => ?_)
  obtain ⟨c0, L0_, rfl, q1⟩ := w_C_some q0
  obtain ⟨i1, L1_, rfl, q2⟩ := w_I_some q1
  obtain ⟨rfl, q3⟩ := w_0_some q2
  obtain ⟨rfl, q4⟩ := a_nil_some q3
  exact q4
set_option maxRecDepth 20000 in
theorem sc_86_42 {j : AJ} (hj : SJ j) : Sound kM_86 42 (mc_86_42 j) := by
  unfold mc_86_42
  exact so_aload_n (f := 0) (by decide +kernel) rfl (so_get (C := RX7) (T := TX7) (N := 8) (by decide +kernel) rfl kin_7 (by decide) kw_234 (b := false) rfl (fun _ => rfl) (so_sipush (i := 320) (by decide +kernel) (by decide +kernel) (by decide) (so_icmp (off := 5) (tgt := 54) (by decide +kernel) (by decide) rfl (sb_86_54 hj) (so_iconst (i := 0) (by decide +kernel) (by decide +kernel) (by decide) (so_reti (by decide +kernel) rfl)))))
set_option maxRecDepth 20000 in
theorem sb_86_42 {j : AJ} (hj : SJ j) : Sound kM_86 42 (mb_86_42 j) := by
  refine so_weak (sc_86_42 hj) (fun L S h r q0 => ?_)
  obtain ⟨c0, L0_, rfl, q1⟩ := w_C_some q0
  obtain ⟨i1, L1_, rfl, q2⟩ := w_I_some q1
  obtain ⟨rfl, q3⟩ := w_0_some q2
  obtain ⟨rfl, q4⟩ := a_nil_some q3
  exact q4
set_option maxRecDepth 20000 in
theorem sc_86_36 {j : AJ} (hj : SJ j) : Sound kM_86 36 (mc_86_36 j) := by
  unfold mc_86_36
  exact so_iinc (z := 1) (by decide +kernel) (by decide +kernel) (by decide) (by decide +kernel) (so_goto (off := -29) (tgt := 10) (by decide +kernel) (by decide) (hj 40 _ _ rfl))
set_option maxRecDepth 20000 in
theorem sb_86_36 {j : AJ} (hj : SJ j) : Sound kM_86 36 (mb_86_36 j) := by
  refine so_weak (sc_86_36 hj) (fun L S h r q0 => ?_)
  obtain ⟨c0, L0_, rfl, q1⟩ := w_C_some q0
  obtain ⟨i1, L1_, rfl, q2⟩ := w_I_some q1
  obtain ⟨rfl, q3⟩ := w_0_some q2
  obtain ⟨rfl, q4⟩ := a_nil_some q3
  exact q4
set_option maxRecDepth 20000 in
theorem sc_86_10 {j : AJ} (hj : SJ j) : Sound kM_86 10 (mc_86_10 j) := by
  unfold mc_86_10
  exact so_iload_n (f := 1) (by decide +kernel) rfl (so_aload_n (f := 0) (by decide +kernel) rfl (so_get (C := RX7) (T := TX7) (N := 8) (by decide +kernel) rfl kin_7 (by decide) kw_234 (b := false) rfl (fun _ => rfl) (so_icmp (off := 27) (tgt := 42) (by decide +kernel) (by decide) rfl (sb_86_42 hj) (so_aload_n (f := 0) (by decide +kernel) rfl (so_iload_n (f := 1) (by decide +kernel) rfl (so_aload_n (f := 0) (by decide +kernel) rfl (so_get (C := RX7) (T := TX7) (N := 8) (by decide +kernel) rfl kin_7 (by decide) kw_210 (b := true) rfl (fun _ => rfl) (so_aload_n (f := 0) (by decide +kernel) rfl (so_get (C := RX7) (T := TX7) (N := 8) (by decide +kernel) rfl kin_7 (by decide) kw_211 (b := true) rfl (fun _ => rfl) (so_weak (so_callV (C := RX7) (T := TX7) (N0 := 8) (by decide +kernel) kcf_82 rfl rfl rfl kw_247 kw_248 kw_249 (by decide +kernel) (sb_82_0 hj) (so_if (off := 5) (tgt := 36) (by decide +kernel) (by decide) rfl (sb_86_36 hj) (so_iload_n (f := 1) (by decide +kernel) rfl (so_reti (by decide +kernel) rfl)))) (callvE_imp BK_I)))))))))))
set_option maxRecDepth 20000 in
theorem sb_86_10 {j : AJ} (hj : SJ j) : Sound kM_86 10 (mb_86_10 j) := by
  refine so_weak (sc_86_10 hj) (fun L S h r q0 => ?_)
  obtain ⟨c0, L0_, rfl, q1⟩ := w_C_some q0
  obtain ⟨i1, L1_, rfl, q2⟩ := w_I_some q1
  obtain ⟨rfl, q3⟩ := w_0_some q2
  obtain ⟨rfl, q4⟩ := a_nil_some q3
  exact q4
set_option maxRecDepth 20000 in
theorem sc_86_0 {j : AJ} (hj : SJ j) : Sound kM_86 0 (mc_86_0 j) := by
  unfold mc_86_0
  exact so_aload_n (f := 0) (by decide +kernel) rfl (so_aload_n (f := 0) (by decide +kernel) rfl (so_get (C := RX7) (T := TX7) (N := 8) (by decide +kernel) rfl kin_7 (by decide) kw_234 (b := false) rfl (fun _ => rfl) (so_weak (so_callV (C := RX7) (T := TX7) (N0 := 8) (by decide +kernel) kcf_81 rfl rfl rfl kw_250 kw_251 kw_252 (by decide +kernel) (sb_81_0 hj) (so_iconst (i := 0) (by decide +kernel) (by decide +kernel) (by decide) (so_istore_n (f := 1) (by decide +kernel) rfl (by decide +kernel) (sb_86_10 hj)))) (callvE_imp BK_N))))
set_option maxRecDepth 20000 in
theorem sb_86_0 {j : AJ} (hj : SJ j) : Sound kM_86 0 (mb_86_0 j) := by
  refine so_weak (sc_86_0 hj) (fun L S h r q0 => ?_)
  obtain ⟨c0, L0_, rfl, q1⟩ := w_C_some q0
  obtain ⟨L1_, rfl, q2⟩ := w_N_some q1
  obtain ⟨rfl, q3⟩ := w_0_some q2
  obtain ⟨rfl, q4⟩ := a_nil_some q3
  exact q4
set_option maxRecDepth 20000 in
theorem sc_87_0 {j : AJ} (hj : SJ j) : Sound kM_87 0 (mc_87_0 j) := by
  unfold mc_87_0
  exact so_aload_n (f := 0) (by decide +kernel) rfl (so_iconst (i := 0) (by decide +kernel) (by decide +kernel) (by decide) (so_putI (C := RX7) (T := TX7) (N := 8) (ty0 := tyX7) (by decide +kernel) rfl kin_7 tyX7_ok nmX7 (by decide) kw_234 rfl rfl rfl (so_aload_n (f := 0) (by decide +kernel) rfl (so_weak (so_callV (C := RX7) (T := TX7) (N0 := 8) (by decide +kernel) kcf_80 rfl rfl rfl kw_253 kw_254 kw_255 (by decide +kernel) (sb_80_0 hj) (so_aload_n (f := 0) (by decide +kernel) rfl (so_weak (so_callV (C := RX7) (T := TX7) (N0 := 8) (by decide +kernel) kcf_86 rfl rfl rfl kw_256 kw_257 kw_258 (by decide +kernel) (sb_86_0 hj) (so_reti (by decide +kernel) rfl)) (callvE_imp BK_I)))) (callvE_imp BK_N)))))
set_option maxRecDepth 20000 in
theorem sb_87_0 {j : AJ} (hj : SJ j) : Sound kM_87 0 (mb_87_0 j) := by
  refine so_weak (sc_87_0 hj) (fun L S h r q0 => ?_)
  obtain ⟨c0, L0_, rfl, q1⟩ := w_C_some q0
  obtain ⟨rfl, q2⟩ := w_0_some q1
  obtain ⟨rfl, q3⟩ := a_nil_some q2
  exact q3
set_option maxRecDepth 20000 in
theorem sc_88_49 {j : AJ} (hj : SJ j) : Sound kM_88 49 (mc_88_49 j) := by
  unfold mc_88_49
  exact so_retv (by decide +kernel) rfl
set_option maxRecDepth 20000 in
theorem sb_88_49 {j : AJ} (hj : SJ j) : Sound kM_88 49 (mb_88_49 j) := by
  refine so_weak (sc_88_49 hj) (fun L S h r q0 => ?_)
  obtain ⟨c0, L0_, rfl, q1⟩ := w_C_some q0
  obtain ⟨c1, L1_, rfl, q2⟩ := w_C_some q1
  obtain ⟨i2, L2_, rfl, q3⟩ := w_I_some q2
  obtain ⟨i3, L3_, rfl, q4⟩ := w_I_some q3
  obtain ⟨i4, L4_, rfl, q5⟩ := w_I_some q4
  obtain ⟨x5, L5_, rfl, q6⟩ := w_X_some q5
  obtain ⟨rfl, q7⟩ := w_0_some q6
  obtain ⟨rfl, q8⟩ := a_nil_some q7
  exact q8
set_option maxRecDepth 20000 in
theorem sc_88_43 {j : AJ} (hj : SJ j) : Sound kM_88 43 (mc_88_43 j) := by
  unfold mc_88_43
  exact so_iinc (z := 1) (by decide +kernel) (by decide +kernel) (by decide) (by decide +kernel) (so_goto (off := -43) (tgt := 3) (by decide +kernel) (by decide) (hj 41 _ _ rfl))
set_option maxRecDepth 20000 in
theorem sb_88_43 {j : AJ} (hj : SJ j) : Sound kM_88 43 (mb_88_43 j) := by
  refine so_weak (sc_88_43 hj) (fun L S h r q0 => ?_)
  obtain ⟨c0, L0_, rfl, q1⟩ := w_C_some q0
  obtain ⟨c1, L1_, rfl, q2⟩ := w_C_some q1
  obtain ⟨i2, L2_, rfl, q3⟩ := w_I_some q2
  obtain ⟨i3, L3_, rfl, q4⟩ := w_I_some q3
  obtain ⟨i4, L4_, rfl, q5⟩ := w_I_some q4
  obtain ⟨i5, L5_, rfl, q6⟩ := w_I_some q5
  obtain ⟨rfl, q7⟩ := w_0_some q6
  obtain ⟨rfl, q8⟩ := a_nil_some q7
  exact q8
set_option maxRecDepth 20000 in
theorem sc_88_3 {j : AJ} (hj : SJ j) : Sound kM_88 3 (mc_88_3 j) := by
  unfold mc_88_3
  exact so_iload (by decide +kernel) (so_aload_n (f := 1) (by decide +kernel) rfl (so_iload_n (f := 3) (by decide +kernel) rfl (so_weak (so_callV (C := RX3) (T := TX3) (N0 := 4) (by decide +kernel) kcf_46 rfl rfl rfl kw_259 kw_127 kw_128 (by decide +kernel) (sb_46_0 hj) (so_icmp (off := 39) (tgt := 49) (by decide +kernel) (by decide) rfl (sb_88_49 hj) (so_aload_n (f := 1) (by decide +kernel) rfl (so_iload_n (f := 3) (by decide +kernel) rfl (so_iload (by decide +kernel) (so_weak (so_callV (C := RX3) (T := TX3) (N0 := 4) (by decide +kernel) kcf_47 rfl rfl rfl kw_260 kw_133 kw_134 (by decide +kernel) (sb_47_0 hj) (so_istore (by decide +kernel) (by decide +kernel) (so_iload_n (f := 2) (by decide +kernel) rfl (so_iload (by decide +kernel) (so_iand (by decide +kernel) (so_iload (by decide +kernel) (so_icmp (off := 15) (tgt := 43) (by decide +kernel) (by decide) rfl (sb_88_43 hj) (so_aload_n (f := 0) (by decide +kernel) rfl (so_get (C := RX7) (T := TX7) (N := 8) (by decide +kernel) rfl kin_7 (by decide) kw_215 (b := true) rfl (fun _ => rfl) (so_iload_n (f := 2) (by decide +kernel) rfl (so_iload (by decide +kernel) (so_iconst (i := -1) (by decide +kernel) (by decide +kernel) (by decide) (so_ixor (by decide +kernel) (so_iand (by decide +kernel) (so_iconst (i := -1) (by decide +kernel) (by decide +kernel) (by decide) (so_iast (by decide +kernel) (sb_88_43 hj))))))))))))))))) (callvE_imp BK_I))))))) (callvE_imp BK_I))))
set_option maxRecDepth 20000 in
theorem sb_88_3 {j : AJ} (hj : SJ j) : Sound kM_88 3 (mb_88_3 j) := by
  refine so_weak (sc_88_3 hj) (fun L S h r q0 => ?_)
  obtain ⟨c0, L0_, rfl, q1⟩ := w_C_some q0
  obtain ⟨c1, L1_, rfl, q2⟩ := w_C_some q1
  obtain ⟨i2, L2_, rfl, q3⟩ := w_I_some q2
  obtain ⟨i3, L3_, rfl, q4⟩ := w_I_some q3
  obtain ⟨i4, L4_, rfl, q5⟩ := w_I_some q4
  obtain ⟨x5, L5_, rfl, q6⟩ := w_X_some q5
  obtain ⟨rfl, q7⟩ := w_0_some q6
  obtain ⟨rfl, q8⟩ := a_nil_some q7
  exact q8
set_option maxRecDepth 20000 in
theorem sc_88_0 {j : AJ} (hj : SJ j) : Sound kM_88 0 (mc_88_0 j) := by
  unfold mc_88_0
  exact so_iconst (i := 0) (by decide +kernel) (by decide +kernel) (by decide) (so_istore (by decide +kernel) (by decide +kernel) (sb_88_3 hj))
set_option maxRecDepth 20000 in
theorem sb_88_0 {j : AJ} (hj : SJ j) : Sound kM_88 0 (mb_88_0 j) := by
  refine so_weak (sc_88_0 hj) (fun L S h r q0 => ?_)
  obtain ⟨c0, L0_, rfl, q1⟩ := w_C_some q0
  obtain ⟨c1, L1_, rfl, q2⟩ := w_C_some q1
  obtain ⟨i2, L2_, rfl, q3⟩ := w_I_some q2
  obtain ⟨i3, L3_, rfl, q4⟩ := w_I_some q3
  obtain ⟨L4_, rfl, q5⟩ := w_N_some q4
  obtain ⟨L5_, rfl, q6⟩ := w_N_some q5
  obtain ⟨rfl, q7⟩ := w_0_some q6
  obtain ⟨rfl, q8⟩ := a_nil_some q7
  exact q8
set_option maxRecDepth 20000 in
theorem sc_89_64 {j : AJ} (hj : SJ j) : Sound kM_89 64 (mc_89_64 j) := by
  unfold mc_89_64
  exact so_retv (by decide +kernel) rfl
set_option maxRecDepth 20000 in
theorem sb_89_64 {j : AJ} (hj : SJ j) : Sound kM_89 64 (mb_89_64 j) := by
  refine so_weak (sc_89_64 hj) (fun L S h r q0 => ?_)
  obtain ⟨c0, L0_, rfl, q1⟩ := w_C_some q0
  obtain ⟨c1, L1_, rfl, q2⟩ := w_C_some q1
  obtain ⟨i2, L2_, rfl, q3⟩ := w_I_some q2
  obtain ⟨i3, L3_, rfl, q4⟩ := w_I_some q3
  obtain ⟨rfl, q5⟩ := w_0_some q4
  obtain ⟨rfl, q6⟩ := a_nil_some q5
  exact q6
set_option maxRecDepth 20000 in
theorem sc_89_58 {j : AJ} (hj : SJ j) : Sound kM_89 58 (mc_89_58 j) := by
  unfold mc_89_58
  exact so_iinc (z := -1) (by decide +kernel) (by decide +kernel) (by decide) (by decide +kernel) (so_goto (off := -31) (tgt := 30) (by decide +kernel) (by decide) (hj 43 _ _ rfl))
set_option maxRecDepth 20000 in
theorem sb_89_58 {j : AJ} (hj : SJ j) : Sound kM_89 58 (mb_89_58 j) := by
  refine so_weak (sc_89_58 hj) (fun L S h r q0 => ?_)
  obtain ⟨c0, L0_, rfl, q1⟩ := w_C_some q0
  obtain ⟨c1, L1_, rfl, q2⟩ := w_C_some q1
  obtain ⟨i2, L2_, rfl, q3⟩ := w_I_some q2
  obtain ⟨i3, L3_, rfl, q4⟩ := w_I_some q3
  obtain ⟨rfl, q5⟩ := w_0_some q4
  obtain ⟨rfl, q6⟩ := a_nil_some q5
  exact q6
set_option maxRecDepth 20000 in
theorem sc_89_30 {j : AJ} (hj : SJ j) : Sound kM_89 30 (mc_89_30 j) := by
  unfold mc_89_30
  exact so_iload_n (f := 3) (by decide +kernel) rfl (so_if (off := 33) (tgt := 64) (by decide +kernel) (by decide) rfl (sb_89_64 hj) (so_aload_n (f := 0) (by decide +kernel) rfl (so_get (C := RX7) (T := TX7) (N := 8) (by decide +kernel) rfl kin_7 (by decide) kw_215 (b := true) rfl (fun _ => rfl) (so_iload_n (f := 3) (by decide +kernel) rfl (so_iald (by decide +kernel) (so_iconst (i := -1) (by decide +kernel) (by decide +kernel) (by decide) (so_icmp (off := 17) (tgt := 58) (by decide +kernel) (by decide) rfl (sb_89_58 hj) (so_aload_n (f := 0) (by decide +kernel) rfl (so_aload_n (f := 1) (by decide +kernel) rfl (so_iload_n (f := 3) (by decide +kernel) rfl (so_iconst (i := 0) (by decide +kernel) (by decide +kernel) (by decide) (so_weak (so_callV (C := RX7) (T := TX7) (N0 := 8) (by decide +kernel) kcf_88 rfl rfl rfl kw_261 kw_262 kw_263 (by decide +kernel) (sb_88_0 hj) (so_aload_n (f := 0) (by decide +kernel) rfl (so_aload_n (f := 1) (by decide +kernel) rfl (so_iload_n (f := 3) (by decide +kernel) rfl (so_iconst (i := 1) (by decide +kernel) (by decide +kernel) (by decide) (so_weak (so_callV (C := RX7) (T := TX7) (N0 := 8) (by decide +kernel) kcf_88 rfl rfl rfl kw_261 kw_262 kw_263 (by decide +kernel) (sb_88_0 hj) (sb_89_58 hj)) (callvE_imp BK_N))))))) (callvE_imp BK_N)))))))))))))
set_option maxRecDepth 20000 in
theorem sb_89_30 {j : AJ} (hj : SJ j) : Sound kM_89 30 (mb_89_30 j) := by
  refine so_weak (sc_89_30 hj) (fun L S h r q0 => ?_)
  obtain ⟨c0, L0_, rfl, q1⟩ := w_C_some q0
  obtain ⟨c1, L1_, rfl, q2⟩ := w_C_some q1
  obtain ⟨i2, L2_, rfl, q3⟩ := w_I_some q2
  obtain ⟨i3, L3_, rfl, q4⟩ := w_I_some q3
  obtain ⟨rfl, q5⟩ := w_0_some q4
  obtain ⟨rfl, q6⟩ := a_nil_some q5
  exact q6
set_option maxRecDepth 20000 in
theorem sc_89_21 {j : AJ} (hj : SJ j) : Sound kM_89 21 (mc_89_21 j) := by
  unfold mc_89_21
  exact so_aload_n (f := 0) (by decide +kernel) rfl (so_get (C := RX7) (T := TX7) (N := 8) (by decide +kernel) rfl kin_7 (by decide) kw_215 (b := true) rfl (fun _ => rfl) (so_iload_n (f := 2) (by decide +kernel) rfl (so_iconst (i := -1) (by decide +kernel) (by decide +kernel) (by decide) (so_iast (by decide +kernel) (so_iload_n (f := 2) (by decide +kernel) rfl (so_istore_n (f := 3) (by decide +kernel) rfl (by decide +kernel) (sb_89_30 hj)))))))
set_option maxRecDepth 20000 in
theorem sb_89_21 {j : AJ} (hj : SJ j) : Sound kM_89 21 (mb_89_21 j) := by
  refine so_weak (sc_89_21 hj) (fun L S h r q0 => ?_)
  obtain ⟨c0, L0_, rfl, q1⟩ := w_C_some q0
  obtain ⟨c1, L1_, rfl, q2⟩ := w_C_some q1
  obtain ⟨i2, L2_, rfl, q3⟩ := w_I_some q2
  obtain ⟨i3, L3_, rfl, q4⟩ := w_I_some q3
  obtain ⟨rfl, q5⟩ := w_0_some q4
  obtain ⟨rfl, q6⟩ := a_nil_some q5
  exact q6
set_option maxRecDepth 20000 in
theorem sc_89_2 {j : AJ} (hj : SJ j) : Sound kM_89 2 (mc_89_2 j) := by
  unfold mc_89_2
  exact so_iload_n (f := 3) (by decide +kernel) rfl (so_iload_n (f := 2) (by decide +kernel) rfl (so_icmp (off := 17) (tgt := 21) (by decide +kernel) (by decide) rfl (sb_89_21 hj) (so_aload_n (f := 0) (by decide +kernel) rfl (so_get (C := RX7) (T := TX7) (N := 8) (by decide +kernel) rfl kin_7 (by decide) kw_215 (b := true) rfl (fun _ => rfl) (so_iload_n (f := 3) (by decide +kernel) rfl (so_bipush (i := -2) (by decide +kernel) (by decide +kernel) (by decide) (so_iast (by decide +kernel) (so_iinc (z := 1) (by decide +kernel) (by decide +kernel) (by decide) (by decide +kernel) (so_goto (off := -16) (tgt := 2) (by decide +kernel) (by decide) (hj 42 _ _ rfl))))))))))
set_option maxRecDepth 20000 in
theorem sb_89_2 {j : AJ} (hj : SJ j) : Sound kM_89 2 (mb_89_2 j) := by
  refine so_weak (sc_89_2 hj) (fun L S h r q0 => ?_)
  obtain ⟨c0, L0_, rfl, q1⟩ := w_C_some q0
  obtain ⟨c1, L1_, rfl, q2⟩ := w_C_some q1
  obtain ⟨i2, L2_, rfl, q3⟩ := w_I_some q2
  obtain ⟨i3, L3_, rfl, q4⟩ := w_I_some q3
  obtain ⟨rfl, q5⟩ := w_0_some q4
  obtain ⟨rfl, q6⟩ := a_nil_some q5
  exact q6
set_option maxRecDepth 20000 in
theorem sc_89_0 {j : AJ} (hj : SJ j) : Sound kM_89 0 (mc_89_0 j) := by
  unfold mc_89_0
  exact so_iconst (i := 0) (by decide +kernel) (by decide +kernel) (by decide) (so_istore_n (f := 3) (by decide +kernel) rfl (by decide +kernel) (sb_89_2 hj))
set_option maxRecDepth 20000 in
theorem sb_89_0 {j : AJ} (hj : SJ j) : Sound kM_89 0 (mb_89_0 j) := by
  refine so_weak (sc_89_0 hj) (fun L S h r q0 => ?_)
  obtain ⟨c0, L0_, rfl, q1⟩ := w_C_some q0
  obtain ⟨c1, L1_, rfl, q2⟩ := w_C_some q1
  obtain ⟨i2, L2_, rfl, q3⟩ := w_I_some q2
  obtain ⟨L3_, rfl, q4⟩ := w_N_some q3
  obtain ⟨rfl, q5⟩ := w_0_some q4
  obtain ⟨rfl, q6⟩ := a_nil_some q5
  exact q6
set_option maxRecDepth 20000 in
theorem sc_90_56 {j : AJ} (hj : SJ j) : Sound kM_90 56 (mc_90_56 j) := by
  unfold mc_90_56
  exact so_retv (by decide +kernel) rfl
set_option maxRecDepth 20000 in
theorem sb_90_56 {j : AJ} (hj : SJ j) : Sound kM_90 56 (mb_90_56 j) := by
  refine so_weak (sc_90_56 hj) (fun L S h r q0 => ?_)
  obtain ⟨c0, L0_, rfl, q1⟩ := w_C_some q0
  obtain ⟨c1, L1_, rfl, q2⟩ := w_C_some q1
  obtain ⟨i2, L2_, rfl, q3⟩ := w_I_some q2
  obtain ⟨i3, L3_, rfl, q4⟩ := w_I_some q3
  obtain ⟨i4, L4_, rfl, q5⟩ := w_I_some q4
  obtain ⟨x5, L5_, rfl, q6⟩ := w_X_some q5
  obtain ⟨rfl, q7⟩ := w_0_some q6
  obtain ⟨rfl, q8⟩ := a_nil_some q7
  exact q8
set_option maxRecDepth 20000 in
theorem sc_90_50 {j : AJ} (hj : SJ j) : Sound kM_90 50 (mc_90_50 j) := by
  unfold mc_90_50
  exact so_iinc (z := 1) (by decide +kernel) (by decide +kernel) (by decide) (by decide +kernel) (so_goto (off := -50) (tgt := 3) (by decide +kernel) (by decide) (hj 44 _ _ rfl))
set_option maxRecDepth 20000 in
theorem sb_90_50 {j : AJ} (hj : SJ j) : Sound kM_90 50 (mb_90_50 j) := by
  refine so_weak (sc_90_50 hj) (fun L S h r q0 => ?_)
  obtain ⟨c0, L0_, rfl, q1⟩ := w_C_some q0
  obtain ⟨c1, L1_, rfl, q2⟩ := w_C_some q1
  obtain ⟨i2, L2_, rfl, q3⟩ := w_I_some q2
  obtain ⟨i3, L3_, rfl, q4⟩ := w_I_some q3
  obtain ⟨i4, L4_, rfl, q5⟩ := w_I_some q4
  obtain ⟨i5, L5_, rfl, q6⟩ := w_I_some q5
  obtain ⟨rfl, q7⟩ := w_0_some q6
  obtain ⟨rfl, q8⟩ := a_nil_some q7
  exact q8
set_option maxRecDepth 20000 in
theorem sc_90_3 {j : AJ} (hj : SJ j) : Sound kM_90 3 (mc_90_3 j) := by
  unfold mc_90_3
  exact so_iload (by decide +kernel) (so_aload_n (f := 1) (by decide +kernel) rfl (so_iload_n (f := 3) (by decide +kernel) rfl (so_weak (so_callV (C := RX3) (T := TX3) (N0 := 4) (by decide +kernel) kcf_46 rfl rfl rfl kw_259 kw_127 kw_128 (by decide +kernel) (sb_46_0 hj) (so_icmp (off := 46) (tgt := 56) (by decide +kernel) (by decide) rfl (sb_90_56 hj) (so_aload_n (f := 1) (by decide +kernel) rfl (so_iload_n (f := 3) (by decide +kernel) rfl (so_iload (by decide +kernel) (so_weak (so_callV (C := RX3) (T := TX3) (N0 := 4) (by decide +kernel) kcf_47 rfl rfl rfl kw_260 kw_133 kw_134 (by decide +kernel) (sb_47_0 hj) (so_istore (by decide +kernel) (by decide +kernel) (so_iload_n (f := 2) (by decide +kernel) rfl (so_iload (by decide +kernel) (so_iand (by decide +kernel) (so_iload (by decide +kernel) (so_icmp (off := 22) (tgt := 50) (by decide +kernel) (by decide) rfl (sb_90_50 hj) (so_aload_n (f := 0) (by decide +kernel) rfl (so_get (C := RX7) (T := TX7) (N := 8) (by decide +kernel) rfl kin_7 (by decide) kw_214 (b := true) rfl (fun _ => rfl) (so_iload_n (f := 3) (by decide +kernel) rfl (so_aload_n (f := 0) (by decide +kernel) rfl (so_get (C := RX7) (T := TX7) (N := 8) (by decide +kernel) rfl kin_7 (by decide) kw_215 (b := true) rfl (fun _ => rfl) (so_iload_n (f := 2) (by decide +kernel) rfl (so_iload (by decide +kernel) (so_iconst (i := -1) (by decide +kernel) (by decide +kernel) (by decide) (so_ixor (by decide +kernel) (so_iand (by decide +kernel) (so_iald (by decide +kernel) (so_weak (so_callV (C := RX5) (T := TX5) (N0 := 2) (by decide +kernel) kcf_30 rfl rfl rfl kw_223 kw_72 kw_73 (by decide +kernel) (sb_30_0 hj) (sb_90_50 hj)) (callvE_imp BK_N)))))))))))))))))))) (callvE_imp BK_I))))))) (callvE_imp BK_I))))
set_option maxRecDepth 20000 in
theorem sb_90_3 {j : AJ} (hj : SJ j) : Sound kM_90 3 (mb_90_3 j) := by
  refine so_weak (sc_90_3 hj) (fun L S h r q0 => ?_)
  obtain ⟨c0, L0_, rfl, q1⟩ := w_C_some q0
  obtain ⟨c1, L1_, rfl, q2⟩ := w_C_some q1
  obtain ⟨i2, L2_, rfl, q3⟩ := w_I_some q2
  obtain ⟨i3, L3_, rfl, q4⟩ := w_I_some q3
  obtain ⟨i4, L4_, rfl, q5⟩ := w_I_some q4
  obtain ⟨x5, L5_, rfl, q6⟩ := w_X_some q5
  obtain ⟨rfl, q7⟩ := w_0_some q6
  obtain ⟨rfl, q8⟩ := a_nil_some q7
  exact q8
set_option maxRecDepth 20000 in
theorem sc_90_0 {j : AJ} (hj : SJ j) : Sound kM_90 0 (mc_90_0 j) := by
  unfold mc_90_0
  exact so_iconst (i := 0) (by decide +kernel) (by decide +kernel) (by decide) (so_istore (by decide +kernel) (by decide +kernel) (sb_90_3 hj))
set_option maxRecDepth 20000 in
theorem sb_90_0 {j : AJ} (hj : SJ j) : Sound kM_90 0 (mb_90_0 j) := by
  refine so_weak (sc_90_0 hj) (fun L S h r q0 => ?_)
  obtain ⟨c0, L0_, rfl, q1⟩ := w_C_some q0
  obtain ⟨c1, L1_, rfl, q2⟩ := w_C_some q1
  obtain ⟨i2, L2_, rfl, q3⟩ := w_I_some q2
  obtain ⟨i3, L3_, rfl, q4⟩ := w_I_some q3
  obtain ⟨L4_, rfl, q5⟩ := w_N_some q4
  obtain ⟨L5_, rfl, q6⟩ := w_N_some q5
  obtain ⟨rfl, q7⟩ := w_0_some q6
  obtain ⟨rfl, q8⟩ := a_nil_some q7
  exact q8
set_option maxRecDepth 20000 in
theorem sc_91_83 {j : AJ} (hj : SJ j) : Sound kM_91 83 (mc_91_83 j) := by
  unfold mc_91_83
  exact so_aload_n (f := 0) (by decide +kernel) rfl (so_get (C := RX7) (T := TX7) (N := 8) (by decide +kernel) rfl kin_7 (by decide) kw_215 (b := true) rfl (fun _ => rfl) (so_iload_n (f := 2) (by decide +kernel) rfl (so_iald (by decide +kernel) (so_reti (by decide +kernel) rfl))))
set_option maxRecDepth 20000 in
theorem sb_91_83 {j : AJ} (hj : SJ j) : Sound kM_91 83 (mb_91_83 j) := by
  refine so_weak (sc_91_83 hj) (fun L S h r q0 => ?_)
  obtain ⟨c0, L0_, rfl, q1⟩ := w_C_some q0
  obtain ⟨c1, L1_, rfl, q2⟩ := w_C_some q1
  obtain ⟨i2, L2_, rfl, q3⟩ := w_I_some q2
  obtain ⟨i3, L3_, rfl, q4⟩ := w_I_some q3
  obtain ⟨rfl, q5⟩ := w_0_some q4
  obtain ⟨rfl, q6⟩ := a_nil_some q5
  exact q6
set_option maxRecDepth 20000 in
theorem sc_91_77 {j : AJ} (hj : SJ j) : Sound kM_91 77 (mc_91_77 j) := by
  unfold mc_91_77
  exact so_iinc (z := 1) (by decide +kernel) (by decide +kernel) (by decide) (by decide +kernel) (so_goto (off := -46) (tgt := 34) (by decide +kernel) (by decide) (hj 45 _ _ rfl))
set_option maxRecDepth 20000 in
theorem sb_91_77 {j : AJ} (hj : SJ j) : Sound kM_91 77 (mb_91_77 j) := by
  refine so_weak (sc_91_77 hj) (fun L S h r q0 => ?_)
  obtain ⟨c0, L0_, rfl, q1⟩ := w_C_some q0
  obtain ⟨c1, L1_, rfl, q2⟩ := w_C_some q1
  obtain ⟨i2, L2_, rfl, q3⟩ := w_I_some q2
  obtain ⟨i3, L3_, rfl, q4⟩ := w_I_some q3
  obtain ⟨rfl, q5⟩ := w_0_some q4
  obtain ⟨rfl, q6⟩ := a_nil_some q5
  exact q6
set_option maxRecDepth 20000 in
theorem sc_91_34 {j : AJ} (hj : SJ j) : Sound kM_91 34 (mc_91_34 j) := by
  unfold mc_91_34
  exact so_iload_n (f := 3) (by decide +kernel) rfl (so_iload_n (f := 2) (by decide +kernel) rfl (so_icmp (off := 47) (tgt := 83) (by decide +kernel) (by decide) rfl (sb_91_83 hj) (so_aload_n (f := 0) (by decide +kernel) rfl (so_get (C := RX7) (T := TX7) (N := 8) (by decide +kernel) rfl kin_7 (by decide) kw_215 (b := true) rfl (fun _ => rfl) (so_iload_n (f := 3) (by decide +kernel) rfl (so_iald (by decide +kernel) (so_iconst (i := -1) (by decide +kernel) (by decide +kernel) (by decide) (so_icmp (off := 31) (tgt := 77) (by decide +kernel) (by decide) rfl (sb_91_77 hj) (so_aload_n (f := 0) (by decide +kernel) rfl (so_weak (so_callV (C := RX7) (T := TX7) (N0 := 8) (by decide +kernel) kcf_80 rfl rfl rfl kw_253 kw_254 kw_255 (by decide +kernel) (sb_80_0 hj) (so_aload_n (f := 0) (by decide +kernel) rfl (so_aload_n (f := 1) (by decide +kernel) rfl (so_iload_n (f := 3) (by decide +kernel) rfl (so_iconst (i := 0) (by decide +kernel) (by decide +kernel) (by decide) (so_weak (so_callV (C := RX7) (T := TX7) (N0 := 8) (by decide +kernel) kcf_90 rfl rfl rfl kw_264 kw_265 kw_266 (by decide +kernel) (sb_90_0 hj) (so_aload_n (f := 0) (by decide +kernel) rfl (so_aload_n (f := 1) (by decide +kernel) rfl (so_iload_n (f := 3) (by decide +kernel) rfl (so_iconst (i := 1) (by decide +kernel) (by decide +kernel) (by decide) (so_weak (so_callV (C := RX7) (T := TX7) (N0 := 8) (by decide +kernel) kcf_90 rfl rfl rfl kw_264 kw_265 kw_266 (by decide +kernel) (sb_90_0 hj) (so_aload_n (f := 0) (by decide +kernel) rfl (so_get (C := RX7) (T := TX7) (N := 8) (by decide +kernel) rfl kin_7 (by decide) kw_215 (b := true) rfl (fun _ => rfl) (so_iload_n (f := 3) (by decide +kernel) rfl (so_aload_n (f := 0) (by decide +kernel) rfl (so_weak (so_callV (C := RX7) (T := TX7) (N0 := 8) (by decide +kernel) kcf_86 rfl rfl rfl kw_256 kw_257 kw_258 (by decide +kernel) (sb_86_0 hj) (so_iast (by decide +kernel) (sb_91_77 hj))) (callvE_imp BK_I))))))) (callvE_imp BK_N))))))) (callvE_imp BK_N))))))) (callvE_imp BK_N)))))))))))
set_option maxRecDepth 20000 in
theorem sb_91_34 {j : AJ} (hj : SJ j) : Sound kM_91 34 (mb_91_34 j) := by
  refine so_weak (sc_91_34 hj) (fun L S h r q0 => ?_)
  obtain ⟨c0, L0_, rfl, q1⟩ := w_C_some q0
  obtain ⟨c1, L1_, rfl, q2⟩ := w_C_some q1
  obtain ⟨i2, L2_, rfl, q3⟩ := w_I_some q2
  obtain ⟨i3, L3_, rfl, q4⟩ := w_I_some q3
  obtain ⟨rfl, q5⟩ := w_0_some q4
  obtain ⟨rfl, q6⟩ := a_nil_some q5
  exact q6
set_option maxRecDepth 20000 in
theorem sc_91_26 {j : AJ} (hj : SJ j) : Sound kM_91 26 (mc_91_26 j) := by
  unfold mc_91_26
  exact so_aload_n (f := 0) (by decide +kernel) rfl (so_aload_n (f := 1) (by decide +kernel) rfl (so_iload_n (f := 2) (by decide +kernel) rfl (so_weak (so_callV (C := RX7) (T := TX7) (N0 := 8) (by decide +kernel) kcf_89 rfl rfl rfl kw_267 kw_268 kw_269 (by decide +kernel) (sb_89_0 hj) (so_iconst (i := 0) (by decide +kernel) (by decide +kernel) (by decide) (so_istore_n (f := 3) (by decide +kernel) rfl (by decide +kernel) (sb_91_34 hj)))) (callvE_imp BK_N))))
set_option maxRecDepth 20000 in
theorem sb_91_26 {j : AJ} (hj : SJ j) : Sound kM_91 26 (mb_91_26 j) := by
  refine so_weak (sc_91_26 hj) (fun L S h r q0 => ?_)
  obtain ⟨c0, L0_, rfl, q1⟩ := w_C_some q0
  obtain ⟨c1, L1_, rfl, q2⟩ := w_C_some q1
  obtain ⟨i2, L2_, rfl, q3⟩ := w_I_some q2
  obtain ⟨L3_, rfl, q4⟩ := w_N_some q3
  obtain ⟨rfl, q5⟩ := w_0_some q4
  obtain ⟨rfl, q6⟩ := a_nil_some q5
  exact q6
set_option maxRecDepth 20000 in
theorem sc_91_21 {j : AJ} (hj : SJ j) : Sound kM_91 21 (mc_91_21 j) := by
  unfold mc_91_21
  exact so_aload_n (f := 0) (by decide +kernel) rfl (so_weak (so_callV (C := RX7) (T := TX7) (N0 := 8) (by decide +kernel) kcf_87 rfl rfl rfl kw_270 kw_271 kw_272 (by decide +kernel) (sb_87_0 hj) (so_reti (by decide +kernel) rfl)) (callvE_imp BK_I))
set_option maxRecDepth 20000 in
theorem sb_91_21 {j : AJ} (hj : SJ j) : Sound kM_91 21 (mb_91_21 j) := by
  refine so_weak (sc_91_21 hj) (fun L S h r q0 => ?_)
  obtain ⟨c0, L0_, rfl, q1⟩ := w_C_some q0
  obtain ⟨c1, L1_, rfl, q2⟩ := w_C_some q1
  obtain ⟨i2, L2_, rfl, q3⟩ := w_I_some q2
  obtain ⟨L3_, rfl, q4⟩ := w_N_some q3
  obtain ⟨rfl, q5⟩ := w_0_some q4
  obtain ⟨rfl, q6⟩ := a_nil_some q5
  exact q6
set_option maxRecDepth 20000 in
theorem sc_91_0 {j : AJ} (hj : SJ j) : Sound kM_91 0 (mc_91_0 j) := by
  unfold mc_91_0
  exact so_aload_n (f := 0) (by decide +kernel) rfl (so_iconst (i := 0) (by decide +kernel) (by decide +kernel) (by decide) (so_putI (C := RX7) (T := TX7) (N := 8) (ty0 := tyX7) (by decide +kernel) rfl kin_7 tyX7_ok nmX7 (by decide) kw_234 rfl rfl rfl (so_aload_n (f := 1) (by decide +kernel) rfl (so_weak (so_callV (C := RX3) (T := TX3) (N0 := 4) (by decide +kernel) kcf_44 rfl rfl rfl kw_273 kw_137 kw_138 (by decide +kernel) (sb_44_0 hj) (so_istore_n (f := 2) (by decide +kernel) rfl (by decide +kernel) (so_iload_n (f := 2) (by decide +kernel) rfl (so_if (off := 10) (tgt := 21) (by decide +kernel) (by decide) rfl (sb_91_21 hj) (so_iload_n (f := 2) (by decide +kernel) rfl (so_sipush (i := 1024) (by decide +kernel) (by decide +kernel) (by decide) (so_icmp (off := 8) (tgt := 26) (by decide +kernel) (by decide) rfl (sb_91_26 hj) (sb_91_21 hj)))))))) (callvE_imp BK_I)))))
set_option maxRecDepth 20000 in
theorem sb_91_0 {j : AJ} (hj : SJ j) : Sound kM_91 0 (mb_91_0 j) := by
  refine so_weak (sc_91_0 hj) (fun L S h r q0 => ?_)
  obtain ⟨c0, L0_, rfl, q1⟩ := w_C_some q0
  obtain ⟨c1, L1_, rfl, q2⟩ := w_C_some q1
  obtain ⟨L2_, rfl, q3⟩ := w_N_some q2
  obtain ⟨L3_, rfl, q4⟩ := w_N_some q3
  obtain ⟨rfl, q5⟩ := w_0_some q4
  obtain ⟨rfl, q6⟩ := a_nil_some q5
  exact q6
set_option maxRecDepth 20000 in
theorem sc_92_0 {j : AJ} (hj : SJ j) : Sound kM_92 0 (mc_92_0 j) := by
  unfold mc_92_0
  exact so_aload_n (f := 0) (by decide +kernel) rfl (so_weak (so_callV (C := RX7) (T := TX7) (N0 := 8) (by decide +kernel) kcf_80 rfl rfl rfl kw_253 kw_254 kw_255 (by decide +kernel) (sb_80_0 hj) (so_aload_n (f := 0) (by decide +kernel) rfl (so_get (C := RX7) (T := TX7) (N := 8) (by decide +kernel) rfl kin_7 (by decide) kw_214 (b := true) rfl (fun _ => rfl) (so_iconst (i := 0) (by decide +kernel) (by decide +kernel) (by decide) (so_iload_n (f := 1) (by decide +kernel) rfl (so_weak (so_callV (C := RX5) (T := TX5) (N0 := 2) (by decide +kernel) kcf_30 rfl rfl rfl kw_223 kw_72 kw_73 (by decide +kernel) (sb_30_0 hj) (so_aload_n (f := 0) (by decide +kernel) rfl (so_get (C := RX7) (T := TX7) (N := 8) (by decide +kernel) rfl kin_7 (by decide) kw_214 (b := true) rfl (fun _ => rfl) (so_iconst (i := 1) (by decide +kernel) (by decide +kernel) (by decide) (so_iload_n (f := 2) (by decide +kernel) rfl (so_weak (so_callV (C := RX5) (T := TX5) (N0 := 2) (by decide +kernel) kcf_30 rfl rfl rfl kw_223 kw_72 kw_73 (by decide +kernel) (sb_30_0 hj) (so_aload_n (f := 0) (by decide +kernel) rfl (so_weak (so_callV (C := RX7) (T := TX7) (N0 := 8) (by decide +kernel) kcf_86 rfl rfl rfl kw_256 kw_257 kw_258 (by decide +kernel) (sb_86_0 hj) (so_reti (by decide +kernel) rfl)) (callvE_imp BK_I)))) (callvE_imp BK_N))))))) (callvE_imp BK_N))))))) (callvE_imp BK_N))
set_option maxRecDepth 20000 in
theorem sb_92_0 {j : AJ} (hj : SJ j) : Sound kM_92 0 (mb_92_0 j) := by
  refine so_weak (sc_92_0 hj) (fun L S h r q0 => ?_)
  obtain ⟨c0, L0_, rfl, q1⟩ := w_C_some q0
  obtain ⟨i1, L1_, rfl, q2⟩ := w_I_some q1
  obtain ⟨i2, L2_, rfl, q3⟩ := w_I_some q2
  obtain ⟨rfl, q4⟩ := w_0_some q3
  obtain ⟨rfl, q5⟩ := a_nil_some q4
  exact q5
set_option maxRecDepth 20000 in
theorem sc_93_10 {j : AJ} (hj : SJ j) : Sound kM_93 10 (mc_93_10 j) := by
  unfold mc_93_10
  exact so_reti (by decide +kernel) rfl
set_option maxRecDepth 20000 in
theorem sb_93_10 {j : AJ} (hj : SJ j) : Sound kM_93 10 (mb_93_10 j) := by
  refine so_weak (sc_93_10 hj) (fun L S h r q0 => ?_)
  obtain ⟨i0, L0_, rfl, q1⟩ := w_I_some q0
  obtain ⟨rfl, q2⟩ := w_0_some q1
  obtain ⟨s0, S0_, rfl, q3⟩ := a_popI_some q2
  obtain ⟨rfl, q4⟩ := a_nil_some q3
  exact q4
set_option maxRecDepth 20000 in
theorem sc_93_9 {j : AJ} (hj : SJ j) : Sound kM_93 9 (mc_93_9 j) := by
  unfold mc_93_9
  exact so_iload_n (f := 0) (by decide +kernel) rfl (sb_93_10 hj)
set_option maxRecDepth 20000 in
theorem sb_93_9 {j : AJ} (hj : SJ j) : Sound kM_93 9 (mb_93_9 j) := by
  refine so_weak (sc_93_9 hj) (fun L S h r q0 => ?_)
  obtain ⟨i0, L0_, rfl, q1⟩ := w_I_some q0
  obtain ⟨rfl, q2⟩ := w_0_some q1
  obtain ⟨rfl, q3⟩ := a_nil_some q2
  exact q3
set_option maxRecDepth 20000 in
theorem sc_93_0 {j : AJ} (hj : SJ j) : Sound kM_93 0 (mc_93_0 j) := by
  unfold mc_93_0
  exact so_iload_n (f := 0) (by decide +kernel) rfl (so_if (off := 8) (tgt := 9) (by decide +kernel) (by decide) rfl (sb_93_9 hj) (so_iload_n (f := 0) (by decide +kernel) rfl (so_ineg (by decide +kernel) (so_goto (off := 4) (tgt := 10) (by decide +kernel) (by decide) (sb_93_10 hj)))))
set_option maxRecDepth 20000 in
theorem sb_93_0 {j : AJ} (hj : SJ j) : Sound kM_93 0 (mb_93_0 j) := by
  refine so_weak (sc_93_0 hj) (fun L S h r q0 => ?_)
  obtain ⟨i0, L0_, rfl, q1⟩ := w_I_some q0
  obtain ⟨rfl, q2⟩ := w_0_some q1
  obtain ⟨rfl, q3⟩ := a_nil_some q2
  exact q3
set_option maxRecDepth 20000 in
theorem sc_94_91 {j : AJ} (hj : SJ j) : Sound kM_94 91 (mc_94_91 j) := by
  unfold mc_94_91
  exact so_iload (by decide +kernel) (so_reti (by decide +kernel) rfl)
set_option maxRecDepth 20000 in
theorem sb_94_91 {j : AJ} (hj : SJ j) : Sound kM_94 91 (mb_94_91 j) := by
  refine so_weak (sc_94_91 hj) (fun L S h r q0 => ?_)
  obtain ⟨c0, L0_, rfl, q1⟩ := w_C_some q0
  obtain ⟨i1, L1_, rfl, q2⟩ := w_I_some q1
  obtain ⟨i2, L2_, rfl, q3⟩ := w_I_some q2
  obtain ⟨i3, L3_, rfl, q4⟩ := w_I_some q3
  obtain ⟨i4, L4_, rfl, q5⟩ := w_I_some q4
  obtain ⟨i5, L5_, rfl, q6⟩ := w_I_some q5
  obtain ⟨i6, L6_, rfl, q7⟩ := w_I_some q6
  obtain ⟨i7, L7_, rfl, q8⟩ := w_I_some q7
  obtain ⟨i8, L8_, rfl, q9⟩ := w_I_some q8
  obtain ⟨i9, L9_, rfl, q10⟩ := w_I_some q9
  obtain ⟨x10, L10_, rfl, q11⟩ := w_X_some q10
  obtain ⟨x11, L11_, rfl, q12⟩ := w_X_some q11
  obtain ⟨rfl, q13⟩ := w_0_some q12
  obtain ⟨rfl, q14⟩ := a_nil_some q13
  exact q14
set_option maxRecDepth 20000 in
theorem sc_94_82 {j : AJ} (hj : SJ j) : Sound kM_94 82 (mc_94_82 j) := by
  unfold mc_94_82
  exact so_iload (by decide +kernel) (so_iconst (i := 2) (by decide +kernel) (by decide +kernel) (by decide) (so_idiv (by decide +kernel) (so_istore (by decide +kernel) (by decide +kernel) (so_goto (off := -65) (tgt := 23) (by decide +kernel) (by decide) (hj 46 _ _ rfl)))))
set_option maxRecDepth 20000 in
theorem sb_94_82 {j : AJ} (hj : SJ j) : Sound kM_94 82 (mb_94_82 j) := by
  refine so_weak (sc_94_82 hj) (fun L S h r q0 => ?_)
  obtain ⟨c0, L0_, rfl, q1⟩ := w_C_some q0
  obtain ⟨i1, L1_, rfl, q2⟩ := w_I_some q1
  obtain ⟨i2, L2_, rfl, q3⟩ := w_I_some q2
  obtain ⟨i3, L3_, rfl, q4⟩ := w_I_some q3
  obtain ⟨i4, L4_, rfl, q5⟩ := w_I_some q4
  obtain ⟨i5, L5_, rfl, q6⟩ := w_I_some q5
  obtain ⟨i6, L6_, rfl, q7⟩ := w_I_some q6
  obtain ⟨i7, L7_, rfl, q8⟩ := w_I_some q7
  obtain ⟨i8, L8_, rfl, q9⟩ := w_I_some q8
  obtain ⟨i9, L9_, rfl, q10⟩ := w_I_some q9
  obtain ⟨i10, L10_, rfl, q11⟩ := w_I_some q10
  obtain ⟨i11, L11_, rfl, q12⟩ := w_I_some q11
  obtain ⟨rfl, q13⟩ := w_0_some q12
  obtain ⟨rfl, q14⟩ := a_nil_some q13
  exact q14
set_option maxRecDepth 20000 in
theorem sc_94_74 {j : AJ} (hj : SJ j) : Sound kM_94 74 (mc_94_74 j) := by
  unfold mc_94_74
  exact so_iload (by decide +kernel) (so_istore (by decide +kernel) (by decide +kernel) (so_iload (by decide +kernel) (so_istore (by decide +kernel) (by decide +kernel) (sb_94_82 hj))))
set_option maxRecDepth 20000 in
theorem sb_94_74 {j : AJ} (hj : SJ j) : Sound kM_94 74 (mb_94_74 j) := by
  refine so_weak (sc_94_74 hj) (fun L S h r q0 => ?_)
  obtain ⟨c0, L0_, rfl, q1⟩ := w_C_some q0
  obtain ⟨i1, L1_, rfl, q2⟩ := w_I_some q1
  obtain ⟨i2, L2_, rfl, q3⟩ := w_I_some q2
  obtain ⟨i3, L3_, rfl, q4⟩ := w_I_some q3
  obtain ⟨i4, L4_, rfl, q5⟩ := w_I_some q4
  obtain ⟨i5, L5_, rfl, q6⟩ := w_I_some q5
  obtain ⟨i6, L6_, rfl, q7⟩ := w_I_some q6
  obtain ⟨i7, L7_, rfl, q8⟩ := w_I_some q7
  obtain ⟨i8, L8_, rfl, q9⟩ := w_I_some q8
  obtain ⟨i9, L9_, rfl, q10⟩ := w_I_some q9
  obtain ⟨i10, L10_, rfl, q11⟩ := w_I_some q10
  obtain ⟨i11, L11_, rfl, q12⟩ := w_I_some q11
  obtain ⟨rfl, q13⟩ := w_0_some q12
  obtain ⟨rfl, q14⟩ := a_nil_some q13
  exact q14
set_option maxRecDepth 20000 in
theorem sc_94_57 {j : AJ} (hj : SJ j) : Sound kM_94 57 (mc_94_57 j) := by
  unfold mc_94_57
  exact so_iload_n (f := 3) (by decide +kernel) rfl (so_iload (by decide +kernel) (so_icmp (off := 14) (tgt := 74) (by decide +kernel) (by decide) rfl (sb_94_74 hj) (so_iload (by decide +kernel) (so_istore (by decide +kernel) (by decide +kernel) (so_iload (by decide +kernel) (so_istore (by decide +kernel) (by decide +kernel) (so_goto (off := 11) (tgt := 82) (by decide +kernel) (by decide) (sb_94_82 hj))))))))
set_option maxRecDepth 20000 in
theorem sb_94_57 {j : AJ} (hj : SJ j) : Sound kM_94 57 (mb_94_57 j) := by
  refine so_weak (sc_94_57 hj) (fun L S h r q0 => ?_)
  obtain ⟨c0, L0_, rfl, q1⟩ := w_C_some q0
  obtain ⟨i1, L1_, rfl, q2⟩ := w_I_some q1
  obtain ⟨i2, L2_, rfl, q3⟩ := w_I_some q2
  obtain ⟨i3, L3_, rfl, q4⟩ := w_I_some q3
  obtain ⟨i4, L4_, rfl, q5⟩ := w_I_some q4
  obtain ⟨i5, L5_, rfl, q6⟩ := w_I_some q5
  obtain ⟨i6, L6_, rfl, q7⟩ := w_I_some q6
  obtain ⟨i7, L7_, rfl, q8⟩ := w_I_some q7
  obtain ⟨i8, L8_, rfl, q9⟩ := w_I_some q8
  obtain ⟨i9, L9_, rfl, q10⟩ := w_I_some q9
  obtain ⟨i10, L10_, rfl, q11⟩ := w_I_some q10
  obtain ⟨i11, L11_, rfl, q12⟩ := w_I_some q11
  obtain ⟨rfl, q13⟩ := w_0_some q12
  obtain ⟨rfl, q14⟩ := a_nil_some q13
  exact q14
set_option maxRecDepth 20000 in
theorem sc_94_23 {j : AJ} (hj : SJ j) : Sound kM_94 23 (mc_94_23 j) := by
  unfold mc_94_23
  exact so_iload (by decide +kernel) (so_iconst (i := 1) (by decide +kernel) (by decide +kernel) (by decide) (so_icmp (off := 65) (tgt := 91) (by decide +kernel) (by decide) rfl (sb_94_91 hj) (so_iload (by decide +kernel) (so_iload (by decide +kernel) (so_iadd (by decide +kernel) (so_iconst (i := 2) (by decide +kernel) (by decide +kernel) (by decide) (so_idiv (by decide +kernel) (so_istore (by decide +kernel) (by decide +kernel) (so_aload_n (f := 0) (by decide +kernel) rfl (so_iload (by decide +kernel) (so_iload (by decide +kernel) (so_weak (so_callV (C := RX7) (T := TX7) (N0 := 8) (by decide +kernel) kcf_92 rfl rfl rfl kw_274 kw_275 kw_276 (by decide +kernel) (sb_92_0 hj) (so_istore (by decide +kernel) (by decide +kernel) (so_iload_n (f := 3) (by decide +kernel) rfl (so_iload (by decide +kernel) (so_icmp (off := 6) (tgt := 57) (by decide +kernel) (by decide) rfl (sb_94_57 hj) (so_iload (by decide +kernel) (so_reti (by decide +kernel) rfl))))))) (callvE_imp BK_I)))))))))))))
set_option maxRecDepth 20000 in
theorem sb_94_23 {j : AJ} (hj : SJ j) : Sound kM_94 23 (mb_94_23 j) := by
  refine so_weak (sc_94_23 hj) (fun L S h r q0 => ?_)
  obtain ⟨c0, L0_, rfl, q1⟩ := w_C_some q0
  obtain ⟨i1, L1_, rfl, q2⟩ := w_I_some q1
  obtain ⟨i2, L2_, rfl, q3⟩ := w_I_some q2
  obtain ⟨i3, L3_, rfl, q4⟩ := w_I_some q3
  obtain ⟨i4, L4_, rfl, q5⟩ := w_I_some q4
  obtain ⟨i5, L5_, rfl, q6⟩ := w_I_some q5
  obtain ⟨i6, L6_, rfl, q7⟩ := w_I_some q6
  obtain ⟨i7, L7_, rfl, q8⟩ := w_I_some q7
  obtain ⟨i8, L8_, rfl, q9⟩ := w_I_some q8
  obtain ⟨i9, L9_, rfl, q10⟩ := w_I_some q9
  obtain ⟨x10, L10_, rfl, q11⟩ := w_X_some q10
  obtain ⟨x11, L11_, rfl, q12⟩ := w_X_some q11
  obtain ⟨rfl, q13⟩ := w_0_some q12
  obtain ⟨rfl, q14⟩ := a_nil_some q13
  exact q14
set_option maxRecDepth 20000 in
theorem sc_94_6 {j : AJ} (hj : SJ j) : Sound kM_94 6 (mc_94_6 j) := by
  unfold mc_94_6
  exact so_iconst (i := 0) (by decide +kernel) (by decide +kernel) (by decide) (so_istore (by decide +kernel) (by decide +kernel) (so_iload (by decide +kernel) (so_istore (by decide +kernel) (by decide +kernel) (so_iload_n (f := 1) (by decide +kernel) rfl (so_istore (by decide +kernel) (by decide +kernel) (so_iload_n (f := 2) (by decide +kernel) rfl (so_istore (by decide +kernel) (by decide +kernel) (so_iload (by decide +kernel) (so_istore (by decide +kernel) (by decide +kernel) (sb_94_23 hj))))))))))
set_option maxRecDepth 20000 in
theorem sb_94_6 {j : AJ} (hj : SJ j) : Sound kM_94 6 (mb_94_6 j) := by
  refine so_weak (sc_94_6 hj) (fun L S h r q0 => ?_)
  obtain ⟨c0, L0_, rfl, q1⟩ := w_C_some q0
  obtain ⟨i1, L1_, rfl, q2⟩ := w_I_some q1
  obtain ⟨i2, L2_, rfl, q3⟩ := w_I_some q2
  obtain ⟨i3, L3_, rfl, q4⟩ := w_I_some q3
  obtain ⟨i4, L4_, rfl, q5⟩ := w_I_some q4
  obtain ⟨L5_, rfl, q6⟩ := w_N_some q5
  obtain ⟨L6_, rfl, q7⟩ := w_N_some q6
  obtain ⟨L7_, rfl, q8⟩ := w_N_some q7
  obtain ⟨L8_, rfl, q9⟩ := w_N_some q8
  obtain ⟨L9_, rfl, q10⟩ := w_N_some q9
  obtain ⟨L10_, rfl, q11⟩ := w_N_some q10
  obtain ⟨L11_, rfl, q12⟩ := w_N_some q11
  obtain ⟨rfl, q13⟩ := w_0_some q12
  obtain ⟨rfl, q14⟩ := a_nil_some q13
  exact q14
set_option maxRecDepth 20000 in
theorem sc_94_0 {j : AJ} (hj : SJ j) : Sound kM_94 0 (mc_94_0 j) := by
  unfold mc_94_0
  exact so_iload_n (f := 3) (by decide +kernel) rfl (so_if (off := 5) (tgt := 6) (by decide +kernel) (by decide) rfl (sb_94_6 hj) (so_iload_n (f := 1) (by decide +kernel) rfl (so_reti (by decide +kernel) rfl)))
set_option maxRecDepth 20000 in
theorem sb_94_0 {j : AJ} (hj : SJ j) : Sound kM_94 0 (mb_94_0 j) := by
  refine so_weak (sc_94_0 hj) (fun L S h r q0 => ?_)
  obtain ⟨c0, L0_, rfl, q1⟩ := w_C_some q0
  obtain ⟨i1, L1_, rfl, q2⟩ := w_I_some q1
  obtain ⟨i2, L2_, rfl, q3⟩ := w_I_some q2
  obtain ⟨i3, L3_, rfl, q4⟩ := w_I_some q3
  obtain ⟨i4, L4_, rfl, q5⟩ := w_I_some q4
  obtain ⟨L5_, rfl, q6⟩ := w_N_some q5
  obtain ⟨L6_, rfl, q7⟩ := w_N_some q6
  obtain ⟨L7_, rfl, q8⟩ := w_N_some q7
  obtain ⟨L8_, rfl, q9⟩ := w_N_some q8
  obtain ⟨L9_, rfl, q10⟩ := w_N_some q9
  obtain ⟨L10_, rfl, q11⟩ := w_N_some q10
  obtain ⟨L11_, rfl, q12⟩ := w_N_some q11
  obtain ⟨rfl, q13⟩ := w_0_some q12
  obtain ⟨rfl, q14⟩ := a_nil_some q13
  exact q14
set_option maxRecDepth 20000 in
theorem sc_95_111 {j : AJ} (hj : SJ j) : Sound kM_95 111 (mc_95_111 j) := by
  unfold mc_95_111
  exact so_aload_n (f := 0) (by decide +kernel) rfl (so_get (C := RX7) (T := TX7) (N := 8) (by decide +kernel) rfl kin_7 (by decide) kw_215 (b := true) rfl (fun _ => rfl) (so_iload (by decide +kernel) (so_iload (by decide +kernel) (so_weak (so_callS (by decide +kernel) kcf_93 rfl kw_277 kw_278 (by decide +kernel) (sb_93_0 hj) (so_weak (so_callS (by decide +kernel) kcf_15 rfl kw_279 kw_25 (by decide +kernel) (sb_15_0 hj) (so_iald (by decide +kernel) (so_istore (by decide +kernel) (by decide +kernel) (so_aload_n (f := 0) (by decide +kernel) rfl (so_get (C := RX7) (T := TX7) (N := 8) (by decide +kernel) rfl kin_7 (by decide) kw_215 (b := true) rfl (fun _ => rfl) (so_iload (by decide +kernel) (so_iload (by decide +kernel) (so_iconst (i := 1) (by decide +kernel) (by decide +kernel) (by decide) (so_iadd (by decide +kernel) (so_weak (so_callS (by decide +kernel) kcf_93 rfl kw_277 kw_278 (by decide +kernel) (sb_93_0 hj) (so_weak (so_callS (by decide +kernel) kcf_15 rfl kw_279 kw_25 (by decide +kernel) (sb_15_0 hj) (so_iald (by decide +kernel) (so_istore (by decide +kernel) (by decide +kernel) (so_aload_n (f := 0) (by decide +kernel) rfl (so_iload (by decide +kernel) (so_iload (by decide +kernel) (so_iload_n (f := 1) (by decide +kernel) rfl (so_iload (by decide +kernel) (so_iload_n (f := 3) (by decide +kernel) rfl (so_imul (by decide +kernel) (so_isub (by decide +kernel) (so_iload_n (f := 3) (by decide +kernel) rfl (so_weak (so_callV (C := RX7) (T := TX7) (N0 := 8) (by decide +kernel) kcf_94 rfl rfl rfl kw_280 kw_281 kw_282 (by decide +kernel) (sb_94_0 hj) (so_reti (by decide +kernel) rfl)) (callvE_imp BK_I)))))))))))))) (callE_imp BK_I))) (callE_imp BK_I))))))))))) (callE_imp BK_I))) (callE_imp BK_I)))))
set_option maxRecDepth 20000 in
theorem sb_95_111 {j : AJ} (hj : SJ j) : Sound kM_95 111 (mb_95_111 j) := by
  refine so_weak (sc_95_111 hj) (fun L S h r q0 => ?_)
  obtain ⟨c0, L0_, rfl, q1⟩ := w_C_some q0
  obtain ⟨i1, L1_, rfl, q2⟩ := w_I_some q1
  obtain ⟨i2, L2_, rfl, q3⟩ := w_I_some q2
  obtain ⟨i3, L3_, rfl, q4⟩ := w_I_some q3
  obtain ⟨i4, L4_, rfl, q5⟩ := w_I_some q4
  obtain ⟨i5, L5_, rfl, q6⟩ := w_I_some q5
  obtain ⟨i6, L6_, rfl, q7⟩ := w_I_some q6
  obtain ⟨i7, L7_, rfl, q8⟩ := w_I_some q7
  obtain ⟨L8_, rfl, q9⟩ := w_N_some q8
  obtain ⟨rfl, q10⟩ := w_0_some q9
  obtain ⟨rfl, q11⟩ := a_nil_some q10
  exact q11
set_option maxRecDepth 20000 in
theorem sc_95_65 {j : AJ} (hj : SJ j) : Sound kM_95 65 (mc_95_65 j) := by
  unfold mc_95_65
  exact so_iload (by decide +kernel) (so_iload (by decide +kernel) (so_icmp (off := 42) (tgt := 111) (by decide +kernel) (by decide) rfl (sb_95_111 hj) (so_aload_n (f := 0) (by decide +kernel) rfl (so_weak (so_callV (C := RX7) (T := TX7) (N0 := 8) (by decide +kernel) kcf_80 rfl rfl rfl kw_253 kw_254 kw_255 (by decide +kernel) (sb_80_0 hj) (so_aload_n (f := 0) (by decide +kernel) rfl (so_get (C := RX7) (T := TX7) (N := 8) (by decide +kernel) rfl kin_7 (by decide) kw_214 (b := true) rfl (fun _ => rfl) (so_iload (by decide +kernel) (so_aload_n (f := 0) (by decide +kernel) rfl (so_get (C := RX7) (T := TX7) (N := 8) (by decide +kernel) rfl kin_7 (by decide) kw_215 (b := true) rfl (fun _ => rfl) (so_iload (by decide +kernel) (so_iconst (i := 1) (by decide +kernel) (by decide +kernel) (by decide) (so_isub (by decide +kernel) (so_iald (by decide +kernel) (so_weak (so_callV (C := RX5) (T := TX5) (N0 := 2) (by decide +kernel) kcf_30 rfl rfl rfl kw_223 kw_72 kw_73 (by decide +kernel) (sb_30_0 hj) (so_aload_n (f := 0) (by decide +kernel) rfl (so_get (C := RX7) (T := TX7) (N := 8) (by decide +kernel) rfl kin_7 (by decide) kw_215 (b := true) rfl (fun _ => rfl) (so_iload (by decide +kernel) (so_aload_n (f := 0) (by decide +kernel) rfl (so_weak (so_callV (C := RX7) (T := TX7) (N0 := 8) (by decide +kernel) kcf_86 rfl rfl rfl kw_256 kw_257 kw_258 (by decide +kernel) (sb_86_0 hj) (so_iast (by decide +kernel) (so_iinc (z := 1) (by decide +kernel) (by decide +kernel) (by decide) (by decide +kernel) (so_goto (off := -43) (tgt := 65) (by decide +kernel) (by decide) (hj 47 _ _ rfl))))) (callvE_imp BK_I))))))) (callvE_imp BK_N)))))))))))) (callvE_imp BK_N)))))
set_option maxRecDepth 20000 in
theorem sb_95_65 {j : AJ} (hj : SJ j) : Sound kM_95 65 (mb_95_65 j) := by
  refine so_weak (sc_95_65 hj) (fun L S h r q0 => ?_)
  obtain ⟨c0, L0_, rfl, q1⟩ := w_C_some q0
  obtain ⟨i1, L1_, rfl, q2⟩ := w_I_some q1
  obtain ⟨i2, L2_, rfl, q3⟩ := w_I_some q2
  obtain ⟨i3, L3_, rfl, q4⟩ := w_I_some q3
  obtain ⟨i4, L4_, rfl, q5⟩ := w_I_some q4
  obtain ⟨i5, L5_, rfl, q6⟩ := w_I_some q5
  obtain ⟨i6, L6_, rfl, q7⟩ := w_I_some q6
  obtain ⟨i7, L7_, rfl, q8⟩ := w_I_some q7
  obtain ⟨L8_, rfl, q9⟩ := w_N_some q8
  obtain ⟨rfl, q10⟩ := w_0_some q9
  obtain ⟨rfl, q11⟩ := a_nil_some q10
  exact q11
set_option maxRecDepth 20000 in
theorem sc_95_28 {j : AJ} (hj : SJ j) : Sound kM_95 28 (mc_95_28 j) := by
  unfold mc_95_28
  exact so_istore (by decide +kernel) (by decide +kernel) (so_bipush (i := 10) (by decide +kernel) (by decide +kernel) (by decide) (so_iload (by decide +kernel) (so_weak (so_callS (by decide +kernel) kcf_93 rfl kw_277 kw_278 (by decide +kernel) (sb_93_0 hj) (so_iload (by decide +kernel) (so_iconst (i := 1) (by decide +kernel) (by decide +kernel) (by decide) (so_iadd (by decide +kernel) (so_weak (so_callS (by decide +kernel) kcf_93 rfl kw_277 kw_278 (by decide +kernel) (sb_93_0 hj) (so_weak (so_callS (by decide +kernel) kcf_16 rfl kw_222 kw_27 (by decide +kernel) (sb_16_0 hj) (so_weak (so_callS (by decide +kernel) kcf_15 rfl kw_279 kw_25 (by decide +kernel) (sb_15_0 hj) (so_istore (by decide +kernel) (by decide +kernel) (so_aload_n (f := 0) (by decide +kernel) rfl (so_get (C := RX7) (T := TX7) (N := 8) (by decide +kernel) rfl kin_7 (by decide) kw_215 (b := true) rfl (fun _ => rfl) (so_iconst (i := 0) (by decide +kernel) (by decide +kernel) (by decide) (so_aload_n (f := 0) (by decide +kernel) rfl (so_weak (so_callV (C := RX7) (T := TX7) (N0 := 8) (by decide +kernel) kcf_87 rfl rfl rfl kw_270 kw_271 kw_272 (by decide +kernel) (sb_87_0 hj) (so_iast (by decide +kernel) (so_iconst (i := 1) (by decide +kernel) (by decide +kernel) (by decide) (so_istore (by decide +kernel) (by decide +kernel) (sb_95_65 hj))))) (callvE_imp BK_I)))))))) (callE_imp BK_I))) (callE_imp BK_I))) (callE_imp BK_I)))))) (callE_imp BK_I))))
set_option maxRecDepth 20000 in
theorem sb_95_28 {j : AJ} (hj : SJ j) : Sound kM_95 28 (mb_95_28 j) := by
  refine so_weak (sc_95_28 hj) (fun L S h r q0 => ?_)
  obtain ⟨c0, L0_, rfl, q1⟩ := w_C_some q0
  obtain ⟨i1, L1_, rfl, q2⟩ := w_I_some q1
  obtain ⟨i2, L2_, rfl, q3⟩ := w_I_some q2
  obtain ⟨i3, L3_, rfl, q4⟩ := w_I_some q3
  obtain ⟨i4, L4_, rfl, q5⟩ := w_I_some q4
  obtain ⟨L5_, rfl, q6⟩ := w_N_some q5
  obtain ⟨L6_, rfl, q7⟩ := w_N_some q6
  obtain ⟨L7_, rfl, q8⟩ := w_N_some q7
  obtain ⟨L8_, rfl, q9⟩ := w_N_some q8
  obtain ⟨rfl, q10⟩ := w_0_some q9
  obtain ⟨s0, S0_, rfl, q11⟩ := a_popI_some q10
  obtain ⟨rfl, q12⟩ := a_nil_some q11
  exact q12
set_option maxRecDepth 20000 in
theorem sc_95_27 {j : AJ} (hj : SJ j) : Sound kM_95 27 (mc_95_27 j) := by
  unfold mc_95_27
  exact so_iconst (i := 0) (by decide +kernel) (by decide +kernel) (by decide) (sb_95_28 hj)
set_option maxRecDepth 20000 in
theorem sb_95_27 {j : AJ} (hj : SJ j) : Sound kM_95 27 (mb_95_27 j) := by
  refine so_weak (sc_95_27 hj) (fun L S h r q0 => ?_)
  obtain ⟨c0, L0_, rfl, q1⟩ := w_C_some q0
  obtain ⟨i1, L1_, rfl, q2⟩ := w_I_some q1
  obtain ⟨i2, L2_, rfl, q3⟩ := w_I_some q2
  obtain ⟨i3, L3_, rfl, q4⟩ := w_I_some q3
  obtain ⟨i4, L4_, rfl, q5⟩ := w_I_some q4
  obtain ⟨L5_, rfl, q6⟩ := w_N_some q5
  obtain ⟨L6_, rfl, q7⟩ := w_N_some q6
  obtain ⟨L7_, rfl, q8⟩ := w_N_some q7
  obtain ⟨L8_, rfl, q9⟩ := w_N_some q8
  obtain ⟨rfl, q10⟩ := w_0_some q9
  obtain ⟨rfl, q11⟩ := a_nil_some q10
  exact q11
set_option maxRecDepth 20000 in
theorem sc_95_0 {j : AJ} (hj : SJ j) : Sound kM_95 0 (mc_95_0 j) := by
  unfold mc_95_0
  exact so_iconst (i := 1) (by decide +kernel) (by decide +kernel) (by decide) (so_iconst (i := 0) (by decide +kernel) (by decide +kernel) (by decide) (so_iload_n (f := 2) (by decide +kernel) rfl (so_iconst (i := 3) (by decide +kernel) (by decide +kernel) (by decide) (so_weak (so_callS (by decide +kernel) kcf_15 rfl kw_279 kw_25 (by decide +kernel) (sb_15_0 hj) (so_weak (so_callS (by decide +kernel) kcf_16 rfl kw_222 kw_27 (by decide +kernel) (sb_16_0 hj) (so_ishl (by decide +kernel) (so_istore_n (f := 3) (by decide +kernel) rfl (by decide +kernel) (so_iload_n (f := 1) (by decide +kernel) rfl (so_iload_n (f := 3) (by decide +kernel) rfl (so_weak (so_callS (by decide +kernel) kcf_76 rfl kw_283 kw_206 (by decide +kernel) (sb_76_0 hj) (so_istore (by decide +kernel) (by decide +kernel) (so_iload_n (f := 1) (by decide +kernel) rfl (so_if (off := 7) (tgt := 27) (by decide +kernel) (by decide) rfl (sb_95_27 hj) (so_iconst (i := 1) (by decide +kernel) (by decide +kernel) (by decide) (so_goto (off := 4) (tgt := 28) (by decide +kernel) (by decide) (sb_95_28 hj))))))) (callE_imp BK_I))))))) (callE_imp BK_I))) (callE_imp BK_I)))))
set_option maxRecDepth 20000 in
theorem sb_95_0 {j : AJ} (hj : SJ j) : Sound kM_95 0 (mb_95_0 j) := by
  refine so_weak (sc_95_0 hj) (fun L S h r q0 => ?_)
  obtain ⟨c0, L0_, rfl, q1⟩ := w_C_some q0
  obtain ⟨i1, L1_, rfl, q2⟩ := w_I_some q1
  obtain ⟨i2, L2_, rfl, q3⟩ := w_I_some q2
  obtain ⟨L3_, rfl, q4⟩ := w_N_some q3
  obtain ⟨L4_, rfl, q5⟩ := w_N_some q4
  obtain ⟨L5_, rfl, q6⟩ := w_N_some q5
  obtain ⟨L6_, rfl, q7⟩ := w_N_some q6
  obtain ⟨L7_, rfl, q8⟩ := w_N_some q7
  obtain ⟨L8_, rfl, q9⟩ := w_N_some q8
  obtain ⟨rfl, q10⟩ := w_0_some q9
  obtain ⟨rfl, q11⟩ := a_nil_some q10
  exact q11
