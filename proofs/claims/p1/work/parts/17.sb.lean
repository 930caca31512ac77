/-! ===== the blocks are sound ===== -/
set_option maxRecDepth 20000 in
theorem sc_27_49 {j : AJ} (hj : SJ j) : Sound kM_27 49 (mc_27_49 j) := by
  unfold mc_27_49
  exact so_retv (by decide +kernel) rfl
set_option maxRecDepth 20000 in
theorem sb_27_49 {j : AJ} (hj : SJ j) : Sound kM_27 49 (mb_27_49 j) := by
  refine so_weak (sc_27_49 hj) (fun L S h r q0 => ?_)
  obtain ⟨c0, L0_, rfl, q1⟩ := w_C_some q0
  obtain ⟨c1, L1_, rfl, q2⟩ := w_C_some q1
  obtain ⟨i2, L2_, rfl, q3⟩ := w_I_some q2
  obtain ⟨i3, L3_, rfl, q4⟩ := w_I_some q3
  obtain ⟨rfl, q5⟩ := w_0_some q4
  obtain ⟨rfl, q6⟩ := a_nil_some q5
  exact q6
set_option maxRecDepth 20000 in
theorem sc_27_43 {j : AJ} (hj : SJ j) : Sound kM_27 43 (mc_27_43 j) := by
  unfold mc_27_43
  exact so_iinc (z := 1) (by decide +kernel) (by decide +kernel) (by decide) (by decide +kernel) (so_goto (off := -44) (tgt := 2) (by decide +kernel) (by decide) (hj 9 _ _ rfl))
set_option maxRecDepth 20000 in
theorem sb_27_43 {j : AJ} (hj : SJ j) : Sound kM_27 43 (mb_27_43 j) := by
  refine so_weak (sc_27_43 hj) (fun L S h r q0 => ?_)
  obtain ⟨c0, L0_, rfl, q1⟩ := w_C_some q0
  obtain ⟨c1, L1_, rfl, q2⟩ := w_C_some q1
  obtain ⟨i2, L2_, rfl, q3⟩ := w_I_some q2
  obtain ⟨i3, L3_, rfl, q4⟩ := w_I_some q3
  obtain ⟨rfl, q5⟩ := w_0_some q4
  obtain ⟨rfl, q6⟩ := a_nil_some q5
  exact q6
set_option maxRecDepth 20000 in
theorem sc_27_2 {j : AJ} (hj : SJ j) : Sound kM_27 2 (mc_27_2 j) := by
  unfold mc_27_2
  exact so_iload_n (f := 3) (by decide +kernel) rfl (so_iload_n (f := 2) (by decide +kernel) rfl (so_icmp (off := 45) (tgt := 49) (by decide +kernel) (by decide) rfl (sb_27_49 hj) (so_aload_n (f := 0) (by decide +kernel) rfl (so_get (C := RX2) (T := TX2) (N := 4) (by decide +kernel) rfl kin_2 (by decide) kw_43 (b := true) rfl (fun _ => rfl) (so_iload_n (f := 3) (by decide +kernel) rfl (so_zald (by decide +kernel) (so_if (off := 30) (tgt := 43) (by decide +kernel) (by decide) rfl (sb_27_43 hj) (so_aload_n (f := 0) (by decide +kernel) rfl (so_get (C := RX2) (T := TX2) (N := 4) (by decide +kernel) rfl kin_2 (by decide) kw_44 (b := true) rfl (fun _ => rfl) (so_iload_n (f := 3) (by decide +kernel) rfl (so_aload_n (f := 0) (by decide +kernel) rfl (so_aload_n (f := 1) (by decide +kernel) rfl (so_getN (C := RX7) (T := TX7) (N := 8) (by decide +kernel) rfl kin_7 (by decide) kw_60 (b := true) rfl (fun _ => rfl) (so_iload_n (f := 3) (by decide +kernel) rfl (so_weak (so_callV (C := RX2) (T := TX2) (N0 := 4) (by decide +kernel) kcf_26 rfl rfl rfl kw_65 kw_66 kw_67 (by decide +kernel) (sb_26_0 hj) (so_aload_n (f := 0) (by decide +kernel) rfl (so_aload_n (f := 1) (by decide +kernel) rfl (so_getN (C := RX7) (T := TX7) (N := 8) (by decide +kernel) rfl kin_7 (by decide) kw_64 (b := true) rfl (fun _ => rfl) (so_iload_n (f := 3) (by decide +kernel) rfl (so_weak (so_callV (C := RX2) (T := TX2) (N0 := 4) (by decide +kernel) kcf_26 rfl rfl rfl kw_65 kw_66 kw_67 (by decide +kernel) (sb_26_0 hj) (so_weak (so_callS (by decide +kernel) kcf_16 rfl kw_59 kw_27 (by decide +kernel) (sb_16_0 hj) (so_iast (by decide +kernel) (sb_27_43 hj))) (callE_imp BK_I))) (callvE_imp BK_I))))))) (callvE_imp BK_I))))))))))))))))
set_option maxRecDepth 20000 in
theorem sb_27_2 {j : AJ} (hj : SJ j) : Sound kM_27 2 (mb_27_2 j) := by
  refine so_weak (sc_27_2 hj) (fun L S h r q0 => ?_)
  obtain ⟨c0, L0_, rfl, q1⟩ := w_C_some q0
  obtain ⟨c1, L1_, rfl, q2⟩ := w_C_some q1
  obtain ⟨i2, L2_, rfl, q3⟩ := w_I_some q2
  obtain ⟨i3, L3_, rfl, q4⟩ := w_I_some q3
  obtain ⟨rfl, q5⟩ := w_0_some q4
  obtain ⟨rfl, q6⟩ := a_nil_some q5
  exact q6
set_option maxRecDepth 20000 in
theorem sc_27_0 {j : AJ} (hj : SJ j) : Sound kM_27 0 (mc_27_0 j) := by
  unfold mc_27_0
  exact so_iconst (i := 0) (by decide +kernel) (by decide +kernel) (by decide) (so_istore_n (f := 3) (by decide +kernel) rfl (by decide +kernel) (sb_27_2 hj))
set_option maxRecDepth 20000 in
theorem sb_27_0 {j : AJ} (hj : SJ j) : Sound kM_27 0 (mb_27_0 j) := by
  refine so_weak (sc_27_0 hj) (fun L S h r q0 => ?_)
  obtain ⟨c0, L0_, rfl, q1⟩ := w_C_some q0
  obtain ⟨c1, L1_, rfl, q2⟩ := w_C_some q1
  obtain ⟨i2, L2_, rfl, q3⟩ := w_I_some q2
  obtain ⟨L3_, rfl, q4⟩ := w_N_some q3
  obtain ⟨rfl, q5⟩ := w_0_some q4
  obtain ⟨rfl, q6⟩ := a_nil_some q5
  exact q6
set_option maxRecDepth 20000 in
theorem sc_28_17 {j : AJ} (hj : SJ j) : Sound kM_28 17 (mc_28_17 j) := by
  unfold mc_28_17
  exact so_retz (by decide +kernel) rfl
set_option maxRecDepth 20000 in
theorem sb_28_17 {j : AJ} (hj : SJ j) : Sound kM_28 17 (mb_28_17 j) := by
  refine so_weak (sc_28_17 hj) (fun L S h r q0 => ?_)
  obtain ⟨c0, L0_, rfl, q1⟩ := w_C_some q0
  obtain ⟨i1, L1_, rfl, q2⟩ := w_I_some q1
  obtain ⟨rfl, q3⟩ := w_0_some q2
  obtain ⟨s0, S0_, rfl, q4⟩ := a_popI_some q3
  obtain ⟨rfl, q5⟩ := a_nil_some q4
  exact q5
set_option maxRecDepth 20000 in
theorem sc_28_16 {j : AJ} (hj : SJ j) : Sound kM_28 16 (mc_28_16 j) := by
  unfold mc_28_16
  exact so_iconst (i := 0) (by decide +kernel) (by decide +kernel) (by decide) (sb_28_17 hj)
set_option maxRecDepth 20000 in
theorem sb_28_16 {j : AJ} (hj : SJ j) : Sound kM_28 16 (mb_28_16 j) := by
  refine so_weak (sc_28_16 hj) (fun L S h r q0 => ?_)
  obtain ⟨c0, L0_, rfl, q1⟩ := w_C_some q0
  obtain ⟨i1, L1_, rfl, q2⟩ := w_I_some q1
  obtain ⟨rfl, q3⟩ := w_0_some q2
  obtain ⟨rfl, q4⟩ := a_nil_some q3
  exact q4
set_option maxRecDepth 20000 in
theorem sc_28_0 {j : AJ} (hj : SJ j) : Sound kM_28 0 (mc_28_0 j) := by
  unfold mc_28_0
  exact so_iload_n (f := 1) (by decide +kernel) rfl (so_if (off := 15) (tgt := 16) (by decide +kernel) (by decide) rfl (sb_28_16 hj) (so_iload_n (f := 1) (by decide +kernel) rfl (so_aload_n (f := 0) (by decide +kernel) rfl (so_get (C := RX5) (T := TX5) (N := 2) (by decide +kernel) rfl kin_5 (by decide) kw_28 (b := false) rfl (fun _ => rfl) (so_icmp (off := 7) (tgt := 16) (by decide +kernel) (by decide) rfl (sb_28_16 hj) (so_iconst (i := 1) (by decide +kernel) (by decide +kernel) (by decide) (so_goto (off := 4) (tgt := 17) (by decide +kernel) (by decide) (sb_28_17 hj))))))))
set_option maxRecDepth 20000 in
theorem sb_28_0 {j : AJ} (hj : SJ j) : Sound kM_28 0 (mb_28_0 j) := by
  refine so_weak (sc_28_0 hj) (fun L S h r q0 => ?_)
  obtain ⟨c0, L0_, rfl, q1⟩ := w_C_some q0
  obtain ⟨i1, L1_, rfl, q2⟩ := w_I_some q1
  obtain ⟨rfl, q3⟩ := w_0_some q2
  obtain ⟨rfl, q4⟩ := a_nil_some q3
  exact q4
set_option maxRecDepth 20000 in
theorem sc_29_32 {j : AJ} (hj : SJ j) : Sound kM_29 32 (mc_29_32 j) := by
  unfold mc_29_32
  exact so_retv (by decide +kernel) rfl
set_option maxRecDepth 20000 in
theorem sb_29_32 {j : AJ} (hj : SJ j) : Sound kM_29 32 (mb_29_32 j) := by
  refine so_weak (sc_29_32 hj) (fun L S h r q0 => ?_)
  obtain ⟨c0, L0_, rfl, q1⟩ := w_C_some q0
  obtain ⟨i1, L1_, rfl, q2⟩ := w_I_some q1
  obtain ⟨x2, L2_, rfl, q3⟩ := w_X_some q2
  obtain ⟨rfl, q4⟩ := w_0_some q3
  obtain ⟨rfl, q5⟩ := a_nil_some q4
  exact q5
set_option maxRecDepth 20000 in
theorem sc_29_10 {j : AJ} (hj : SJ j) : Sound kM_29 10 (mc_29_10 j) := by
  unfold mc_29_10
  exact so_iload_n (f := 2) (by decide +kernel) rfl (so_iconst (i := 5) (by decide +kernel) (by decide +kernel) (by decide) (so_icmp (off := 20) (tgt := 32) (by decide +kernel) (by decide) rfl (sb_29_32 hj) (so_aload_n (f := 0) (by decide +kernel) rfl (so_get (C := RX5) (T := TX5) (N := 2) (by decide +kernel) rfl kin_5 (by decide) kw_30 (b := true) rfl (fun _ => rfl) (so_iload_n (f := 1) (by decide +kernel) rfl (so_iconst (i := 5) (by decide +kernel) (by decide +kernel) (by decide) (so_imul (by decide +kernel) (so_iload_n (f := 2) (by decide +kernel) rfl (so_iadd (by decide +kernel) (so_lconst (i := 0) (by decide +kernel) rfl (so_last (by decide +kernel) (so_iinc (z := 1) (by decide +kernel) (by decide +kernel) (by decide) (by decide +kernel) (so_goto (off := -19) (tgt := 10) (by decide +kernel) (by decide) (hj 10 _ _ rfl))))))))))))))
set_option maxRecDepth 20000 in
theorem sb_29_10 {j : AJ} (hj : SJ j) : Sound kM_29 10 (mb_29_10 j) := by
  refine so_weak (sc_29_10 hj) (fun L S h r q0 => ?_)
  obtain ⟨c0, L0_, rfl, q1⟩ := w_C_some q0
  obtain ⟨i1, L1_, rfl, q2⟩ := w_I_some q1
  obtain ⟨i2, L2_, rfl, q3⟩ := w_I_some q2
  obtain ⟨rfl, q4⟩ := w_0_some q3
  obtain ⟨rfl, q5⟩ := a_nil_some q4
  exact q5
set_option maxRecDepth 20000 in
theorem sc_29_0 {j : AJ} (hj : SJ j) : Sound kM_29 0 (mc_29_0 j) := by
  unfold mc_29_0
  exact so_aload_n (f := 0) (by decide +kernel) rfl (so_iload_n (f := 1) (by decide +kernel) rfl (so_weak (so_callV (C := RX5) (T := TX5) (N0 := 2) (by decide +kernel) kcf_28 rfl rfl rfl kw_68 kw_69 kw_70 (by decide +kernel) (sb_28_0 hj) (so_if (off := 27) (tgt := 32) (by decide +kernel) (by decide) rfl (sb_29_32 hj) (so_iconst (i := 0) (by decide +kernel) (by decide +kernel) (by decide) (so_istore_n (f := 2) (by decide +kernel) rfl (by decide +kernel) (sb_29_10 hj))))) (callvE_imp BK_I)))
set_option maxRecDepth 20000 in
theorem sb_29_0 {j : AJ} (hj : SJ j) : Sound kM_29 0 (mb_29_0 j) := by
  refine so_weak (sc_29_0 hj) (fun L S h r q0 => ?_)
  obtain ⟨c0, L0_, rfl, q1⟩ := w_C_some q0
  obtain ⟨i1, L1_, rfl, q2⟩ := w_I_some q1
  obtain ⟨L2_, rfl, q3⟩ := w_N_some q2
  obtain ⟨rfl, q4⟩ := w_0_some q3
  obtain ⟨rfl, q5⟩ := a_nil_some q4
  exact q5
set_option maxRecDepth 20000 in
theorem sc_30_26 {j : AJ} (hj : SJ j) : Sound kM_30 26 (mc_30_26 j) := by
  unfold mc_30_26
  exact so_retv (by decide +kernel) rfl
set_option maxRecDepth 20000 in
theorem sb_30_26 {j : AJ} (hj : SJ j) : Sound kM_30 26 (mb_30_26 j) := by
  refine so_weak (sc_30_26 hj) (fun L S h r q0 => ?_)
  obtain ⟨c0, L0_, rfl, q1⟩ := w_C_some q0
  obtain ⟨i1, L1_, rfl, q2⟩ := w_I_some q1
  obtain ⟨i2, L2_, rfl, q3⟩ := w_I_some q2
  obtain ⟨i3, L3_, rfl, q4⟩ := w_I_some q3
  obtain ⟨rfl, q5⟩ := w_0_some q4
  obtain ⟨rfl, q6⟩ := a_nil_some q5
  exact q6
set_option maxRecDepth 20000 in
theorem sc_30_0 {j : AJ} (hj : SJ j) : Sound kM_30 0 (mc_30_0 j) := by
  unfold mc_30_0
  exact so_aload_n (f := 0) (by decide +kernel) rfl (so_iload_n (f := 1) (by decide +kernel) rfl (so_iload_n (f := 2) (by decide +kernel) rfl (so_weak (so_callV (C := RX5) (T := TX5) (N0 := 2) (by decide +kernel) kcf_21 rfl rfl rfl kw_53 kw_54 kw_55 (by decide +kernel) (sb_21_0 hj) (so_istore_n (f := 3) (by decide +kernel) rfl (by decide +kernel) (so_iload_n (f := 3) (by decide +kernel) rfl (so_if (off := 18) (tgt := 26) (by decide +kernel) (by decide) rfl (sb_30_26 hj) (so_aload_n (f := 0) (by decide +kernel) rfl (so_get (C := RX5) (T := TX5) (N := 2) (by decide +kernel) rfl kin_5 (by decide) kw_30 (b := true) rfl (fun _ => rfl) (so_iload_n (f := 3) (by decide +kernel) rfl (so_dup2 (by decide +kernel) (so_lald (by decide +kernel) (so_lconst (i := 1) (by decide +kernel) rfl (so_iload_n (f := 2) (by decide +kernel) rfl (so_bipush (i := 63) (by decide +kernel) (by decide +kernel) (by decide) (so_iand (by decide +kernel) (so_lshl (by decide +kernel) (so_lor (by decide +kernel) (so_last (by decide +kernel) (sb_30_26 hj))))))))))))))))) (callvE_imp BK_I))))
set_option maxRecDepth 20000 in
theorem sb_30_0 {j : AJ} (hj : SJ j) : Sound kM_30 0 (mb_30_0 j) := by
  refine so_weak (sc_30_0 hj) (fun L S h r q0 => ?_)
  obtain ⟨c0, L0_, rfl, q1⟩ := w_C_some q0
  obtain ⟨i1, L1_, rfl, q2⟩ := w_I_some q1
  obtain ⟨i2, L2_, rfl, q3⟩ := w_I_some q2
  obtain ⟨L3_, rfl, q4⟩ := w_N_some q3
  obtain ⟨rfl, q5⟩ := w_0_some q4
  obtain ⟨rfl, q6⟩ := a_nil_some q5
  exact q6
set_option maxRecDepth 20000 in
theorem sc_31_54 {j : AJ} (hj : SJ j) : Sound kM_31 54 (mc_31_54 j) := by
  unfold mc_31_54
  exact so_retv (by decide +kernel) rfl
set_option maxRecDepth 20000 in
theorem sb_31_54 {j : AJ} (hj : SJ j) : Sound kM_31 54 (mb_31_54 j) := by
  refine so_weak (sc_31_54 hj) (fun L S h r q0 => ?_)
  obtain ⟨c0, L0_, rfl, q1⟩ := w_C_some q0
  obtain ⟨c1, L1_, rfl, q2⟩ := w_C_some q1
  obtain ⟨i2, L2_, rfl, q3⟩ := w_I_some q2
  obtain ⟨c3, L3_, rfl, q4⟩ := w_C_some q3
  obtain ⟨i4, L4_, rfl, q5⟩ := w_I_some q4
  obtain ⟨i5, L5_, rfl, q6⟩ := w_I_some q5
  obtain ⟨rfl, q7⟩ := w_0_some q6
  obtain ⟨rfl, q8⟩ := a_nil_some q7
  exact q8
set_option maxRecDepth 20000 in
theorem sc_31_14 {j : AJ} (hj : SJ j) : Sound kM_31 14 (mc_31_14 j) := by
  unfold mc_31_14
  exact so_iload (by decide +kernel) (so_iload_n (f := 2) (by decide +kernel) rfl (so_icmp (off := 37) (tgt := 54) (by decide +kernel) (by decide) rfl (sb_31_54 hj) (so_aload_n (f := 3) (by decide +kernel) rfl (so_iload (by decide +kernel) (so_aload_n (f := 0) (by decide +kernel) rfl (so_get (C := RX2) (T := TX2) (N := 4) (by decide +kernel) rfl kin_2 (by decide) kw_45 (b := true) rfl (fun _ => rfl) (so_iload (by decide +kernel) (so_iald (by decide +kernel) (so_weak (so_callV (C := RX5) (T := TX5) (N0 := 2) (by decide +kernel) kcf_30 rfl rfl rfl kw_71 kw_72 kw_73 (by decide +kernel) (sb_30_0 hj) (so_iload (by decide +kernel) (so_iconst (i := 1) (by decide +kernel) (by decide +kernel) (by decide) (so_iadd (by decide +kernel) (so_aload_n (f := 1) (by decide +kernel) rfl (so_iload_n (f := 2) (by decide +kernel) rfl (so_iload (by decide +kernel) (so_iconst (i := 1) (by decide +kernel) (by decide +kernel) (by decide) (so_iadd (by decide +kernel) (so_weak (so_callV (C := RX5) (T := TX5) (N0 := 2) (by decide +kernel) kcf_23 rfl rfl rfl kw_56 kw_57 kw_58 (by decide +kernel) (sb_23_0 hj) (so_weak (so_callS (by decide +kernel) kcf_16 rfl kw_59 kw_27 (by decide +kernel) (sb_16_0 hj) (so_istore (by decide +kernel) (by decide +kernel) (so_goto (off := -37) (tgt := 14) (by decide +kernel) (by decide) (hj 11 _ _ rfl)))) (callE_imp BK_I))) (callvE_imp BK_I))))))))))) (callvE_imp BK_N))))))))))
set_option maxRecDepth 20000 in
theorem sb_31_14 {j : AJ} (hj : SJ j) : Sound kM_31 14 (mb_31_14 j) := by
  refine so_weak (sc_31_14 hj) (fun L S h r q0 => ?_)
  obtain ⟨c0, L0_, rfl, q1⟩ := w_C_some q0
  obtain ⟨c1, L1_, rfl, q2⟩ := w_C_some q1
  obtain ⟨i2, L2_, rfl, q3⟩ := w_I_some q2
  obtain ⟨c3, L3_, rfl, q4⟩ := w_C_some q3
  obtain ⟨i4, L4_, rfl, q5⟩ := w_I_some q4
  obtain ⟨i5, L5_, rfl, q6⟩ := w_I_some q5
  obtain ⟨rfl, q7⟩ := w_0_some q6
  obtain ⟨rfl, q8⟩ := a_nil_some q7
  exact q8
set_option maxRecDepth 20000 in
theorem sc_31_0 {j : AJ} (hj : SJ j) : Sound kM_31 0 (mc_31_0 j) := by
  unfold mc_31_0
  exact so_aload_n (f := 3) (by decide +kernel) rfl (so_iload (by decide +kernel) (so_weak (so_callV (C := RX5) (T := TX5) (N0 := 2) (by decide +kernel) kcf_29 rfl rfl rfl kw_74 kw_75 kw_76 (by decide +kernel) (sb_29_0 hj) (so_aload_n (f := 1) (by decide +kernel) rfl (so_iload_n (f := 2) (by decide +kernel) rfl (so_iconst (i := 0) (by decide +kernel) (by decide +kernel) (by decide) (so_weak (so_callV (C := RX5) (T := TX5) (N0 := 2) (by decide +kernel) kcf_23 rfl rfl rfl kw_56 kw_57 kw_58 (by decide +kernel) (sb_23_0 hj) (so_istore (by decide +kernel) (by decide +kernel) (sb_31_14 hj))) (callvE_imp BK_I)))))) (callvE_imp BK_N)))
set_option maxRecDepth 20000 in
theorem sb_31_0 {j : AJ} (hj : SJ j) : Sound kM_31 0 (mb_31_0 j) := by
  refine so_weak (sc_31_0 hj) (fun L S h r q0 => ?_)
  obtain ⟨c0, L0_, rfl, q1⟩ := w_C_some q0
  obtain ⟨c1, L1_, rfl, q2⟩ := w_C_some q1
  obtain ⟨i2, L2_, rfl, q3⟩ := w_I_some q2
  obtain ⟨c3, L3_, rfl, q4⟩ := w_C_some q3
  obtain ⟨i4, L4_, rfl, q5⟩ := w_I_some q4
  obtain ⟨L5_, rfl, q6⟩ := w_N_some q5
  obtain ⟨rfl, q7⟩ := w_0_some q6
  obtain ⟨rfl, q8⟩ := a_nil_some q7
  exact q8
set_option maxRecDepth 20000 in
theorem sc_32_39 {j : AJ} (hj : SJ j) : Sound kM_32 39 (mc_32_39 j) := by
  unfold mc_32_39
  exact so_iload_n (f := 2) (by decide +kernel) rfl (so_reti (by decide +kernel) rfl)
set_option maxRecDepth 20000 in
theorem sb_32_39 {j : AJ} (hj : SJ j) : Sound kM_32 39 (mb_32_39 j) := by
  refine so_weak (sc_32_39 hj) (fun L S h r q0 => ?_)
  obtain ⟨c0, L0_, rfl, q1⟩ := w_C_some q0
  obtain ⟨i1, L1_, rfl, q2⟩ := w_I_some q1
  obtain ⟨i2, L2_, rfl, q3⟩ := w_I_some q2
  obtain ⟨x3, L3_, rfl, q4⟩ := w_X_some q3
  obtain ⟨rfl, q5⟩ := w_0_some q4
  obtain ⟨rfl, q6⟩ := a_nil_some q5
  exact q6
set_option maxRecDepth 20000 in
theorem sc_32_12 {j : AJ} (hj : SJ j) : Sound kM_32 12 (mc_32_12 j) := by
  unfold mc_32_12
  exact so_iload_n (f := 3) (by decide +kernel) rfl (so_iconst (i := 5) (by decide +kernel) (by decide +kernel) (by decide) (so_icmp (off := 25) (tgt := 39) (by decide +kernel) (by decide) rfl (sb_32_39 hj) (so_iload_n (f := 2) (by decide +kernel) rfl (so_aload_n (f := 0) (by decide +kernel) rfl (so_get (C := RX5) (T := TX5) (N := 2) (by decide +kernel) rfl kin_5 (by decide) kw_30 (b := true) rfl (fun _ => rfl) (so_iload_n (f := 1) (by decide +kernel) rfl (so_iconst (i := 5) (by decide +kernel) (by decide +kernel) (by decide) (so_imul (by decide +kernel) (so_iload_n (f := 3) (by decide +kernel) rfl (so_iadd (by decide +kernel) (so_lald (by decide +kernel) (so_weak (so_callS (by decide +kernel) kcf_22 rfl kw_51 kw_52 (by decide +kernel) (sb_22_0 hj) (so_iadd (by decide +kernel) (so_istore_n (f := 2) (by decide +kernel) rfl (by decide +kernel) (so_iinc (z := 1) (by decide +kernel) (by decide +kernel) (by decide) (by decide +kernel) (so_goto (off := -24) (tgt := 12) (by decide +kernel) (by decide) (hj 12 _ _ rfl)))))) (callE_imp BK_I)))))))))))))
set_option maxRecDepth 20000 in
theorem sb_32_12 {j : AJ} (hj : SJ j) : Sound kM_32 12 (mb_32_12 j) := by
  refine so_weak (sc_32_12 hj) (fun L S h r q0 => ?_)
  obtain ⟨c0, L0_, rfl, q1⟩ := w_C_some q0
  obtain ⟨i1, L1_, rfl, q2⟩ := w_I_some q1
  obtain ⟨i2, L2_, rfl, q3⟩ := w_I_some q2
  obtain ⟨i3, L3_, rfl, q4⟩ := w_I_some q3
  obtain ⟨rfl, q5⟩ := w_0_some q4
  obtain ⟨rfl, q6⟩ := a_nil_some q5
  exact q6
set_option maxRecDepth 20000 in
theorem sc_32_0 {j : AJ} (hj : SJ j) : Sound kM_32 0 (mc_32_0 j) := by
  unfold mc_32_0
  exact so_iconst (i := 0) (by decide +kernel) (by decide +kernel) (by decide) (so_istore_n (f := 2) (by decide +kernel) rfl (by decide +kernel) (so_aload_n (f := 0) (by decide +kernel) rfl (so_iload_n (f := 1) (by decide +kernel) rfl (so_weak (so_callV (C := RX5) (T := TX5) (N0 := 2) (by decide +kernel) kcf_28 rfl rfl rfl kw_68 kw_69 kw_70 (by decide +kernel) (sb_28_0 hj) (so_if (off := 32) (tgt := 39) (by decide +kernel) (by decide) rfl (sb_32_39 hj) (so_iconst (i := 0) (by decide +kernel) (by decide +kernel) (by decide) (so_istore_n (f := 3) (by decide +kernel) rfl (by decide +kernel) (sb_32_12 hj))))) (callvE_imp BK_I)))))
set_option maxRecDepth 20000 in
theorem sb_32_0 {j : AJ} (hj : SJ j) : Sound kM_32 0 (mb_32_0 j) := by
  refine so_weak (sc_32_0 hj) (fun L S h r q0 => ?_)
  obtain ⟨c0, L0_, rfl, q1⟩ := w_C_some q0
  obtain ⟨i1, L1_, rfl, q2⟩ := w_I_some q1
  obtain ⟨L2_, rfl, q3⟩ := w_N_some q2
  obtain ⟨L3_, rfl, q4⟩ := w_N_some q3
  obtain ⟨rfl, q5⟩ := w_0_some q4
  obtain ⟨rfl, q6⟩ := a_nil_some q5
  exact q6
set_option maxRecDepth 20000 in
theorem sc_33_85 {j : AJ} (hj : SJ j) : Sound kM_33 85 (mc_33_85 j) := by
  unfold mc_33_85
  exact so_iconst (i := 0) (by decide +kernel) (by decide +kernel) (by decide) (so_reti (by decide +kernel) rfl)
set_option maxRecDepth 20000 in
theorem sb_33_85 {j : AJ} (hj : SJ j) : Sound kM_33 85 (mb_33_85 j) := by
  refine so_weak (sc_33_85 hj) (fun L S h r q0 => ?_)
  obtain ⟨c0, L0_, rfl, q1⟩ := w_C_some q0
  obtain ⟨i1, L1_, rfl, q2⟩ := w_I_some q1
  obtain ⟨i2, L2_, rfl, q3⟩ := w_I_some q2
  obtain ⟨i3, L3_, rfl, q4⟩ := w_I_some q3
  obtain ⟨x4, L4_, rfl, q5⟩ := w_X_some q4
  obtain ⟨L5_, rfl, q6⟩ := w_N_some q5
  obtain ⟨x6, L6_, rfl, q7⟩ := w_X_some q6
  obtain ⟨L7_, rfl, q8⟩ := w_N_some q7
  obtain ⟨rfl, q9⟩ := w_0_some q8
  obtain ⟨rfl, q10⟩ := a_nil_some q9
  exact q10
set_option maxRecDepth 20000 in
theorem sc_33_79 {j : AJ} (hj : SJ j) : Sound kM_33 79 (mc_33_79 j) := by
  unfold mc_33_79
  exact so_iinc (z := 1) (by decide +kernel) (by decide +kernel) (by decide) (by decide +kernel) (so_goto (off := -62) (tgt := 20) (by decide +kernel) (by decide) (hj 13 _ _ rfl))
set_option maxRecDepth 20000 in
theorem sb_33_79 {j : AJ} (hj : SJ j) : Sound kM_33 79 (mb_33_79 j) := by
  refine so_weak (sc_33_79 hj) (fun L S h r q0 => ?_)
  obtain ⟨c0, L0_, rfl, q1⟩ := w_C_some q0
  obtain ⟨i1, L1_, rfl, q2⟩ := w_I_some q1
  obtain ⟨i2, L2_, rfl, q3⟩ := w_I_some q2
  obtain ⟨i3, L3_, rfl, q4⟩ := w_I_some q3
  obtain ⟨l4, L4_, rfl, q5⟩ := w_L_some q4
  obtain ⟨L5_, rfl, q6⟩ := w_N_some q5
  obtain ⟨l6, L6_, rfl, q7⟩ := w_L_some q6
  obtain ⟨L7_, rfl, q8⟩ := w_N_some q7
  obtain ⟨rfl, q9⟩ := w_0_some q8
  obtain ⟨rfl, q10⟩ := a_nil_some q9
  exact q10
set_option maxRecDepth 20000 in
theorem sc_33_78 {j : AJ} (hj : SJ j) : Sound kM_33 78 (mc_33_78 j) := by
  unfold mc_33_78
  exact so_reti (by decide +kernel) rfl
set_option maxRecDepth 20000 in
theorem sb_33_78 {j : AJ} (hj : SJ j) : Sound kM_33 78 (mb_33_78 j) := by
  refine so_weak (sc_33_78 hj) (fun L S h r q0 => ?_)
  obtain ⟨c0, L0_, rfl, q1⟩ := w_C_some q0
  obtain ⟨i1, L1_, rfl, q2⟩ := w_I_some q1
  obtain ⟨i2, L2_, rfl, q3⟩ := w_I_some q2
  obtain ⟨i3, L3_, rfl, q4⟩ := w_I_some q3
  obtain ⟨l4, L4_, rfl, q5⟩ := w_L_some q4
  obtain ⟨L5_, rfl, q6⟩ := w_N_some q5
  obtain ⟨l6, L6_, rfl, q7⟩ := w_L_some q6
  obtain ⟨L7_, rfl, q8⟩ := w_N_some q7
  obtain ⟨rfl, q9⟩ := w_0_some q8
  obtain ⟨s0, S0_, rfl, q10⟩ := a_popI_some q9
  obtain ⟨rfl, q11⟩ := a_nil_some q10
  exact q11
set_option maxRecDepth 20000 in
theorem sc_33_77 {j : AJ} (hj : SJ j) : Sound kM_33 77 (mc_33_77 j) := by
  unfold mc_33_77
  exact so_iconst (i := 1) (by decide +kernel) (by decide +kernel) (by decide) (sb_33_78 hj)
set_option maxRecDepth 20000 in
theorem sb_33_77 {j : AJ} (hj : SJ j) : Sound kM_33 77 (mb_33_77 j) := by
  refine so_weak (sc_33_77 hj) (fun L S h r q0 => ?_)
  obtain ⟨c0, L0_, rfl, q1⟩ := w_C_some q0
  obtain ⟨i1, L1_, rfl, q2⟩ := w_I_some q1
  obtain ⟨i2, L2_, rfl, q3⟩ := w_I_some q2
  obtain ⟨i3, L3_, rfl, q4⟩ := w_I_some q3
  obtain ⟨l4, L4_, rfl, q5⟩ := w_L_some q4
  obtain ⟨L5_, rfl, q6⟩ := w_N_some q5
  obtain ⟨l6, L6_, rfl, q7⟩ := w_L_some q6
  obtain ⟨L7_, rfl, q8⟩ := w_N_some q7
  obtain ⟨rfl, q9⟩ := w_0_some q8
  obtain ⟨rfl, q10⟩ := a_nil_some q9
  exact q10
set_option maxRecDepth 20000 in
theorem sc_33_20 {j : AJ} (hj : SJ j) : Sound kM_33 20 (mc_33_20 j) := by
  unfold mc_33_20
  exact so_iload_n (f := 3) (by decide +kernel) rfl (so_iconst (i := 5) (by decide +kernel) (by decide +kernel) (by decide) (so_icmp (off := 63) (tgt := 85) (by decide +kernel) (by decide) rfl (sb_33_85 hj) (so_aload_n (f := 0) (by decide +kernel) rfl (so_get (C := RX5) (T := TX5) (N := 2) (by decide +kernel) rfl kin_5 (by decide) kw_30 (b := true) rfl (fun _ => rfl) (so_iload_n (f := 1) (by decide +kernel) rfl (so_iconst (i := 5) (by decide +kernel) (by decide +kernel) (by decide) (so_imul (by decide +kernel) (so_iload_n (f := 3) (by decide +kernel) rfl (so_iadd (by decide +kernel) (so_lald (by decide +kernel) (so_lstore (by decide +kernel) (by decide +kernel) (so_lload (by decide +kernel) (so_aload_n (f := 0) (by decide +kernel) rfl (so_get (C := RX5) (T := TX5) (N := 2) (by decide +kernel) rfl kin_5 (by decide) kw_30 (b := true) rfl (fun _ => rfl) (so_iload_n (f := 2) (by decide +kernel) rfl (so_iconst (i := 5) (by decide +kernel) (by decide +kernel) (by decide) (so_imul (by decide +kernel) (so_iload_n (f := 3) (by decide +kernel) rfl (so_iadd (by decide +kernel) (so_lald (by decide +kernel) (so_lxor (by decide +kernel) (so_lstore (by decide +kernel) (by decide +kernel) (so_lload (by decide +kernel) (so_lconst (i := 0) (by decide +kernel) rfl (so_lcmp (by decide +kernel) (so_if (off := 23) (tgt := 79) (by decide +kernel) (by decide) rfl (sb_33_79 hj) (so_lload (by decide +kernel) (so_lload (by decide +kernel) (so_land (by decide +kernel) (so_lload (by decide +kernel) (so_lneg (by decide +kernel) (so_land (by decide +kernel) (so_lconst (i := 0) (by decide +kernel) rfl (so_lcmp (by decide +kernel) (so_if (off := 7) (tgt := 77) (by decide +kernel) (by decide) rfl (sb_33_77 hj) (so_iconst (i := -1) (by decide +kernel) (by decide +kernel) (by decide) (so_goto (off := 4) (tgt := 78) (by decide +kernel) (by decide) (sb_33_78 hj))))))))))))))))))))))))))))))))))))))
set_option maxRecDepth 20000 in
theorem sb_33_20 {j : AJ} (hj : SJ j) : Sound kM_33 20 (mb_33_20 j) := by
  refine so_weak (sc_33_20 hj) (fun L S h r q0 => ?_)
  obtain ⟨c0, L0_, rfl, q1⟩ := w_C_some q0
  obtain ⟨i1, L1_, rfl, q2⟩ := w_I_some q1
  obtain ⟨i2, L2_, rfl, q3⟩ := w_I_some q2
  obtain ⟨i3, L3_, rfl, q4⟩ := w_I_some q3
  obtain ⟨x4, L4_, rfl, q5⟩ := w_X_some q4
  obtain ⟨L5_, rfl, q6⟩ := w_N_some q5
  obtain ⟨x6, L6_, rfl, q7⟩ := w_X_some q6
  obtain ⟨L7_, rfl, q8⟩ := w_N_some q7
  obtain ⟨rfl, q9⟩ := w_0_some q8
  obtain ⟨rfl, q10⟩ := a_nil_some q9
  exact q10
set_option maxRecDepth 20000 in
theorem sc_33_18 {j : AJ} (hj : SJ j) : Sound kM_33 18 (mc_33_18 j) := by
  unfold mc_33_18
  exact so_iconst (i := 0) (by decide +kernel) (by decide +kernel) (by decide) (so_istore_n (f := 3) (by decide +kernel) rfl (by decide +kernel) (sb_33_20 hj))
set_option maxRecDepth 20000 in
theorem sb_33_18 {j : AJ} (hj : SJ j) : Sound kM_33 18 (mb_33_18 j) := by
  refine so_weak (sc_33_18 hj) (fun L S h r q0 => ?_)
  obtain ⟨c0, L0_, rfl, q1⟩ := w_C_some q0
  obtain ⟨i1, L1_, rfl, q2⟩ := w_I_some q1
  obtain ⟨i2, L2_, rfl, q3⟩ := w_I_some q2
  obtain ⟨L3_, rfl, q4⟩ := w_N_some q3
  obtain ⟨L4_, rfl, q5⟩ := w_N_some q4
  obtain ⟨L5_, rfl, q6⟩ := w_N_some q5
  obtain ⟨L6_, rfl, q7⟩ := w_N_some q6
  obtain ⟨L7_, rfl, q8⟩ := w_N_some q7
  obtain ⟨rfl, q9⟩ := w_0_some q8
  obtain ⟨rfl, q10⟩ := a_nil_some q9
  exact q10
set_option maxRecDepth 20000 in
theorem sc_33_16 {j : AJ} (hj : SJ j) : Sound kM_33 16 (mc_33_16 j) := by
  unfold mc_33_16
  exact so_iconst (i := 0) (by decide +kernel) (by decide +kernel) (by decide) (so_reti (by decide +kernel) rfl)
set_option maxRecDepth 20000 in
theorem sb_33_16 {j : AJ} (hj : SJ j) : Sound kM_33 16 (mb_33_16 j) := by
  refine so_weak (sc_33_16 hj) (fun L S h r q0 => ?_)
  obtain ⟨c0, L0_, rfl, q1⟩ := w_C_some q0
  obtain ⟨i1, L1_, rfl, q2⟩ := w_I_some q1
  obtain ⟨i2, L2_, rfl, q3⟩ := w_I_some q2
  obtain ⟨L3_, rfl, q4⟩ := w_N_some q3
  obtain ⟨L4_, rfl, q5⟩ := w_N_some q4
  obtain ⟨L5_, rfl, q6⟩ := w_N_some q5
  obtain ⟨L6_, rfl, q7⟩ := w_N_some q6
  obtain ⟨L7_, rfl, q8⟩ := w_N_some q7
  obtain ⟨rfl, q9⟩ := w_0_some q8
  obtain ⟨rfl, q10⟩ := a_nil_some q9
  exact q10
set_option maxRecDepth 20000 in
theorem sc_33_0 {j : AJ} (hj : SJ j) : Sound kM_33 0 (mc_33_0 j) := by
  unfold mc_33_0
  exact so_aload_n (f := 0) (by decide +kernel) rfl (so_iload_n (f := 1) (by decide +kernel) rfl (so_weak (so_callV (C := RX5) (T := TX5) (N0 := 2) (by decide +kernel) kcf_28 rfl rfl rfl kw_68 kw_69 kw_70 (by decide +kernel) (sb_28_0 hj) (so_if (off := 11) (tgt := 16) (by decide +kernel) (by decide) rfl (sb_33_16 hj) (so_aload_n (f := 0) (by decide +kernel) rfl (so_iload_n (f := 2) (by decide +kernel) rfl (so_weak (so_callV (C := RX5) (T := TX5) (N0 := 2) (by decide +kernel) kcf_28 rfl rfl rfl kw_68 kw_69 kw_70 (by decide +kernel) (sb_28_0 hj) (so_if (off := 5) (tgt := 18) (by decide +kernel) (by decide) rfl (sb_33_18 hj) (sb_33_16 hj))) (callvE_imp BK_I)))))) (callvE_imp BK_I)))
set_option maxRecDepth 20000 in
theorem sb_33_0 {j : AJ} (hj : SJ j) : Sound kM_33 0 (mb_33_0 j) := by
  refine so_weak (sc_33_0 hj) (fun L S h r q0 => ?_)
  obtain ⟨c0, L0_, rfl, q1⟩ := w_C_some q0
  obtain ⟨i1, L1_, rfl, q2⟩ := w_I_some q1
  obtain ⟨i2, L2_, rfl, q3⟩ := w_I_some q2
  obtain ⟨L3_, rfl, q4⟩ := w_N_some q3
  obtain ⟨L4_, rfl, q5⟩ := w_N_some q4
  obtain ⟨L5_, rfl, q6⟩ := w_N_some q5
  obtain ⟨L6_, rfl, q7⟩ := w_N_some q6
  obtain ⟨L7_, rfl, q8⟩ := w_N_some q7
  obtain ⟨rfl, q9⟩ := w_0_some q8
  obtain ⟨rfl, q10⟩ := a_nil_some q9
  exact q10
set_option maxRecDepth 20000 in
theorem sc_34_81 {j : AJ} (hj : SJ j) : Sound kM_34 81 (mc_34_81 j) := by
  unfold mc_34_81
  exact so_reti (by decide +kernel) rfl
set_option maxRecDepth 20000 in
theorem sb_34_81 {j : AJ} (hj : SJ j) : Sound kM_34 81 (mb_34_81 j) := by
  refine so_weak (sc_34_81 hj) (fun L S h r q0 => ?_)
  obtain ⟨c0, L0_, rfl, q1⟩ := w_C_some q0
  obtain ⟨i1, L1_, rfl, q2⟩ := w_I_some q1
  obtain ⟨i2, L2_, rfl, q3⟩ := w_I_some q2
  obtain ⟨i3, L3_, rfl, q4⟩ := w_I_some q3
  obtain ⟨i4, L4_, rfl, q5⟩ := w_I_some q4
  obtain ⟨i5, L5_, rfl, q6⟩ := w_I_some q5
  obtain ⟨rfl, q7⟩ := w_0_some q6
  obtain ⟨s0, S0_, rfl, q8⟩ := a_popI_some q7
  obtain ⟨rfl, q9⟩ := a_nil_some q8
  exact q9
set_option maxRecDepth 20000 in
theorem sc_34_72 {j : AJ} (hj : SJ j) : Sound kM_34 72 (mc_34_72 j) := by
  unfold mc_34_72
  exact so_aload_n (f := 0) (by decide +kernel) rfl (so_getN (C := RX1) (T := TX1) (N := 4) (by decide +kernel) rfl kin_1 (by decide) kw_77 (b := true) rfl (fun _ => rfl) (so_iload_n (f := 1) (by decide +kernel) rfl (so_iload_n (f := 2) (by decide +kernel) rfl (so_weak (so_callV (C := RX5) (T := TX5) (N0 := 2) (by decide +kernel) kcf_33 rfl rfl rfl kw_78 kw_79 kw_80 (by decide +kernel) (sb_33_0 hj) (sb_34_81 hj)) (callvE_imp BK_I)))))
set_option maxRecDepth 20000 in
theorem sb_34_72 {j : AJ} (hj : SJ j) : Sound kM_34 72 (mb_34_72 j) := by
  refine so_weak (sc_34_72 hj) (fun L S h r q0 => ?_)
  obtain ⟨c0, L0_, rfl, q1⟩ := w_C_some q0
  obtain ⟨i1, L1_, rfl, q2⟩ := w_I_some q1
  obtain ⟨i2, L2_, rfl, q3⟩ := w_I_some q2
  obtain ⟨i3, L3_, rfl, q4⟩ := w_I_some q3
  obtain ⟨i4, L4_, rfl, q5⟩ := w_I_some q4
  obtain ⟨i5, L5_, rfl, q6⟩ := w_I_some q5
  obtain ⟨rfl, q7⟩ := w_0_some q6
  obtain ⟨rfl, q8⟩ := a_nil_some q7
  exact q8
set_option maxRecDepth 20000 in
theorem sc_34_51 {j : AJ} (hj : SJ j) : Sound kM_34 51 (mc_34_51 j) := by
  unfold mc_34_51
  exact so_aload_n (f := 0) (by decide +kernel) rfl (so_getN (C := RX1) (T := TX1) (N := 4) (by decide +kernel) rfl kin_1 (by decide) kw_81 (b := true) rfl (fun _ => rfl) (so_iload_n (f := 1) (by decide +kernel) rfl (so_iload_n (f := 2) (by decide +kernel) rfl (so_weak (so_callV (C := RX5) (T := TX5) (N0 := 2) (by decide +kernel) kcf_33 rfl rfl rfl kw_78 kw_79 kw_80 (by decide +kernel) (sb_33_0 hj) (so_istore (by decide +kernel) (by decide +kernel) (so_iload (by decide +kernel) (so_if (off := 8) (tgt := 72) (by decide +kernel) (by decide) rfl (sb_34_72 hj) (so_iload (by decide +kernel) (so_goto (off := 12) (tgt := 81) (by decide +kernel) (by decide) (sb_34_81 hj))))))) (callvE_imp BK_I)))))
set_option maxRecDepth 20000 in
theorem sb_34_51 {j : AJ} (hj : SJ j) : Sound kM_34 51 (mb_34_51 j) := by
  refine so_weak (sc_34_51 hj) (fun L S h r q0 => ?_)
  obtain ⟨c0, L0_, rfl, q1⟩ := w_C_some q0
  obtain ⟨i1, L1_, rfl, q2⟩ := w_I_some q1
  obtain ⟨i2, L2_, rfl, q3⟩ := w_I_some q2
  obtain ⟨i3, L3_, rfl, q4⟩ := w_I_some q3
  obtain ⟨i4, L4_, rfl, q5⟩ := w_I_some q4
  obtain ⟨L5_, rfl, q6⟩ := w_N_some q5
  obtain ⟨rfl, q7⟩ := w_0_some q6
  obtain ⟨rfl, q8⟩ := a_nil_some q7
  exact q8
set_option maxRecDepth 20000 in
theorem sc_34_24 {j : AJ} (hj : SJ j) : Sound kM_34 24 (mc_34_24 j) := by
  unfold mc_34_24
  exact so_aload_n (f := 0) (by decide +kernel) rfl (so_getN (C := RX1) (T := TX1) (N := 4) (by decide +kernel) rfl kin_1 (by decide) kw_77 (b := true) rfl (fun _ => rfl) (so_iload_n (f := 1) (by decide +kernel) rfl (so_weak (so_callV (C := RX5) (T := TX5) (N0 := 2) (by decide +kernel) kcf_32 rfl rfl rfl kw_82 kw_83 kw_84 (by decide +kernel) (sb_32_0 hj) (so_aload_n (f := 0) (by decide +kernel) rfl (so_getN (C := RX1) (T := TX1) (N := 4) (by decide +kernel) rfl kin_1 (by decide) kw_77 (b := true) rfl (fun _ => rfl) (so_iload_n (f := 2) (by decide +kernel) rfl (so_weak (so_callV (C := RX5) (T := TX5) (N0 := 2) (by decide +kernel) kcf_32 rfl rfl rfl kw_82 kw_83 kw_84 (by decide +kernel) (sb_32_0 hj) (so_isub (by decide +kernel) (so_istore (by decide +kernel) (by decide +kernel) (so_iload (by decide +kernel) (so_if (off := 6) (tgt := 51) (by decide +kernel) (by decide) rfl (sb_34_51 hj) (so_iload (by decide +kernel) (so_reti (by decide +kernel) rfl))))))) (callvE_imp BK_I)))))) (callvE_imp BK_I))))
set_option maxRecDepth 20000 in
theorem sb_34_24 {j : AJ} (hj : SJ j) : Sound kM_34 24 (mb_34_24 j) := by
  refine so_weak (sc_34_24 hj) (fun L S h r q0 => ?_)
  obtain ⟨c0, L0_, rfl, q1⟩ := w_C_some q0
  obtain ⟨i1, L1_, rfl, q2⟩ := w_I_some q1
  obtain ⟨i2, L2_, rfl, q3⟩ := w_I_some q2
  obtain ⟨i3, L3_, rfl, q4⟩ := w_I_some q3
  obtain ⟨L4_, rfl, q5⟩ := w_N_some q4
  obtain ⟨L5_, rfl, q6⟩ := w_N_some q5
  obtain ⟨rfl, q7⟩ := w_0_some q6
  obtain ⟨rfl, q8⟩ := a_nil_some q7
  exact q8
set_option maxRecDepth 20000 in
theorem sc_34_0 {j : AJ} (hj : SJ j) : Sound kM_34 0 (mc_34_0 j) := by
  unfold mc_34_0
  exact so_aload_n (f := 0) (by decide +kernel) rfl (so_getN (C := RX1) (T := TX1) (N := 4) (by decide +kernel) rfl kin_1 (by decide) kw_81 (b := true) rfl (fun _ => rfl) (so_iload_n (f := 1) (by decide +kernel) rfl (so_weak (so_callV (C := RX5) (T := TX5) (N0 := 2) (by decide +kernel) kcf_32 rfl rfl rfl kw_82 kw_83 kw_84 (by decide +kernel) (sb_32_0 hj) (so_aload_n (f := 0) (by decide +kernel) rfl (so_getN (C := RX1) (T := TX1) (N := 4) (by decide +kernel) rfl kin_1 (by decide) kw_81 (b := true) rfl (fun _ => rfl) (so_iload_n (f := 2) (by decide +kernel) rfl (so_weak (so_callV (C := RX5) (T := TX5) (N0 := 2) (by decide +kernel) kcf_32 rfl rfl rfl kw_82 kw_83 kw_84 (by decide +kernel) (sb_32_0 hj) (so_isub (by decide +kernel) (so_istore_n (f := 3) (by decide +kernel) rfl (by decide +kernel) (so_iload_n (f := 3) (by decide +kernel) rfl (so_if (off := 5) (tgt := 24) (by decide +kernel) (by decide) rfl (sb_34_24 hj) (so_iload_n (f := 3) (by decide +kernel) rfl (so_reti (by decide +kernel) rfl))))))) (callvE_imp BK_I)))))) (callvE_imp BK_I))))
set_option maxRecDepth 20000 in
theorem sb_34_0 {j : AJ} (hj : SJ j) : Sound kM_34 0 (mb_34_0 j) := by
  refine so_weak (sc_34_0 hj) (fun L S h r q0 => ?_)
  obtain ⟨c0, L0_, rfl, q1⟩ := w_C_some q0
  obtain ⟨i1, L1_, rfl, q2⟩ := w_I_some q1
  obtain ⟨i2, L2_, rfl, q3⟩ := w_I_some q2
  obtain ⟨L3_, rfl, q4⟩ := w_N_some q3
  obtain ⟨L4_, rfl, q5⟩ := w_N_some q4
  obtain ⟨L5_, rfl, q6⟩ := w_N_some q5
  obtain ⟨rfl, q7⟩ := w_0_some q6
  obtain ⟨rfl, q8⟩ := a_nil_some q7
  exact q8
set_option maxRecDepth 20000 in
theorem sc_35_73 {j : AJ} (hj : SJ j) : Sound kM_35 73 (mc_35_73 j) := by
  unfold mc_35_73
  exact so_retv (by decide +kernel) rfl
set_option maxRecDepth 20000 in
theorem sb_35_73 {j : AJ} (hj : SJ j) : Sound kM_35 73 (mb_35_73 j) := by
  refine so_weak (sc_35_73 hj) (fun L S h r q0 => ?_)
  obtain ⟨c0, L0_, rfl, q1⟩ := w_C_some q0
  obtain ⟨i1, L1_, rfl, q2⟩ := w_I_some q1
  obtain ⟨i2, L2_, rfl, q3⟩ := w_I_some q2
  obtain ⟨x3, L3_, rfl, q4⟩ := w_X_some q3
  obtain ⟨x4, L4_, rfl, q5⟩ := w_X_some q4
  obtain ⟨L5_, rfl, q6⟩ := w_N_some q5
  obtain ⟨rfl, q7⟩ := w_0_some q6
  obtain ⟨rfl, q8⟩ := a_nil_some q7
  exact q8
set_option maxRecDepth 20000 in
theorem sc_35_18 {j : AJ} (hj : SJ j) : Sound kM_35 18 (mc_35_18 j) := by
  unfold mc_35_18
  exact so_iload_n (f := 3) (by decide +kernel) rfl (so_iconst (i := 5) (by decide +kernel) (by decide +kernel) (by decide) (so_icmp (off := 53) (tgt := 73) (by decide +kernel) (by decide) rfl (sb_35_73 hj) (so_aload_n (f := 0) (by decide +kernel) rfl (so_get (C := RX5) (T := TX5) (N := 2) (by decide +kernel) rfl kin_5 (by decide) kw_30 (b := true) rfl (fun _ => rfl) (so_iload_n (f := 1) (by decide +kernel) rfl (so_iconst (i := 5) (by decide +kernel) (by decide +kernel) (by decide) (so_imul (by decide +kernel) (so_iload_n (f := 3) (by decide +kernel) rfl (so_iadd (by decide +kernel) (so_lald (by decide +kernel) (so_lstore (by decide +kernel) (by decide +kernel) (so_aload_n (f := 0) (by decide +kernel) rfl (so_get (C := RX5) (T := TX5) (N := 2) (by decide +kernel) rfl kin_5 (by decide) kw_30 (b := true) rfl (fun _ => rfl) (so_iload_n (f := 1) (by decide +kernel) rfl (so_iconst (i := 5) (by decide +kernel) (by decide +kernel) (by decide) (so_imul (by decide +kernel) (so_iload_n (f := 3) (by decide +kernel) rfl (so_iadd (by decide +kernel) (so_aload_n (f := 0) (by decide +kernel) rfl (so_get (C := RX5) (T := TX5) (N := 2) (by decide +kernel) rfl kin_5 (by decide) kw_30 (b := true) rfl (fun _ => rfl) (so_iload_n (f := 2) (by decide +kernel) rfl (so_iconst (i := 5) (by decide +kernel) (by decide +kernel) (by decide) (so_imul (by decide +kernel) (so_iload_n (f := 3) (by decide +kernel) rfl (so_iadd (by decide +kernel) (so_lald (by decide +kernel) (so_last (by decide +kernel) (so_aload_n (f := 0) (by decide +kernel) rfl (so_get (C := RX5) (T := TX5) (N := 2) (by decide +kernel) rfl kin_5 (by decide) kw_30 (b := true) rfl (fun _ => rfl) (so_iload_n (f := 2) (by decide +kernel) rfl (so_iconst (i := 5) (by decide +kernel) (by decide +kernel) (by decide) (so_imul (by decide +kernel) (so_iload_n (f := 3) (by decide +kernel) rfl (so_iadd (by decide +kernel) (so_lload (by decide +kernel) (so_last (by decide +kernel) (so_iinc (z := 1) (by decide +kernel) (by decide +kernel) (by decide) (by decide +kernel) (so_goto (off := -52) (tgt := 18) (by decide +kernel) (by decide) (hj 14 _ _ rfl)))))))))))))))))))))))))))))))))))))))
set_option maxRecDepth 20000 in
theorem sb_35_18 {j : AJ} (hj : SJ j) : Sound kM_35 18 (mb_35_18 j) := by
  refine so_weak (sc_35_18 hj) (fun L S h r q0 => ?_)
  obtain ⟨c0, L0_, rfl, q1⟩ := w_C_some q0
  obtain ⟨i1, L1_, rfl, q2⟩ := w_I_some q1
  obtain ⟨i2, L2_, rfl, q3⟩ := w_I_some q2
  obtain ⟨i3, L3_, rfl, q4⟩ := w_I_some q3
  obtain ⟨x4, L4_, rfl, q5⟩ := w_X_some q4
  obtain ⟨L5_, rfl, q6⟩ := w_N_some q5
  obtain ⟨rfl, q7⟩ := w_0_some q6
  obtain ⟨rfl, q8⟩ := a_nil_some q7
  exact q8
set_option maxRecDepth 20000 in
theorem sc_35_0 {j : AJ} (hj : SJ j) : Sound kM_35 0 (mc_35_0 j) := by
  unfold mc_35_0
  exact so_aload_n (f := 0) (by decide +kernel) rfl (so_iload_n (f := 1) (by decide +kernel) rfl (so_weak (so_callV (C := RX5) (T := TX5) (N0 := 2) (by decide +kernel) kcf_28 rfl rfl rfl kw_68 kw_69 kw_70 (by decide +kernel) (sb_28_0 hj) (so_if (off := 68) (tgt := 73) (by decide +kernel) (by decide) rfl (sb_35_73 hj) (so_aload_n (f := 0) (by decide +kernel) rfl (so_iload_n (f := 2) (by decide +kernel) rfl (so_weak (so_callV (C := RX5) (T := TX5) (N0 := 2) (by decide +kernel) kcf_28 rfl rfl rfl kw_68 kw_69 kw_70 (by decide +kernel) (sb_28_0 hj) (so_if (off := 60) (tgt := 73) (by decide +kernel) (by decide) rfl (sb_35_73 hj) (so_iconst (i := 0) (by decide +kernel) (by decide +kernel) (by decide) (so_istore_n (f := 3) (by decide +kernel) rfl (by decide +kernel) (sb_35_18 hj))))) (callvE_imp BK_I)))))) (callvE_imp BK_I)))
set_option maxRecDepth 20000 in
theorem sb_35_0 {j : AJ} (hj : SJ j) : Sound kM_35 0 (mb_35_0 j) := by
  refine so_weak (sc_35_0 hj) (fun L S h r q0 => ?_)
  obtain ⟨c0, L0_, rfl, q1⟩ := w_C_some q0
  obtain ⟨i1, L1_, rfl, q2⟩ := w_I_some q1
  obtain ⟨i2, L2_, rfl, q3⟩ := w_I_some q2
  obtain ⟨L3_, rfl, q4⟩ := w_N_some q3
  obtain ⟨L4_, rfl, q5⟩ := w_N_some q4
  obtain ⟨L5_, rfl, q6⟩ := w_N_some q5
  obtain ⟨rfl, q7⟩ := w_0_some q6
  obtain ⟨rfl, q8⟩ := a_nil_some q7
  exact q8
set_option maxRecDepth 20000 in
theorem sc_36_90 {j : AJ} (hj : SJ j) : Sound kM_36 90 (mc_36_90 j) := by
  unfold mc_36_90
  exact so_retv (by decide +kernel) rfl
set_option maxRecDepth 20000 in
theorem sb_36_90 {j : AJ} (hj : SJ j) : Sound kM_36 90 (mb_36_90 j) := by
  refine so_weak (sc_36_90 hj) (fun L S h r q0 => ?_)
  obtain ⟨c0, L0_, rfl, q1⟩ := w_C_some q0
  obtain ⟨c1, L1_, rfl, q2⟩ := w_C_some q1
  obtain ⟨i2, L2_, rfl, q3⟩ := w_I_some q2
  obtain ⟨i3, L3_, rfl, q4⟩ := w_I_some q3
  obtain ⟨i4, L4_, rfl, q5⟩ := w_I_some q4
  obtain ⟨x5, L5_, rfl, q6⟩ := w_X_some q5
  obtain ⟨rfl, q7⟩ := w_0_some q6
  obtain ⟨rfl, q8⟩ := a_nil_some q7
  exact q8
set_option maxRecDepth 20000 in
theorem sc_36_3 {j : AJ} (hj : SJ j) : Sound kM_36 3 (mc_36_3 j) := by
  unfold mc_36_3
  exact so_iload (by decide +kernel) (so_iload_n (f := 3) (by decide +kernel) rfl (so_icmp (off := 84) (tgt := 90) (by decide +kernel) (by decide) rfl (sb_36_90 hj) (so_aload_n (f := 1) (by decide +kernel) rfl (so_iload (by decide +kernel) (so_iload (by decide +kernel) (so_iconst (i := 1) (by decide +kernel) (by decide +kernel) (by decide) (so_isub (by decide +kernel) (so_weak (so_callS (by decide +kernel) kcf_34 rfl kw_85 kw_86 (by decide +kernel) (sb_34_0 hj) (so_if (off := 71) (tgt := 90) (by decide +kernel) (by decide) rfl (sb_36_90 hj) (so_aload_n (f := 1) (by decide +kernel) rfl (so_getN (C := RX1) (T := TX1) (N := 4) (by decide +kernel) rfl kin_1 (by decide) kw_81 (b := true) rfl (fun _ => rfl) (so_iload (by decide +kernel) (so_iload (by decide +kernel) (so_iconst (i := 1) (by decide +kernel) (by decide +kernel) (by decide) (so_isub (by decide +kernel) (so_weak (so_callV (C := RX5) (T := TX5) (N0 := 2) (by decide +kernel) kcf_35 rfl rfl rfl kw_87 kw_88 kw_89 (by decide +kernel) (sb_35_0 hj) (so_aload_n (f := 1) (by decide +kernel) rfl (so_getN (C := RX1) (T := TX1) (N := 4) (by decide +kernel) rfl kin_1 (by decide) kw_77 (b := true) rfl (fun _ => rfl) (so_iload (by decide +kernel) (so_iload (by decide +kernel) (so_iconst (i := 1) (by decide +kernel) (by decide +kernel) (by decide) (so_isub (by decide +kernel) (so_weak (so_callV (C := RX5) (T := TX5) (N0 := 2) (by decide +kernel) kcf_35 rfl rfl rfl kw_87 kw_88 kw_89 (by decide +kernel) (sb_35_0 hj) (so_aload_n (f := 0) (by decide +kernel) rfl (so_get (C := RX2) (T := TX2) (N := 4) (by decide +kernel) rfl kin_2 (by decide) kw_46 (b := true) rfl (fun _ => rfl) (so_iload (by decide +kernel) (so_iald (by decide +kernel) (so_istore (by decide +kernel) (by decide +kernel) (so_aload_n (f := 0) (by decide +kernel) rfl (so_get (C := RX2) (T := TX2) (N := 4) (by decide +kernel) rfl kin_2 (by decide) kw_46 (b := true) rfl (fun _ => rfl) (so_iload (by decide +kernel) (so_aload_n (f := 0) (by decide +kernel) rfl (so_get (C := RX2) (T := TX2) (N := 4) (by decide +kernel) rfl kin_2 (by decide) kw_46 (b := true) rfl (fun _ => rfl) (so_iload (by decide +kernel) (so_iconst (i := 1) (by decide +kernel) (by decide +kernel) (by decide) (so_isub (by decide +kernel) (so_iald (by decide +kernel) (so_iast (by decide +kernel) (so_aload_n (f := 0) (by decide +kernel) rfl (so_get (C := RX2) (T := TX2) (N := 4) (by decide +kernel) rfl kin_2 (by decide) kw_46 (b := true) rfl (fun _ => rfl) (so_iload (by decide +kernel) (so_iconst (i := 1) (by decide +kernel) (by decide +kernel) (by decide) (so_isub (by decide +kernel) (so_iload (by decide +kernel) (so_iast (by decide +kernel) (so_iinc (z := -1) (by decide +kernel) (by decide +kernel) (by decide) (by decide +kernel) (so_goto (off := -84) (tgt := 3) (by decide +kernel) (by decide) (hj 15 _ _ rfl)))))))))))))))))))))))))) (callvE_imp BK_N))))))))) (callvE_imp BK_N)))))))))) (callE_imp BK_I)))))))))
set_option maxRecDepth 20000 in
theorem sb_36_3 {j : AJ} (hj : SJ j) : Sound kM_36 3 (mb_36_3 j) := by
  refine so_weak (sc_36_3 hj) (fun L S h r q0 => ?_)
  obtain ⟨c0, L0_, rfl, q1⟩ := w_C_some q0
  obtain ⟨c1, L1_, rfl, q2⟩ := w_C_some q1
  obtain ⟨i2, L2_, rfl, q3⟩ := w_I_some q2
  obtain ⟨i3, L3_, rfl, q4⟩ := w_I_some q3
  obtain ⟨i4, L4_, rfl, q5⟩ := w_I_some q4
  obtain ⟨x5, L5_, rfl, q6⟩ := w_X_some q5
  obtain ⟨rfl, q7⟩ := w_0_some q6
  obtain ⟨rfl, q8⟩ := a_nil_some q7
  exact q8
set_option maxRecDepth 20000 in
theorem sc_36_0 {j : AJ} (hj : SJ j) : Sound kM_36 0 (mc_36_0 j) := by
  unfold mc_36_0
  exact so_iload_n (f := 2) (by decide +kernel) rfl (so_istore (by decide +kernel) (by decide +kernel) (sb_36_3 hj))
set_option maxRecDepth 20000 in
theorem sb_36_0 {j : AJ} (hj : SJ j) : Sound kM_36 0 (mb_36_0 j) := by
  refine so_weak (sc_36_0 hj) (fun L S h r q0 => ?_)
  obtain ⟨c0, L0_, rfl, q1⟩ := w_C_some q0
  obtain ⟨c1, L1_, rfl, q2⟩ := w_C_some q1
  obtain ⟨i2, L2_, rfl, q3⟩ := w_I_some q2
  obtain ⟨i3, L3_, rfl, q4⟩ := w_I_some q3
  obtain ⟨L4_, rfl, q5⟩ := w_N_some q4
  obtain ⟨L5_, rfl, q6⟩ := w_N_some q5
  obtain ⟨rfl, q7⟩ := w_0_some q6
  obtain ⟨rfl, q8⟩ := a_nil_some q7
  exact q8
set_option maxRecDepth 20000 in
theorem sc_37_135 {j : AJ} (hj : SJ j) : Sound kM_37 135 (mc_37_135 j) := by
  unfold mc_37_135
  exact so_iload (by decide +kernel) (so_reti (by decide +kernel) rfl)
set_option maxRecDepth 20000 in
theorem sb_37_135 {j : AJ} (hj : SJ j) : Sound kM_37 135 (mb_37_135 j) := by
  refine so_weak (sc_37_135 hj) (fun L S h r q0 => ?_)
  obtain ⟨c0, L0_, rfl, q1⟩ := w_C_some q0
  obtain ⟨c1, L1_, rfl, q2⟩ := w_C_some q1
  obtain ⟨i2, L2_, rfl, q3⟩ := w_I_some q2
  obtain ⟨i3, L3_, rfl, q4⟩ := w_I_some q3
  obtain ⟨i4, L4_, rfl, q5⟩ := w_I_some q4
  obtain ⟨c5, L5_, rfl, q6⟩ := w_C_some q5
  obtain ⟨i6, L6_, rfl, q7⟩ := w_I_some q6
  obtain ⟨i7, L7_, rfl, q8⟩ := w_I_some q7
  obtain ⟨rfl, q9⟩ := w_0_some q8
  obtain ⟨rfl, q10⟩ := a_nil_some q9
  exact q10
set_option maxRecDepth 20000 in
theorem sc_37_108 {j : AJ} (hj : SJ j) : Sound kM_37 108 (mc_37_108 j) := by
  unfold mc_37_108
  exact so_iload (by decide +kernel) (so_iload (by decide +kernel) (so_icmp (off := 23) (tgt := 135) (by decide +kernel) (by decide) rfl (sb_37_135 hj) (so_aload_n (f := 0) (by decide +kernel) rfl (so_get (C := RX2) (T := TX2) (N := 4) (by decide +kernel) rfl kin_2 (by decide) kw_45 (b := true) rfl (fun _ => rfl) (so_aload_n (f := 0) (by decide +kernel) rfl (so_get (C := RX2) (T := TX2) (N := 4) (by decide +kernel) rfl kin_2 (by decide) kw_46 (b := true) rfl (fun _ => rfl) (so_iload (by decide +kernel) (so_iald (by decide +kernel) (so_iload (by decide +kernel) (so_iast (by decide +kernel) (so_iinc (z := 1) (by decide +kernel) (by decide +kernel) (by decide) (by decide +kernel) (so_goto (off := -24) (tgt := 108) (by decide +kernel) (by decide) (hj 17 _ _ rfl)))))))))))))
set_option maxRecDepth 20000 in
theorem sb_37_108 {j : AJ} (hj : SJ j) : Sound kM_37 108 (mb_37_108 j) := by
  refine so_weak (sc_37_108 hj) (fun L S h r q0 => ?_)
  obtain ⟨c0, L0_, rfl, q1⟩ := w_C_some q0
  obtain ⟨c1, L1_, rfl, q2⟩ := w_C_some q1
  obtain ⟨i2, L2_, rfl, q3⟩ := w_I_some q2
  obtain ⟨i3, L3_, rfl, q4⟩ := w_I_some q3
  obtain ⟨i4, L4_, rfl, q5⟩ := w_I_some q4
  obtain ⟨c5, L5_, rfl, q6⟩ := w_C_some q5
  obtain ⟨i6, L6_, rfl, q7⟩ := w_I_some q6
  obtain ⟨i7, L7_, rfl, q8⟩ := w_I_some q7
  obtain ⟨rfl, q9⟩ := w_0_some q8
  obtain ⟨rfl, q10⟩ := a_nil_some q9
  exact q10
set_option maxRecDepth 20000 in
theorem sc_37_104 {j : AJ} (hj : SJ j) : Sound kM_37 104 (mc_37_104 j) := by
  unfold mc_37_104
  exact so_iload (by decide +kernel) (so_istore (by decide +kernel) (by decide +kernel) (sb_37_108 hj))
set_option maxRecDepth 20000 in
theorem sb_37_104 {j : AJ} (hj : SJ j) : Sound kM_37 104 (mb_37_104 j) := by
  refine so_weak (sc_37_104 hj) (fun L S h r q0 => ?_)
  obtain ⟨c0, L0_, rfl, q1⟩ := w_C_some q0
  obtain ⟨c1, L1_, rfl, q2⟩ := w_C_some q1
  obtain ⟨i2, L2_, rfl, q3⟩ := w_I_some q2
  obtain ⟨i3, L3_, rfl, q4⟩ := w_I_some q3
  obtain ⟨i4, L4_, rfl, q5⟩ := w_I_some q4
  obtain ⟨c5, L5_, rfl, q6⟩ := w_C_some q5
  obtain ⟨i6, L6_, rfl, q7⟩ := w_I_some q6
  obtain ⟨i7, L7_, rfl, q8⟩ := w_I_some q7
  obtain ⟨rfl, q9⟩ := w_0_some q8
  obtain ⟨rfl, q10⟩ := a_nil_some q9
  exact q10
set_option maxRecDepth 20000 in
theorem sc_37_98 {j : AJ} (hj : SJ j) : Sound kM_37 98 (mc_37_98 j) := by
  unfold mc_37_98
  exact so_iinc (z := 1) (by decide +kernel) (by decide +kernel) (by decide) (by decide +kernel) (so_goto (off := -94) (tgt := 7) (by decide +kernel) (by decide) (hj 16 _ _ rfl))
set_option maxRecDepth 20000 in
theorem sb_37_98 {j : AJ} (hj : SJ j) : Sound kM_37 98 (mb_37_98 j) := by
  refine so_weak (sc_37_98 hj) (fun L S h r q0 => ?_)
  obtain ⟨c0, L0_, rfl, q1⟩ := w_C_some q0
  obtain ⟨c1, L1_, rfl, q2⟩ := w_C_some q1
  obtain ⟨i2, L2_, rfl, q3⟩ := w_I_some q2
  obtain ⟨i3, L3_, rfl, q4⟩ := w_I_some q3
  obtain ⟨i4, L4_, rfl, q5⟩ := w_I_some q4
  obtain ⟨c5, L5_, rfl, q6⟩ := w_C_some q5
  obtain ⟨i6, L6_, rfl, q7⟩ := w_I_some q6
  obtain ⟨i7, L7_, rfl, q8⟩ := w_I_some q7
  obtain ⟨rfl, q9⟩ := w_0_some q8
  obtain ⟨rfl, q10⟩ := a_nil_some q9
  exact q10
set_option maxRecDepth 20000 in
theorem sc_37_7 {j : AJ} (hj : SJ j) : Sound kM_37 7 (mc_37_7 j) := by
  unfold mc_37_7
  exact so_iload (by decide +kernel) (so_iload_n (f := 2) (by decide +kernel) rfl (so_icmp (off := 94) (tgt := 104) (by decide +kernel) (by decide) rfl (sb_37_104 hj) (so_iload (by decide +kernel) (so_sipush (i := 320) (by decide +kernel) (by decide +kernel) (by decide) (so_icmp (off := 86) (tgt := 104) (by decide +kernel) (by decide) rfl (sb_37_104 hj) (so_aload_n (f := 0) (by decide +kernel) rfl (so_get (C := RX2) (T := TX2) (N := 4) (by decide +kernel) rfl kin_2 (by decide) kw_43 (b := true) rfl (fun _ => rfl) (so_iload (by decide +kernel) (so_zald (by decide +kernel) (so_if (off := 70) (tgt := 98) (by decide +kernel) (by decide) rfl (sb_37_98 hj) (so_aload_n (f := 0) (by decide +kernel) rfl (so_get (C := RX2) (T := TX2) (N := 4) (by decide +kernel) rfl kin_2 (by decide) kw_44 (b := true) rfl (fun _ => rfl) (so_iload (by decide +kernel) (so_iald (by decide +kernel) (so_iload_n (f := 3) (by decide +kernel) rfl (so_icmp (off := 59) (tgt := 98) (by decide +kernel) (by decide) rfl (sb_37_98 hj) (so_aload_n (f := 0) (by decide +kernel) rfl (so_get (C := RX2) (T := TX2) (N := 4) (by decide +kernel) rfl kin_2 (by decide) kw_46 (b := true) rfl (fun _ => rfl) (so_iload (by decide +kernel) (so_iload (by decide +kernel) (so_iast (by decide +kernel) (so_aload_n (f := 0) (by decide +kernel) rfl (so_aload_n (f := 1) (by decide +kernel) rfl (so_getN (C := RX7) (T := TX7) (N := 8) (by decide +kernel) rfl kin_7 (by decide) kw_60 (b := true) rfl (fun _ => rfl) (so_iload (by decide +kernel) (so_aload (by decide +kernel) (so_getN (C := RX1) (T := TX1) (N := 4) (by decide +kernel) rfl kin_1 (by decide) kw_81 (b := true) rfl (fun _ => rfl) (so_iload (by decide +kernel) (so_weak (so_callV (C := RX2) (T := TX2) (N0 := 4) (by decide +kernel) kcf_31 rfl rfl rfl kw_90 kw_91 kw_92 (by decide +kernel) (sb_31_0 hj) (so_aload_n (f := 0) (by decide +kernel) rfl (so_aload_n (f := 1) (by decide +kernel) rfl (so_getN (C := RX7) (T := TX7) (N := 8) (by decide +kernel) rfl kin_7 (by decide) kw_64 (b := true) rfl (fun _ => rfl) (so_iload (by decide +kernel) (so_aload (by decide +kernel) (so_getN (C := RX1) (T := TX1) (N := 4) (by decide +kernel) rfl kin_1 (by decide) kw_77 (b := true) rfl (fun _ => rfl) (so_iload (by decide +kernel) (so_weak (so_callV (C := RX2) (T := TX2) (N0 := 4) (by decide +kernel) kcf_31 rfl rfl rfl kw_90 kw_91 kw_92 (by decide +kernel) (sb_31_0 hj) (so_aload_n (f := 0) (by decide +kernel) rfl (so_aload (by decide +kernel) (so_iload (by decide +kernel) (so_iload (by decide +kernel) (so_weak (so_callV (C := RX2) (T := TX2) (N0 := 4) (by decide +kernel) kcf_36 rfl rfl rfl kw_93 kw_94 kw_95 (by decide +kernel) (sb_36_0 hj) (so_iinc (z := 1) (by decide +kernel) (by decide +kernel) (by decide) (by decide +kernel) (sb_37_98 hj))) (callvE_imp BK_N))))))) (callvE_imp BK_N)))))))))) (callvE_imp BK_N))))))))))))))))))))))))))))))
set_option maxRecDepth 20000 in
theorem sb_37_7 {j : AJ} (hj : SJ j) : Sound kM_37 7 (mb_37_7 j) := by
  refine so_weak (sc_37_7 hj) (fun L S h r q0 => ?_)
  obtain ⟨c0, L0_, rfl, q1⟩ := w_C_some q0
  obtain ⟨c1, L1_, rfl, q2⟩ := w_C_some q1
  obtain ⟨i2, L2_, rfl, q3⟩ := w_I_some q2
  obtain ⟨i3, L3_, rfl, q4⟩ := w_I_some q3
  obtain ⟨i4, L4_, rfl, q5⟩ := w_I_some q4
  obtain ⟨c5, L5_, rfl, q6⟩ := w_C_some q5
  obtain ⟨i6, L6_, rfl, q7⟩ := w_I_some q6
  obtain ⟨i7, L7_, rfl, q8⟩ := w_I_some q7
  obtain ⟨rfl, q9⟩ := w_0_some q8
  obtain ⟨rfl, q10⟩ := a_nil_some q9
  exact q10
set_option maxRecDepth 20000 in
theorem sc_37_0 {j : AJ} (hj : SJ j) : Sound kM_37 0 (mc_37_0 j) := by
  unfold mc_37_0
  exact so_iload (by decide +kernel) (so_istore (by decide +kernel) (by decide +kernel) (so_iconst (i := 0) (by decide +kernel) (by decide +kernel) (by decide) (so_istore (by decide +kernel) (by decide +kernel) (sb_37_7 hj))))
set_option maxRecDepth 20000 in
theorem sb_37_0 {j : AJ} (hj : SJ j) : Sound kM_37 0 (mb_37_0 j) := by
  refine so_weak (sc_37_0 hj) (fun L S h r q0 => ?_)
  obtain ⟨c0, L0_, rfl, q1⟩ := w_C_some q0
  obtain ⟨c1, L1_, rfl, q2⟩ := w_C_some q1
  obtain ⟨i2, L2_, rfl, q3⟩ := w_I_some q2
  obtain ⟨i3, L3_, rfl, q4⟩ := w_I_some q3
  obtain ⟨i4, L4_, rfl, q5⟩ := w_I_some q4
  obtain ⟨c5, L5_, rfl, q6⟩ := w_C_some q5
  obtain ⟨L6_, rfl, q7⟩ := w_N_some q6
  obtain ⟨L7_, rfl, q8⟩ := w_N_some q7
  obtain ⟨rfl, q9⟩ := w_0_some q8
  obtain ⟨rfl, q10⟩ := a_nil_some q9
  exact q10
set_option maxRecDepth 20000 in
theorem sc_38_60 {j : AJ} (hj : SJ j) : Sound kM_38 60 (mc_38_60 j) := by
  unfold mc_38_60
  exact so_aload_n (f := 3) (by decide +kernel) rfl (so_iload (by decide +kernel) (so_putIN (C := RX1) (T := TX1) (N := 4) (ty0 := tyX1) (by decide +kernel) rfl kin_1 tyX1_ok nmX1 (by decide) kw_96 rfl rfl rfl (so_aload_n (f := 3) (by decide +kernel) rfl (so_aload_n (f := 0) (by decide +kernel) rfl (so_get (C := RX2) (T := TX2) (N := 4) (by decide +kernel) rfl kin_2 (by decide) kw_44 (b := true) rfl (fun _ => rfl) (so_iload_n (f := 2) (by decide +kernel) rfl (so_iald (by decide +kernel) (so_putIN (C := RX1) (T := TX1) (N := 4) (ty0 := tyX1) (by decide +kernel) rfl kin_1 tyX1_ok nmX1 (by decide) kw_97 rfl rfl rfl (so_retv (by decide +kernel) rfl)))))))))
set_option maxRecDepth 20000 in
theorem sb_38_60 {j : AJ} (hj : SJ j) : Sound kM_38 60 (mb_38_60 j) := by
  refine so_weak (sc_38_60 hj) (fun L S h r q0 => ?_)
  obtain ⟨c0, L0_, rfl, q1⟩ := w_C_some q0
  obtain ⟨c1, L1_, rfl, q2⟩ := w_C_some q1
  obtain ⟨i2, L2_, rfl, q3⟩ := w_I_some q2
  obtain ⟨c3, L3_, rfl, q4⟩ := w_C_some q3
  obtain ⟨i4, L4_, rfl, q5⟩ := w_I_some q4
  obtain ⟨i5, L5_, rfl, q6⟩ := w_I_some q5
  obtain ⟨rfl, q7⟩ := w_0_some q6
  obtain ⟨rfl, q8⟩ := a_nil_some q7
  exact q8
set_option maxRecDepth 20000 in
theorem sc_38_30 {j : AJ} (hj : SJ j) : Sound kM_38 30 (mc_38_30 j) := by
  unfold mc_38_30
  exact so_iload (by decide +kernel) (so_aload_n (f := 0) (by decide +kernel) rfl (so_get (C := RX2) (T := TX2) (N := 4) (by decide +kernel) rfl kin_2 (by decide) kw_44 (b := true) rfl (fun _ => rfl) (so_iload_n (f := 2) (by decide +kernel) rfl (so_iald (by decide +kernel) (so_icmp (off := 22) (tgt := 60) (by decide +kernel) (by decide) rfl (sb_38_60 hj) (so_aload_n (f := 0) (by decide +kernel) rfl (so_aload_n (f := 1) (by decide +kernel) rfl (so_iload_n (f := 2) (by decide +kernel) rfl (so_iload (by decide +kernel) (so_iload (by decide +kernel) (so_aload_n (f := 3) (by decide +kernel) rfl (so_weak (so_callV (C := RX2) (T := TX2) (N0 := 4) (by decide +kernel) kcf_37 rfl rfl rfl kw_98 kw_99 kw_100 (by decide +kernel) (sb_37_0 hj) (so_istore (by decide +kernel) (by decide +kernel) (so_iinc (z := 1) (by decide +kernel) (by decide +kernel) (by decide) (by decide +kernel) (so_goto (off := -27) (tgt := 30) (by decide +kernel) (by decide) (hj 18 _ _ rfl))))) (callvE_imp BK_I)))))))))))))
set_option maxRecDepth 20000 in
theorem sb_38_30 {j : AJ} (hj : SJ j) : Sound kM_38 30 (mb_38_30 j) := by
  refine so_weak (sc_38_30 hj) (fun L S h r q0 => ?_)
  obtain ⟨c0, L0_, rfl, q1⟩ := w_C_some q0
  obtain ⟨c1, L1_, rfl, q2⟩ := w_C_some q1
  obtain ⟨i2, L2_, rfl, q3⟩ := w_I_some q2
  obtain ⟨c3, L3_, rfl, q4⟩ := w_C_some q3
  obtain ⟨i4, L4_, rfl, q5⟩ := w_I_some q4
  obtain ⟨i5, L5_, rfl, q6⟩ := w_I_some q5
  obtain ⟨rfl, q7⟩ := w_0_some q6
  obtain ⟨rfl, q8⟩ := a_nil_some q7
  exact q8
set_option maxRecDepth 20000 in
theorem sc_38_12 {j : AJ} (hj : SJ j) : Sound kM_38 12 (mc_38_12 j) := by
  unfold mc_38_12
  exact so_aload_n (f := 0) (by decide +kernel) rfl (so_aload_n (f := 1) (by decide +kernel) rfl (so_iload_n (f := 2) (by decide +kernel) rfl (so_weak (so_callV (C := RX2) (T := TX2) (N0 := 4) (by decide +kernel) kcf_25 rfl rfl rfl kw_101 kw_102 kw_103 (by decide +kernel) (sb_25_0 hj) (so_aload_n (f := 0) (by decide +kernel) rfl (so_aload_n (f := 1) (by decide +kernel) rfl (so_iload_n (f := 2) (by decide +kernel) rfl (so_weak (so_callV (C := RX2) (T := TX2) (N0 := 4) (by decide +kernel) kcf_27 rfl rfl rfl kw_104 kw_105 kw_106 (by decide +kernel) (sb_27_0 hj) (so_iconst (i := 0) (by decide +kernel) (by decide +kernel) (by decide) (so_istore (by decide +kernel) (by decide +kernel) (so_iconst (i := 0) (by decide +kernel) (by decide +kernel) (by decide) (so_istore (by decide +kernel) (by decide +kernel) (sb_38_30 hj)))))) (callvE_imp BK_N)))))) (callvE_imp BK_N))))
set_option maxRecDepth 20000 in
theorem sb_38_12 {j : AJ} (hj : SJ j) : Sound kM_38 12 (mb_38_12 j) := by
  refine so_weak (sc_38_12 hj) (fun L S h r q0 => ?_)
  obtain ⟨c0, L0_, rfl, q1⟩ := w_C_some q0
  obtain ⟨c1, L1_, rfl, q2⟩ := w_C_some q1
  obtain ⟨i2, L2_, rfl, q3⟩ := w_I_some q2
  obtain ⟨c3, L3_, rfl, q4⟩ := w_C_some q3
  obtain ⟨L4_, rfl, q5⟩ := w_N_some q4
  obtain ⟨L5_, rfl, q6⟩ := w_N_some q5
  obtain ⟨rfl, q7⟩ := w_0_some q6
  obtain ⟨rfl, q8⟩ := a_nil_some q7
  exact q8
set_option maxRecDepth 20000 in
theorem sc_38_11 {j : AJ} (hj : SJ j) : Sound kM_38 11 (mc_38_11 j) := by
  unfold mc_38_11
  exact so_retv (by decide +kernel) rfl
set_option maxRecDepth 20000 in
theorem sb_38_11 {j : AJ} (hj : SJ j) : Sound kM_38 11 (mb_38_11 j) := by
  refine so_weak (sc_38_11 hj) (fun L S h r q0 => ?_)
  obtain ⟨c0, L0_, rfl, q1⟩ := w_C_some q0
  obtain ⟨c1, L1_, rfl, q2⟩ := w_C_some q1
  obtain ⟨i2, L2_, rfl, q3⟩ := w_I_some q2
  obtain ⟨c3, L3_, rfl, q4⟩ := w_C_some q3
  obtain ⟨L4_, rfl, q5⟩ := w_N_some q4
  obtain ⟨L5_, rfl, q6⟩ := w_N_some q5
  obtain ⟨rfl, q7⟩ := w_0_some q6
  obtain ⟨rfl, q8⟩ := a_nil_some q7
  exact q8
set_option maxRecDepth 20000 in
theorem sc_38_0 {j : AJ} (hj : SJ j) : Sound kM_38 0 (mc_38_0 j) := by
  unfold mc_38_0
  exact so_iload_n (f := 2) (by decide +kernel) rfl (so_if (off := 10) (tgt := 11) (by decide +kernel) (by decide) rfl (sb_38_11 hj) (so_iload_n (f := 2) (by decide +kernel) rfl (so_sipush (i := 320) (by decide +kernel) (by decide +kernel) (by decide) (so_icmp (off := 4) (tgt := 12) (by decide +kernel) (by decide) rfl (sb_38_12 hj) (sb_38_11 hj)))))
set_option maxRecDepth 20000 in
theorem sb_38_0 {j : AJ} (hj : SJ j) : Sound kM_38 0 (mb_38_0 j) := by
  refine so_weak (sc_38_0 hj) (fun L S h r q0 => ?_)
  obtain ⟨c0, L0_, rfl, q1⟩ := w_C_some q0
  obtain ⟨c1, L1_, rfl, q2⟩ := w_C_some q1
  obtain ⟨i2, L2_, rfl, q3⟩ := w_I_some q2
  obtain ⟨c3, L3_, rfl, q4⟩ := w_C_some q3
  obtain ⟨L4_, rfl, q5⟩ := w_N_some q4
  obtain ⟨L5_, rfl, q6⟩ := w_N_some q5
  obtain ⟨rfl, q7⟩ := w_0_some q6
  obtain ⟨rfl, q8⟩ := a_nil_some q7
  exact q8
