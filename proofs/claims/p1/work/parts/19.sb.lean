/-! ===== the blocks are sound ===== -/
set_option maxRecDepth 20000 in
theorem sc_63_11 {j : AJ} (hj : SJ j) : Sound kM_63 11 (mc_63_11 j) := by
  unfold mc_63_11
  exact so_retl (by decide +kernel) rfl
set_option maxRecDepth 20000 in
theorem sb_63_11 {j : AJ} (hj : SJ j) : Sound kM_63 11 (mb_63_11 j) := by
  refine so_weak (sc_63_11 hj) (fun L S h r q0 => ?_)
  obtain ⟨l0, L0_, rfl, q1⟩ := w_L_some q0
  obtain ⟨L1_, rfl, q2⟩ := w_N_some q1
  obtain ⟨l2, L2_, rfl, q3⟩ := w_L_some q2
  obtain ⟨L3_, rfl, q4⟩ := w_N_some q3
  obtain ⟨rfl, q5⟩ := w_0_some q4
  obtain ⟨s0, S0_, rfl, q6⟩ := a_popL_some q5
  obtain ⟨rfl, q7⟩ := a_nil_some q6
  exact q7
set_option maxRecDepth 20000 in
theorem sc_63_10 {j : AJ} (hj : SJ j) : Sound kM_63 10 (mc_63_10 j) := by
  unfold mc_63_10
  exact so_lload_n (f := 2) (by decide +kernel) rfl (sb_63_11 hj)
set_option maxRecDepth 20000 in
theorem sb_63_10 {j : AJ} (hj : SJ j) : Sound kM_63 10 (mb_63_10 j) := by
  refine so_weak (sc_63_10 hj) (fun L S h r q0 => ?_)
  obtain ⟨l0, L0_, rfl, q1⟩ := w_L_some q0
  obtain ⟨L1_, rfl, q2⟩ := w_N_some q1
  obtain ⟨l2, L2_, rfl, q3⟩ := w_L_some q2
  obtain ⟨L3_, rfl, q4⟩ := w_N_some q3
  obtain ⟨rfl, q5⟩ := w_0_some q4
  obtain ⟨rfl, q6⟩ := a_nil_some q5
  exact q6
set_option maxRecDepth 20000 in
theorem sc_63_0 {j : AJ} (hj : SJ j) : Sound kM_63 0 (mc_63_0 j) := by
  unfold mc_63_0
  exact so_lload_n (f := 0) (by decide +kernel) rfl (so_lload_n (f := 2) (by decide +kernel) rfl (so_lcmp (by decide +kernel) (so_if (off := 7) (tgt := 10) (by decide +kernel) (by decide) rfl (sb_63_10 hj) (so_lload_n (f := 0) (by decide +kernel) rfl (so_goto (off := 4) (tgt := 11) (by decide +kernel) (by decide) (sb_63_11 hj))))))
set_option maxRecDepth 20000 in
theorem sb_63_0 {j : AJ} (hj : SJ j) : Sound kM_63 0 (mb_63_0 j) := by
  refine so_weak (sc_63_0 hj) (fun L S h r q0 => ?_)
  obtain ⟨l0, L0_, rfl, q1⟩ := w_L_some q0
  obtain ⟨L1_, rfl, q2⟩ := w_N_some q1
  obtain ⟨l2, L2_, rfl, q3⟩ := w_L_some q2
  obtain ⟨L3_, rfl, q4⟩ := w_N_some q3
  obtain ⟨rfl, q5⟩ := w_0_some q4
  obtain ⟨rfl, q6⟩ := a_nil_some q5
  exact q6
set_option maxRecDepth 20000 in
theorem sb_64_51 {j : AJ} (hj : SJ j) : Sound kM_64 51 (mb_64_51 j) := by
  unfold mb_64_51
  exact so_lload_n (f := 3) (by decide +kernel) rfl (so_retl (by decide +kernel) rfl)
set_option maxRecDepth 20000 in
theorem sb_64_12 {j : AJ} (hj : SJ j) : Sound kM_64 12 (mb_64_12 j) := by
  unfold mb_64_12
  exact so_iload (by decide +kernel) (so_iload_n (f := 2) (by decide +kernel) rfl (so_icmp (off := 36) (tgt := 51) (by decide +kernel) (by decide) rfl (sb_64_51 hj) (so_lload_n (f := 3) (by decide +kernel) rfl (so_aload_n (f := 0) (by decide +kernel) rfl (so_get (C := RX6) (T := TX6) (N := 4) (by decide +kernel) rfl kin_6 (by decide) kw_151 (b := true) rfl (fun _ => rfl) (so_iload (by decide +kernel) (so_lald (by decide +kernel) (so_callS (by decide +kernel) kcf_63 rfl kw_162 kw_163 (by decide +kernel) (sb_63_0 hj) (so_lstore_n (f := 3) (by decide +kernel) rfl (by decide +kernel) (so_iload (by decide +kernel) (so_iconst (i := 1) (by decide +kernel) (by decide +kernel) (by decide) (so_iadd (by decide +kernel) (so_aload_n (f := 1) (by decide +kernel) rfl (so_iload_n (f := 2) (by decide +kernel) rfl (so_iload (by decide +kernel) (so_iconst (i := 1) (by decide +kernel) (by decide +kernel) (by decide) (so_iadd (by decide +kernel) (so_callV (C := RX5) (T := TX5) (N0 := 2) (by decide +kernel) kcf_23 rfl rfl rfl kw_164 kw_57 kw_58 (by decide +kernel) (sb_23_0 hj) (so_callS (by decide +kernel) kcf_16 rfl kw_165 kw_27 (by decide +kernel) (sb_16_0 hj) (so_istore (by decide +kernel) (by decide +kernel) (so_goto (off := -36) (tgt := 12) (by decide +kernel) (by decide) (hj 28 _ _ rfl))))))))))))))))))))))
set_option maxRecDepth 20000 in
theorem sb_64_0 {j : AJ} (hj : SJ j) : Sound kM_64 0 (mb_64_0 j) := by
  unfold mb_64_0
  exact so_ldc2w (i := 81) (by decide +kernel) kw_166 (by decide) (so_lstore_n (f := 3) (by decide +kernel) rfl (by decide +kernel) (so_aload_n (f := 1) (by decide +kernel) rfl (so_iload_n (f := 2) (by decide +kernel) rfl (so_iconst (i := 0) (by decide +kernel) (by decide +kernel) (by decide) (so_callV (C := RX5) (T := TX5) (N0 := 2) (by decide +kernel) kcf_23 rfl rfl rfl kw_164 kw_57 kw_58 (by decide +kernel) (sb_23_0 hj) (so_istore (by decide +kernel) (by decide +kernel) (sb_64_12 hj)))))))
set_option maxRecDepth 20000 in
theorem sc_65_11 {j : AJ} (hj : SJ j) : Sound kM_65 11 (mc_65_11 j) := by
  unfold mc_65_11
  exact so_retl (by decide +kernel) rfl
set_option maxRecDepth 20000 in
theorem sb_65_11 {j : AJ} (hj : SJ j) : Sound kM_65 11 (mb_65_11 j) := by
  refine so_weak (sc_65_11 hj) (fun L S h r q0 => ?_)
  obtain ⟨l0, L0_, rfl, q1⟩ := w_L_some q0
  obtain ⟨L1_, rfl, q2⟩ := w_N_some q1
  obtain ⟨l2, L2_, rfl, q3⟩ := w_L_some q2
  obtain ⟨L3_, rfl, q4⟩ := w_N_some q3
  obtain ⟨rfl, q5⟩ := w_0_some q4
  obtain ⟨s0, S0_, rfl, q6⟩ := a_popL_some q5
  obtain ⟨rfl, q7⟩ := a_nil_some q6
  exact q7
set_option maxRecDepth 20000 in
theorem sc_65_10 {j : AJ} (hj : SJ j) : Sound kM_65 10 (mc_65_10 j) := by
  unfold mc_65_10
  exact so_lload_n (f := 2) (by decide +kernel) rfl (sb_65_11 hj)
set_option maxRecDepth 20000 in
theorem sb_65_10 {j : AJ} (hj : SJ j) : Sound kM_65 10 (mb_65_10 j) := by
  refine so_weak (sc_65_10 hj) (fun L S h r q0 => ?_)
  obtain ⟨l0, L0_, rfl, q1⟩ := w_L_some q0
  obtain ⟨L1_, rfl, q2⟩ := w_N_some q1
  obtain ⟨l2, L2_, rfl, q3⟩ := w_L_some q2
  obtain ⟨L3_, rfl, q4⟩ := w_N_some q3
  obtain ⟨rfl, q5⟩ := w_0_some q4
  obtain ⟨rfl, q6⟩ := a_nil_some q5
  exact q6
set_option maxRecDepth 20000 in
theorem sc_65_0 {j : AJ} (hj : SJ j) : Sound kM_65 0 (mc_65_0 j) := by
  unfold mc_65_0
  exact so_lload_n (f := 0) (by decide +kernel) rfl (so_lload_n (f := 2) (by decide +kernel) rfl (so_lcmp (by decide +kernel) (so_if (off := 7) (tgt := 10) (by decide +kernel) (by decide) rfl (sb_65_10 hj) (so_lload_n (f := 0) (by decide +kernel) rfl (so_goto (off := 4) (tgt := 11) (by decide +kernel) (by decide) (sb_65_11 hj))))))
set_option maxRecDepth 20000 in
theorem sb_65_0 {j : AJ} (hj : SJ j) : Sound kM_65 0 (mb_65_0 j) := by
  refine so_weak (sc_65_0 hj) (fun L S h r q0 => ?_)
  obtain ⟨l0, L0_, rfl, q1⟩ := w_L_some q0
  obtain ⟨L1_, rfl, q2⟩ := w_N_some q1
  obtain ⟨l2, L2_, rfl, q3⟩ := w_L_some q2
  obtain ⟨L3_, rfl, q4⟩ := w_N_some q3
  obtain ⟨rfl, q5⟩ := w_0_some q4
  obtain ⟨rfl, q6⟩ := a_nil_some q5
  exact q6
set_option maxRecDepth 20000 in
theorem sb_66_51 {j : AJ} (hj : SJ j) : Sound kM_66 51 (mb_66_51 j) := by
  unfold mb_66_51
  exact so_lload_n (f := 3) (by decide +kernel) rfl (so_retl (by decide +kernel) rfl)
set_option maxRecDepth 20000 in
theorem sb_66_12 {j : AJ} (hj : SJ j) : Sound kM_66 12 (mb_66_12 j) := by
  unfold mb_66_12
  exact so_iload (by decide +kernel) (so_iload_n (f := 2) (by decide +kernel) rfl (so_icmp (off := 36) (tgt := 51) (by decide +kernel) (by decide) rfl (sb_66_51 hj) (so_lload_n (f := 3) (by decide +kernel) rfl (so_aload_n (f := 0) (by decide +kernel) rfl (so_get (C := RX6) (T := TX6) (N := 4) (by decide +kernel) rfl kin_6 (by decide) kw_150 (b := true) rfl (fun _ => rfl) (so_iload (by decide +kernel) (so_lald (by decide +kernel) (so_callS (by decide +kernel) kcf_65 rfl kw_167 kw_168 (by decide +kernel) (sb_65_0 hj) (so_lstore_n (f := 3) (by decide +kernel) rfl (by decide +kernel) (so_iload (by decide +kernel) (so_iconst (i := 1) (by decide +kernel) (by decide +kernel) (by decide) (so_iadd (by decide +kernel) (so_aload_n (f := 1) (by decide +kernel) rfl (so_iload_n (f := 2) (by decide +kernel) rfl (so_iload (by decide +kernel) (so_iconst (i := 1) (by decide +kernel) (by decide +kernel) (by decide) (so_iadd (by decide +kernel) (so_callV (C := RX5) (T := TX5) (N0 := 2) (by decide +kernel) kcf_23 rfl rfl rfl kw_164 kw_57 kw_58 (by decide +kernel) (sb_23_0 hj) (so_callS (by decide +kernel) kcf_16 rfl kw_165 kw_27 (by decide +kernel) (sb_16_0 hj) (so_istore (by decide +kernel) (by decide +kernel) (so_goto (off := -36) (tgt := 12) (by decide +kernel) (by decide) (hj 29 _ _ rfl))))))))))))))))))))))
set_option maxRecDepth 20000 in
theorem sb_66_0 {j : AJ} (hj : SJ j) : Sound kM_66 0 (mb_66_0 j) := by
  unfold mb_66_0
  exact so_ldc2w (i := 94) (by decide +kernel) kw_169 (by decide) (so_lstore_n (f := 3) (by decide +kernel) rfl (by decide +kernel) (so_aload_n (f := 1) (by decide +kernel) rfl (so_iload_n (f := 2) (by decide +kernel) rfl (so_iconst (i := 0) (by decide +kernel) (by decide +kernel) (by decide) (so_callV (C := RX5) (T := TX5) (N0 := 2) (by decide +kernel) kcf_23 rfl rfl rfl kw_164 kw_57 kw_58 (by decide +kernel) (sb_23_0 hj) (so_istore (by decide +kernel) (by decide +kernel) (sb_66_12 hj)))))))
set_option maxRecDepth 20000 in
theorem sb_67_74 {j : AJ} (hj : SJ j) : Sound kM_67 74 (mb_67_74 j) := by
  unfold mb_67_74
  exact so_retv (by decide +kernel) rfl
set_option maxRecDepth 20000 in
theorem sb_67_68 {j : AJ} (hj : SJ j) : Sound kM_67 68 (mb_67_68 j) := by
  unfold mb_67_68
  exact so_iinc (z := 1) (by decide +kernel) (by decide +kernel) (by decide) (by decide +kernel) (so_goto (off := -69) (tgt := 2) (by decide +kernel) (by decide) (hj 30 _ _ rfl))
set_option maxRecDepth 20000 in
theorem sb_67_2 {j : AJ} (hj : SJ j) : Sound kM_67 2 (mb_67_2 j) := by
  unfold mb_67_2
  exact so_iload_n (f := 2) (by decide +kernel) rfl (so_aload_n (f := 1) (by decide +kernel) rfl (so_getN (C := RX1) (T := TX1) (N := 4) (by decide +kernel) rfl kin_1 (by decide) kw_170 (b := false) rfl (fun _ => rfl) (so_icmp (off := 67) (tgt := 74) (by decide +kernel) (by decide) rfl (sb_67_74 hj) (so_iload_n (f := 2) (by decide +kernel) rfl (so_sipush (i := 320) (by decide +kernel) (by decide +kernel) (by decide) (so_icmp (off := 60) (tgt := 74) (by decide +kernel) (by decide) rfl (sb_67_74 hj) (so_aload_n (f := 0) (by decide +kernel) rfl (so_get (C := RX6) (T := TX6) (N := 4) (by decide +kernel) rfl kin_6 (by decide) kw_149 (b := true) rfl (fun _ => rfl) (so_iload_n (f := 2) (by decide +kernel) rfl (so_aload_n (f := 0) (by decide +kernel) rfl (so_aload_n (f := 1) (by decide +kernel) rfl (so_iload_n (f := 2) (by decide +kernel) rfl (so_callV (C := RX6) (T := TX6) (N0 := 4) (by decide +kernel) kcf_62 rfl rfl rfl kw_171 kw_172 kw_173 (by decide +kernel) (sb_62_0 hj) (so_zast (by decide +kernel) (so_aload_n (f := 0) (by decide +kernel) rfl (so_get (C := RX6) (T := TX6) (N := 4) (by decide +kernel) rfl kin_6 (by decide) kw_149 (b := true) rfl (fun _ => rfl) (so_iload_n (f := 2) (by decide +kernel) rfl (so_zald (by decide +kernel) (so_if (off := 33) (tgt := 68) (by decide +kernel) (by decide) rfl (sb_67_68 hj) (so_aload_n (f := 0) (by decide +kernel) rfl (so_get (C := RX6) (T := TX6) (N := 4) (by decide +kernel) rfl kin_6 (by decide) kw_150 (b := true) rfl (fun _ => rfl) (so_iload_n (f := 2) (by decide +kernel) rfl (so_aload_n (f := 0) (by decide +kernel) rfl (so_aload_n (f := 1) (by decide +kernel) rfl (so_getN (C := RX1) (T := TX1) (N := 4) (by decide +kernel) rfl kin_1 (by decide) kw_159 (b := true) rfl (fun _ => rfl) (so_iload_n (f := 2) (by decide +kernel) rfl (so_callV (C := RX6) (T := TX6) (N0 := 4) (by decide +kernel) kcf_64 rfl rfl rfl kw_174 kw_175 kw_176 (by decide +kernel) (sb_64_0 hj) (so_last (by decide +kernel) (so_aload_n (f := 0) (by decide +kernel) rfl (so_get (C := RX6) (T := TX6) (N := 4) (by decide +kernel) rfl kin_6 (by decide) kw_151 (b := true) rfl (fun _ => rfl) (so_iload_n (f := 2) (by decide +kernel) rfl (so_aload_n (f := 0) (by decide +kernel) rfl (so_aload_n (f := 1) (by decide +kernel) rfl (so_getN (C := RX1) (T := TX1) (N := 4) (by decide +kernel) rfl kin_1 (by decide) kw_158 (b := true) rfl (fun _ => rfl) (so_iload_n (f := 2) (by decide +kernel) rfl (so_callV (C := RX6) (T := TX6) (N0 := 4) (by decide +kernel) kcf_66 rfl rfl rfl kw_177 kw_178 kw_179 (by decide +kernel) (sb_66_0 hj) (so_last (by decide +kernel) (sb_67_68 hj))))))))))))))))))))))))))))))))))))))
set_option maxRecDepth 20000 in
theorem sb_67_0 {j : AJ} (hj : SJ j) : Sound kM_67 0 (mb_67_0 j) := by
  unfold mb_67_0
  exact so_iconst (i := 0) (by decide +kernel) (by decide +kernel) (by decide) (so_istore_n (f := 2) (by decide +kernel) rfl (by decide +kernel) (sb_67_2 hj))
set_option maxRecDepth 20000 in
theorem sb_68_69 {j : AJ} (hj : SJ j) : Sound kM_68 69 (mb_68_69 j) := by
  unfold mb_68_69
  exact so_retz (by decide +kernel) rfl
set_option maxRecDepth 20000 in
theorem sb_68_68 {j : AJ} (hj : SJ j) : Sound kM_68 68 (mb_68_68 j) := by
  unfold mb_68_68
  exact so_iconst (i := 0) (by decide +kernel) (by decide +kernel) (by decide) (sb_68_69 hj)
set_option maxRecDepth 20000 in
theorem sb_68_0 {j : AJ} (hj : SJ j) : Sound kM_68 0 (mb_68_0 j) := by
  unfold mb_68_0
  exact so_aload_n (f := 1) (by decide +kernel) rfl (so_getN (C := RX1) (T := TX1) (N := 4) (by decide +kernel) rfl kin_1 (by decide) kw_159 (b := true) rfl (fun _ => rfl) (so_iload_n (f := 2) (by decide +kernel) rfl (so_callS (by decide +kernel) kcf_61 rfl kw_160 kw_161 (by decide +kernel) (sb_61_0 hj) (so_istore_n (f := 3) (by decide +kernel) rfl (by decide +kernel) (so_aload_n (f := 1) (by decide +kernel) rfl (so_getN (C := RX1) (T := TX1) (N := 4) (by decide +kernel) rfl kin_1 (by decide) kw_158 (b := true) rfl (fun _ => rfl) (so_iload_n (f := 2) (by decide +kernel) rfl (so_callS (by decide +kernel) kcf_61 rfl kw_160 kw_161 (by decide +kernel) (sb_61_0 hj) (so_istore (by decide +kernel) (by decide +kernel) (so_iload_n (f := 3) (by decide +kernel) rfl (so_if (off := 48) (tgt := 68) (by decide +kernel) (by decide) rfl (sb_68_68 hj) (so_iload (by decide +kernel) (so_if (off := 43) (tgt := 68) (by decide +kernel) (by decide) rfl (sb_68_68 hj) (so_aload_n (f := 0) (by decide +kernel) rfl (so_get (C := RX6) (T := TX6) (N := 4) (by decide +kernel) rfl kin_6 (by decide) kw_149 (b := true) rfl (fun _ => rfl) (so_iload_n (f := 3) (by decide +kernel) rfl (so_zald (by decide +kernel) (so_if (off := 34) (tgt := 68) (by decide +kernel) (by decide) rfl (sb_68_68 hj) (so_aload_n (f := 0) (by decide +kernel) rfl (so_get (C := RX6) (T := TX6) (N := 4) (by decide +kernel) rfl kin_6 (by decide) kw_149 (b := true) rfl (fun _ => rfl) (so_iload (by decide +kernel) (so_zald (by decide +kernel) (so_if (off := 24) (tgt := 68) (by decide +kernel) (by decide) rfl (sb_68_68 hj) (so_aload_n (f := 0) (by decide +kernel) rfl (so_get (C := RX6) (T := TX6) (N := 4) (by decide +kernel) rfl kin_6 (by decide) kw_150 (b := true) rfl (fun _ => rfl) (so_iload_n (f := 3) (by decide +kernel) rfl (so_lald (by decide +kernel) (so_aload_n (f := 0) (by decide +kernel) rfl (so_get (C := RX6) (T := TX6) (N := 4) (by decide +kernel) rfl kin_6 (by decide) kw_150 (b := true) rfl (fun _ => rfl) (so_iload (by decide +kernel) (so_lald (by decide +kernel) (so_lcmp (by decide +kernel) (so_if (off := 7) (tgt := 68) (by decide +kernel) (by decide) rfl (sb_68_68 hj) (so_iconst (i := 1) (by decide +kernel) (by decide +kernel) (by decide) (so_goto (off := 4) (tgt := 69) (by decide +kernel) (by decide) (sb_68_69 hj))))))))))))))))))))))))))))))))))))
set_option maxRecDepth 20000 in
theorem sc_69_18 {j : AJ} (hj : SJ j) : Sound kM_69 18 (mc_69_18 j) := by
  unfold mc_69_18
  exact so_iload_n (f := 2) (by decide +kernel) rfl (so_reti (by decide +kernel) rfl)
set_option maxRecDepth 20000 in
theorem sb_69_18 {j : AJ} (hj : SJ j) : Sound kM_69 18 (mb_69_18 j) := by
  refine so_weak (sc_69_18 hj) (fun L S h r q0 => ?_)
  obtain ⟨i0, L0_, rfl, q1⟩ := w_I_some q0
  obtain ⟨i1, L1_, rfl, q2⟩ := w_I_some q1
  obtain ⟨i2, L2_, rfl, q3⟩ := w_I_some q2
  obtain ⟨rfl, q4⟩ := w_0_some q3
  obtain ⟨rfl, q5⟩ := a_nil_some q4
  exact q5
set_option maxRecDepth 20000 in
theorem sc_69_0 {j : AJ} (hj : SJ j) : Sound kM_69 0 (mc_69_0 j) := by
  unfold mc_69_0
  exact so_iload_n (f := 0) (by decide +kernel) rfl (so_iload_n (f := 1) (by decide +kernel) rfl (so_irem (by decide +kernel) (so_istore_n (f := 2) (by decide +kernel) rfl (by decide +kernel) (so_iload_n (f := 0) (by decide +kernel) rfl (so_iload_n (f := 1) (by decide +kernel) rfl (so_ixor (by decide +kernel) (so_if (off := 11) (tgt := 18) (by decide +kernel) (by decide) rfl (sb_69_18 hj) (so_iload_n (f := 2) (by decide +kernel) rfl (so_if (off := 7) (tgt := 18) (by decide +kernel) (by decide) rfl (sb_69_18 hj) (so_iload_n (f := 2) (by decide +kernel) rfl (so_iload_n (f := 1) (by decide +kernel) rfl (so_iadd (by decide +kernel) (so_reti (by decide +kernel) rfl)))))))))))))
set_option maxRecDepth 20000 in
theorem sb_69_0 {j : AJ} (hj : SJ j) : Sound kM_69 0 (mb_69_0 j) := by
  refine so_weak (sc_69_0 hj) (fun L S h r q0 => ?_)
  obtain ⟨i0, L0_, rfl, q1⟩ := w_I_some q0
  obtain ⟨i1, L1_, rfl, q2⟩ := w_I_some q1
  obtain ⟨L2_, rfl, q3⟩ := w_N_some q2
  obtain ⟨rfl, q4⟩ := w_0_some q3
  obtain ⟨rfl, q5⟩ := a_nil_some q4
  exact q5
set_option maxRecDepth 20000 in
theorem sb_70_20 {j : AJ} (hj : SJ j) : Sound kM_70 20 (mb_70_20 j) := by
  unfold mb_70_20
  exact so_reti (by decide +kernel) rfl
set_option maxRecDepth 20000 in
theorem sb_70_11 {j : AJ} (hj : SJ j) : Sound kM_70 11 (mb_70_11 j) := by
  unfold mb_70_11
  exact so_iconst (i := 2) (by decide +kernel) (by decide +kernel) (by decide) (so_iload_n (f := 0) (by decide +kernel) rfl (so_iconst (i := 2) (by decide +kernel) (by decide +kernel) (by decide) (so_callS (by decide +kernel) kcf_69 rfl kw_180 kw_181 (by decide +kernel) (sb_69_0 hj) (so_imul (by decide +kernel) (so_iload_n (f := 0) (by decide +kernel) rfl (so_isub (by decide +kernel) (sb_70_20 hj)))))))
set_option maxRecDepth 20000 in
theorem sb_70_0 {j : AJ} (hj : SJ j) : Sound kM_70 0 (mb_70_0 j) := by
  unfold mb_70_0
  exact so_iload_n (f := 0) (by decide +kernel) rfl (so_ldci (i := 45) (by decide +kernel) kw_182 (by decide) (so_icmp (off := 8) (tgt := 11) (by decide +kernel) (by decide) rfl (sb_70_11 hj) (so_ldci (i := 45) (by decide +kernel) kw_182 (by decide) (so_goto (off := 12) (tgt := 20) (by decide +kernel) (by decide) (sb_70_20 hj)))))
set_option maxRecDepth 20000 in
theorem sb_71_20 {j : AJ} (hj : SJ j) : Sound kM_71 20 (mb_71_20 j) := by
  unfold mb_71_20
  exact so_reti (by decide +kernel) rfl
set_option maxRecDepth 20000 in
theorem sb_71_9 {j : AJ} (hj : SJ j) : Sound kM_71 9 (mb_71_9 j) := by
  unfold mb_71_9
  exact so_iload_n (f := 0) (by decide +kernel) rfl (so_iconst (i := 3) (by decide +kernel) (by decide +kernel) (by decide) (so_iadd (by decide +kernel) (so_iconst (i := 2) (by decide +kernel) (by decide +kernel) (by decide) (so_iload_n (f := 0) (by decide +kernel) rfl (so_iconst (i := 2) (by decide +kernel) (by decide +kernel) (by decide) (so_callS (by decide +kernel) kcf_69 rfl kw_180 kw_181 (by decide +kernel) (sb_69_0 hj) (so_imul (by decide +kernel) (so_isub (by decide +kernel) (sb_71_20 hj)))))))))
set_option maxRecDepth 20000 in
theorem sb_71_0 {j : AJ} (hj : SJ j) : Sound kM_71 0 (mb_71_0 j) := by
  unfold mb_71_0
  exact so_iload_n (f := 0) (by decide +kernel) rfl (so_if (off := 8) (tgt := 9) (by decide +kernel) (by decide) rfl (sb_71_9 hj) (so_ldci (i := 45) (by decide +kernel) kw_182 (by decide) (so_goto (off := 14) (tgt := 20) (by decide +kernel) (by decide) (sb_71_20 hj))))
set_option maxRecDepth 20000 in
theorem sb_72_159 {j : AJ} (hj : SJ j) : Sound kM_72 159 (mb_72_159 j) := by
  unfold mb_72_159
  exact so_reti (by decide +kernel) rfl
set_option maxRecDepth 20000 in
theorem sb_72_157 {j : AJ} (hj : SJ j) : Sound kM_72 157 (mb_72_157 j) := by
  unfold mb_72_157
  exact so_ldci (i := 45) (by decide +kernel) kw_182 (by decide) (sb_72_159 hj)
set_option maxRecDepth 20000 in
theorem sb_72_135 {j : AJ} (hj : SJ j) : Sound kM_72 135 (mb_72_135 j) := by
  unfold mb_72_135
  exact so_istore (by decide +kernel) (by decide +kernel) (so_iload (by decide +kernel) (so_if (off := 18) (tgt := 157) (by decide +kernel) (by decide) rfl (sb_72_157 hj) (so_aload_n (f := 0) (by decide +kernel) rfl (so_get (C := RX6) (T := TX6) (N := 4) (by decide +kernel) rfl kin_6 (by decide) kw_152 (b := true) rfl (fun _ => rfl) (so_iload (by decide +kernel) (so_iald (by decide +kernel) (so_iconst (i := 1) (by decide +kernel) (by decide +kernel) (by decide) (so_icmp (off := 7) (tgt := 157) (by decide +kernel) (by decide) rfl (sb_72_157 hj) (so_iconst (i := 3) (by decide +kernel) (by decide +kernel) (by decide) (so_goto (off := 5) (tgt := 159) (by decide +kernel) (by decide) (sb_72_159 hj)))))))))))
set_option maxRecDepth 20000 in
theorem sb_72_134 {j : AJ} (hj : SJ j) : Sound kM_72 134 (mb_72_134 j) := by
  unfold mb_72_134
  exact so_iconst (i := 0) (by decide +kernel) (by decide +kernel) (by decide) (sb_72_135 hj)
set_option maxRecDepth 20000 in
theorem sb_72_101 {j : AJ} (hj : SJ j) : Sound kM_72 101 (mb_72_101 j) := by
  unfold mb_72_101
  exact so_aload (by decide +kernel) (so_iload_n (f := 2) (by decide +kernel) rfl (so_iconst (i := 1) (by decide +kernel) (by decide +kernel) (by decide) (so_callV (C := RX5) (T := TX5) (N0 := 2) (by decide +kernel) kcf_58 rfl rfl rfl kw_154 kw_155 kw_156 (by decide +kernel) (sb_58_0 hj) (so_istore (by decide +kernel) (by decide +kernel) (so_iload (by decide +kernel) (so_if (off := 22) (tgt := 134) (by decide +kernel) (by decide) rfl (sb_72_134 hj) (so_aload (by decide +kernel) (so_iload_n (f := 2) (by decide +kernel) rfl (so_callV (C := RX5) (T := TX5) (N0 := 2) (by decide +kernel) kcf_32 rfl rfl rfl kw_153 kw_83 kw_84 (by decide +kernel) (sb_32_0 hj) (so_iconst (i := 2) (by decide +kernel) (by decide +kernel) (by decide) (so_icmp (off := 12) (tgt := 134) (by decide +kernel) (by decide) rfl (sb_72_134 hj) (so_iload (by decide +kernel) (so_if (off := 7) (tgt := 134) (by decide +kernel) (by decide) rfl (sb_72_134 hj) (so_iconst (i := 1) (by decide +kernel) (by decide +kernel) (by decide) (so_goto (off := 4) (tgt := 135) (by decide +kernel) (by decide) (sb_72_135 hj))))))))))))))))
set_option maxRecDepth 20000 in
theorem sb_72_100 {j : AJ} (hj : SJ j) : Sound kM_72 100 (mb_72_100 j) := by
  unfold mb_72_100
  exact so_reti (by decide +kernel) rfl
set_option maxRecDepth 20000 in
theorem sb_72_95 {j : AJ} (hj : SJ j) : Sound kM_72 95 (mb_72_95 j) := by
  unfold mb_72_95
  exact so_iload (by decide +kernel) (so_callS (by decide +kernel) kcf_71 rfl kw_183 kw_184 (by decide +kernel) (sb_71_0 hj) (sb_72_100 hj))
set_option maxRecDepth 20000 in
theorem sb_72_84 {j : AJ} (hj : SJ j) : Sound kM_72 84 (mb_72_84 j) := by
  unfold mb_72_84
  exact so_istore (by decide +kernel) (by decide +kernel) (so_iload (by decide +kernel) (so_if (off := 7) (tgt := 95) (by decide +kernel) (by decide) rfl (sb_72_95 hj) (so_iconst (i := 1) (by decide +kernel) (by decide +kernel) (by decide) (so_goto (off := 8) (tgt := 100) (by decide +kernel) (by decide) (sb_72_100 hj)))))
set_option maxRecDepth 20000 in
theorem sb_72_74 {j : AJ} (hj : SJ j) : Sound kM_72 74 (mb_72_74 j) := by
  unfold mb_72_74
  exact so_aload_n (f := 0) (by decide +kernel) rfl (so_get (C := RX6) (T := TX6) (N := 4) (by decide +kernel) rfl kin_6 (by decide) kw_152 (b := true) rfl (fun _ => rfl) (so_iload (by decide +kernel) (so_iald (by decide +kernel) (so_callS (by decide +kernel) kcf_70 rfl kw_185 kw_186 (by decide +kernel) (sb_70_0 hj) (sb_72_84 hj)))))
set_option maxRecDepth 20000 in
theorem sb_72_50 {j : AJ} (hj : SJ j) : Sound kM_72 50 (mb_72_50 j) := by
  unfold mb_72_50
  exact so_aload (by decide +kernel) (so_iload_n (f := 2) (by decide +kernel) rfl (so_callV (C := RX5) (T := TX5) (N0 := 2) (by decide +kernel) kcf_32 rfl rfl rfl kw_153 kw_83 kw_84 (by decide +kernel) (sb_32_0 hj) (so_iconst (i := 1) (by decide +kernel) (by decide +kernel) (by decide) (so_icmp (off := 44) (tgt := 101) (by decide +kernel) (by decide) rfl (sb_72_101 hj) (so_iload_n (f := 3) (by decide +kernel) rfl (so_if (off := 13) (tgt := 74) (by decide +kernel) (by decide) rfl (sb_72_74 hj) (so_aload_n (f := 0) (by decide +kernel) rfl (so_get (C := RX6) (T := TX6) (N := 4) (by decide +kernel) rfl kin_6 (by decide) kw_152 (b := true) rfl (fun _ => rfl) (so_iload (by decide +kernel) (so_iald (by decide +kernel) (so_goto (off := 13) (tgt := 84) (by decide +kernel) (by decide) (sb_72_84 hj))))))))))))
set_option maxRecDepth 20000 in
theorem sb_72_47 {j : AJ} (hj : SJ j) : Sound kM_72 47 (mb_72_47 j) := by
  unfold mb_72_47
  exact so_ldci (i := 45) (by decide +kernel) kw_182 (by decide) (so_reti (by decide +kernel) rfl)
set_option maxRecDepth 20000 in
theorem sb_72_0 {j : AJ} (hj : SJ j) : Sound kM_72 0 (mb_72_0 j) := by
  unfold mb_72_0
  exact so_aload_n (f := 1) (by decide +kernel) rfl (so_iload_n (f := 3) (by decide +kernel) rfl (so_callV (C := RX1) (T := TX1) (N0 := 4) (by decide +kernel) kcf_19 rfl rfl rfl kw_187 kw_188 kw_189 (by decide +kernel) (sb_19_0 hj) (so_astore (by decide +kernel) (by decide +kernel) (so_aload_n (f := 1) (by decide +kernel) rfl (so_iconst (i := 1) (by decide +kernel) (by decide +kernel) (by decide) (so_iload_n (f := 3) (by decide +kernel) rfl (so_isub (by decide +kernel) (so_callV (C := RX1) (T := TX1) (N0 := 4) (by decide +kernel) kcf_19 rfl rfl rfl kw_187 kw_188 kw_189 (by decide +kernel) (sb_19_0 hj) (so_iload_n (f := 2) (by decide +kernel) rfl (so_callS (by decide +kernel) kcf_61 rfl kw_160 kw_161 (by decide +kernel) (sb_61_0 hj) (so_istore (by decide +kernel) (by decide +kernel) (so_iload (by decide +kernel) (so_if (off := 25) (tgt := 47) (by decide +kernel) (by decide) rfl (sb_72_47 hj) (so_aload (by decide +kernel) (so_iload_n (f := 2) (by decide +kernel) rfl (so_iconst (i := 0) (by decide +kernel) (by decide +kernel) (by decide) (so_callV (C := RX5) (T := TX5) (N0 := 2) (by decide +kernel) kcf_54 rfl rfl rfl kw_190 kw_191 kw_192 (by decide +kernel) (sb_54_0 hj) (so_if (off := 15) (tgt := 47) (by decide +kernel) (by decide) rfl (sb_72_47 hj) (so_aload_n (f := 0) (by decide +kernel) rfl (so_get (C := RX6) (T := TX6) (N := 4) (by decide +kernel) rfl kin_6 (by decide) kw_152 (b := true) rfl (fun _ => rfl) (so_iload (by decide +kernel) (so_iald (by decide +kernel) (so_ldci (i := 45) (by decide +kernel) kw_182 (by decide) (so_icmp (off := 6) (tgt := 50) (by decide +kernel) (by decide) rfl (sb_72_50 hj) (sb_72_47 hj)))))))))))))))))))))))))
set_option maxRecDepth 20000 in
theorem sb_73_64 {j : AJ} (hj : SJ j) : Sound kM_73 64 (mb_73_64 j) := by
  unfold mb_73_64
  exact so_retv (by decide +kernel) rfl
set_option maxRecDepth 20000 in
theorem sb_73_57 {j : AJ} (hj : SJ j) : Sound kM_73 57 (mb_73_57 j) := by
  unfold mb_73_57
  exact so_iast (by decide +kernel) (so_iinc (z := 1) (by decide +kernel) (by decide +kernel) (by decide) (by decide +kernel) (so_goto (off := -52) (tgt := 9) (by decide +kernel) (by decide) (hj 31 _ _ rfl)))
set_option maxRecDepth 20000 in
theorem sb_73_47 {j : AJ} (hj : SJ j) : Sound kM_73 47 (mb_73_47 j) := by
  unfold mb_73_47
  exact so_aload_n (f := 0) (by decide +kernel) rfl (so_aload_n (f := 1) (by decide +kernel) rfl (so_iload_n (f := 2) (by decide +kernel) rfl (so_iconst (i := 1) (by decide +kernel) (by decide +kernel) (by decide) (so_callV (C := RX6) (T := TX6) (N0 := 4) (by decide +kernel) kcf_72 rfl rfl rfl kw_193 kw_194 kw_195 (by decide +kernel) (sb_72_0 hj) (so_callS (by decide +kernel) kcf_70 rfl kw_185 kw_186 (by decide +kernel) (sb_70_0 hj) (sb_73_57 hj))))))
set_option maxRecDepth 20000 in
theorem sb_73_9 {j : AJ} (hj : SJ j) : Sound kM_73 9 (mb_73_9 j) := by
  unfold mb_73_9
  exact so_iload_n (f := 2) (by decide +kernel) rfl (so_aload_n (f := 1) (by decide +kernel) rfl (so_getN (C := RX1) (T := TX1) (N := 4) (by decide +kernel) rfl kin_1 (by decide) kw_170 (b := false) rfl (fun _ => rfl) (so_icmp (off := 50) (tgt := 64) (by decide +kernel) (by decide) rfl (sb_73_64 hj) (so_iload_n (f := 2) (by decide +kernel) rfl (so_sipush (i := 320) (by decide +kernel) (by decide +kernel) (by decide) (so_icmp (off := 43) (tgt := 64) (by decide +kernel) (by decide) rfl (sb_73_64 hj) (so_aload_n (f := 0) (by decide +kernel) rfl (so_aload_n (f := 1) (by decide +kernel) rfl (so_iload_n (f := 2) (by decide +kernel) rfl (so_iconst (i := 0) (by decide +kernel) (by decide +kernel) (by decide) (so_callV (C := RX6) (T := TX6) (N0 := 4) (by decide +kernel) kcf_72 rfl rfl rfl kw_193 kw_194 kw_195 (by decide +kernel) (sb_72_0 hj) (so_istore_n (f := 3) (by decide +kernel) rfl (by decide +kernel) (so_aload_n (f := 0) (by decide +kernel) rfl (so_get (C := RX6) (T := TX6) (N := 4) (by decide +kernel) rfl kin_6 (by decide) kw_152 (b := true) rfl (fun _ => rfl) (so_iload_n (f := 2) (by decide +kernel) rfl (so_iload_n (f := 3) (by decide +kernel) rfl (so_ldci (i := 45) (by decide +kernel) kw_182 (by decide) (so_icmp (off := 7) (tgt := 47) (by decide +kernel) (by decide) rfl (sb_73_47 hj) (so_iload_n (f := 3) (by decide +kernel) rfl (so_goto (off := 13) (tgt := 57) (by decide +kernel) (by decide) (sb_73_57 hj)))))))))))))))))))))
set_option maxRecDepth 20000 in
theorem sb_73_0 {j : AJ} (hj : SJ j) : Sound kM_73 0 (mb_73_0 j) := by
  unfold mb_73_0
  exact so_aload_n (f := 0) (by decide +kernel) rfl (so_get (C := RX6) (T := TX6) (N := 4) (by decide +kernel) rfl kin_6 (by decide) kw_152 (b := true) rfl (fun _ => rfl) (so_iconst (i := 0) (by decide +kernel) (by decide +kernel) (by decide) (so_iconst (i := 0) (by decide +kernel) (by decide +kernel) (by decide) (so_iast (by decide +kernel) (so_iconst (i := 1) (by decide +kernel) (by decide +kernel) (by decide) (so_istore_n (f := 2) (by decide +kernel) rfl (by decide +kernel) (sb_73_9 hj)))))))
set_option maxRecDepth 20000 in
theorem sb_74_66 {j : AJ} (hj : SJ j) : Sound kM_74 66 (mb_74_66 j) := by
  unfold mb_74_66
  exact so_reti (by decide +kernel) rfl
set_option maxRecDepth 20000 in
theorem sb_74_65 {j : AJ} (hj : SJ j) : Sound kM_74 65 (mb_74_65 j) := by
  unfold mb_74_65
  exact so_iconst (i := 0) (by decide +kernel) (by decide +kernel) (by decide) (sb_74_66 hj)
set_option maxRecDepth 20000 in
theorem sb_74_45 {j : AJ} (hj : SJ j) : Sound kM_74 45 (mb_74_45 j) := by
  unfold mb_74_45
  exact so_aload_n (f := 0) (by decide +kernel) rfl (so_aload_n (f := 1) (by decide +kernel) rfl (so_callV (C := RX6) (T := TX6) (N0 := 4) (by decide +kernel) kcf_73 rfl rfl rfl kw_196 kw_197 kw_198 (by decide +kernel) (sb_73_0 hj) (so_aload_n (f := 0) (by decide +kernel) rfl (so_get (C := RX6) (T := TX6) (N := 4) (by decide +kernel) rfl kin_6 (by decide) kw_152 (b := true) rfl (fun _ => rfl) (so_iload_n (f := 2) (by decide +kernel) rfl (so_iald (by decide +kernel) (so_ldci (i := 45) (by decide +kernel) kw_182 (by decide) (so_icmp (off := 7) (tgt := 65) (by decide +kernel) (by decide) rfl (sb_74_65 hj) (so_iconst (i := 3) (by decide +kernel) (by decide +kernel) (by decide) (so_goto (off := 4) (tgt := 66) (by decide +kernel) (by decide) (sb_74_66 hj)))))))))))
set_option maxRecDepth 20000 in
theorem sb_74_34 {j : AJ} (hj : SJ j) : Sound kM_74 34 (mb_74_34 j) := by
  unfold mb_74_34
  exact so_aload_n (f := 0) (by decide +kernel) rfl (so_aload_n (f := 1) (by decide +kernel) rfl (so_iload_n (f := 2) (by decide +kernel) rfl (so_callV (C := RX6) (T := TX6) (N0 := 4) (by decide +kernel) kcf_68 rfl rfl rfl kw_199 kw_200 kw_201 (by decide +kernel) (sb_68_0 hj) (so_if (off := 5) (tgt := 45) (by decide +kernel) (by decide) rfl (sb_74_45 hj) (so_iconst (i := 2) (by decide +kernel) (by decide +kernel) (by decide) (so_reti (by decide +kernel) rfl))))))
set_option maxRecDepth 20000 in
theorem sb_74_32 {j : AJ} (hj : SJ j) : Sound kM_74 32 (mb_74_32 j) := by
  unfold mb_74_32
  exact so_iconst (i := 1) (by decide +kernel) (by decide +kernel) (by decide) (so_reti (by decide +kernel) rfl)
set_option maxRecDepth 20000 in
theorem sb_74_0 {j : AJ} (hj : SJ j) : Sound kM_74 0 (mb_74_0 j) := by
  unfold mb_74_0
  exact so_aload_n (f := 0) (by decide +kernel) rfl (so_aload_n (f := 1) (by decide +kernel) rfl (so_callV (C := RX6) (T := TX6) (N0 := 4) (by decide +kernel) kcf_67 rfl rfl rfl kw_202 kw_203 kw_204 (by decide +kernel) (sb_67_0 hj) (so_aload_n (f := 1) (by decide +kernel) rfl (so_getN (C := RX1) (T := TX1) (N := 4) (by decide +kernel) rfl kin_1 (by decide) kw_170 (b := false) rfl (fun _ => rfl) (so_iconst (i := 1) (by decide +kernel) (by decide +kernel) (by decide) (so_isub (by decide +kernel) (so_istore_n (f := 2) (by decide +kernel) rfl (by decide +kernel) (so_iload_n (f := 2) (by decide +kernel) rfl (so_if (off := 19) (tgt := 32) (by decide +kernel) (by decide) rfl (sb_74_32 hj) (so_iload_n (f := 2) (by decide +kernel) rfl (so_sipush (i := 320) (by decide +kernel) (by decide +kernel) (by decide) (so_icmp (off := 12) (tgt := 32) (by decide +kernel) (by decide) rfl (sb_74_32 hj) (so_aload_n (f := 0) (by decide +kernel) rfl (so_get (C := RX6) (T := TX6) (N := 4) (by decide +kernel) rfl kin_6 (by decide) kw_149 (b := true) rfl (fun _ => rfl) (so_iload_n (f := 2) (by decide +kernel) rfl (so_zald (by decide +kernel) (so_if (off := 5) (tgt := 34) (by decide +kernel) (by decide) rfl (sb_74_34 hj) (sb_74_32 hj))))))))))))))))))
set_option maxRecDepth 20000 in
theorem sb_75_101 {j : AJ} (hj : SJ j) : Sound kM_75 101 (mb_75_101 j) := by
  unfold mb_75_101
  exact so_reti (by decide +kernel) rfl
set_option maxRecDepth 20000 in
theorem sb_75_99 {j : AJ} (hj : SJ j) : Sound kM_75 99 (mb_75_99 j) := by
  unfold mb_75_99
  exact so_iload (by decide +kernel) (sb_75_101 hj)
set_option maxRecDepth 20000 in
theorem sb_75_89 {j : AJ} (hj : SJ j) : Sound kM_75 89 (mb_75_89 j) := by
  unfold mb_75_89
  exact so_iload_n (f := 3) (by decide +kernel) rfl (so_if (off := 9) (tgt := 99) (by decide +kernel) (by decide) rfl (sb_75_99 hj) (so_lload (by decide +kernel) (so_l2i (by decide +kernel) (so_goto (off := 5) (tgt := 101) (by decide +kernel) (by decide) (sb_75_101 hj)))))
set_option maxRecDepth 20000 in
theorem sb_75_58 {j : AJ} (hj : SJ j) : Sound kM_75 58 (mb_75_58 j) := by
  unfold mb_75_58
  exact so_iload (by decide +kernel) (so_bipush (i := 32) (by decide +kernel) (by decide +kernel) (by decide) (so_icmp (off := 27) (tgt := 89) (by decide +kernel) (by decide) rfl (sb_75_89 hj) (so_lload (by decide +kernel) (so_lconst (i := 1) (by decide +kernel) rfl (so_land (by decide +kernel) (so_lconst (i := 0) (by decide +kernel) rfl (so_lcmp (by decide +kernel) (so_if (off := 18) (tgt := 89) (by decide +kernel) (by decide) rfl (sb_75_89 hj) (so_lload (by decide +kernel) (so_iconst (i := 1) (by decide +kernel) (by decide +kernel) (by decide) (so_lshr (by decide +kernel) (so_lstore (by decide +kernel) (by decide +kernel) (so_iinc (z := -1) (by decide +kernel) (by decide +kernel) (by decide) (by decide +kernel) (so_iinc (z := 1) (by decide +kernel) (by decide +kernel) (by decide) (by decide +kernel) (so_goto (off := -28) (tgt := 58) (by decide +kernel) (by decide) (hj 32 _ _ rfl))))))))))))))))
set_option maxRecDepth 20000 in
theorem sb_75_49 {j : AJ} (hj : SJ j) : Sound kM_75 49 (mb_75_49 j) := by
  unfold mb_75_49
  exact so_lstore (by decide +kernel) (by decide +kernel) (so_bipush (i := 32) (by decide +kernel) (by decide +kernel) (by decide) (so_istore (by decide +kernel) (by decide +kernel) (so_iconst (i := 0) (by decide +kernel) (by decide +kernel) (by decide) (so_istore (by decide +kernel) (by decide +kernel) (sb_75_58 hj)))))
set_option maxRecDepth 20000 in
theorem sb_75_42 {j : AJ} (hj : SJ j) : Sound kM_75 42 (mb_75_42 j) := by
  unfold mb_75_42
  exact so_aload_n (f := 0) (by decide +kernel) rfl (so_get (C := RX6) (T := TX6) (N := 4) (by decide +kernel) rfl kin_6 (by decide) kw_151 (b := true) rfl (fun _ => rfl) (so_iload (by decide +kernel) (so_lald (by decide +kernel) (sb_75_49 hj))))
set_option maxRecDepth 20000 in
theorem sb_75_28 {j : AJ} (hj : SJ j) : Sound kM_75 28 (mb_75_28 j) := by
  unfold mb_75_28
  exact so_iload_n (f := 2) (by decide +kernel) rfl (so_if (off := 13) (tgt := 42) (by decide +kernel) (by decide) rfl (sb_75_42 hj) (so_aload_n (f := 0) (by decide +kernel) rfl (so_get (C := RX6) (T := TX6) (N := 4) (by decide +kernel) rfl kin_6 (by decide) kw_150 (b := true) rfl (fun _ => rfl) (so_iload (by decide +kernel) (so_lald (by decide +kernel) (so_goto (off := 10) (tgt := 49) (by decide +kernel) (by decide) (sb_75_49 hj)))))))
set_option maxRecDepth 20000 in
theorem sb_75_26 {j : AJ} (hj : SJ j) : Sound kM_75 26 (mb_75_26 j) := by
  unfold mb_75_26
  exact so_iconst (i := 0) (by decide +kernel) (by decide +kernel) (by decide) (so_reti (by decide +kernel) rfl)
set_option maxRecDepth 20000 in
theorem sb_75_0 {j : AJ} (hj : SJ j) : Sound kM_75 0 (mb_75_0 j) := by
  unfold mb_75_0
  exact so_aload_n (f := 0) (by decide +kernel) rfl (so_aload_n (f := 1) (by decide +kernel) rfl (so_callV (C := RX6) (T := TX6) (N0 := 4) (by decide +kernel) kcf_67 rfl rfl rfl kw_202 kw_203 kw_204 (by decide +kernel) (sb_67_0 hj) (so_aload_n (f := 1) (by decide +kernel) rfl (so_getN (C := RX1) (T := TX1) (N := 4) (by decide +kernel) rfl kin_1 (by decide) kw_170 (b := false) rfl (fun _ => rfl) (so_iconst (i := 1) (by decide +kernel) (by decide +kernel) (by decide) (so_isub (by decide +kernel) (so_istore (by decide +kernel) (by decide +kernel) (so_iload (by decide +kernel) (so_if (off := 11) (tgt := 26) (by decide +kernel) (by decide) rfl (sb_75_26 hj) (so_iload (by decide +kernel) (so_sipush (i := 320) (by decide +kernel) (by decide +kernel) (by decide) (so_icmp (off := 5) (tgt := 28) (by decide +kernel) (by decide) rfl (sb_75_28 hj) (sb_75_26 hj)))))))))))))
set_option maxRecDepth 20000 in
theorem sc_76_21 {j : AJ} (hj : SJ j) : Sound kM_76 21 (mc_76_21 j) := by
  unfold mc_76_21
  exact so_iload_n (f := 2) (by decide +kernel) rfl (so_reti (by decide +kernel) rfl)
set_option maxRecDepth 20000 in
theorem sb_76_21 {j : AJ} (hj : SJ j) : Sound kM_76 21 (mb_76_21 j) := by
  refine so_weak (sc_76_21 hj) (fun L S h r q0 => ?_)
  obtain ⟨i0, L0_, rfl, q1⟩ := w_I_some q0
  obtain ⟨i1, L1_, rfl, q2⟩ := w_I_some q1
  obtain ⟨i2, L2_, rfl, q3⟩ := w_I_some q2
  obtain ⟨rfl, q4⟩ := w_0_some q3
  obtain ⟨rfl, q5⟩ := a_nil_some q4
  exact q5
set_option maxRecDepth 20000 in
theorem sc_76_0 {j : AJ} (hj : SJ j) : Sound kM_76 0 (mc_76_0 j) := by
  unfold mc_76_0
  exact so_iload_n (f := 0) (by decide +kernel) rfl (so_iload_n (f := 1) (by decide +kernel) rfl (so_idiv (by decide +kernel) (so_istore_n (f := 2) (by decide +kernel) rfl (by decide +kernel) (so_iload_n (f := 0) (by decide +kernel) rfl (so_iload_n (f := 1) (by decide +kernel) rfl (so_ixor (by decide +kernel) (so_if (off := 14) (tgt := 21) (by decide +kernel) (by decide) rfl (sb_76_21 hj) (so_iload_n (f := 2) (by decide +kernel) rfl (so_iload_n (f := 1) (by decide +kernel) rfl (so_imul (by decide +kernel) (so_iload_n (f := 0) (by decide +kernel) rfl (so_icmp (off := 7) (tgt := 21) (by decide +kernel) (by decide) rfl (sb_76_21 hj) (so_iload_n (f := 2) (by decide +kernel) rfl (so_iconst (i := 1) (by decide +kernel) (by decide +kernel) (by decide) (so_isub (by decide +kernel) (so_reti (by decide +kernel) rfl))))))))))))))))
set_option maxRecDepth 20000 in
theorem sb_76_0 {j : AJ} (hj : SJ j) : Sound kM_76 0 (mb_76_0 j) := by
  refine so_weak (sc_76_0 hj) (fun L S h r q0 => ?_)
  obtain ⟨i0, L0_, rfl, q1⟩ := w_I_some q0
  obtain ⟨i1, L1_, rfl, q2⟩ := w_I_some q1
  obtain ⟨L2_, rfl, q3⟩ := w_N_some q2
  obtain ⟨rfl, q4⟩ := w_0_some q3
  obtain ⟨rfl, q5⟩ := a_nil_some q4
  exact q5
set_option maxRecDepth 20000 in
theorem sb_77_52 {j : AJ} (hj : SJ j) : Sound kM_77 52 (mb_77_52 j) := by
  unfold mb_77_52
  exact so_reti (by decide +kernel) rfl
set_option maxRecDepth 20000 in
theorem sb_77_46 {j : AJ} (hj : SJ j) : Sound kM_77 46 (mb_77_46 j) := by
  unfold mb_77_46
  exact so_iload (by decide +kernel) (so_iconst (i := 2) (by decide +kernel) (by decide +kernel) (by decide) (so_callS (by decide +kernel) kcf_69 rfl kw_180 kw_181 (by decide +kernel) (sb_69_0 hj) (sb_77_52 hj)))
set_option maxRecDepth 20000 in
theorem sb_77_25 {j : AJ} (hj : SJ j) : Sound kM_77 25 (mb_77_25 j) := by
  unfold mb_77_25
  exact so_aload_n (f := 0) (by decide +kernel) rfl (so_get (C := RX6) (T := TX6) (N := 4) (by decide +kernel) rfl kin_6 (by decide) kw_152 (b := true) rfl (fun _ => rfl) (so_iload_n (f := 3) (by decide +kernel) rfl (so_iald (by decide +kernel) (so_istore (by decide +kernel) (by decide +kernel) (so_iload_n (f := 2) (by decide +kernel) rfl (so_if (off := 12) (tgt := 46) (by decide +kernel) (by decide) rfl (sb_77_46 hj) (so_iload (by decide +kernel) (so_iconst (i := 2) (by decide +kernel) (by decide +kernel) (by decide) (so_callS (by decide +kernel) kcf_76 rfl kw_205 kw_206 (by decide +kernel) (sb_76_0 hj) (so_goto (off := 9) (tgt := 52) (by decide +kernel) (by decide) (sb_77_52 hj)))))))))))
set_option maxRecDepth 20000 in
theorem sb_77_23 {j : AJ} (hj : SJ j) : Sound kM_77 23 (mb_77_23 j) := by
  unfold mb_77_23
  exact so_iconst (i := 0) (by decide +kernel) (by decide +kernel) (by decide) (so_reti (by decide +kernel) rfl)
set_option maxRecDepth 20000 in
theorem sb_77_0 {j : AJ} (hj : SJ j) : Sound kM_77 0 (mb_77_0 j) := by
  unfold mb_77_0
  exact so_aload_n (f := 0) (by decide +kernel) rfl (so_aload_n (f := 1) (by decide +kernel) rfl (so_callV (C := RX6) (T := TX6) (N0 := 4) (by decide +kernel) kcf_73 rfl rfl rfl kw_196 kw_197 kw_198 (by decide +kernel) (sb_73_0 hj) (so_aload_n (f := 1) (by decide +kernel) rfl (so_getN (C := RX1) (T := TX1) (N := 4) (by decide +kernel) rfl kin_1 (by decide) kw_170 (b := false) rfl (fun _ => rfl) (so_iconst (i := 1) (by decide +kernel) (by decide +kernel) (by decide) (so_isub (by decide +kernel) (so_istore_n (f := 3) (by decide +kernel) rfl (by decide +kernel) (so_iload_n (f := 3) (by decide +kernel) rfl (so_if (off := 10) (tgt := 23) (by decide +kernel) (by decide) rfl (sb_77_23 hj) (so_iload_n (f := 3) (by decide +kernel) rfl (so_sipush (i := 320) (by decide +kernel) (by decide +kernel) (by decide) (so_icmp (off := 5) (tgt := 25) (by decide +kernel) (by decide) rfl (sb_77_25 hj) (sb_77_23 hj)))))))))))))
set_option maxRecDepth 20000 in
theorem sb_78_0 {j : AJ} (hj : SJ j) : Sound kM_78 0 (mb_78_0 j) := by
  unfold mb_78_0
  exact so_aload_n (f := 0) (by decide +kernel) rfl (so_objInit (by decide +kernel) kw_207 kw_1 kw_2 (by decide +kernel) (so_aload_n (f := 0) (by decide +kernel) rfl (so_new (C := RX5) (T := TX5) (N := 2) (ty := tyX5) (by decide +kernel) rfl kin_5 tyX5_ok kw_208 kw_35 kw_36 rfl (by decide +kernel) (so_dup (by decide +kernel) (so_sipush (i := 320) (by decide +kernel) (by decide +kernel) (by decide) (so_callI (by decide +kernel) kcf_17 rfl rfl rfl kw_209 kw_38 (by decide +kernel) (sb_17_0 hj) (so_putRF (C := RX7) (T := TX7) (N := 8) (ty0 := tyX7) (by decide +kernel) rfl kin_7 tyX7_ok nmX7 (by decide) kw_210 rfl rfl rfl (fun _ => rfl) (fun _ => rfl) rfl (so_aload_n (f := 0) (by decide +kernel) rfl (so_new (C := RX5) (T := TX5) (N := 2) (ty := tyX5) (by decide +kernel) rfl kin_5 tyX5_ok kw_208 kw_35 kw_36 rfl (by decide +kernel) (so_dup (by decide +kernel) (so_sipush (i := 320) (by decide +kernel) (by decide +kernel) (by decide) (so_callI (by decide +kernel) kcf_17 rfl rfl rfl kw_209 kw_38 (by decide +kernel) (sb_17_0 hj) (so_putRF (C := RX7) (T := TX7) (N := 8) (ty0 := tyX7) (by decide +kernel) rfl kin_7 tyX7_ok nmX7 (by decide) kw_211 rfl rfl rfl (fun _ => rfl) (fun _ => rfl) rfl (so_aload_n (f := 0) (by decide +kernel) rfl (so_new (C := RX5) (T := TX5) (N := 2) (ty := tyX5) (by decide +kernel) rfl kin_5 tyX5_ok kw_208 kw_35 kw_36 rfl (by decide +kernel) (so_dup (by decide +kernel) (so_sipush (i := 320) (by decide +kernel) (by decide +kernel) (by decide) (so_callI (by decide +kernel) kcf_17 rfl rfl rfl kw_209 kw_38 (by decide +kernel) (sb_17_0 hj) (so_putRF (C := RX7) (T := TX7) (N := 8) (ty0 := tyX7) (by decide +kernel) rfl kin_7 tyX7_ok nmX7 (by decide) kw_212 rfl rfl rfl (fun _ => rfl) (fun _ => rfl) rfl (so_aload_n (f := 0) (by decide +kernel) rfl (so_new (C := RX5) (T := TX5) (N := 2) (ty := tyX5) (by decide +kernel) rfl kin_5 tyX5_ok kw_208 kw_35 kw_36 rfl (by decide +kernel) (so_dup (by decide +kernel) (so_sipush (i := 320) (by decide +kernel) (by decide +kernel) (by decide) (so_callI (by decide +kernel) kcf_17 rfl rfl rfl kw_209 kw_38 (by decide +kernel) (sb_17_0 hj) (so_putRF (C := RX7) (T := TX7) (N := 8) (ty0 := tyX7) (by decide +kernel) rfl kin_7 tyX7_ok nmX7 (by decide) kw_213 rfl rfl rfl (fun _ => rfl) (fun _ => rfl) rfl (so_aload_n (f := 0) (by decide +kernel) rfl (so_new (C := RX5) (T := TX5) (N := 2) (ty := tyX5) (by decide +kernel) rfl kin_5 tyX5_ok kw_208 kw_35 kw_36 rfl (by decide +kernel) (so_dup (by decide +kernel) (so_bipush (i := 6) (by decide +kernel) (by decide +kernel) (by decide) (so_callI (by decide +kernel) kcf_17 rfl rfl rfl kw_209 kw_38 (by decide +kernel) (sb_17_0 hj) (so_putRF (C := RX7) (T := TX7) (N := 8) (ty0 := tyX7) (by decide +kernel) rfl kin_7 tyX7_ok nmX7 (by decide) kw_214 rfl rfl rfl (fun _ => rfl) (fun _ => rfl) rfl (so_aload_n (f := 0) (by decide +kernel) rfl (so_sipush (i := 1024) (by decide +kernel) (by decide +kernel) (by decide) (so_newaI (by decide +kernel) kw_3 (so_putRF (C := RX7) (T := TX7) (N := 8) (ty0 := tyX7) (by decide +kernel) rfl kin_7 tyX7_ok nmX7 (by decide) kw_215 rfl rfl rfl (fun _ => rfl) (fun _ => rfl) rfl (so_aload_n (f := 0) (by decide +kernel) rfl (so_bipush (i := 10) (by decide +kernel) (by decide +kernel) (by decide) (so_newaI (by decide +kernel) kw_3 (so_putRF (C := RX7) (T := TX7) (N := 8) (ty0 := tyX7) (by decide +kernel) rfl kin_7 tyX7_ok nmX7 (by decide) kw_216 rfl rfl rfl (fun _ => rfl) (fun _ => rfl) rfl (so_retv (by decide +kernel) rfl))))))))))))))))))))))))))))))))))))))))
set_option maxRecDepth 20000 in
theorem sc_79_15 {j : AJ} (hj : SJ j) : Sound kM_79 15 (mc_79_15 j) := by
  unfold mc_79_15
  exact so_reta (by decide +kernel) rfl
set_option maxRecDepth 20000 in
theorem sb_79_15 {j : AJ} (hj : SJ j) : Sound kM_79 15 (mb_79_15 j) := by
  refine so_weak (sc_79_15 hj) (fun L S h r q0 => ?_)
  obtain ⟨c0, L0_, rfl, q1⟩ := w_C_some q0
  obtain ⟨i1, L1_, rfl, q2⟩ := w_I_some q1
  obtain ⟨rfl, q3⟩ := w_0_some q2
  obtain ⟨s0, S0_, rfl, q4⟩ := a_popR_some q3
  obtain ⟨rfl, q5⟩ := a_nil_some q4
  exact q5
set_option maxRecDepth 20000 in
theorem sc_79_11 {j : AJ} (hj : SJ j) : Sound kM_79 11 (mc_79_11 j) := by
  unfold mc_79_11
  exact so_aload_n (f := 0) (by decide +kernel) rfl (so_get (C := RX7) (T := TX7) (N := 8) (by decide +kernel) rfl kin_7 (by decide) kw_211 (b := true) rfl (fun _ => rfl) (sb_79_15 hj))
set_option maxRecDepth 20000 in
theorem sb_79_11 {j : AJ} (hj : SJ j) : Sound kM_79 11 (mb_79_11 j) := by
  refine so_weak (sc_79_11 hj) (fun L S h r q0 => ?_)
  obtain ⟨c0, L0_, rfl, q1⟩ := w_C_some q0
  obtain ⟨i1, L1_, rfl, q2⟩ := w_I_some q1
  obtain ⟨rfl, q3⟩ := w_0_some q2
  obtain ⟨rfl, q4⟩ := a_nil_some q3
  exact q4
set_option maxRecDepth 20000 in
theorem sc_79_0 {j : AJ} (hj : SJ j) : Sound kM_79 0 (mc_79_0 j) := by
  unfold mc_79_0
  exact so_iload_n (f := 1) (by decide +kernel) rfl (so_if (off := 10) (tgt := 11) (by decide +kernel) (by decide) rfl (sb_79_11 hj) (so_aload_n (f := 0) (by decide +kernel) rfl (so_get (C := RX7) (T := TX7) (N := 8) (by decide +kernel) rfl kin_7 (by decide) kw_210 (b := true) rfl (fun _ => rfl) (so_goto (off := 7) (tgt := 15) (by decide +kernel) (by decide) (sb_79_15 hj)))))
set_option maxRecDepth 20000 in
theorem sb_79_0 {j : AJ} (hj : SJ j) : Sound kM_79 0 (mb_79_0 j) := by
  refine so_weak (sc_79_0 hj) (fun L S h r q0 => ?_)
  obtain ⟨c0, L0_, rfl, q1⟩ := w_C_some q0
  obtain ⟨i1, L1_, rfl, q2⟩ := w_I_some q1
  obtain ⟨rfl, q3⟩ := w_0_some q2
  obtain ⟨rfl, q4⟩ := a_nil_some q3
  exact q4
set_option maxRecDepth 20000 in
theorem sc_80_0 {j : AJ} (hj : SJ j) : Sound kM_80 0 (mc_80_0 j) := by
  unfold mc_80_0
  exact so_aload_n (f := 0) (by decide +kernel) rfl (so_get (C := RX7) (T := TX7) (N := 8) (by decide +kernel) rfl kin_7 (by decide) kw_214 (b := true) rfl (fun _ => rfl) (so_iconst (i := 0) (by decide +kernel) (by decide +kernel) (by decide) (so_weak (so_callV (C := RX5) (T := TX5) (N0 := 2) (by decide +kernel) kcf_29 rfl rfl rfl kw_217 kw_75 kw_76 (by decide +kernel) (sb_29_0 hj) (so_aload_n (f := 0) (by decide +kernel) rfl (so_get (C := RX7) (T := TX7) (N := 8) (by decide +kernel) rfl kin_7 (by decide) kw_214 (b := true) rfl (fun _ => rfl) (so_iconst (i := 1) (by decide +kernel) (by decide +kernel) (by decide) (so_weak (so_callV (C := RX5) (T := TX5) (N0 := 2) (by decide +kernel) kcf_29 rfl rfl rfl kw_217 kw_75 kw_76 (by decide +kernel) (sb_29_0 hj) (so_retv (by decide +kernel) rfl)) (callvE_imp BK_N)))))) (callvE_imp BK_N))))
set_option maxRecDepth 20000 in
theorem sb_80_0 {j : AJ} (hj : SJ j) : Sound kM_80 0 (mb_80_0 j) := by
  refine so_weak (sc_80_0 hj) (fun L S h r q0 => ?_)
  obtain ⟨c0, L0_, rfl, q1⟩ := w_C_some q0
  obtain ⟨rfl, q2⟩ := w_0_some q1
  obtain ⟨rfl, q3⟩ := a_nil_some q2
  exact q3
set_option maxRecDepth 20000 in
theorem sc_81_120 {j : AJ} (hj : SJ j) : Sound kM_81 120 (mc_81_120 j) := by
  unfold mc_81_120
  exact so_retv (by decide +kernel) rfl
set_option maxRecDepth 20000 in
theorem sb_81_120 {j : AJ} (hj : SJ j) : Sound kM_81 120 (mb_81_120 j) := by
  refine so_weak (sc_81_120 hj) (fun L S h r q0 => ?_)
  obtain ⟨c0, L0_, rfl, q1⟩ := w_C_some q0
  obtain ⟨i1, L1_, rfl, q2⟩ := w_I_some q1
  obtain ⟨i2, L2_, rfl, q3⟩ := w_I_some q2
  obtain ⟨rfl, q4⟩ := w_0_some q3
  obtain ⟨rfl, q5⟩ := a_nil_some q4
  exact q5
set_option maxRecDepth 20000 in
theorem sc_81_81 {j : AJ} (hj : SJ j) : Sound kM_81 81 (mc_81_81 j) := by
  unfold mc_81_81
  exact so_iload_n (f := 2) (by decide +kernel) rfl (so_iload_n (f := 1) (by decide +kernel) rfl (so_icmp (off := 37) (tgt := 120) (by decide +kernel) (by decide) rfl (sb_81_120 hj) (so_aload_n (f := 0) (by decide +kernel) rfl (so_get (C := RX7) (T := TX7) (N := 8) (by decide +kernel) rfl kin_7 (by decide) kw_214 (b := true) rfl (fun _ => rfl) (so_iconst (i := 5) (by decide +kernel) (by decide +kernel) (by decide) (so_aload_n (f := 0) (by decide +kernel) rfl (so_get (C := RX7) (T := TX7) (N := 8) (by decide +kernel) rfl kin_7 (by decide) kw_212 (b := true) rfl (fun _ => rfl) (so_iload_n (f := 2) (by decide +kernel) rfl (so_weak (so_callV (C := RX5) (T := TX5) (N0 := 2) (by decide +kernel) kcf_57 rfl rfl rfl kw_218 kw_219 kw_220 (by decide +kernel) (sb_57_0 hj) (so_iload_n (f := 2) (by decide +kernel) rfl (so_iconst (i := 1) (by decide +kernel) (by decide +kernel) (by decide) (so_iadd (by decide +kernel) (so_aload_n (f := 0) (by decide +kernel) rfl (so_get (C := RX7) (T := TX7) (N := 8) (by decide +kernel) rfl kin_7 (by decide) kw_214 (b := true) rfl (fun _ => rfl) (so_iconst (i := 1) (by decide +kernel) (by decide +kernel) (by decide) (so_iload_n (f := 2) (by decide +kernel) rfl (so_iconst (i := 1) (by decide +kernel) (by decide +kernel) (by decide) (so_iadd (by decide +kernel) (so_weak (so_callV (C := RX5) (T := TX5) (N0 := 2) (by decide +kernel) kcf_23 rfl rfl rfl kw_221 kw_57 kw_58 (by decide +kernel) (sb_23_0 hj) (so_weak (so_callS (by decide +kernel) kcf_16 rfl kw_222 kw_27 (by decide +kernel) (sb_16_0 hj) (so_istore_n (f := 2) (by decide +kernel) rfl (by decide +kernel) (so_goto (off := -36) (tgt := 81) (by decide +kernel) (by decide) (hj 35 _ _ rfl)))) (callE_imp BK_I))) (callvE_imp BK_I)))))))))))) (callvE_imp BK_N))))))))))
set_option maxRecDepth 20000 in
theorem sb_81_81 {j : AJ} (hj : SJ j) : Sound kM_81 81 (mb_81_81 j) := by
  refine so_weak (sc_81_81 hj) (fun L S h r q0 => ?_)
  obtain ⟨c0, L0_, rfl, q1⟩ := w_C_some q0
  obtain ⟨i1, L1_, rfl, q2⟩ := w_I_some q1
  obtain ⟨i2, L2_, rfl, q3⟩ := w_I_some q2
  obtain ⟨rfl, q4⟩ := w_0_some q3
  obtain ⟨rfl, q5⟩ := a_nil_some q4
  exact q5
set_option maxRecDepth 20000 in
theorem sc_81_71 {j : AJ} (hj : SJ j) : Sound kM_81 71 (mc_81_71 j) := by
  unfold mc_81_71
  exact so_aload_n (f := 0) (by decide +kernel) rfl (so_get (C := RX7) (T := TX7) (N := 8) (by decide +kernel) rfl kin_7 (by decide) kw_214 (b := true) rfl (fun _ => rfl) (so_iconst (i := 1) (by decide +kernel) (by decide +kernel) (by decide) (so_iconst (i := 0) (by decide +kernel) (by decide +kernel) (by decide) (so_weak (so_callV (C := RX5) (T := TX5) (N0 := 2) (by decide +kernel) kcf_23 rfl rfl rfl kw_221 kw_57 kw_58 (by decide +kernel) (sb_23_0 hj) (so_istore_n (f := 2) (by decide +kernel) rfl (by decide +kernel) (sb_81_81 hj))) (callvE_imp BK_I)))))
set_option maxRecDepth 20000 in
theorem sb_81_71 {j : AJ} (hj : SJ j) : Sound kM_81 71 (mb_81_71 j) := by
  refine so_weak (sc_81_71 hj) (fun L S h r q0 => ?_)
  obtain ⟨c0, L0_, rfl, q1⟩ := w_C_some q0
  obtain ⟨i1, L1_, rfl, q2⟩ := w_I_some q1
  obtain ⟨i2, L2_, rfl, q3⟩ := w_I_some q2
  obtain ⟨rfl, q4⟩ := w_0_some q3
  obtain ⟨rfl, q5⟩ := a_nil_some q4
  exact q5
set_option maxRecDepth 20000 in
theorem sc_81_32 {j : AJ} (hj : SJ j) : Sound kM_81 32 (mc_81_32 j) := by
  unfold mc_81_32
  exact so_iload_n (f := 2) (by decide +kernel) rfl (so_iload_n (f := 1) (by decide +kernel) rfl (so_icmp (off := 37) (tgt := 71) (by decide +kernel) (by decide) rfl (sb_81_71 hj) (so_aload_n (f := 0) (by decide +kernel) rfl (so_get (C := RX7) (T := TX7) (N := 8) (by decide +kernel) rfl kin_7 (by decide) kw_214 (b := true) rfl (fun _ => rfl) (so_iconst (i := 4) (by decide +kernel) (by decide +kernel) (by decide) (so_aload_n (f := 0) (by decide +kernel) rfl (so_get (C := RX7) (T := TX7) (N := 8) (by decide +kernel) rfl kin_7 (by decide) kw_213 (b := true) rfl (fun _ => rfl) (so_iload_n (f := 2) (by decide +kernel) rfl (so_weak (so_callV (C := RX5) (T := TX5) (N0 := 2) (by decide +kernel) kcf_57 rfl rfl rfl kw_218 kw_219 kw_220 (by decide +kernel) (sb_57_0 hj) (so_iload_n (f := 2) (by decide +kernel) rfl (so_iconst (i := 1) (by decide +kernel) (by decide +kernel) (by decide) (so_iadd (by decide +kernel) (so_aload_n (f := 0) (by decide +kernel) rfl (so_get (C := RX7) (T := TX7) (N := 8) (by decide +kernel) rfl kin_7 (by decide) kw_214 (b := true) rfl (fun _ => rfl) (so_iconst (i := 0) (by decide +kernel) (by decide +kernel) (by decide) (so_iload_n (f := 2) (by decide +kernel) rfl (so_iconst (i := 1) (by decide +kernel) (by decide +kernel) (by decide) (so_iadd (by decide +kernel) (so_weak (so_callV (C := RX5) (T := TX5) (N0 := 2) (by decide +kernel) kcf_23 rfl rfl rfl kw_221 kw_57 kw_58 (by decide +kernel) (sb_23_0 hj) (so_weak (so_callS (by decide +kernel) kcf_16 rfl kw_222 kw_27 (by decide +kernel) (sb_16_0 hj) (so_istore_n (f := 2) (by decide +kernel) rfl (by decide +kernel) (so_goto (off := -36) (tgt := 32) (by decide +kernel) (by decide) (hj 34 _ _ rfl)))) (callE_imp BK_I))) (callvE_imp BK_I)))))))))))) (callvE_imp BK_N))))))))))
set_option maxRecDepth 20000 in
theorem sb_81_32 {j : AJ} (hj : SJ j) : Sound kM_81 32 (mb_81_32 j) := by
  refine so_weak (sc_81_32 hj) (fun L S h r q0 => ?_)
  obtain ⟨c0, L0_, rfl, q1⟩ := w_C_some q0
  obtain ⟨i1, L1_, rfl, q2⟩ := w_I_some q1
  obtain ⟨i2, L2_, rfl, q3⟩ := w_I_some q2
  obtain ⟨rfl, q4⟩ := w_0_some q3
  obtain ⟨rfl, q5⟩ := a_nil_some q4
  exact q5
set_option maxRecDepth 20000 in
theorem sc_81_22 {j : AJ} (hj : SJ j) : Sound kM_81 22 (mc_81_22 j) := by
  unfold mc_81_22
  exact so_aload_n (f := 0) (by decide +kernel) rfl (so_get (C := RX7) (T := TX7) (N := 8) (by decide +kernel) rfl kin_7 (by decide) kw_214 (b := true) rfl (fun _ => rfl) (so_iconst (i := 0) (by decide +kernel) (by decide +kernel) (by decide) (so_iconst (i := 0) (by decide +kernel) (by decide +kernel) (by decide) (so_weak (so_callV (C := RX5) (T := TX5) (N0 := 2) (by decide +kernel) kcf_23 rfl rfl rfl kw_221 kw_57 kw_58 (by decide +kernel) (sb_23_0 hj) (so_istore_n (f := 2) (by decide +kernel) rfl (by decide +kernel) (sb_81_32 hj))) (callvE_imp BK_I)))))
set_option maxRecDepth 20000 in
theorem sb_81_22 {j : AJ} (hj : SJ j) : Sound kM_81 22 (mb_81_22 j) := by
  refine so_weak (sc_81_22 hj) (fun L S h r q0 => ?_)
  obtain ⟨c0, L0_, rfl, q1⟩ := w_C_some q0
  obtain ⟨i1, L1_, rfl, q2⟩ := w_I_some q1
  obtain ⟨i2, L2_, rfl, q3⟩ := w_I_some q2
  obtain ⟨rfl, q4⟩ := w_0_some q3
  obtain ⟨rfl, q5⟩ := a_nil_some q4
  exact q5
set_option maxRecDepth 20000 in
theorem sc_81_2 {j : AJ} (hj : SJ j) : Sound kM_81 2 (mc_81_2 j) := by
  unfold mc_81_2
  exact so_iload_n (f := 2) (by decide +kernel) rfl (so_bipush (i := 6) (by decide +kernel) (by decide +kernel) (by decide) (so_icmp (off := 17) (tgt := 22) (by decide +kernel) (by decide) rfl (sb_81_22 hj) (so_aload_n (f := 0) (by decide +kernel) rfl (so_get (C := RX7) (T := TX7) (N := 8) (by decide +kernel) rfl kin_7 (by decide) kw_214 (b := true) rfl (fun _ => rfl) (so_iload_n (f := 2) (by decide +kernel) rfl (so_weak (so_callV (C := RX5) (T := TX5) (N0 := 2) (by decide +kernel) kcf_29 rfl rfl rfl kw_217 kw_75 kw_76 (by decide +kernel) (sb_29_0 hj) (so_iinc (z := 1) (by decide +kernel) (by decide +kernel) (by decide) (by decide +kernel) (so_goto (off := -17) (tgt := 2) (by decide +kernel) (by decide) (hj 33 _ _ rfl)))) (callvE_imp BK_N)))))))
set_option maxRecDepth 20000 in
theorem sb_81_2 {j : AJ} (hj : SJ j) : Sound kM_81 2 (mb_81_2 j) := by
  refine so_weak (sc_81_2 hj) (fun L S h r q0 => ?_)
  obtain ⟨c0, L0_, rfl, q1⟩ := w_C_some q0
  obtain ⟨i1, L1_, rfl, q2⟩ := w_I_some q1
  obtain ⟨i2, L2_, rfl, q3⟩ := w_I_some q2
  obtain ⟨rfl, q4⟩ := w_0_some q3
  obtain ⟨rfl, q5⟩ := a_nil_some q4
  exact q5
set_option maxRecDepth 20000 in
theorem sc_81_0 {j : AJ} (hj : SJ j) : Sound kM_81 0 (mc_81_0 j) := by
  unfold mc_81_0
  exact so_iconst (i := 2) (by decide +kernel) (by decide +kernel) (by decide) (so_istore_n (f := 2) (by decide +kernel) rfl (by decide +kernel) (sb_81_2 hj))
set_option maxRecDepth 20000 in
theorem sb_81_0 {j : AJ} (hj : SJ j) : Sound kM_81 0 (mb_81_0 j) := by
  refine so_weak (sc_81_0 hj) (fun L S h r q0 => ?_)
  obtain ⟨c0, L0_, rfl, q1⟩ := w_C_some q0
  obtain ⟨i1, L1_, rfl, q2⟩ := w_I_some q1
  obtain ⟨L2_, rfl, q3⟩ := w_N_some q2
  obtain ⟨rfl, q4⟩ := w_0_some q3
  obtain ⟨rfl, q5⟩ := a_nil_some q4
  exact q5
set_option maxRecDepth 20000 in
theorem sc_82_109 {j : AJ} (hj : SJ j) : Sound kM_82 109 (mc_82_109 j) := by
  unfold mc_82_109
  exact so_retz (by decide +kernel) rfl
set_option maxRecDepth 20000 in
theorem sb_82_109 {j : AJ} (hj : SJ j) : Sound kM_82 109 (mb_82_109 j) := by
  refine so_weak (sc_82_109 hj) (fun L S h r q0 => ?_)
  obtain ⟨c0, L0_, rfl, q1⟩ := w_C_some q0
  obtain ⟨i1, L1_, rfl, q2⟩ := w_I_some q1
  obtain ⟨c2, L2_, rfl, q3⟩ := w_C_some q2
  obtain ⟨c3, L3_, rfl, q4⟩ := w_C_some q3
  obtain ⟨i4, L4_, rfl, q5⟩ := w_I_some q4
  obtain ⟨i5, L5_, rfl, q6⟩ := w_I_some q5
  obtain ⟨rfl, q7⟩ := w_0_some q6
  obtain ⟨s0, S0_, rfl, q8⟩ := a_popI_some q7
  obtain ⟨rfl, q9⟩ := a_nil_some q8
  exact q9
set_option maxRecDepth 20000 in
theorem sc_82_108 {j : AJ} (hj : SJ j) : Sound kM_82 108 (mc_82_108 j) := by
  unfold mc_82_108
  exact so_iconst (i := 0) (by decide +kernel) (by decide +kernel) (by decide) (sb_82_109 hj)
set_option maxRecDepth 20000 in
theorem sb_82_108 {j : AJ} (hj : SJ j) : Sound kM_82 108 (mb_82_108 j) := by
  refine so_weak (sc_82_108 hj) (fun L S h r q0 => ?_)
  obtain ⟨c0, L0_, rfl, q1⟩ := w_C_some q0
  obtain ⟨i1, L1_, rfl, q2⟩ := w_I_some q1
  obtain ⟨c2, L2_, rfl, q3⟩ := w_C_some q2
  obtain ⟨c3, L3_, rfl, q4⟩ := w_C_some q3
  obtain ⟨i4, L4_, rfl, q5⟩ := w_I_some q4
  obtain ⟨i5, L5_, rfl, q6⟩ := w_I_some q5
  obtain ⟨rfl, q7⟩ := w_0_some q6
  obtain ⟨rfl, q8⟩ := a_nil_some q7
  exact q8
set_option maxRecDepth 20000 in
theorem sc_82_94 {j : AJ} (hj : SJ j) : Sound kM_82 94 (mc_82_94 j) := by
  unfold mc_82_94
  exact so_iload (by decide +kernel) (so_if (off := 12) (tgt := 108) (by decide +kernel) (by decide) rfl (sb_82_108 hj) (so_iload (by decide +kernel) (so_if (off := 7) (tgt := 108) (by decide +kernel) (by decide) rfl (sb_82_108 hj) (so_iconst (i := 1) (by decide +kernel) (by decide +kernel) (by decide) (so_goto (off := 4) (tgt := 109) (by decide +kernel) (by decide) (sb_82_109 hj))))))
set_option maxRecDepth 20000 in
theorem sb_82_94 {j : AJ} (hj : SJ j) : Sound kM_82 94 (mb_82_94 j) := by
  refine so_weak (sc_82_94 hj) (fun L S h r q0 => ?_)
  obtain ⟨c0, L0_, rfl, q1⟩ := w_C_some q0
  obtain ⟨i1, L1_, rfl, q2⟩ := w_I_some q1
  obtain ⟨c2, L2_, rfl, q3⟩ := w_C_some q2
  obtain ⟨c3, L3_, rfl, q4⟩ := w_C_some q3
  obtain ⟨i4, L4_, rfl, q5⟩ := w_I_some q4
  obtain ⟨i5, L5_, rfl, q6⟩ := w_I_some q5
  obtain ⟨rfl, q7⟩ := w_0_some q6
  obtain ⟨rfl, q8⟩ := a_nil_some q7
  exact q8
set_option maxRecDepth 20000 in
theorem sc_82_80 {j : AJ} (hj : SJ j) : Sound kM_82 80 (mc_82_80 j) := by
  unfold mc_82_80
  exact so_iload (by decide +kernel) (so_if (off := 12) (tgt := 94) (by decide +kernel) (by decide) rfl (sb_82_94 hj) (so_aload_n (f := 0) (by decide +kernel) rfl (so_get (C := RX7) (T := TX7) (N := 8) (by decide +kernel) rfl kin_7 (by decide) kw_214 (b := true) rfl (fun _ => rfl) (so_iconst (i := 2) (by decide +kernel) (by decide +kernel) (by decide) (so_iload_n (f := 1) (by decide +kernel) rfl (so_weak (so_callV (C := RX5) (T := TX5) (N0 := 2) (by decide +kernel) kcf_30 rfl rfl rfl kw_223 kw_72 kw_73 (by decide +kernel) (sb_30_0 hj) (sb_82_94 hj)) (callvE_imp BK_N)))))))
set_option maxRecDepth 20000 in
theorem sb_82_80 {j : AJ} (hj : SJ j) : Sound kM_82 80 (mb_82_80 j) := by
  refine so_weak (sc_82_80 hj) (fun L S h r q0 => ?_)
  obtain ⟨c0, L0_, rfl, q1⟩ := w_C_some q0
  obtain ⟨i1, L1_, rfl, q2⟩ := w_I_some q1
  obtain ⟨c2, L2_, rfl, q3⟩ := w_C_some q2
  obtain ⟨c3, L3_, rfl, q4⟩ := w_C_some q3
  obtain ⟨i4, L4_, rfl, q5⟩ := w_I_some q4
  obtain ⟨i5, L5_, rfl, q6⟩ := w_I_some q5
  obtain ⟨rfl, q7⟩ := w_0_some q6
  obtain ⟨rfl, q8⟩ := a_nil_some q7
  exact q8
set_option maxRecDepth 20000 in
theorem sc_82_64 {j : AJ} (hj : SJ j) : Sound kM_82 64 (mc_82_64 j) := by
  unfold mc_82_64
  exact so_istore (by decide +kernel) (by decide +kernel) (so_iload (by decide +kernel) (so_if (off := 12) (tgt := 80) (by decide +kernel) (by decide) rfl (sb_82_80 hj) (so_aload_n (f := 0) (by decide +kernel) rfl (so_get (C := RX7) (T := TX7) (N := 8) (by decide +kernel) rfl kin_7 (by decide) kw_214 (b := true) rfl (fun _ => rfl) (so_iconst (i := 3) (by decide +kernel) (by decide +kernel) (by decide) (so_iload_n (f := 1) (by decide +kernel) rfl (so_weak (so_callV (C := RX5) (T := TX5) (N0 := 2) (by decide +kernel) kcf_30 rfl rfl rfl kw_223 kw_72 kw_73 (by decide +kernel) (sb_30_0 hj) (sb_82_80 hj)) (callvE_imp BK_N))))))))
set_option maxRecDepth 20000 in
theorem sb_82_64 {j : AJ} (hj : SJ j) : Sound kM_82 64 (mb_82_64 j) := by
  refine so_weak (sc_82_64 hj) (fun L S h r q0 => ?_)
  obtain ⟨c0, L0_, rfl, q1⟩ := w_C_some q0
  obtain ⟨i1, L1_, rfl, q2⟩ := w_I_some q1
  obtain ⟨c2, L2_, rfl, q3⟩ := w_C_some q2
  obtain ⟨c3, L3_, rfl, q4⟩ := w_C_some q3
  obtain ⟨i4, L4_, rfl, q5⟩ := w_I_some q4
  obtain ⟨L5_, rfl, q6⟩ := w_N_some q5
  obtain ⟨rfl, q7⟩ := w_0_some q6
  obtain ⟨s0, S0_, rfl, q8⟩ := a_popI_some q7
  obtain ⟨rfl, q9⟩ := a_nil_some q8
  exact q9
set_option maxRecDepth 20000 in
theorem sc_82_63 {j : AJ} (hj : SJ j) : Sound kM_82 63 (mc_82_63 j) := by
  unfold mc_82_63
  exact so_iconst (i := 0) (by decide +kernel) (by decide +kernel) (by decide) (sb_82_64 hj)
set_option maxRecDepth 20000 in
theorem sb_82_63 {j : AJ} (hj : SJ j) : Sound kM_82 63 (mb_82_63 j) := by
  refine so_weak (sc_82_63 hj) (fun L S h r q0 => ?_)
  obtain ⟨c0, L0_, rfl, q1⟩ := w_C_some q0
  obtain ⟨i1, L1_, rfl, q2⟩ := w_I_some q1
  obtain ⟨c2, L2_, rfl, q3⟩ := w_C_some q2
  obtain ⟨c3, L3_, rfl, q4⟩ := w_C_some q3
  obtain ⟨i4, L4_, rfl, q5⟩ := w_I_some q4
  obtain ⟨L5_, rfl, q6⟩ := w_N_some q5
  obtain ⟨rfl, q7⟩ := w_0_some q6
  obtain ⟨rfl, q8⟩ := a_nil_some q7
  exact q8
set_option maxRecDepth 20000 in
theorem sc_82_31 {j : AJ} (hj : SJ j) : Sound kM_82 31 (mc_82_31 j) := by
  unfold mc_82_31
  exact so_istore (by decide +kernel) (by decide +kernel) (so_aload_n (f := 0) (by decide +kernel) rfl (so_get (C := RX7) (T := TX7) (N := 8) (by decide +kernel) rfl kin_7 (by decide) kw_214 (b := true) rfl (fun _ => rfl) (so_iconst (i := 4) (by decide +kernel) (by decide +kernel) (by decide) (so_iload_n (f := 1) (by decide +kernel) rfl (so_weak (so_callV (C := RX5) (T := TX5) (N0 := 2) (by decide +kernel) kcf_54 rfl rfl rfl kw_224 kw_191 kw_192 (by decide +kernel) (sb_54_0 hj) (so_if (off := 21) (tgt := 63) (by decide +kernel) (by decide) rfl (sb_82_63 hj) (so_aload_n (f := 3) (by decide +kernel) rfl (so_iload_n (f := 1) (by decide +kernel) rfl (so_aload_n (f := 0) (by decide +kernel) rfl (so_get (C := RX7) (T := TX7) (N := 8) (by decide +kernel) rfl kin_7 (by decide) kw_214 (b := true) rfl (fun _ => rfl) (so_iconst (i := 3) (by decide +kernel) (by decide +kernel) (by decide) (so_iload_n (f := 1) (by decide +kernel) rfl (so_weak (so_callV (C := RX5) (T := TX5) (N0 := 2) (by decide +kernel) kcf_59 rfl rfl rfl kw_225 kw_226 kw_227 (by decide +kernel) (sb_59_0 hj) (so_if (off := 7) (tgt := 63) (by decide +kernel) (by decide) rfl (sb_82_63 hj) (so_iconst (i := 1) (by decide +kernel) (by decide +kernel) (by decide) (so_goto (off := 4) (tgt := 64) (by decide +kernel) (by decide) (sb_82_64 hj))))) (callvE_imp BK_I)))))))))) (callvE_imp BK_I))))))
set_option maxRecDepth 20000 in
theorem sb_82_31 {j : AJ} (hj : SJ j) : Sound kM_82 31 (mb_82_31 j) := by
  refine so_weak (sc_82_31 hj) (fun L S h r q0 => ?_)
  obtain ⟨c0, L0_, rfl, q1⟩ := w_C_some q0
  obtain ⟨i1, L1_, rfl, q2⟩ := w_I_some q1
  obtain ⟨c2, L2_, rfl, q3⟩ := w_C_some q2
  obtain ⟨c3, L3_, rfl, q4⟩ := w_C_some q3
  obtain ⟨L4_, rfl, q5⟩ := w_N_some q4
  obtain ⟨L5_, rfl, q6⟩ := w_N_some q5
  obtain ⟨rfl, q7⟩ := w_0_some q6
  obtain ⟨s0, S0_, rfl, q8⟩ := a_popI_some q7
  obtain ⟨rfl, q9⟩ := a_nil_some q8
  exact q9
set_option maxRecDepth 20000 in
theorem sc_82_30 {j : AJ} (hj : SJ j) : Sound kM_82 30 (mc_82_30 j) := by
  unfold mc_82_30
  exact so_iconst (i := 0) (by decide +kernel) (by decide +kernel) (by decide) (sb_82_31 hj)
set_option maxRecDepth 20000 in
theorem sb_82_30 {j : AJ} (hj : SJ j) : Sound kM_82 30 (mb_82_30 j) := by
  refine so_weak (sc_82_30 hj) (fun L S h r q0 => ?_)
  obtain ⟨c0, L0_, rfl, q1⟩ := w_C_some q0
  obtain ⟨i1, L1_, rfl, q2⟩ := w_I_some q1
  obtain ⟨c2, L2_, rfl, q3⟩ := w_C_some q2
  obtain ⟨c3, L3_, rfl, q4⟩ := w_C_some q3
  obtain ⟨L4_, rfl, q5⟩ := w_N_some q4
  obtain ⟨L5_, rfl, q6⟩ := w_N_some q5
  obtain ⟨rfl, q7⟩ := w_0_some q6
  obtain ⟨rfl, q8⟩ := a_nil_some q7
  exact q8
set_option maxRecDepth 20000 in
theorem sc_82_0 {j : AJ} (hj : SJ j) : Sound kM_82 0 (mc_82_0 j) := by
  unfold mc_82_0
  exact so_aload_n (f := 0) (by decide +kernel) rfl (so_get (C := RX7) (T := TX7) (N := 8) (by decide +kernel) rfl kin_7 (by decide) kw_214 (b := true) rfl (fun _ => rfl) (so_iconst (i := 5) (by decide +kernel) (by decide +kernel) (by decide) (so_iload_n (f := 1) (by decide +kernel) rfl (so_weak (so_callV (C := RX5) (T := TX5) (N0 := 2) (by decide +kernel) kcf_54 rfl rfl rfl kw_224 kw_191 kw_192 (by decide +kernel) (sb_54_0 hj) (so_if (off := 21) (tgt := 30) (by decide +kernel) (by decide) rfl (sb_82_30 hj) (so_aload_n (f := 2) (by decide +kernel) rfl (so_iload_n (f := 1) (by decide +kernel) rfl (so_aload_n (f := 0) (by decide +kernel) rfl (so_get (C := RX7) (T := TX7) (N := 8) (by decide +kernel) rfl kin_7 (by decide) kw_214 (b := true) rfl (fun _ => rfl) (so_iconst (i := 2) (by decide +kernel) (by decide +kernel) (by decide) (so_iload_n (f := 1) (by decide +kernel) rfl (so_weak (so_callV (C := RX5) (T := TX5) (N0 := 2) (by decide +kernel) kcf_59 rfl rfl rfl kw_225 kw_226 kw_227 (by decide +kernel) (sb_59_0 hj) (so_if (off := 7) (tgt := 30) (by decide +kernel) (by decide) rfl (sb_82_30 hj) (so_iconst (i := 1) (by decide +kernel) (by decide +kernel) (by decide) (so_goto (off := 4) (tgt := 31) (by decide +kernel) (by decide) (sb_82_31 hj))))) (callvE_imp BK_I)))))))))) (callvE_imp BK_I)))))
set_option maxRecDepth 20000 in
theorem sb_82_0 {j : AJ} (hj : SJ j) : Sound kM_82 0 (mb_82_0 j) := by
  refine so_weak (sc_82_0 hj) (fun L S h r q0 => ?_)
  obtain ⟨c0, L0_, rfl, q1⟩ := w_C_some q0
  obtain ⟨i1, L1_, rfl, q2⟩ := w_I_some q1
  obtain ⟨c2, L2_, rfl, q3⟩ := w_C_some q2
  obtain ⟨c3, L3_, rfl, q4⟩ := w_C_some q3
  obtain ⟨L4_, rfl, q5⟩ := w_N_some q4
  obtain ⟨L5_, rfl, q6⟩ := w_N_some q5
  obtain ⟨rfl, q7⟩ := w_0_some q6
  obtain ⟨rfl, q8⟩ := a_nil_some q7
  exact q8
set_option maxRecDepth 20000 in
theorem sc_83_90 {j : AJ} (hj : SJ j) : Sound kM_83 90 (mc_83_90 j) := by
  unfold mc_83_90
  exact so_retv (by decide +kernel) rfl
set_option maxRecDepth 20000 in
theorem sb_83_90 {j : AJ} (hj : SJ j) : Sound kM_83 90 (mb_83_90 j) := by
  refine so_weak (sc_83_90 hj) (fun L S h r q0 => ?_)
  obtain ⟨c0, L0_, rfl, q1⟩ := w_C_some q0
  obtain ⟨i1, L1_, rfl, q2⟩ := w_I_some q1
  obtain ⟨i2, L2_, rfl, q3⟩ := w_I_some q2
  obtain ⟨c3, L3_, rfl, q4⟩ := w_C_some q3
  obtain ⟨i4, L4_, rfl, q5⟩ := w_I_some q4
  obtain ⟨x5, L5_, rfl, q6⟩ := w_X_some q5
  obtain ⟨rfl, q7⟩ := w_0_some q6
  obtain ⟨rfl, q8⟩ := a_nil_some q7
  exact q8
set_option maxRecDepth 20000 in
theorem sc_83_84 {j : AJ} (hj : SJ j) : Sound kM_83 84 (mc_83_84 j) := by
  unfold mc_83_84
  exact so_iinc (z := -1) (by decide +kernel) (by decide +kernel) (by decide) (by decide +kernel) (so_goto (off := -71) (tgt := 16) (by decide +kernel) (by decide) (hj 36 _ _ rfl))
set_option maxRecDepth 20000 in
theorem sb_83_84 {j : AJ} (hj : SJ j) : Sound kM_83 84 (mb_83_84 j) := by
  refine so_weak (sc_83_84 hj) (fun L S h r q0 => ?_)
  obtain ⟨c0, L0_, rfl, q1⟩ := w_C_some q0
  obtain ⟨i1, L1_, rfl, q2⟩ := w_I_some q1
  obtain ⟨i2, L2_, rfl, q3⟩ := w_I_some q2
  obtain ⟨c3, L3_, rfl, q4⟩ := w_C_some q3
  obtain ⟨i4, L4_, rfl, q5⟩ := w_I_some q4
  obtain ⟨i5, L5_, rfl, q6⟩ := w_I_some q5
  obtain ⟨rfl, q7⟩ := w_0_some q6
  obtain ⟨rfl, q8⟩ := a_nil_some q7
  exact q8
set_option maxRecDepth 20000 in
theorem sc_83_52 {j : AJ} (hj : SJ j) : Sound kM_83 52 (mc_83_52 j) := by
  unfold mc_83_52
  exact so_istore (by decide +kernel) (by decide +kernel) (so_iload (by decide +kernel) (so_if (off := 28) (tgt := 84) (by decide +kernel) (by decide) rfl (sb_83_84 hj) (so_aload_n (f := 0) (by decide +kernel) rfl (so_get (C := RX7) (T := TX7) (N := 8) (by decide +kernel) rfl kin_7 (by decide) kw_214 (b := true) rfl (fun _ => rfl) (so_iload_n (f := 1) (by decide +kernel) rfl (so_iload (by decide +kernel) (so_weak (so_callV (C := RX5) (T := TX5) (N0 := 2) (by decide +kernel) kcf_55 rfl rfl rfl kw_228 kw_229 kw_230 (by decide +kernel) (sb_55_0 hj) (so_aload_n (f := 0) (by decide +kernel) rfl (so_get (C := RX7) (T := TX7) (N := 8) (by decide +kernel) rfl kin_7 (by decide) kw_214 (b := true) rfl (fun _ => rfl) (so_iload_n (f := 1) (by decide +kernel) rfl (so_aload_n (f := 0) (by decide +kernel) rfl (so_iload_n (f := 1) (by decide +kernel) rfl (so_weak (so_callV (C := RX7) (T := TX7) (N0 := 8) (by decide +kernel) kcf_79 rfl rfl rfl kw_231 kw_232 kw_233 (by decide +kernel) (sb_79_0 hj) (so_iload (by decide +kernel) (so_weak (so_callV (C := RX5) (T := TX5) (N0 := 2) (by decide +kernel) kcf_57 rfl rfl rfl kw_218 kw_219 kw_220 (by decide +kernel) (sb_57_0 hj) (sb_83_84 hj)) (callvE_imp BK_N)))) (callvE_imp BK_C)))))))) (callvE_imp BK_N))))))))
set_option maxRecDepth 20000 in
theorem sb_83_52 {j : AJ} (hj : SJ j) : Sound kM_83 52 (mb_83_52 j) := by
  refine so_weak (sc_83_52 hj) (fun L S h r q0 => ?_)
  obtain ⟨c0, L0_, rfl, q1⟩ := w_C_some q0
  obtain ⟨i1, L1_, rfl, q2⟩ := w_I_some q1
  obtain ⟨i2, L2_, rfl, q3⟩ := w_I_some q2
  obtain ⟨c3, L3_, rfl, q4⟩ := w_C_some q3
  obtain ⟨i4, L4_, rfl, q5⟩ := w_I_some q4
  obtain ⟨x5, L5_, rfl, q6⟩ := w_X_some q5
  obtain ⟨rfl, q7⟩ := w_0_some q6
  obtain ⟨s0, S0_, rfl, q8⟩ := a_popI_some q7
  obtain ⟨rfl, q9⟩ := a_nil_some q8
  exact q9
set_option maxRecDepth 20000 in
theorem sc_83_50 {j : AJ} (hj : SJ j) : Sound kM_83 50 (mc_83_50 j) := by
  unfold mc_83_50
  exact so_bipush (i := -4) (by decide +kernel) (by decide +kernel) (by decide) (sb_83_52 hj)
set_option maxRecDepth 20000 in
theorem sb_83_50 {j : AJ} (hj : SJ j) : Sound kM_83 50 (mb_83_50 j) := by
  refine so_weak (sc_83_50 hj) (fun L S h r q0 => ?_)
  obtain ⟨c0, L0_, rfl, q1⟩ := w_C_some q0
  obtain ⟨i1, L1_, rfl, q2⟩ := w_I_some q1
  obtain ⟨i2, L2_, rfl, q3⟩ := w_I_some q2
  obtain ⟨c3, L3_, rfl, q4⟩ := w_C_some q3
  obtain ⟨i4, L4_, rfl, q5⟩ := w_I_some q4
  obtain ⟨x5, L5_, rfl, q6⟩ := w_X_some q5
  obtain ⟨rfl, q7⟩ := w_0_some q6
  obtain ⟨rfl, q8⟩ := a_nil_some q7
  exact q8
set_option maxRecDepth 20000 in
theorem sc_83_16 {j : AJ} (hj : SJ j) : Sound kM_83 16 (mc_83_16 j) := by
  unfold mc_83_16
  exact so_iload (by decide +kernel) (so_if (off := 72) (tgt := 90) (by decide +kernel) (by decide) rfl (sb_83_90 hj) (so_aload_n (f := 0) (by decide +kernel) rfl (so_get (C := RX7) (T := TX7) (N := 8) (by decide +kernel) rfl kin_7 (by decide) kw_214 (b := true) rfl (fun _ => rfl) (so_iload_n (f := 1) (by decide +kernel) rfl (so_iload (by decide +kernel) (so_weak (so_callV (C := RX5) (T := TX5) (N0 := 2) (by decide +kernel) kcf_54 rfl rfl rfl kw_224 kw_191 kw_192 (by decide +kernel) (sb_54_0 hj) (so_if (off := 19) (tgt := 50) (by decide +kernel) (by decide) rfl (sb_83_50 hj) (so_aload_n (f := 3) (by decide +kernel) rfl (so_iload (by decide +kernel) (so_aload_n (f := 0) (by decide +kernel) rfl (so_get (C := RX7) (T := TX7) (N := 8) (by decide +kernel) rfl kin_7 (by decide) kw_214 (b := true) rfl (fun _ => rfl) (so_iload_n (f := 2) (by decide +kernel) rfl (so_iload (by decide +kernel) (so_weak (so_callV (C := RX5) (T := TX5) (N0 := 2) (by decide +kernel) kcf_59 rfl rfl rfl kw_225 kw_226 kw_227 (by decide +kernel) (sb_59_0 hj) (so_goto (off := 5) (tgt := 52) (by decide +kernel) (by decide) (sb_83_52 hj))) (callvE_imp BK_I)))))))))) (callvE_imp BK_I)))))))
set_option maxRecDepth 20000 in
theorem sb_83_16 {j : AJ} (hj : SJ j) : Sound kM_83 16 (mb_83_16 j) := by
  refine so_weak (sc_83_16 hj) (fun L S h r q0 => ?_)
  obtain ⟨c0, L0_, rfl, q1⟩ := w_C_some q0
  obtain ⟨i1, L1_, rfl, q2⟩ := w_I_some q1
  obtain ⟨i2, L2_, rfl, q3⟩ := w_I_some q2
  obtain ⟨c3, L3_, rfl, q4⟩ := w_C_some q3
  obtain ⟨i4, L4_, rfl, q5⟩ := w_I_some q4
  obtain ⟨x5, L5_, rfl, q6⟩ := w_X_some q5
  obtain ⟨rfl, q7⟩ := w_0_some q6
  obtain ⟨rfl, q8⟩ := a_nil_some q7
  exact q8
set_option maxRecDepth 20000 in
theorem sc_83_0 {j : AJ} (hj : SJ j) : Sound kM_83 0 (mc_83_0 j) := by
  unfold mc_83_0
  exact so_aload_n (f := 0) (by decide +kernel) rfl (so_iconst (i := 1) (by decide +kernel) (by decide +kernel) (by decide) (so_iload_n (f := 1) (by decide +kernel) rfl (so_isub (by decide +kernel) (so_weak (so_callV (C := RX7) (T := TX7) (N0 := 8) (by decide +kernel) kcf_79 rfl rfl rfl kw_231 kw_232 kw_233 (by decide +kernel) (sb_79_0 hj) (so_astore_n (f := 3) (by decide +kernel) rfl (by decide +kernel) (so_aload_n (f := 0) (by decide +kernel) rfl (so_get (C := RX7) (T := TX7) (N := 8) (by decide +kernel) rfl kin_7 (by decide) kw_234 (b := false) rfl (fun _ => rfl) (so_iconst (i := 1) (by decide +kernel) (by decide +kernel) (by decide) (so_isub (by decide +kernel) (so_istore (by decide +kernel) (by decide +kernel) (sb_83_16 hj)))))))) (callvE_imp BK_C)))))
set_option maxRecDepth 20000 in
theorem sb_83_0 {j : AJ} (hj : SJ j) : Sound kM_83 0 (mb_83_0 j) := by
  refine so_weak (sc_83_0 hj) (fun L S h r q0 => ?_)
  obtain ⟨c0, L0_, rfl, q1⟩ := w_C_some q0
  obtain ⟨i1, L1_, rfl, q2⟩ := w_I_some q1
  obtain ⟨i2, L2_, rfl, q3⟩ := w_I_some q2
  obtain ⟨L3_, rfl, q4⟩ := w_N_some q3
  obtain ⟨L4_, rfl, q5⟩ := w_N_some q4
  obtain ⟨L5_, rfl, q6⟩ := w_N_some q5
  obtain ⟨rfl, q7⟩ := w_0_some q6
  obtain ⟨rfl, q8⟩ := a_nil_some q7
  exact q8
