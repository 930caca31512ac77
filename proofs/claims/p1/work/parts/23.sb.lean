/-! ===== the blocks are sound ===== -/
set_option maxRecDepth 20000 in
theorem sb_136_15 {j : AJ} (hj : SJ j) : Sound kM_136 15 (mb_136_15 j) := by
  unfold mb_136_15
  exact so_retz (by decide +kernel) rfl
set_option maxRecDepth 20000 in
theorem sb_136_14 {j : AJ} (hj : SJ j) : Sound kM_136 14 (mb_136_14 j) := by
  unfold mb_136_14
  exact so_iconst (i := 0) (by decide +kernel) (by decide +kernel) (by decide) (sb_136_15 hj)
set_option maxRecDepth 20000 in
theorem sb_136_0 {j : AJ} (hj : SJ j) : Sound kM_136 0 (mb_136_0 j) := by
  unfold mb_136_0
  exact so_iload_n (f := 0) (by decide +kernel) rfl (so_if (off := 13) (tgt := 14) (by decide +kernel) (by decide) rfl (sb_136_14 hj) (so_iload_n (f := 0) (by decide +kernel) rfl (so_bipush (i := 6) (by decide +kernel) (by decide +kernel) (by decide) (so_icmp (off := 7) (tgt := 14) (by decide +kernel) (by decide) rfl (sb_136_14 hj) (so_iconst (i := 1) (by decide +kernel) (by decide +kernel) (by decide) (so_goto (off := 4) (tgt := 15) (by decide +kernel) (by decide) (sb_136_15 hj)))))))
set_option maxRecDepth 20000 in
theorem sb_137_24 {j : AJ} (hj : SJ j) : Sound kM_137 24 (mb_137_24 j) := by
  unfold mb_137_24
  exact so_retz (by decide +kernel) rfl
set_option maxRecDepth 20000 in
theorem sb_137_23 {j : AJ} (hj : SJ j) : Sound kM_137 23 (mb_137_23 j) := by
  unfold mb_137_23
  exact so_iconst (i := 0) (by decide +kernel) (by decide +kernel) (by decide) (sb_137_24 hj)
set_option maxRecDepth 20000 in
theorem sb_137_0 {j : AJ} (hj : SJ j) : Sound kM_137 0 (mb_137_0 j) := by
  unfold mb_137_0
  exact so_iload_n (f := 1) (by decide +kernel) rfl (so_if (off := 22) (tgt := 23) (by decide +kernel) (by decide) rfl (sb_137_23 hj) (so_iload_n (f := 1) (by decide +kernel) rfl (so_bipush (i := 16) (by decide +kernel) (by decide +kernel) (by decide) (so_icmp (off := 16) (tgt := 23) (by decide +kernel) (by decide) rfl (sb_137_23 hj) (so_iload_n (f := 0) (by decide +kernel) rfl (so_iload_n (f := 1) (by decide +kernel) rfl (so_ishr (by decide +kernel) (so_iconst (i := 1) (by decide +kernel) (by decide +kernel) (by decide) (so_iand (by decide +kernel) (so_iconst (i := 1) (by decide +kernel) (by decide +kernel) (by decide) (so_icmp (off := 7) (tgt := 23) (by decide +kernel) (by decide) rfl (sb_137_23 hj) (so_iconst (i := 1) (by decide +kernel) (by decide +kernel) (by decide) (so_goto (off := 4) (tgt := 24) (by decide +kernel) (by decide) (sb_137_24 hj))))))))))))))
set_option maxRecDepth 20000 in
theorem sc_138_24 {j : AJ} (hj : SJ j) : Sound kM_138 24 (mc_138_24 j) := by
  unfold mc_138_24
  exact so_iload_n (f := 1) (by decide +kernel) rfl (so_reti (by decide +kernel) rfl)
set_option maxRecDepth 20000 in
theorem sb_138_24 {j : AJ} (hj : SJ j) : Sound kM_138 24 (mb_138_24 j) := by
  refine so_weak (sc_138_24 hj) (fun L S h r q0 => ?_)
  obtain ⟨i0, L0_, rfl, q1⟩ := w_I_some q0
  obtain ⟨i1, L1_, rfl, q2⟩ := w_I_some q1
  obtain ⟨i2, L2_, rfl, q3⟩ := w_I_some q2
  obtain ⟨rfl, q4⟩ := w_0_some q3
  obtain ⟨rfl, q5⟩ := a_nil_some q4
  exact q5
set_option maxRecDepth 20000 in
theorem sc_138_4 {j : AJ} (hj : SJ j) : Sound kM_138 4 (mc_138_4 j) := by
  unfold mc_138_4
  exact so_iload_n (f := 2) (by decide +kernel) rfl (so_bipush (i := 16) (by decide +kernel) (by decide +kernel) (by decide) (so_icmp (off := 17) (tgt := 24) (by decide +kernel) (by decide) rfl (sb_138_24 hj) (so_iload_n (f := 1) (by decide +kernel) rfl (so_iload_n (f := 0) (by decide +kernel) rfl (so_iload_n (f := 2) (by decide +kernel) rfl (so_ishr (by decide +kernel) (so_iconst (i := 1) (by decide +kernel) (by decide +kernel) (by decide) (so_iand (by decide +kernel) (so_iadd (by decide +kernel) (so_istore_n (f := 1) (by decide +kernel) rfl (by decide +kernel) (so_iinc (z := 1) (by decide +kernel) (by decide +kernel) (by decide) (by decide +kernel) (so_goto (off := -17) (tgt := 4) (by decide +kernel) (by decide) (hj 65 _ _ rfl)))))))))))))
set_option maxRecDepth 20000 in
theorem sb_138_4 {j : AJ} (hj : SJ j) : Sound kM_138 4 (mb_138_4 j) := by
  refine so_weak (sc_138_4 hj) (fun L S h r q0 => ?_)
  obtain ⟨i0, L0_, rfl, q1⟩ := w_I_some q0
  obtain ⟨i1, L1_, rfl, q2⟩ := w_I_some q1
  obtain ⟨i2, L2_, rfl, q3⟩ := w_I_some q2
  obtain ⟨rfl, q4⟩ := w_0_some q3
  obtain ⟨rfl, q5⟩ := a_nil_some q4
  exact q5
set_option maxRecDepth 20000 in
theorem sc_138_0 {j : AJ} (hj : SJ j) : Sound kM_138 0 (mc_138_0 j) := by
  unfold mc_138_0
  exact so_iconst (i := 0) (by decide +kernel) (by decide +kernel) (by decide) (so_istore_n (f := 1) (by decide +kernel) rfl (by decide +kernel) (so_iconst (i := 0) (by decide +kernel) (by decide +kernel) (by decide) (so_istore_n (f := 2) (by decide +kernel) rfl (by decide +kernel) (sb_138_4 hj))))
set_option maxRecDepth 20000 in
theorem sb_138_0 {j : AJ} (hj : SJ j) : Sound kM_138 0 (mb_138_0 j) := by
  refine so_weak (sc_138_0 hj) (fun L S h r q0 => ?_)
  obtain ⟨i0, L0_, rfl, q1⟩ := w_I_some q0
  obtain ⟨L1_, rfl, q2⟩ := w_N_some q1
  obtain ⟨L2_, rfl, q3⟩ := w_N_some q2
  obtain ⟨rfl, q4⟩ := w_0_some q3
  obtain ⟨rfl, q5⟩ := a_nil_some q4
  exact q5
set_option maxRecDepth 20000 in
theorem sb_139_28 {j : AJ} (hj : SJ j) : Sound kM_139 28 (mb_139_28 j) := by
  unfold mb_139_28
  exact so_aload_n (f := 0) (by decide +kernel) rfl (so_get (C := RX9) (T := TX9) (N := 38) (by decide +kernel) rfl kin_9 (by decide) kw_442 (b := true) rfl (fun _ => rfl) (so_iload_n (f := 1) (by decide +kernel) rfl (so_aload_n (f := 0) (by decide +kernel) rfl (so_get (C := RX9) (T := TX9) (N := 38) (by decide +kernel) rfl kin_9 (by decide) kw_442 (b := true) rfl (fun _ => rfl) (so_iload_n (f := 1) (by decide +kernel) rfl (so_iald (by decide +kernel) (so_bipush (i := 15) (by decide +kernel) (by decide +kernel) (by decide) (so_iconst (i := 4) (by decide +kernel) (by decide +kernel) (by decide) (so_iload_n (f := 2) (by decide +kernel) rfl (so_imul (by decide +kernel) (so_ishl (by decide +kernel) (so_iconst (i := -1) (by decide +kernel) (by decide +kernel) (by decide) (so_ixor (by decide +kernel) (so_iand (by decide +kernel) (so_iload_n (f := 3) (by decide +kernel) rfl (so_iconst (i := 4) (by decide +kernel) (by decide +kernel) (by decide) (so_iload_n (f := 2) (by decide +kernel) rfl (so_imul (by decide +kernel) (so_ishl (by decide +kernel) (so_ior (by decide +kernel) (so_iast (by decide +kernel) (so_aload_n (f := 0) (by decide +kernel) rfl (so_get (C := RX9) (T := TX9) (N := 38) (by decide +kernel) rfl kin_9 (by decide) kw_444 (b := true) rfl (fun _ => rfl) (so_iload_n (f := 1) (by decide +kernel) rfl (so_iconst (i := 0) (by decide +kernel) (by decide +kernel) (by decide) (so_iast (by decide +kernel) (so_aload_n (f := 0) (by decide +kernel) rfl (so_get (C := RX9) (T := TX9) (N := 38) (by decide +kernel) rfl kin_9 (by decide) kw_442 (b := true) rfl (fun _ => rfl) (so_iload_n (f := 1) (by decide +kernel) rfl (so_iald (by decide +kernel) (so_callS (by decide +kernel) kcf_138 rfl kw_478 kw_479 (by decide +kernel) (sb_138_0 hj) (so_reti (by decide +kernel) rfl))))))))))))))))))))))))))))))))
set_option maxRecDepth 20000 in
theorem sb_139_26 {j : AJ} (hj : SJ j) : Sound kM_139 26 (mb_139_26 j) := by
  unfold mb_139_26
  exact so_iconst (i := -1) (by decide +kernel) (by decide +kernel) (by decide) (so_reti (by decide +kernel) rfl)
set_option maxRecDepth 20000 in
theorem sb_139_0 {j : AJ} (hj : SJ j) : Sound kM_139 0 (mb_139_0 j) := by
  unfold mb_139_0
  exact so_iload_n (f := 1) (by decide +kernel) rfl (so_callS (by decide +kernel) kcf_136 rfl kw_480 kw_481 (by decide +kernel) (sb_136_0 hj) (so_if (off := 22) (tgt := 26) (by decide +kernel) (by decide) rfl (sb_139_26 hj) (so_iload_n (f := 2) (by decide +kernel) rfl (so_if (off := 18) (tgt := 26) (by decide +kernel) (by decide) rfl (sb_139_26 hj) (so_iload_n (f := 2) (by decide +kernel) rfl (so_iconst (i := 3) (by decide +kernel) (by decide +kernel) (by decide) (so_icmp (off := 13) (tgt := 26) (by decide +kernel) (by decide) rfl (sb_139_26 hj) (so_iload_n (f := 3) (by decide +kernel) rfl (so_if (off := 9) (tgt := 26) (by decide +kernel) (by decide) rfl (sb_139_26 hj) (so_iload_n (f := 3) (by decide +kernel) rfl (so_bipush (i := 15) (by decide +kernel) (by decide +kernel) (by decide) (so_icmp (off := 5) (tgt := 28) (by decide +kernel) (by decide) rfl (sb_139_28 hj) (sb_139_26 hj)))))))))))))
set_option maxRecDepth 20000 in
theorem sb_140_25 {j : AJ} (hj : SJ j) : Sound kM_140 25 (mb_140_25 j) := by
  unfold mb_140_25
  exact so_retz (by decide +kernel) rfl
set_option maxRecDepth 20000 in
theorem sb_140_24 {j : AJ} (hj : SJ j) : Sound kM_140 24 (mb_140_24 j) := by
  unfold mb_140_24
  exact so_iconst (i := 0) (by decide +kernel) (by decide +kernel) (by decide) (sb_140_25 hj)
set_option maxRecDepth 20000 in
theorem sb_140_0 {j : AJ} (hj : SJ j) : Sound kM_140 0 (mb_140_0 j) := by
  unfold mb_140_0
  exact so_iload_n (f := 1) (by decide +kernel) rfl (so_callS (by decide +kernel) kcf_136 rfl kw_480 kw_481 (by decide +kernel) (sb_136_0 hj) (so_if (off := 20) (tgt := 24) (by decide +kernel) (by decide) rfl (sb_140_24 hj) (so_aload_n (f := 0) (by decide +kernel) rfl (so_get (C := RX9) (T := TX9) (N := 38) (by decide +kernel) rfl kin_9 (by decide) kw_442 (b := true) rfl (fun _ => rfl) (so_iload_n (f := 1) (by decide +kernel) rfl (so_iald (by decide +kernel) (so_iload_n (f := 2) (by decide +kernel) rfl (so_callS (by decide +kernel) kcf_137 rfl kw_482 kw_483 (by decide +kernel) (sb_137_0 hj) (so_if (off := 7) (tgt := 24) (by decide +kernel) (by decide) rfl (sb_140_24 hj) (so_iconst (i := 1) (by decide +kernel) (by decide +kernel) (by decide) (so_goto (off := 4) (tgt := 25) (by decide +kernel) (by decide) (sb_140_25 hj))))))))))))
set_option maxRecDepth 20000 in
theorem sb_141_20 {j : AJ} (hj : SJ j) : Sound kM_141 20 (mb_141_20 j) := by
  unfold mb_141_20
  exact so_reti (by decide +kernel) rfl
set_option maxRecDepth 20000 in
theorem sb_141_19 {j : AJ} (hj : SJ j) : Sound kM_141 19 (mb_141_19 j) := by
  unfold mb_141_19
  exact so_iconst (i := -1) (by decide +kernel) (by decide +kernel) (by decide) (sb_141_20 hj)
set_option maxRecDepth 20000 in
theorem sb_141_0 {j : AJ} (hj : SJ j) : Sound kM_141 0 (mb_141_0 j) := by
  unfold mb_141_0
  exact so_iload_n (f := 1) (by decide +kernel) rfl (so_callS (by decide +kernel) kcf_136 rfl kw_480 kw_481 (by decide +kernel) (sb_136_0 hj) (so_if (off := 15) (tgt := 19) (by decide +kernel) (by decide) rfl (sb_141_19 hj) (so_aload_n (f := 0) (by decide +kernel) rfl (so_get (C := RX9) (T := TX9) (N := 38) (by decide +kernel) rfl kin_9 (by decide) kw_442 (b := true) rfl (fun _ => rfl) (so_iload_n (f := 1) (by decide +kernel) rfl (so_iald (by decide +kernel) (so_callS (by decide +kernel) kcf_138 rfl kw_478 kw_479 (by decide +kernel) (sb_138_0 hj) (so_goto (off := 4) (tgt := 20) (by decide +kernel) (by decide) (sb_141_20 hj)))))))))
set_option maxRecDepth 20000 in
theorem sb_142_96 {j : AJ} (hj : SJ j) : Sound kM_142 96 (mb_142_96 j) := by
  unfold mb_142_96
  exact so_iload_n (f := 3) (by decide +kernel) rfl (so_reti (by decide +kernel) rfl)
set_option maxRecDepth 20000 in
theorem sb_142_83 {j : AJ} (hj : SJ j) : Sound kM_142 83 (mb_142_83 j) := by
  unfold mb_142_83
  exact so_iload_n (f := 2) (by decide +kernel) rfl (so_iload (by decide +kernel) (so_iconst (i := -1) (by decide +kernel) (by decide +kernel) (by decide) (so_ixor (by decide +kernel) (so_iand (by decide +kernel) (so_istore_n (f := 2) (by decide +kernel) rfl (by decide +kernel) (so_iinc (z := 1) (by decide +kernel) (by decide +kernel) (by decide) (by decide +kernel) (so_goto (off := -75) (tgt := 18) (by decide +kernel) (by decide) (hj 67 _ _ rfl))))))))
set_option maxRecDepth 20000 in
theorem sb_142_31 {j : AJ} (hj : SJ j) : Sound kM_142 31 (mb_142_31 j) := by
  unfold mb_142_31
  exact so_iload (by decide +kernel) (so_iload (by decide +kernel) (so_icmp (off := 48) (tgt := 83) (by decide +kernel) (by decide) rfl (sb_142_83 hj) (so_iload (by decide +kernel) (so_istore (by decide +kernel) (by decide +kernel) (so_iload (by decide +kernel) (so_sipush (i := 30583) (by decide +kernel) (by decide +kernel) (by decide) (so_iand (by decide +kernel) (so_iconst (i := 1) (by decide +kernel) (by decide +kernel) (by decide) (so_ishl (by decide +kernel) (so_iload (by decide +kernel) (so_iconst (i := 1) (by decide +kernel) (by decide +kernel) (by decide) (so_ishr (by decide +kernel) (so_sipush (i := 30583) (by decide +kernel) (by decide +kernel) (by decide) (so_iand (by decide +kernel) (so_ior (by decide +kernel) (so_istore (by decide +kernel) (by decide +kernel) (so_iload (by decide +kernel) (so_iload (by decide +kernel) (so_iload (by decide +kernel) (so_iconst (i := 4) (by decide +kernel) (by decide +kernel) (by decide) (so_ishl (by decide +kernel) (so_ior (by decide +kernel) (so_iload (by decide +kernel) (so_iconst (i := 4) (by decide +kernel) (by decide +kernel) (by decide) (so_ishr (by decide +kernel) (so_ior (by decide +kernel) (so_iload_n (f := 2) (by decide +kernel) rfl (so_iand (by decide +kernel) (so_ior (by decide +kernel) (so_istore (by decide +kernel) (by decide +kernel) (so_goto (off := -49) (tgt := 31) (by decide +kernel) (by decide) (hj 66 _ _ rfl))))))))))))))))))))))))))))))))
set_option maxRecDepth 20000 in
theorem sb_142_18 {j : AJ} (hj : SJ j) : Sound kM_142 18 (mb_142_18 j) := by
  unfold mb_142_18
  exact so_iload_n (f := 2) (by decide +kernel) rfl (so_if (off := 77) (tgt := 96) (by decide +kernel) (by decide) rfl (sb_142_96 hj) (so_iload_n (f := 2) (by decide +kernel) rfl (so_iload_n (f := 2) (by decide +kernel) rfl (so_ineg (by decide +kernel) (so_iand (by decide +kernel) (so_istore (by decide +kernel) (by decide +kernel) (so_iconst (i := 0) (by decide +kernel) (by decide +kernel) (by decide) (so_istore (by decide +kernel) (by decide +kernel) (sb_142_31 hj)))))))))
set_option maxRecDepth 20000 in
theorem sb_142_9 {j : AJ} (hj : SJ j) : Sound kM_142 9 (mb_142_9 j) := by
  unfold mb_142_9
  exact so_aload_n (f := 0) (by decide +kernel) rfl (so_get (C := RX9) (T := TX9) (N := 38) (by decide +kernel) rfl kin_9 (by decide) kw_442 (b := true) rfl (fun _ => rfl) (so_iload_n (f := 1) (by decide +kernel) rfl (so_iald (by decide +kernel) (so_istore_n (f := 2) (by decide +kernel) rfl (by decide +kernel) (so_iconst (i := 0) (by decide +kernel) (by decide +kernel) (by decide) (so_istore_n (f := 3) (by decide +kernel) rfl (by decide +kernel) (sb_142_18 hj)))))))
set_option maxRecDepth 20000 in
theorem sb_142_0 {j : AJ} (hj : SJ j) : Sound kM_142 0 (mb_142_0 j) := by
  unfold mb_142_0
  exact so_iload_n (f := 1) (by decide +kernel) rfl (so_callS (by decide +kernel) kcf_136 rfl kw_480 kw_481 (by decide +kernel) (sb_136_0 hj) (so_if (off := 5) (tgt := 9) (by decide +kernel) (by decide) rfl (sb_142_9 hj) (so_iconst (i := -1) (by decide +kernel) (by decide +kernel) (by decide) (so_reti (by decide +kernel) rfl))))
set_option maxRecDepth 20000 in
theorem sc_143_48 {j : AJ} (hj : SJ j) : Sound kM_143 48 (mc_143_48 j) := by
  unfold mc_143_48
  exact so_reti (by decide +kernel) rfl
set_option maxRecDepth 20000 in
theorem sb_143_48 {j : AJ} (hj : SJ j) : Sound kM_143 48 (mb_143_48 j) := by
  refine so_weak (sc_143_48 hj) (fun L S h r q0 => ?_)
  obtain ⟨i0, L0_, rfl, q1⟩ := w_I_some q0
  obtain ⟨i1, L1_, rfl, q2⟩ := w_I_some q1
  obtain ⟨i2, L2_, rfl, q3⟩ := w_I_some q2
  obtain ⟨i3, L3_, rfl, q4⟩ := w_I_some q3
  obtain ⟨rfl, q5⟩ := w_0_some q4
  obtain ⟨s0, S0_, rfl, q6⟩ := a_popI_some q5
  obtain ⟨rfl, q7⟩ := a_nil_some q6
  exact q7
set_option maxRecDepth 20000 in
theorem sc_143_47 {j : AJ} (hj : SJ j) : Sound kM_143 47 (mc_143_47 j) := by
  unfold mc_143_47
  exact so_iconst (i := -1) (by decide +kernel) (by decide +kernel) (by decide) (sb_143_48 hj)
set_option maxRecDepth 20000 in
theorem sb_143_47 {j : AJ} (hj : SJ j) : Sound kM_143 47 (mb_143_47 j) := by
  refine so_weak (sc_143_47 hj) (fun L S h r q0 => ?_)
  obtain ⟨i0, L0_, rfl, q1⟩ := w_I_some q0
  obtain ⟨i1, L1_, rfl, q2⟩ := w_I_some q1
  obtain ⟨i2, L2_, rfl, q3⟩ := w_I_some q2
  obtain ⟨i3, L3_, rfl, q4⟩ := w_I_some q3
  obtain ⟨rfl, q5⟩ := w_0_some q4
  obtain ⟨rfl, q6⟩ := a_nil_some q5
  exact q6
set_option maxRecDepth 20000 in
theorem sc_143_34 {j : AJ} (hj : SJ j) : Sound kM_143 34 (mc_143_34 j) := by
  unfold mc_143_34
  exact so_istore_n (f := 3) (by decide +kernel) rfl (by decide +kernel) (so_iload_n (f := 0) (by decide +kernel) rfl (so_iload_n (f := 3) (by decide +kernel) rfl (so_weak (so_callS (by decide +kernel) kcf_137 rfl kw_482 kw_483 (by decide +kernel) (sb_137_0 hj) (so_if (off := 7) (tgt := 47) (by decide +kernel) (by decide) rfl (sb_143_47 hj) (so_iload_n (f := 3) (by decide +kernel) rfl (so_goto (off := 4) (tgt := 48) (by decide +kernel) (by decide) (sb_143_48 hj))))) (callE_imp BK_I))))
set_option maxRecDepth 20000 in
theorem sb_143_34 {j : AJ} (hj : SJ j) : Sound kM_143 34 (mb_143_34 j) := by
  refine so_weak (sc_143_34 hj) (fun L S h r q0 => ?_)
  obtain ⟨i0, L0_, rfl, q1⟩ := w_I_some q0
  obtain ⟨i1, L1_, rfl, q2⟩ := w_I_some q1
  obtain ⟨i2, L2_, rfl, q3⟩ := w_I_some q2
  obtain ⟨L3_, rfl, q4⟩ := w_N_some q3
  obtain ⟨rfl, q5⟩ := w_0_some q4
  obtain ⟨s0, S0_, rfl, q6⟩ := a_popI_some q5
  obtain ⟨rfl, q7⟩ := a_nil_some q6
  exact q7
set_option maxRecDepth 20000 in
theorem sc_143_31 {j : AJ} (hj : SJ j) : Sound kM_143 31 (mc_143_31 j) := by
  unfold mc_143_31
  exact so_iload_n (f := 1) (by decide +kernel) rfl (so_iconst (i := 4) (by decide +kernel) (by decide +kernel) (by decide) (so_iadd (by decide +kernel) (sb_143_34 hj)))
set_option maxRecDepth 20000 in
theorem sb_143_31 {j : AJ} (hj : SJ j) : Sound kM_143 31 (mb_143_31 j) := by
  refine so_weak (sc_143_31 hj) (fun L S h r q0 => ?_)
  obtain ⟨i0, L0_, rfl, q1⟩ := w_I_some q0
  obtain ⟨i1, L1_, rfl, q2⟩ := w_I_some q1
  obtain ⟨i2, L2_, rfl, q3⟩ := w_I_some q2
  obtain ⟨L3_, rfl, q4⟩ := w_N_some q3
  obtain ⟨rfl, q5⟩ := w_0_some q4
  obtain ⟨rfl, q6⟩ := a_nil_some q5
  exact q6
set_option maxRecDepth 20000 in
theorem sc_143_21 {j : AJ} (hj : SJ j) : Sound kM_143 21 (mc_143_21 j) := by
  unfold mc_143_21
  exact so_iload_n (f := 2) (by decide +kernel) rfl (so_if (off := 9) (tgt := 31) (by decide +kernel) (by decide) rfl (sb_143_31 hj) (so_iload_n (f := 1) (by decide +kernel) rfl (so_iconst (i := 1) (by decide +kernel) (by decide +kernel) (by decide) (so_iadd (by decide +kernel) (so_goto (off := 6) (tgt := 34) (by decide +kernel) (by decide) (sb_143_34 hj))))))
set_option maxRecDepth 20000 in
theorem sb_143_21 {j : AJ} (hj : SJ j) : Sound kM_143 21 (mb_143_21 j) := by
  refine so_weak (sc_143_21 hj) (fun L S h r q0 => ?_)
  obtain ⟨i0, L0_, rfl, q1⟩ := w_I_some q0
  obtain ⟨i1, L1_, rfl, q2⟩ := w_I_some q1
  obtain ⟨i2, L2_, rfl, q3⟩ := w_I_some q2
  obtain ⟨L3_, rfl, q4⟩ := w_N_some q3
  obtain ⟨rfl, q5⟩ := w_0_some q4
  obtain ⟨rfl, q6⟩ := a_nil_some q5
  exact q6
set_option maxRecDepth 20000 in
theorem sc_143_19 {j : AJ} (hj : SJ j) : Sound kM_143 19 (mc_143_19 j) := by
  unfold mc_143_19
  exact so_iconst (i := -1) (by decide +kernel) (by decide +kernel) (by decide) (so_reti (by decide +kernel) rfl)
set_option maxRecDepth 20000 in
theorem sb_143_19 {j : AJ} (hj : SJ j) : Sound kM_143 19 (mb_143_19 j) := by
  refine so_weak (sc_143_19 hj) (fun L S h r q0 => ?_)
  obtain ⟨i0, L0_, rfl, q1⟩ := w_I_some q0
  obtain ⟨i1, L1_, rfl, q2⟩ := w_I_some q1
  obtain ⟨i2, L2_, rfl, q3⟩ := w_I_some q2
  obtain ⟨L3_, rfl, q4⟩ := w_N_some q3
  obtain ⟨rfl, q5⟩ := w_0_some q4
  obtain ⟨rfl, q6⟩ := a_nil_some q5
  exact q6
set_option maxRecDepth 20000 in
theorem sc_143_0 {j : AJ} (hj : SJ j) : Sound kM_143 0 (mc_143_0 j) := by
  unfold mc_143_0
  exact so_iload_n (f := 0) (by decide +kernel) rfl (so_iload_n (f := 1) (by decide +kernel) rfl (so_weak (so_callS (by decide +kernel) kcf_137 rfl kw_482 kw_483 (by decide +kernel) (sb_137_0 hj) (so_if (off := 14) (tgt := 19) (by decide +kernel) (by decide) rfl (sb_143_19 hj) (so_iload_n (f := 2) (by decide +kernel) rfl (so_if (off := 12) (tgt := 21) (by decide +kernel) (by decide) rfl (sb_143_21 hj) (so_iload_n (f := 1) (by decide +kernel) rfl (so_iconst (i := 4) (by decide +kernel) (by decide +kernel) (by decide) (so_irem (by decide +kernel) (so_iconst (i := 3) (by decide +kernel) (by decide +kernel) (by decide) (so_icmp (off := 5) (tgt := 21) (by decide +kernel) (by decide) rfl (sb_143_21 hj) (sb_143_19 hj)))))))))) (callE_imp BK_I)))
set_option maxRecDepth 20000 in
theorem sb_143_0 {j : AJ} (hj : SJ j) : Sound kM_143 0 (mb_143_0 j) := by
  refine so_weak (sc_143_0 hj) (fun L S h r q0 => ?_)
  obtain ⟨i0, L0_, rfl, q1⟩ := w_I_some q0
  obtain ⟨i1, L1_, rfl, q2⟩ := w_I_some q1
  obtain ⟨i2, L2_, rfl, q3⟩ := w_I_some q2
  obtain ⟨L3_, rfl, q4⟩ := w_N_some q3
  obtain ⟨rfl, q5⟩ := w_0_some q4
  obtain ⟨rfl, q6⟩ := a_nil_some q5
  exact q6
set_option maxRecDepth 20000 in
theorem sb_144_59 {j : AJ} (hj : SJ j) : Sound kM_144 59 (mb_144_59 j) := by
  unfold mb_144_59
  exact so_iload_n (f := 3) (by decide +kernel) rfl (so_reti (by decide +kernel) rfl)
set_option maxRecDepth 20000 in
theorem sb_144_51 {j : AJ} (hj : SJ j) : Sound kM_144 51 (mb_144_51 j) := by
  unfold mb_144_51
  exact so_iadd (by decide +kernel) (so_istore_n (f := 3) (by decide +kernel) rfl (by decide +kernel) (so_iinc (z := 1) (by decide +kernel) (by decide +kernel) (by decide) (by decide +kernel) (so_goto (off := -33) (tgt := 23) (by decide +kernel) (by decide) (hj 68 _ _ rfl))))
set_option maxRecDepth 20000 in
theorem sb_144_50 {j : AJ} (hj : SJ j) : Sound kM_144 50 (mb_144_50 j) := by
  unfold mb_144_50
  exact so_iconst (i := 0) (by decide +kernel) (by decide +kernel) (by decide) (sb_144_51 hj)
set_option maxRecDepth 20000 in
theorem sb_144_23 {j : AJ} (hj : SJ j) : Sound kM_144 23 (mb_144_23 j) := by
  unfold mb_144_23
  exact so_iload (by decide +kernel) (so_bipush (i := 16) (by decide +kernel) (by decide +kernel) (by decide) (so_icmp (off := 32) (tgt := 59) (by decide +kernel) (by decide) rfl (sb_144_59 hj) (so_iload_n (f := 3) (by decide +kernel) rfl (so_aload_n (f := 0) (by decide +kernel) rfl (so_get (C := RX9) (T := TX9) (N := 38) (by decide +kernel) rfl kin_9 (by decide) kw_442 (b := true) rfl (fun _ => rfl) (so_iload_n (f := 1) (by decide +kernel) rfl (so_iald (by decide +kernel) (so_iload (by decide +kernel) (so_iload_n (f := 2) (by decide +kernel) rfl (so_callS (by decide +kernel) kcf_143 rfl kw_484 kw_485 (by decide +kernel) (sb_143_0 hj) (so_if (off := 7) (tgt := 50) (by decide +kernel) (by decide) rfl (sb_144_50 hj) (so_iconst (i := 1) (by decide +kernel) (by decide +kernel) (by decide) (so_goto (off := 4) (tgt := 51) (by decide +kernel) (by decide) (sb_144_51 hj))))))))))))))
set_option maxRecDepth 20000 in
theorem sb_144_18 {j : AJ} (hj : SJ j) : Sound kM_144 18 (mb_144_18 j) := by
  unfold mb_144_18
  exact so_iconst (i := 0) (by decide +kernel) (by decide +kernel) (by decide) (so_istore_n (f := 3) (by decide +kernel) rfl (by decide +kernel) (so_iconst (i := 0) (by decide +kernel) (by decide +kernel) (by decide) (so_istore (by decide +kernel) (by decide +kernel) (sb_144_23 hj))))
set_option maxRecDepth 20000 in
theorem sb_144_16 {j : AJ} (hj : SJ j) : Sound kM_144 16 (mb_144_16 j) := by
  unfold mb_144_16
  exact so_iconst (i := -1) (by decide +kernel) (by decide +kernel) (by decide) (so_reti (by decide +kernel) rfl)
set_option maxRecDepth 20000 in
theorem sb_144_0 {j : AJ} (hj : SJ j) : Sound kM_144 0 (mb_144_0 j) := by
  unfold mb_144_0
  exact so_iload_n (f := 1) (by decide +kernel) rfl (so_callS (by decide +kernel) kcf_136 rfl kw_480 kw_481 (by decide +kernel) (sb_136_0 hj) (so_if (off := 12) (tgt := 16) (by decide +kernel) (by decide) rfl (sb_144_16 hj) (so_iload_n (f := 2) (by decide +kernel) rfl (so_if (off := 8) (tgt := 16) (by decide +kernel) (by decide) rfl (sb_144_16 hj) (so_iload_n (f := 2) (by decide +kernel) rfl (so_iconst (i := 1) (by decide +kernel) (by decide +kernel) (by decide) (so_icmp (off := 5) (tgt := 18) (by decide +kernel) (by decide) rfl (sb_144_18 hj) (sb_144_16 hj))))))))
set_option maxRecDepth 20000 in
theorem sb_145_49 {j : AJ} (hj : SJ j) : Sound kM_145 49 (mb_145_49 j) := by
  unfold mb_145_49
  exact so_aload_n (f := 0) (by decide +kernel) rfl (so_get (C := RX9) (T := TX9) (N := 38) (by decide +kernel) rfl kin_9 (by decide) kw_442 (b := true) rfl (fun _ => rfl) (so_iload_n (f := 1) (by decide +kernel) rfl (so_aload_n (f := 0) (by decide +kernel) rfl (so_get (C := RX9) (T := TX9) (N := 38) (by decide +kernel) rfl kin_9 (by decide) kw_442 (b := true) rfl (fun _ => rfl) (so_iload_n (f := 1) (by decide +kernel) rfl (so_iald (by decide +kernel) (so_iconst (i := 1) (by decide +kernel) (by decide +kernel) (by decide) (so_iload_n (f := 2) (by decide +kernel) rfl (so_ishl (by decide +kernel) (so_iconst (i := 1) (by decide +kernel) (by decide +kernel) (by decide) (so_iload (by decide +kernel) (so_ishl (by decide +kernel) (so_ior (by decide +kernel) (so_iconst (i := -1) (by decide +kernel) (by decide +kernel) (by decide) (so_ixor (by decide +kernel) (so_iand (by decide +kernel) (so_iast (by decide +kernel) (so_aload_n (f := 0) (by decide +kernel) rfl (so_get (C := RX9) (T := TX9) (N := 38) (by decide +kernel) rfl kin_9 (by decide) kw_443 (b := true) rfl (fun _ => rfl) (so_bipush (i := 8) (by decide +kernel) (by decide +kernel) (by decide) (so_iload_n (f := 1) (by decide +kernel) rfl (so_imul (by decide +kernel) (so_aload_n (f := 0) (by decide +kernel) rfl (so_get (C := RX9) (T := TX9) (N := 38) (by decide +kernel) rfl kin_9 (by decide) kw_444 (b := true) rfl (fun _ => rfl) (so_iload_n (f := 1) (by decide +kernel) rfl (so_iald (by decide +kernel) (so_iadd (by decide +kernel) (so_bipush (i := 16) (by decide +kernel) (by decide +kernel) (by decide) (so_iload_n (f := 2) (by decide +kernel) rfl (so_imul (by decide +kernel) (so_iload (by decide +kernel) (so_iadd (by decide +kernel) (so_iast (by decide +kernel) (so_aload_n (f := 0) (by decide +kernel) rfl (so_get (C := RX9) (T := TX9) (N := 38) (by decide +kernel) rfl kin_9 (by decide) kw_444 (b := true) rfl (fun _ => rfl) (so_iload_n (f := 1) (by decide +kernel) rfl (so_dup2 (by decide +kernel) (so_iald (by decide +kernel) (so_iconst (i := 1) (by decide +kernel) (by decide +kernel) (by decide) (so_iadd (by decide +kernel) (so_iast (by decide +kernel) (so_aload_n (f := 0) (by decide +kernel) rfl (so_get (C := RX9) (T := TX9) (N := 38) (by decide +kernel) rfl kin_9 (by decide) kw_444 (b := true) rfl (fun _ => rfl) (so_iload_n (f := 1) (by decide +kernel) rfl (so_iald (by decide +kernel) (so_reti (by decide +kernel) rfl))))))))))))))))))))))))))))))))))))))))))))))
set_option maxRecDepth 20000 in
theorem sb_145_28 {j : AJ} (hj : SJ j) : Sound kM_145 28 (mb_145_28 j) := by
  unfold mb_145_28
  exact so_aload_n (f := 0) (by decide +kernel) rfl (so_get (C := RX9) (T := TX9) (N := 38) (by decide +kernel) rfl kin_9 (by decide) kw_442 (b := true) rfl (fun _ => rfl) (so_iload_n (f := 1) (by decide +kernel) rfl (so_iald (by decide +kernel) (so_iload_n (f := 2) (by decide +kernel) rfl (so_iload_n (f := 3) (by decide +kernel) rfl (so_callS (by decide +kernel) kcf_143 rfl kw_484 kw_485 (by decide +kernel) (sb_143_0 hj) (so_istore (by decide +kernel) (by decide +kernel) (so_iload (by decide +kernel) (so_if (off := 6) (tgt := 49) (by decide +kernel) (by decide) rfl (sb_145_49 hj) (so_bipush (i := -2) (by decide +kernel) (by decide +kernel) (by decide) (so_reti (by decide +kernel) rfl)))))))))))
set_option maxRecDepth 20000 in
theorem sb_145_26 {j : AJ} (hj : SJ j) : Sound kM_145 26 (mb_145_26 j) := by
  unfold mb_145_26
  exact so_iconst (i := -1) (by decide +kernel) (by decide +kernel) (by decide) (so_reti (by decide +kernel) rfl)
set_option maxRecDepth 20000 in
theorem sb_145_0 {j : AJ} (hj : SJ j) : Sound kM_145 0 (mb_145_0 j) := by
  unfold mb_145_0
  exact so_iload_n (f := 1) (by decide +kernel) rfl (so_callS (by decide +kernel) kcf_136 rfl kw_480 kw_481 (by decide +kernel) (sb_136_0 hj) (so_if (off := 22) (tgt := 26) (by decide +kernel) (by decide) rfl (sb_145_26 hj) (so_iload_n (f := 3) (by decide +kernel) rfl (so_if (off := 18) (tgt := 26) (by decide +kernel) (by decide) rfl (sb_145_26 hj) (so_iload_n (f := 3) (by decide +kernel) rfl (so_iconst (i := 1) (by decide +kernel) (by decide +kernel) (by decide) (so_icmp (off := 13) (tgt := 26) (by decide +kernel) (by decide) rfl (sb_145_26 hj) (so_iload_n (f := 2) (by decide +kernel) rfl (so_if (off := 9) (tgt := 26) (by decide +kernel) (by decide) rfl (sb_145_26 hj) (so_iload_n (f := 2) (by decide +kernel) rfl (so_bipush (i := 15) (by decide +kernel) (by decide +kernel) (by decide) (so_icmp (off := 5) (tgt := 28) (by decide +kernel) (by decide) rfl (sb_145_28 hj) (sb_145_26 hj)))))))))))))
set_option maxRecDepth 20000 in
theorem sb_146_21 {j : AJ} (hj : SJ j) : Sound kM_146 21 (mb_146_21 j) := by
  unfold mb_146_21
  exact so_aload_n (f := 0) (by decide +kernel) rfl (so_get (C := RX9) (T := TX9) (N := 38) (by decide +kernel) rfl kin_9 (by decide) kw_444 (b := true) rfl (fun _ => rfl) (so_iload_n (f := 1) (by decide +kernel) rfl (so_dup2 (by decide +kernel) (so_iald (by decide +kernel) (so_iconst (i := 1) (by decide +kernel) (by decide +kernel) (by decide) (so_isub (by decide +kernel) (so_iast (by decide +kernel) (so_aload_n (f := 0) (by decide +kernel) rfl (so_get (C := RX9) (T := TX9) (N := 38) (by decide +kernel) rfl kin_9 (by decide) kw_443 (b := true) rfl (fun _ => rfl) (so_bipush (i := 8) (by decide +kernel) (by decide +kernel) (by decide) (so_iload_n (f := 1) (by decide +kernel) rfl (so_imul (by decide +kernel) (so_aload_n (f := 0) (by decide +kernel) rfl (so_get (C := RX9) (T := TX9) (N := 38) (by decide +kernel) rfl kin_9 (by decide) kw_444 (b := true) rfl (fun _ => rfl) (so_iload_n (f := 1) (by decide +kernel) rfl (so_iald (by decide +kernel) (so_iadd (by decide +kernel) (so_iald (by decide +kernel) (so_istore_n (f := 2) (by decide +kernel) rfl (by decide +kernel) (so_aload_n (f := 0) (by decide +kernel) rfl (so_get (C := RX9) (T := TX9) (N := 38) (by decide +kernel) rfl kin_9 (by decide) kw_442 (b := true) rfl (fun _ => rfl) (so_iload_n (f := 1) (by decide +kernel) rfl (so_aload_n (f := 0) (by decide +kernel) rfl (so_get (C := RX9) (T := TX9) (N := 38) (by decide +kernel) rfl kin_9 (by decide) kw_442 (b := true) rfl (fun _ => rfl) (so_iload_n (f := 1) (by decide +kernel) rfl (so_iald (by decide +kernel) (so_iconst (i := 1) (by decide +kernel) (by decide +kernel) (by decide) (so_iload_n (f := 2) (by decide +kernel) rfl (so_bipush (i := 16) (by decide +kernel) (by decide +kernel) (by decide) (so_idiv (by decide +kernel) (so_ishl (by decide +kernel) (so_ior (by decide +kernel) (so_iconst (i := 1) (by decide +kernel) (by decide +kernel) (by decide) (so_iload_n (f := 2) (by decide +kernel) rfl (so_bipush (i := 16) (by decide +kernel) (by decide +kernel) (by decide) (so_irem (by decide +kernel) (so_ishl (by decide +kernel) (so_ior (by decide +kernel) (so_iast (by decide +kernel) (so_iload_n (f := 2) (by decide +kernel) rfl (so_bipush (i := 16) (by decide +kernel) (by decide +kernel) (by decide) (so_idiv (by decide +kernel) (so_reti (by decide +kernel) rfl)))))))))))))))))))))))))))))))))))))))))))
set_option maxRecDepth 20000 in
theorem sb_146_9 {j : AJ} (hj : SJ j) : Sound kM_146 9 (mb_146_9 j) := by
  unfold mb_146_9
  exact so_aload_n (f := 0) (by decide +kernel) rfl (so_get (C := RX9) (T := TX9) (N := 38) (by decide +kernel) rfl kin_9 (by decide) kw_444 (b := true) rfl (fun _ => rfl) (so_iload_n (f := 1) (by decide +kernel) rfl (so_iald (by decide +kernel) (so_if (off := 6) (tgt := 21) (by decide +kernel) (by decide) rfl (sb_146_21 hj) (so_bipush (i := -4) (by decide +kernel) (by decide +kernel) (by decide) (so_reti (by decide +kernel) rfl))))))
set_option maxRecDepth 20000 in
theorem sb_146_0 {j : AJ} (hj : SJ j) : Sound kM_146 0 (mb_146_0 j) := by
  unfold mb_146_0
  exact so_iload_n (f := 1) (by decide +kernel) rfl (so_callS (by decide +kernel) kcf_136 rfl kw_480 kw_481 (by decide +kernel) (sb_136_0 hj) (so_if (off := 5) (tgt := 9) (by decide +kernel) (by decide) rfl (sb_146_9 hj) (so_iconst (i := -1) (by decide +kernel) (by decide +kernel) (by decide) (so_reti (by decide +kernel) rfl))))
set_option maxRecDepth 20000 in
theorem sb_147_85 {j : AJ} (hj : SJ j) : Sound kM_147 85 (mb_147_85 j) := by
  unfold mb_147_85
  exact so_aload_n (f := 0) (by decide +kernel) rfl (so_get (C := RX9) (T := TX9) (N := 38) (by decide +kernel) rfl kin_9 (by decide) kw_442 (b := true) rfl (fun _ => rfl) (so_iload_n (f := 2) (by decide +kernel) rfl (so_iload_n (f := 3) (by decide +kernel) rfl (so_iast (by decide +kernel) (so_aload_n (f := 0) (by decide +kernel) rfl (so_get (C := RX9) (T := TX9) (N := 38) (by decide +kernel) rfl kin_9 (by decide) kw_444 (b := true) rfl (fun _ => rfl) (so_iload_n (f := 2) (by decide +kernel) rfl (so_iconst (i := 0) (by decide +kernel) (by decide +kernel) (by decide) (so_iast (by decide +kernel) (so_iload_n (f := 3) (by decide +kernel) rfl (so_callS (by decide +kernel) kcf_138 rfl kw_478 kw_479 (by decide +kernel) (sb_138_0 hj) (so_reti (by decide +kernel) rfl))))))))))))
set_option maxRecDepth 20000 in
theorem sb_147_79 {j : AJ} (hj : SJ j) : Sound kM_147 79 (mb_147_79 j) := by
  unfold mb_147_79
  exact so_iinc (z := 1) (by decide +kernel) (by decide +kernel) (by decide) (by decide +kernel) (so_goto (off := -61) (tgt := 21) (by decide +kernel) (by decide) (hj 70 _ _ rfl))
set_option maxRecDepth 20000 in
theorem sb_147_71 {j : AJ} (hj : SJ j) : Sound kM_147 71 (mb_147_71 j) := by
  unfold mb_147_71
  exact so_ior (by decide +kernel) (so_istore_n (f := 3) (by decide +kernel) rfl (by decide +kernel) (so_iinc (z := 1) (by decide +kernel) (by decide +kernel) (by decide) (by decide +kernel) (so_goto (off := -46) (tgt := 30) (by decide +kernel) (by decide) (hj 69 _ _ rfl))))
set_option maxRecDepth 20000 in
theorem sb_147_70 {j : AJ} (hj : SJ j) : Sound kM_147 70 (mb_147_70 j) := by
  unfold mb_147_70
  exact so_iconst (i := 0) (by decide +kernel) (by decide +kernel) (by decide) (sb_147_71 hj)
set_option maxRecDepth 20000 in
theorem sb_147_30 {j : AJ} (hj : SJ j) : Sound kM_147 30 (mb_147_30 j) := by
  unfold mb_147_30
  exact so_iload (by decide +kernel) (so_iconst (i := 4) (by decide +kernel) (by decide +kernel) (by decide) (so_icmp (off := 46) (tgt := 79) (by decide +kernel) (by decide) rfl (sb_147_79 hj) (so_iload_n (f := 3) (by decide +kernel) rfl (so_aload_n (f := 0) (by decide +kernel) rfl (so_get (C := RX9) (T := TX9) (N := 38) (by decide +kernel) rfl kin_9 (by decide) kw_442 (b := true) rfl (fun _ => rfl) (so_iload_n (f := 1) (by decide +kernel) rfl (so_iald (by decide +kernel) (so_iconst (i := 4) (by decide +kernel) (by decide +kernel) (by decide) (so_iconst (i := 3) (by decide +kernel) (by decide +kernel) (by decide) (so_iload (by decide +kernel) (so_isub (by decide +kernel) (so_imul (by decide +kernel) (so_iload (by decide +kernel) (so_iadd (by decide +kernel) (so_callS (by decide +kernel) kcf_137 rfl kw_482 kw_483 (by decide +kernel) (sb_137_0 hj) (so_if (off := 15) (tgt := 70) (by decide +kernel) (by decide) rfl (sb_147_70 hj) (so_iconst (i := 1) (by decide +kernel) (by decide +kernel) (by decide) (so_iconst (i := 4) (by decide +kernel) (by decide +kernel) (by decide) (so_iload (by decide +kernel) (so_imul (by decide +kernel) (so_iload (by decide +kernel) (so_iadd (by decide +kernel) (so_ishl (by decide +kernel) (so_goto (off := 4) (tgt := 71) (by decide +kernel) (by decide) (sb_147_71 hj)))))))))))))))))))))))))
set_option maxRecDepth 20000 in
theorem sb_147_21 {j : AJ} (hj : SJ j) : Sound kM_147 21 (mb_147_21 j) := by
  unfold mb_147_21
  exact so_iload (by decide +kernel) (so_iconst (i := 4) (by decide +kernel) (by decide +kernel) (by decide) (so_icmp (off := 61) (tgt := 85) (by decide +kernel) (by decide) rfl (sb_147_85 hj) (so_iconst (i := 0) (by decide +kernel) (by decide +kernel) (by decide) (so_istore (by decide +kernel) (by decide +kernel) (sb_147_30 hj)))))
set_option maxRecDepth 20000 in
theorem sb_147_16 {j : AJ} (hj : SJ j) : Sound kM_147 16 (mb_147_16 j) := by
  unfold mb_147_16
  exact so_iconst (i := 0) (by decide +kernel) (by decide +kernel) (by decide) (so_istore_n (f := 3) (by decide +kernel) rfl (by decide +kernel) (so_iconst (i := 0) (by decide +kernel) (by decide +kernel) (by decide) (so_istore (by decide +kernel) (by decide +kernel) (sb_147_21 hj))))
set_option maxRecDepth 20000 in
theorem sb_147_14 {j : AJ} (hj : SJ j) : Sound kM_147 14 (mb_147_14 j) := by
  unfold mb_147_14
  exact so_iconst (i := -1) (by decide +kernel) (by decide +kernel) (by decide) (so_reti (by decide +kernel) rfl)
set_option maxRecDepth 20000 in
theorem sb_147_0 {j : AJ} (hj : SJ j) : Sound kM_147 0 (mb_147_0 j) := by
  unfold mb_147_0
  exact so_iload_n (f := 1) (by decide +kernel) rfl (so_callS (by decide +kernel) kcf_136 rfl kw_480 kw_481 (by decide +kernel) (sb_136_0 hj) (so_if (off := 10) (tgt := 14) (by decide +kernel) (by decide) rfl (sb_147_14 hj) (so_iload_n (f := 2) (by decide +kernel) rfl (so_callS (by decide +kernel) kcf_136 rfl kw_480 kw_481 (by decide +kernel) (sb_136_0 hj) (so_if (off := 5) (tgt := 16) (by decide +kernel) (by decide) rfl (sb_147_16 hj) (sb_147_14 hj))))))
set_option maxRecDepth 20000 in
theorem sc_148_0 {j : AJ} (hj : SJ j) : Sound kM_148 0 (mc_148_0 j) := by
  unfold mc_148_0
  exact so_aload_n (f := 0) (by decide +kernel) rfl (so_get (C := RX9) (T := TX9) (N := 38) (by decide +kernel) rfl kin_9 (by decide) kw_458 (b := true) rfl (fun _ => rfl) (so_sipush (i := 1601) (by decide +kernel) (by decide +kernel) (by decide) (so_iload_n (f := 1) (by decide +kernel) rfl (so_imul (by decide +kernel) (so_iload_n (f := 2) (by decide +kernel) rfl (so_iadd (by decide +kernel) (so_zald (by decide +kernel) (so_retz (by decide +kernel) rfl))))))))
set_option maxRecDepth 20000 in
theorem sb_148_0 {j : AJ} (hj : SJ j) : Sound kM_148 0 (mb_148_0 j) := by
  refine so_weak (sc_148_0 hj) (fun L S h r q0 => ?_)
  obtain ⟨c0, L0_, rfl, q1⟩ := w_C_some q0
  obtain ⟨i1, L1_, rfl, q2⟩ := w_I_some q1
  obtain ⟨i2, L2_, rfl, q3⟩ := w_I_some q2
  obtain ⟨rfl, q4⟩ := w_0_some q3
  obtain ⟨rfl, q5⟩ := a_nil_some q4
  exact q5
set_option maxRecDepth 20000 in
theorem sc_149_0 {j : AJ} (hj : SJ j) : Sound kM_149 0 (mc_149_0 j) := by
  unfold mc_149_0
  exact so_aload_n (f := 0) (by decide +kernel) rfl (so_get (C := RX9) (T := TX9) (N := 38) (by decide +kernel) rfl kin_9 (by decide) kw_456 (b := true) rfl (fun _ => rfl) (so_aload_n (f := 0) (by decide +kernel) rfl (so_get (C := RX9) (T := TX9) (N := 38) (by decide +kernel) rfl kin_9 (by decide) kw_451 (b := true) rfl (fun _ => rfl) (so_iload_n (f := 1) (by decide +kernel) rfl (so_iald (by decide +kernel) (so_iload_n (f := 2) (by decide +kernel) rfl (so_iadd (by decide +kernel) (so_iald (by decide +kernel) (so_reti (by decide +kernel) rfl)))))))))
set_option maxRecDepth 20000 in
theorem sb_149_0 {j : AJ} (hj : SJ j) : Sound kM_149 0 (mb_149_0 j) := by
  refine so_weak (sc_149_0 hj) (fun L S h r q0 => ?_)
  obtain ⟨c0, L0_, rfl, q1⟩ := w_C_some q0
  obtain ⟨i1, L1_, rfl, q2⟩ := w_I_some q1
  obtain ⟨i2, L2_, rfl, q3⟩ := w_I_some q2
  obtain ⟨rfl, q4⟩ := w_0_some q3
  obtain ⟨rfl, q5⟩ := a_nil_some q4
  exact q5
set_option maxRecDepth 20000 in
theorem sc_150_0 {j : AJ} (hj : SJ j) : Sound kM_150 0 (mc_150_0 j) := by
  unfold mc_150_0
  exact so_aload_n (f := 0) (by decide +kernel) rfl (so_get (C := RX9) (T := TX9) (N := 38) (by decide +kernel) rfl kin_9 (by decide) kw_456 (b := true) rfl (fun _ => rfl) (so_aload_n (f := 0) (by decide +kernel) rfl (so_get (C := RX9) (T := TX9) (N := 38) (by decide +kernel) rfl kin_9 (by decide) kw_453 (b := true) rfl (fun _ => rfl) (so_iload_n (f := 1) (by decide +kernel) rfl (so_iald (by decide +kernel) (so_iload_n (f := 2) (by decide +kernel) rfl (so_iadd (by decide +kernel) (so_iald (by decide +kernel) (so_reti (by decide +kernel) rfl)))))))))
set_option maxRecDepth 20000 in
theorem sb_150_0 {j : AJ} (hj : SJ j) : Sound kM_150 0 (mb_150_0 j) := by
  refine so_weak (sc_150_0 hj) (fun L S h r q0 => ?_)
  obtain ⟨c0, L0_, rfl, q1⟩ := w_C_some q0
  obtain ⟨i1, L1_, rfl, q2⟩ := w_I_some q1
  obtain ⟨i2, L2_, rfl, q3⟩ := w_I_some q2
  obtain ⟨rfl, q4⟩ := w_0_some q3
  obtain ⟨rfl, q5⟩ := a_nil_some q4
  exact q5
set_option maxRecDepth 20000 in
theorem sc_151_236 {j : AJ} (hj : SJ j) : Sound kM_151 236 (mc_151_236 j) := by
  unfold mc_151_236
  exact so_iconst (i := 0) (by decide +kernel) (by decide +kernel) (by decide) (so_reti (by decide +kernel) rfl)
set_option maxRecDepth 20000 in
theorem sb_151_236 {j : AJ} (hj : SJ j) : Sound kM_151 236 (mb_151_236 j) := by
  refine so_weak (sc_151_236 hj) (fun L S h r q0 => ?_)
  obtain ⟨c0, L0_, rfl, q1⟩ := w_C_some q0
  obtain ⟨i1, L1_, rfl, q2⟩ := w_I_some q1
  obtain ⟨i2, L2_, rfl, q3⟩ := w_I_some q2
  obtain ⟨i3, L3_, rfl, q4⟩ := w_I_some q3
  obtain ⟨i4, L4_, rfl, q5⟩ := w_I_some q4
  obtain ⟨x5, L5_, rfl, q6⟩ := w_X_some q5
  obtain ⟨x6, L6_, rfl, q7⟩ := w_X_some q6
  obtain ⟨x7, L7_, rfl, q8⟩ := w_X_some q7
  obtain ⟨rfl, q9⟩ := w_0_some q8
  obtain ⟨rfl, q10⟩ := a_nil_some q9
  exact q10
set_option maxRecDepth 20000 in
theorem sc_151_226 {j : AJ} (hj : SJ j) : Sound kM_151 226 (mc_151_226 j) := by
  unfold mc_151_226
  exact so_iload (by decide +kernel) (so_istore_n (f := 3) (by decide +kernel) rfl (by decide +kernel) (so_iload (by decide +kernel) (so_istore (by decide +kernel) (by decide +kernel) (so_goto (off := -228) (tgt := 5) (by decide +kernel) (by decide) (hj 73 _ _ rfl)))))
set_option maxRecDepth 20000 in
theorem sb_151_226 {j : AJ} (hj : SJ j) : Sound kM_151 226 (mb_151_226 j) := by
  refine so_weak (sc_151_226 hj) (fun L S h r q0 => ?_)
  obtain ⟨c0, L0_, rfl, q1⟩ := w_C_some q0
  obtain ⟨i1, L1_, rfl, q2⟩ := w_I_some q1
  obtain ⟨i2, L2_, rfl, q3⟩ := w_I_some q2
  obtain ⟨i3, L3_, rfl, q4⟩ := w_I_some q3
  obtain ⟨i4, L4_, rfl, q5⟩ := w_I_some q4
  obtain ⟨i5, L5_, rfl, q6⟩ := w_I_some q5
  obtain ⟨i6, L6_, rfl, q7⟩ := w_I_some q6
  obtain ⟨i7, L7_, rfl, q8⟩ := w_I_some q7
  obtain ⟨rfl, q9⟩ := w_0_some q8
  obtain ⟨rfl, q10⟩ := a_nil_some q9
  exact q10
set_option maxRecDepth 20000 in
theorem sc_151_220 {j : AJ} (hj : SJ j) : Sound kM_151 220 (mc_151_220 j) := by
  unfold mc_151_220
  exact so_iinc (z := -1) (by decide +kernel) (by decide +kernel) (by decide) (by decide +kernel) (so_goto (off := -45) (tgt := 178) (by decide +kernel) (by decide) (hj 72 _ _ rfl))
set_option maxRecDepth 20000 in
theorem sb_151_220 {j : AJ} (hj : SJ j) : Sound kM_151 220 (mb_151_220 j) := by
  refine so_weak (sc_151_220 hj) (fun L S h r q0 => ?_)
  obtain ⟨c0, L0_, rfl, q1⟩ := w_C_some q0
  obtain ⟨i1, L1_, rfl, q2⟩ := w_I_some q1
  obtain ⟨i2, L2_, rfl, q3⟩ := w_I_some q2
  obtain ⟨i3, L3_, rfl, q4⟩ := w_I_some q3
  obtain ⟨i4, L4_, rfl, q5⟩ := w_I_some q4
  obtain ⟨i5, L5_, rfl, q6⟩ := w_I_some q5
  obtain ⟨i6, L6_, rfl, q7⟩ := w_I_some q6
  obtain ⟨i7, L7_, rfl, q8⟩ := w_I_some q7
  obtain ⟨rfl, q9⟩ := w_0_some q8
  obtain ⟨rfl, q10⟩ := a_nil_some q9
  exact q10
set_option maxRecDepth 20000 in
theorem sc_151_178 {j : AJ} (hj : SJ j) : Sound kM_151 178 (mc_151_178 j) := by
  unfold mc_151_178
  exact so_iload (by decide +kernel) (so_if (off := 46) (tgt := 226) (by decide +kernel) (by decide) rfl (sb_151_226 hj) (so_aload_n (f := 0) (by decide +kernel) rfl (so_iload_n (f := 3) (by decide +kernel) rfl (so_iload (by decide +kernel) (so_weak (so_callV (C := RX9) (T := TX9) (N0 := 38) (by decide +kernel) kcf_149 rfl rfl rfl kw_486 kw_487 kw_488 (by decide +kernel) (sb_149_0 hj) (so_aload_n (f := 0) (by decide +kernel) rfl (so_iload (by decide +kernel) (so_iload (by decide +kernel) (so_weak (so_callV (C := RX9) (T := TX9) (N0 := 38) (by decide +kernel) kcf_149 rfl rfl rfl kw_486 kw_487 kw_488 (by decide +kernel) (sb_149_0 hj) (so_icmp (off := 22) (tgt := 220) (by decide +kernel) (by decide) rfl (sb_151_220 hj) (so_aload_n (f := 0) (by decide +kernel) rfl (so_iload_n (f := 3) (by decide +kernel) rfl (so_iload (by decide +kernel) (so_weak (so_callV (C := RX9) (T := TX9) (N0 := 38) (by decide +kernel) kcf_149 rfl rfl rfl kw_486 kw_487 kw_488 (by decide +kernel) (sb_149_0 hj) (so_istore (by decide +kernel) (by decide +kernel) (so_aload_n (f := 0) (by decide +kernel) rfl (so_iload (by decide +kernel) (so_iload (by decide +kernel) (so_weak (so_callV (C := RX9) (T := TX9) (N0 := 38) (by decide +kernel) kcf_149 rfl rfl rfl kw_486 kw_487 kw_488 (by decide +kernel) (sb_149_0 hj) (so_istore (by decide +kernel) (by decide +kernel) (sb_151_220 hj))) (callvE_imp BK_I))))))) (callvE_imp BK_I))))))) (callvE_imp BK_I)))))) (callvE_imp BK_I))))))
set_option maxRecDepth 20000 in
theorem sb_151_178 {j : AJ} (hj : SJ j) : Sound kM_151 178 (mb_151_178 j) := by
  refine so_weak (sc_151_178 hj) (fun L S h r q0 => ?_)
  obtain ⟨c0, L0_, rfl, q1⟩ := w_C_some q0
  obtain ⟨i1, L1_, rfl, q2⟩ := w_I_some q1
  obtain ⟨i2, L2_, rfl, q3⟩ := w_I_some q2
  obtain ⟨i3, L3_, rfl, q4⟩ := w_I_some q3
  obtain ⟨i4, L4_, rfl, q5⟩ := w_I_some q4
  obtain ⟨i5, L5_, rfl, q6⟩ := w_I_some q5
  obtain ⟨i6, L6_, rfl, q7⟩ := w_I_some q6
  obtain ⟨i7, L7_, rfl, q8⟩ := w_I_some q7
  obtain ⟨rfl, q9⟩ := w_0_some q8
  obtain ⟨rfl, q10⟩ := a_nil_some q9
  exact q10
set_option maxRecDepth 20000 in
theorem sc_151_168 {j : AJ} (hj : SJ j) : Sound kM_151 168 (mc_151_168 j) := by
  unfold mc_151_168
  exact so_aload_n (f := 0) (by decide +kernel) rfl (so_get (C := RX9) (T := TX9) (N := 38) (by decide +kernel) rfl kin_9 (by decide) kw_452 (b := true) rfl (fun _ => rfl) (so_iload_n (f := 3) (by decide +kernel) rfl (so_iald (by decide +kernel) (so_iconst (i := 1) (by decide +kernel) (by decide +kernel) (by decide) (so_isub (by decide +kernel) (so_istore (by decide +kernel) (by decide +kernel) (sb_151_178 hj)))))))
set_option maxRecDepth 20000 in
theorem sb_151_168 {j : AJ} (hj : SJ j) : Sound kM_151 168 (mb_151_168 j) := by
  refine so_weak (sc_151_168 hj) (fun L S h r q0 => ?_)
  obtain ⟨c0, L0_, rfl, q1⟩ := w_C_some q0
  obtain ⟨i1, L1_, rfl, q2⟩ := w_I_some q1
  obtain ⟨i2, L2_, rfl, q3⟩ := w_I_some q2
  obtain ⟨i3, L3_, rfl, q4⟩ := w_I_some q3
  obtain ⟨i4, L4_, rfl, q5⟩ := w_I_some q4
  obtain ⟨i5, L5_, rfl, q6⟩ := w_I_some q5
  obtain ⟨i6, L6_, rfl, q7⟩ := w_I_some q6
  obtain ⟨i7, L7_, rfl, q8⟩ := w_I_some q7
  obtain ⟨rfl, q9⟩ := w_0_some q8
  obtain ⟨rfl, q10⟩ := a_nil_some q9
  exact q10
set_option maxRecDepth 20000 in
theorem sc_151_162 {j : AJ} (hj : SJ j) : Sound kM_151 162 (mc_151_162 j) := by
  unfold mc_151_162
  exact so_iinc (z := -1) (by decide +kernel) (by decide +kernel) (by decide) (by decide +kernel) (so_goto (off := -45) (tgt := 120) (by decide +kernel) (by decide) (hj 71 _ _ rfl))
set_option maxRecDepth 20000 in
theorem sb_151_162 {j : AJ} (hj : SJ j) : Sound kM_151 162 (mb_151_162 j) := by
  refine so_weak (sc_151_162 hj) (fun L S h r q0 => ?_)
  obtain ⟨c0, L0_, rfl, q1⟩ := w_C_some q0
  obtain ⟨i1, L1_, rfl, q2⟩ := w_I_some q1
  obtain ⟨i2, L2_, rfl, q3⟩ := w_I_some q2
  obtain ⟨i3, L3_, rfl, q4⟩ := w_I_some q3
  obtain ⟨i4, L4_, rfl, q5⟩ := w_I_some q4
  obtain ⟨i5, L5_, rfl, q6⟩ := w_I_some q5
  obtain ⟨i6, L6_, rfl, q7⟩ := w_I_some q6
  obtain ⟨i7, L7_, rfl, q8⟩ := w_I_some q7
  obtain ⟨rfl, q9⟩ := w_0_some q8
  obtain ⟨rfl, q10⟩ := a_nil_some q9
  exact q10
set_option maxRecDepth 20000 in
theorem sc_151_120 {j : AJ} (hj : SJ j) : Sound kM_151 120 (mc_151_120 j) := by
  unfold mc_151_120
  exact so_iload (by decide +kernel) (so_if (off := 46) (tgt := 168) (by decide +kernel) (by decide) rfl (sb_151_168 hj) (so_aload_n (f := 0) (by decide +kernel) rfl (so_iload_n (f := 3) (by decide +kernel) rfl (so_iload (by decide +kernel) (so_weak (so_callV (C := RX9) (T := TX9) (N0 := 38) (by decide +kernel) kcf_150 rfl rfl rfl kw_489 kw_490 kw_491 (by decide +kernel) (sb_150_0 hj) (so_aload_n (f := 0) (by decide +kernel) rfl (so_iload (by decide +kernel) (so_iload (by decide +kernel) (so_weak (so_callV (C := RX9) (T := TX9) (N0 := 38) (by decide +kernel) kcf_150 rfl rfl rfl kw_489 kw_490 kw_491 (by decide +kernel) (sb_150_0 hj) (so_icmp (off := 22) (tgt := 162) (by decide +kernel) (by decide) rfl (sb_151_162 hj) (so_aload_n (f := 0) (by decide +kernel) rfl (so_iload_n (f := 3) (by decide +kernel) rfl (so_iload (by decide +kernel) (so_weak (so_callV (C := RX9) (T := TX9) (N0 := 38) (by decide +kernel) kcf_150 rfl rfl rfl kw_489 kw_490 kw_491 (by decide +kernel) (sb_150_0 hj) (so_istore (by decide +kernel) (by decide +kernel) (so_aload_n (f := 0) (by decide +kernel) rfl (so_iload (by decide +kernel) (so_iload (by decide +kernel) (so_weak (so_callV (C := RX9) (T := TX9) (N0 := 38) (by decide +kernel) kcf_150 rfl rfl rfl kw_489 kw_490 kw_491 (by decide +kernel) (sb_150_0 hj) (so_istore (by decide +kernel) (by decide +kernel) (sb_151_162 hj))) (callvE_imp BK_I))))))) (callvE_imp BK_I))))))) (callvE_imp BK_I)))))) (callvE_imp BK_I))))))
set_option maxRecDepth 20000 in
theorem sb_151_120 {j : AJ} (hj : SJ j) : Sound kM_151 120 (mb_151_120 j) := by
  refine so_weak (sc_151_120 hj) (fun L S h r q0 => ?_)
  obtain ⟨c0, L0_, rfl, q1⟩ := w_C_some q0
  obtain ⟨i1, L1_, rfl, q2⟩ := w_I_some q1
  obtain ⟨i2, L2_, rfl, q3⟩ := w_I_some q2
  obtain ⟨i3, L3_, rfl, q4⟩ := w_I_some q3
  obtain ⟨i4, L4_, rfl, q5⟩ := w_I_some q4
  obtain ⟨i5, L5_, rfl, q6⟩ := w_I_some q5
  obtain ⟨i6, L6_, rfl, q7⟩ := w_I_some q6
  obtain ⟨i7, L7_, rfl, q8⟩ := w_I_some q7
  obtain ⟨rfl, q9⟩ := w_0_some q8
  obtain ⟨rfl, q10⟩ := a_nil_some q9
  exact q10
set_option maxRecDepth 20000 in
theorem sc_151_104 {j : AJ} (hj : SJ j) : Sound kM_151 104 (mc_151_104 j) := by
  unfold mc_151_104
  exact so_iconst (i := -1) (by decide +kernel) (by decide +kernel) (by decide) (so_istore (by decide +kernel) (by decide +kernel) (so_iconst (i := -1) (by decide +kernel) (by decide +kernel) (by decide) (so_istore (by decide +kernel) (by decide +kernel) (so_aload_n (f := 0) (by decide +kernel) rfl (so_get (C := RX9) (T := TX9) (N := 38) (by decide +kernel) rfl kin_9 (by decide) kw_454 (b := true) rfl (fun _ => rfl) (so_iload_n (f := 3) (by decide +kernel) rfl (so_iald (by decide +kernel) (so_iconst (i := 1) (by decide +kernel) (by decide +kernel) (by decide) (so_isub (by decide +kernel) (so_istore (by decide +kernel) (by decide +kernel) (sb_151_120 hj)))))))))))
set_option maxRecDepth 20000 in
theorem sb_151_104 {j : AJ} (hj : SJ j) : Sound kM_151 104 (mb_151_104 j) := by
  refine so_weak (sc_151_104 hj) (fun L S h r q0 => ?_)
  obtain ⟨c0, L0_, rfl, q1⟩ := w_C_some q0
  obtain ⟨i1, L1_, rfl, q2⟩ := w_I_some q1
  obtain ⟨i2, L2_, rfl, q3⟩ := w_I_some q2
  obtain ⟨i3, L3_, rfl, q4⟩ := w_I_some q3
  obtain ⟨i4, L4_, rfl, q5⟩ := w_I_some q4
  obtain ⟨x5, L5_, rfl, q6⟩ := w_X_some q5
  obtain ⟨x6, L6_, rfl, q7⟩ := w_X_some q6
  obtain ⟨x7, L7_, rfl, q8⟩ := w_X_some q7
  obtain ⟨rfl, q9⟩ := w_0_some q8
  obtain ⟨rfl, q10⟩ := a_nil_some q9
  exact q10
set_option maxRecDepth 20000 in
theorem sc_151_73 {j : AJ} (hj : SJ j) : Sound kM_151 73 (mc_151_73 j) := by
  unfold mc_151_73
  exact so_aload_n (f := 0) (by decide +kernel) rfl (so_get (C := RX9) (T := TX9) (N := 38) (by decide +kernel) rfl kin_9 (by decide) kw_454 (b := true) rfl (fun _ => rfl) (so_iload_n (f := 3) (by decide +kernel) rfl (so_iald (by decide +kernel) (so_aload_n (f := 0) (by decide +kernel) rfl (so_get (C := RX9) (T := TX9) (N := 38) (by decide +kernel) rfl kin_9 (by decide) kw_454 (b := true) rfl (fun _ => rfl) (so_iload (by decide +kernel) (so_iald (by decide +kernel) (so_icmp (off := 18) (tgt := 104) (by decide +kernel) (by decide) rfl (sb_151_104 hj) (so_aload_n (f := 0) (by decide +kernel) rfl (so_get (C := RX9) (T := TX9) (N := 38) (by decide +kernel) rfl kin_9 (by decide) kw_454 (b := true) rfl (fun _ => rfl) (so_iload_n (f := 3) (by decide +kernel) rfl (so_iald (by decide +kernel) (so_aload_n (f := 0) (by decide +kernel) rfl (so_get (C := RX9) (T := TX9) (N := 38) (by decide +kernel) rfl kin_9 (by decide) kw_454 (b := true) rfl (fun _ => rfl) (so_iload (by decide +kernel) (so_iald (by decide +kernel) (so_isub (by decide +kernel) (so_reti (by decide +kernel) rfl))))))))))))))))))
set_option maxRecDepth 20000 in
theorem sb_151_73 {j : AJ} (hj : SJ j) : Sound kM_151 73 (mb_151_73 j) := by
  refine so_weak (sc_151_73 hj) (fun L S h r q0 => ?_)
  obtain ⟨c0, L0_, rfl, q1⟩ := w_C_some q0
  obtain ⟨i1, L1_, rfl, q2⟩ := w_I_some q1
  obtain ⟨i2, L2_, rfl, q3⟩ := w_I_some q2
  obtain ⟨i3, L3_, rfl, q4⟩ := w_I_some q3
  obtain ⟨i4, L4_, rfl, q5⟩ := w_I_some q4
  obtain ⟨x5, L5_, rfl, q6⟩ := w_X_some q5
  obtain ⟨x6, L6_, rfl, q7⟩ := w_X_some q6
  obtain ⟨x7, L7_, rfl, q8⟩ := w_X_some q7
  obtain ⟨rfl, q9⟩ := w_0_some q8
  obtain ⟨rfl, q10⟩ := a_nil_some q9
  exact q10
set_option maxRecDepth 20000 in
theorem sc_151_42 {j : AJ} (hj : SJ j) : Sound kM_151 42 (mc_151_42 j) := by
  unfold mc_151_42
  exact so_aload_n (f := 0) (by decide +kernel) rfl (so_get (C := RX9) (T := TX9) (N := 38) (by decide +kernel) rfl kin_9 (by decide) kw_452 (b := true) rfl (fun _ => rfl) (so_iload_n (f := 3) (by decide +kernel) rfl (so_iald (by decide +kernel) (so_aload_n (f := 0) (by decide +kernel) rfl (so_get (C := RX9) (T := TX9) (N := 38) (by decide +kernel) rfl kin_9 (by decide) kw_452 (b := true) rfl (fun _ => rfl) (so_iload (by decide +kernel) (so_iald (by decide +kernel) (so_icmp (off := 18) (tgt := 73) (by decide +kernel) (by decide) rfl (sb_151_73 hj) (so_aload_n (f := 0) (by decide +kernel) rfl (so_get (C := RX9) (T := TX9) (N := 38) (by decide +kernel) rfl kin_9 (by decide) kw_452 (b := true) rfl (fun _ => rfl) (so_iload_n (f := 3) (by decide +kernel) rfl (so_iald (by decide +kernel) (so_aload_n (f := 0) (by decide +kernel) rfl (so_get (C := RX9) (T := TX9) (N := 38) (by decide +kernel) rfl kin_9 (by decide) kw_452 (b := true) rfl (fun _ => rfl) (so_iload (by decide +kernel) (so_iald (by decide +kernel) (so_isub (by decide +kernel) (so_reti (by decide +kernel) rfl))))))))))))))))))
set_option maxRecDepth 20000 in
theorem sb_151_42 {j : AJ} (hj : SJ j) : Sound kM_151 42 (mb_151_42 j) := by
  refine so_weak (sc_151_42 hj) (fun L S h r q0 => ?_)
  obtain ⟨c0, L0_, rfl, q1⟩ := w_C_some q0
  obtain ⟨i1, L1_, rfl, q2⟩ := w_I_some q1
  obtain ⟨i2, L2_, rfl, q3⟩ := w_I_some q2
  obtain ⟨i3, L3_, rfl, q4⟩ := w_I_some q3
  obtain ⟨i4, L4_, rfl, q5⟩ := w_I_some q4
  obtain ⟨x5, L5_, rfl, q6⟩ := w_X_some q5
  obtain ⟨x6, L6_, rfl, q7⟩ := w_X_some q6
  obtain ⟨x7, L7_, rfl, q8⟩ := w_X_some q7
  obtain ⟨rfl, q9⟩ := w_0_some q8
  obtain ⟨rfl, q10⟩ := a_nil_some q9
  exact q10
set_option maxRecDepth 20000 in
theorem sc_151_5 {j : AJ} (hj : SJ j) : Sound kM_151 5 (mc_151_5 j) := by
  unfold mc_151_5
  exact so_iload_n (f := 3) (by decide +kernel) rfl (so_iload (by decide +kernel) (so_icmp (off := 228) (tgt := 236) (by decide +kernel) (by decide) rfl (sb_151_236 hj) (so_aload_n (f := 0) (by decide +kernel) rfl (so_get (C := RX9) (T := TX9) (N := 38) (by decide +kernel) rfl kin_9 (by decide) kw_455 (b := true) rfl (fun _ => rfl) (so_iload_n (f := 3) (by decide +kernel) rfl (so_iald (by decide +kernel) (so_aload_n (f := 0) (by decide +kernel) rfl (so_get (C := RX9) (T := TX9) (N := 38) (by decide +kernel) rfl kin_9 (by decide) kw_455 (b := true) rfl (fun _ => rfl) (so_iload (by decide +kernel) (so_iald (by decide +kernel) (so_icmp (off := 18) (tgt := 42) (by decide +kernel) (by decide) rfl (sb_151_42 hj) (so_aload_n (f := 0) (by decide +kernel) rfl (so_get (C := RX9) (T := TX9) (N := 38) (by decide +kernel) rfl kin_9 (by decide) kw_455 (b := true) rfl (fun _ => rfl) (so_iload_n (f := 3) (by decide +kernel) rfl (so_iald (by decide +kernel) (so_aload_n (f := 0) (by decide +kernel) rfl (so_get (C := RX9) (T := TX9) (N := 38) (by decide +kernel) rfl kin_9 (by decide) kw_455 (b := true) rfl (fun _ => rfl) (so_iload (by decide +kernel) (so_iald (by decide +kernel) (so_isub (by decide +kernel) (so_reti (by decide +kernel) rfl)))))))))))))))))))))
set_option maxRecDepth 20000 in
theorem sb_151_5 {j : AJ} (hj : SJ j) : Sound kM_151 5 (mb_151_5 j) := by
  refine so_weak (sc_151_5 hj) (fun L S h r q0 => ?_)
  obtain ⟨c0, L0_, rfl, q1⟩ := w_C_some q0
  obtain ⟨i1, L1_, rfl, q2⟩ := w_I_some q1
  obtain ⟨i2, L2_, rfl, q3⟩ := w_I_some q2
  obtain ⟨i3, L3_, rfl, q4⟩ := w_I_some q3
  obtain ⟨i4, L4_, rfl, q5⟩ := w_I_some q4
  obtain ⟨x5, L5_, rfl, q6⟩ := w_X_some q5
  obtain ⟨x6, L6_, rfl, q7⟩ := w_X_some q6
  obtain ⟨x7, L7_, rfl, q8⟩ := w_X_some q7
  obtain ⟨rfl, q9⟩ := w_0_some q8
  obtain ⟨rfl, q10⟩ := a_nil_some q9
  exact q10
set_option maxRecDepth 20000 in
theorem sc_151_0 {j : AJ} (hj : SJ j) : Sound kM_151 0 (mc_151_0 j) := by
  unfold mc_151_0
  exact so_iload_n (f := 1) (by decide +kernel) rfl (so_istore_n (f := 3) (by decide +kernel) rfl (by decide +kernel) (so_iload_n (f := 2) (by decide +kernel) rfl (so_istore (by decide +kernel) (by decide +kernel) (sb_151_5 hj))))
set_option maxRecDepth 20000 in
theorem sb_151_0 {j : AJ} (hj : SJ j) : Sound kM_151 0 (mb_151_0 j) := by
  refine so_weak (sc_151_0 hj) (fun L S h r q0 => ?_)
  obtain ⟨c0, L0_, rfl, q1⟩ := w_C_some q0
  obtain ⟨i1, L1_, rfl, q2⟩ := w_I_some q1
  obtain ⟨i2, L2_, rfl, q3⟩ := w_I_some q2
  obtain ⟨L3_, rfl, q4⟩ := w_N_some q3
  obtain ⟨L4_, rfl, q5⟩ := w_N_some q4
  obtain ⟨L5_, rfl, q6⟩ := w_N_some q5
  obtain ⟨L6_, rfl, q7⟩ := w_N_some q6
  obtain ⟨L7_, rfl, q8⟩ := w_N_some q7
  obtain ⟨rfl, q9⟩ := w_0_some q8
  obtain ⟨rfl, q10⟩ := a_nil_some q9
  exact q10
set_option maxRecDepth 20000 in
theorem sc_152_69 {j : AJ} (hj : SJ j) : Sound kM_152 69 (mc_152_69 j) := by
  unfold mc_152_69
  exact so_iload_n (f := 2) (by decide +kernel) rfl (so_reti (by decide +kernel) rfl)
set_option maxRecDepth 20000 in
theorem sb_152_69 {j : AJ} (hj : SJ j) : Sound kM_152 69 (mb_152_69 j) := by
  refine so_weak (sc_152_69 hj) (fun L S h r q0 => ?_)
  obtain ⟨c0, L0_, rfl, q1⟩ := w_C_some q0
  obtain ⟨i1, L1_, rfl, q2⟩ := w_I_some q1
  obtain ⟨i2, L2_, rfl, q3⟩ := w_I_some q2
  obtain ⟨i3, L3_, rfl, q4⟩ := w_I_some q3
  obtain ⟨x4, L4_, rfl, q5⟩ := w_X_some q4
  obtain ⟨x5, L5_, rfl, q6⟩ := w_X_some q5
  obtain ⟨rfl, q7⟩ := w_0_some q6
  obtain ⟨rfl, q8⟩ := a_nil_some q7
  exact q8
set_option maxRecDepth 20000 in
theorem sc_152_63 {j : AJ} (hj : SJ j) : Sound kM_152 63 (mc_152_63 j) := by
  unfold mc_152_63
  exact so_iinc (z := 1) (by decide +kernel) (by decide +kernel) (by decide) (by decide +kernel) (so_goto (off := -62) (tgt := 4) (by decide +kernel) (by decide) (hj 75 _ _ rfl))
set_option maxRecDepth 20000 in
theorem sb_152_63 {j : AJ} (hj : SJ j) : Sound kM_152 63 (mb_152_63 j) := by
  refine so_weak (sc_152_63 hj) (fun L S h r q0 => ?_)
  obtain ⟨c0, L0_, rfl, q1⟩ := w_C_some q0
  obtain ⟨i1, L1_, rfl, q2⟩ := w_I_some q1
  obtain ⟨i2, L2_, rfl, q3⟩ := w_I_some q2
  obtain ⟨i3, L3_, rfl, q4⟩ := w_I_some q3
  obtain ⟨i4, L4_, rfl, q5⟩ := w_I_some q4
  obtain ⟨i5, L5_, rfl, q6⟩ := w_I_some q5
  obtain ⟨rfl, q7⟩ := w_0_some q6
  obtain ⟨rfl, q8⟩ := a_nil_some q7
  exact q8
set_option maxRecDepth 20000 in
theorem sc_152_49 {j : AJ} (hj : SJ j) : Sound kM_152 49 (mc_152_49 j) := by
  unfold mc_152_49
  exact so_iload (by decide +kernel) (so_if (off := 12) (tgt := 63) (by decide +kernel) (by decide) rfl (sb_152_63 hj) (so_aload_n (f := 0) (by decide +kernel) rfl (so_iload_n (f := 2) (by decide +kernel) rfl (so_aload_n (f := 0) (by decide +kernel) rfl (so_iload_n (f := 3) (by decide +kernel) rfl (so_iald (by decide +kernel) (so_iast (by decide +kernel) (so_iinc (z := 1) (by decide +kernel) (by decide +kernel) (by decide) (by decide +kernel) (sb_152_63 hj)))))))))
set_option maxRecDepth 20000 in
theorem sb_152_49 {j : AJ} (hj : SJ j) : Sound kM_152 49 (mb_152_49 j) := by
  refine so_weak (sc_152_49 hj) (fun L S h r q0 => ?_)
  obtain ⟨c0, L0_, rfl, q1⟩ := w_C_some q0
  obtain ⟨i1, L1_, rfl, q2⟩ := w_I_some q1
  obtain ⟨i2, L2_, rfl, q3⟩ := w_I_some q2
  obtain ⟨i3, L3_, rfl, q4⟩ := w_I_some q3
  obtain ⟨i4, L4_, rfl, q5⟩ := w_I_some q4
  obtain ⟨i5, L5_, rfl, q6⟩ := w_I_some q5
  obtain ⟨rfl, q7⟩ := w_0_some q6
  obtain ⟨rfl, q8⟩ := a_nil_some q7
  exact q8
set_option maxRecDepth 20000 in
theorem sc_152_41 {j : AJ} (hj : SJ j) : Sound kM_152 41 (mc_152_41 j) := by
  unfold mc_152_41
  exact so_istore (by decide +kernel) (by decide +kernel) (so_iinc (z := 1) (by decide +kernel) (by decide +kernel) (by decide) (by decide +kernel) (so_goto (off := -31) (tgt := 15) (by decide +kernel) (by decide) (hj 74 _ _ rfl)))
set_option maxRecDepth 20000 in
theorem sb_152_41 {j : AJ} (hj : SJ j) : Sound kM_152 41 (mb_152_41 j) := by
  refine so_weak (sc_152_41 hj) (fun L S h r q0 => ?_)
  obtain ⟨c0, L0_, rfl, q1⟩ := w_C_some q0
  obtain ⟨i1, L1_, rfl, q2⟩ := w_I_some q1
  obtain ⟨i2, L2_, rfl, q3⟩ := w_I_some q2
  obtain ⟨i3, L3_, rfl, q4⟩ := w_I_some q3
  obtain ⟨i4, L4_, rfl, q5⟩ := w_I_some q4
  obtain ⟨i5, L5_, rfl, q6⟩ := w_I_some q5
  obtain ⟨rfl, q7⟩ := w_0_some q6
  obtain ⟨s0, S0_, rfl, q8⟩ := a_popI_some q7
  obtain ⟨rfl, q9⟩ := a_nil_some q8
  exact q9
set_option maxRecDepth 20000 in
theorem sc_152_40 {j : AJ} (hj : SJ j) : Sound kM_152 40 (mc_152_40 j) := by
  unfold mc_152_40
  exact so_iconst (i := 0) (by decide +kernel) (by decide +kernel) (by decide) (sb_152_41 hj)
set_option maxRecDepth 20000 in
theorem sb_152_40 {j : AJ} (hj : SJ j) : Sound kM_152 40 (mb_152_40 j) := by
  refine so_weak (sc_152_40 hj) (fun L S h r q0 => ?_)
  obtain ⟨c0, L0_, rfl, q1⟩ := w_C_some q0
  obtain ⟨i1, L1_, rfl, q2⟩ := w_I_some q1
  obtain ⟨i2, L2_, rfl, q3⟩ := w_I_some q2
  obtain ⟨i3, L3_, rfl, q4⟩ := w_I_some q3
  obtain ⟨i4, L4_, rfl, q5⟩ := w_I_some q4
  obtain ⟨i5, L5_, rfl, q6⟩ := w_I_some q5
  obtain ⟨rfl, q7⟩ := w_0_some q6
  obtain ⟨rfl, q8⟩ := a_nil_some q7
  exact q8
set_option maxRecDepth 20000 in
theorem sc_152_36 {j : AJ} (hj : SJ j) : Sound kM_152 36 (mc_152_36 j) := by
  unfold mc_152_36
  exact so_iconst (i := 1) (by decide +kernel) (by decide +kernel) (by decide) (so_goto (off := 4) (tgt := 41) (by decide +kernel) (by decide) (sb_152_41 hj))
set_option maxRecDepth 20000 in
theorem sb_152_36 {j : AJ} (hj : SJ j) : Sound kM_152 36 (mb_152_36 j) := by
  refine so_weak (sc_152_36 hj) (fun L S h r q0 => ?_)
  obtain ⟨c0, L0_, rfl, q1⟩ := w_C_some q0
  obtain ⟨i1, L1_, rfl, q2⟩ := w_I_some q1
  obtain ⟨i2, L2_, rfl, q3⟩ := w_I_some q2
  obtain ⟨i3, L3_, rfl, q4⟩ := w_I_some q3
  obtain ⟨i4, L4_, rfl, q5⟩ := w_I_some q4
  obtain ⟨i5, L5_, rfl, q6⟩ := w_I_some q5
  obtain ⟨rfl, q7⟩ := w_0_some q6
  obtain ⟨rfl, q8⟩ := a_nil_some q7
  exact q8
set_option maxRecDepth 20000 in
theorem sc_152_15 {j : AJ} (hj : SJ j) : Sound kM_152 15 (mc_152_15 j) := by
  unfold mc_152_15
  exact so_iload (by decide +kernel) (so_iload_n (f := 2) (by decide +kernel) rfl (so_icmp (off := 31) (tgt := 49) (by decide +kernel) (by decide) rfl (sb_152_49 hj) (so_iload (by decide +kernel) (so_if (off := 13) (tgt := 36) (by decide +kernel) (by decide) rfl (sb_152_36 hj) (so_aload_n (f := 0) (by decide +kernel) rfl (so_iload (by decide +kernel) (so_iald (by decide +kernel) (so_aload_n (f := 0) (by decide +kernel) rfl (so_iload_n (f := 3) (by decide +kernel) rfl (so_iald (by decide +kernel) (so_icmp (off := 7) (tgt := 40) (by decide +kernel) (by decide) rfl (sb_152_40 hj) (sb_152_36 hj))))))))))))
set_option maxRecDepth 20000 in
theorem sb_152_15 {j : AJ} (hj : SJ j) : Sound kM_152 15 (mb_152_15 j) := by
  refine so_weak (sc_152_15 hj) (fun L S h r q0 => ?_)
  obtain ⟨c0, L0_, rfl, q1⟩ := w_C_some q0
  obtain ⟨i1, L1_, rfl, q2⟩ := w_I_some q1
  obtain ⟨i2, L2_, rfl, q3⟩ := w_I_some q2
  obtain ⟨i3, L3_, rfl, q4⟩ := w_I_some q3
  obtain ⟨i4, L4_, rfl, q5⟩ := w_I_some q4
  obtain ⟨i5, L5_, rfl, q6⟩ := w_I_some q5
  obtain ⟨rfl, q7⟩ := w_0_some q6
  obtain ⟨rfl, q8⟩ := a_nil_some q7
  exact q8
set_option maxRecDepth 20000 in
theorem sc_152_4 {j : AJ} (hj : SJ j) : Sound kM_152 4 (mc_152_4 j) := by
  unfold mc_152_4
  exact so_iload_n (f := 3) (by decide +kernel) rfl (so_iload_n (f := 1) (by decide +kernel) rfl (so_icmp (off := 63) (tgt := 69) (by decide +kernel) (by decide) rfl (sb_152_69 hj) (so_iconst (i := 0) (by decide +kernel) (by decide +kernel) (by decide) (so_istore (by decide +kernel) (by decide +kernel) (so_iconst (i := 0) (by decide +kernel) (by decide +kernel) (by decide) (so_istore (by decide +kernel) (by decide +kernel) (sb_152_15 hj)))))))
set_option maxRecDepth 20000 in
theorem sb_152_4 {j : AJ} (hj : SJ j) : Sound kM_152 4 (mb_152_4 j) := by
  refine so_weak (sc_152_4 hj) (fun L S h r q0 => ?_)
  obtain ⟨c0, L0_, rfl, q1⟩ := w_C_some q0
  obtain ⟨i1, L1_, rfl, q2⟩ := w_I_some q1
  obtain ⟨i2, L2_, rfl, q3⟩ := w_I_some q2
  obtain ⟨i3, L3_, rfl, q4⟩ := w_I_some q3
  obtain ⟨x4, L4_, rfl, q5⟩ := w_X_some q4
  obtain ⟨x5, L5_, rfl, q6⟩ := w_X_some q5
  obtain ⟨rfl, q7⟩ := w_0_some q6
  obtain ⟨rfl, q8⟩ := a_nil_some q7
  exact q8
set_option maxRecDepth 20000 in
theorem sc_152_0 {j : AJ} (hj : SJ j) : Sound kM_152 0 (mc_152_0 j) := by
  unfold mc_152_0
  exact so_iconst (i := 0) (by decide +kernel) (by decide +kernel) (by decide) (so_istore_n (f := 2) (by decide +kernel) rfl (by decide +kernel) (so_iconst (i := 0) (by decide +kernel) (by decide +kernel) (by decide) (so_istore_n (f := 3) (by decide +kernel) rfl (by decide +kernel) (sb_152_4 hj))))
set_option maxRecDepth 20000 in
theorem sb_152_0 {j : AJ} (hj : SJ j) : Sound kM_152 0 (mb_152_0 j) := by
  refine so_weak (sc_152_0 hj) (fun L S h r q0 => ?_)
  obtain ⟨c0, L0_, rfl, q1⟩ := w_C_some q0
  obtain ⟨i1, L1_, rfl, q2⟩ := w_I_some q1
  obtain ⟨L2_, rfl, q3⟩ := w_N_some q2
  obtain ⟨L3_, rfl, q4⟩ := w_N_some q3
  obtain ⟨L4_, rfl, q5⟩ := w_N_some q4
  obtain ⟨L5_, rfl, q6⟩ := w_N_some q5
  obtain ⟨rfl, q7⟩ := w_0_some q6
  obtain ⟨rfl, q8⟩ := a_nil_some q7
  exact q8
