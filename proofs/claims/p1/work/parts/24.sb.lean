/-! ===== the blocks are sound ===== -/
set_option maxRecDepth 20000 in
theorem sc_153_63 {j : AJ} (hj : SJ j) : Sound kM_153 63 (mc_153_63 j) := by
  unfold mc_153_63
  exact so_retv (by decide +kernel) rfl
set_option maxRecDepth 20000 in
theorem sb_153_63 {j : AJ} (hj : SJ j) : Sound kM_153 63 (mb_153_63 j) := by
  refine so_weak (sc_153_63 hj) (fun L S h r q0 => ?_)
  obtain ⟨c0, L0_, rfl, q1⟩ := w_C_some q0
  obtain ⟨c1, L1_, rfl, q2⟩ := w_C_some q1
  obtain ⟨i2, L2_, rfl, q3⟩ := w_I_some q2
  obtain ⟨i3, L3_, rfl, q4⟩ := w_I_some q3
  obtain ⟨x4, L4_, rfl, q5⟩ := w_X_some q4
  obtain ⟨x5, L5_, rfl, q6⟩ := w_X_some q5
  obtain ⟨rfl, q7⟩ := w_0_some q6
  obtain ⟨rfl, q8⟩ := a_nil_some q7
  exact q8
set_option maxRecDepth 20000 in
theorem sc_153_51 {j : AJ} (hj : SJ j) : Sound kM_153 51 (mc_153_51 j) := by
  unfold mc_153_51
  exact so_aload_n (f := 1) (by decide +kernel) rfl (so_iload (by decide +kernel) (so_iload (by decide +kernel) (so_iast (by decide +kernel) (so_iinc (z := 1) (by decide +kernel) (by decide +kernel) (by decide) (by decide +kernel) (so_goto (off := -58) (tgt := 2) (by decide +kernel) (by decide) (hj 77 _ _ rfl))))))
set_option maxRecDepth 20000 in
theorem sb_153_51 {j : AJ} (hj : SJ j) : Sound kM_153 51 (mb_153_51 j) := by
  refine so_weak (sc_153_51 hj) (fun L S h r q0 => ?_)
  obtain ⟨c0, L0_, rfl, q1⟩ := w_C_some q0
  obtain ⟨c1, L1_, rfl, q2⟩ := w_C_some q1
  obtain ⟨i2, L2_, rfl, q3⟩ := w_I_some q2
  obtain ⟨i3, L3_, rfl, q4⟩ := w_I_some q3
  obtain ⟨i4, L4_, rfl, q5⟩ := w_I_some q4
  obtain ⟨i5, L5_, rfl, q6⟩ := w_I_some q5
  obtain ⟨rfl, q7⟩ := w_0_some q6
  obtain ⟨rfl, q8⟩ := a_nil_some q7
  exact q8
set_option maxRecDepth 20000 in
theorem sc_153_15 {j : AJ} (hj : SJ j) : Sound kM_153 15 (mc_153_15 j) := by
  unfold mc_153_15
  exact so_iload (by decide +kernel) (so_if (off := 34) (tgt := 51) (by decide +kernel) (by decide) rfl (sb_153_51 hj) (so_aload_n (f := 0) (by decide +kernel) rfl (so_aload_n (f := 1) (by decide +kernel) rfl (so_iload (by decide +kernel) (so_iconst (i := 1) (by decide +kernel) (by decide +kernel) (by decide) (so_isub (by decide +kernel) (so_iald (by decide +kernel) (so_iload (by decide +kernel) (so_weak (so_callV (C := RX9) (T := TX9) (N0 := 38) (by decide +kernel) kcf_151 rfl rfl rfl kw_492 kw_493 kw_494 (by decide +kernel) (sb_151_0 hj) (so_if (off := 19) (tgt := 51) (by decide +kernel) (by decide) rfl (sb_153_51 hj) (so_aload_n (f := 1) (by decide +kernel) rfl (so_iload (by decide +kernel) (so_aload_n (f := 1) (by decide +kernel) rfl (so_iload (by decide +kernel) (so_iconst (i := 1) (by decide +kernel) (by decide +kernel) (by decide) (so_isub (by decide +kernel) (so_iald (by decide +kernel) (so_iast (by decide +kernel) (so_iinc (z := -1) (by decide +kernel) (by decide +kernel) (by decide) (by decide +kernel) (so_goto (off := -33) (tgt := 15) (by decide +kernel) (by decide) (hj 76 _ _ rfl))))))))))))) (callvE_imp BK_I))))))))))
set_option maxRecDepth 20000 in
theorem sb_153_15 {j : AJ} (hj : SJ j) : Sound kM_153 15 (mb_153_15 j) := by
  refine so_weak (sc_153_15 hj) (fun L S h r q0 => ?_)
  obtain ⟨c0, L0_, rfl, q1⟩ := w_C_some q0
  obtain ⟨c1, L1_, rfl, q2⟩ := w_C_some q1
  obtain ⟨i2, L2_, rfl, q3⟩ := w_I_some q2
  obtain ⟨i3, L3_, rfl, q4⟩ := w_I_some q3
  obtain ⟨i4, L4_, rfl, q5⟩ := w_I_some q4
  obtain ⟨i5, L5_, rfl, q6⟩ := w_I_some q5
  obtain ⟨rfl, q7⟩ := w_0_some q6
  obtain ⟨rfl, q8⟩ := a_nil_some q7
  exact q8
set_option maxRecDepth 20000 in
theorem sc_153_2 {j : AJ} (hj : SJ j) : Sound kM_153 2 (mc_153_2 j) := by
  unfold mc_153_2
  exact so_iload_n (f := 3) (by decide +kernel) rfl (so_iload_n (f := 2) (by decide +kernel) rfl (so_icmp (off := 59) (tgt := 63) (by decide +kernel) (by decide) rfl (sb_153_63 hj) (so_aload_n (f := 1) (by decide +kernel) rfl (so_iload_n (f := 3) (by decide +kernel) rfl (so_iald (by decide +kernel) (so_istore (by decide +kernel) (by decide +kernel) (so_iload_n (f := 3) (by decide +kernel) rfl (so_istore (by decide +kernel) (by decide +kernel) (sb_153_15 hj)))))))))
set_option maxRecDepth 20000 in
theorem sb_153_2 {j : AJ} (hj : SJ j) : Sound kM_153 2 (mb_153_2 j) := by
  refine so_weak (sc_153_2 hj) (fun L S h r q0 => ?_)
  obtain ⟨c0, L0_, rfl, q1⟩ := w_C_some q0
  obtain ⟨c1, L1_, rfl, q2⟩ := w_C_some q1
  obtain ⟨i2, L2_, rfl, q3⟩ := w_I_some q2
  obtain ⟨i3, L3_, rfl, q4⟩ := w_I_some q3
  obtain ⟨x4, L4_, rfl, q5⟩ := w_X_some q4
  obtain ⟨x5, L5_, rfl, q6⟩ := w_X_some q5
  obtain ⟨rfl, q7⟩ := w_0_some q6
  obtain ⟨rfl, q8⟩ := a_nil_some q7
  exact q8
set_option maxRecDepth 20000 in
theorem sc_153_0 {j : AJ} (hj : SJ j) : Sound kM_153 0 (mc_153_0 j) := by
  unfold mc_153_0
  exact so_iconst (i := 1) (by decide +kernel) (by decide +kernel) (by decide) (so_istore_n (f := 3) (by decide +kernel) rfl (by decide +kernel) (sb_153_2 hj))
set_option maxRecDepth 20000 in
theorem sb_153_0 {j : AJ} (hj : SJ j) : Sound kM_153 0 (mb_153_0 j) := by
  refine so_weak (sc_153_0 hj) (fun L S h r q0 => ?_)
  obtain ⟨c0, L0_, rfl, q1⟩ := w_C_some q0
  obtain ⟨c1, L1_, rfl, q2⟩ := w_C_some q1
  obtain ⟨i2, L2_, rfl, q3⟩ := w_I_some q2
  obtain ⟨L3_, rfl, q4⟩ := w_N_some q3
  obtain ⟨L4_, rfl, q5⟩ := w_N_some q4
  obtain ⟨L5_, rfl, q6⟩ := w_N_some q5
  obtain ⟨rfl, q7⟩ := w_0_some q6
  obtain ⟨rfl, q8⟩ := a_nil_some q7
  exact q8
set_option maxRecDepth 20000 in
theorem sc_154_227 {j : AJ} (hj : SJ j) : Sound kM_154 227 (mc_154_227 j) := by
  unfold mc_154_227
  exact so_aload_n (f := 0) (by decide +kernel) rfl (so_get (C := RX9) (T := TX9) (N := 38) (by decide +kernel) rfl kin_9 (by decide) kw_458 (b := true) rfl (fun _ => rfl) (so_sipush (i := 1602) (by decide +kernel) (by decide +kernel) (by decide) (so_iload_n (f := 1) (by decide +kernel) rfl (so_imul (by decide +kernel) (so_iconst (i := 1) (by decide +kernel) (by decide +kernel) (by decide) (so_zast (by decide +kernel) (so_retv (by decide +kernel) rfl)))))))
set_option maxRecDepth 20000 in
theorem sb_154_227 {j : AJ} (hj : SJ j) : Sound kM_154 227 (mb_154_227 j) := by
  refine so_weak (sc_154_227 hj) (fun L S h r q0 => ?_)
  obtain ⟨c0, L0_, rfl, q1⟩ := w_C_some q0
  obtain ⟨i1, L1_, rfl, q2⟩ := w_I_some q1
  obtain ⟨i2, L2_, rfl, q3⟩ := w_I_some q2
  obtain ⟨x3, L3_, rfl, q4⟩ := w_X_some q3
  obtain ⟨x4, L4_, rfl, q5⟩ := w_X_some q4
  obtain ⟨rfl, q6⟩ := w_0_some q5
  obtain ⟨rfl, q7⟩ := a_nil_some q6
  exact q7
set_option maxRecDepth 20000 in
theorem sc_154_208 {j : AJ} (hj : SJ j) : Sound kM_154 208 (mc_154_208 j) := by
  unfold mc_154_208
  exact so_aload_n (f := 0) (by decide +kernel) rfl (so_get (C := RX9) (T := TX9) (N := 38) (by decide +kernel) rfl kin_9 (by decide) kw_458 (b := true) rfl (fun _ => rfl) (so_sipush (i := 1601) (by decide +kernel) (by decide +kernel) (by decide) (so_iload_n (f := 2) (by decide +kernel) rfl (so_imul (by decide +kernel) (so_iload_n (f := 1) (by decide +kernel) rfl (so_iadd (by decide +kernel) (so_iload_n (f := 3) (by decide +kernel) rfl (so_zast (by decide +kernel) (so_iinc (z := 1) (by decide +kernel) (by decide +kernel) (by decide) (by decide +kernel) (so_goto (off := -217) (tgt := 7) (by decide +kernel) (by decide) (hj 82 _ _ rfl)))))))))))
set_option maxRecDepth 20000 in
theorem sb_154_208 {j : AJ} (hj : SJ j) : Sound kM_154 208 (mb_154_208 j) := by
  refine so_weak (sc_154_208 hj) (fun L S h r q0 => ?_)
  obtain ⟨c0, L0_, rfl, q1⟩ := w_C_some q0
  obtain ⟨i1, L1_, rfl, q2⟩ := w_I_some q1
  obtain ⟨i2, L2_, rfl, q3⟩ := w_I_some q2
  obtain ⟨i3, L3_, rfl, q4⟩ := w_I_some q3
  obtain ⟨i4, L4_, rfl, q5⟩ := w_I_some q4
  obtain ⟨rfl, q6⟩ := w_0_some q5
  obtain ⟨rfl, q7⟩ := a_nil_some q6
  exact q7
set_option maxRecDepth 20000 in
theorem sc_154_201 {j : AJ} (hj : SJ j) : Sound kM_154 201 (mc_154_201 j) := by
  unfold mc_154_201
  exact so_istore_n (f := 3) (by decide +kernel) rfl (by decide +kernel) (so_iinc (z := 1) (by decide +kernel) (by decide +kernel) (by decide) (by decide +kernel) (so_goto (off := -37) (tgt := 168) (by decide +kernel) (by decide) (hj 81 _ _ rfl)))
set_option maxRecDepth 20000 in
theorem sb_154_201 {j : AJ} (hj : SJ j) : Sound kM_154 201 (mb_154_201 j) := by
  refine so_weak (sc_154_201 hj) (fun L S h r q0 => ?_)
  obtain ⟨c0, L0_, rfl, q1⟩ := w_C_some q0
  obtain ⟨i1, L1_, rfl, q2⟩ := w_I_some q1
  obtain ⟨i2, L2_, rfl, q3⟩ := w_I_some q2
  obtain ⟨i3, L3_, rfl, q4⟩ := w_I_some q3
  obtain ⟨i4, L4_, rfl, q5⟩ := w_I_some q4
  obtain ⟨rfl, q6⟩ := w_0_some q5
  obtain ⟨s0, S0_, rfl, q7⟩ := a_popI_some q6
  obtain ⟨rfl, q8⟩ := a_nil_some q7
  exact q8
set_option maxRecDepth 20000 in
theorem sc_154_200 {j : AJ} (hj : SJ j) : Sound kM_154 200 (mc_154_200 j) := by
  unfold mc_154_200
  exact so_iconst (i := 0) (by decide +kernel) (by decide +kernel) (by decide) (sb_154_201 hj)
set_option maxRecDepth 20000 in
theorem sb_154_200 {j : AJ} (hj : SJ j) : Sound kM_154 200 (mb_154_200 j) := by
  refine so_weak (sc_154_200 hj) (fun L S h r q0 => ?_)
  obtain ⟨c0, L0_, rfl, q1⟩ := w_C_some q0
  obtain ⟨i1, L1_, rfl, q2⟩ := w_I_some q1
  obtain ⟨i2, L2_, rfl, q3⟩ := w_I_some q2
  obtain ⟨i3, L3_, rfl, q4⟩ := w_I_some q3
  obtain ⟨i4, L4_, rfl, q5⟩ := w_I_some q4
  obtain ⟨rfl, q6⟩ := w_0_some q5
  obtain ⟨rfl, q7⟩ := a_nil_some q6
  exact q7
set_option maxRecDepth 20000 in
theorem sc_154_168 {j : AJ} (hj : SJ j) : Sound kM_154 168 (mc_154_168 j) := by
  unfold mc_154_168
  exact so_iload (by decide +kernel) (so_aload_n (f := 0) (by decide +kernel) rfl (so_get (C := RX9) (T := TX9) (N := 38) (by decide +kernel) rfl kin_9 (by decide) kw_495 (b := false) rfl (fun _ => rfl) (so_icmp (off := 34) (tgt := 208) (by decide +kernel) (by decide) rfl (sb_154_208 hj) (so_iload_n (f := 3) (by decide +kernel) rfl (so_if (off := 22) (tgt := 200) (by decide +kernel) (by decide) rfl (sb_154_200 hj) (so_aload_n (f := 0) (by decide +kernel) rfl (so_aload_n (f := 0) (by decide +kernel) rfl (so_get (C := RX9) (T := TX9) (N := 38) (by decide +kernel) rfl kin_9 (by decide) kw_459 (b := true) rfl (fun _ => rfl) (so_iload (by decide +kernel) (so_iald (by decide +kernel) (so_iload_n (f := 2) (by decide +kernel) rfl (so_weak (so_callV (C := RX9) (T := TX9) (N0 := 38) (by decide +kernel) kcf_148 rfl rfl rfl kw_496 kw_497 kw_498 (by decide +kernel) (sb_148_0 hj) (so_if (off := 7) (tgt := 200) (by decide +kernel) (by decide) rfl (sb_154_200 hj) (so_iconst (i := 1) (by decide +kernel) (by decide +kernel) (by decide) (so_goto (off := 4) (tgt := 201) (by decide +kernel) (by decide) (sb_154_201 hj))))) (callvE_imp BK_I)))))))))))))
set_option maxRecDepth 20000 in
theorem sb_154_168 {j : AJ} (hj : SJ j) : Sound kM_154 168 (mb_154_168 j) := by
  refine so_weak (sc_154_168 hj) (fun L S h r q0 => ?_)
  obtain ⟨c0, L0_, rfl, q1⟩ := w_C_some q0
  obtain ⟨i1, L1_, rfl, q2⟩ := w_I_some q1
  obtain ⟨i2, L2_, rfl, q3⟩ := w_I_some q2
  obtain ⟨i3, L3_, rfl, q4⟩ := w_I_some q3
  obtain ⟨i4, L4_, rfl, q5⟩ := w_I_some q4
  obtain ⟨rfl, q6⟩ := w_0_some q5
  obtain ⟨rfl, q7⟩ := a_nil_some q6
  exact q7
set_option maxRecDepth 20000 in
theorem sc_154_165 {j : AJ} (hj : SJ j) : Sound kM_154 165 (mc_154_165 j) := by
  unfold mc_154_165
  exact so_iconst (i := 0) (by decide +kernel) (by decide +kernel) (by decide) (so_istore (by decide +kernel) (by decide +kernel) (sb_154_168 hj))
set_option maxRecDepth 20000 in
theorem sb_154_165 {j : AJ} (hj : SJ j) : Sound kM_154 165 (mb_154_165 j) := by
  refine so_weak (sc_154_165 hj) (fun L S h r q0 => ?_)
  obtain ⟨c0, L0_, rfl, q1⟩ := w_C_some q0
  obtain ⟨i1, L1_, rfl, q2⟩ := w_I_some q1
  obtain ⟨i2, L2_, rfl, q3⟩ := w_I_some q2
  obtain ⟨i3, L3_, rfl, q4⟩ := w_I_some q3
  obtain ⟨i4, L4_, rfl, q5⟩ := w_I_some q4
  obtain ⟨rfl, q6⟩ := w_0_some q5
  obtain ⟨rfl, q7⟩ := a_nil_some q6
  exact q7
set_option maxRecDepth 20000 in
theorem sc_154_158 {j : AJ} (hj : SJ j) : Sound kM_154 158 (mc_154_158 j) := by
  unfold mc_154_158
  exact so_istore_n (f := 3) (by decide +kernel) rfl (by decide +kernel) (so_iinc (z := 1) (by decide +kernel) (by decide +kernel) (by decide) (by decide +kernel) (so_goto (off := -39) (tgt := 123) (by decide +kernel) (by decide) (hj 80 _ _ rfl)))
set_option maxRecDepth 20000 in
theorem sb_154_158 {j : AJ} (hj : SJ j) : Sound kM_154 158 (mb_154_158 j) := by
  refine so_weak (sc_154_158 hj) (fun L S h r q0 => ?_)
  obtain ⟨c0, L0_, rfl, q1⟩ := w_C_some q0
  obtain ⟨i1, L1_, rfl, q2⟩ := w_I_some q1
  obtain ⟨i2, L2_, rfl, q3⟩ := w_I_some q2
  obtain ⟨i3, L3_, rfl, q4⟩ := w_I_some q3
  obtain ⟨i4, L4_, rfl, q5⟩ := w_I_some q4
  obtain ⟨rfl, q6⟩ := w_0_some q5
  obtain ⟨s0, S0_, rfl, q7⟩ := a_popI_some q6
  obtain ⟨rfl, q8⟩ := a_nil_some q7
  exact q8
set_option maxRecDepth 20000 in
theorem sc_154_157 {j : AJ} (hj : SJ j) : Sound kM_154 157 (mc_154_157 j) := by
  unfold mc_154_157
  exact so_iconst (i := 0) (by decide +kernel) (by decide +kernel) (by decide) (sb_154_158 hj)
set_option maxRecDepth 20000 in
theorem sb_154_157 {j : AJ} (hj : SJ j) : Sound kM_154 157 (mb_154_157 j) := by
  refine so_weak (sc_154_157 hj) (fun L S h r q0 => ?_)
  obtain ⟨c0, L0_, rfl, q1⟩ := w_C_some q0
  obtain ⟨i1, L1_, rfl, q2⟩ := w_I_some q1
  obtain ⟨i2, L2_, rfl, q3⟩ := w_I_some q2
  obtain ⟨i3, L3_, rfl, q4⟩ := w_I_some q3
  obtain ⟨i4, L4_, rfl, q5⟩ := w_I_some q4
  obtain ⟨rfl, q6⟩ := w_0_some q5
  obtain ⟨rfl, q7⟩ := a_nil_some q6
  exact q7
set_option maxRecDepth 20000 in
theorem sc_154_123 {j : AJ} (hj : SJ j) : Sound kM_154 123 (mc_154_123 j) := by
  unfold mc_154_123
  exact so_iload (by decide +kernel) (so_aload_n (f := 0) (by decide +kernel) rfl (so_get (C := RX9) (T := TX9) (N := 38) (by decide +kernel) rfl kin_9 (by decide) kw_454 (b := true) rfl (fun _ => rfl) (so_iload_n (f := 2) (by decide +kernel) rfl (so_iald (by decide +kernel) (so_icmp (off := 34) (tgt := 165) (by decide +kernel) (by decide) rfl (sb_154_165 hj) (so_iload_n (f := 3) (by decide +kernel) rfl (so_if (off := 22) (tgt := 157) (by decide +kernel) (by decide) rfl (sb_154_157 hj) (so_aload_n (f := 0) (by decide +kernel) rfl (so_iload_n (f := 1) (by decide +kernel) rfl (so_aload_n (f := 0) (by decide +kernel) rfl (so_iload_n (f := 2) (by decide +kernel) rfl (so_iload (by decide +kernel) (so_weak (so_callV (C := RX9) (T := TX9) (N0 := 38) (by decide +kernel) kcf_150 rfl rfl rfl kw_489 kw_490 kw_491 (by decide +kernel) (sb_150_0 hj) (so_weak (so_callV (C := RX9) (T := TX9) (N0 := 38) (by decide +kernel) kcf_148 rfl rfl rfl kw_496 kw_497 kw_498 (by decide +kernel) (sb_148_0 hj) (so_if (off := 7) (tgt := 157) (by decide +kernel) (by decide) rfl (sb_154_157 hj) (so_iconst (i := 1) (by decide +kernel) (by decide +kernel) (by decide) (so_goto (off := 4) (tgt := 158) (by decide +kernel) (by decide) (sb_154_158 hj))))) (callvE_imp BK_I))) (callvE_imp BK_I))))))))))))))
set_option maxRecDepth 20000 in
theorem sb_154_123 {j : AJ} (hj : SJ j) : Sound kM_154 123 (mb_154_123 j) := by
  refine so_weak (sc_154_123 hj) (fun L S h r q0 => ?_)
  obtain ⟨c0, L0_, rfl, q1⟩ := w_C_some q0
  obtain ⟨i1, L1_, rfl, q2⟩ := w_I_some q1
  obtain ⟨i2, L2_, rfl, q3⟩ := w_I_some q2
  obtain ⟨i3, L3_, rfl, q4⟩ := w_I_some q3
  obtain ⟨i4, L4_, rfl, q5⟩ := w_I_some q4
  obtain ⟨rfl, q6⟩ := w_0_some q5
  obtain ⟨rfl, q7⟩ := a_nil_some q6
  exact q7
set_option maxRecDepth 20000 in
theorem sc_154_105 {j : AJ} (hj : SJ j) : Sound kM_154 105 (mc_154_105 j) := by
  unfold mc_154_105
  exact so_aload_n (f := 0) (by decide +kernel) rfl (so_get (C := RX9) (T := TX9) (N := 38) (by decide +kernel) rfl kin_9 (by decide) kw_458 (b := true) rfl (fun _ => rfl) (so_sipush (i := 1601) (by decide +kernel) (by decide +kernel) (by decide) (so_iload_n (f := 1) (by decide +kernel) rfl (so_imul (by decide +kernel) (so_iload_n (f := 2) (by decide +kernel) rfl (so_iadd (by decide +kernel) (so_iload_n (f := 3) (by decide +kernel) rfl (so_zast (by decide +kernel) (so_iconst (i := 1) (by decide +kernel) (by decide +kernel) (by decide) (so_istore_n (f := 3) (by decide +kernel) rfl (by decide +kernel) (so_iconst (i := 0) (by decide +kernel) (by decide +kernel) (by decide) (so_istore (by decide +kernel) (by decide +kernel) (sb_154_123 hj)))))))))))))
set_option maxRecDepth 20000 in
theorem sb_154_105 {j : AJ} (hj : SJ j) : Sound kM_154 105 (mb_154_105 j) := by
  refine so_weak (sc_154_105 hj) (fun L S h r q0 => ?_)
  obtain ⟨c0, L0_, rfl, q1⟩ := w_C_some q0
  obtain ⟨i1, L1_, rfl, q2⟩ := w_I_some q1
  obtain ⟨i2, L2_, rfl, q3⟩ := w_I_some q2
  obtain ⟨i3, L3_, rfl, q4⟩ := w_I_some q3
  obtain ⟨i4, L4_, rfl, q5⟩ := w_I_some q4
  obtain ⟨rfl, q6⟩ := w_0_some q5
  obtain ⟨rfl, q7⟩ := a_nil_some q6
  exact q7
set_option maxRecDepth 20000 in
theorem sc_154_98 {j : AJ} (hj : SJ j) : Sound kM_154 98 (mc_154_98 j) := by
  unfold mc_154_98
  exact so_istore_n (f := 3) (by decide +kernel) rfl (by decide +kernel) (so_iinc (z := 1) (by decide +kernel) (by decide +kernel) (by decide) (by decide +kernel) (so_goto (off := -39) (tgt := 63) (by decide +kernel) (by decide) (hj 79 _ _ rfl)))
set_option maxRecDepth 20000 in
theorem sb_154_98 {j : AJ} (hj : SJ j) : Sound kM_154 98 (mb_154_98 j) := by
  refine so_weak (sc_154_98 hj) (fun L S h r q0 => ?_)
  obtain ⟨c0, L0_, rfl, q1⟩ := w_C_some q0
  obtain ⟨i1, L1_, rfl, q2⟩ := w_I_some q1
  obtain ⟨i2, L2_, rfl, q3⟩ := w_I_some q2
  obtain ⟨i3, L3_, rfl, q4⟩ := w_I_some q3
  obtain ⟨i4, L4_, rfl, q5⟩ := w_I_some q4
  obtain ⟨rfl, q6⟩ := w_0_some q5
  obtain ⟨s0, S0_, rfl, q7⟩ := a_popI_some q6
  obtain ⟨rfl, q8⟩ := a_nil_some q7
  exact q8
set_option maxRecDepth 20000 in
theorem sc_154_97 {j : AJ} (hj : SJ j) : Sound kM_154 97 (mc_154_97 j) := by
  unfold mc_154_97
  exact so_iconst (i := 0) (by decide +kernel) (by decide +kernel) (by decide) (sb_154_98 hj)
set_option maxRecDepth 20000 in
theorem sb_154_97 {j : AJ} (hj : SJ j) : Sound kM_154 97 (mb_154_97 j) := by
  refine so_weak (sc_154_97 hj) (fun L S h r q0 => ?_)
  obtain ⟨c0, L0_, rfl, q1⟩ := w_C_some q0
  obtain ⟨i1, L1_, rfl, q2⟩ := w_I_some q1
  obtain ⟨i2, L2_, rfl, q3⟩ := w_I_some q2
  obtain ⟨i3, L3_, rfl, q4⟩ := w_I_some q3
  obtain ⟨i4, L4_, rfl, q5⟩ := w_I_some q4
  obtain ⟨rfl, q6⟩ := w_0_some q5
  obtain ⟨rfl, q7⟩ := a_nil_some q6
  exact q7
set_option maxRecDepth 20000 in
theorem sc_154_63 {j : AJ} (hj : SJ j) : Sound kM_154 63 (mc_154_63 j) := by
  unfold mc_154_63
  exact so_iload (by decide +kernel) (so_aload_n (f := 0) (by decide +kernel) rfl (so_get (C := RX9) (T := TX9) (N := 38) (by decide +kernel) rfl kin_9 (by decide) kw_452 (b := true) rfl (fun _ => rfl) (so_iload_n (f := 2) (by decide +kernel) rfl (so_iald (by decide +kernel) (so_icmp (off := 34) (tgt := 105) (by decide +kernel) (by decide) rfl (sb_154_105 hj) (so_iload_n (f := 3) (by decide +kernel) rfl (so_if (off := 22) (tgt := 97) (by decide +kernel) (by decide) rfl (sb_154_97 hj) (so_aload_n (f := 0) (by decide +kernel) rfl (so_aload_n (f := 0) (by decide +kernel) rfl (so_iload_n (f := 2) (by decide +kernel) rfl (so_iload (by decide +kernel) (so_weak (so_callV (C := RX9) (T := TX9) (N0 := 38) (by decide +kernel) kcf_149 rfl rfl rfl kw_486 kw_487 kw_488 (by decide +kernel) (sb_149_0 hj) (so_iload_n (f := 1) (by decide +kernel) rfl (so_weak (so_callV (C := RX9) (T := TX9) (N0 := 38) (by decide +kernel) kcf_148 rfl rfl rfl kw_496 kw_497 kw_498 (by decide +kernel) (sb_148_0 hj) (so_if (off := 7) (tgt := 97) (by decide +kernel) (by decide) rfl (sb_154_97 hj) (so_iconst (i := 1) (by decide +kernel) (by decide +kernel) (by decide) (so_goto (off := 4) (tgt := 98) (by decide +kernel) (by decide) (sb_154_98 hj))))) (callvE_imp BK_I)))) (callvE_imp BK_I)))))))))))))
set_option maxRecDepth 20000 in
theorem sb_154_63 {j : AJ} (hj : SJ j) : Sound kM_154 63 (mb_154_63 j) := by
  refine so_weak (sc_154_63 hj) (fun L S h r q0 => ?_)
  obtain ⟨c0, L0_, rfl, q1⟩ := w_C_some q0
  obtain ⟨i1, L1_, rfl, q2⟩ := w_I_some q1
  obtain ⟨i2, L2_, rfl, q3⟩ := w_I_some q2
  obtain ⟨i3, L3_, rfl, q4⟩ := w_I_some q3
  obtain ⟨i4, L4_, rfl, q5⟩ := w_I_some q4
  obtain ⟨rfl, q6⟩ := w_0_some q5
  obtain ⟨rfl, q7⟩ := a_nil_some q6
  exact q7
set_option maxRecDepth 20000 in
theorem sc_154_60 {j : AJ} (hj : SJ j) : Sound kM_154 60 (mc_154_60 j) := by
  unfold mc_154_60
  exact so_iconst (i := 0) (by decide +kernel) (by decide +kernel) (by decide) (so_istore (by decide +kernel) (by decide +kernel) (sb_154_63 hj))
set_option maxRecDepth 20000 in
theorem sb_154_60 {j : AJ} (hj : SJ j) : Sound kM_154 60 (mb_154_60 j) := by
  refine so_weak (sc_154_60 hj) (fun L S h r q0 => ?_)
  obtain ⟨c0, L0_, rfl, q1⟩ := w_C_some q0
  obtain ⟨i1, L1_, rfl, q2⟩ := w_I_some q1
  obtain ⟨i2, L2_, rfl, q3⟩ := w_I_some q2
  obtain ⟨i3, L3_, rfl, q4⟩ := w_I_some q3
  obtain ⟨i4, L4_, rfl, q5⟩ := w_I_some q4
  obtain ⟨rfl, q6⟩ := w_0_some q5
  obtain ⟨rfl, q7⟩ := a_nil_some q6
  exact q7
set_option maxRecDepth 20000 in
theorem sc_154_53 {j : AJ} (hj : SJ j) : Sound kM_154 53 (mc_154_53 j) := by
  unfold mc_154_53
  exact so_istore_n (f := 3) (by decide +kernel) rfl (by decide +kernel) (so_iinc (z := 1) (by decide +kernel) (by decide +kernel) (by decide) (by decide +kernel) (so_goto (off := -37) (tgt := 20) (by decide +kernel) (by decide) (hj 78 _ _ rfl)))
set_option maxRecDepth 20000 in
theorem sb_154_53 {j : AJ} (hj : SJ j) : Sound kM_154 53 (mb_154_53 j) := by
  refine so_weak (sc_154_53 hj) (fun L S h r q0 => ?_)
  obtain ⟨c0, L0_, rfl, q1⟩ := w_C_some q0
  obtain ⟨i1, L1_, rfl, q2⟩ := w_I_some q1
  obtain ⟨i2, L2_, rfl, q3⟩ := w_I_some q2
  obtain ⟨i3, L3_, rfl, q4⟩ := w_I_some q3
  obtain ⟨i4, L4_, rfl, q5⟩ := w_I_some q4
  obtain ⟨rfl, q6⟩ := w_0_some q5
  obtain ⟨s0, S0_, rfl, q7⟩ := a_popI_some q6
  obtain ⟨rfl, q8⟩ := a_nil_some q7
  exact q8
set_option maxRecDepth 20000 in
theorem sc_154_52 {j : AJ} (hj : SJ j) : Sound kM_154 52 (mc_154_52 j) := by
  unfold mc_154_52
  exact so_iconst (i := 0) (by decide +kernel) (by decide +kernel) (by decide) (sb_154_53 hj)
set_option maxRecDepth 20000 in
theorem sb_154_52 {j : AJ} (hj : SJ j) : Sound kM_154 52 (mb_154_52 j) := by
  refine so_weak (sc_154_52 hj) (fun L S h r q0 => ?_)
  obtain ⟨c0, L0_, rfl, q1⟩ := w_C_some q0
  obtain ⟨i1, L1_, rfl, q2⟩ := w_I_some q1
  obtain ⟨i2, L2_, rfl, q3⟩ := w_I_some q2
  obtain ⟨i3, L3_, rfl, q4⟩ := w_I_some q3
  obtain ⟨i4, L4_, rfl, q5⟩ := w_I_some q4
  obtain ⟨rfl, q6⟩ := w_0_some q5
  obtain ⟨rfl, q7⟩ := a_nil_some q6
  exact q7
set_option maxRecDepth 20000 in
theorem sc_154_20 {j : AJ} (hj : SJ j) : Sound kM_154 20 (mc_154_20 j) := by
  unfold mc_154_20
  exact so_iload (by decide +kernel) (so_aload_n (f := 0) (by decide +kernel) rfl (so_get (C := RX9) (T := TX9) (N := 38) (by decide +kernel) rfl kin_9 (by decide) kw_499 (b := false) rfl (fun _ => rfl) (so_icmp (off := 34) (tgt := 60) (by decide +kernel) (by decide) rfl (sb_154_60 hj) (so_iload_n (f := 3) (by decide +kernel) rfl (so_if (off := 22) (tgt := 52) (by decide +kernel) (by decide) rfl (sb_154_52 hj) (so_aload_n (f := 0) (by decide +kernel) rfl (so_iload_n (f := 2) (by decide +kernel) rfl (so_aload_n (f := 0) (by decide +kernel) rfl (so_get (C := RX9) (T := TX9) (N := 38) (by decide +kernel) rfl kin_9 (by decide) kw_460 (b := true) rfl (fun _ => rfl) (so_iload (by decide +kernel) (so_iald (by decide +kernel) (so_weak (so_callV (C := RX9) (T := TX9) (N0 := 38) (by decide +kernel) kcf_148 rfl rfl rfl kw_496 kw_497 kw_498 (by decide +kernel) (sb_148_0 hj) (so_if (off := 7) (tgt := 52) (by decide +kernel) (by decide) rfl (sb_154_52 hj) (so_iconst (i := 1) (by decide +kernel) (by decide +kernel) (by decide) (so_goto (off := 4) (tgt := 53) (by decide +kernel) (by decide) (sb_154_53 hj))))) (callvE_imp BK_I)))))))))))))
set_option maxRecDepth 20000 in
theorem sb_154_20 {j : AJ} (hj : SJ j) : Sound kM_154 20 (mb_154_20 j) := by
  refine so_weak (sc_154_20 hj) (fun L S h r q0 => ?_)
  obtain ⟨c0, L0_, rfl, q1⟩ := w_C_some q0
  obtain ⟨i1, L1_, rfl, q2⟩ := w_I_some q1
  obtain ⟨i2, L2_, rfl, q3⟩ := w_I_some q2
  obtain ⟨i3, L3_, rfl, q4⟩ := w_I_some q3
  obtain ⟨i4, L4_, rfl, q5⟩ := w_I_some q4
  obtain ⟨rfl, q6⟩ := w_0_some q5
  obtain ⟨rfl, q7⟩ := a_nil_some q6
  exact q7
set_option maxRecDepth 20000 in
theorem sc_154_7 {j : AJ} (hj : SJ j) : Sound kM_154 7 (mc_154_7 j) := by
  unfold mc_154_7
  exact so_iload_n (f := 2) (by decide +kernel) rfl (so_aload_n (f := 0) (by decide +kernel) rfl (so_get (C := RX9) (T := TX9) (N := 38) (by decide +kernel) rfl kin_9 (by decide) kw_500 (b := false) rfl (fun _ => rfl) (so_icmp (off := 215) (tgt := 227) (by decide +kernel) (by decide) rfl (sb_154_227 hj) (so_iconst (i := 1) (by decide +kernel) (by decide +kernel) (by decide) (so_istore_n (f := 3) (by decide +kernel) rfl (by decide +kernel) (so_iconst (i := 0) (by decide +kernel) (by decide +kernel) (by decide) (so_istore (by decide +kernel) (by decide +kernel) (sb_154_20 hj))))))))
set_option maxRecDepth 20000 in
theorem sb_154_7 {j : AJ} (hj : SJ j) : Sound kM_154 7 (mb_154_7 j) := by
  refine so_weak (sc_154_7 hj) (fun L S h r q0 => ?_)
  obtain ⟨c0, L0_, rfl, q1⟩ := w_C_some q0
  obtain ⟨i1, L1_, rfl, q2⟩ := w_I_some q1
  obtain ⟨i2, L2_, rfl, q3⟩ := w_I_some q2
  obtain ⟨x3, L3_, rfl, q4⟩ := w_X_some q3
  obtain ⟨x4, L4_, rfl, q5⟩ := w_X_some q4
  obtain ⟨rfl, q6⟩ := w_0_some q5
  obtain ⟨rfl, q7⟩ := a_nil_some q6
  exact q7
set_option maxRecDepth 20000 in
theorem sc_154_0 {j : AJ} (hj : SJ j) : Sound kM_154 0 (mc_154_0 j) := by
  unfold mc_154_0
  exact so_aload_n (f := 0) (by decide +kernel) rfl (so_get (C := RX9) (T := TX9) (N := 38) (by decide +kernel) rfl kin_9 (by decide) kw_500 (b := false) rfl (fun _ => rfl) (so_istore_n (f := 1) (by decide +kernel) rfl (by decide +kernel) (so_iconst (i := 0) (by decide +kernel) (by decide +kernel) (by decide) (so_istore_n (f := 2) (by decide +kernel) rfl (by decide +kernel) (sb_154_7 hj)))))
set_option maxRecDepth 20000 in
theorem sb_154_0 {j : AJ} (hj : SJ j) : Sound kM_154 0 (mb_154_0 j) := by
  refine so_weak (sc_154_0 hj) (fun L S h r q0 => ?_)
  obtain ⟨c0, L0_, rfl, q1⟩ := w_C_some q0
  obtain ⟨L1_, rfl, q2⟩ := w_N_some q1
  obtain ⟨L2_, rfl, q3⟩ := w_N_some q2
  obtain ⟨L3_, rfl, q4⟩ := w_N_some q3
  obtain ⟨L4_, rfl, q5⟩ := w_N_some q4
  obtain ⟨rfl, q6⟩ := w_0_some q5
  obtain ⟨rfl, q7⟩ := a_nil_some q6
  exact q7
set_option maxRecDepth 20000 in
theorem sc_155_152 {j : AJ} (hj : SJ j) : Sound kM_155 152 (mc_155_152 j) := by
  unfold mc_155_152
  exact so_iconst (i := 0) (by decide +kernel) (by decide +kernel) (by decide) (so_retz (by decide +kernel) rfl)
set_option maxRecDepth 20000 in
theorem sb_155_152 {j : AJ} (hj : SJ j) : Sound kM_155 152 (mb_155_152 j) := by
  refine so_weak (sc_155_152 hj) (fun L S h r q0 => ?_)
  obtain ⟨c0, L0_, rfl, q1⟩ := w_C_some q0
  obtain ⟨i1, L1_, rfl, q2⟩ := w_I_some q1
  obtain ⟨x2, L2_, rfl, q3⟩ := w_X_some q2
  obtain ⟨x3, L3_, rfl, q4⟩ := w_X_some q3
  obtain ⟨x4, L4_, rfl, q5⟩ := w_X_some q4
  obtain ⟨L5_, rfl, q6⟩ := w_N_some q5
  obtain ⟨rfl, q7⟩ := w_0_some q6
  obtain ⟨rfl, q8⟩ := a_nil_some q7
  exact q8
set_option maxRecDepth 20000 in
theorem sc_155_146 {j : AJ} (hj : SJ j) : Sound kM_155 146 (mc_155_146 j) := by
  unfold mc_155_146
  exact so_iinc (z := 1) (by decide +kernel) (by decide +kernel) (by decide) (by decide +kernel) (so_goto (off := -147) (tgt := 2) (by decide +kernel) (by decide) (hj 85 _ _ rfl))
set_option maxRecDepth 20000 in
theorem sb_155_146 {j : AJ} (hj : SJ j) : Sound kM_155 146 (mb_155_146 j) := by
  refine so_weak (sc_155_146 hj) (fun L S h r q0 => ?_)
  obtain ⟨c0, L0_, rfl, q1⟩ := w_C_some q0
  obtain ⟨i1, L1_, rfl, q2⟩ := w_I_some q1
  obtain ⟨i2, L2_, rfl, q3⟩ := w_I_some q2
  obtain ⟨i3, L3_, rfl, q4⟩ := w_I_some q3
  obtain ⟨x4, L4_, rfl, q5⟩ := w_X_some q4
  obtain ⟨L5_, rfl, q6⟩ := w_N_some q5
  obtain ⟨rfl, q7⟩ := w_0_some q6
  obtain ⟨rfl, q8⟩ := a_nil_some q7
  exact q8
set_option maxRecDepth 20000 in
theorem sc_155_140 {j : AJ} (hj : SJ j) : Sound kM_155 140 (mc_155_140 j) := by
  unfold mc_155_140
  exact so_iinc (z := 1) (by decide +kernel) (by decide +kernel) (by decide) (by decide +kernel) (so_goto (off := -124) (tgt := 19) (by decide +kernel) (by decide) (hj 84 _ _ rfl))
set_option maxRecDepth 20000 in
theorem sb_155_140 {j : AJ} (hj : SJ j) : Sound kM_155 140 (mb_155_140 j) := by
  refine so_weak (sc_155_140 hj) (fun L S h r q0 => ?_)
  obtain ⟨c0, L0_, rfl, q1⟩ := w_C_some q0
  obtain ⟨i1, L1_, rfl, q2⟩ := w_I_some q1
  obtain ⟨i2, L2_, rfl, q3⟩ := w_I_some q2
  obtain ⟨i3, L3_, rfl, q4⟩ := w_I_some q3
  obtain ⟨i4, L4_, rfl, q5⟩ := w_I_some q4
  obtain ⟨L5_, rfl, q6⟩ := w_N_some q5
  obtain ⟨rfl, q7⟩ := w_0_some q6
  obtain ⟨rfl, q8⟩ := a_nil_some q7
  exact q8
set_option maxRecDepth 20000 in
theorem sc_155_123 {j : AJ} (hj : SJ j) : Sound kM_155 123 (mc_155_123 j) := by
  unfold mc_155_123
  exact so_aload_n (f := 0) (by decide +kernel) rfl (so_aload_n (f := 0) (by decide +kernel) rfl (so_get (C := RX9) (T := TX9) (N := 38) (by decide +kernel) rfl kin_9 (by decide) kw_459 (b := true) rfl (fun _ => rfl) (so_aload_n (f := 0) (by decide +kernel) rfl (so_get (C := RX9) (T := TX9) (N := 38) (by decide +kernel) rfl kin_9 (by decide) kw_495 (b := false) rfl (fun _ => rfl) (so_weak (so_callS (by decide +kernel) kcf_152 rfl kw_501 kw_502 (by decide +kernel) (sb_152_0 hj) (so_putI (C := RX9) (T := TX9) (N := 38) (ty0 := tyX9) (by decide +kernel) rfl kin_9 tyX9_ok nmX9 (by decide) kw_495 rfl rfl rfl (so_iconst (i := 1) (by decide +kernel) (by decide +kernel) (by decide) (so_retz (by decide +kernel) rfl)))) (callE_imp BK_I))))))
set_option maxRecDepth 20000 in
theorem sb_155_123 {j : AJ} (hj : SJ j) : Sound kM_155 123 (mb_155_123 j) := by
  refine so_weak (sc_155_123 hj) (fun L S h r q0 => ?_)
  obtain ⟨c0, L0_, rfl, q1⟩ := w_C_some q0
  obtain ⟨i1, L1_, rfl, q2⟩ := w_I_some q1
  obtain ⟨i2, L2_, rfl, q3⟩ := w_I_some q2
  obtain ⟨i3, L3_, rfl, q4⟩ := w_I_some q3
  obtain ⟨i4, L4_, rfl, q5⟩ := w_I_some q4
  obtain ⟨i5, L5_, rfl, q6⟩ := w_I_some q5
  obtain ⟨rfl, q7⟩ := w_0_some q6
  obtain ⟨rfl, q8⟩ := a_nil_some q7
  exact q8
set_option maxRecDepth 20000 in
theorem sc_155_78 {j : AJ} (hj : SJ j) : Sound kM_155 78 (mc_155_78 j) := by
  unfold mc_155_78
  exact so_iload (by decide +kernel) (so_aload_n (f := 0) (by decide +kernel) rfl (so_get (C := RX9) (T := TX9) (N := 38) (by decide +kernel) rfl kin_9 (by decide) kw_452 (b := true) rfl (fun _ => rfl) (so_iload (by decide +kernel) (so_iald (by decide +kernel) (so_icmp (off := 36) (tgt := 123) (by decide +kernel) (by decide) rfl (sb_155_123 hj) (so_aload_n (f := 0) (by decide +kernel) rfl (so_get (C := RX9) (T := TX9) (N := 38) (by decide +kernel) rfl kin_9 (by decide) kw_459 (b := true) rfl (fun _ => rfl) (so_aload_n (f := 0) (by decide +kernel) rfl (so_get (C := RX9) (T := TX9) (N := 38) (by decide +kernel) rfl kin_9 (by decide) kw_495 (b := false) rfl (fun _ => rfl) (so_aload_n (f := 0) (by decide +kernel) rfl (so_iload (by decide +kernel) (so_iload (by decide +kernel) (so_weak (so_callV (C := RX9) (T := TX9) (N0 := 38) (by decide +kernel) kcf_149 rfl rfl rfl kw_486 kw_487 kw_488 (by decide +kernel) (sb_149_0 hj) (so_iast (by decide +kernel) (so_aload_n (f := 0) (by decide +kernel) rfl (so_dup (by decide +kernel) (so_get (C := RX9) (T := TX9) (N := 38) (by decide +kernel) rfl kin_9 (by decide) kw_495 (b := false) rfl (fun _ => rfl) (so_iconst (i := 1) (by decide +kernel) (by decide +kernel) (by decide) (so_iadd (by decide +kernel) (so_putI (C := RX9) (T := TX9) (N := 38) (ty0 := tyX9) (by decide +kernel) rfl kin_9 tyX9_ok nmX9 (by decide) kw_495 rfl rfl rfl (so_iinc (z := 1) (by decide +kernel) (by decide +kernel) (by decide) (by decide +kernel) (so_goto (off := -42) (tgt := 78) (by decide +kernel) (by decide) (hj 83 _ _ rfl))))))))))) (callvE_imp BK_I))))))))))))))
set_option maxRecDepth 20000 in
theorem sb_155_78 {j : AJ} (hj : SJ j) : Sound kM_155 78 (mb_155_78 j) := by
  refine so_weak (sc_155_78 hj) (fun L S h r q0 => ?_)
  obtain ⟨c0, L0_, rfl, q1⟩ := w_C_some q0
  obtain ⟨i1, L1_, rfl, q2⟩ := w_I_some q1
  obtain ⟨i2, L2_, rfl, q3⟩ := w_I_some q2
  obtain ⟨i3, L3_, rfl, q4⟩ := w_I_some q3
  obtain ⟨i4, L4_, rfl, q5⟩ := w_I_some q4
  obtain ⟨i5, L5_, rfl, q6⟩ := w_I_some q5
  obtain ⟨rfl, q7⟩ := w_0_some q6
  obtain ⟨rfl, q8⟩ := a_nil_some q7
  exact q8
set_option maxRecDepth 20000 in
theorem sc_155_19 {j : AJ} (hj : SJ j) : Sound kM_155 19 (mc_155_19 j) := by
  unfold mc_155_19
  exact so_iload_n (f := 3) (by decide +kernel) rfl (so_aload_n (f := 0) (by decide +kernel) rfl (so_get (C := RX9) (T := TX9) (N := 38) (by decide +kernel) rfl kin_9 (by decide) kw_454 (b := true) rfl (fun _ => rfl) (so_iload_n (f := 2) (by decide +kernel) rfl (so_iald (by decide +kernel) (so_icmp (off := 120) (tgt := 146) (by decide +kernel) (by decide) rfl (sb_155_146 hj) (so_aload_n (f := 0) (by decide +kernel) rfl (so_iload_n (f := 2) (by decide +kernel) rfl (so_iload_n (f := 3) (by decide +kernel) rfl (so_weak (so_callV (C := RX9) (T := TX9) (N0 := 38) (by decide +kernel) kcf_150 rfl rfl rfl kw_489 kw_490 kw_491 (by decide +kernel) (sb_150_0 hj) (so_istore (by decide +kernel) (by decide +kernel) (so_aload_n (f := 0) (by decide +kernel) rfl (so_aload_n (f := 0) (by decide +kernel) rfl (so_get (C := RX9) (T := TX9) (N := 38) (by decide +kernel) rfl kin_9 (by decide) kw_500 (b := false) rfl (fun _ => rfl) (so_iload (by decide +kernel) (so_weak (so_callV (C := RX9) (T := TX9) (N0 := 38) (by decide +kernel) kcf_148 rfl rfl rfl kw_496 kw_497 kw_498 (by decide +kernel) (sb_148_0 hj) (so_if (off := 93) (tgt := 140) (by decide +kernel) (by decide) rfl (sb_155_140 hj) (so_aload_n (f := 0) (by decide +kernel) rfl (so_dup (by decide +kernel) (so_get (C := RX9) (T := TX9) (N := 38) (by decide +kernel) rfl kin_9 (by decide) kw_495 (b := false) rfl (fun _ => rfl) (so_iconst (i := 1) (by decide +kernel) (by decide +kernel) (by decide) (so_isub (by decide +kernel) (so_putI (C := RX9) (T := TX9) (N := 38) (ty0 := tyX9) (by decide +kernel) rfl kin_9 tyX9_ok nmX9 (by decide) kw_495 rfl rfl rfl (so_aload_n (f := 0) (by decide +kernel) rfl (so_get (C := RX9) (T := TX9) (N := 38) (by decide +kernel) rfl kin_9 (by decide) kw_459 (b := true) rfl (fun _ => rfl) (so_iload_n (f := 1) (by decide +kernel) rfl (so_aload_n (f := 0) (by decide +kernel) rfl (so_get (C := RX9) (T := TX9) (N := 38) (by decide +kernel) rfl kin_9 (by decide) kw_459 (b := true) rfl (fun _ => rfl) (so_aload_n (f := 0) (by decide +kernel) rfl (so_get (C := RX9) (T := TX9) (N := 38) (by decide +kernel) rfl kin_9 (by decide) kw_495 (b := false) rfl (fun _ => rfl) (so_iald (by decide +kernel) (so_iast (by decide +kernel) (so_iconst (i := 0) (by decide +kernel) (by decide +kernel) (by decide) (so_istore (by decide +kernel) (by decide +kernel) (sb_155_78 hj)))))))))))))))))))) (callvE_imp BK_I)))))))) (callvE_imp BK_I))))))))))
set_option maxRecDepth 20000 in
theorem sb_155_19 {j : AJ} (hj : SJ j) : Sound kM_155 19 (mb_155_19 j) := by
  refine so_weak (sc_155_19 hj) (fun L S h r q0 => ?_)
  obtain ⟨c0, L0_, rfl, q1⟩ := w_C_some q0
  obtain ⟨i1, L1_, rfl, q2⟩ := w_I_some q1
  obtain ⟨i2, L2_, rfl, q3⟩ := w_I_some q2
  obtain ⟨i3, L3_, rfl, q4⟩ := w_I_some q3
  obtain ⟨x4, L4_, rfl, q5⟩ := w_X_some q4
  obtain ⟨L5_, rfl, q6⟩ := w_N_some q5
  obtain ⟨rfl, q7⟩ := w_0_some q6
  obtain ⟨rfl, q8⟩ := a_nil_some q7
  exact q8
set_option maxRecDepth 20000 in
theorem sc_155_2 {j : AJ} (hj : SJ j) : Sound kM_155 2 (mc_155_2 j) := by
  unfold mc_155_2
  exact so_iload_n (f := 1) (by decide +kernel) rfl (so_aload_n (f := 0) (by decide +kernel) rfl (so_get (C := RX9) (T := TX9) (N := 38) (by decide +kernel) rfl kin_9 (by decide) kw_495 (b := false) rfl (fun _ => rfl) (so_icmp (off := 145) (tgt := 152) (by decide +kernel) (by decide) rfl (sb_155_152 hj) (so_aload_n (f := 0) (by decide +kernel) rfl (so_get (C := RX9) (T := TX9) (N := 38) (by decide +kernel) rfl kin_9 (by decide) kw_459 (b := true) rfl (fun _ => rfl) (so_iload_n (f := 1) (by decide +kernel) rfl (so_iald (by decide +kernel) (so_istore_n (f := 2) (by decide +kernel) rfl (by decide +kernel) (so_iconst (i := 0) (by decide +kernel) (by decide +kernel) (by decide) (so_istore_n (f := 3) (by decide +kernel) rfl (by decide +kernel) (sb_155_19 hj)))))))))))
set_option maxRecDepth 20000 in
theorem sb_155_2 {j : AJ} (hj : SJ j) : Sound kM_155 2 (mb_155_2 j) := by
  refine so_weak (sc_155_2 hj) (fun L S h r q0 => ?_)
  obtain ⟨c0, L0_, rfl, q1⟩ := w_C_some q0
  obtain ⟨i1, L1_, rfl, q2⟩ := w_I_some q1
  obtain ⟨x2, L2_, rfl, q3⟩ := w_X_some q2
  obtain ⟨x3, L3_, rfl, q4⟩ := w_X_some q3
  obtain ⟨x4, L4_, rfl, q5⟩ := w_X_some q4
  obtain ⟨L5_, rfl, q6⟩ := w_N_some q5
  obtain ⟨rfl, q7⟩ := w_0_some q6
  obtain ⟨rfl, q8⟩ := a_nil_some q7
  exact q8
set_option maxRecDepth 20000 in
theorem sc_155_0 {j : AJ} (hj : SJ j) : Sound kM_155 0 (mc_155_0 j) := by
  unfold mc_155_0
  exact so_iconst (i := 0) (by decide +kernel) (by decide +kernel) (by decide) (so_istore_n (f := 1) (by decide +kernel) rfl (by decide +kernel) (sb_155_2 hj))
set_option maxRecDepth 20000 in
theorem sb_155_0 {j : AJ} (hj : SJ j) : Sound kM_155 0 (mb_155_0 j) := by
  refine so_weak (sc_155_0 hj) (fun L S h r q0 => ?_)
  obtain ⟨c0, L0_, rfl, q1⟩ := w_C_some q0
  obtain ⟨L1_, rfl, q2⟩ := w_N_some q1
  obtain ⟨L2_, rfl, q3⟩ := w_N_some q2
  obtain ⟨L3_, rfl, q4⟩ := w_N_some q3
  obtain ⟨L4_, rfl, q5⟩ := w_N_some q4
  obtain ⟨L5_, rfl, q6⟩ := w_N_some q5
  obtain ⟨rfl, q7⟩ := w_0_some q6
  obtain ⟨rfl, q8⟩ := a_nil_some q7
  exact q8
set_option maxRecDepth 20000 in
theorem sc_156_152 {j : AJ} (hj : SJ j) : Sound kM_156 152 (mc_156_152 j) := by
  unfold mc_156_152
  exact so_iconst (i := 0) (by decide +kernel) (by decide +kernel) (by decide) (so_retz (by decide +kernel) rfl)
set_option maxRecDepth 20000 in
theorem sb_156_152 {j : AJ} (hj : SJ j) : Sound kM_156 152 (mb_156_152 j) := by
  refine so_weak (sc_156_152 hj) (fun L S h r q0 => ?_)
  obtain ⟨c0, L0_, rfl, q1⟩ := w_C_some q0
  obtain ⟨i1, L1_, rfl, q2⟩ := w_I_some q1
  obtain ⟨x2, L2_, rfl, q3⟩ := w_X_some q2
  obtain ⟨x3, L3_, rfl, q4⟩ := w_X_some q3
  obtain ⟨x4, L4_, rfl, q5⟩ := w_X_some q4
  obtain ⟨L5_, rfl, q6⟩ := w_N_some q5
  obtain ⟨rfl, q7⟩ := w_0_some q6
  obtain ⟨rfl, q8⟩ := a_nil_some q7
  exact q8
set_option maxRecDepth 20000 in
theorem sc_156_146 {j : AJ} (hj : SJ j) : Sound kM_156 146 (mc_156_146 j) := by
  unfold mc_156_146
  exact so_iinc (z := 1) (by decide +kernel) (by decide +kernel) (by decide) (by decide +kernel) (so_goto (off := -147) (tgt := 2) (by decide +kernel) (by decide) (hj 88 _ _ rfl))
set_option maxRecDepth 20000 in
theorem sb_156_146 {j : AJ} (hj : SJ j) : Sound kM_156 146 (mb_156_146 j) := by
  refine so_weak (sc_156_146 hj) (fun L S h r q0 => ?_)
  obtain ⟨c0, L0_, rfl, q1⟩ := w_C_some q0
  obtain ⟨i1, L1_, rfl, q2⟩ := w_I_some q1
  obtain ⟨i2, L2_, rfl, q3⟩ := w_I_some q2
  obtain ⟨i3, L3_, rfl, q4⟩ := w_I_some q3
  obtain ⟨x4, L4_, rfl, q5⟩ := w_X_some q4
  obtain ⟨L5_, rfl, q6⟩ := w_N_some q5
  obtain ⟨rfl, q7⟩ := w_0_some q6
  obtain ⟨rfl, q8⟩ := a_nil_some q7
  exact q8
set_option maxRecDepth 20000 in
theorem sc_156_140 {j : AJ} (hj : SJ j) : Sound kM_156 140 (mc_156_140 j) := by
  unfold mc_156_140
  exact so_iinc (z := 1) (by decide +kernel) (by decide +kernel) (by decide) (by decide +kernel) (so_goto (off := -124) (tgt := 19) (by decide +kernel) (by decide) (hj 87 _ _ rfl))
set_option maxRecDepth 20000 in
theorem sb_156_140 {j : AJ} (hj : SJ j) : Sound kM_156 140 (mb_156_140 j) := by
  refine so_weak (sc_156_140 hj) (fun L S h r q0 => ?_)
  obtain ⟨c0, L0_, rfl, q1⟩ := w_C_some q0
  obtain ⟨i1, L1_, rfl, q2⟩ := w_I_some q1
  obtain ⟨i2, L2_, rfl, q3⟩ := w_I_some q2
  obtain ⟨i3, L3_, rfl, q4⟩ := w_I_some q3
  obtain ⟨i4, L4_, rfl, q5⟩ := w_I_some q4
  obtain ⟨L5_, rfl, q6⟩ := w_N_some q5
  obtain ⟨rfl, q7⟩ := w_0_some q6
  obtain ⟨rfl, q8⟩ := a_nil_some q7
  exact q8
set_option maxRecDepth 20000 in
theorem sc_156_123 {j : AJ} (hj : SJ j) : Sound kM_156 123 (mc_156_123 j) := by
  unfold mc_156_123
  exact so_aload_n (f := 0) (by decide +kernel) rfl (so_aload_n (f := 0) (by decide +kernel) rfl (so_get (C := RX9) (T := TX9) (N := 38) (by decide +kernel) rfl kin_9 (by decide) kw_460 (b := true) rfl (fun _ => rfl) (so_aload_n (f := 0) (by decide +kernel) rfl (so_get (C := RX9) (T := TX9) (N := 38) (by decide +kernel) rfl kin_9 (by decide) kw_499 (b := false) rfl (fun _ => rfl) (so_weak (so_callS (by decide +kernel) kcf_152 rfl kw_501 kw_502 (by decide +kernel) (sb_152_0 hj) (so_putI (C := RX9) (T := TX9) (N := 38) (ty0 := tyX9) (by decide +kernel) rfl kin_9 tyX9_ok nmX9 (by decide) kw_499 rfl rfl rfl (so_iconst (i := 1) (by decide +kernel) (by decide +kernel) (by decide) (so_retz (by decide +kernel) rfl)))) (callE_imp BK_I))))))
set_option maxRecDepth 20000 in
theorem sb_156_123 {j : AJ} (hj : SJ j) : Sound kM_156 123 (mb_156_123 j) := by
  refine so_weak (sc_156_123 hj) (fun L S h r q0 => ?_)
  obtain ⟨c0, L0_, rfl, q1⟩ := w_C_some q0
  obtain ⟨i1, L1_, rfl, q2⟩ := w_I_some q1
  obtain ⟨i2, L2_, rfl, q3⟩ := w_I_some q2
  obtain ⟨i3, L3_, rfl, q4⟩ := w_I_some q3
  obtain ⟨i4, L4_, rfl, q5⟩ := w_I_some q4
  obtain ⟨i5, L5_, rfl, q6⟩ := w_I_some q5
  obtain ⟨rfl, q7⟩ := w_0_some q6
  obtain ⟨rfl, q8⟩ := a_nil_some q7
  exact q8
set_option maxRecDepth 20000 in
theorem sc_156_78 {j : AJ} (hj : SJ j) : Sound kM_156 78 (mc_156_78 j) := by
  unfold mc_156_78
  exact so_iload (by decide +kernel) (so_aload_n (f := 0) (by decide +kernel) rfl (so_get (C := RX9) (T := TX9) (N := 38) (by decide +kernel) rfl kin_9 (by decide) kw_454 (b := true) rfl (fun _ => rfl) (so_iload (by decide +kernel) (so_iald (by decide +kernel) (so_icmp (off := 36) (tgt := 123) (by decide +kernel) (by decide) rfl (sb_156_123 hj) (so_aload_n (f := 0) (by decide +kernel) rfl (so_get (C := RX9) (T := TX9) (N := 38) (by decide +kernel) rfl kin_9 (by decide) kw_460 (b := true) rfl (fun _ => rfl) (so_aload_n (f := 0) (by decide +kernel) rfl (so_get (C := RX9) (T := TX9) (N := 38) (by decide +kernel) rfl kin_9 (by decide) kw_499 (b := false) rfl (fun _ => rfl) (so_aload_n (f := 0) (by decide +kernel) rfl (so_iload (by decide +kernel) (so_iload (by decide +kernel) (so_weak (so_callV (C := RX9) (T := TX9) (N0 := 38) (by decide +kernel) kcf_150 rfl rfl rfl kw_489 kw_490 kw_491 (by decide +kernel) (sb_150_0 hj) (so_iast (by decide +kernel) (so_aload_n (f := 0) (by decide +kernel) rfl (so_dup (by decide +kernel) (so_get (C := RX9) (T := TX9) (N := 38) (by decide +kernel) rfl kin_9 (by decide) kw_499 (b := false) rfl (fun _ => rfl) (so_iconst (i := 1) (by decide +kernel) (by decide +kernel) (by decide) (so_iadd (by decide +kernel) (so_putI (C := RX9) (T := TX9) (N := 38) (ty0 := tyX9) (by decide +kernel) rfl kin_9 tyX9_ok nmX9 (by decide) kw_499 rfl rfl rfl (so_iinc (z := 1) (by decide +kernel) (by decide +kernel) (by decide) (by decide +kernel) (so_goto (off := -42) (tgt := 78) (by decide +kernel) (by decide) (hj 86 _ _ rfl))))))))))) (callvE_imp BK_I))))))))))))))
set_option maxRecDepth 20000 in
theorem sb_156_78 {j : AJ} (hj : SJ j) : Sound kM_156 78 (mb_156_78 j) := by
  refine so_weak (sc_156_78 hj) (fun L S h r q0 => ?_)
  obtain ⟨c0, L0_, rfl, q1⟩ := w_C_some q0
  obtain ⟨i1, L1_, rfl, q2⟩ := w_I_some q1
  obtain ⟨i2, L2_, rfl, q3⟩ := w_I_some q2
  obtain ⟨i3, L3_, rfl, q4⟩ := w_I_some q3
  obtain ⟨i4, L4_, rfl, q5⟩ := w_I_some q4
  obtain ⟨i5, L5_, rfl, q6⟩ := w_I_some q5
  obtain ⟨rfl, q7⟩ := w_0_some q6
  obtain ⟨rfl, q8⟩ := a_nil_some q7
  exact q8
set_option maxRecDepth 20000 in
theorem sc_156_19 {j : AJ} (hj : SJ j) : Sound kM_156 19 (mc_156_19 j) := by
  unfold mc_156_19
  exact so_iload_n (f := 3) (by decide +kernel) rfl (so_aload_n (f := 0) (by decide +kernel) rfl (so_get (C := RX9) (T := TX9) (N := 38) (by decide +kernel) rfl kin_9 (by decide) kw_452 (b := true) rfl (fun _ => rfl) (so_iload_n (f := 2) (by decide +kernel) rfl (so_iald (by decide +kernel) (so_icmp (off := 120) (tgt := 146) (by decide +kernel) (by decide) rfl (sb_156_146 hj) (so_aload_n (f := 0) (by decide +kernel) rfl (so_iload_n (f := 2) (by decide +kernel) rfl (so_iload_n (f := 3) (by decide +kernel) rfl (so_weak (so_callV (C := RX9) (T := TX9) (N0 := 38) (by decide +kernel) kcf_149 rfl rfl rfl kw_486 kw_487 kw_488 (by decide +kernel) (sb_149_0 hj) (so_istore (by decide +kernel) (by decide +kernel) (so_aload_n (f := 0) (by decide +kernel) rfl (so_iload (by decide +kernel) (so_aload_n (f := 0) (by decide +kernel) rfl (so_get (C := RX9) (T := TX9) (N := 38) (by decide +kernel) rfl kin_9 (by decide) kw_500 (b := false) rfl (fun _ => rfl) (so_weak (so_callV (C := RX9) (T := TX9) (N0 := 38) (by decide +kernel) kcf_148 rfl rfl rfl kw_496 kw_497 kw_498 (by decide +kernel) (sb_148_0 hj) (so_if (off := 93) (tgt := 140) (by decide +kernel) (by decide) rfl (sb_156_140 hj) (so_aload_n (f := 0) (by decide +kernel) rfl (so_dup (by decide +kernel) (so_get (C := RX9) (T := TX9) (N := 38) (by decide +kernel) rfl kin_9 (by decide) kw_499 (b := false) rfl (fun _ => rfl) (so_iconst (i := 1) (by decide +kernel) (by decide +kernel) (by decide) (so_isub (by decide +kernel) (so_putI (C := RX9) (T := TX9) (N := 38) (ty0 := tyX9) (by decide +kernel) rfl kin_9 tyX9_ok nmX9 (by decide) kw_499 rfl rfl rfl (so_aload_n (f := 0) (by decide +kernel) rfl (so_get (C := RX9) (T := TX9) (N := 38) (by decide +kernel) rfl kin_9 (by decide) kw_460 (b := true) rfl (fun _ => rfl) (so_iload_n (f := 1) (by decide +kernel) rfl (so_aload_n (f := 0) (by decide +kernel) rfl (so_get (C := RX9) (T := TX9) (N := 38) (by decide +kernel) rfl kin_9 (by decide) kw_460 (b := true) rfl (fun _ => rfl) (so_aload_n (f := 0) (by decide +kernel) rfl (so_get (C := RX9) (T := TX9) (N := 38) (by decide +kernel) rfl kin_9 (by decide) kw_499 (b := false) rfl (fun _ => rfl) (so_iald (by decide +kernel) (so_iast (by decide +kernel) (so_iconst (i := 0) (by decide +kernel) (by decide +kernel) (by decide) (so_istore (by decide +kernel) (by decide +kernel) (sb_156_78 hj)))))))))))))))))))) (callvE_imp BK_I)))))))) (callvE_imp BK_I))))))))))
set_option maxRecDepth 20000 in
theorem sb_156_19 {j : AJ} (hj : SJ j) : Sound kM_156 19 (mb_156_19 j) := by
  refine so_weak (sc_156_19 hj) (fun L S h r q0 => ?_)
  obtain ⟨c0, L0_, rfl, q1⟩ := w_C_some q0
  obtain ⟨i1, L1_, rfl, q2⟩ := w_I_some q1
  obtain ⟨i2, L2_, rfl, q3⟩ := w_I_some q2
  obtain ⟨i3, L3_, rfl, q4⟩ := w_I_some q3
  obtain ⟨x4, L4_, rfl, q5⟩ := w_X_some q4
  obtain ⟨L5_, rfl, q6⟩ := w_N_some q5
  obtain ⟨rfl, q7⟩ := w_0_some q6
  obtain ⟨rfl, q8⟩ := a_nil_some q7
  exact q8
set_option maxRecDepth 20000 in
theorem sc_156_2 {j : AJ} (hj : SJ j) : Sound kM_156 2 (mc_156_2 j) := by
  unfold mc_156_2
  exact so_iload_n (f := 1) (by decide +kernel) rfl (so_aload_n (f := 0) (by decide +kernel) rfl (so_get (C := RX9) (T := TX9) (N := 38) (by decide +kernel) rfl kin_9 (by decide) kw_499 (b := false) rfl (fun _ => rfl) (so_icmp (off := 145) (tgt := 152) (by decide +kernel) (by decide) rfl (sb_156_152 hj) (so_aload_n (f := 0) (by decide +kernel) rfl (so_get (C := RX9) (T := TX9) (N := 38) (by decide +kernel) rfl kin_9 (by decide) kw_460 (b := true) rfl (fun _ => rfl) (so_iload_n (f := 1) (by decide +kernel) rfl (so_iald (by decide +kernel) (so_istore_n (f := 2) (by decide +kernel) rfl (by decide +kernel) (so_iconst (i := 0) (by decide +kernel) (by decide +kernel) (by decide) (so_istore_n (f := 3) (by decide +kernel) rfl (by decide +kernel) (sb_156_19 hj)))))))))))
set_option maxRecDepth 20000 in
theorem sb_156_2 {j : AJ} (hj : SJ j) : Sound kM_156 2 (mb_156_2 j) := by
  refine so_weak (sc_156_2 hj) (fun L S h r q0 => ?_)
  obtain ⟨c0, L0_, rfl, q1⟩ := w_C_some q0
  obtain ⟨i1, L1_, rfl, q2⟩ := w_I_some q1
  obtain ⟨x2, L2_, rfl, q3⟩ := w_X_some q2
  obtain ⟨x3, L3_, rfl, q4⟩ := w_X_some q3
  obtain ⟨x4, L4_, rfl, q5⟩ := w_X_some q4
  obtain ⟨L5_, rfl, q6⟩ := w_N_some q5
  obtain ⟨rfl, q7⟩ := w_0_some q6
  obtain ⟨rfl, q8⟩ := a_nil_some q7
  exact q8
set_option maxRecDepth 20000 in
theorem sc_156_0 {j : AJ} (hj : SJ j) : Sound kM_156 0 (mc_156_0 j) := by
  unfold mc_156_0
  exact so_iconst (i := 0) (by decide +kernel) (by decide +kernel) (by decide) (so_istore_n (f := 1) (by decide +kernel) rfl (by decide +kernel) (sb_156_2 hj))
set_option maxRecDepth 20000 in
theorem sb_156_0 {j : AJ} (hj : SJ j) : Sound kM_156 0 (mb_156_0 j) := by
  refine so_weak (sc_156_0 hj) (fun L S h r q0 => ?_)
  obtain ⟨c0, L0_, rfl, q1⟩ := w_C_some q0
  obtain ⟨L1_, rfl, q2⟩ := w_N_some q1
  obtain ⟨L2_, rfl, q3⟩ := w_N_some q2
  obtain ⟨L3_, rfl, q4⟩ := w_N_some q3
  obtain ⟨L4_, rfl, q5⟩ := w_N_some q4
  obtain ⟨L5_, rfl, q6⟩ := w_N_some q5
  obtain ⟨rfl, q7⟩ := w_0_some q6
  obtain ⟨rfl, q8⟩ := a_nil_some q7
  exact q8
set_option maxRecDepth 20000 in
theorem sc_157_251 {j : AJ} (hj : SJ j) : Sound kM_157 251 (mc_157_251 j) := by
  unfold mc_157_251
  exact so_aload_n (f := 0) (by decide +kernel) rfl (so_iload_n (f := 1) (by decide +kernel) rfl (so_putI (C := RX9) (T := TX9) (N := 38) (ty0 := tyX9) (by decide +kernel) rfl kin_9 tyX9_ok nmX9 (by decide) kw_499 rfl rfl rfl (so_retv (by decide +kernel) rfl)))
set_option maxRecDepth 20000 in
theorem sb_157_251 {j : AJ} (hj : SJ j) : Sound kM_157 251 (mb_157_251 j) := by
  refine so_weak (sc_157_251 hj) (fun L S h r q0 => ?_)
  obtain ⟨c0, L0_, rfl, q1⟩ := w_C_some q0
  obtain ⟨i1, L1_, rfl, q2⟩ := w_I_some q1
  obtain ⟨i2, L2_, rfl, q3⟩ := w_I_some q2
  obtain ⟨x3, L3_, rfl, q4⟩ := w_X_some q3
  obtain ⟨x4, L4_, rfl, q5⟩ := w_X_some q4
  obtain ⟨rfl, q6⟩ := w_0_some q5
  obtain ⟨rfl, q7⟩ := a_nil_some q6
  exact q7
set_option maxRecDepth 20000 in
theorem sc_157_228 {j : AJ} (hj : SJ j) : Sound kM_157 228 (mc_157_228 j) := by
  unfold mc_157_228
  exact so_iload_n (f := 2) (by decide +kernel) rfl (so_iload_n (f := 1) (by decide +kernel) rfl (so_icmp (off := 21) (tgt := 251) (by decide +kernel) (by decide) rfl (sb_157_251 hj) (so_aload_n (f := 0) (by decide +kernel) rfl (so_get (C := RX9) (T := TX9) (N := 38) (by decide +kernel) rfl kin_9 (by decide) kw_460 (b := true) rfl (fun _ => rfl) (so_iload_n (f := 2) (by decide +kernel) rfl (so_aload_n (f := 0) (by decide +kernel) rfl (so_get (C := RX9) (T := TX9) (N := 38) (by decide +kernel) rfl kin_9 (by decide) kw_462 (b := true) rfl (fun _ => rfl) (so_iload_n (f := 2) (by decide +kernel) rfl (so_iald (by decide +kernel) (so_iast (by decide +kernel) (so_iinc (z := 1) (by decide +kernel) (by decide +kernel) (by decide) (by decide +kernel) (so_goto (off := -20) (tgt := 228) (by decide +kernel) (by decide) (hj 94 _ _ rfl)))))))))))))
set_option maxRecDepth 20000 in
theorem sb_157_228 {j : AJ} (hj : SJ j) : Sound kM_157 228 (mb_157_228 j) := by
  refine so_weak (sc_157_228 hj) (fun L S h r q0 => ?_)
  obtain ⟨c0, L0_, rfl, q1⟩ := w_C_some q0
  obtain ⟨i1, L1_, rfl, q2⟩ := w_I_some q1
  obtain ⟨i2, L2_, rfl, q3⟩ := w_I_some q2
  obtain ⟨x3, L3_, rfl, q4⟩ := w_X_some q3
  obtain ⟨x4, L4_, rfl, q5⟩ := w_X_some q4
  obtain ⟨rfl, q6⟩ := w_0_some q5
  obtain ⟨rfl, q7⟩ := a_nil_some q6
  exact q7
set_option maxRecDepth 20000 in
theorem sc_157_226 {j : AJ} (hj : SJ j) : Sound kM_157 226 (mc_157_226 j) := by
  unfold mc_157_226
  exact so_iconst (i := 0) (by decide +kernel) (by decide +kernel) (by decide) (so_istore_n (f := 2) (by decide +kernel) rfl (by decide +kernel) (sb_157_228 hj))
set_option maxRecDepth 20000 in
theorem sb_157_226 {j : AJ} (hj : SJ j) : Sound kM_157 226 (mb_157_226 j) := by
  refine so_weak (sc_157_226 hj) (fun L S h r q0 => ?_)
  obtain ⟨c0, L0_, rfl, q1⟩ := w_C_some q0
  obtain ⟨i1, L1_, rfl, q2⟩ := w_I_some q1
  obtain ⟨i2, L2_, rfl, q3⟩ := w_I_some q2
  obtain ⟨x3, L3_, rfl, q4⟩ := w_X_some q3
  obtain ⟨x4, L4_, rfl, q5⟩ := w_X_some q4
  obtain ⟨rfl, q6⟩ := w_0_some q5
  obtain ⟨rfl, q7⟩ := a_nil_some q6
  exact q7
set_option maxRecDepth 20000 in
theorem sc_157_218 {j : AJ} (hj : SJ j) : Sound kM_157 218 (mc_157_218 j) := by
  unfold mc_157_218
  exact so_iadd (by decide +kernel) (so_istore_n (f := 1) (by decide +kernel) rfl (by decide +kernel) (so_iinc (z := 1) (by decide +kernel) (by decide +kernel) (by decide) (by decide +kernel) (so_goto (off := -91) (tgt := 132) (by decide +kernel) (by decide) (hj 93 _ _ rfl))))
set_option maxRecDepth 20000 in
theorem sb_157_218 {j : AJ} (hj : SJ j) : Sound kM_157 218 (mb_157_218 j) := by
  refine so_weak (sc_157_218 hj) (fun L S h r q0 => ?_)
  obtain ⟨c0, L0_, rfl, q1⟩ := w_C_some q0
  obtain ⟨i1, L1_, rfl, q2⟩ := w_I_some q1
  obtain ⟨i2, L2_, rfl, q3⟩ := w_I_some q2
  obtain ⟨i3, L3_, rfl, q4⟩ := w_I_some q3
  obtain ⟨i4, L4_, rfl, q5⟩ := w_I_some q4
  obtain ⟨rfl, q6⟩ := w_0_some q5
  obtain ⟨s1, S1_, rfl, q7⟩ := a_popI_some q6
  obtain ⟨s0, S0_, rfl, q8⟩ := a_popI_some q7
  obtain ⟨rfl, q9⟩ := a_nil_some q8
  exact q9
set_option maxRecDepth 20000 in
theorem sc_157_217 {j : AJ} (hj : SJ j) : Sound kM_157 217 (mc_157_217 j) := by
  unfold mc_157_217
  exact so_iconst (i := 1) (by decide +kernel) (by decide +kernel) (by decide) (sb_157_218 hj)
set_option maxRecDepth 20000 in
theorem sb_157_217 {j : AJ} (hj : SJ j) : Sound kM_157 217 (mb_157_217 j) := by
  refine so_weak (sc_157_217 hj) (fun L S h r q0 => ?_)
  obtain ⟨c0, L0_, rfl, q1⟩ := w_C_some q0
  obtain ⟨i1, L1_, rfl, q2⟩ := w_I_some q1
  obtain ⟨i2, L2_, rfl, q3⟩ := w_I_some q2
  obtain ⟨i3, L3_, rfl, q4⟩ := w_I_some q3
  obtain ⟨i4, L4_, rfl, q5⟩ := w_I_some q4
  obtain ⟨rfl, q6⟩ := w_0_some q5
  obtain ⟨s0, S0_, rfl, q7⟩ := a_popI_some q6
  obtain ⟨rfl, q8⟩ := a_nil_some q7
  exact q8
set_option maxRecDepth 20000 in
theorem sc_157_196 {j : AJ} (hj : SJ j) : Sound kM_157 196 (mc_157_196 j) := by
  unfold mc_157_196
  exact so_aload_n (f := 0) (by decide +kernel) rfl (so_get (C := RX9) (T := TX9) (N := 38) (by decide +kernel) rfl kin_9 (by decide) kw_462 (b := true) rfl (fun _ => rfl) (so_iload_n (f := 1) (by decide +kernel) rfl (so_aload_n (f := 0) (by decide +kernel) rfl (so_get (C := RX9) (T := TX9) (N := 38) (by decide +kernel) rfl kin_9 (by decide) kw_460 (b := true) rfl (fun _ => rfl) (so_iload_n (f := 2) (by decide +kernel) rfl (so_iald (by decide +kernel) (so_iast (by decide +kernel) (so_iload_n (f := 1) (by decide +kernel) rfl (so_iload_n (f := 3) (by decide +kernel) rfl (so_if (off := 7) (tgt := 217) (by decide +kernel) (by decide) rfl (sb_157_217 hj) (so_iconst (i := 0) (by decide +kernel) (by decide +kernel) (by decide) (so_goto (off := 4) (tgt := 218) (by decide +kernel) (by decide) (sb_157_218 hj)))))))))))))
set_option maxRecDepth 20000 in
theorem sb_157_196 {j : AJ} (hj : SJ j) : Sound kM_157 196 (mb_157_196 j) := by
  refine so_weak (sc_157_196 hj) (fun L S h r q0 => ?_)
  obtain ⟨c0, L0_, rfl, q1⟩ := w_C_some q0
  obtain ⟨i1, L1_, rfl, q2⟩ := w_I_some q1
  obtain ⟨i2, L2_, rfl, q3⟩ := w_I_some q2
  obtain ⟨i3, L3_, rfl, q4⟩ := w_I_some q3
  obtain ⟨i4, L4_, rfl, q5⟩ := w_I_some q4
  obtain ⟨rfl, q6⟩ := w_0_some q5
  obtain ⟨rfl, q7⟩ := a_nil_some q6
  exact q7
set_option maxRecDepth 20000 in
theorem sc_157_189 {j : AJ} (hj : SJ j) : Sound kM_157 189 (mc_157_189 j) := by
  unfold mc_157_189
  exact so_istore_n (f := 3) (by decide +kernel) rfl (by decide +kernel) (so_iinc (z := 1) (by decide +kernel) (by decide +kernel) (by decide) (by decide +kernel) (so_goto (off := -48) (tgt := 145) (by decide +kernel) (by decide) (hj 92 _ _ rfl)))
set_option maxRecDepth 20000 in
theorem sb_157_189 {j : AJ} (hj : SJ j) : Sound kM_157 189 (mb_157_189 j) := by
  refine so_weak (sc_157_189 hj) (fun L S h r q0 => ?_)
  obtain ⟨c0, L0_, rfl, q1⟩ := w_C_some q0
  obtain ⟨i1, L1_, rfl, q2⟩ := w_I_some q1
  obtain ⟨i2, L2_, rfl, q3⟩ := w_I_some q2
  obtain ⟨i3, L3_, rfl, q4⟩ := w_I_some q3
  obtain ⟨i4, L4_, rfl, q5⟩ := w_I_some q4
  obtain ⟨rfl, q6⟩ := w_0_some q5
  obtain ⟨s0, S0_, rfl, q7⟩ := a_popI_some q6
  obtain ⟨rfl, q8⟩ := a_nil_some q7
  exact q8
set_option maxRecDepth 20000 in
theorem sc_157_188 {j : AJ} (hj : SJ j) : Sound kM_157 188 (mc_157_188 j) := by
  unfold mc_157_188
  exact so_iconst (i := 0) (by decide +kernel) (by decide +kernel) (by decide) (sb_157_189 hj)
set_option maxRecDepth 20000 in
theorem sb_157_188 {j : AJ} (hj : SJ j) : Sound kM_157 188 (mb_157_188 j) := by
  refine so_weak (sc_157_188 hj) (fun L S h r q0 => ?_)
  obtain ⟨c0, L0_, rfl, q1⟩ := w_C_some q0
  obtain ⟨i1, L1_, rfl, q2⟩ := w_I_some q1
  obtain ⟨i2, L2_, rfl, q3⟩ := w_I_some q2
  obtain ⟨i3, L3_, rfl, q4⟩ := w_I_some q3
  obtain ⟨i4, L4_, rfl, q5⟩ := w_I_some q4
  obtain ⟨rfl, q6⟩ := w_0_some q5
  obtain ⟨rfl, q7⟩ := a_nil_some q6
  exact q7
set_option maxRecDepth 20000 in
theorem sc_157_184 {j : AJ} (hj : SJ j) : Sound kM_157 184 (mc_157_184 j) := by
  unfold mc_157_184
  exact so_iconst (i := 1) (by decide +kernel) (by decide +kernel) (by decide) (so_goto (off := 4) (tgt := 189) (by decide +kernel) (by decide) (sb_157_189 hj))
set_option maxRecDepth 20000 in
theorem sb_157_184 {j : AJ} (hj : SJ j) : Sound kM_157 184 (mb_157_184 j) := by
  refine so_weak (sc_157_184 hj) (fun L S h r q0 => ?_)
  obtain ⟨c0, L0_, rfl, q1⟩ := w_C_some q0
  obtain ⟨i1, L1_, rfl, q2⟩ := w_I_some q1
  obtain ⟨i2, L2_, rfl, q3⟩ := w_I_some q2
  obtain ⟨i3, L3_, rfl, q4⟩ := w_I_some q3
  obtain ⟨i4, L4_, rfl, q5⟩ := w_I_some q4
  obtain ⟨rfl, q6⟩ := w_0_some q5
  obtain ⟨rfl, q7⟩ := a_nil_some q6
  exact q7
set_option maxRecDepth 20000 in
theorem sc_157_145 {j : AJ} (hj : SJ j) : Sound kM_157 145 (mc_157_145 j) := by
  unfold mc_157_145
  exact so_iload (by decide +kernel) (so_aload_n (f := 0) (by decide +kernel) rfl (so_get (C := RX9) (T := TX9) (N := 38) (by decide +kernel) rfl kin_9 (by decide) kw_499 (b := false) rfl (fun _ => rfl) (so_icmp (off := 45) (tgt := 196) (by decide +kernel) (by decide) rfl (sb_157_196 hj) (so_iload_n (f := 3) (by decide +kernel) rfl (so_if (off := 29) (tgt := 184) (by decide +kernel) (by decide) rfl (sb_157_184 hj) (so_iload (by decide +kernel) (so_iload_n (f := 2) (by decide +kernel) rfl (so_icmp (off := 27) (tgt := 188) (by decide +kernel) (by decide) rfl (sb_157_188 hj) (so_aload_n (f := 0) (by decide +kernel) rfl (so_aload_n (f := 0) (by decide +kernel) rfl (so_get (C := RX9) (T := TX9) (N := 38) (by decide +kernel) rfl kin_9 (by decide) kw_460 (b := true) rfl (fun _ => rfl) (so_iload_n (f := 2) (by decide +kernel) rfl (so_iald (by decide +kernel) (so_aload_n (f := 0) (by decide +kernel) rfl (so_get (C := RX9) (T := TX9) (N := 38) (by decide +kernel) rfl kin_9 (by decide) kw_460 (b := true) rfl (fun _ => rfl) (so_iload (by decide +kernel) (so_iald (by decide +kernel) (so_weak (so_callV (C := RX9) (T := TX9) (N0 := 38) (by decide +kernel) kcf_148 rfl rfl rfl kw_496 kw_497 kw_498 (by decide +kernel) (sb_148_0 hj) (so_if (off := 7) (tgt := 188) (by decide +kernel) (by decide) rfl (sb_157_188 hj) (sb_157_184 hj))) (callvE_imp BK_I)))))))))))))))))))
set_option maxRecDepth 20000 in
theorem sb_157_145 {j : AJ} (hj : SJ j) : Sound kM_157 145 (mb_157_145 j) := by
  refine so_weak (sc_157_145 hj) (fun L S h r q0 => ?_)
  obtain ⟨c0, L0_, rfl, q1⟩ := w_C_some q0
  obtain ⟨i1, L1_, rfl, q2⟩ := w_I_some q1
  obtain ⟨i2, L2_, rfl, q3⟩ := w_I_some q2
  obtain ⟨i3, L3_, rfl, q4⟩ := w_I_some q3
  obtain ⟨i4, L4_, rfl, q5⟩ := w_I_some q4
  obtain ⟨rfl, q6⟩ := w_0_some q5
  obtain ⟨rfl, q7⟩ := a_nil_some q6
  exact q7
set_option maxRecDepth 20000 in
theorem sc_157_132 {j : AJ} (hj : SJ j) : Sound kM_157 132 (mc_157_132 j) := by
  unfold mc_157_132
  exact so_iload_n (f := 2) (by decide +kernel) rfl (so_aload_n (f := 0) (by decide +kernel) rfl (so_get (C := RX9) (T := TX9) (N := 38) (by decide +kernel) rfl kin_9 (by decide) kw_499 (b := false) rfl (fun _ => rfl) (so_icmp (off := 89) (tgt := 226) (by decide +kernel) (by decide) rfl (sb_157_226 hj) (so_iconst (i := 0) (by decide +kernel) (by decide +kernel) (by decide) (so_istore_n (f := 3) (by decide +kernel) rfl (by decide +kernel) (so_iconst (i := 0) (by decide +kernel) (by decide +kernel) (by decide) (so_istore (by decide +kernel) (by decide +kernel) (sb_157_145 hj))))))))
set_option maxRecDepth 20000 in
theorem sb_157_132 {j : AJ} (hj : SJ j) : Sound kM_157 132 (mb_157_132 j) := by
  refine so_weak (sc_157_132 hj) (fun L S h r q0 => ?_)
  obtain ⟨c0, L0_, rfl, q1⟩ := w_C_some q0
  obtain ⟨i1, L1_, rfl, q2⟩ := w_I_some q1
  obtain ⟨i2, L2_, rfl, q3⟩ := w_I_some q2
  obtain ⟨x3, L3_, rfl, q4⟩ := w_X_some q3
  obtain ⟨x4, L4_, rfl, q5⟩ := w_X_some q4
  obtain ⟨rfl, q6⟩ := w_0_some q5
  obtain ⟨rfl, q7⟩ := a_nil_some q6
  exact q7
set_option maxRecDepth 20000 in
theorem sc_157_123 {j : AJ} (hj : SJ j) : Sound kM_157 123 (mc_157_123 j) := by
  unfold mc_157_123
  exact so_aload_n (f := 0) (by decide +kernel) rfl (so_iload_n (f := 1) (by decide +kernel) rfl (so_putI (C := RX9) (T := TX9) (N := 38) (ty0 := tyX9) (by decide +kernel) rfl kin_9 tyX9_ok nmX9 (by decide) kw_495 rfl rfl rfl (so_iconst (i := 0) (by decide +kernel) (by decide +kernel) (by decide) (so_istore_n (f := 1) (by decide +kernel) rfl (by decide +kernel) (so_iconst (i := 0) (by decide +kernel) (by decide +kernel) (by decide) (so_istore_n (f := 2) (by decide +kernel) rfl (by decide +kernel) (sb_157_132 hj)))))))
set_option maxRecDepth 20000 in
theorem sb_157_123 {j : AJ} (hj : SJ j) : Sound kM_157 123 (mb_157_123 j) := by
  refine so_weak (sc_157_123 hj) (fun L S h r q0 => ?_)
  obtain ⟨c0, L0_, rfl, q1⟩ := w_C_some q0
  obtain ⟨i1, L1_, rfl, q2⟩ := w_I_some q1
  obtain ⟨i2, L2_, rfl, q3⟩ := w_I_some q2
  obtain ⟨x3, L3_, rfl, q4⟩ := w_X_some q3
  obtain ⟨x4, L4_, rfl, q5⟩ := w_X_some q4
  obtain ⟨rfl, q6⟩ := w_0_some q5
  obtain ⟨rfl, q7⟩ := a_nil_some q6
  exact q7
set_option maxRecDepth 20000 in
theorem sc_157_100 {j : AJ} (hj : SJ j) : Sound kM_157 100 (mc_157_100 j) := by
  unfold mc_157_100
  exact so_iload_n (f := 2) (by decide +kernel) rfl (so_iload_n (f := 1) (by decide +kernel) rfl (so_icmp (off := 21) (tgt := 123) (by decide +kernel) (by decide) rfl (sb_157_123 hj) (so_aload_n (f := 0) (by decide +kernel) rfl (so_get (C := RX9) (T := TX9) (N := 38) (by decide +kernel) rfl kin_9 (by decide) kw_459 (b := true) rfl (fun _ => rfl) (so_iload_n (f := 2) (by decide +kernel) rfl (so_aload_n (f := 0) (by decide +kernel) rfl (so_get (C := RX9) (T := TX9) (N := 38) (by decide +kernel) rfl kin_9 (by decide) kw_462 (b := true) rfl (fun _ => rfl) (so_iload_n (f := 2) (by decide +kernel) rfl (so_iald (by decide +kernel) (so_iast (by decide +kernel) (so_iinc (z := 1) (by decide +kernel) (by decide +kernel) (by decide) (by decide +kernel) (so_goto (off := -20) (tgt := 100) (by decide +kernel) (by decide) (hj 91 _ _ rfl)))))))))))))
set_option maxRecDepth 20000 in
theorem sb_157_100 {j : AJ} (hj : SJ j) : Sound kM_157 100 (mb_157_100 j) := by
  refine so_weak (sc_157_100 hj) (fun L S h r q0 => ?_)
  obtain ⟨c0, L0_, rfl, q1⟩ := w_C_some q0
  obtain ⟨i1, L1_, rfl, q2⟩ := w_I_some q1
  obtain ⟨i2, L2_, rfl, q3⟩ := w_I_some q2
  obtain ⟨x3, L3_, rfl, q4⟩ := w_X_some q3
  obtain ⟨x4, L4_, rfl, q5⟩ := w_X_some q4
  obtain ⟨rfl, q6⟩ := w_0_some q5
  obtain ⟨rfl, q7⟩ := a_nil_some q6
  exact q7
set_option maxRecDepth 20000 in
theorem sc_157_98 {j : AJ} (hj : SJ j) : Sound kM_157 98 (mc_157_98 j) := by
  unfold mc_157_98
  exact so_iconst (i := 0) (by decide +kernel) (by decide +kernel) (by decide) (so_istore_n (f := 2) (by decide +kernel) rfl (by decide +kernel) (sb_157_100 hj))
set_option maxRecDepth 20000 in
theorem sb_157_98 {j : AJ} (hj : SJ j) : Sound kM_157 98 (mb_157_98 j) := by
  refine so_weak (sc_157_98 hj) (fun L S h r q0 => ?_)
  obtain ⟨c0, L0_, rfl, q1⟩ := w_C_some q0
  obtain ⟨i1, L1_, rfl, q2⟩ := w_I_some q1
  obtain ⟨i2, L2_, rfl, q3⟩ := w_I_some q2
  obtain ⟨x3, L3_, rfl, q4⟩ := w_X_some q3
  obtain ⟨x4, L4_, rfl, q5⟩ := w_X_some q4
  obtain ⟨rfl, q6⟩ := w_0_some q5
  obtain ⟨rfl, q7⟩ := a_nil_some q6
  exact q7
set_option maxRecDepth 20000 in
theorem sc_157_90 {j : AJ} (hj : SJ j) : Sound kM_157 90 (mc_157_90 j) := by
  unfold mc_157_90
  exact so_iadd (by decide +kernel) (so_istore_n (f := 1) (by decide +kernel) rfl (by decide +kernel) (so_iinc (z := 1) (by decide +kernel) (by decide +kernel) (by decide) (by decide +kernel) (so_goto (off := -91) (tgt := 4) (by decide +kernel) (by decide) (hj 90 _ _ rfl))))
set_option maxRecDepth 20000 in
theorem sb_157_90 {j : AJ} (hj : SJ j) : Sound kM_157 90 (mb_157_90 j) := by
  refine so_weak (sc_157_90 hj) (fun L S h r q0 => ?_)
  obtain ⟨c0, L0_, rfl, q1⟩ := w_C_some q0
  obtain ⟨i1, L1_, rfl, q2⟩ := w_I_some q1
  obtain ⟨i2, L2_, rfl, q3⟩ := w_I_some q2
  obtain ⟨i3, L3_, rfl, q4⟩ := w_I_some q3
  obtain ⟨i4, L4_, rfl, q5⟩ := w_I_some q4
  obtain ⟨rfl, q6⟩ := w_0_some q5
  obtain ⟨s1, S1_, rfl, q7⟩ := a_popI_some q6
  obtain ⟨s0, S0_, rfl, q8⟩ := a_popI_some q7
  obtain ⟨rfl, q9⟩ := a_nil_some q8
  exact q9
set_option maxRecDepth 20000 in
theorem sc_157_89 {j : AJ} (hj : SJ j) : Sound kM_157 89 (mc_157_89 j) := by
  unfold mc_157_89
  exact so_iconst (i := 1) (by decide +kernel) (by decide +kernel) (by decide) (sb_157_90 hj)
set_option maxRecDepth 20000 in
theorem sb_157_89 {j : AJ} (hj : SJ j) : Sound kM_157 89 (mb_157_89 j) := by
  refine so_weak (sc_157_89 hj) (fun L S h r q0 => ?_)
  obtain ⟨c0, L0_, rfl, q1⟩ := w_C_some q0
  obtain ⟨i1, L1_, rfl, q2⟩ := w_I_some q1
  obtain ⟨i2, L2_, rfl, q3⟩ := w_I_some q2
  obtain ⟨i3, L3_, rfl, q4⟩ := w_I_some q3
  obtain ⟨i4, L4_, rfl, q5⟩ := w_I_some q4
  obtain ⟨rfl, q6⟩ := w_0_some q5
  obtain ⟨s0, S0_, rfl, q7⟩ := a_popI_some q6
  obtain ⟨rfl, q8⟩ := a_nil_some q7
  exact q8
set_option maxRecDepth 20000 in
theorem sc_157_68 {j : AJ} (hj : SJ j) : Sound kM_157 68 (mc_157_68 j) := by
  unfold mc_157_68
  exact so_aload_n (f := 0) (by decide +kernel) rfl (so_get (C := RX9) (T := TX9) (N := 38) (by decide +kernel) rfl kin_9 (by decide) kw_462 (b := true) rfl (fun _ => rfl) (so_iload_n (f := 1) (by decide +kernel) rfl (so_aload_n (f := 0) (by decide +kernel) rfl (so_get (C := RX9) (T := TX9) (N := 38) (by decide +kernel) rfl kin_9 (by decide) kw_459 (b := true) rfl (fun _ => rfl) (so_iload_n (f := 2) (by decide +kernel) rfl (so_iald (by decide +kernel) (so_iast (by decide +kernel) (so_iload_n (f := 1) (by decide +kernel) rfl (so_iload_n (f := 3) (by decide +kernel) rfl (so_if (off := 7) (tgt := 89) (by decide +kernel) (by decide) rfl (sb_157_89 hj) (so_iconst (i := 0) (by decide +kernel) (by decide +kernel) (by decide) (so_goto (off := 4) (tgt := 90) (by decide +kernel) (by decide) (sb_157_90 hj)))))))))))))
set_option maxRecDepth 20000 in
theorem sb_157_68 {j : AJ} (hj : SJ j) : Sound kM_157 68 (mb_157_68 j) := by
  refine so_weak (sc_157_68 hj) (fun L S h r q0 => ?_)
  obtain ⟨c0, L0_, rfl, q1⟩ := w_C_some q0
  obtain ⟨i1, L1_, rfl, q2⟩ := w_I_some q1
  obtain ⟨i2, L2_, rfl, q3⟩ := w_I_some q2
  obtain ⟨i3, L3_, rfl, q4⟩ := w_I_some q3
  obtain ⟨i4, L4_, rfl, q5⟩ := w_I_some q4
  obtain ⟨rfl, q6⟩ := w_0_some q5
  obtain ⟨rfl, q7⟩ := a_nil_some q6
  exact q7
set_option maxRecDepth 20000 in
theorem sc_157_61 {j : AJ} (hj : SJ j) : Sound kM_157 61 (mc_157_61 j) := by
  unfold mc_157_61
  exact so_istore_n (f := 3) (by decide +kernel) rfl (by decide +kernel) (so_iinc (z := 1) (by decide +kernel) (by decide +kernel) (by decide) (by decide +kernel) (so_goto (off := -48) (tgt := 17) (by decide +kernel) (by decide) (hj 89 _ _ rfl)))
set_option maxRecDepth 20000 in
theorem sb_157_61 {j : AJ} (hj : SJ j) : Sound kM_157 61 (mb_157_61 j) := by
  refine so_weak (sc_157_61 hj) (fun L S h r q0 => ?_)
  obtain ⟨c0, L0_, rfl, q1⟩ := w_C_some q0
  obtain ⟨i1, L1_, rfl, q2⟩ := w_I_some q1
  obtain ⟨i2, L2_, rfl, q3⟩ := w_I_some q2
  obtain ⟨i3, L3_, rfl, q4⟩ := w_I_some q3
  obtain ⟨i4, L4_, rfl, q5⟩ := w_I_some q4
  obtain ⟨rfl, q6⟩ := w_0_some q5
  obtain ⟨s0, S0_, rfl, q7⟩ := a_popI_some q6
  obtain ⟨rfl, q8⟩ := a_nil_some q7
  exact q8
set_option maxRecDepth 20000 in
theorem sc_157_60 {j : AJ} (hj : SJ j) : Sound kM_157 60 (mc_157_60 j) := by
  unfold mc_157_60
  exact so_iconst (i := 0) (by decide +kernel) (by decide +kernel) (by decide) (sb_157_61 hj)
set_option maxRecDepth 20000 in
theorem sb_157_60 {j : AJ} (hj : SJ j) : Sound kM_157 60 (mb_157_60 j) := by
  refine so_weak (sc_157_60 hj) (fun L S h r q0 => ?_)
  obtain ⟨c0, L0_, rfl, q1⟩ := w_C_some q0
  obtain ⟨i1, L1_, rfl, q2⟩ := w_I_some q1
  obtain ⟨i2, L2_, rfl, q3⟩ := w_I_some q2
  obtain ⟨i3, L3_, rfl, q4⟩ := w_I_some q3
  obtain ⟨i4, L4_, rfl, q5⟩ := w_I_some q4
  obtain ⟨rfl, q6⟩ := w_0_some q5
  obtain ⟨rfl, q7⟩ := a_nil_some q6
  exact q7
set_option maxRecDepth 20000 in
theorem sc_157_56 {j : AJ} (hj : SJ j) : Sound kM_157 56 (mc_157_56 j) := by
  unfold mc_157_56
  exact so_iconst (i := 1) (by decide +kernel) (by decide +kernel) (by decide) (so_goto (off := 4) (tgt := 61) (by decide +kernel) (by decide) (sb_157_61 hj))
set_option maxRecDepth 20000 in
theorem sb_157_56 {j : AJ} (hj : SJ j) : Sound kM_157 56 (mb_157_56 j) := by
  refine so_weak (sc_157_56 hj) (fun L S h r q0 => ?_)
  obtain ⟨c0, L0_, rfl, q1⟩ := w_C_some q0
  obtain ⟨i1, L1_, rfl, q2⟩ := w_I_some q1
  obtain ⟨i2, L2_, rfl, q3⟩ := w_I_some q2
  obtain ⟨i3, L3_, rfl, q4⟩ := w_I_some q3
  obtain ⟨i4, L4_, rfl, q5⟩ := w_I_some q4
  obtain ⟨rfl, q6⟩ := w_0_some q5
  obtain ⟨rfl, q7⟩ := a_nil_some q6
  exact q7
set_option maxRecDepth 20000 in
theorem sc_157_17 {j : AJ} (hj : SJ j) : Sound kM_157 17 (mc_157_17 j) := by
  unfold mc_157_17
  exact so_iload (by decide +kernel) (so_aload_n (f := 0) (by decide +kernel) rfl (so_get (C := RX9) (T := TX9) (N := 38) (by decide +kernel) rfl kin_9 (by decide) kw_495 (b := false) rfl (fun _ => rfl) (so_icmp (off := 45) (tgt := 68) (by decide +kernel) (by decide) rfl (sb_157_68 hj) (so_iload_n (f := 3) (by decide +kernel) rfl (so_if (off := 29) (tgt := 56) (by decide +kernel) (by decide) rfl (sb_157_56 hj) (so_iload (by decide +kernel) (so_iload_n (f := 2) (by decide +kernel) rfl (so_icmp (off := 27) (tgt := 60) (by decide +kernel) (by decide) rfl (sb_157_60 hj) (so_aload_n (f := 0) (by decide +kernel) rfl (so_aload_n (f := 0) (by decide +kernel) rfl (so_get (C := RX9) (T := TX9) (N := 38) (by decide +kernel) rfl kin_9 (by decide) kw_459 (b := true) rfl (fun _ => rfl) (so_iload (by decide +kernel) (so_iald (by decide +kernel) (so_aload_n (f := 0) (by decide +kernel) rfl (so_get (C := RX9) (T := TX9) (N := 38) (by decide +kernel) rfl kin_9 (by decide) kw_459 (b := true) rfl (fun _ => rfl) (so_iload_n (f := 2) (by decide +kernel) rfl (so_iald (by decide +kernel) (so_weak (so_callV (C := RX9) (T := TX9) (N0 := 38) (by decide +kernel) kcf_148 rfl rfl rfl kw_496 kw_497 kw_498 (by decide +kernel) (sb_148_0 hj) (so_if (off := 7) (tgt := 60) (by decide +kernel) (by decide) rfl (sb_157_60 hj) (sb_157_56 hj))) (callvE_imp BK_I)))))))))))))))))))
set_option maxRecDepth 20000 in
theorem sb_157_17 {j : AJ} (hj : SJ j) : Sound kM_157 17 (mb_157_17 j) := by
  refine so_weak (sc_157_17 hj) (fun L S h r q0 => ?_)
  obtain ⟨c0, L0_, rfl, q1⟩ := w_C_some q0
  obtain ⟨i1, L1_, rfl, q2⟩ := w_I_some q1
  obtain ⟨i2, L2_, rfl, q3⟩ := w_I_some q2
  obtain ⟨i3, L3_, rfl, q4⟩ := w_I_some q3
  obtain ⟨i4, L4_, rfl, q5⟩ := w_I_some q4
  obtain ⟨rfl, q6⟩ := w_0_some q5
  obtain ⟨rfl, q7⟩ := a_nil_some q6
  exact q7
set_option maxRecDepth 20000 in
theorem sc_157_4 {j : AJ} (hj : SJ j) : Sound kM_157 4 (mc_157_4 j) := by
  unfold mc_157_4
  exact so_iload_n (f := 2) (by decide +kernel) rfl (so_aload_n (f := 0) (by decide +kernel) rfl (so_get (C := RX9) (T := TX9) (N := 38) (by decide +kernel) rfl kin_9 (by decide) kw_495 (b := false) rfl (fun _ => rfl) (so_icmp (off := 89) (tgt := 98) (by decide +kernel) (by decide) rfl (sb_157_98 hj) (so_iconst (i := 0) (by decide +kernel) (by decide +kernel) (by decide) (so_istore_n (f := 3) (by decide +kernel) rfl (by decide +kernel) (so_iconst (i := 0) (by decide +kernel) (by decide +kernel) (by decide) (so_istore (by decide +kernel) (by decide +kernel) (sb_157_17 hj))))))))
set_option maxRecDepth 20000 in
theorem sb_157_4 {j : AJ} (hj : SJ j) : Sound kM_157 4 (mb_157_4 j) := by
  refine so_weak (sc_157_4 hj) (fun L S h r q0 => ?_)
  obtain ⟨c0, L0_, rfl, q1⟩ := w_C_some q0
  obtain ⟨i1, L1_, rfl, q2⟩ := w_I_some q1
  obtain ⟨i2, L2_, rfl, q3⟩ := w_I_some q2
  obtain ⟨x3, L3_, rfl, q4⟩ := w_X_some q3
  obtain ⟨x4, L4_, rfl, q5⟩ := w_X_some q4
  obtain ⟨rfl, q6⟩ := w_0_some q5
  obtain ⟨rfl, q7⟩ := a_nil_some q6
  exact q7
set_option maxRecDepth 20000 in
theorem sc_157_0 {j : AJ} (hj : SJ j) : Sound kM_157 0 (mc_157_0 j) := by
  unfold mc_157_0
  exact so_iconst (i := 0) (by decide +kernel) (by decide +kernel) (by decide) (so_istore_n (f := 1) (by decide +kernel) rfl (by decide +kernel) (so_iconst (i := 0) (by decide +kernel) (by decide +kernel) (by decide) (so_istore_n (f := 2) (by decide +kernel) rfl (by decide +kernel) (sb_157_4 hj))))
set_option maxRecDepth 20000 in
theorem sb_157_0 {j : AJ} (hj : SJ j) : Sound kM_157 0 (mb_157_0 j) := by
  refine so_weak (sc_157_0 hj) (fun L S h r q0 => ?_)
  obtain ⟨c0, L0_, rfl, q1⟩ := w_C_some q0
  obtain ⟨L1_, rfl, q2⟩ := w_N_some q1
  obtain ⟨L2_, rfl, q3⟩ := w_N_some q2
  obtain ⟨L3_, rfl, q4⟩ := w_N_some q3
  obtain ⟨L4_, rfl, q5⟩ := w_N_some q4
  obtain ⟨rfl, q6⟩ := w_0_some q5
  obtain ⟨rfl, q7⟩ := a_nil_some q6
  exact q7
