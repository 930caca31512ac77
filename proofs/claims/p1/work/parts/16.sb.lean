/-! ===== the blocks are sound ===== -/
set_option maxRecDepth 20000 in
theorem sb_0_0 {j : AJ} (hj : SJ j) : Sound kM_0 0 (mb_0_0 j) := by
  unfold mb_0_0
  exact so_aload_n (f := 0) (by decide +kernel) rfl (so_objInit (by decide +kernel) kw_0 kw_1 kw_2 (by decide +kernel) (so_aload_n (f := 0) (by decide +kernel) rfl (so_bipush (i := 8) (by decide +kernel) (by decide +kernel) (by decide) (so_newaI (by decide +kernel) kw_3 (so_putRF (C := RX0) (T := TX0) (N := 4) (ty0 := tyX0) (by decide +kernel) rfl kin_0 tyX0_ok nmX0 (by decide) kw_4 rfl rfl rfl (fun _ => rfl) (fun _ => rfl) rfl (so_aload_n (f := 0) (by decide +kernel) rfl (so_bipush (i := 8) (by decide +kernel) (by decide +kernel) (by decide) (so_newaI (by decide +kernel) kw_3 (so_putRF (C := RX0) (T := TX0) (N := 4) (ty0 := tyX0) (by decide +kernel) rfl kin_0 tyX0_ok nmX0 (by decide) kw_5 rfl rfl rfl (fun _ => rfl) (fun _ => rfl) rfl (so_retv (by decide +kernel) rfl))))))))))
set_option maxRecDepth 20000 in
theorem sb_1_0 {j : AJ} (hj : SJ j) : Sound kM_1 0 (mb_1_0 j) := by
  unfold mb_1_0
  exact so_aload_n (f := 0) (by decide +kernel) rfl (so_aload_n (f := 0) (by decide +kernel) rfl (so_get (C := RX0) (T := TX0) (N := 4) (by decide +kernel) rfl kin_0 (by decide) kw_6 (b := false) rfl (fun _ => rfl) (so_bipush (i := 15) (by decide +kernel) (by decide +kernel) (by decide) (so_iconst (i := 4) (by decide +kernel) (by decide +kernel) (by decide) (so_iload_n (f := 1) (by decide +kernel) rfl (so_imul (by decide +kernel) (so_ishl (by decide +kernel) (so_iconst (i := -1) (by decide +kernel) (by decide +kernel) (by decide) (so_ixor (by decide +kernel) (so_iand (by decide +kernel) (so_iload_n (f := 2) (by decide +kernel) rfl (so_iconst (i := 4) (by decide +kernel) (by decide +kernel) (by decide) (so_iload_n (f := 1) (by decide +kernel) rfl (so_imul (by decide +kernel) (so_ishl (by decide +kernel) (so_ior (by decide +kernel) (so_putI (C := RX0) (T := TX0) (N := 4) (ty0 := tyX0) (by decide +kernel) rfl kin_0 tyX0_ok nmX0 (by decide) kw_6 rfl rfl rfl (so_aload_n (f := 0) (by decide +kernel) rfl (so_iconst (i := 0) (by decide +kernel) (by decide +kernel) (by decide) (so_putI (C := RX0) (T := TX0) (N := 4) (ty0 := tyX0) (by decide +kernel) rfl kin_0 tyX0_ok nmX0 (by decide) kw_7 rfl rfl rfl (so_retv (by decide +kernel) rfl)))))))))))))))))))))
set_option maxRecDepth 20000 in
theorem sb_2_0 {j : AJ} (hj : SJ j) : Sound kM_2 0 (mb_2_0 j) := by
  unfold mb_2_0
  exact so_aload_n (f := 0) (by decide +kernel) rfl (so_iload_n (f := 1) (by decide +kernel) rfl (so_putI (C := RX0) (T := TX0) (N := 4) (ty0 := tyX0) (by decide +kernel) rfl kin_0 tyX0_ok nmX0 (by decide) kw_6 rfl rfl rfl (so_aload_n (f := 0) (by decide +kernel) rfl (so_iconst (i := 0) (by decide +kernel) (by decide +kernel) (by decide) (so_putI (C := RX0) (T := TX0) (N := 4) (ty0 := tyX0) (by decide +kernel) rfl kin_0 tyX0_ok nmX0 (by decide) kw_7 rfl rfl rfl (so_retv (by decide +kernel) rfl))))))
set_option maxRecDepth 20000 in
theorem sb_3_0 {j : AJ} (hj : SJ j) : Sound kM_3 0 (mb_3_0 j) := by
  unfold mb_3_0
  exact so_aload_n (f := 0) (by decide +kernel) rfl (so_get (C := RX0) (T := TX0) (N := 4) (by decide +kernel) rfl kin_0 (by decide) kw_6 (b := false) rfl (fun _ => rfl) (so_reti (by decide +kernel) rfl))
set_option maxRecDepth 20000 in
theorem sb_4_26 {j : AJ} (hj : SJ j) : Sound kM_4 26 (mb_4_26 j) := by
  unfold mb_4_26
  exact so_retz (by decide +kernel) rfl
set_option maxRecDepth 20000 in
theorem sb_4_25 {j : AJ} (hj : SJ j) : Sound kM_4 25 (mb_4_25 j) := by
  unfold mb_4_25
  exact so_iconst (i := 0) (by decide +kernel) (by decide +kernel) (by decide) (sb_4_26 hj)
set_option maxRecDepth 20000 in
theorem sb_4_0 {j : AJ} (hj : SJ j) : Sound kM_4 0 (mb_4_0 j) := by
  unfold mb_4_0
  exact so_iload_n (f := 1) (by decide +kernel) rfl (so_if (off := 24) (tgt := 25) (by decide +kernel) (by decide) rfl (sb_4_25 hj) (so_iload_n (f := 1) (by decide +kernel) rfl (so_bipush (i := 16) (by decide +kernel) (by decide +kernel) (by decide) (so_icmp (off := 18) (tgt := 25) (by decide +kernel) (by decide) rfl (sb_4_25 hj) (so_aload_n (f := 0) (by decide +kernel) rfl (so_get (C := RX0) (T := TX0) (N := 4) (by decide +kernel) rfl kin_0 (by decide) kw_6 (b := false) rfl (fun _ => rfl) (so_iload_n (f := 1) (by decide +kernel) rfl (so_ishr (by decide +kernel) (so_iconst (i := 1) (by decide +kernel) (by decide +kernel) (by decide) (so_iand (by decide +kernel) (so_if (off := 7) (tgt := 25) (by decide +kernel) (by decide) rfl (sb_4_25 hj) (so_iconst (i := 1) (by decide +kernel) (by decide +kernel) (by decide) (so_goto (off := 4) (tgt := 26) (by decide +kernel) (by decide) (sb_4_26 hj))))))))))))))
set_option maxRecDepth 20000 in
theorem sc_5_0 {j : AJ} (hj : SJ j) : Sound kM_5 0 (mc_5_0 j) := by
  unfold mc_5_0
  exact so_iload_n (f := 0) (by decide +kernel) rfl (so_iload_n (f := 0) (by decide +kernel) rfl (so_iconst (i := 1) (by decide +kernel) (by decide +kernel) (by decide) (so_iushr (by decide +kernel) (so_ldcw (i := 265) (by decide +kernel) kw_8 (by decide) (so_iand (by decide +kernel) (so_isub (by decide +kernel) (so_istore_n (f := 0) (by decide +kernel) rfl (by decide +kernel) (so_iload_n (f := 0) (by decide +kernel) rfl (so_ldcw (i := 266) (by decide +kernel) kw_9 (by decide) (so_iand (by decide +kernel) (so_iload_n (f := 0) (by decide +kernel) rfl (so_iconst (i := 2) (by decide +kernel) (by decide +kernel) (by decide) (so_iushr (by decide +kernel) (so_ldcw (i := 266) (by decide +kernel) kw_9 (by decide) (so_iand (by decide +kernel) (so_iadd (by decide +kernel) (so_istore_n (f := 0) (by decide +kernel) rfl (by decide +kernel) (so_iload_n (f := 0) (by decide +kernel) rfl (so_iload_n (f := 0) (by decide +kernel) rfl (so_iconst (i := 4) (by decide +kernel) (by decide +kernel) (by decide) (so_iushr (by decide +kernel) (so_iadd (by decide +kernel) (so_ldcw (i := 267) (by decide +kernel) kw_10 (by decide) (so_iand (by decide +kernel) (so_istore_n (f := 0) (by decide +kernel) rfl (by decide +kernel) (so_iload_n (f := 0) (by decide +kernel) rfl (so_iload_n (f := 0) (by decide +kernel) rfl (so_bipush (i := 8) (by decide +kernel) (by decide +kernel) (by decide) (so_iushr (by decide +kernel) (so_iadd (by decide +kernel) (so_istore_n (f := 0) (by decide +kernel) rfl (by decide +kernel) (so_iload_n (f := 0) (by decide +kernel) rfl (so_iload_n (f := 0) (by decide +kernel) rfl (so_bipush (i := 16) (by decide +kernel) (by decide +kernel) (by decide) (so_iushr (by decide +kernel) (so_iadd (by decide +kernel) (so_istore_n (f := 0) (by decide +kernel) rfl (by decide +kernel) (so_iload_n (f := 0) (by decide +kernel) rfl (so_bipush (i := 63) (by decide +kernel) (by decide +kernel) (by decide) (so_iand (by decide +kernel) (so_reti (by decide +kernel) rfl)))))))))))))))))))))))))))))))))))))))))
set_option maxRecDepth 20000 in
theorem sb_5_0 {j : AJ} (hj : SJ j) : Sound kM_5 0 (mb_5_0 j) := by
  refine so_weak (sc_5_0 hj) (fun L S h r q0 => ?_)
  obtain ⟨i0, L0_, rfl, q1⟩ := w_I_some q0
  obtain ⟨rfl, q2⟩ := w_0_some q1
  obtain ⟨rfl, q3⟩ := a_nil_some q2
  exact q3
set_option maxRecDepth 20000 in
theorem sb_6_0 {j : AJ} (hj : SJ j) : Sound kM_6 0 (mb_6_0 j) := by
  unfold mb_6_0
  exact so_aload_n (f := 0) (by decide +kernel) rfl (so_get (C := RX0) (T := TX0) (N := 4) (by decide +kernel) rfl kin_0 (by decide) kw_6 (b := false) rfl (fun _ => rfl) (so_callS (by decide +kernel) kcf_5 rfl kw_11 kw_12 (by decide +kernel) (sb_5_0 hj) (so_reti (by decide +kernel) rfl)))
set_option maxRecDepth 20000 in
theorem sb_7_0 {j : AJ} (hj : SJ j) : Sound kM_7 0 (mb_7_0 j) := by
  unfold mb_7_0
  exact so_aload_n (f := 0) (by decide +kernel) rfl (so_get (C := RX0) (T := TX0) (N := 4) (by decide +kernel) rfl kin_0 (by decide) kw_7 (b := false) rfl (fun _ => rfl) (so_reti (by decide +kernel) rfl))
set_option maxRecDepth 20000 in
theorem sb_8_64 {j : AJ} (hj : SJ j) : Sound kM_8 64 (mb_8_64 j) := by
  unfold mb_8_64
  exact so_reti (by decide +kernel) rfl
set_option maxRecDepth 20000 in
theorem sb_8_63 {j : AJ} (hj : SJ j) : Sound kM_8 63 (mb_8_63 j) := by
  unfold mb_8_63
  exact so_iconst (i := 0) (by decide +kernel) (by decide +kernel) (by decide) (sb_8_64 hj)
set_option maxRecDepth 20000 in
theorem sb_8_36 {j : AJ} (hj : SJ j) : Sound kM_8 36 (mb_8_36 j) := by
  unfold mb_8_36
  exact so_istore_n (f := 3) (by decide +kernel) rfl (by decide +kernel) (so_aload_n (f := 0) (by decide +kernel) rfl (so_iload_n (f := 1) (by decide +kernel) rfl (so_callV (C := RX0) (T := TX0) (N0 := 4) (by decide +kernel) kcf_4 rfl rfl rfl kw_13 kw_14 kw_15 (by decide +kernel) (sb_4_0 hj) (so_if (off := 21) (tgt := 63) (by decide +kernel) (by decide) rfl (sb_8_63 hj) (so_aload_n (f := 0) (by decide +kernel) rfl (so_iload_n (f := 3) (by decide +kernel) rfl (so_callV (C := RX0) (T := TX0) (N0 := 4) (by decide +kernel) kcf_4 rfl rfl rfl kw_13 kw_14 kw_15 (by decide +kernel) (sb_4_0 hj) (so_if (off := 13) (tgt := 63) (by decide +kernel) (by decide) rfl (sb_8_63 hj) (so_iconst (i := 1) (by decide +kernel) (by decide +kernel) (by decide) (so_iload_n (f := 1) (by decide +kernel) rfl (so_ishl (by decide +kernel) (so_iconst (i := 1) (by decide +kernel) (by decide +kernel) (by decide) (so_iload_n (f := 3) (by decide +kernel) rfl (so_ishl (by decide +kernel) (so_ior (by decide +kernel) (so_goto (off := 4) (tgt := 64) (by decide +kernel) (by decide) (sb_8_64 hj)))))))))))))))))
set_option maxRecDepth 20000 in
theorem sb_8_33 {j : AJ} (hj : SJ j) : Sound kM_8 33 (mb_8_33 j) := by
  unfold mb_8_33
  exact so_iload_n (f := 1) (by decide +kernel) rfl (so_iconst (i := 4) (by decide +kernel) (by decide +kernel) (by decide) (so_iadd (by decide +kernel) (sb_8_36 hj)))
set_option maxRecDepth 20000 in
theorem sb_8_23 {j : AJ} (hj : SJ j) : Sound kM_8 23 (mb_8_23 j) := by
  unfold mb_8_23
  exact so_iload_n (f := 2) (by decide +kernel) rfl (so_if (off := 9) (tgt := 33) (by decide +kernel) (by decide) rfl (sb_8_33 hj) (so_iload_n (f := 1) (by decide +kernel) rfl (so_iconst (i := 1) (by decide +kernel) (by decide +kernel) (by decide) (so_iadd (by decide +kernel) (so_goto (off := 6) (tgt := 36) (by decide +kernel) (by decide) (sb_8_36 hj))))))
set_option maxRecDepth 20000 in
theorem sb_8_21 {j : AJ} (hj : SJ j) : Sound kM_8 21 (mb_8_21 j) := by
  unfold mb_8_21
  exact so_iconst (i := 0) (by decide +kernel) (by decide +kernel) (by decide) (so_reti (by decide +kernel) rfl)
set_option maxRecDepth 20000 in
theorem sb_8_0 {j : AJ} (hj : SJ j) : Sound kM_8 0 (mb_8_0 j) := by
  unfold mb_8_0
  exact so_iload_n (f := 1) (by decide +kernel) rfl (so_if (off := 20) (tgt := 21) (by decide +kernel) (by decide) rfl (sb_8_21 hj) (so_iload_n (f := 1) (by decide +kernel) rfl (so_bipush (i := 16) (by decide +kernel) (by decide +kernel) (by decide) (so_icmp (off := 14) (tgt := 21) (by decide +kernel) (by decide) rfl (sb_8_21 hj) (so_iload_n (f := 2) (by decide +kernel) rfl (so_if (off := 12) (tgt := 23) (by decide +kernel) (by decide) rfl (sb_8_23 hj) (so_iload_n (f := 1) (by decide +kernel) rfl (so_iconst (i := 4) (by decide +kernel) (by decide +kernel) (by decide) (so_irem (by decide +kernel) (so_iconst (i := 3) (by decide +kernel) (by decide +kernel) (by decide) (so_icmp (off := 5) (tgt := 23) (by decide +kernel) (by decide) rfl (sb_8_23 hj) (sb_8_21 hj))))))))))))
set_option maxRecDepth 20000 in
theorem sb_9_28 {j : AJ} (hj : SJ j) : Sound kM_9 28 (mb_9_28 j) := by
  unfold mb_9_28
  exact so_iload_n (f := 2) (by decide +kernel) rfl (so_reti (by decide +kernel) rfl)
set_option maxRecDepth 20000 in
theorem sb_9_22 {j : AJ} (hj : SJ j) : Sound kM_9 22 (mb_9_22 j) := by
  unfold mb_9_22
  exact so_iinc (z := 1) (by decide +kernel) (by decide +kernel) (by decide) (by decide +kernel) (so_goto (off := -21) (tgt := 4) (by decide +kernel) (by decide) (hj 0 _ _ rfl))
set_option maxRecDepth 20000 in
theorem sb_9_4 {j : AJ} (hj : SJ j) : Sound kM_9 4 (mb_9_4 j) := by
  unfold mb_9_4
  exact so_iload_n (f := 3) (by decide +kernel) rfl (so_bipush (i := 16) (by decide +kernel) (by decide +kernel) (by decide) (so_icmp (off := 21) (tgt := 28) (by decide +kernel) (by decide) rfl (sb_9_28 hj) (so_aload_n (f := 0) (by decide +kernel) rfl (so_iload_n (f := 3) (by decide +kernel) rfl (so_iload_n (f := 1) (by decide +kernel) rfl (so_callV (C := RX0) (T := TX0) (N0 := 4) (by decide +kernel) kcf_8 rfl rfl rfl kw_16 kw_17 kw_18 (by decide +kernel) (sb_8_0 hj) (so_if (off := 6) (tgt := 22) (by decide +kernel) (by decide) rfl (sb_9_22 hj) (so_iinc (z := 1) (by decide +kernel) (by decide +kernel) (by decide) (by decide +kernel) (sb_9_22 hj)))))))))
set_option maxRecDepth 20000 in
theorem sb_9_0 {j : AJ} (hj : SJ j) : Sound kM_9 0 (mb_9_0 j) := by
  unfold mb_9_0
  exact so_iconst (i := 0) (by decide +kernel) (by decide +kernel) (by decide) (so_istore_n (f := 2) (by decide +kernel) rfl (by decide +kernel) (so_iconst (i := 0) (by decide +kernel) (by decide +kernel) (by decide) (so_istore_n (f := 3) (by decide +kernel) rfl (by decide +kernel) (sb_9_4 hj))))
set_option maxRecDepth 20000 in
theorem sb_10_22 {j : AJ} (hj : SJ j) : Sound kM_10 22 (mb_10_22 j) := by
  unfold mb_10_22
  exact so_aload_n (f := 0) (by decide +kernel) rfl (so_get (C := RX0) (T := TX0) (N := 4) (by decide +kernel) rfl kin_0 (by decide) kw_4 (b := true) rfl (fun _ => rfl) (so_aload_n (f := 0) (by decide +kernel) rfl (so_get (C := RX0) (T := TX0) (N := 4) (by decide +kernel) rfl kin_0 (by decide) kw_7 (b := false) rfl (fun _ => rfl) (so_iload_n (f := 1) (by decide +kernel) rfl (so_iast (by decide +kernel) (so_aload_n (f := 0) (by decide +kernel) rfl (so_get (C := RX0) (T := TX0) (N := 4) (by decide +kernel) rfl kin_0 (by decide) kw_5 (b := true) rfl (fun _ => rfl) (so_aload_n (f := 0) (by decide +kernel) rfl (so_get (C := RX0) (T := TX0) (N := 4) (by decide +kernel) rfl kin_0 (by decide) kw_7 (b := false) rfl (fun _ => rfl) (so_iload_n (f := 3) (by decide +kernel) rfl (so_iast (by decide +kernel) (so_aload_n (f := 0) (by decide +kernel) rfl (so_dup (by decide +kernel) (so_get (C := RX0) (T := TX0) (N := 4) (by decide +kernel) rfl kin_0 (by decide) kw_7 (b := false) rfl (fun _ => rfl) (so_iconst (i := 1) (by decide +kernel) (by decide +kernel) (by decide) (so_iadd (by decide +kernel) (so_putI (C := RX0) (T := TX0) (N := 4) (ty0 := tyX0) (by decide +kernel) rfl kin_0 tyX0_ok nmX0 (by decide) kw_7 rfl rfl rfl (so_aload_n (f := 0) (by decide +kernel) rfl (so_dup (by decide +kernel) (so_get (C := RX0) (T := TX0) (N := 4) (by decide +kernel) rfl kin_0 (by decide) kw_6 (b := false) rfl (fun _ => rfl) (so_iload_n (f := 3) (by decide +kernel) rfl (so_iconst (i := -1) (by decide +kernel) (by decide +kernel) (by decide) (so_ixor (by decide +kernel) (so_iand (by decide +kernel) (so_putI (C := RX0) (T := TX0) (N := 4) (ty0 := tyX0) (by decide +kernel) rfl kin_0 tyX0_ok nmX0 (by decide) kw_6 rfl rfl rfl (so_iconst (i := 1) (by decide +kernel) (by decide +kernel) (by decide) (so_retz (by decide +kernel) rfl)))))))))))))))))))))))))))
set_option maxRecDepth 20000 in
theorem sb_10_20 {j : AJ} (hj : SJ j) : Sound kM_10 20 (mb_10_20 j) := by
  unfold mb_10_20
  exact so_iconst (i := 0) (by decide +kernel) (by decide +kernel) (by decide) (so_retz (by decide +kernel) rfl)
set_option maxRecDepth 20000 in
theorem sb_10_0 {j : AJ} (hj : SJ j) : Sound kM_10 0 (mb_10_0 j) := by
  unfold mb_10_0
  exact so_aload_n (f := 0) (by decide +kernel) rfl (so_iload_n (f := 1) (by decide +kernel) rfl (so_iload_n (f := 2) (by decide +kernel) rfl (so_callV (C := RX0) (T := TX0) (N0 := 4) (by decide +kernel) kcf_8 rfl rfl rfl kw_16 kw_17 kw_18 (by decide +kernel) (sb_8_0 hj) (so_istore_n (f := 3) (by decide +kernel) rfl (by decide +kernel) (so_iload_n (f := 3) (by decide +kernel) rfl (so_if (off := 12) (tgt := 20) (by decide +kernel) (by decide) rfl (sb_10_20 hj) (so_aload_n (f := 0) (by decide +kernel) rfl (so_get (C := RX0) (T := TX0) (N := 4) (by decide +kernel) rfl kin_0 (by decide) kw_7 (b := false) rfl (fun _ => rfl) (so_bipush (i := 8) (by decide +kernel) (by decide +kernel) (by decide) (so_icmp (off := 5) (tgt := 22) (by decide +kernel) (by decide) rfl (sb_10_22 hj) (sb_10_20 hj)))))))))))
set_option maxRecDepth 20000 in
theorem sb_11_19 {j : AJ} (hj : SJ j) : Sound kM_11 19 (mb_11_19 j) := by
  unfold mb_11_19
  exact so_aload_n (f := 0) (by decide +kernel) rfl (so_dup (by decide +kernel) (so_get (C := RX0) (T := TX0) (N := 4) (by decide +kernel) rfl kin_0 (by decide) kw_7 (b := false) rfl (fun _ => rfl) (so_iconst (i := 1) (by decide +kernel) (by decide +kernel) (by decide) (so_isub (by decide +kernel) (so_putI (C := RX0) (T := TX0) (N := 4) (ty0 := tyX0) (by decide +kernel) rfl kin_0 tyX0_ok nmX0 (by decide) kw_7 rfl rfl rfl (so_aload_n (f := 0) (by decide +kernel) rfl (so_dup (by decide +kernel) (so_get (C := RX0) (T := TX0) (N := 4) (by decide +kernel) rfl kin_0 (by decide) kw_6 (b := false) rfl (fun _ => rfl) (so_aload_n (f := 0) (by decide +kernel) rfl (so_get (C := RX0) (T := TX0) (N := 4) (by decide +kernel) rfl kin_0 (by decide) kw_5 (b := true) rfl (fun _ => rfl) (so_aload_n (f := 0) (by decide +kernel) rfl (so_get (C := RX0) (T := TX0) (N := 4) (by decide +kernel) rfl kin_0 (by decide) kw_7 (b := false) rfl (fun _ => rfl) (so_iald (by decide +kernel) (so_ior (by decide +kernel) (so_putI (C := RX0) (T := TX0) (N := 4) (ty0 := tyX0) (by decide +kernel) rfl kin_0 tyX0_ok nmX0 (by decide) kw_6 rfl rfl rfl (so_aload_n (f := 0) (by decide +kernel) rfl (so_get (C := RX0) (T := TX0) (N := 4) (by decide +kernel) rfl kin_0 (by decide) kw_4 (b := true) rfl (fun _ => rfl) (so_aload_n (f := 0) (by decide +kernel) rfl (so_get (C := RX0) (T := TX0) (N := 4) (by decide +kernel) rfl kin_0 (by decide) kw_7 (b := false) rfl (fun _ => rfl) (so_iald (by decide +kernel) (so_reti (by decide +kernel) rfl)))))))))))))))))))))
set_option maxRecDepth 20000 in
theorem sb_11_16 {j : AJ} (hj : SJ j) : Sound kM_11 16 (mb_11_16 j) := by
  unfold mb_11_16
  exact so_bipush (i := -4) (by decide +kernel) (by decide +kernel) (by decide) (so_reti (by decide +kernel) rfl)
set_option maxRecDepth 20000 in
theorem sb_11_0 {j : AJ} (hj : SJ j) : Sound kM_11 0 (mb_11_0 j) := by
  unfold mb_11_0
  exact so_aload_n (f := 0) (by decide +kernel) rfl (so_get (C := RX0) (T := TX0) (N := 4) (by decide +kernel) rfl kin_0 (by decide) kw_7 (b := false) rfl (fun _ => rfl) (so_if (off := 12) (tgt := 16) (by decide +kernel) (by decide) rfl (sb_11_16 hj) (so_aload_n (f := 0) (by decide +kernel) rfl (so_get (C := RX0) (T := TX0) (N := 4) (by decide +kernel) rfl kin_0 (by decide) kw_7 (b := false) rfl (fun _ => rfl) (so_bipush (i := 8) (by decide +kernel) (by decide +kernel) (by decide) (so_icmp (off := 6) (tgt := 19) (by decide +kernel) (by decide) rfl (sb_11_19 hj) (sb_11_16 hj)))))))
set_option maxRecDepth 20000 in
theorem sb_12_41 {j : AJ} (hj : SJ j) : Sound kM_12 41 (mb_12_41 j) := by
  unfold mb_12_41
  exact so_iload_n (f := 1) (by decide +kernel) rfl (so_reti (by decide +kernel) rfl)
set_option maxRecDepth 20000 in
theorem sb_12_4 {j : AJ} (hj : SJ j) : Sound kM_12 4 (mb_12_4 j) := by
  unfold mb_12_4
  exact so_iload_n (f := 2) (by decide +kernel) rfl (so_bipush (i := 16) (by decide +kernel) (by decide +kernel) (by decide) (so_icmp (off := 34) (tgt := 41) (by decide +kernel) (by decide) rfl (sb_12_41 hj) (so_iconst (i := 4) (by decide +kernel) (by decide +kernel) (by decide) (so_iconst (i := 3) (by decide +kernel) (by decide +kernel) (by decide) (so_iload_n (f := 2) (by decide +kernel) rfl (so_iconst (i := 4) (by decide +kernel) (by decide +kernel) (by decide) (so_irem (by decide +kernel) (so_isub (by decide +kernel) (so_imul (by decide +kernel) (so_iload_n (f := 2) (by decide +kernel) rfl (so_iconst (i := 4) (by decide +kernel) (by decide +kernel) (by decide) (so_idiv (by decide +kernel) (so_iadd (by decide +kernel) (so_istore_n (f := 3) (by decide +kernel) rfl (by decide +kernel) (so_iload_n (f := 1) (by decide +kernel) rfl (so_aload_n (f := 0) (by decide +kernel) rfl (so_get (C := RX0) (T := TX0) (N := 4) (by decide +kernel) rfl kin_0 (by decide) kw_6 (b := false) rfl (fun _ => rfl) (so_iload_n (f := 3) (by decide +kernel) rfl (so_ishr (by decide +kernel) (so_iconst (i := 1) (by decide +kernel) (by decide +kernel) (by decide) (so_iand (by decide +kernel) (so_iload_n (f := 2) (by decide +kernel) rfl (so_ishl (by decide +kernel) (so_ior (by decide +kernel) (so_istore_n (f := 1) (by decide +kernel) rfl (by decide +kernel) (so_iinc (z := 1) (by decide +kernel) (by decide +kernel) (by decide) (by decide +kernel) (so_goto (off := -34) (tgt := 4) (by decide +kernel) (by decide) (hj 1 _ _ rfl))))))))))))))))))))))))))))
set_option maxRecDepth 20000 in
theorem sb_12_0 {j : AJ} (hj : SJ j) : Sound kM_12 0 (mb_12_0 j) := by
  unfold mb_12_0
  exact so_iconst (i := 0) (by decide +kernel) (by decide +kernel) (by decide) (so_istore_n (f := 1) (by decide +kernel) rfl (by decide +kernel) (so_iconst (i := 0) (by decide +kernel) (by decide +kernel) (by decide) (so_istore_n (f := 2) (by decide +kernel) rfl (by decide +kernel) (sb_12_4 hj))))
set_option maxRecDepth 20000 in
theorem sb_13_56 {j : AJ} (hj : SJ j) : Sound kM_13 56 (mb_13_56 j) := by
  unfold mb_13_56
  exact so_iload_n (f := 2) (by decide +kernel) rfl (so_reti (by decide +kernel) rfl)
set_option maxRecDepth 20000 in
theorem sb_13_6 {j : AJ} (hj : SJ j) : Sound kM_13 6 (mb_13_6 j) := by
  unfold mb_13_6
  exact so_iload_n (f := 3) (by decide +kernel) rfl (so_bipush (i := 16) (by decide +kernel) (by decide +kernel) (by decide) (so_icmp (off := 47) (tgt := 56) (by decide +kernel) (by decide) rfl (sb_13_56 hj) (so_iload_n (f := 2) (by decide +kernel) rfl (so_sipush (i := 30583) (by decide +kernel) (by decide +kernel) (by decide) (so_iand (by decide +kernel) (so_iconst (i := 1) (by decide +kernel) (by decide +kernel) (by decide) (so_ishl (by decide +kernel) (so_istore (by decide +kernel) (by decide +kernel) (so_iload_n (f := 2) (by decide +kernel) rfl (so_ldci (i := 42) (by decide +kernel) kw_19 (by decide) (so_iand (by decide +kernel) (so_iconst (i := 1) (by decide +kernel) (by decide +kernel) (by decide) (so_ishr (by decide +kernel) (so_istore (by decide +kernel) (by decide +kernel) (so_iload_n (f := 2) (by decide +kernel) rfl (so_iload (by decide +kernel) (so_iload (by decide +kernel) (so_ior (by decide +kernel) (so_iload_n (f := 2) (by decide +kernel) rfl (so_iconst (i := 4) (by decide +kernel) (by decide +kernel) (by decide) (so_ishl (by decide +kernel) (so_ior (by decide +kernel) (so_iload_n (f := 2) (by decide +kernel) rfl (so_iconst (i := 4) (by decide +kernel) (by decide +kernel) (by decide) (so_ishr (by decide +kernel) (so_ior (by decide +kernel) (so_aload_n (f := 0) (by decide +kernel) rfl (so_get (C := RX0) (T := TX0) (N := 4) (by decide +kernel) rfl kin_0 (by decide) kw_6 (b := false) rfl (fun _ => rfl) (so_iand (by decide +kernel) (so_ior (by decide +kernel) (so_istore_n (f := 2) (by decide +kernel) rfl (by decide +kernel) (so_iinc (z := 1) (by decide +kernel) (by decide +kernel) (by decide) (by decide +kernel) (so_goto (off := -47) (tgt := 6) (by decide +kernel) (by decide) (hj 2 _ _ rfl))))))))))))))))))))))))))))))))))
set_option maxRecDepth 20000 in
theorem sb_13_0 {j : AJ} (hj : SJ j) : Sound kM_13 0 (mb_13_0 j) := by
  unfold mb_13_0
  exact so_iconst (i := 1) (by decide +kernel) (by decide +kernel) (by decide) (so_iload_n (f := 1) (by decide +kernel) rfl (so_ishl (by decide +kernel) (so_istore_n (f := 2) (by decide +kernel) rfl (by decide +kernel) (so_iconst (i := 0) (by decide +kernel) (by decide +kernel) (by decide) (so_istore_n (f := 3) (by decide +kernel) rfl (by decide +kernel) (sb_13_6 hj))))))
set_option maxRecDepth 20000 in
theorem sb_14_42 {j : AJ} (hj : SJ j) : Sound kM_14 42 (mb_14_42 j) := by
  unfold mb_14_42
  exact so_iload_n (f := 2) (by decide +kernel) rfl (so_reti (by decide +kernel) rfl)
set_option maxRecDepth 20000 in
theorem sb_14_36 {j : AJ} (hj : SJ j) : Sound kM_14 36 (mb_14_36 j) := by
  unfold mb_14_36
  exact so_iinc (z := 1) (by decide +kernel) (by decide +kernel) (by decide) (by decide +kernel) (so_goto (off := -30) (tgt := 9) (by decide +kernel) (by decide) (hj 3 _ _ rfl))
set_option maxRecDepth 20000 in
theorem sb_14_9 {j : AJ} (hj : SJ j) : Sound kM_14 9 (mb_14_9 j) := by
  unfold mb_14_9
  exact so_iload_n (f := 3) (by decide +kernel) rfl (so_bipush (i := 16) (by decide +kernel) (by decide +kernel) (by decide) (so_icmp (off := 30) (tgt := 42) (by decide +kernel) (by decide) rfl (sb_14_42 hj) (so_iload_n (f := 1) (by decide +kernel) rfl (so_iload_n (f := 3) (by decide +kernel) rfl (so_ishr (by decide +kernel) (so_iconst (i := 1) (by decide +kernel) (by decide +kernel) (by decide) (so_iand (by decide +kernel) (so_if (off := 16) (tgt := 36) (by decide +kernel) (by decide) rfl (sb_14_36 hj) (so_iload_n (f := 1) (by decide +kernel) rfl (so_aload_n (f := 0) (by decide +kernel) rfl (so_iload_n (f := 3) (by decide +kernel) rfl (so_callV (C := RX0) (T := TX0) (N0 := 4) (by decide +kernel) kcf_13 rfl rfl rfl kw_20 kw_21 kw_22 (by decide +kernel) (sb_13_0 hj) (so_iconst (i := -1) (by decide +kernel) (by decide +kernel) (by decide) (so_ixor (by decide +kernel) (so_iand (by decide +kernel) (so_istore_n (f := 1) (by decide +kernel) rfl (by decide +kernel) (so_iinc (z := 1) (by decide +kernel) (by decide +kernel) (by decide) (by decide +kernel) (sb_14_36 hj))))))))))))))))))
set_option maxRecDepth 20000 in
theorem sb_14_0 {j : AJ} (hj : SJ j) : Sound kM_14 0 (mb_14_0 j) := by
  unfold mb_14_0
  exact so_aload_n (f := 0) (by decide +kernel) rfl (so_get (C := RX0) (T := TX0) (N := 4) (by decide +kernel) rfl kin_0 (by decide) kw_6 (b := false) rfl (fun _ => rfl) (so_istore_n (f := 1) (by decide +kernel) rfl (by decide +kernel) (so_iconst (i := 0) (by decide +kernel) (by decide +kernel) (by decide) (so_istore_n (f := 2) (by decide +kernel) rfl (by decide +kernel) (so_iconst (i := 0) (by decide +kernel) (by decide +kernel) (by decide) (so_istore_n (f := 3) (by decide +kernel) rfl (by decide +kernel) (sb_14_9 hj)))))))
set_option maxRecDepth 20000 in
theorem sc_15_10 {j : AJ} (hj : SJ j) : Sound kM_15 10 (mc_15_10 j) := by
  unfold mc_15_10
  exact so_reti (by decide +kernel) rfl
set_option maxRecDepth 20000 in
theorem sb_15_10 {j : AJ} (hj : SJ j) : Sound kM_15 10 (mb_15_10 j) := by
  refine so_weak (sc_15_10 hj) (fun L S h r q0 => ?_)
  obtain ⟨i0, L0_, rfl, q1⟩ := w_I_some q0
  obtain ⟨i1, L1_, rfl, q2⟩ := w_I_some q1
  obtain ⟨rfl, q3⟩ := w_0_some q2
  obtain ⟨s0, S0_, rfl, q4⟩ := a_popI_some q3
  obtain ⟨rfl, q5⟩ := a_nil_some q4
  exact q5
set_option maxRecDepth 20000 in
theorem sc_15_9 {j : AJ} (hj : SJ j) : Sound kM_15 9 (mc_15_9 j) := by
  unfold mc_15_9
  exact so_iload_n (f := 1) (by decide +kernel) rfl (sb_15_10 hj)
set_option maxRecDepth 20000 in
theorem sb_15_9 {j : AJ} (hj : SJ j) : Sound kM_15 9 (mb_15_9 j) := by
  refine so_weak (sc_15_9 hj) (fun L S h r q0 => ?_)
  obtain ⟨i0, L0_, rfl, q1⟩ := w_I_some q0
  obtain ⟨i1, L1_, rfl, q2⟩ := w_I_some q1
  obtain ⟨rfl, q3⟩ := w_0_some q2
  obtain ⟨rfl, q4⟩ := a_nil_some q3
  exact q4
set_option maxRecDepth 20000 in
theorem sc_15_0 {j : AJ} (hj : SJ j) : Sound kM_15 0 (mc_15_0 j) := by
  unfold mc_15_0
  exact so_iload_n (f := 0) (by decide +kernel) rfl (so_iload_n (f := 1) (by decide +kernel) rfl (so_icmp (off := 7) (tgt := 9) (by decide +kernel) (by decide) rfl (sb_15_9 hj) (so_iload_n (f := 0) (by decide +kernel) rfl (so_goto (off := 4) (tgt := 10) (by decide +kernel) (by decide) (sb_15_10 hj)))))
set_option maxRecDepth 20000 in
theorem sb_15_0 {j : AJ} (hj : SJ j) : Sound kM_15 0 (mb_15_0 j) := by
  refine so_weak (sc_15_0 hj) (fun L S h r q0 => ?_)
  obtain ⟨i0, L0_, rfl, q1⟩ := w_I_some q0
  obtain ⟨i1, L1_, rfl, q2⟩ := w_I_some q1
  obtain ⟨rfl, q3⟩ := w_0_some q2
  obtain ⟨rfl, q4⟩ := a_nil_some q3
  exact q4
set_option maxRecDepth 20000 in
theorem sc_16_10 {j : AJ} (hj : SJ j) : Sound kM_16 10 (mc_16_10 j) := by
  unfold mc_16_10
  exact so_reti (by decide +kernel) rfl
set_option maxRecDepth 20000 in
theorem sb_16_10 {j : AJ} (hj : SJ j) : Sound kM_16 10 (mb_16_10 j) := by
  refine so_weak (sc_16_10 hj) (fun L S h r q0 => ?_)
  obtain ⟨i0, L0_, rfl, q1⟩ := w_I_some q0
  obtain ⟨i1, L1_, rfl, q2⟩ := w_I_some q1
  obtain ⟨rfl, q3⟩ := w_0_some q2
  obtain ⟨s0, S0_, rfl, q4⟩ := a_popI_some q3
  obtain ⟨rfl, q5⟩ := a_nil_some q4
  exact q5
set_option maxRecDepth 20000 in
theorem sc_16_9 {j : AJ} (hj : SJ j) : Sound kM_16 9 (mc_16_9 j) := by
  unfold mc_16_9
  exact so_iload_n (f := 1) (by decide +kernel) rfl (sb_16_10 hj)
set_option maxRecDepth 20000 in
theorem sb_16_9 {j : AJ} (hj : SJ j) : Sound kM_16 9 (mb_16_9 j) := by
  refine so_weak (sc_16_9 hj) (fun L S h r q0 => ?_)
  obtain ⟨i0, L0_, rfl, q1⟩ := w_I_some q0
  obtain ⟨i1, L1_, rfl, q2⟩ := w_I_some q1
  obtain ⟨rfl, q3⟩ := w_0_some q2
  obtain ⟨rfl, q4⟩ := a_nil_some q3
  exact q4
set_option maxRecDepth 20000 in
theorem sc_16_0 {j : AJ} (hj : SJ j) : Sound kM_16 0 (mc_16_0 j) := by
  unfold mc_16_0
  exact so_iload_n (f := 0) (by decide +kernel) rfl (so_iload_n (f := 1) (by decide +kernel) rfl (so_icmp (off := 7) (tgt := 9) (by decide +kernel) (by decide) rfl (sb_16_9 hj) (so_iload_n (f := 0) (by decide +kernel) rfl (so_goto (off := 4) (tgt := 10) (by decide +kernel) (by decide) (sb_16_10 hj)))))
set_option maxRecDepth 20000 in
theorem sb_16_0 {j : AJ} (hj : SJ j) : Sound kM_16 0 (mb_16_0 j) := by
  refine so_weak (sc_16_0 hj) (fun L S h r q0 => ?_)
  obtain ⟨i0, L0_, rfl, q1⟩ := w_I_some q0
  obtain ⟨i1, L1_, rfl, q2⟩ := w_I_some q1
  obtain ⟨rfl, q3⟩ := w_0_some q2
  obtain ⟨rfl, q4⟩ := a_nil_some q3
  exact q4
set_option maxRecDepth 20000 in
theorem sb_17_0 {j : AJ} (hj : SJ j) : Sound kM_17 0 (mb_17_0 j) := by
  unfold mb_17_0
  exact so_aload_n (f := 0) (by decide +kernel) rfl (so_objInit (by decide +kernel) kw_23 kw_1 kw_2 (by decide +kernel) (so_aload_n (f := 0) (by decide +kernel) rfl (so_iconst (i := 1) (by decide +kernel) (by decide +kernel) (by decide) (so_iload_n (f := 1) (by decide +kernel) rfl (so_sipush (i := 320) (by decide +kernel) (by decide +kernel) (by decide) (so_callS (by decide +kernel) kcf_15 rfl kw_24 kw_25 (by decide +kernel) (sb_15_0 hj) (so_callS (by decide +kernel) kcf_16 rfl kw_26 kw_27 (by decide +kernel) (sb_16_0 hj) (so_putIF (C := RX5) (T := TX5) (N := 2) (ty0 := tyX5) (by decide +kernel) rfl kin_5 tyX5_ok nmX5 (by decide) kw_28 rfl rfl rfl rfl rfl (so_aload_n (f := 0) (by decide +kernel) rfl (so_aload_n (f := 0) (by decide +kernel) rfl (so_get (C := RX5) (T := TX5) (N := 2) (by decide +kernel) rfl kin_5 (by decide) kw_28 (b := false) rfl (fun _ => rfl) (so_iconst (i := 5) (by decide +kernel) (by decide +kernel) (by decide) (so_imul (by decide +kernel) (so_newaL (by decide +kernel) kw_29 (so_putRF (C := RX5) (T := TX5) (N := 2) (ty0 := tyX5) (by decide +kernel) rfl kin_5 tyX5_ok nmX5 (by decide) kw_30 rfl rfl rfl (fun _ => rfl) (fun _ => rfl) rfl (so_retv (by decide +kernel) rfl))))))))))))))))
set_option maxRecDepth 20000 in
theorem sb_18_0 {j : AJ} (hj : SJ j) : Sound kM_18 0 (mb_18_0 j) := by
  unfold mb_18_0
  exact so_aload_n (f := 0) (by decide +kernel) rfl (so_objInit (by decide +kernel) kw_31 kw_1 kw_2 (by decide +kernel) (so_aload_n (f := 0) (by decide +kernel) rfl (so_iconst (i := 1) (by decide +kernel) (by decide +kernel) (by decide) (so_putI (C := RX1) (T := TX1) (N := 4) (ty0 := tyX1) (by decide +kernel) rfl kin_1 tyX1_ok nmX1 (by decide) kw_32 rfl rfl rfl (so_aload_n (f := 0) (by decide +kernel) rfl (so_iconst (i := 0) (by decide +kernel) (by decide +kernel) (by decide) (so_putI (C := RX1) (T := TX1) (N := 4) (ty0 := tyX1) (by decide +kernel) rfl kin_1 tyX1_ok nmX1 (by decide) kw_33 rfl rfl rfl (so_aload_n (f := 0) (by decide +kernel) rfl (so_new (C := RX5) (T := TX5) (N := 2) (ty := tyX5) (by decide +kernel) rfl kin_5 tyX5_ok kw_34 kw_35 kw_36 rfl (by decide +kernel) (so_dup (by decide +kernel) (so_iload_n (f := 1) (by decide +kernel) rfl (so_callI (by decide +kernel) kcf_17 rfl rfl rfl kw_37 kw_38 (by decide +kernel) (sb_17_0 hj) (so_putRF (C := RX1) (T := TX1) (N := 4) (ty0 := tyX1) (by decide +kernel) rfl kin_1 tyX1_ok nmX1 (by decide) kw_39 rfl rfl rfl (fun _ => rfl) (fun _ => rfl) rfl (so_aload_n (f := 0) (by decide +kernel) rfl (so_new (C := RX5) (T := TX5) (N := 2) (ty := tyX5) (by decide +kernel) rfl kin_5 tyX5_ok kw_34 kw_35 kw_36 rfl (by decide +kernel) (so_dup (by decide +kernel) (so_iload_n (f := 1) (by decide +kernel) rfl (so_callI (by decide +kernel) kcf_17 rfl rfl rfl kw_37 kw_38 (by decide +kernel) (sb_17_0 hj) (so_putRF (C := RX1) (T := TX1) (N := 4) (ty0 := tyX1) (by decide +kernel) rfl kin_1 tyX1_ok nmX1 (by decide) kw_40 rfl rfl rfl (fun _ => rfl) (fun _ => rfl) rfl (so_retv (by decide +kernel) rfl))))))))))))))))))))
set_option maxRecDepth 20000 in
theorem sc_19_15 {j : AJ} (hj : SJ j) : Sound kM_19 15 (mc_19_15 j) := by
  unfold mc_19_15
  exact so_reta (by decide +kernel) rfl
set_option maxRecDepth 20000 in
theorem sb_19_15 {j : AJ} (hj : SJ j) : Sound kM_19 15 (mb_19_15 j) := by
  refine so_weak (sc_19_15 hj) (fun L S h r q0 => ?_)
  obtain ⟨c0, L0_, rfl, q1⟩ := w_C_some q0
  obtain ⟨i1, L1_, rfl, q2⟩ := w_I_some q1
  obtain ⟨rfl, q3⟩ := w_0_some q2
  obtain ⟨s0, S0_, rfl, q4⟩ := a_popR_some q3
  obtain ⟨rfl, q5⟩ := a_nil_some q4
  exact q5
set_option maxRecDepth 20000 in
theorem sc_19_11 {j : AJ} (hj : SJ j) : Sound kM_19 11 (mc_19_11 j) := by
  unfold mc_19_11
  exact so_aload_n (f := 0) (by decide +kernel) rfl (so_get (C := RX1) (T := TX1) (N := 4) (by decide +kernel) rfl kin_1 (by decide) kw_40 (b := true) rfl (fun _ => rfl) (sb_19_15 hj))
set_option maxRecDepth 20000 in
theorem sb_19_11 {j : AJ} (hj : SJ j) : Sound kM_19 11 (mb_19_11 j) := by
  refine so_weak (sc_19_11 hj) (fun L S h r q0 => ?_)
  obtain ⟨c0, L0_, rfl, q1⟩ := w_C_some q0
  obtain ⟨i1, L1_, rfl, q2⟩ := w_I_some q1
  obtain ⟨rfl, q3⟩ := w_0_some q2
  obtain ⟨rfl, q4⟩ := a_nil_some q3
  exact q4
set_option maxRecDepth 20000 in
theorem sc_19_0 {j : AJ} (hj : SJ j) : Sound kM_19 0 (mc_19_0 j) := by
  unfold mc_19_0
  exact so_iload_n (f := 1) (by decide +kernel) rfl (so_if (off := 10) (tgt := 11) (by decide +kernel) (by decide) rfl (sb_19_11 hj) (so_aload_n (f := 0) (by decide +kernel) rfl (so_get (C := RX1) (T := TX1) (N := 4) (by decide +kernel) rfl kin_1 (by decide) kw_39 (b := true) rfl (fun _ => rfl) (so_goto (off := 7) (tgt := 15) (by decide +kernel) (by decide) (sb_19_15 hj)))))
set_option maxRecDepth 20000 in
theorem sb_19_0 {j : AJ} (hj : SJ j) : Sound kM_19 0 (mb_19_0 j) := by
  refine so_weak (sc_19_0 hj) (fun L S h r q0 => ?_)
  obtain ⟨c0, L0_, rfl, q1⟩ := w_C_some q0
  obtain ⟨i1, L1_, rfl, q2⟩ := w_I_some q1
  obtain ⟨rfl, q3⟩ := w_0_some q2
  obtain ⟨rfl, q4⟩ := a_nil_some q3
  exact q4
set_option maxRecDepth 20000 in
theorem sb_20_0 {j : AJ} (hj : SJ j) : Sound kM_20 0 (mb_20_0 j) := by
  unfold mb_20_0
  exact so_aload_n (f := 0) (by decide +kernel) rfl (so_objInit (by decide +kernel) kw_41 kw_1 kw_2 (by decide +kernel) (so_aload_n (f := 0) (by decide +kernel) rfl (so_sipush (i := 320) (by decide +kernel) (by decide +kernel) (by decide) (so_newaZ (by decide +kernel) kw_42 (so_putRF (C := RX2) (T := TX2) (N := 4) (ty0 := tyX2) (by decide +kernel) rfl kin_2 tyX2_ok nmX2 (by decide) kw_43 rfl rfl rfl (fun _ => rfl) (fun _ => rfl) rfl (so_aload_n (f := 0) (by decide +kernel) rfl (so_sipush (i := 320) (by decide +kernel) (by decide +kernel) (by decide) (so_newaI (by decide +kernel) kw_3 (so_putRF (C := RX2) (T := TX2) (N := 4) (ty0 := tyX2) (by decide +kernel) rfl kin_2 tyX2_ok nmX2 (by decide) kw_44 rfl rfl rfl (fun _ => rfl) (fun _ => rfl) rfl (so_aload_n (f := 0) (by decide +kernel) rfl (so_sipush (i := 320) (by decide +kernel) (by decide +kernel) (by decide) (so_newaI (by decide +kernel) kw_3 (so_putRF (C := RX2) (T := TX2) (N := 4) (ty0 := tyX2) (by decide +kernel) rfl kin_2 tyX2_ok nmX2 (by decide) kw_45 rfl rfl rfl (fun _ => rfl) (fun _ => rfl) rfl (so_aload_n (f := 0) (by decide +kernel) rfl (so_sipush (i := 320) (by decide +kernel) (by decide +kernel) (by decide) (so_newaI (by decide +kernel) kw_3 (so_putRF (C := RX2) (T := TX2) (N := 4) (ty0 := tyX2) (by decide +kernel) rfl kin_2 tyX2_ok nmX2 (by decide) kw_46 rfl rfl rfl (fun _ => rfl) (fun _ => rfl) rfl (so_retv (by decide +kernel) rfl))))))))))))))))))
set_option maxRecDepth 20000 in
theorem sc_21_36 {j : AJ} (hj : SJ j) : Sound kM_21 36 (mc_21_36 j) := by
  unfold mc_21_36
  exact so_reti (by decide +kernel) rfl
set_option maxRecDepth 20000 in
theorem sb_21_36 {j : AJ} (hj : SJ j) : Sound kM_21 36 (mb_21_36 j) := by
  refine so_weak (sc_21_36 hj) (fun L S h r q0 => ?_)
  obtain ⟨c0, L0_, rfl, q1⟩ := w_C_some q0
  obtain ⟨i1, L1_, rfl, q2⟩ := w_I_some q1
  obtain ⟨i2, L2_, rfl, q3⟩ := w_I_some q2
  obtain ⟨rfl, q4⟩ := w_0_some q3
  obtain ⟨s0, S0_, rfl, q5⟩ := a_popI_some q4
  obtain ⟨rfl, q6⟩ := a_nil_some q5
  exact q6
set_option maxRecDepth 20000 in
theorem sc_21_34 {j : AJ} (hj : SJ j) : Sound kM_21 34 (mc_21_34 j) := by
  unfold mc_21_34
  exact so_bipush (i := -4) (by decide +kernel) (by decide +kernel) (by decide) (sb_21_36 hj)
set_option maxRecDepth 20000 in
theorem sb_21_34 {j : AJ} (hj : SJ j) : Sound kM_21 34 (mb_21_34 j) := by
  refine so_weak (sc_21_34 hj) (fun L S h r q0 => ?_)
  obtain ⟨c0, L0_, rfl, q1⟩ := w_C_some q0
  obtain ⟨i1, L1_, rfl, q2⟩ := w_I_some q1
  obtain ⟨i2, L2_, rfl, q3⟩ := w_I_some q2
  obtain ⟨rfl, q4⟩ := w_0_some q3
  obtain ⟨rfl, q5⟩ := a_nil_some q4
  exact q5
set_option maxRecDepth 20000 in
theorem sc_21_0 {j : AJ} (hj : SJ j) : Sound kM_21 0 (mc_21_0 j) := by
  unfold mc_21_0
  exact so_iload_n (f := 1) (by decide +kernel) rfl (so_if (off := 33) (tgt := 34) (by decide +kernel) (by decide) rfl (sb_21_34 hj) (so_iload_n (f := 1) (by decide +kernel) rfl (so_aload_n (f := 0) (by decide +kernel) rfl (so_get (C := RX5) (T := TX5) (N := 2) (by decide +kernel) rfl kin_5 (by decide) kw_28 (b := false) rfl (fun _ => rfl) (so_icmp (off := 25) (tgt := 34) (by decide +kernel) (by decide) rfl (sb_21_34 hj) (so_iload_n (f := 2) (by decide +kernel) rfl (so_if (off := 21) (tgt := 34) (by decide +kernel) (by decide) rfl (sb_21_34 hj) (so_iload_n (f := 2) (by decide +kernel) rfl (so_sipush (i := 320) (by decide +kernel) (by decide +kernel) (by decide) (so_icmp (off := 14) (tgt := 34) (by decide +kernel) (by decide) rfl (sb_21_34 hj) (so_iload_n (f := 1) (by decide +kernel) rfl (so_iconst (i := 5) (by decide +kernel) (by decide +kernel) (by decide) (so_imul (by decide +kernel) (so_iload_n (f := 2) (by decide +kernel) rfl (so_bipush (i := 6) (by decide +kernel) (by decide +kernel) (by decide) (so_ishr (by decide +kernel) (so_iadd (by decide +kernel) (so_goto (off := 5) (tgt := 36) (by decide +kernel) (by decide) (sb_21_36 hj)))))))))))))))))))
set_option maxRecDepth 20000 in
theorem sb_21_0 {j : AJ} (hj : SJ j) : Sound kM_21 0 (mb_21_0 j) := by
  refine so_weak (sc_21_0 hj) (fun L S h r q0 => ?_)
  obtain ⟨c0, L0_, rfl, q1⟩ := w_C_some q0
  obtain ⟨i1, L1_, rfl, q2⟩ := w_I_some q1
  obtain ⟨i2, L2_, rfl, q3⟩ := w_I_some q2
  obtain ⟨rfl, q4⟩ := w_0_some q3
  obtain ⟨rfl, q5⟩ := a_nil_some q4
  exact q5
set_option maxRecDepth 20000 in
theorem sc_22_0 {j : AJ} (hj : SJ j) : Sound kM_22 0 (mc_22_0 j) := by
  unfold mc_22_0
  exact so_lload_n (f := 0) (by decide +kernel) rfl (so_lload_n (f := 0) (by decide +kernel) rfl (so_iconst (i := 1) (by decide +kernel) (by decide +kernel) (by decide) (so_lushr (by decide +kernel) (so_ldc2w (i := 314) (by decide +kernel) kw_47 (by decide) (so_land (by decide +kernel) (so_lsub (by decide +kernel) (so_lstore_n (f := 0) (by decide +kernel) rfl (by decide +kernel) (so_lload_n (f := 0) (by decide +kernel) rfl (so_ldc2w (i := 316) (by decide +kernel) kw_48 (by decide) (so_land (by decide +kernel) (so_lload_n (f := 0) (by decide +kernel) rfl (so_iconst (i := 2) (by decide +kernel) (by decide +kernel) (by decide) (so_lushr (by decide +kernel) (so_ldc2w (i := 316) (by decide +kernel) kw_48 (by decide) (so_land (by decide +kernel) (so_ladd (by decide +kernel) (so_lstore_n (f := 0) (by decide +kernel) rfl (by decide +kernel) (so_lload_n (f := 0) (by decide +kernel) rfl (so_lload_n (f := 0) (by decide +kernel) rfl (so_iconst (i := 4) (by decide +kernel) (by decide +kernel) (by decide) (so_lushr (by decide +kernel) (so_ladd (by decide +kernel) (so_ldc2w (i := 318) (by decide +kernel) kw_49 (by decide) (so_land (by decide +kernel) (so_lstore_n (f := 0) (by decide +kernel) rfl (by decide +kernel) (so_lload_n (f := 0) (by decide +kernel) rfl (so_lload_n (f := 0) (by decide +kernel) rfl (so_bipush (i := 8) (by decide +kernel) (by decide +kernel) (by decide) (so_lushr (by decide +kernel) (so_ladd (by decide +kernel) (so_lstore_n (f := 0) (by decide +kernel) rfl (by decide +kernel) (so_lload_n (f := 0) (by decide +kernel) rfl (so_lload_n (f := 0) (by decide +kernel) rfl (so_bipush (i := 16) (by decide +kernel) (by decide +kernel) (by decide) (so_lushr (by decide +kernel) (so_ladd (by decide +kernel) (so_lstore_n (f := 0) (by decide +kernel) rfl (by decide +kernel) (so_lload_n (f := 0) (by decide +kernel) rfl (so_lload_n (f := 0) (by decide +kernel) rfl (so_bipush (i := 32) (by decide +kernel) (by decide +kernel) (by decide) (so_lushr (by decide +kernel) (so_ladd (by decide +kernel) (so_lstore_n (f := 0) (by decide +kernel) rfl (by decide +kernel) (so_lload_n (f := 0) (by decide +kernel) rfl (so_l2i (by decide +kernel) (so_bipush (i := 127) (by decide +kernel) (by decide +kernel) (by decide) (so_iand (by decide +kernel) (so_reti (by decide +kernel) rfl))))))))))))))))))))))))))))))))))))))))))))))))
set_option maxRecDepth 20000 in
theorem sb_22_0 {j : AJ} (hj : SJ j) : Sound kM_22 0 (mb_22_0 j) := by
  refine so_weak (sc_22_0 hj) (fun L S h r q0 => ?_)
  obtain ⟨l0, L0_, rfl, q1⟩ := w_L_some q0
  obtain ⟨L1_, rfl, q2⟩ := w_N_some q1
  obtain ⟨rfl, q3⟩ := w_0_some q2
  obtain ⟨rfl, q4⟩ := a_nil_some q3
  exact q4
set_option maxRecDepth 20000 in
theorem sc_23_84 {j : AJ} (hj : SJ j) : Sound kM_23 84 (mc_23_84 j) := by
  unfold mc_23_84
  exact so_sipush (i := 320) (by decide +kernel) (by decide +kernel) (by decide) (so_reti (by decide +kernel) rfl)
set_option maxRecDepth 20000 in
theorem sb_23_84 {j : AJ} (hj : SJ j) : Sound kM_23 84 (mb_23_84 j) := by
  refine so_weak (sc_23_84 hj) (fun L S h r q0 => ?_)
  obtain ⟨c0, L0_, rfl, q1⟩ := w_C_some q0
  obtain ⟨i1, L1_, rfl, q2⟩ := w_I_some q1
  obtain ⟨i2, L2_, rfl, q3⟩ := w_I_some q2
  obtain ⟨l3, L3_, rfl, q4⟩ := w_L_some q3
  obtain ⟨L4_, rfl, q5⟩ := w_N_some q4
  obtain ⟨i5, L5_, rfl, q6⟩ := w_I_some q5
  obtain ⟨x6, L6_, rfl, q7⟩ := w_X_some q6
  obtain ⟨L7_, rfl, q8⟩ := w_N_some q7
  obtain ⟨rfl, q9⟩ := w_0_some q8
  obtain ⟨rfl, q10⟩ := a_nil_some q9
  exact q10
set_option maxRecDepth 20000 in
theorem sc_23_74 {j : AJ} (hj : SJ j) : Sound kM_23 74 (mc_23_74 j) := by
  unfold mc_23_74
  exact so_ldc2w (i := 31) (by decide +kernel) kw_50 (by decide) (so_lstore_n (f := 3) (by decide +kernel) rfl (by decide +kernel) (so_iinc (z := 1) (by decide +kernel) (by decide +kernel) (by decide) (by decide +kernel) (so_goto (off := -53) (tgt := 28) (by decide +kernel) (by decide) (hj 4 _ _ rfl))))
set_option maxRecDepth 20000 in
theorem sb_23_74 {j : AJ} (hj : SJ j) : Sound kM_23 74 (mb_23_74 j) := by
  refine so_weak (sc_23_74 hj) (fun L S h r q0 => ?_)
  obtain ⟨c0, L0_, rfl, q1⟩ := w_C_some q0
  obtain ⟨i1, L1_, rfl, q2⟩ := w_I_some q1
  obtain ⟨i2, L2_, rfl, q3⟩ := w_I_some q2
  obtain ⟨l3, L3_, rfl, q4⟩ := w_L_some q3
  obtain ⟨L4_, rfl, q5⟩ := w_N_some q4
  obtain ⟨i5, L5_, rfl, q6⟩ := w_I_some q5
  obtain ⟨l6, L6_, rfl, q7⟩ := w_L_some q6
  obtain ⟨L7_, rfl, q8⟩ := w_N_some q7
  obtain ⟨rfl, q9⟩ := w_0_some q8
  obtain ⟨rfl, q10⟩ := a_nil_some q9
  exact q10
set_option maxRecDepth 20000 in
theorem sc_23_28 {j : AJ} (hj : SJ j) : Sound kM_23 28 (mc_23_28 j) := by
  unfold mc_23_28
  exact so_iload (by decide +kernel) (so_iconst (i := 5) (by decide +kernel) (by decide +kernel) (by decide) (so_icmp (off := 53) (tgt := 84) (by decide +kernel) (by decide) rfl (sb_23_84 hj) (so_aload_n (f := 0) (by decide +kernel) rfl (so_get (C := RX5) (T := TX5) (N := 2) (by decide +kernel) rfl kin_5 (by decide) kw_30 (b := true) rfl (fun _ => rfl) (so_iload_n (f := 1) (by decide +kernel) rfl (so_iconst (i := 5) (by decide +kernel) (by decide +kernel) (by decide) (so_imul (by decide +kernel) (so_iload (by decide +kernel) (so_iadd (by decide +kernel) (so_lald (by decide +kernel) (so_lload_n (f := 3) (by decide +kernel) rfl (so_land (by decide +kernel) (so_lstore (by decide +kernel) (by decide +kernel) (so_lload (by decide +kernel) (so_lconst (i := 0) (by decide +kernel) rfl (so_lcmp (by decide +kernel) (so_if (off := 21) (tgt := 74) (by decide +kernel) (by decide) rfl (sb_23_74 hj) (so_bipush (i := 64) (by decide +kernel) (by decide +kernel) (by decide) (so_iload (by decide +kernel) (so_imul (by decide +kernel) (so_lload (by decide +kernel) (so_lload (by decide +kernel) (so_lneg (by decide +kernel) (so_land (by decide +kernel) (so_lconst (i := 1) (by decide +kernel) rfl (so_lsub (by decide +kernel) (so_weak (so_callS (by decide +kernel) kcf_22 rfl kw_51 kw_52 (by decide +kernel) (sb_22_0 hj) (so_iadd (by decide +kernel) (so_reti (by decide +kernel) rfl))) (callE_imp BK_I))))))))))))))))))))))))))))
set_option maxRecDepth 20000 in
theorem sb_23_28 {j : AJ} (hj : SJ j) : Sound kM_23 28 (mb_23_28 j) := by
  refine so_weak (sc_23_28 hj) (fun L S h r q0 => ?_)
  obtain ⟨c0, L0_, rfl, q1⟩ := w_C_some q0
  obtain ⟨i1, L1_, rfl, q2⟩ := w_I_some q1
  obtain ⟨i2, L2_, rfl, q3⟩ := w_I_some q2
  obtain ⟨l3, L3_, rfl, q4⟩ := w_L_some q3
  obtain ⟨L4_, rfl, q5⟩ := w_N_some q4
  obtain ⟨i5, L5_, rfl, q6⟩ := w_I_some q5
  obtain ⟨x6, L6_, rfl, q7⟩ := w_X_some q6
  obtain ⟨L7_, rfl, q8⟩ := w_N_some q7
  obtain ⟨rfl, q9⟩ := w_0_some q8
  obtain ⟨rfl, q10⟩ := a_nil_some q9
  exact q10
set_option maxRecDepth 20000 in
theorem sc_23_13 {j : AJ} (hj : SJ j) : Sound kM_23 13 (mc_23_13 j) := by
  unfold mc_23_13
  exact so_ldc2w (i := 31) (by decide +kernel) kw_50 (by decide) (so_iload_n (f := 2) (by decide +kernel) rfl (so_bipush (i := 63) (by decide +kernel) (by decide +kernel) (by decide) (so_iand (by decide +kernel) (so_lshl (by decide +kernel) (so_lstore_n (f := 3) (by decide +kernel) rfl (by decide +kernel) (so_iload_n (f := 2) (by decide +kernel) rfl (so_bipush (i := 6) (by decide +kernel) (by decide +kernel) (by decide) (so_ishr (by decide +kernel) (so_istore (by decide +kernel) (by decide +kernel) (sb_23_28 hj))))))))))
set_option maxRecDepth 20000 in
theorem sb_23_13 {j : AJ} (hj : SJ j) : Sound kM_23 13 (mb_23_13 j) := by
  refine so_weak (sc_23_13 hj) (fun L S h r q0 => ?_)
  obtain ⟨c0, L0_, rfl, q1⟩ := w_C_some q0
  obtain ⟨i1, L1_, rfl, q2⟩ := w_I_some q1
  obtain ⟨i2, L2_, rfl, q3⟩ := w_I_some q2
  obtain ⟨L3_, rfl, q4⟩ := w_N_some q3
  obtain ⟨L4_, rfl, q5⟩ := w_N_some q4
  obtain ⟨L5_, rfl, q6⟩ := w_N_some q5
  obtain ⟨L6_, rfl, q7⟩ := w_N_some q6
  obtain ⟨L7_, rfl, q8⟩ := w_N_some q7
  obtain ⟨rfl, q9⟩ := w_0_some q8
  obtain ⟨rfl, q10⟩ := a_nil_some q9
  exact q10
set_option maxRecDepth 20000 in
theorem sc_23_0 {j : AJ} (hj : SJ j) : Sound kM_23 0 (mc_23_0 j) := by
  unfold mc_23_0
  exact so_aload_n (f := 0) (by decide +kernel) rfl (so_iload_n (f := 1) (by decide +kernel) rfl (so_iload_n (f := 2) (by decide +kernel) rfl (so_weak (so_callV (C := RX5) (T := TX5) (N0 := 2) (by decide +kernel) kcf_21 rfl rfl rfl kw_53 kw_54 kw_55 (by decide +kernel) (sb_21_0 hj) (so_if (off := 7) (tgt := 13) (by decide +kernel) (by decide) rfl (sb_23_13 hj) (so_sipush (i := 320) (by decide +kernel) (by decide +kernel) (by decide) (so_reti (by decide +kernel) rfl)))) (callvE_imp BK_I))))
set_option maxRecDepth 20000 in
theorem sb_23_0 {j : AJ} (hj : SJ j) : Sound kM_23 0 (mb_23_0 j) := by
  refine so_weak (sc_23_0 hj) (fun L S h r q0 => ?_)
  obtain ⟨c0, L0_, rfl, q1⟩ := w_C_some q0
  obtain ⟨i1, L1_, rfl, q2⟩ := w_I_some q1
  obtain ⟨i2, L2_, rfl, q3⟩ := w_I_some q2
  obtain ⟨L3_, rfl, q4⟩ := w_N_some q3
  obtain ⟨L4_, rfl, q5⟩ := w_N_some q4
  obtain ⟨L5_, rfl, q6⟩ := w_N_some q5
  obtain ⟨L6_, rfl, q7⟩ := w_N_some q6
  obtain ⟨L7_, rfl, q8⟩ := w_N_some q7
  obtain ⟨rfl, q9⟩ := w_0_some q8
  obtain ⟨rfl, q10⟩ := a_nil_some q9
  exact q10
set_option maxRecDepth 20000 in
theorem sc_24_37 {j : AJ} (hj : SJ j) : Sound kM_24 37 (mc_24_37 j) := by
  unfold mc_24_37
  exact so_retv (by decide +kernel) rfl
set_option maxRecDepth 20000 in
theorem sb_24_37 {j : AJ} (hj : SJ j) : Sound kM_24 37 (mb_24_37 j) := by
  refine so_weak (sc_24_37 hj) (fun L S h r q0 => ?_)
  obtain ⟨c0, L0_, rfl, q1⟩ := w_C_some q0
  obtain ⟨c1, L1_, rfl, q2⟩ := w_C_some q1
  obtain ⟨i2, L2_, rfl, q3⟩ := w_I_some q2
  obtain ⟨i3, L3_, rfl, q4⟩ := w_I_some q3
  obtain ⟨rfl, q5⟩ := w_0_some q4
  obtain ⟨rfl, q6⟩ := a_nil_some q5
  exact q6
set_option maxRecDepth 20000 in
theorem sc_24_7 {j : AJ} (hj : SJ j) : Sound kM_24 7 (mc_24_7 j) := by
  unfold mc_24_7
  exact so_iload_n (f := 3) (by decide +kernel) rfl (so_iload_n (f := 2) (by decide +kernel) rfl (so_icmp (off := 28) (tgt := 37) (by decide +kernel) (by decide) rfl (sb_24_37 hj) (so_aload_n (f := 0) (by decide +kernel) rfl (so_get (C := RX2) (T := TX2) (N := 4) (by decide +kernel) rfl kin_2 (by decide) kw_43 (b := true) rfl (fun _ => rfl) (so_iload_n (f := 3) (by decide +kernel) rfl (so_iconst (i := 1) (by decide +kernel) (by decide +kernel) (by decide) (so_zast (by decide +kernel) (so_iload_n (f := 3) (by decide +kernel) rfl (so_iconst (i := 1) (by decide +kernel) (by decide +kernel) (by decide) (so_iadd (by decide +kernel) (so_aload_n (f := 1) (by decide +kernel) rfl (so_iload_n (f := 2) (by decide +kernel) rfl (so_iload_n (f := 3) (by decide +kernel) rfl (so_iconst (i := 1) (by decide +kernel) (by decide +kernel) (by decide) (so_iadd (by decide +kernel) (so_weak (so_callV (C := RX5) (T := TX5) (N0 := 2) (by decide +kernel) kcf_23 rfl rfl rfl kw_56 kw_57 kw_58 (by decide +kernel) (sb_23_0 hj) (so_weak (so_callS (by decide +kernel) kcf_16 rfl kw_59 kw_27 (by decide +kernel) (sb_16_0 hj) (so_istore_n (f := 3) (by decide +kernel) rfl (by decide +kernel) (so_goto (off := -27) (tgt := 7) (by decide +kernel) (by decide) (hj 5 _ _ rfl)))) (callE_imp BK_I))) (callvE_imp BK_I)))))))))))))))))
set_option maxRecDepth 20000 in
theorem sb_24_7 {j : AJ} (hj : SJ j) : Sound kM_24 7 (mb_24_7 j) := by
  refine so_weak (sc_24_7 hj) (fun L S h r q0 => ?_)
  obtain ⟨c0, L0_, rfl, q1⟩ := w_C_some q0
  obtain ⟨c1, L1_, rfl, q2⟩ := w_C_some q1
  obtain ⟨i2, L2_, rfl, q3⟩ := w_I_some q2
  obtain ⟨i3, L3_, rfl, q4⟩ := w_I_some q3
  obtain ⟨rfl, q5⟩ := w_0_some q4
  obtain ⟨rfl, q6⟩ := a_nil_some q5
  exact q6
set_option maxRecDepth 20000 in
theorem sc_24_0 {j : AJ} (hj : SJ j) : Sound kM_24 0 (mc_24_0 j) := by
  unfold mc_24_0
  exact so_aload_n (f := 1) (by decide +kernel) rfl (so_iload_n (f := 2) (by decide +kernel) rfl (so_iconst (i := 0) (by decide +kernel) (by decide +kernel) (by decide) (so_weak (so_callV (C := RX5) (T := TX5) (N0 := 2) (by decide +kernel) kcf_23 rfl rfl rfl kw_56 kw_57 kw_58 (by decide +kernel) (sb_23_0 hj) (so_istore_n (f := 3) (by decide +kernel) rfl (by decide +kernel) (sb_24_7 hj))) (callvE_imp BK_I))))
set_option maxRecDepth 20000 in
theorem sb_24_0 {j : AJ} (hj : SJ j) : Sound kM_24 0 (mb_24_0 j) := by
  refine so_weak (sc_24_0 hj) (fun L S h r q0 => ?_)
  obtain ⟨c0, L0_, rfl, q1⟩ := w_C_some q0
  obtain ⟨c1, L1_, rfl, q2⟩ := w_C_some q1
  obtain ⟨i2, L2_, rfl, q3⟩ := w_I_some q2
  obtain ⟨L3_, rfl, q4⟩ := w_N_some q3
  obtain ⟨rfl, q5⟩ := w_0_some q4
  obtain ⟨rfl, q6⟩ := a_nil_some q5
  exact q6
set_option maxRecDepth 20000 in
theorem sc_25_66 {j : AJ} (hj : SJ j) : Sound kM_25 66 (mc_25_66 j) := by
  unfold mc_25_66
  exact so_retv (by decide +kernel) rfl
set_option maxRecDepth 20000 in
theorem sb_25_66 {j : AJ} (hj : SJ j) : Sound kM_25 66 (mb_25_66 j) := by
  refine so_weak (sc_25_66 hj) (fun L S h r q0 => ?_)
  obtain ⟨c0, L0_, rfl, q1⟩ := w_C_some q0
  obtain ⟨c1, L1_, rfl, q2⟩ := w_C_some q1
  obtain ⟨i2, L2_, rfl, q3⟩ := w_I_some q2
  obtain ⟨i3, L3_, rfl, q4⟩ := w_I_some q3
  obtain ⟨rfl, q5⟩ := w_0_some q4
  obtain ⟨rfl, q6⟩ := a_nil_some q5
  exact q6
set_option maxRecDepth 20000 in
theorem sc_25_60 {j : AJ} (hj : SJ j) : Sound kM_25 60 (mc_25_60 j) := by
  unfold mc_25_60
  exact so_iinc (z := -1) (by decide +kernel) (by decide +kernel) (by decide) (by decide +kernel) (so_goto (off := -34) (tgt := 29) (by decide +kernel) (by decide) (hj 7 _ _ rfl))
set_option maxRecDepth 20000 in
theorem sb_25_60 {j : AJ} (hj : SJ j) : Sound kM_25 60 (mb_25_60 j) := by
  refine so_weak (sc_25_60 hj) (fun L S h r q0 => ?_)
  obtain ⟨c0, L0_, rfl, q1⟩ := w_C_some q0
  obtain ⟨c1, L1_, rfl, q2⟩ := w_C_some q1
  obtain ⟨i2, L2_, rfl, q3⟩ := w_I_some q2
  obtain ⟨i3, L3_, rfl, q4⟩ := w_I_some q3
  obtain ⟨rfl, q5⟩ := w_0_some q4
  obtain ⟨rfl, q6⟩ := a_nil_some q5
  exact q6
set_option maxRecDepth 20000 in
theorem sc_25_29 {j : AJ} (hj : SJ j) : Sound kM_25 29 (mc_25_29 j) := by
  unfold mc_25_29
  exact so_iload_n (f := 3) (by decide +kernel) rfl (so_if (off := 36) (tgt := 66) (by decide +kernel) (by decide) rfl (sb_25_66 hj) (so_aload_n (f := 0) (by decide +kernel) rfl (so_get (C := RX2) (T := TX2) (N := 4) (by decide +kernel) rfl kin_2 (by decide) kw_43 (b := true) rfl (fun _ => rfl) (so_iload_n (f := 3) (by decide +kernel) rfl (so_zald (by decide +kernel) (so_if (off := 21) (tgt := 60) (by decide +kernel) (by decide) rfl (sb_25_60 hj) (so_aload_n (f := 0) (by decide +kernel) rfl (so_aload_n (f := 1) (by decide +kernel) rfl (so_getN (C := RX7) (T := TX7) (N := 8) (by decide +kernel) rfl kin_7 (by decide) kw_60 (b := true) rfl (fun _ => rfl) (so_iload_n (f := 3) (by decide +kernel) rfl (so_weak (so_callV (C := RX2) (T := TX2) (N0 := 4) (by decide +kernel) kcf_24 rfl rfl rfl kw_61 kw_62 kw_63 (by decide +kernel) (sb_24_0 hj) (so_aload_n (f := 0) (by decide +kernel) rfl (so_aload_n (f := 1) (by decide +kernel) rfl (so_getN (C := RX7) (T := TX7) (N := 8) (by decide +kernel) rfl kin_7 (by decide) kw_64 (b := true) rfl (fun _ => rfl) (so_iload_n (f := 3) (by decide +kernel) rfl (so_weak (so_callV (C := RX2) (T := TX2) (N0 := 4) (by decide +kernel) kcf_24 rfl rfl rfl kw_61 kw_62 kw_63 (by decide +kernel) (sb_24_0 hj) (sb_25_60 hj)) (callvE_imp BK_N))))))) (callvE_imp BK_N))))))))))))
set_option maxRecDepth 20000 in
theorem sb_25_29 {j : AJ} (hj : SJ j) : Sound kM_25 29 (mb_25_29 j) := by
  refine so_weak (sc_25_29 hj) (fun L S h r q0 => ?_)
  obtain ⟨c0, L0_, rfl, q1⟩ := w_C_some q0
  obtain ⟨c1, L1_, rfl, q2⟩ := w_C_some q1
  obtain ⟨i2, L2_, rfl, q3⟩ := w_I_some q2
  obtain ⟨i3, L3_, rfl, q4⟩ := w_I_some q3
  obtain ⟨rfl, q5⟩ := w_0_some q4
  obtain ⟨rfl, q6⟩ := a_nil_some q5
  exact q6
set_option maxRecDepth 20000 in
theorem sc_25_20 {j : AJ} (hj : SJ j) : Sound kM_25 20 (mc_25_20 j) := by
  unfold mc_25_20
  exact so_aload_n (f := 0) (by decide +kernel) rfl (so_get (C := RX2) (T := TX2) (N := 4) (by decide +kernel) rfl kin_2 (by decide) kw_43 (b := true) rfl (fun _ => rfl) (so_iload_n (f := 2) (by decide +kernel) rfl (so_iconst (i := 1) (by decide +kernel) (by decide +kernel) (by decide) (so_zast (by decide +kernel) (so_iload_n (f := 2) (by decide +kernel) rfl (so_istore_n (f := 3) (by decide +kernel) rfl (by decide +kernel) (sb_25_29 hj)))))))
set_option maxRecDepth 20000 in
theorem sb_25_20 {j : AJ} (hj : SJ j) : Sound kM_25 20 (mb_25_20 j) := by
  refine so_weak (sc_25_20 hj) (fun L S h r q0 => ?_)
  obtain ⟨c0, L0_, rfl, q1⟩ := w_C_some q0
  obtain ⟨c1, L1_, rfl, q2⟩ := w_C_some q1
  obtain ⟨i2, L2_, rfl, q3⟩ := w_I_some q2
  obtain ⟨i3, L3_, rfl, q4⟩ := w_I_some q3
  obtain ⟨rfl, q5⟩ := w_0_some q4
  obtain ⟨rfl, q6⟩ := a_nil_some q5
  exact q6
set_option maxRecDepth 20000 in
theorem sc_25_2 {j : AJ} (hj : SJ j) : Sound kM_25 2 (mc_25_2 j) := by
  unfold mc_25_2
  exact so_iload_n (f := 3) (by decide +kernel) rfl (so_iload_n (f := 2) (by decide +kernel) rfl (so_icmp (off := 16) (tgt := 20) (by decide +kernel) (by decide) rfl (sb_25_20 hj) (so_aload_n (f := 0) (by decide +kernel) rfl (so_get (C := RX2) (T := TX2) (N := 4) (by decide +kernel) rfl kin_2 (by decide) kw_43 (b := true) rfl (fun _ => rfl) (so_iload_n (f := 3) (by decide +kernel) rfl (so_iconst (i := 0) (by decide +kernel) (by decide +kernel) (by decide) (so_zast (by decide +kernel) (so_iinc (z := 1) (by decide +kernel) (by decide +kernel) (by decide) (by decide +kernel) (so_goto (off := -15) (tgt := 2) (by decide +kernel) (by decide) (hj 6 _ _ rfl))))))))))
set_option maxRecDepth 20000 in
theorem sb_25_2 {j : AJ} (hj : SJ j) : Sound kM_25 2 (mb_25_2 j) := by
  refine so_weak (sc_25_2 hj) (fun L S h r q0 => ?_)
  obtain ⟨c0, L0_, rfl, q1⟩ := w_C_some q0
  obtain ⟨c1, L1_, rfl, q2⟩ := w_C_some q1
  obtain ⟨i2, L2_, rfl, q3⟩ := w_I_some q2
  obtain ⟨i3, L3_, rfl, q4⟩ := w_I_some q3
  obtain ⟨rfl, q5⟩ := w_0_some q4
  obtain ⟨rfl, q6⟩ := a_nil_some q5
  exact q6
set_option maxRecDepth 20000 in
theorem sc_25_0 {j : AJ} (hj : SJ j) : Sound kM_25 0 (mc_25_0 j) := by
  unfold mc_25_0
  exact so_iconst (i := 0) (by decide +kernel) (by decide +kernel) (by decide) (so_istore_n (f := 3) (by decide +kernel) rfl (by decide +kernel) (sb_25_2 hj))
set_option maxRecDepth 20000 in
theorem sb_25_0 {j : AJ} (hj : SJ j) : Sound kM_25 0 (mb_25_0 j) := by
  refine so_weak (sc_25_0 hj) (fun L S h r q0 => ?_)
  obtain ⟨c0, L0_, rfl, q1⟩ := w_C_some q0
  obtain ⟨c1, L1_, rfl, q2⟩ := w_C_some q1
  obtain ⟨i2, L2_, rfl, q3⟩ := w_I_some q2
  obtain ⟨L3_, rfl, q4⟩ := w_N_some q3
  obtain ⟨rfl, q5⟩ := w_0_some q4
  obtain ⟨rfl, q6⟩ := a_nil_some q5
  exact q6
set_option maxRecDepth 20000 in
theorem sc_26_51 {j : AJ} (hj : SJ j) : Sound kM_26 51 (mc_26_51 j) := by
  unfold mc_26_51
  exact so_iload_n (f := 3) (by decide +kernel) rfl (so_reti (by decide +kernel) rfl)
set_option maxRecDepth 20000 in
theorem sb_26_51 {j : AJ} (hj : SJ j) : Sound kM_26 51 (mb_26_51 j) := by
  refine so_weak (sc_26_51 hj) (fun L S h r q0 => ?_)
  obtain ⟨c0, L0_, rfl, q1⟩ := w_C_some q0
  obtain ⟨c1, L1_, rfl, q2⟩ := w_C_some q1
  obtain ⟨i2, L2_, rfl, q3⟩ := w_I_some q2
  obtain ⟨i3, L3_, rfl, q4⟩ := w_I_some q3
  obtain ⟨i4, L4_, rfl, q5⟩ := w_I_some q4
  obtain ⟨rfl, q6⟩ := w_0_some q5
  obtain ⟨rfl, q7⟩ := a_nil_some q6
  exact q7
set_option maxRecDepth 20000 in
theorem sc_26_10 {j : AJ} (hj : SJ j) : Sound kM_26 10 (mc_26_10 j) := by
  unfold mc_26_10
  exact so_iload (by decide +kernel) (so_iload_n (f := 2) (by decide +kernel) rfl (so_icmp (off := 38) (tgt := 51) (by decide +kernel) (by decide) rfl (sb_26_51 hj) (so_iload_n (f := 3) (by decide +kernel) rfl (so_aload_n (f := 0) (by decide +kernel) rfl (so_get (C := RX2) (T := TX2) (N := 4) (by decide +kernel) rfl kin_2 (by decide) kw_44 (b := true) rfl (fun _ => rfl) (so_iload (by decide +kernel) (so_iald (by decide +kernel) (so_iconst (i := 1) (by decide +kernel) (by decide +kernel) (by decide) (so_iadd (by decide +kernel) (so_weak (so_callS (by decide +kernel) kcf_16 rfl kw_59 kw_27 (by decide +kernel) (sb_16_0 hj) (so_istore_n (f := 3) (by decide +kernel) rfl (by decide +kernel) (so_iload (by decide +kernel) (so_iconst (i := 1) (by decide +kernel) (by decide +kernel) (by decide) (so_iadd (by decide +kernel) (so_aload_n (f := 1) (by decide +kernel) rfl (so_iload_n (f := 2) (by decide +kernel) rfl (so_iload (by decide +kernel) (so_iconst (i := 1) (by decide +kernel) (by decide +kernel) (by decide) (so_iadd (by decide +kernel) (so_weak (so_callV (C := RX5) (T := TX5) (N0 := 2) (by decide +kernel) kcf_23 rfl rfl rfl kw_56 kw_57 kw_58 (by decide +kernel) (sb_23_0 hj) (so_weak (so_callS (by decide +kernel) kcf_16 rfl kw_59 kw_27 (by decide +kernel) (sb_16_0 hj) (so_istore (by decide +kernel) (by decide +kernel) (so_goto (off := -38) (tgt := 10) (by decide +kernel) (by decide) (hj 8 _ _ rfl)))) (callE_imp BK_I))) (callvE_imp BK_I)))))))))))) (callE_imp BK_I)))))))))))
set_option maxRecDepth 20000 in
theorem sb_26_10 {j : AJ} (hj : SJ j) : Sound kM_26 10 (mb_26_10 j) := by
  refine so_weak (sc_26_10 hj) (fun L S h r q0 => ?_)
  obtain ⟨c0, L0_, rfl, q1⟩ := w_C_some q0
  obtain ⟨c1, L1_, rfl, q2⟩ := w_C_some q1
  obtain ⟨i2, L2_, rfl, q3⟩ := w_I_some q2
  obtain ⟨i3, L3_, rfl, q4⟩ := w_I_some q3
  obtain ⟨i4, L4_, rfl, q5⟩ := w_I_some q4
  obtain ⟨rfl, q6⟩ := w_0_some q5
  obtain ⟨rfl, q7⟩ := a_nil_some q6
  exact q7
set_option maxRecDepth 20000 in
theorem sc_26_0 {j : AJ} (hj : SJ j) : Sound kM_26 0 (mc_26_0 j) := by
  unfold mc_26_0
  exact so_iconst (i := 0) (by decide +kernel) (by decide +kernel) (by decide) (so_istore_n (f := 3) (by decide +kernel) rfl (by decide +kernel) (so_aload_n (f := 1) (by decide +kernel) rfl (so_iload_n (f := 2) (by decide +kernel) rfl (so_iconst (i := 0) (by decide +kernel) (by decide +kernel) (by decide) (so_weak (so_callV (C := RX5) (T := TX5) (N0 := 2) (by decide +kernel) kcf_23 rfl rfl rfl kw_56 kw_57 kw_58 (by decide +kernel) (sb_23_0 hj) (so_istore (by decide +kernel) (by decide +kernel) (sb_26_10 hj))) (callvE_imp BK_I))))))
set_option maxRecDepth 20000 in
theorem sb_26_0 {j : AJ} (hj : SJ j) : Sound kM_26 0 (mb_26_0 j) := by
  refine so_weak (sc_26_0 hj) (fun L S h r q0 => ?_)
  obtain ⟨c0, L0_, rfl, q1⟩ := w_C_some q0
  obtain ⟨c1, L1_, rfl, q2⟩ := w_C_some q1
  obtain ⟨i2, L2_, rfl, q3⟩ := w_I_some q2
  obtain ⟨L3_, rfl, q4⟩ := w_N_some q3
  obtain ⟨L4_, rfl, q5⟩ := w_N_some q4
  obtain ⟨rfl, q6⟩ := w_0_some q5
  obtain ⟨rfl, q7⟩ := a_nil_some q6
  exact q7
