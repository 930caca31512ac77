/-! ===== the blocks are sound ===== -/
set_option maxRecDepth 20000 in
theorem sb_39_0 {j : AJ} (hj : SJ j) : Sound kM_39 0 (mb_39_0 j) := by
  unfold mb_39_0
  exact so_aload_n (f := 0) (by decide +kernel) rfl (so_objInit (by decide +kernel) kw_107 kw_1 kw_2 (by decide +kernel) (so_aload_n (f := 0) (by decide +kernel) rfl (so_iconst (i := 2) (by decide +kernel) (by decide +kernel) (by decide) (so_newaI (by decide +kernel) kw_3 (so_putRF (C := RX3) (T := TX3) (N := 4) (ty0 := tyX3) (by decide +kernel) rfl kin_3 tyX3_ok nmX3 (by decide) kw_108 rfl rfl rfl (fun _ => rfl) (fun _ => rfl) rfl (so_aload_n (f := 0) (by decide +kernel) rfl (so_bipush (i := 32) (by decide +kernel) (by decide +kernel) (by decide) (so_newaI (by decide +kernel) kw_3 (so_putRF (C := RX3) (T := TX3) (N := 4) (ty0 := tyX3) (by decide +kernel) rfl kin_3 tyX3_ok nmX3 (by decide) kw_109 rfl rfl rfl (fun _ => rfl) (fun _ => rfl) rfl (so_aload_n (f := 0) (by decide +kernel) rfl (so_bipush (i := 32) (by decide +kernel) (by decide +kernel) (by decide) (so_newaI (by decide +kernel) kw_3 (so_putRF (C := RX3) (T := TX3) (N := 4) (ty0 := tyX3) (by decide +kernel) rfl kin_3 tyX3_ok nmX3 (by decide) kw_110 rfl rfl rfl (fun _ => rfl) (fun _ => rfl) rfl (so_retv (by decide +kernel) rfl))))))))))))))
set_option maxRecDepth 20000 in
theorem sb_40_0 {j : AJ} (hj : SJ j) : Sound kM_40 0 (mb_40_0 j) := by
  unfold mb_40_0
  exact so_aload_n (f := 0) (by decide +kernel) rfl (so_iconst (i := 0) (by decide +kernel) (by decide +kernel) (by decide) (so_putI (C := RX3) (T := TX3) (N := 4) (ty0 := tyX3) (by decide +kernel) rfl kin_3 tyX3_ok nmX3 (by decide) kw_111 rfl rfl rfl (so_aload_n (f := 0) (by decide +kernel) rfl (so_get (C := RX3) (T := TX3) (N := 4) (by decide +kernel) rfl kin_3 (by decide) kw_108 (b := true) rfl (fun _ => rfl) (so_iconst (i := 0) (by decide +kernel) (by decide +kernel) (by decide) (so_iconst (i := 0) (by decide +kernel) (by decide +kernel) (by decide) (so_iast (by decide +kernel) (so_aload_n (f := 0) (by decide +kernel) rfl (so_get (C := RX3) (T := TX3) (N := 4) (by decide +kernel) rfl kin_3 (by decide) kw_108 (b := true) rfl (fun _ => rfl) (so_iconst (i := 1) (by decide +kernel) (by decide +kernel) (by decide) (so_iconst (i := 0) (by decide +kernel) (by decide +kernel) (by decide) (so_iast (by decide +kernel) (so_retv (by decide +kernel) rfl)))))))))))))
set_option maxRecDepth 20000 in
theorem sb_41_43 {j : AJ} (hj : SJ j) : Sound kM_41 43 (mb_41_43 j) := by
  unfold mb_41_43
  exact so_iload_n (f := 2) (by decide +kernel) rfl (so_reti (by decide +kernel) rfl)
set_option maxRecDepth 20000 in
theorem sb_41_37 {j : AJ} (hj : SJ j) : Sound kM_41 37 (mb_41_37 j) := by
  unfold mb_41_37
  exact so_iinc (z := 1) (by decide +kernel) (by decide +kernel) (by decide) (by decide +kernel) (so_goto (off := -33) (tgt := 7) (by decide +kernel) (by decide) (hj 19 _ _ rfl))
set_option maxRecDepth 20000 in
theorem sb_41_7 {j : AJ} (hj : SJ j) : Sound kM_41 7 (mb_41_7 j) := by
  unfold mb_41_7
  exact so_iload (by decide +kernel) (so_bipush (i := 16) (by decide +kernel) (by decide +kernel) (by decide) (so_icmp (off := 32) (tgt := 43) (by decide +kernel) (by decide) rfl (sb_41_43 hj) (so_iload_n (f := 1) (by decide +kernel) rfl (so_iload (by decide +kernel) (so_ishr (by decide +kernel) (so_iconst (i := 1) (by decide +kernel) (by decide +kernel) (by decide) (so_iand (by decide +kernel) (so_if (off := 17) (tgt := 37) (by decide +kernel) (by decide) rfl (sb_41_37 hj) (so_iload_n (f := 2) (by decide +kernel) rfl (so_iload_n (f := 0) (by decide +kernel) rfl (so_iload (by decide +kernel) (so_ishr (by decide +kernel) (so_iconst (i := 1) (by decide +kernel) (by decide +kernel) (by decide) (so_iand (by decide +kernel) (so_iload_n (f := 3) (by decide +kernel) rfl (so_ishl (by decide +kernel) (so_ior (by decide +kernel) (so_istore_n (f := 2) (by decide +kernel) rfl (by decide +kernel) (so_iinc (z := 1) (by decide +kernel) (by decide +kernel) (by decide) (by decide +kernel) (sb_41_37 hj))))))))))))))))))))
set_option maxRecDepth 20000 in
theorem sb_41_0 {j : AJ} (hj : SJ j) : Sound kM_41 0 (mb_41_0 j) := by
  unfold mb_41_0
  exact so_iconst (i := 0) (by decide +kernel) (by decide +kernel) (by decide) (so_istore_n (f := 2) (by decide +kernel) rfl (by decide +kernel) (so_iconst (i := 0) (by decide +kernel) (by decide +kernel) (by decide) (so_istore_n (f := 3) (by decide +kernel) rfl (by decide +kernel) (so_iconst (i := 0) (by decide +kernel) (by decide +kernel) (by decide) (so_istore (by decide +kernel) (by decide +kernel) (sb_41_7 hj))))))
set_option maxRecDepth 20000 in
theorem sb_42_20 {j : AJ} (hj : SJ j) : Sound kM_42 20 (mb_42_20 j) := by
  unfold mb_42_20
  exact so_aload_n (f := 0) (by decide +kernel) rfl (so_get (C := RX3) (T := TX3) (N := 4) (by decide +kernel) rfl kin_3 (by decide) kw_109 (b := true) rfl (fun _ => rfl) (so_bipush (i := 16) (by decide +kernel) (by decide +kernel) (by decide) (so_iload_n (f := 1) (by decide +kernel) rfl (so_imul (by decide +kernel) (so_iload (by decide +kernel) (so_iadd (by decide +kernel) (so_iload_n (f := 2) (by decide +kernel) rfl (so_iload_n (f := 3) (by decide +kernel) rfl (so_callS (by decide +kernel) kcf_41 rfl kw_112 kw_113 (by decide +kernel) (sb_41_0 hj) (so_aload_n (f := 0) (by decide +kernel) rfl (so_get (C := RX3) (T := TX3) (N := 4) (by decide +kernel) rfl kin_3 (by decide) kw_111 (b := false) rfl (fun _ => rfl) (so_ishl (by decide +kernel) (so_iast (by decide +kernel) (so_aload_n (f := 0) (by decide +kernel) rfl (so_get (C := RX3) (T := TX3) (N := 4) (by decide +kernel) rfl kin_3 (by decide) kw_110 (b := true) rfl (fun _ => rfl) (so_bipush (i := 16) (by decide +kernel) (by decide +kernel) (by decide) (so_iload_n (f := 1) (by decide +kernel) rfl (so_imul (by decide +kernel) (so_iload (by decide +kernel) (so_iadd (by decide +kernel) (so_iload (by decide +kernel) (so_iast (by decide +kernel) (so_aload_n (f := 0) (by decide +kernel) rfl (so_get (C := RX3) (T := TX3) (N := 4) (by decide +kernel) rfl kin_3 (by decide) kw_108 (b := true) rfl (fun _ => rfl) (so_iload_n (f := 1) (by decide +kernel) rfl (so_iload (by decide +kernel) (so_iconst (i := 1) (by decide +kernel) (by decide +kernel) (by decide) (so_iadd (by decide +kernel) (so_iast (by decide +kernel) (so_retv (by decide +kernel) rfl))))))))))))))))))))))))))))))
set_option maxRecDepth 20000 in
theorem sb_42_19 {j : AJ} (hj : SJ j) : Sound kM_42 19 (mb_42_19 j) := by
  unfold mb_42_19
  exact so_retv (by decide +kernel) rfl
set_option maxRecDepth 20000 in
theorem sb_42_0 {j : AJ} (hj : SJ j) : Sound kM_42 0 (mb_42_0 j) := by
  unfold mb_42_0
  exact so_aload_n (f := 0) (by decide +kernel) rfl (so_get (C := RX3) (T := TX3) (N := 4) (by decide +kernel) rfl kin_3 (by decide) kw_108 (b := true) rfl (fun _ => rfl) (so_iload_n (f := 1) (by decide +kernel) rfl (so_iald (by decide +kernel) (so_istore (by decide +kernel) (by decide +kernel) (so_iload_n (f := 2) (by decide +kernel) rfl (so_if (off := 10) (tgt := 19) (by decide +kernel) (by decide) rfl (sb_42_19 hj) (so_iload (by decide +kernel) (so_bipush (i := 16) (by decide +kernel) (by decide +kernel) (by decide) (so_icmp (off := 4) (tgt := 20) (by decide +kernel) (by decide) rfl (sb_42_20 hj) (sb_42_19 hj))))))))))
set_option maxRecDepth 20000 in
theorem sb_43_75 {j : AJ} (hj : SJ j) : Sound kM_43 75 (mb_43_75 j) := by
  unfold mb_43_75
  exact so_aload_n (f := 0) (by decide +kernel) rfl (so_dup (by decide +kernel) (so_get (C := RX3) (T := TX3) (N := 4) (by decide +kernel) rfl kin_3 (by decide) kw_111 (b := false) rfl (fun _ => rfl) (so_aload_n (f := 1) (by decide +kernel) rfl (so_callV (C := RX0) (T := TX0) (N0 := 4) (by decide +kernel) kcf_6 rfl rfl rfl kw_114 kw_115 kw_116 (by decide +kernel) (sb_6_0 hj) (so_iadd (by decide +kernel) (so_putI (C := RX3) (T := TX3) (N := 4) (ty0 := tyX3) (by decide +kernel) rfl kin_3 tyX3_ok nmX3 (by decide) kw_111 rfl rfl rfl (so_retv (by decide +kernel) rfl)))))))
set_option maxRecDepth 20000 in
theorem sb_43_21 {j : AJ} (hj : SJ j) : Sound kM_43 21 (mb_43_21 j) := by
  unfold mb_43_21
  exact so_iload_n (f := 3) (by decide +kernel) rfl (so_bipush (i := 16) (by decide +kernel) (by decide +kernel) (by decide) (so_icmp (off := 51) (tgt := 75) (by decide +kernel) (by decide) rfl (sb_43_75 hj) (so_aload_n (f := 0) (by decide +kernel) rfl (so_iconst (i := 0) (by decide +kernel) (by decide +kernel) (by decide) (so_aload_n (f := 1) (by decide +kernel) rfl (so_iload_n (f := 3) (by decide +kernel) rfl (so_iconst (i := 0) (by decide +kernel) (by decide +kernel) (by decide) (so_callV (C := RX0) (T := TX0) (N0 := 4) (by decide +kernel) kcf_8 rfl rfl rfl kw_117 kw_17 kw_18 (by decide +kernel) (sb_8_0 hj) (so_aload_n (f := 1) (by decide +kernel) rfl (so_callV (C := RX0) (T := TX0) (N0 := 4) (by decide +kernel) kcf_3 rfl rfl rfl kw_118 kw_119 kw_120 (by decide +kernel) (sb_3_0 hj) (so_bipush (i := 16) (by decide +kernel) (by decide +kernel) (by decide) (so_iload_n (f := 2) (by decide +kernel) rfl (so_imul (by decide +kernel) (so_iload_n (f := 3) (by decide +kernel) rfl (so_iadd (by decide +kernel) (so_callV (C := RX3) (T := TX3) (N0 := 4) (by decide +kernel) kcf_42 rfl rfl rfl kw_121 kw_122 kw_123 (by decide +kernel) (sb_42_0 hj) (so_aload_n (f := 0) (by decide +kernel) rfl (so_iconst (i := 1) (by decide +kernel) (by decide +kernel) (by decide) (so_aload_n (f := 1) (by decide +kernel) rfl (so_iload_n (f := 3) (by decide +kernel) rfl (so_iconst (i := 1) (by decide +kernel) (by decide +kernel) (by decide) (so_callV (C := RX0) (T := TX0) (N0 := 4) (by decide +kernel) kcf_8 rfl rfl rfl kw_117 kw_17 kw_18 (by decide +kernel) (sb_8_0 hj) (so_aload_n (f := 1) (by decide +kernel) rfl (so_callV (C := RX0) (T := TX0) (N0 := 4) (by decide +kernel) kcf_3 rfl rfl rfl kw_118 kw_119 kw_120 (by decide +kernel) (sb_3_0 hj) (so_bipush (i := 16) (by decide +kernel) (by decide +kernel) (by decide) (so_iload_n (f := 2) (by decide +kernel) rfl (so_imul (by decide +kernel) (so_iload_n (f := 3) (by decide +kernel) rfl (so_iadd (by decide +kernel) (so_callV (C := RX3) (T := TX3) (N0 := 4) (by decide +kernel) kcf_42 rfl rfl rfl kw_121 kw_122 kw_123 (by decide +kernel) (sb_42_0 hj) (so_iinc (z := 1) (by decide +kernel) (by decide +kernel) (by decide) (by decide +kernel) (so_goto (off := -51) (tgt := 21) (by decide +kernel) (by decide) (hj 20 _ _ rfl)))))))))))))))))))))))))))))))))
set_option maxRecDepth 20000 in
theorem sb_43_19 {j : AJ} (hj : SJ j) : Sound kM_43 19 (mb_43_19 j) := by
  unfold mb_43_19
  exact so_iconst (i := 0) (by decide +kernel) (by decide +kernel) (by decide) (so_istore_n (f := 3) (by decide +kernel) rfl (by decide +kernel) (sb_43_21 hj))
set_option maxRecDepth 20000 in
theorem sb_43_18 {j : AJ} (hj : SJ j) : Sound kM_43 18 (mb_43_18 j) := by
  unfold mb_43_18
  exact so_retv (by decide +kernel) rfl
set_option maxRecDepth 20000 in
theorem sb_43_0 {j : AJ} (hj : SJ j) : Sound kM_43 0 (mb_43_0 j) := by
  unfold mb_43_0
  exact so_aload_n (f := 1) (by decide +kernel) rfl (so_ifnull (off := 17) (by decide +kernel) (so_aload_n (f := 0) (by decide +kernel) rfl (so_get (C := RX3) (T := TX3) (N := 4) (by decide +kernel) rfl kin_3 (by decide) kw_111 (b := false) rfl (fun _ => rfl) (so_aload_n (f := 1) (by decide +kernel) rfl (so_callV (C := RX0) (T := TX0) (N0 := 4) (by decide +kernel) kcf_6 rfl rfl rfl kw_114 kw_115 kw_116 (by decide +kernel) (sb_6_0 hj) (so_iadd (by decide +kernel) (so_bipush (i := 12) (by decide +kernel) (by decide +kernel) (by decide) (so_icmp (off := 4) (tgt := 19) (by decide +kernel) (by decide) rfl (sb_43_19 hj) (sb_43_18 hj)))))))))
set_option maxRecDepth 20000 in
theorem sb_44_0 {j : AJ} (hj : SJ j) : Sound kM_44 0 (mb_44_0 j) := by
  unfold mb_44_0
  exact so_iconst (i := 1) (by decide +kernel) (by decide +kernel) (by decide) (so_aload_n (f := 0) (by decide +kernel) rfl (so_get (C := RX3) (T := TX3) (N := 4) (by decide +kernel) rfl kin_3 (by decide) kw_111 (b := false) rfl (fun _ => rfl) (so_ishl (by decide +kernel) (so_iconst (i := 1) (by decide +kernel) (by decide +kernel) (by decide) (so_isub (by decide +kernel) (so_reti (by decide +kernel) rfl))))))
set_option maxRecDepth 20000 in
theorem sb_45_14 {j : AJ} (hj : SJ j) : Sound kM_45 14 (mb_45_14 j) := by
  unfold mb_45_14
  exact so_retz (by decide +kernel) rfl
set_option maxRecDepth 20000 in
theorem sb_45_13 {j : AJ} (hj : SJ j) : Sound kM_45 13 (mb_45_13 j) := by
  unfold mb_45_13
  exact so_iconst (i := 0) (by decide +kernel) (by decide +kernel) (by decide) (sb_45_14 hj)
set_option maxRecDepth 20000 in
theorem sb_45_9 {j : AJ} (hj : SJ j) : Sound kM_45 9 (mb_45_9 j) := by
  unfold mb_45_9
  exact so_iconst (i := 1) (by decide +kernel) (by decide +kernel) (by decide) (so_goto (off := 4) (tgt := 14) (by decide +kernel) (by decide) (sb_45_14 hj))
set_option maxRecDepth 20000 in
theorem sb_45_0 {j : AJ} (hj : SJ j) : Sound kM_45 0 (mb_45_0 j) := by
  unfold mb_45_0
  exact so_iload_n (f := 0) (by decide +kernel) rfl (so_if (off := 8) (tgt := 9) (by decide +kernel) (by decide) rfl (sb_45_9 hj) (so_iload_n (f := 0) (by decide +kernel) rfl (so_iconst (i := 1) (by decide +kernel) (by decide +kernel) (by decide) (so_icmp (off := 7) (tgt := 13) (by decide +kernel) (by decide) rfl (sb_45_13 hj) (sb_45_9 hj)))))
set_option maxRecDepth 20000 in
theorem sb_46_17 {j : AJ} (hj : SJ j) : Sound kM_46 17 (mb_46_17 j) := by
  unfold mb_46_17
  exact so_reti (by decide +kernel) rfl
set_option maxRecDepth 20000 in
theorem sb_46_16 {j : AJ} (hj : SJ j) : Sound kM_46 16 (mb_46_16 j) := by
  unfold mb_46_16
  exact so_iconst (i := 0) (by decide +kernel) (by decide +kernel) (by decide) (sb_46_17 hj)
set_option maxRecDepth 20000 in
theorem sb_46_0 {j : AJ} (hj : SJ j) : Sound kM_46 0 (mb_46_0 j) := by
  unfold mb_46_0
  exact so_iload_n (f := 1) (by decide +kernel) rfl (so_callSN (by decide +kernel) kcf_45 rfl kw_124 kw_125 (by decide +kernel) (sb_45_0 hj) (so_if (off := 12) (tgt := 16) (by decide +kernel) (by decide) rfl (sb_46_16 hj) (so_aload_n (f := 0) (by decide +kernel) rfl (so_get (C := RX3) (T := TX3) (N := 4) (by decide +kernel) rfl kin_3 (by decide) kw_108 (b := true) rfl (fun _ => rfl) (so_iload_n (f := 1) (by decide +kernel) rfl (so_iald (by decide +kernel) (so_goto (off := 4) (tgt := 17) (by decide +kernel) (by decide) (sb_46_17 hj))))))))
set_option maxRecDepth 20000 in
theorem sb_47_28 {j : AJ} (hj : SJ j) : Sound kM_47 28 (mb_47_28 j) := by
  unfold mb_47_28
  exact so_reti (by decide +kernel) rfl
set_option maxRecDepth 20000 in
theorem sb_47_27 {j : AJ} (hj : SJ j) : Sound kM_47 27 (mb_47_27 j) := by
  unfold mb_47_27
  exact so_iconst (i := 0) (by decide +kernel) (by decide +kernel) (by decide) (sb_47_28 hj)
set_option maxRecDepth 20000 in
theorem sb_47_0 {j : AJ} (hj : SJ j) : Sound kM_47 0 (mb_47_0 j) := by
  unfold mb_47_0
  exact so_iload_n (f := 2) (by decide +kernel) rfl (so_if (off := 26) (tgt := 27) (by decide +kernel) (by decide) rfl (sb_47_27 hj) (so_iload_n (f := 2) (by decide +kernel) rfl (so_aload_n (f := 0) (by decide +kernel) rfl (so_iload_n (f := 1) (by decide +kernel) rfl (so_callV (C := RX3) (T := TX3) (N0 := 4) (by decide +kernel) kcf_46 rfl rfl rfl kw_126 kw_127 kw_128 (by decide +kernel) (sb_46_0 hj) (so_icmp (off := 17) (tgt := 27) (by decide +kernel) (by decide) rfl (sb_47_27 hj) (so_aload_n (f := 0) (by decide +kernel) rfl (so_get (C := RX3) (T := TX3) (N := 4) (by decide +kernel) rfl kin_3 (by decide) kw_109 (b := true) rfl (fun _ => rfl) (so_bipush (i := 16) (by decide +kernel) (by decide +kernel) (by decide) (so_iload_n (f := 1) (by decide +kernel) rfl (so_imul (by decide +kernel) (so_iload_n (f := 2) (by decide +kernel) rfl (so_iadd (by decide +kernel) (so_iald (by decide +kernel) (so_goto (off := 4) (tgt := 28) (by decide +kernel) (by decide) (sb_47_28 hj))))))))))))))))
set_option maxRecDepth 20000 in
theorem sb_48_29 {j : AJ} (hj : SJ j) : Sound kM_48 29 (mb_48_29 j) := by
  unfold mb_48_29
  exact so_reti (by decide +kernel) rfl
set_option maxRecDepth 20000 in
theorem sb_48_27 {j : AJ} (hj : SJ j) : Sound kM_48 27 (mb_48_27 j) := by
  unfold mb_48_27
  exact so_bipush (i := -4) (by decide +kernel) (by decide +kernel) (by decide) (sb_48_29 hj)
set_option maxRecDepth 20000 in
theorem sb_48_0 {j : AJ} (hj : SJ j) : Sound kM_48 0 (mb_48_0 j) := by
  unfold mb_48_0
  exact so_iload_n (f := 2) (by decide +kernel) rfl (so_if (off := 26) (tgt := 27) (by decide +kernel) (by decide) rfl (sb_48_27 hj) (so_iload_n (f := 2) (by decide +kernel) rfl (so_aload_n (f := 0) (by decide +kernel) rfl (so_iload_n (f := 1) (by decide +kernel) rfl (so_callV (C := RX3) (T := TX3) (N0 := 4) (by decide +kernel) kcf_46 rfl rfl rfl kw_126 kw_127 kw_128 (by decide +kernel) (sb_46_0 hj) (so_icmp (off := 17) (tgt := 27) (by decide +kernel) (by decide) rfl (sb_48_27 hj) (so_aload_n (f := 0) (by decide +kernel) rfl (so_get (C := RX3) (T := TX3) (N := 4) (by decide +kernel) rfl kin_3 (by decide) kw_110 (b := true) rfl (fun _ => rfl) (so_bipush (i := 16) (by decide +kernel) (by decide +kernel) (by decide) (so_iload_n (f := 1) (by decide +kernel) rfl (so_imul (by decide +kernel) (so_iload_n (f := 2) (by decide +kernel) rfl (so_iadd (by decide +kernel) (so_iald (by decide +kernel) (so_goto (off := 5) (tgt := 29) (by decide +kernel) (by decide) (sb_48_29 hj))))))))))))))))
set_option maxRecDepth 20000 in
theorem sb_49_0 {j : AJ} (hj : SJ j) : Sound kM_49 0 (mb_49_0 j) := by
  unfold mb_49_0
  exact so_aload_n (f := 0) (by decide +kernel) rfl (so_objInit (by decide +kernel) kw_129 kw_1 kw_2 (by decide +kernel) (so_aload_n (f := 0) (by decide +kernel) rfl (so_sipush (i := 8192) (by decide +kernel) (by decide +kernel) (by decide) (so_newaI (by decide +kernel) kw_3 (so_putRF (C := RX4) (T := TX4) (N := 1) (ty0 := tyX4) (by decide +kernel) rfl kin_4 tyX4_ok nmX4 (by decide) kw_130 rfl rfl rfl (fun _ => rfl) (fun _ => rfl) rfl (so_retv (by decide +kernel) rfl))))))
set_option maxRecDepth 20000 in
theorem sb_50_33 {j : AJ} (hj : SJ j) : Sound kM_50 33 (mb_50_33 j) := by
  unfold mb_50_33
  exact so_retv (by decide +kernel) rfl
set_option maxRecDepth 20000 in
theorem sb_50_2 {j : AJ} (hj : SJ j) : Sound kM_50 2 (mb_50_2 j) := by
  unfold mb_50_2
  exact so_iload_n (f := 2) (by decide +kernel) rfl (so_aload_n (f := 0) (by decide +kernel) rfl (so_get (C := RX4) (T := TX4) (N := 1) (by decide +kernel) rfl kin_4 (by decide) kw_130 (b := true) rfl (fun _ => rfl) (so_alen (by decide +kernel) (so_icmp (off := 25) (tgt := 33) (by decide +kernel) (by decide) rfl (sb_50_33 hj) (so_iload_n (f := 2) (by decide +kernel) rfl (so_iconst (i := 2) (by decide +kernel) (by decide +kernel) (by decide) (so_iload_n (f := 1) (by decide +kernel) rfl (so_imul (by decide +kernel) (so_iconst (i := 2) (by decide +kernel) (by decide +kernel) (by decide) (so_iadd (by decide +kernel) (so_icmp (off := 16) (tgt := 33) (by decide +kernel) (by decide) rfl (sb_50_33 hj) (so_aload_n (f := 0) (by decide +kernel) rfl (so_get (C := RX4) (T := TX4) (N := 1) (by decide +kernel) rfl kin_4 (by decide) kw_130 (b := true) rfl (fun _ => rfl) (so_iload_n (f := 2) (by decide +kernel) rfl (so_iconst (i := 0) (by decide +kernel) (by decide +kernel) (by decide) (so_iast (by decide +kernel) (so_iinc (z := 1) (by decide +kernel) (by decide +kernel) (by decide) (by decide +kernel) (so_goto (off := -28) (tgt := 2) (by decide +kernel) (by decide) (hj 21 _ _ rfl)))))))))))))))))))
set_option maxRecDepth 20000 in
theorem sb_50_0 {j : AJ} (hj : SJ j) : Sound kM_50 0 (mb_50_0 j) := by
  unfold mb_50_0
  exact so_iconst (i := 0) (by decide +kernel) (by decide +kernel) (by decide) (so_istore_n (f := 2) (by decide +kernel) rfl (by decide +kernel) (sb_50_2 hj))
set_option maxRecDepth 20000 in
theorem sb_51_142 {j : AJ} (hj : SJ j) : Sound kM_51 142 (mb_51_142 j) := by
  unfold mb_51_142
  exact so_iast (by decide +kernel) (so_iload (by decide +kernel) (so_retz (by decide +kernel) rfl))
set_option maxRecDepth 20000 in
theorem sb_51_141 {j : AJ} (hj : SJ j) : Sound kM_51 141 (mb_51_141 j) := by
  unfold mb_51_141
  exact so_iconst (i := 2) (by decide +kernel) (by decide +kernel) (by decide) (sb_51_142 hj)
set_option maxRecDepth 20000 in
theorem sb_51_129 {j : AJ} (hj : SJ j) : Sound kM_51 129 (mb_51_129 j) := by
  unfold mb_51_129
  exact so_aload_n (f := 0) (by decide +kernel) rfl (so_iload (by decide +kernel) (so_iload (by decide +kernel) (so_if (off := 7) (tgt := 141) (by decide +kernel) (by decide) rfl (sb_51_141 hj) (so_iconst (i := 1) (by decide +kernel) (by decide +kernel) (by decide) (so_goto (off := 4) (tgt := 142) (by decide +kernel) (by decide) (sb_51_142 hj))))))
set_option maxRecDepth 20000 in
theorem sb_51_121 {j : AJ} (hj : SJ j) : Sound kM_51 121 (mb_51_121 j) := by
  unfold mb_51_121
  exact so_istore (by decide +kernel) (by decide +kernel) (so_iinc (z := 1) (by decide +kernel) (by decide +kernel) (by decide) (by decide +kernel) (so_goto (off := -64) (tgt := 62) (by decide +kernel) (by decide) (hj 22 _ _ rfl)))
set_option maxRecDepth 20000 in
theorem sb_51_120 {j : AJ} (hj : SJ j) : Sound kM_51 120 (mb_51_120 j) := by
  unfold mb_51_120
  exact so_iconst (i := 0) (by decide +kernel) (by decide +kernel) (by decide) (sb_51_121 hj)
set_option maxRecDepth 20000 in
theorem sb_51_62 {j : AJ} (hj : SJ j) : Sound kM_51 62 (mb_51_62 j) := by
  unfold mb_51_62
  exact so_iload (by decide +kernel) (so_aload_n (f := 1) (by decide +kernel) rfl (so_iload_n (f := 3) (by decide +kernel) rfl (so_callV (C := RX3) (T := TX3) (N0 := 4) (by decide +kernel) kcf_46 rfl rfl rfl kw_131 kw_127 kw_128 (by decide +kernel) (sb_46_0 hj) (so_icmp (off := 60) (tgt := 129) (by decide +kernel) (by decide) rfl (sb_51_129 hj) (so_iload (by decide +kernel) (so_if (off := 55) (tgt := 129) (by decide +kernel) (by decide) rfl (sb_51_129 hj) (so_aload_n (f := 1) (by decide +kernel) rfl (so_iload_n (f := 3) (by decide +kernel) rfl (so_iload (by decide +kernel) (so_callV (C := RX3) (T := TX3) (N0 := 4) (by decide +kernel) kcf_47 rfl rfl rfl kw_132 kw_133 kw_134 (by decide +kernel) (sb_47_0 hj) (so_istore (by decide +kernel) (by decide +kernel) (so_iload_n (f := 2) (by decide +kernel) rfl (so_iload (by decide +kernel) (so_iand (by decide +kernel) (so_iload (by decide +kernel) (so_icmp (off := 28) (tgt := 120) (by decide +kernel) (by decide) rfl (sb_51_120 hj) (so_aload_n (f := 0) (by decide +kernel) rfl (so_aload_n (f := 1) (by decide +kernel) rfl (so_iload_n (f := 2) (by decide +kernel) rfl (so_iload (by decide +kernel) (so_iconst (i := -1) (by decide +kernel) (by decide +kernel) (by decide) (so_ixor (by decide +kernel) (so_iand (by decide +kernel) (so_iconst (i := 1) (by decide +kernel) (by decide +kernel) (by decide) (so_iload_n (f := 3) (by decide +kernel) rfl (so_isub (by decide +kernel) (so_iload (by decide +kernel) (so_iconst (i := 1) (by decide +kernel) (by decide +kernel) (by decide) (so_iadd (by decide +kernel) (so_none))))))))))))))))))))))))))))))
set_option maxRecDepth 20000 in
theorem sb_51_56 {j : AJ} (hj : SJ j) : Sound kM_51 56 (mb_51_56 j) := by
  unfold mb_51_56
  exact so_iconst (i := 0) (by decide +kernel) (by decide +kernel) (by decide) (so_istore (by decide +kernel) (by decide +kernel) (so_iconst (i := 0) (by decide +kernel) (by decide +kernel) (by decide) (so_istore (by decide +kernel) (by decide +kernel) (sb_51_62 hj))))
set_option maxRecDepth 20000 in
theorem sb_51_55 {j : AJ} (hj : SJ j) : Sound kM_51 55 (mb_51_55 j) := by
  unfold mb_51_55
  exact so_retz (by decide +kernel) rfl
set_option maxRecDepth 20000 in
theorem sb_51_54 {j : AJ} (hj : SJ j) : Sound kM_51 54 (mb_51_54 j) := by
  unfold mb_51_54
  exact so_iconst (i := 0) (by decide +kernel) (by decide +kernel) (by decide) (sb_51_55 hj)
set_option maxRecDepth 20000 in
theorem sb_51_35 {j : AJ} (hj : SJ j) : Sound kM_51 35 (mb_51_35 j) := by
  unfold mb_51_35
  exact so_aload_n (f := 0) (by decide +kernel) rfl (so_iload (by decide +kernel) (so_iald (by decide +kernel) (so_if (off := 17) (tgt := 56) (by decide +kernel) (by decide) rfl (sb_51_56 hj) (so_aload_n (f := 0) (by decide +kernel) rfl (so_iload (by decide +kernel) (so_iald (by decide +kernel) (so_iconst (i := 1) (by decide +kernel) (by decide +kernel) (by decide) (so_icmp (off := 7) (tgt := 54) (by decide +kernel) (by decide) rfl (sb_51_54 hj) (so_iconst (i := 1) (by decide +kernel) (by decide +kernel) (by decide) (so_goto (off := 4) (tgt := 55) (by decide +kernel) (by decide) (sb_51_55 hj)))))))))))
set_option maxRecDepth 20000 in
theorem sb_51_33 {j : AJ} (hj : SJ j) : Sound kM_51 33 (mb_51_33 j) := by
  unfold mb_51_33
  exact so_iconst (i := 0) (by decide +kernel) (by decide +kernel) (by decide) (so_retz (by decide +kernel) rfl)
set_option maxRecDepth 20000 in
theorem sb_51_0 {j : AJ} (hj : SJ j) : Sound kM_51 0 (mb_51_0 j) := by
  unfold mb_51_0
  exact so_iconst (i := 2) (by decide +kernel) (by decide +kernel) (by decide) (so_iload_n (f := 2) (by decide +kernel) rfl (so_imul (by decide +kernel) (so_iload_n (f := 3) (by decide +kernel) rfl (so_iadd (by decide +kernel) (so_istore (by decide +kernel) (by decide +kernel) (so_iload (by decide +kernel) (so_bipush (i := 6) (by decide +kernel) (by decide +kernel) (by decide) (so_icmp (off := 22) (tgt := 33) (by decide +kernel) (by decide) rfl (sb_51_33 hj) (so_iload_n (f := 3) (by decide +kernel) rfl (so_callSN (by decide +kernel) kcf_45 rfl kw_135 kw_125 (by decide +kernel) (sb_45_0 hj) (so_if (off := 15) (tgt := 33) (by decide +kernel) (by decide) rfl (sb_51_33 hj) (so_iload (by decide +kernel) (so_if (off := 10) (tgt := 33) (by decide +kernel) (by decide) rfl (sb_51_33 hj) (so_iload (by decide +kernel) (so_aload_n (f := 0) (by decide +kernel) rfl (so_alen (by decide +kernel) (so_icmp (off := 5) (tgt := 35) (by decide +kernel) (by decide) rfl (sb_51_35 hj) (sb_51_33 hj))))))))))))))))))
set_option maxRecDepth 20000 in
theorem sb_52_0 {j : AJ} (hj : SJ j) : Sound kM_52 0 (mb_52_0 j) := by
  unfold mb_52_0
  exact so_aload_n (f := 1) (by decide +kernel) rfl (so_callV (C := RX3) (T := TX3) (N0 := 4) (by decide +kernel) kcf_44 rfl rfl rfl kw_136 kw_137 kw_138 (by decide +kernel) (sb_44_0 hj) (so_istore_n (f := 3) (by decide +kernel) rfl (by decide +kernel) (so_aload_n (f := 0) (by decide +kernel) rfl (so_iload_n (f := 3) (by decide +kernel) rfl (so_callV (C := RX4) (T := TX4) (N0 := 1) (by decide +kernel) kcf_50 rfl rfl rfl kw_139 kw_140 kw_141 (by decide +kernel) (sb_50_0 hj) (so_aload_n (f := 0) (by decide +kernel) rfl (so_get (C := RX4) (T := TX4) (N := 1) (by decide +kernel) rfl kin_4 (by decide) kw_130 (b := true) rfl (fun _ => rfl) (so_aload_n (f := 1) (by decide +kernel) rfl (so_iload_n (f := 3) (by decide +kernel) rfl (so_iload_n (f := 2) (by decide +kernel) rfl (so_iconst (i := 0) (by decide +kernel) (by decide +kernel) (by decide) (so_callS (by decide +kernel) kcf_51 rfl kw_142 kw_143 (by decide +kernel) (sb_51_0 hj) (so_retz (by decide +kernel) rfl)))))))))))))
set_option maxRecDepth 20000 in
theorem sb_53_63 {j : AJ} (hj : SJ j) : Sound kM_53 63 (mb_53_63 j) := by
  unfold mb_53_63
  exact so_bipush (i := -4) (by decide +kernel) (by decide +kernel) (by decide) (so_reti (by decide +kernel) rfl)
set_option maxRecDepth 20000 in
theorem sb_53_57 {j : AJ} (hj : SJ j) : Sound kM_53 57 (mb_53_57 j) := by
  unfold mb_53_57
  exact so_iinc (z := 1) (by decide +kernel) (by decide +kernel) (by decide) (by decide +kernel) (so_goto (off := -47) (tgt := 13) (by decide +kernel) (by decide) (hj 23 _ _ rfl))
set_option maxRecDepth 20000 in
theorem sb_53_13 {j : AJ} (hj : SJ j) : Sound kM_53 13 (mb_53_13 j) := by
  unfold mb_53_13
  exact so_iload (by decide +kernel) (so_aload_n (f := 1) (by decide +kernel) rfl (so_iload_n (f := 2) (by decide +kernel) rfl (so_callV (C := RX3) (T := TX3) (N0 := 4) (by decide +kernel) kcf_46 rfl rfl rfl kw_131 kw_127 kw_128 (by decide +kernel) (sb_46_0 hj) (so_icmp (off := 43) (tgt := 63) (by decide +kernel) (by decide) rfl (sb_53_63 hj) (so_aload_n (f := 0) (by decide +kernel) rfl (so_get (C := RX4) (T := TX4) (N := 1) (by decide +kernel) rfl kin_4 (by decide) kw_130 (b := true) rfl (fun _ => rfl) (so_aload_n (f := 1) (by decide +kernel) rfl (so_iload_n (f := 3) (by decide +kernel) rfl (so_aload_n (f := 1) (by decide +kernel) rfl (so_iload_n (f := 2) (by decide +kernel) rfl (so_iload (by decide +kernel) (so_callV (C := RX3) (T := TX3) (N0 := 4) (by decide +kernel) kcf_47 rfl rfl rfl kw_132 kw_133 kw_134 (by decide +kernel) (sb_47_0 hj) (so_iconst (i := -1) (by decide +kernel) (by decide +kernel) (by decide) (so_ixor (by decide +kernel) (so_iand (by decide +kernel) (so_iconst (i := 1) (by decide +kernel) (by decide +kernel) (by decide) (so_iload_n (f := 2) (by decide +kernel) rfl (so_isub (by decide +kernel) (so_iconst (i := 1) (by decide +kernel) (by decide +kernel) (by decide) (so_callS (by decide +kernel) kcf_51 rfl kw_142 kw_143 (by decide +kernel) (sb_51_0 hj) (so_if (off := 11) (tgt := 57) (by decide +kernel) (by decide) rfl (sb_53_57 hj) (so_aload_n (f := 1) (by decide +kernel) rfl (so_iload_n (f := 2) (by decide +kernel) rfl (so_iload (by decide +kernel) (so_callV (C := RX3) (T := TX3) (N0 := 4) (by decide +kernel) kcf_48 rfl rfl rfl kw_144 kw_145 kw_146 (by decide +kernel) (sb_48_0 hj) (so_reti (by decide +kernel) rfl))))))))))))))))))))))))))
set_option maxRecDepth 20000 in
theorem sb_53_0 {j : AJ} (hj : SJ j) : Sound kM_53 0 (mb_53_0 j) := by
  unfold mb_53_0
  exact so_aload_n (f := 1) (by decide +kernel) rfl (so_callV (C := RX3) (T := TX3) (N0 := 4) (by decide +kernel) kcf_44 rfl rfl rfl kw_136 kw_137 kw_138 (by decide +kernel) (sb_44_0 hj) (so_istore_n (f := 3) (by decide +kernel) rfl (by decide +kernel) (so_aload_n (f := 0) (by decide +kernel) rfl (so_iload_n (f := 3) (by decide +kernel) rfl (so_callV (C := RX4) (T := TX4) (N0 := 1) (by decide +kernel) kcf_50 rfl rfl rfl kw_139 kw_140 kw_141 (by decide +kernel) (sb_50_0 hj) (so_iconst (i := 0) (by decide +kernel) (by decide +kernel) (by decide) (so_istore (by decide +kernel) (by decide +kernel) (sb_53_13 hj))))))))
set_option maxRecDepth 20000 in
theorem sc_54_34 {j : AJ} (hj : SJ j) : Sound kM_54 34 (mc_54_34 j) := by
  unfold mc_54_34
  exact so_retz (by decide +kernel) rfl
set_option maxRecDepth 20000 in
theorem sb_54_34 {j : AJ} (hj : SJ j) : Sound kM_54 34 (mb_54_34 j) := by
  refine so_weak (sc_54_34 hj) (fun L S h r q0 => ?_)
  obtain ⟨c0, L0_, rfl, q1⟩ := w_C_some q0
  obtain ⟨i1, L1_, rfl, q2⟩ := w_I_some q1
  obtain ⟨i2, L2_, rfl, q3⟩ := w_I_some q2
  obtain ⟨i3, L3_, rfl, q4⟩ := w_I_some q3
  obtain ⟨rfl, q5⟩ := w_0_some q4
  obtain ⟨s0, S0_, rfl, q6⟩ := a_popI_some q5
  obtain ⟨rfl, q7⟩ := a_nil_some q6
  exact q7
set_option maxRecDepth 20000 in
theorem sc_54_33 {j : AJ} (hj : SJ j) : Sound kM_54 33 (mc_54_33 j) := by
  unfold mc_54_33
  exact so_iconst (i := 0) (by decide +kernel) (by decide +kernel) (by decide) (sb_54_34 hj)
set_option maxRecDepth 20000 in
theorem sb_54_33 {j : AJ} (hj : SJ j) : Sound kM_54 33 (mb_54_33 j) := by
  refine so_weak (sc_54_33 hj) (fun L S h r q0 => ?_)
  obtain ⟨c0, L0_, rfl, q1⟩ := w_C_some q0
  obtain ⟨i1, L1_, rfl, q2⟩ := w_I_some q1
  obtain ⟨i2, L2_, rfl, q3⟩ := w_I_some q2
  obtain ⟨i3, L3_, rfl, q4⟩ := w_I_some q3
  obtain ⟨rfl, q5⟩ := w_0_some q4
  obtain ⟨rfl, q6⟩ := a_nil_some q5
  exact q6
set_option maxRecDepth 20000 in
theorem sc_54_0 {j : AJ} (hj : SJ j) : Sound kM_54 0 (mc_54_0 j) := by
  unfold mc_54_0
  exact so_aload_n (f := 0) (by decide +kernel) rfl (so_iload_n (f := 1) (by decide +kernel) rfl (so_iload_n (f := 2) (by decide +kernel) rfl (so_weak (so_callV (C := RX5) (T := TX5) (N0 := 2) (by decide +kernel) kcf_21 rfl rfl rfl kw_53 kw_54 kw_55 (by decide +kernel) (sb_21_0 hj) (so_istore_n (f := 3) (by decide +kernel) rfl (by decide +kernel) (so_iload_n (f := 3) (by decide +kernel) rfl (so_if (off := 25) (tgt := 33) (by decide +kernel) (by decide) rfl (sb_54_33 hj) (so_aload_n (f := 0) (by decide +kernel) rfl (so_get (C := RX5) (T := TX5) (N := 2) (by decide +kernel) rfl kin_5 (by decide) kw_30 (b := true) rfl (fun _ => rfl) (so_iload_n (f := 3) (by decide +kernel) rfl (so_lald (by decide +kernel) (so_iload_n (f := 2) (by decide +kernel) rfl (so_bipush (i := 63) (by decide +kernel) (by decide +kernel) (by decide) (so_iand (by decide +kernel) (so_lshr (by decide +kernel) (so_lconst (i := 1) (by decide +kernel) rfl (so_land (by decide +kernel) (so_lconst (i := 0) (by decide +kernel) rfl (so_lcmp (by decide +kernel) (so_if (off := 7) (tgt := 33) (by decide +kernel) (by decide) rfl (sb_54_33 hj) (so_iconst (i := 1) (by decide +kernel) (by decide +kernel) (by decide) (so_goto (off := 4) (tgt := 34) (by decide +kernel) (by decide) (sb_54_34 hj)))))))))))))))))))) (callvE_imp BK_I))))
set_option maxRecDepth 20000 in
theorem sb_54_0 {j : AJ} (hj : SJ j) : Sound kM_54 0 (mb_54_0 j) := by
  refine so_weak (sc_54_0 hj) (fun L S h r q0 => ?_)
  obtain ⟨c0, L0_, rfl, q1⟩ := w_C_some q0
  obtain ⟨i1, L1_, rfl, q2⟩ := w_I_some q1
  obtain ⟨i2, L2_, rfl, q3⟩ := w_I_some q2
  obtain ⟨L3_, rfl, q4⟩ := w_N_some q3
  obtain ⟨rfl, q5⟩ := w_0_some q4
  obtain ⟨rfl, q6⟩ := a_nil_some q5
  exact q6
set_option maxRecDepth 20000 in
theorem sc_55_30 {j : AJ} (hj : SJ j) : Sound kM_55 30 (mc_55_30 j) := by
  unfold mc_55_30
  exact so_retv (by decide +kernel) rfl
set_option maxRecDepth 20000 in
theorem sb_55_30 {j : AJ} (hj : SJ j) : Sound kM_55 30 (mb_55_30 j) := by
  refine so_weak (sc_55_30 hj) (fun L S h r q0 => ?_)
  obtain ⟨c0, L0_, rfl, q1⟩ := w_C_some q0
  obtain ⟨i1, L1_, rfl, q2⟩ := w_I_some q1
  obtain ⟨i2, L2_, rfl, q3⟩ := w_I_some q2
  obtain ⟨i3, L3_, rfl, q4⟩ := w_I_some q3
  obtain ⟨rfl, q5⟩ := w_0_some q4
  obtain ⟨rfl, q6⟩ := a_nil_some q5
  exact q6
set_option maxRecDepth 20000 in
theorem sc_55_0 {j : AJ} (hj : SJ j) : Sound kM_55 0 (mc_55_0 j) := by
  unfold mc_55_0
  exact so_aload_n (f := 0) (by decide +kernel) rfl (so_iload_n (f := 1) (by decide +kernel) rfl (so_iload_n (f := 2) (by decide +kernel) rfl (so_weak (so_callV (C := RX5) (T := TX5) (N0 := 2) (by decide +kernel) kcf_21 rfl rfl rfl kw_53 kw_54 kw_55 (by decide +kernel) (sb_21_0 hj) (so_istore_n (f := 3) (by decide +kernel) rfl (by decide +kernel) (so_iload_n (f := 3) (by decide +kernel) rfl (so_if (off := 22) (tgt := 30) (by decide +kernel) (by decide) rfl (sb_55_30 hj) (so_aload_n (f := 0) (by decide +kernel) rfl (so_get (C := RX5) (T := TX5) (N := 2) (by decide +kernel) rfl kin_5 (by decide) kw_30 (b := true) rfl (fun _ => rfl) (so_iload_n (f := 3) (by decide +kernel) rfl (so_dup2 (by decide +kernel) (so_lald (by decide +kernel) (so_lconst (i := 1) (by decide +kernel) rfl (so_iload_n (f := 2) (by decide +kernel) rfl (so_bipush (i := 63) (by decide +kernel) (by decide +kernel) (by decide) (so_iand (by decide +kernel) (so_lshl (by decide +kernel) (so_ldc2w (i := 31) (by decide +kernel) kw_50 (by decide) (so_lxor (by decide +kernel) (so_land (by decide +kernel) (so_last (by decide +kernel) (sb_55_30 hj))))))))))))))))))) (callvE_imp BK_I))))
set_option maxRecDepth 20000 in
theorem sb_55_0 {j : AJ} (hj : SJ j) : Sound kM_55 0 (mb_55_0 j) := by
  refine so_weak (sc_55_0 hj) (fun L S h r q0 => ?_)
  obtain ⟨c0, L0_, rfl, q1⟩ := w_C_some q0
  obtain ⟨i1, L1_, rfl, q2⟩ := w_I_some q1
  obtain ⟨i2, L2_, rfl, q3⟩ := w_I_some q2
  obtain ⟨L3_, rfl, q4⟩ := w_N_some q3
  obtain ⟨rfl, q5⟩ := w_0_some q4
  obtain ⟨rfl, q6⟩ := a_nil_some q5
  exact q6
set_option maxRecDepth 20000 in
theorem sc_56_57 {j : AJ} (hj : SJ j) : Sound kM_56 57 (mc_56_57 j) := by
  unfold mc_56_57
  exact so_retv (by decide +kernel) rfl
set_option maxRecDepth 20000 in
theorem sb_56_57 {j : AJ} (hj : SJ j) : Sound kM_56 57 (mb_56_57 j) := by
  refine so_weak (sc_56_57 hj) (fun L S h r q0 => ?_)
  obtain ⟨c0, L0_, rfl, q1⟩ := w_C_some q0
  obtain ⟨i1, L1_, rfl, q2⟩ := w_I_some q1
  obtain ⟨c2, L2_, rfl, q3⟩ := w_C_some q2
  obtain ⟨i3, L3_, rfl, q4⟩ := w_I_some q3
  obtain ⟨x4, L4_, rfl, q5⟩ := w_X_some q4
  obtain ⟨rfl, q6⟩ := w_0_some q5
  obtain ⟨rfl, q7⟩ := a_nil_some q6
  exact q7
set_option maxRecDepth 20000 in
theorem sc_56_23 {j : AJ} (hj : SJ j) : Sound kM_56 23 (mc_56_23 j) := by
  unfold mc_56_23
  exact so_iload (by decide +kernel) (so_iconst (i := 5) (by decide +kernel) (by decide +kernel) (by decide) (so_icmp (off := 31) (tgt := 57) (by decide +kernel) (by decide) rfl (sb_56_57 hj) (so_aload_n (f := 0) (by decide +kernel) rfl (so_get (C := RX5) (T := TX5) (N := 2) (by decide +kernel) rfl kin_5 (by decide) kw_30 (b := true) rfl (fun _ => rfl) (so_iload_n (f := 1) (by decide +kernel) rfl (so_iconst (i := 5) (by decide +kernel) (by decide +kernel) (by decide) (so_imul (by decide +kernel) (so_iload (by decide +kernel) (so_iadd (by decide +kernel) (so_aload_n (f := 2) (by decide +kernel) rfl (so_get (C := RX5) (T := TX5) (N := 2) (by decide +kernel) rfl kin_5 (by decide) kw_30 (b := true) rfl (fun _ => rfl) (so_iload_n (f := 3) (by decide +kernel) rfl (so_iconst (i := 5) (by decide +kernel) (by decide +kernel) (by decide) (so_imul (by decide +kernel) (so_iload (by decide +kernel) (so_iadd (by decide +kernel) (so_lald (by decide +kernel) (so_last (by decide +kernel) (so_iinc (z := 1) (by decide +kernel) (by decide +kernel) (by decide) (by decide +kernel) (so_goto (off := -31) (tgt := 23) (by decide +kernel) (by decide) (hj 24 _ _ rfl)))))))))))))))))))))
set_option maxRecDepth 20000 in
theorem sb_56_23 {j : AJ} (hj : SJ j) : Sound kM_56 23 (mb_56_23 j) := by
  refine so_weak (sc_56_23 hj) (fun L S h r q0 => ?_)
  obtain ⟨c0, L0_, rfl, q1⟩ := w_C_some q0
  obtain ⟨i1, L1_, rfl, q2⟩ := w_I_some q1
  obtain ⟨c2, L2_, rfl, q3⟩ := w_C_some q2
  obtain ⟨i3, L3_, rfl, q4⟩ := w_I_some q3
  obtain ⟨i4, L4_, rfl, q5⟩ := w_I_some q4
  obtain ⟨rfl, q6⟩ := w_0_some q5
  obtain ⟨rfl, q7⟩ := a_nil_some q6
  exact q7
set_option maxRecDepth 20000 in
theorem sc_56_0 {j : AJ} (hj : SJ j) : Sound kM_56 0 (mc_56_0 j) := by
  unfold mc_56_0
  exact so_aload_n (f := 2) (by decide +kernel) rfl (so_ifnull (off := 56) (by decide +kernel) (so_aload_n (f := 0) (by decide +kernel) rfl (so_iload_n (f := 1) (by decide +kernel) rfl (so_weak (so_callV (C := RX5) (T := TX5) (N0 := 2) (by decide +kernel) kcf_28 rfl rfl rfl kw_68 kw_69 kw_70 (by decide +kernel) (sb_28_0 hj) (so_if (off := 48) (tgt := 57) (by decide +kernel) (by decide) rfl (sb_56_57 hj) (so_aload_n (f := 2) (by decide +kernel) rfl (so_iload_n (f := 3) (by decide +kernel) rfl (so_weak (so_callV (C := RX5) (T := TX5) (N0 := 2) (by decide +kernel) kcf_28 rfl rfl rfl kw_68 kw_69 kw_70 (by decide +kernel) (sb_28_0 hj) (so_if (off := 40) (tgt := 57) (by decide +kernel) (by decide) rfl (sb_56_57 hj) (so_iconst (i := 0) (by decide +kernel) (by decide +kernel) (by decide) (so_istore (by decide +kernel) (by decide +kernel) (sb_56_23 hj))))) (callvE_imp BK_I)))))) (callvE_imp BK_I)))))
set_option maxRecDepth 20000 in
theorem sb_56_0 {j : AJ} (hj : SJ j) : Sound kM_56 0 (mb_56_0 j) := by
  refine so_weak (sc_56_0 hj) (fun L S h r q0 => ?_)
  obtain ⟨c0, L0_, rfl, q1⟩ := w_C_some q0
  obtain ⟨i1, L1_, rfl, q2⟩ := w_I_some q1
  obtain ⟨c2, L2_, rfl, q3⟩ := w_C_some q2
  obtain ⟨i3, L3_, rfl, q4⟩ := w_I_some q3
  obtain ⟨L4_, rfl, q5⟩ := w_N_some q4
  obtain ⟨rfl, q6⟩ := w_0_some q5
  obtain ⟨rfl, q7⟩ := a_nil_some q6
  exact q7
set_option maxRecDepth 20000 in
theorem sc_57_60 {j : AJ} (hj : SJ j) : Sound kM_57 60 (mc_57_60 j) := by
  unfold mc_57_60
  exact so_retv (by decide +kernel) rfl
set_option maxRecDepth 20000 in
theorem sb_57_60 {j : AJ} (hj : SJ j) : Sound kM_57 60 (mb_57_60 j) := by
  refine so_weak (sc_57_60 hj) (fun L S h r q0 => ?_)
  obtain ⟨c0, L0_, rfl, q1⟩ := w_C_some q0
  obtain ⟨i1, L1_, rfl, q2⟩ := w_I_some q1
  obtain ⟨c2, L2_, rfl, q3⟩ := w_C_some q2
  obtain ⟨i3, L3_, rfl, q4⟩ := w_I_some q3
  obtain ⟨x4, L4_, rfl, q5⟩ := w_X_some q4
  obtain ⟨rfl, q6⟩ := w_0_some q5
  obtain ⟨rfl, q7⟩ := a_nil_some q6
  exact q7
set_option maxRecDepth 20000 in
theorem sc_57_23 {j : AJ} (hj : SJ j) : Sound kM_57 23 (mc_57_23 j) := by
  unfold mc_57_23
  exact so_iload (by decide +kernel) (so_iconst (i := 5) (by decide +kernel) (by decide +kernel) (by decide) (so_icmp (off := 34) (tgt := 60) (by decide +kernel) (by decide) rfl (sb_57_60 hj) (so_aload_n (f := 0) (by decide +kernel) rfl (so_get (C := RX5) (T := TX5) (N := 2) (by decide +kernel) rfl kin_5 (by decide) kw_30 (b := true) rfl (fun _ => rfl) (so_iload_n (f := 1) (by decide +kernel) rfl (so_iconst (i := 5) (by decide +kernel) (by decide +kernel) (by decide) (so_imul (by decide +kernel) (so_iload (by decide +kernel) (so_iadd (by decide +kernel) (so_dup2 (by decide +kernel) (so_lald (by decide +kernel) (so_aload_n (f := 2) (by decide +kernel) rfl (so_get (C := RX5) (T := TX5) (N := 2) (by decide +kernel) rfl kin_5 (by decide) kw_30 (b := true) rfl (fun _ => rfl) (so_iload_n (f := 3) (by decide +kernel) rfl (so_iconst (i := 5) (by decide +kernel) (by decide +kernel) (by decide) (so_imul (by decide +kernel) (so_iload (by decide +kernel) (so_iadd (by decide +kernel) (so_lald (by decide +kernel) (so_lor (by decide +kernel) (so_last (by decide +kernel) (so_iinc (z := 1) (by decide +kernel) (by decide +kernel) (by decide) (by decide +kernel) (so_goto (off := -34) (tgt := 23) (by decide +kernel) (by decide) (hj 25 _ _ rfl))))))))))))))))))))))))
set_option maxRecDepth 20000 in
theorem sb_57_23 {j : AJ} (hj : SJ j) : Sound kM_57 23 (mb_57_23 j) := by
  refine so_weak (sc_57_23 hj) (fun L S h r q0 => ?_)
  obtain ⟨c0, L0_, rfl, q1⟩ := w_C_some q0
  obtain ⟨i1, L1_, rfl, q2⟩ := w_I_some q1
  obtain ⟨c2, L2_, rfl, q3⟩ := w_C_some q2
  obtain ⟨i3, L3_, rfl, q4⟩ := w_I_some q3
  obtain ⟨i4, L4_, rfl, q5⟩ := w_I_some q4
  obtain ⟨rfl, q6⟩ := w_0_some q5
  obtain ⟨rfl, q7⟩ := a_nil_some q6
  exact q7
set_option maxRecDepth 20000 in
theorem sc_57_0 {j : AJ} (hj : SJ j) : Sound kM_57 0 (mc_57_0 j) := by
  unfold mc_57_0
  exact so_aload_n (f := 2) (by decide +kernel) rfl (so_ifnull (off := 59) (by decide +kernel) (so_aload_n (f := 0) (by decide +kernel) rfl (so_iload_n (f := 1) (by decide +kernel) rfl (so_weak (so_callV (C := RX5) (T := TX5) (N0 := 2) (by decide +kernel) kcf_28 rfl rfl rfl kw_68 kw_69 kw_70 (by decide +kernel) (sb_28_0 hj) (so_if (off := 51) (tgt := 60) (by decide +kernel) (by decide) rfl (sb_57_60 hj) (so_aload_n (f := 2) (by decide +kernel) rfl (so_iload_n (f := 3) (by decide +kernel) rfl (so_weak (so_callV (C := RX5) (T := TX5) (N0 := 2) (by decide +kernel) kcf_28 rfl rfl rfl kw_68 kw_69 kw_70 (by decide +kernel) (sb_28_0 hj) (so_if (off := 43) (tgt := 60) (by decide +kernel) (by decide) rfl (sb_57_60 hj) (so_iconst (i := 0) (by decide +kernel) (by decide +kernel) (by decide) (so_istore (by decide +kernel) (by decide +kernel) (sb_57_23 hj))))) (callvE_imp BK_I)))))) (callvE_imp BK_I)))))
set_option maxRecDepth 20000 in
theorem sb_57_0 {j : AJ} (hj : SJ j) : Sound kM_57 0 (mb_57_0 j) := by
  refine so_weak (sc_57_0 hj) (fun L S h r q0 => ?_)
  obtain ⟨c0, L0_, rfl, q1⟩ := w_C_some q0
  obtain ⟨i1, L1_, rfl, q2⟩ := w_I_some q1
  obtain ⟨c2, L2_, rfl, q3⟩ := w_C_some q2
  obtain ⟨i3, L3_, rfl, q4⟩ := w_I_some q3
  obtain ⟨L4_, rfl, q5⟩ := w_N_some q4
  obtain ⟨rfl, q6⟩ := w_0_some q5
  obtain ⟨rfl, q7⟩ := a_nil_some q6
  exact q7
set_option maxRecDepth 20000 in
theorem sb_58_50 {j : AJ} (hj : SJ j) : Sound kM_58 50 (mb_58_50 j) := by
  unfold mb_58_50
  exact so_bipush (i := -4) (by decide +kernel) (by decide +kernel) (by decide) (so_reti (by decide +kernel) rfl)
set_option maxRecDepth 20000 in
theorem sb_58_26 {j : AJ} (hj : SJ j) : Sound kM_58 26 (mb_58_26 j) := by
  unfold mb_58_26
  exact so_iinc (z := 1) (by decide +kernel) (by decide +kernel) (by decide) (by decide +kernel) (so_iload (by decide +kernel) (so_iconst (i := 1) (by decide +kernel) (by decide +kernel) (by decide) (so_iadd (by decide +kernel) (so_aload_n (f := 0) (by decide +kernel) rfl (so_iload_n (f := 1) (by decide +kernel) rfl (so_iload (by decide +kernel) (so_iconst (i := 1) (by decide +kernel) (by decide +kernel) (by decide) (so_iadd (by decide +kernel) (so_callV (C := RX5) (T := TX5) (N0 := 2) (by decide +kernel) kcf_23 rfl rfl rfl kw_147 kw_57 kw_58 (by decide +kernel) (sb_23_0 hj) (so_callS (by decide +kernel) kcf_16 rfl kw_26 kw_27 (by decide +kernel) (sb_16_0 hj) (so_istore (by decide +kernel) (by decide +kernel) (so_goto (off := -37) (tgt := 10) (by decide +kernel) (by decide) (hj 26 _ _ rfl)))))))))))))
set_option maxRecDepth 20000 in
theorem sb_58_10 {j : AJ} (hj : SJ j) : Sound kM_58 10 (mb_58_10 j) := by
  unfold mb_58_10
  exact so_iload (by decide +kernel) (so_sipush (i := 320) (by decide +kernel) (by decide +kernel) (by decide) (so_icmp (off := 35) (tgt := 50) (by decide +kernel) (by decide) rfl (sb_58_50 hj) (so_iload_n (f := 3) (by decide +kernel) rfl (so_iload_n (f := 2) (by decide +kernel) rfl (so_icmp (off := 6) (tgt := 26) (by decide +kernel) (by decide) rfl (sb_58_26 hj) (so_iload (by decide +kernel) (so_reti (by decide +kernel) rfl)))))))
set_option maxRecDepth 20000 in
theorem sb_58_0 {j : AJ} (hj : SJ j) : Sound kM_58 0 (mb_58_0 j) := by
  unfold mb_58_0
  exact so_iconst (i := 0) (by decide +kernel) (by decide +kernel) (by decide) (so_istore_n (f := 3) (by decide +kernel) rfl (by decide +kernel) (so_aload_n (f := 0) (by decide +kernel) rfl (so_iload_n (f := 1) (by decide +kernel) rfl (so_iconst (i := 0) (by decide +kernel) (by decide +kernel) (by decide) (so_callV (C := RX5) (T := TX5) (N0 := 2) (by decide +kernel) kcf_23 rfl rfl rfl kw_147 kw_57 kw_58 (by decide +kernel) (sb_23_0 hj) (so_istore (by decide +kernel) (by decide +kernel) (sb_58_10 hj)))))))
set_option maxRecDepth 20000 in
theorem sc_59_103 {j : AJ} (hj : SJ j) : Sound kM_59 103 (mc_59_103 j) := by
  unfold mc_59_103
  exact so_bipush (i := -4) (by decide +kernel) (by decide +kernel) (by decide) (so_reti (by decide +kernel) rfl)
set_option maxRecDepth 20000 in
theorem sb_59_103 {j : AJ} (hj : SJ j) : Sound kM_59 103 (mb_59_103 j) := by
  refine so_weak (sc_59_103 hj) (fun L S h r q0 => ?_)
  obtain ⟨c0, L0_, rfl, q1⟩ := w_C_some q0
  obtain ⟨i1, L1_, rfl, q2⟩ := w_I_some q1
  obtain ⟨c2, L2_, rfl, q3⟩ := w_C_some q2
  obtain ⟨i3, L3_, rfl, q4⟩ := w_I_some q3
  obtain ⟨i4, L4_, rfl, q5⟩ := w_I_some q4
  obtain ⟨i5, L5_, rfl, q6⟩ := w_I_some q5
  obtain ⟨i6, L6_, rfl, q7⟩ := w_I_some q6
  obtain ⟨x7, L7_, rfl, q8⟩ := w_X_some q7
  obtain ⟨L8_, rfl, q9⟩ := w_N_some q8
  obtain ⟨rfl, q10⟩ := w_0_some q9
  obtain ⟨rfl, q11⟩ := a_nil_some q10
  exact q11
set_option maxRecDepth 20000 in
theorem sc_59_97 {j : AJ} (hj : SJ j) : Sound kM_59 97 (mc_59_97 j) := by
  unfold mc_59_97
  exact so_iinc (z := 1) (by decide +kernel) (by decide +kernel) (by decide) (by decide +kernel) (so_goto (off := -60) (tgt := 40) (by decide +kernel) (by decide) (hj 27 _ _ rfl))
set_option maxRecDepth 20000 in
theorem sb_59_97 {j : AJ} (hj : SJ j) : Sound kM_59 97 (mb_59_97 j) := by
  refine so_weak (sc_59_97 hj) (fun L S h r q0 => ?_)
  obtain ⟨c0, L0_, rfl, q1⟩ := w_C_some q0
  obtain ⟨i1, L1_, rfl, q2⟩ := w_I_some q1
  obtain ⟨c2, L2_, rfl, q3⟩ := w_C_some q2
  obtain ⟨i3, L3_, rfl, q4⟩ := w_I_some q3
  obtain ⟨i4, L4_, rfl, q5⟩ := w_I_some q4
  obtain ⟨i5, L5_, rfl, q6⟩ := w_I_some q5
  obtain ⟨i6, L6_, rfl, q7⟩ := w_I_some q6
  obtain ⟨l7, L7_, rfl, q8⟩ := w_L_some q7
  obtain ⟨L8_, rfl, q9⟩ := w_N_some q8
  obtain ⟨rfl, q10⟩ := w_0_some q9
  obtain ⟨rfl, q11⟩ := a_nil_some q10
  exact q11
set_option maxRecDepth 20000 in
theorem sc_59_40 {j : AJ} (hj : SJ j) : Sound kM_59 40 (mc_59_40 j) := by
  unfold mc_59_40
  exact so_iload (by decide +kernel) (so_iload (by decide +kernel) (so_icmp (off := 59) (tgt := 103) (by decide +kernel) (by decide) rfl (sb_59_103 hj) (so_aload_n (f := 0) (by decide +kernel) rfl (so_get (C := RX5) (T := TX5) (N := 2) (by decide +kernel) rfl kin_5 (by decide) kw_30 (b := true) rfl (fun _ => rfl) (so_iload_n (f := 1) (by decide +kernel) rfl (so_iconst (i := 5) (by decide +kernel) (by decide +kernel) (by decide) (so_imul (by decide +kernel) (so_iload (by decide +kernel) (so_iadd (by decide +kernel) (so_lald (by decide +kernel) (so_aload_n (f := 2) (by decide +kernel) rfl (so_get (C := RX5) (T := TX5) (N := 2) (by decide +kernel) rfl kin_5 (by decide) kw_30 (b := true) rfl (fun _ => rfl) (so_iload_n (f := 3) (by decide +kernel) rfl (so_iconst (i := 5) (by decide +kernel) (by decide +kernel) (by decide) (so_imul (by decide +kernel) (so_iload (by decide +kernel) (so_iadd (by decide +kernel) (so_lald (by decide +kernel) (so_land (by decide +kernel) (so_lstore (by decide +kernel) (by decide +kernel) (so_lload (by decide +kernel) (so_lconst (i := 0) (by decide +kernel) rfl (so_lcmp (by decide +kernel) (so_if (off := 21) (tgt := 97) (by decide +kernel) (by decide) rfl (sb_59_97 hj) (so_bipush (i := 64) (by decide +kernel) (by decide +kernel) (by decide) (so_iload (by decide +kernel) (so_imul (by decide +kernel) (so_lload (by decide +kernel) (so_lload (by decide +kernel) (so_lneg (by decide +kernel) (so_land (by decide +kernel) (so_lconst (i := 1) (by decide +kernel) rfl (so_lsub (by decide +kernel) (so_weak (so_callS (by decide +kernel) kcf_22 rfl kw_51 kw_52 (by decide +kernel) (sb_22_0 hj) (so_iadd (by decide +kernel) (so_reti (by decide +kernel) rfl))) (callE_imp BK_I)))))))))))))))))))))))))))))))))))
set_option maxRecDepth 20000 in
theorem sb_59_40 {j : AJ} (hj : SJ j) : Sound kM_59 40 (mb_59_40 j) := by
  refine so_weak (sc_59_40 hj) (fun L S h r q0 => ?_)
  obtain ⟨c0, L0_, rfl, q1⟩ := w_C_some q0
  obtain ⟨i1, L1_, rfl, q2⟩ := w_I_some q1
  obtain ⟨c2, L2_, rfl, q3⟩ := w_C_some q2
  obtain ⟨i3, L3_, rfl, q4⟩ := w_I_some q3
  obtain ⟨i4, L4_, rfl, q5⟩ := w_I_some q4
  obtain ⟨i5, L5_, rfl, q6⟩ := w_I_some q5
  obtain ⟨i6, L6_, rfl, q7⟩ := w_I_some q6
  obtain ⟨x7, L7_, rfl, q8⟩ := w_X_some q7
  obtain ⟨L8_, rfl, q9⟩ := w_N_some q8
  obtain ⟨rfl, q10⟩ := w_0_some q9
  obtain ⟨rfl, q11⟩ := a_nil_some q10
  exact q11
set_option maxRecDepth 20000 in
theorem sc_59_23 {j : AJ} (hj : SJ j) : Sound kM_59 23 (mc_59_23 j) := by
  unfold mc_59_23
  exact so_iconst (i := 5) (by decide +kernel) (by decide +kernel) (by decide) (so_iload (by decide +kernel) (so_bipush (i := 63) (by decide +kernel) (by decide +kernel) (by decide) (so_iadd (by decide +kernel) (so_bipush (i := 6) (by decide +kernel) (by decide +kernel) (by decide) (so_ishr (by decide +kernel) (so_weak (so_callS (by decide +kernel) kcf_15 rfl kw_24 kw_25 (by decide +kernel) (sb_15_0 hj) (so_istore (by decide +kernel) (by decide +kernel) (so_iconst (i := 0) (by decide +kernel) (by decide +kernel) (by decide) (so_istore (by decide +kernel) (by decide +kernel) (sb_59_40 hj))))) (callE_imp BK_I)))))))
set_option maxRecDepth 20000 in
theorem sb_59_23 {j : AJ} (hj : SJ j) : Sound kM_59 23 (mb_59_23 j) := by
  refine so_weak (sc_59_23 hj) (fun L S h r q0 => ?_)
  obtain ⟨c0, L0_, rfl, q1⟩ := w_C_some q0
  obtain ⟨i1, L1_, rfl, q2⟩ := w_I_some q1
  obtain ⟨c2, L2_, rfl, q3⟩ := w_C_some q2
  obtain ⟨i3, L3_, rfl, q4⟩ := w_I_some q3
  obtain ⟨i4, L4_, rfl, q5⟩ := w_I_some q4
  obtain ⟨L5_, rfl, q6⟩ := w_N_some q5
  obtain ⟨L6_, rfl, q7⟩ := w_N_some q6
  obtain ⟨L7_, rfl, q8⟩ := w_N_some q7
  obtain ⟨L8_, rfl, q9⟩ := w_N_some q8
  obtain ⟨rfl, q10⟩ := w_0_some q9
  obtain ⟨rfl, q11⟩ := a_nil_some q10
  exact q11
set_option maxRecDepth 20000 in
theorem sc_59_20 {j : AJ} (hj : SJ j) : Sound kM_59 20 (mc_59_20 j) := by
  unfold mc_59_20
  exact so_bipush (i := -4) (by decide +kernel) (by decide +kernel) (by decide) (so_reti (by decide +kernel) rfl)
set_option maxRecDepth 20000 in
theorem sb_59_20 {j : AJ} (hj : SJ j) : Sound kM_59 20 (mb_59_20 j) := by
  refine so_weak (sc_59_20 hj) (fun L S h r q0 => ?_)
  obtain ⟨c0, L0_, rfl, q1⟩ := w_C_some q0
  obtain ⟨i1, L1_, rfl, q2⟩ := w_I_some q1
  obtain ⟨c2, L2_, rfl, q3⟩ := w_C_some q2
  obtain ⟨i3, L3_, rfl, q4⟩ := w_I_some q3
  obtain ⟨i4, L4_, rfl, q5⟩ := w_I_some q4
  obtain ⟨L5_, rfl, q6⟩ := w_N_some q5
  obtain ⟨L6_, rfl, q7⟩ := w_N_some q6
  obtain ⟨L7_, rfl, q8⟩ := w_N_some q7
  obtain ⟨L8_, rfl, q9⟩ := w_N_some q8
  obtain ⟨rfl, q10⟩ := w_0_some q9
  obtain ⟨rfl, q11⟩ := a_nil_some q10
  exact q11
set_option maxRecDepth 20000 in
theorem sc_59_0 {j : AJ} (hj : SJ j) : Sound kM_59 0 (mc_59_0 j) := by
  unfold mc_59_0
  exact so_aload_n (f := 2) (by decide +kernel) rfl (so_ifnull (off := 19) (by decide +kernel) (so_aload_n (f := 0) (by decide +kernel) rfl (so_iload_n (f := 1) (by decide +kernel) rfl (so_weak (so_callV (C := RX5) (T := TX5) (N0 := 2) (by decide +kernel) kcf_28 rfl rfl rfl kw_68 kw_69 kw_70 (by decide +kernel) (sb_28_0 hj) (so_if (off := 11) (tgt := 20) (by decide +kernel) (by decide) rfl (sb_59_20 hj) (so_aload_n (f := 2) (by decide +kernel) rfl (so_iload_n (f := 3) (by decide +kernel) rfl (so_weak (so_callV (C := RX5) (T := TX5) (N0 := 2) (by decide +kernel) kcf_28 rfl rfl rfl kw_68 kw_69 kw_70 (by decide +kernel) (sb_28_0 hj) (so_if (off := 6) (tgt := 23) (by decide +kernel) (by decide) rfl (sb_59_23 hj) (sb_59_20 hj))) (callvE_imp BK_I)))))) (callvE_imp BK_I)))))
set_option maxRecDepth 20000 in
theorem sb_59_0 {j : AJ} (hj : SJ j) : Sound kM_59 0 (mb_59_0 j) := by
  refine so_weak (sc_59_0 hj) (fun L S h r q0 => ?_)
  obtain ⟨c0, L0_, rfl, q1⟩ := w_C_some q0
  obtain ⟨i1, L1_, rfl, q2⟩ := w_I_some q1
  obtain ⟨c2, L2_, rfl, q3⟩ := w_C_some q2
  obtain ⟨i3, L3_, rfl, q4⟩ := w_I_some q3
  obtain ⟨i4, L4_, rfl, q5⟩ := w_I_some q4
  obtain ⟨L5_, rfl, q6⟩ := w_N_some q5
  obtain ⟨L6_, rfl, q7⟩ := w_N_some q6
  obtain ⟨L7_, rfl, q8⟩ := w_N_some q7
  obtain ⟨L8_, rfl, q9⟩ := w_N_some q8
  obtain ⟨rfl, q10⟩ := w_0_some q9
  obtain ⟨rfl, q11⟩ := a_nil_some q10
  exact q11
set_option maxRecDepth 20000 in
theorem sb_60_0 {j : AJ} (hj : SJ j) : Sound kM_60 0 (mb_60_0 j) := by
  unfold mb_60_0
  exact so_aload_n (f := 0) (by decide +kernel) rfl (so_objInit (by decide +kernel) kw_148 kw_1 kw_2 (by decide +kernel) (so_aload_n (f := 0) (by decide +kernel) rfl (so_sipush (i := 320) (by decide +kernel) (by decide +kernel) (by decide) (so_newaZ (by decide +kernel) kw_42 (so_putRF (C := RX6) (T := TX6) (N := 4) (ty0 := tyX6) (by decide +kernel) rfl kin_6 tyX6_ok nmX6 (by decide) kw_149 rfl rfl rfl (fun _ => rfl) (fun _ => rfl) rfl (so_aload_n (f := 0) (by decide +kernel) rfl (so_sipush (i := 320) (by decide +kernel) (by decide +kernel) (by decide) (so_newaL (by decide +kernel) kw_29 (so_putRF (C := RX6) (T := TX6) (N := 4) (ty0 := tyX6) (by decide +kernel) rfl kin_6 tyX6_ok nmX6 (by decide) kw_150 rfl rfl rfl (fun _ => rfl) (fun _ => rfl) rfl (so_aload_n (f := 0) (by decide +kernel) rfl (so_sipush (i := 320) (by decide +kernel) (by decide +kernel) (by decide) (so_newaL (by decide +kernel) kw_29 (so_putRF (C := RX6) (T := TX6) (N := 4) (ty0 := tyX6) (by decide +kernel) rfl kin_6 tyX6_ok nmX6 (by decide) kw_151 rfl rfl rfl (fun _ => rfl) (fun _ => rfl) rfl (so_aload_n (f := 0) (by decide +kernel) rfl (so_sipush (i := 320) (by decide +kernel) (by decide +kernel) (by decide) (so_newaI (by decide +kernel) kw_3 (so_putRF (C := RX6) (T := TX6) (N := 4) (ty0 := tyX6) (by decide +kernel) rfl kin_6 tyX6_ok nmX6 (by decide) kw_152 rfl rfl rfl (fun _ => rfl) (fun _ => rfl) rfl (so_retv (by decide +kernel) rfl))))))))))))))))))
set_option maxRecDepth 20000 in
theorem sb_61_20 {j : AJ} (hj : SJ j) : Sound kM_61 20 (mb_61_20 j) := by
  unfold mb_61_20
  exact so_reti (by decide +kernel) rfl
set_option maxRecDepth 20000 in
theorem sb_61_18 {j : AJ} (hj : SJ j) : Sound kM_61 18 (mb_61_18 j) := by
  unfold mb_61_18
  exact so_bipush (i := -4) (by decide +kernel) (by decide +kernel) (by decide) (sb_61_20 hj)
set_option maxRecDepth 20000 in
theorem sb_61_0 {j : AJ} (hj : SJ j) : Sound kM_61 0 (mb_61_0 j) := by
  unfold mb_61_0
  exact so_aload_n (f := 0) (by decide +kernel) rfl (so_iload_n (f := 1) (by decide +kernel) rfl (so_callV (C := RX5) (T := TX5) (N0 := 2) (by decide +kernel) kcf_32 rfl rfl rfl kw_153 kw_83 kw_84 (by decide +kernel) (sb_32_0 hj) (so_iconst (i := 1) (by decide +kernel) (by decide +kernel) (by decide) (so_icmp (off := 12) (tgt := 18) (by decide +kernel) (by decide) rfl (sb_61_18 hj) (so_aload_n (f := 0) (by decide +kernel) rfl (so_iload_n (f := 1) (by decide +kernel) rfl (so_iconst (i := 0) (by decide +kernel) (by decide +kernel) (by decide) (so_callV (C := RX5) (T := TX5) (N0 := 2) (by decide +kernel) kcf_58 rfl rfl rfl kw_154 kw_155 kw_156 (by decide +kernel) (sb_58_0 hj) (so_goto (off := 5) (tgt := 20) (by decide +kernel) (by decide) (sb_61_20 hj))))))))))
set_option maxRecDepth 20000 in
theorem sb_62_220 {j : AJ} (hj : SJ j) : Sound kM_62 220 (mb_62_220 j) := by
  unfold mb_62_220
  exact so_aload_n (f := 0) (by decide +kernel) rfl (so_get (C := RX6) (T := TX6) (N := 4) (by decide +kernel) rfl kin_6 (by decide) kw_150 (b := true) rfl (fun _ => rfl) (so_iload_n (f := 2) (by decide +kernel) rfl (so_lload (by decide +kernel) (so_last (by decide +kernel) (so_aload_n (f := 0) (by decide +kernel) rfl (so_get (C := RX6) (T := TX6) (N := 4) (by decide +kernel) rfl kin_6 (by decide) kw_151 (b := true) rfl (fun _ => rfl) (so_iload_n (f := 2) (by decide +kernel) rfl (so_lload (by decide +kernel) (so_last (by decide +kernel) (so_iconst (i := 1) (by decide +kernel) (by decide +kernel) (by decide) (so_retz (by decide +kernel) rfl)))))))))))
set_option maxRecDepth 20000 in
theorem sb_62_202 {j : AJ} (hj : SJ j) : Sound kM_62 202 (mb_62_202 j) := by
  unfold mb_62_202
  exact so_iload (by decide +kernel) (so_if (off := 16) (tgt := 220) (by decide +kernel) (by decide) rfl (sb_62_220 hj) (so_aload_n (f := 0) (by decide +kernel) rfl (so_get (C := RX6) (T := TX6) (N := 4) (by decide +kernel) rfl kin_6 (by decide) kw_150 (b := true) rfl (fun _ => rfl) (so_iload (by decide +kernel) (so_lald (by decide +kernel) (so_ldc2w (i := 77) (by decide +kernel) kw_157 (by decide) (so_lsub (by decide +kernel) (so_lstore (by decide +kernel) (by decide +kernel) (sb_62_220 hj)))))))))
set_option maxRecDepth 20000 in
theorem sb_62_182 {j : AJ} (hj : SJ j) : Sound kM_62 182 (mb_62_182 j) := by
  unfold mb_62_182
  exact so_iload (by decide +kernel) (so_if (off := 18) (tgt := 202) (by decide +kernel) (by decide) rfl (sb_62_202 hj) (so_aload_n (f := 0) (by decide +kernel) rfl (so_get (C := RX6) (T := TX6) (N := 4) (by decide +kernel) rfl kin_6 (by decide) kw_150 (b := true) rfl (fun _ => rfl) (so_iload_n (f := 3) (by decide +kernel) rfl (so_lald (by decide +kernel) (so_ldc2w (i := 77) (by decide +kernel) kw_157 (by decide) (so_ladd (by decide +kernel) (so_lstore (by decide +kernel) (by decide +kernel) (so_goto (off := 21) (tgt := 220) (by decide +kernel) (by decide) (sb_62_220 hj))))))))))
set_option maxRecDepth 20000 in
theorem sb_62_148 {j : AJ} (hj : SJ j) : Sound kM_62 148 (mb_62_148 j) := by
  unfold mb_62_148
  exact so_lconst (i := 0) (by decide +kernel) rfl (so_lstore (by decide +kernel) (by decide +kernel) (so_iload (by decide +kernel) (so_if (off := 29) (tgt := 182) (by decide +kernel) (by decide) rfl (sb_62_182 hj) (so_iload (by decide +kernel) (so_if (off := 24) (tgt := 182) (by decide +kernel) (by decide) rfl (sb_62_182 hj) (so_aload_n (f := 0) (by decide +kernel) rfl (so_get (C := RX6) (T := TX6) (N := 4) (by decide +kernel) rfl kin_6 (by decide) kw_150 (b := true) rfl (fun _ => rfl) (so_iload_n (f := 3) (by decide +kernel) rfl (so_lald (by decide +kernel) (so_aload_n (f := 0) (by decide +kernel) rfl (so_get (C := RX6) (T := TX6) (N := 4) (by decide +kernel) rfl kin_6 (by decide) kw_150 (b := true) rfl (fun _ => rfl) (so_iload (by decide +kernel) (so_lald (by decide +kernel) (so_ladd (by decide +kernel) (so_iconst (i := 1) (by decide +kernel) (by decide +kernel) (by decide) (so_lshr (by decide +kernel) (so_lstore (by decide +kernel) (by decide +kernel) (so_goto (off := 41) (tgt := 220) (by decide +kernel) (by decide) (sb_62_220 hj)))))))))))))))))))
set_option maxRecDepth 20000 in
theorem sb_62_119 {j : AJ} (hj : SJ j) : Sound kM_62 119 (mb_62_119 j) := by
  unfold mb_62_119
  exact so_iload (by decide +kernel) (so_if (off := 27) (tgt := 148) (by decide +kernel) (by decide) rfl (sb_62_148 hj) (so_iload (by decide +kernel) (so_if (off := 22) (tgt := 148) (by decide +kernel) (by decide) rfl (sb_62_148 hj) (so_aload_n (f := 0) (by decide +kernel) rfl (so_get (C := RX6) (T := TX6) (N := 4) (by decide +kernel) rfl kin_6 (by decide) kw_150 (b := true) rfl (fun _ => rfl) (so_iload_n (f := 3) (by decide +kernel) rfl (so_lald (by decide +kernel) (so_aload_n (f := 0) (by decide +kernel) rfl (so_get (C := RX6) (T := TX6) (N := 4) (by decide +kernel) rfl kin_6 (by decide) kw_150 (b := true) rfl (fun _ => rfl) (so_iload (by decide +kernel) (so_lald (by decide +kernel) (so_lcmp (by decide +kernel) (so_if (off := 5) (tgt := 148) (by decide +kernel) (by decide) rfl (sb_62_148 hj) (so_iconst (i := 0) (by decide +kernel) (by decide +kernel) (by decide) (so_retz (by decide +kernel) rfl)))))))))))))))
set_option maxRecDepth 20000 in
theorem sb_62_117 {j : AJ} (hj : SJ j) : Sound kM_62 117 (mb_62_117 j) := by
  unfold mb_62_117
  exact so_iconst (i := 0) (by decide +kernel) (by decide +kernel) (by decide) (so_retz (by decide +kernel) rfl)
set_option maxRecDepth 20000 in
theorem sb_62_105 {j : AJ} (hj : SJ j) : Sound kM_62 105 (mb_62_105 j) := by
  unfold mb_62_105
  exact so_istore (by decide +kernel) (by decide +kernel) (so_iload (by decide +kernel) (so_if (off := 8) (tgt := 117) (by decide +kernel) (by decide) rfl (sb_62_117 hj) (so_iload (by decide +kernel) (so_if (off := 5) (tgt := 119) (by decide +kernel) (by decide) rfl (sb_62_119 hj) (sb_62_117 hj)))))
set_option maxRecDepth 20000 in
theorem sb_62_104 {j : AJ} (hj : SJ j) : Sound kM_62 104 (mb_62_104 j) := by
  unfold mb_62_104
  exact so_iconst (i := 0) (by decide +kernel) (by decide +kernel) (by decide) (sb_62_105 hj)
set_option maxRecDepth 20000 in
theorem sb_62_100 {j : AJ} (hj : SJ j) : Sound kM_62 100 (mb_62_100 j) := by
  unfold mb_62_100
  exact so_iconst (i := 1) (by decide +kernel) (by decide +kernel) (by decide) (so_goto (off := 4) (tgt := 105) (by decide +kernel) (by decide) (sb_62_105 hj))
set_option maxRecDepth 20000 in
theorem sb_62_78 {j : AJ} (hj : SJ j) : Sound kM_62 78 (mb_62_78 j) := by
  unfold mb_62_78
  exact so_istore (by decide +kernel) (by decide +kernel) (so_iload (by decide +kernel) (so_if (off := 18) (tgt := 100) (by decide +kernel) (by decide) rfl (sb_62_100 hj) (so_iload (by decide +kernel) (so_if (off := 17) (tgt := 104) (by decide +kernel) (by decide) rfl (sb_62_104 hj) (so_aload_n (f := 0) (by decide +kernel) rfl (so_get (C := RX6) (T := TX6) (N := 4) (by decide +kernel) rfl kin_6 (by decide) kw_149 (b := true) rfl (fun _ => rfl) (so_iload (by decide +kernel) (so_zald (by decide +kernel) (so_if (off := 7) (tgt := 104) (by decide +kernel) (by decide) rfl (sb_62_104 hj) (sb_62_100 hj))))))))))
set_option maxRecDepth 20000 in
theorem sb_62_77 {j : AJ} (hj : SJ j) : Sound kM_62 77 (mb_62_77 j) := by
  unfold mb_62_77
  exact so_iconst (i := 0) (by decide +kernel) (by decide +kernel) (by decide) (sb_62_78 hj)
set_option maxRecDepth 20000 in
theorem sb_62_73 {j : AJ} (hj : SJ j) : Sound kM_62 73 (mb_62_73 j) := by
  unfold mb_62_73
  exact so_iconst (i := 1) (by decide +kernel) (by decide +kernel) (by decide) (so_goto (off := 4) (tgt := 78) (by decide +kernel) (by decide) (sb_62_78 hj))
set_option maxRecDepth 20000 in
theorem sb_62_53 {j : AJ} (hj : SJ j) : Sound kM_62 53 (mb_62_53 j) := by
  unfold mb_62_53
  exact so_istore (by decide +kernel) (by decide +kernel) (so_iload (by decide +kernel) (so_if (off := 16) (tgt := 73) (by decide +kernel) (by decide) rfl (sb_62_73 hj) (so_iload_n (f := 3) (by decide +kernel) rfl (so_if (off := 16) (tgt := 77) (by decide +kernel) (by decide) rfl (sb_62_77 hj) (so_aload_n (f := 0) (by decide +kernel) rfl (so_get (C := RX6) (T := TX6) (N := 4) (by decide +kernel) rfl kin_6 (by decide) kw_149 (b := true) rfl (fun _ => rfl) (so_iload_n (f := 3) (by decide +kernel) rfl (so_zald (by decide +kernel) (so_if (off := 7) (tgt := 77) (by decide +kernel) (by decide) rfl (sb_62_77 hj) (sb_62_73 hj))))))))))
set_option maxRecDepth 20000 in
theorem sb_62_52 {j : AJ} (hj : SJ j) : Sound kM_62 52 (mb_62_52 j) := by
  unfold mb_62_52
  exact so_iconst (i := 0) (by decide +kernel) (by decide +kernel) (by decide) (sb_62_53 hj)
set_option maxRecDepth 20000 in
theorem sb_62_35 {j : AJ} (hj : SJ j) : Sound kM_62 35 (mb_62_35 j) := by
  unfold mb_62_35
  exact so_istore (by decide +kernel) (by decide +kernel) (so_aload_n (f := 1) (by decide +kernel) rfl (so_getN (C := RX1) (T := TX1) (N := 4) (by decide +kernel) rfl kin_1 (by decide) kw_158 (b := true) rfl (fun _ => rfl) (so_iload_n (f := 2) (by decide +kernel) rfl (so_callV (C := RX5) (T := TX5) (N0 := 2) (by decide +kernel) kcf_32 rfl rfl rfl kw_153 kw_83 kw_84 (by decide +kernel) (sb_32_0 hj) (so_if (off := 7) (tgt := 52) (by decide +kernel) (by decide) rfl (sb_62_52 hj) (so_iconst (i := 1) (by decide +kernel) (by decide +kernel) (by decide) (so_goto (off := 4) (tgt := 53) (by decide +kernel) (by decide) (sb_62_53 hj))))))))
set_option maxRecDepth 20000 in
theorem sb_62_34 {j : AJ} (hj : SJ j) : Sound kM_62 34 (mb_62_34 j) := by
  unfold mb_62_34
  exact so_iconst (i := 0) (by decide +kernel) (by decide +kernel) (by decide) (sb_62_35 hj)
set_option maxRecDepth 20000 in
theorem sb_62_0 {j : AJ} (hj : SJ j) : Sound kM_62 0 (mb_62_0 j) := by
  unfold mb_62_0
  exact so_aload_n (f := 1) (by decide +kernel) rfl (so_getN (C := RX1) (T := TX1) (N := 4) (by decide +kernel) rfl kin_1 (by decide) kw_159 (b := true) rfl (fun _ => rfl) (so_iload_n (f := 2) (by decide +kernel) rfl (so_callS (by decide +kernel) kcf_61 rfl kw_160 kw_161 (by decide +kernel) (sb_61_0 hj) (so_istore_n (f := 3) (by decide +kernel) rfl (by decide +kernel) (so_aload_n (f := 1) (by decide +kernel) rfl (so_getN (C := RX1) (T := TX1) (N := 4) (by decide +kernel) rfl kin_1 (by decide) kw_158 (b := true) rfl (fun _ => rfl) (so_iload_n (f := 2) (by decide +kernel) rfl (so_callS (by decide +kernel) kcf_61 rfl kw_160 kw_161 (by decide +kernel) (sb_61_0 hj) (so_istore (by decide +kernel) (by decide +kernel) (so_aload_n (f := 1) (by decide +kernel) rfl (so_getN (C := RX1) (T := TX1) (N := 4) (by decide +kernel) rfl kin_1 (by decide) kw_159 (b := true) rfl (fun _ => rfl) (so_iload_n (f := 2) (by decide +kernel) rfl (so_callV (C := RX5) (T := TX5) (N0 := 2) (by decide +kernel) kcf_32 rfl rfl rfl kw_153 kw_83 kw_84 (by decide +kernel) (sb_32_0 hj) (so_if (off := 7) (tgt := 34) (by decide +kernel) (by decide) rfl (sb_62_34 hj) (so_iconst (i := 1) (by decide +kernel) (by decide +kernel) (by decide) (so_goto (off := 4) (tgt := 35) (by decide +kernel) (by decide) (sb_62_35 hj)))))))))))))))))
