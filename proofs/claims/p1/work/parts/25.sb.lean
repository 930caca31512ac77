/-! ===== the blocks are sound ===== -/
set_option maxRecDepth 20000 in
theorem sb_189_57 {j : AJ} (hj : SJ j) : Sound kM_189 57 (mb_189_57 j) := by
  unfold mb_189_57
  exact so_reti (by decide +kernel) rfl
set_option maxRecDepth 20000 in
theorem sb_189_56 {j : AJ} (hj : SJ j) : Sound kM_189 56 (mb_189_56 j) := by
  unfold mb_189_56
  exact so_iconst (i := 3) (by decide +kernel) (by decide +kernel) (by decide) (sb_189_57 hj)
set_option maxRecDepth 20000 in
theorem sb_189_43 {j : AJ} (hj : SJ j) : Sound kM_189 43 (mb_189_43 j) := by
  unfold mb_189_43
  exact so_aload_n (f := 0) (by decide +kernel) rfl (so_iconst (i := 0) (by decide +kernel) (by decide +kernel) (by decide) (so_iload_n (f := 2) (by decide +kernel) rfl (so_callV (C := RX9) (T := TX9) (N0 := 38) (by decide +kernel) kcf_148 rfl rfl rfl kw_496 kw_497 kw_498 (by decide +kernel) (sb_148_0 hj) (so_if (off := 7) (tgt := 56) (by decide +kernel) (by decide) rfl (sb_189_56 hj) (so_iconst (i := 2) (by decide +kernel) (by decide +kernel) (by decide) (so_goto (off := 4) (tgt := 57) (by decide +kernel) (by decide) (sb_189_57 hj)))))))
set_option maxRecDepth 20000 in
theorem sb_189_42 {j : AJ} (hj : SJ j) : Sound kM_189 42 (mb_189_42 j) := by
  unfold mb_189_42
  exact so_reti (by decide +kernel) rfl
set_option maxRecDepth 20000 in
theorem sb_189_41 {j : AJ} (hj : SJ j) : Sound kM_189 41 (mb_189_41 j) := by
  unfold mb_189_41
  exact so_iconst (i := 1) (by decide +kernel) (by decide +kernel) (by decide) (sb_189_42 hj)
set_option maxRecDepth 20000 in
theorem sb_189_9 {j : AJ} (hj : SJ j) : Sound kM_189 9 (mb_189_9 j) := by
  unfold mb_189_9
  exact so_aload_n (f := 0) (by decide +kernel) rfl (so_callV (C := RX9) (T := TX9) (N0 := 38) (by decide +kernel) kcf_162 rfl rfl rfl kw_537 kw_538 kw_539 (by decide +kernel) (sb_162_0 hj) (so_aload_n (f := 0) (by decide +kernel) rfl (so_iload_n (f := 1) (by decide +kernel) rfl (so_callV (C := RX9) (T := TX9) (N0 := 38) (by decide +kernel) kcf_163 rfl rfl rfl kw_554 kw_555 kw_556 (by decide +kernel) (sb_163_0 hj) (so_istore_n (f := 2) (by decide +kernel) rfl (by decide +kernel) (so_aload_n (f := 0) (by decide +kernel) rfl (so_iload_n (f := 2) (by decide +kernel) rfl (so_iconst (i := 0) (by decide +kernel) (by decide +kernel) (by decide) (so_callV (C := RX9) (T := TX9) (N0 := 38) (by decide +kernel) kcf_148 rfl rfl rfl kw_496 kw_497 kw_498 (by decide +kernel) (sb_148_0 hj) (so_if (off := 18) (tgt := 43) (by decide +kernel) (by decide) rfl (sb_189_43 hj) (so_aload_n (f := 0) (by decide +kernel) rfl (so_iconst (i := 0) (by decide +kernel) (by decide +kernel) (by decide) (so_iload_n (f := 2) (by decide +kernel) rfl (so_callV (C := RX9) (T := TX9) (N0 := 38) (by decide +kernel) kcf_148 rfl rfl rfl kw_496 kw_497 kw_498 (by decide +kernel) (sb_148_0 hj) (so_if (off := 7) (tgt := 41) (by decide +kernel) (by decide) rfl (sb_189_41 hj) (so_iconst (i := 0) (by decide +kernel) (by decide +kernel) (by decide) (so_goto (off := 4) (tgt := 42) (by decide +kernel) (by decide) (sb_189_42 hj))))))))))))))))))
set_option maxRecDepth 20000 in
theorem sb_189_0 {j : AJ} (hj : SJ j) : Sound kM_189 0 (mb_189_0 j) := by
  unfold mb_189_0
  exact so_iload_n (f := 1) (by decide +kernel) rfl (so_callS (by decide +kernel) kcf_165 rfl kw_540 kw_541 (by decide +kernel) (sb_165_0 hj) (so_if (off := 5) (tgt := 9) (by decide +kernel) (by decide) rfl (sb_189_9 hj) (so_iconst (i := -1) (by decide +kernel) (by decide +kernel) (by decide) (so_reti (by decide +kernel) rfl))))
set_option maxRecDepth 20000 in
theorem sb_190_59 {j : AJ} (hj : SJ j) : Sound kM_190 59 (mb_190_59 j) := by
  unfold mb_190_59
  exact so_reti (by decide +kernel) rfl
set_option maxRecDepth 20000 in
theorem sb_190_53 {j : AJ} (hj : SJ j) : Sound kM_190 53 (mb_190_53 j) := by
  unfold mb_190_53
  exact so_aload_n (f := 0) (by decide +kernel) rfl (so_get (C := RX9) (T := TX9) (N := 38) (by decide +kernel) rfl kin_9 (by decide) kw_469 (b := true) rfl (fun _ => rfl) (so_iload_n (f := 3) (by decide +kernel) rfl (so_ialdU (by decide +kernel) (sb_190_59 hj))))
set_option maxRecDepth 20000 in
theorem sb_190_39 {j : AJ} (hj : SJ j) : Sound kM_190 39 (mb_190_39 j) := by
  unfold mb_190_39
  exact so_iload_n (f := 2) (by decide +kernel) rfl (so_if (off := 13) (tgt := 53) (by decide +kernel) (by decide) rfl (sb_190_53 hj) (so_aload_n (f := 0) (by decide +kernel) rfl (so_get (C := RX9) (T := TX9) (N := 38) (by decide +kernel) rfl kin_9 (by decide) kw_468 (b := true) rfl (fun _ => rfl) (so_iload_n (f := 3) (by decide +kernel) rfl (so_lald (by decide +kernel) (so_l2i (by decide +kernel) (so_goto (off := 9) (tgt := 59) (by decide +kernel) (by decide) (sb_190_59 hj))))))))
set_option maxRecDepth 20000 in
theorem sb_190_19 {j : AJ} (hj : SJ j) : Sound kM_190 19 (mb_190_19 j) := by
  unfold mb_190_19
  exact so_aload_n (f := 0) (by decide +kernel) rfl (so_iload_n (f := 1) (by decide +kernel) rfl (so_callV (C := RX9) (T := TX9) (N0 := 38) (by decide +kernel) kcf_183 rfl rfl rfl kw_579 kw_580 kw_581 (by decide +kernel) (sb_183_0 hj) (so_istore_n (f := 3) (by decide +kernel) rfl (by decide +kernel) (so_aload_n (f := 0) (by decide +kernel) rfl (so_get (C := RX9) (T := TX9) (N := 38) (by decide +kernel) rfl kin_9 (by decide) kw_467 (b := true) rfl (fun _ => rfl) (so_iload_n (f := 3) (by decide +kernel) rfl (so_zald (by decide +kernel) (so_if (off := 8) (tgt := 39) (by decide +kernel) (by decide) rfl (sb_190_39 hj) (so_ldci (i := 241) (by decide +kernel) kw_572 (by decide) (so_goto (off := 23) (tgt := 59) (by decide +kernel) (by decide) (sb_190_59 hj)))))))))))
set_option maxRecDepth 20000 in
theorem sb_190_16 {j : AJ} (hj : SJ j) : Sound kM_190 16 (mb_190_16 j) := by
  unfold mb_190_16
  exact so_ldci (i := 241) (by decide +kernel) kw_572 (by decide) (so_reti (by decide +kernel) rfl)
set_option maxRecDepth 20000 in
theorem sb_190_0 {j : AJ} (hj : SJ j) : Sound kM_190 0 (mb_190_0 j) := by
  unfold mb_190_0
  exact so_iload_n (f := 1) (by decide +kernel) rfl (so_callS (by decide +kernel) kcf_165 rfl kw_540 kw_541 (by decide +kernel) (sb_165_0 hj) (so_if (off := 12) (tgt := 16) (by decide +kernel) (by decide) rfl (sb_190_16 hj) (so_iload_n (f := 2) (by decide +kernel) rfl (so_if (off := 8) (tgt := 16) (by decide +kernel) (by decide) rfl (sb_190_16 hj) (so_iload_n (f := 2) (by decide +kernel) rfl (so_iconst (i := 1) (by decide +kernel) (by decide +kernel) (by decide) (so_icmp (off := 6) (tgt := 19) (by decide +kernel) (by decide) rfl (sb_190_19 hj) (sb_190_16 hj))))))))
set_option maxRecDepth 20000 in
theorem sb_191_64 {j : AJ} (hj : SJ j) : Sound kM_191 64 (mb_191_64 j) := by
  unfold mb_191_64
  exact so_reti (by decide +kernel) rfl
set_option maxRecDepth 20000 in
theorem sb_191_58 {j : AJ} (hj : SJ j) : Sound kM_191 58 (mb_191_58 j) := by
  unfold mb_191_58
  exact so_iload_n (f := 3) (by decide +kernel) rfl (so_iload (by decide +kernel) (so_subU (by decide +kernel) (so_iconst (i := 2) (by decide +kernel) (by decide +kernel) (by decide) (so_idiv (by decide +kernel) (sb_191_64 hj)))))
set_option maxRecDepth 20000 in
theorem sb_191_46 {j : AJ} (hj : SJ j) : Sound kM_191 46 (mb_191_46 j) := by
  unfold mb_191_46
  exact so_istore (by decide +kernel) (by decide +kernel) (so_iload_n (f := 2) (by decide +kernel) rfl (so_iconst (i := 1) (by decide +kernel) (by decide +kernel) (by decide) (so_icmp (off := 8) (tgt := 58) (by decide +kernel) (by decide) rfl (sb_191_58 hj) (so_iload (by decide +kernel) (so_goto (off := 9) (tgt := 64) (by decide +kernel) (by decide) (sb_191_64 hj))))))
set_option maxRecDepth 20000 in
theorem sb_191_45 {j : AJ} (hj : SJ j) : Sound kM_191 45 (mb_191_45 j) := by
  unfold mb_191_45
  exact so_iconst (i := 0) (by decide +kernel) (by decide +kernel) (by decide) (sb_191_46 hj)
set_option maxRecDepth 20000 in
theorem sb_191_28 {j : AJ} (hj : SJ j) : Sound kM_191 28 (mb_191_28 j) := by
  unfold mb_191_28
  exact so_aload_n (f := 0) (by decide +kernel) rfl (so_iload_n (f := 1) (by decide +kernel) rfl (so_callV (C := RX9) (T := TX9) (N0 := 38) (by decide +kernel) kcf_185 rfl rfl rfl kw_573 kw_574 kw_575 (by decide +kernel) (sb_185_0 hj) (so_istore_n (f := 3) (by decide +kernel) rfl (by decide +kernel) (so_iload_n (f := 3) (by decide +kernel) rfl (so_iconst (i := 1) (by decide +kernel) (by decide +kernel) (by decide) (so_iand (by decide +kernel) (so_iconst (i := 1) (by decide +kernel) (by decide +kernel) (by decide) (so_icmp (off := 7) (tgt := 45) (by decide +kernel) (by decide) rfl (sb_191_45 hj) (so_iconst (i := 1) (by decide +kernel) (by decide +kernel) (by decide) (so_goto (off := 4) (tgt := 46) (by decide +kernel) (by decide) (sb_191_46 hj)))))))))))
set_option maxRecDepth 20000 in
theorem sb_191_25 {j : AJ} (hj : SJ j) : Sound kM_191 25 (mb_191_25 j) := by
  unfold mb_191_25
  exact so_ldci (i := 241) (by decide +kernel) kw_572 (by decide) (so_reti (by decide +kernel) rfl)
set_option maxRecDepth 20000 in
theorem sb_191_0 {j : AJ} (hj : SJ j) : Sound kM_191 0 (mb_191_0 j) := by
  unfold mb_191_0
  exact so_iload_n (f := 1) (by decide +kernel) rfl (so_callS (by decide +kernel) kcf_165 rfl kw_540 kw_541 (by decide +kernel) (sb_165_0 hj) (so_if (off := 21) (tgt := 25) (by decide +kernel) (by decide) rfl (sb_191_25 hj) (so_iload_n (f := 2) (by decide +kernel) rfl (so_if (off := 17) (tgt := 25) (by decide +kernel) (by decide) rfl (sb_191_25 hj) (so_iload_n (f := 2) (by decide +kernel) rfl (so_iconst (i := 1) (by decide +kernel) (by decide +kernel) (by decide) (so_icmp (off := 12) (tgt := 25) (by decide +kernel) (by decide) rfl (sb_191_25 hj) (so_aload_n (f := 0) (by decide +kernel) rfl (so_iload_n (f := 1) (by decide +kernel) rfl (so_callV (C := RX9) (T := TX9) (N0 := 38) (by decide +kernel) kcf_186 rfl rfl rfl kw_582 kw_583 kw_584 (by decide +kernel) (sb_186_0 hj) (so_iconst (i := 3) (by decide +kernel) (by decide +kernel) (by decide) (so_icmp (off := 6) (tgt := 28) (by decide +kernel) (by decide) rfl (sb_191_28 hj) (sb_191_25 hj)))))))))))))
set_option maxRecDepth 20000 in
theorem sb_192_61 {j : AJ} (hj : SJ j) : Sound kM_192 61 (mb_192_61 j) := by
  unfold mb_192_61
  exact so_reti (by decide +kernel) rfl
set_option maxRecDepth 20000 in
theorem sb_192_54 {j : AJ} (hj : SJ j) : Sound kM_192 54 (mb_192_54 j) := by
  unfold mb_192_54
  exact so_aload_n (f := 0) (by decide +kernel) rfl (so_get (C := RX9) (T := TX9) (N := 38) (by decide +kernel) rfl kin_9 (by decide) kw_471 (b := true) rfl (fun _ => rfl) (so_iload (by decide +kernel) (so_ialdU (by decide +kernel) (sb_192_61 hj))))
set_option maxRecDepth 20000 in
theorem sb_192_28 {j : AJ} (hj : SJ j) : Sound kM_192 28 (mb_192_28 j) := by
  unfold mb_192_28
  exact so_iconst (i := 2) (by decide +kernel) (by decide +kernel) (by decide) (so_aload_n (f := 0) (by decide +kernel) rfl (so_iload_n (f := 1) (by decide +kernel) rfl (so_callV (C := RX9) (T := TX9) (N0 := 38) (by decide +kernel) kcf_183 rfl rfl rfl kw_579 kw_580 kw_581 (by decide +kernel) (sb_183_0 hj) (so_mulU (by decide +kernel) (so_iload_n (f := 2) (by decide +kernel) rfl (so_addU (by decide +kernel) (so_istore (by decide +kernel) (by decide +kernel) (so_iload_n (f := 3) (by decide +kernel) rfl (so_if (off := 14) (tgt := 54) (by decide +kernel) (by decide) rfl (sb_192_54 hj) (so_aload_n (f := 0) (by decide +kernel) rfl (so_get (C := RX9) (T := TX9) (N := 38) (by decide +kernel) rfl kin_9 (by decide) kw_470 (b := true) rfl (fun _ => rfl) (so_iload (by decide +kernel) (so_lald (by decide +kernel) (so_l2i (by decide +kernel) (so_goto (off := 10) (tgt := 61) (by decide +kernel) (by decide) (sb_192_61 hj))))))))))))))))
set_option maxRecDepth 20000 in
theorem sb_192_25 {j : AJ} (hj : SJ j) : Sound kM_192 25 (mb_192_25 j) := by
  unfold mb_192_25
  exact so_ldci (i := 241) (by decide +kernel) kw_572 (by decide) (so_reti (by decide +kernel) rfl)
set_option maxRecDepth 20000 in
theorem sb_192_0 {j : AJ} (hj : SJ j) : Sound kM_192 0 (mb_192_0 j) := by
  unfold mb_192_0
  exact so_iload_n (f := 1) (by decide +kernel) rfl (so_callS (by decide +kernel) kcf_165 rfl kw_540 kw_541 (by decide +kernel) (sb_165_0 hj) (so_if (off := 21) (tgt := 25) (by decide +kernel) (by decide) rfl (sb_192_25 hj) (so_iload_n (f := 2) (by decide +kernel) rfl (so_if (off := 17) (tgt := 25) (by decide +kernel) (by decide) rfl (sb_192_25 hj) (so_iload_n (f := 2) (by decide +kernel) rfl (so_iconst (i := 1) (by decide +kernel) (by decide +kernel) (by decide) (so_icmp (off := 12) (tgt := 25) (by decide +kernel) (by decide) rfl (sb_192_25 hj) (so_iload_n (f := 3) (by decide +kernel) rfl (so_if (off := 8) (tgt := 25) (by decide +kernel) (by decide) rfl (sb_192_25 hj) (so_iload_n (f := 3) (by decide +kernel) rfl (so_iconst (i := 1) (by decide +kernel) (by decide +kernel) (by decide) (so_icmp (off := 6) (tgt := 28) (by decide +kernel) (by decide) rfl (sb_192_28 hj) (sb_192_25 hj)))))))))))))
set_option maxRecDepth 20000 in
theorem sb_193_80 {j : AJ} (hj : SJ j) : Sound kM_193 80 (mb_193_80 j) := by
  unfold mb_193_80
  exact so_iload_n (f := 2) (by decide +kernel) rfl (so_reti (by decide +kernel) rfl)
set_option maxRecDepth 20000 in
theorem sb_193_74 {j : AJ} (hj : SJ j) : Sound kM_193 74 (mb_193_74 j) := by
  unfold mb_193_74
  exact so_iinc (z := 1) (by decide +kernel) (by decide +kernel) (by decide) (by decide +kernel) (so_goto (off := -73) (tgt := 4) (by decide +kernel) (by decide) (hj 148 _ _ rfl))
set_option maxRecDepth 20000 in
theorem sb_193_68 {j : AJ} (hj : SJ j) : Sound kM_193 68 (mb_193_68 j) := by
  unfold mb_193_68
  exact so_iinc (z := 1) (by decide +kernel) (by decide +kernel) (by decide) (by decide +kernel) (so_goto (off := -58) (tgt := 13) (by decide +kernel) (by decide) (hj 147 _ _ rfl))
set_option maxRecDepth 20000 in
theorem sb_193_52 {j : AJ} (hj : SJ j) : Sound kM_193 52 (mb_193_52 j) := by
  unfold mb_193_52
  exact so_aload_n (f := 0) (by decide +kernel) rfl (so_get (C := RX9) (T := TX9) (N := 38) (by decide +kernel) rfl kin_9 (by decide) kw_472 (b := true) rfl (fun _ => rfl) (so_iload_n (f := 2) (by decide +kernel) rfl (so_bipush (i := 16) (by decide +kernel) (by decide +kernel) (by decide) (so_iload_n (f := 3) (by decide +kernel) rfl (so_imul (by decide +kernel) (so_iload (by decide +kernel) (so_iadd (by decide +kernel) (so_iast (by decide +kernel) (so_iinc (z := 1) (by decide +kernel) (by decide +kernel) (by decide) (by decide +kernel) (sb_193_68 hj))))))))))
set_option maxRecDepth 20000 in
theorem sb_193_13 {j : AJ} (hj : SJ j) : Sound kM_193 13 (mb_193_13 j) := by
  unfold mb_193_13
  exact so_iload (by decide +kernel) (so_bipush (i := 16) (by decide +kernel) (by decide +kernel) (by decide) (so_icmp (off := 57) (tgt := 74) (by decide +kernel) (by decide) rfl (sb_193_74 hj) (so_iload_n (f := 1) (by decide +kernel) rfl (so_iload_n (f := 3) (by decide +kernel) rfl (so_ishr (by decide +kernel) (so_iconst (i := 1) (by decide +kernel) (by decide +kernel) (by decide) (so_iand (by decide +kernel) (so_iconst (i := 1) (by decide +kernel) (by decide +kernel) (by decide) (so_icmp (off := 42) (tgt := 68) (by decide +kernel) (by decide) rfl (sb_193_68 hj) (so_aload_n (f := 0) (by decide +kernel) rfl (so_get (C := RX9) (T := TX9) (N := 38) (by decide +kernel) rfl kin_9 (by decide) kw_442 (b := true) rfl (fun _ => rfl) (so_iload_n (f := 3) (by decide +kernel) rfl (so_iald (by decide +kernel) (so_iload (by decide +kernel) (so_callS (by decide +kernel) kcf_137 rfl kw_482 kw_483 (by decide +kernel) (sb_137_0 hj) (so_if (off := 28) (tgt := 68) (by decide +kernel) (by decide) rfl (sb_193_68 hj) (so_iload_n (f := 2) (by decide +kernel) rfl (so_bipush (i := 12) (by decide +kernel) (by decide +kernel) (by decide) (so_icmp (off := 6) (tgt := 52) (by decide +kernel) (by decide) rfl (sb_193_52 hj) (so_bipush (i := 13) (by decide +kernel) (by decide +kernel) (by decide) (so_reti (by decide +kernel) rfl)))))))))))))))))))))
set_option maxRecDepth 20000 in
theorem sb_193_4 {j : AJ} (hj : SJ j) : Sound kM_193 4 (mb_193_4 j) := by
  unfold mb_193_4
  exact so_iload_n (f := 3) (by decide +kernel) rfl (so_bipush (i := 6) (by decide +kernel) (by decide +kernel) (by decide) (so_icmp (off := 73) (tgt := 80) (by decide +kernel) (by decide) rfl (sb_193_80 hj) (so_iconst (i := 0) (by decide +kernel) (by decide +kernel) (by decide) (so_istore (by decide +kernel) (by decide +kernel) (sb_193_13 hj)))))
set_option maxRecDepth 20000 in
theorem sb_193_0 {j : AJ} (hj : SJ j) : Sound kM_193 0 (mb_193_0 j) := by
  unfold mb_193_0
  exact so_iconst (i := 0) (by decide +kernel) (by decide +kernel) (by decide) (so_istore_n (f := 2) (by decide +kernel) rfl (by decide +kernel) (so_iconst (i := 0) (by decide +kernel) (by decide +kernel) (by decide) (so_istore_n (f := 3) (by decide +kernel) rfl (by decide +kernel) (sb_193_4 hj))))
set_option maxRecDepth 20000 in
theorem sb_194_114 {j : AJ} (hj : SJ j) : Sound kM_194 114 (mb_194_114 j) := by
  unfold mb_194_114
  exact so_iconst (i := -1) (by decide +kernel) (by decide +kernel) (by decide) (so_reti (by decide +kernel) rfl)
set_option maxRecDepth 20000 in
theorem sb_194_108 {j : AJ} (hj : SJ j) : Sound kM_194 108 (mb_194_108 j) := by
  unfold mb_194_108
  exact so_iinc (z := 1) (by decide +kernel) (by decide +kernel) (by decide) (by decide +kernel) (so_goto (off := -57) (tgt := 54) (by decide +kernel) (by decide) (hj 149 _ _ rfl))
set_option maxRecDepth 20000 in
theorem sb_194_54 {j : AJ} (hj : SJ j) : Sound kM_194 54 (mb_194_54 j) := by
  unfold mb_194_54
  exact so_iload (by decide +kernel) (so_iload_n (f := 3) (by decide +kernel) rfl (so_icmp (off := 57) (tgt := 114) (by decide +kernel) (by decide) rfl (sb_194_114 hj) (so_iload (by decide +kernel) (so_bipush (i := 16) (by decide +kernel) (by decide +kernel) (by decide) (so_idiv (by decide +kernel) (so_iload (by decide +kernel) (so_bipush (i := 16) (by decide +kernel) (by decide +kernel) (by decide) (so_idiv (by decide +kernel) (so_icmp (off := 44) (tgt := 114) (by decide +kernel) (by decide) rfl (sb_194_114 hj) (so_aload_n (f := 0) (by decide +kernel) rfl (so_get (C := RX9) (T := TX9) (N := 38) (by decide +kernel) rfl kin_9 (by decide) kw_472 (b := true) rfl (fun _ => rfl) (so_iload (by decide +kernel) (so_iald (by decide +kernel) (so_iload (by decide +kernel) (so_icmp (off := 26) (tgt := 108) (by decide +kernel) (by decide) rfl (sb_194_108 hj) (so_iload_n (f := 1) (by decide +kernel) rfl (so_iload (by decide +kernel) (so_ishr (by decide +kernel) (so_iconst (i := 1) (by decide +kernel) (by decide +kernel) (by decide) (so_iand (by decide +kernel) (so_iconst (i := 1) (by decide +kernel) (by decide +kernel) (by decide) (so_icmp (off := 16) (tgt := 108) (by decide +kernel) (by decide) rfl (sb_194_108 hj) (so_iload_n (f := 1) (by decide +kernel) rfl (so_iconst (i := 1) (by decide +kernel) (by decide +kernel) (by decide) (so_iload_n (f := 2) (by decide +kernel) rfl (so_ishl (by decide +kernel) (so_iconst (i := 1) (by decide +kernel) (by decide +kernel) (by decide) (so_iload (by decide +kernel) (so_ishl (by decide +kernel) (so_ior (by decide +kernel) (so_iconst (i := -1) (by decide +kernel) (by decide +kernel) (by decide) (so_ixor (by decide +kernel) (so_iand (by decide +kernel) (so_reti (by decide +kernel) rfl))))))))))))))))))))))))))))))))))
set_option maxRecDepth 20000 in
theorem sb_194_47 {j : AJ} (hj : SJ j) : Sound kM_194 47 (mb_194_47 j) := by
  unfold mb_194_47
  exact so_istore (by decide +kernel) (by decide +kernel) (so_iload_n (f := 2) (by decide +kernel) rfl (so_iconst (i := 1) (by decide +kernel) (by decide +kernel) (by decide) (so_iadd (by decide +kernel) (so_istore (by decide +kernel) (by decide +kernel) (sb_194_54 hj)))))
set_option maxRecDepth 20000 in
theorem sb_194_43 {j : AJ} (hj : SJ j) : Sound kM_194 43 (mb_194_43 j) := by
  unfold mb_194_43
  exact so_iload (by decide +kernel) (so_iconst (i := 4) (by decide +kernel) (by decide +kernel) (by decide) (so_iadd (by decide +kernel) (sb_194_47 hj)))
set_option maxRecDepth 20000 in
theorem sb_194_31 {j : AJ} (hj : SJ j) : Sound kM_194 31 (mb_194_31 j) := by
  unfold mb_194_31
  exact so_iload (by decide +kernel) (so_if (off := 10) (tgt := 43) (by decide +kernel) (by decide) rfl (sb_194_43 hj) (so_iload (by decide +kernel) (so_iconst (i := 1) (by decide +kernel) (by decide +kernel) (by decide) (so_iadd (by decide +kernel) (so_goto (off := 7) (tgt := 47) (by decide +kernel) (by decide) (sb_194_47 hj))))))
set_option maxRecDepth 20000 in
theorem sb_194_29 {j : AJ} (hj : SJ j) : Sound kM_194 29 (mb_194_29 j) := by
  unfold mb_194_29
  exact so_iconst (i := -1) (by decide +kernel) (by decide +kernel) (by decide) (so_reti (by decide +kernel) rfl)
set_option maxRecDepth 20000 in
theorem sb_194_0 {j : AJ} (hj : SJ j) : Sound kM_194 0 (mb_194_0 j) := by
  unfold mb_194_0
  exact so_aload_n (f := 0) (by decide +kernel) rfl (so_get (C := RX9) (T := TX9) (N := 38) (by decide +kernel) rfl kin_9 (by decide) kw_472 (b := true) rfl (fun _ => rfl) (so_iload_n (f := 2) (by decide +kernel) rfl (so_iald (by decide +kernel) (so_istore (by decide +kernel) (by decide +kernel) (so_iload_n (f := 1) (by decide +kernel) rfl (so_iload_n (f := 2) (by decide +kernel) rfl (so_ishr (by decide +kernel) (so_iconst (i := 1) (by decide +kernel) (by decide +kernel) (by decide) (so_iand (by decide +kernel) (so_if (off := 16) (tgt := 29) (by decide +kernel) (by decide) rfl (sb_194_29 hj) (so_iload (by decide +kernel) (so_if (off := 13) (tgt := 31) (by decide +kernel) (by decide) rfl (sb_194_31 hj) (so_iload (by decide +kernel) (so_iconst (i := 4) (by decide +kernel) (by decide +kernel) (by decide) (so_irem (by decide +kernel) (so_iconst (i := 3) (by decide +kernel) (by decide +kernel) (by decide) (so_icmp (off := 5) (tgt := 31) (by decide +kernel) (by decide) rfl (sb_194_31 hj) (sb_194_29 hj))))))))))))))))))
set_option maxRecDepth 20000 in
theorem sb_195_102 {j : AJ} (hj : SJ j) : Sound kM_195 102 (mb_195_102 j) := by
  unfold mb_195_102
  exact so_retv (by decide +kernel) rfl
set_option maxRecDepth 20000 in
theorem sb_195_96 {j : AJ} (hj : SJ j) : Sound kM_195 96 (mb_195_96 j) := by
  unfold mb_195_96
  exact so_iinc (z := 1) (by decide +kernel) (by decide +kernel) (by decide) (by decide +kernel) (so_goto (off := -97) (tgt := 2) (by decide +kernel) (by decide) (hj 152 _ _ rfl))
set_option maxRecDepth 20000 in
theorem sb_195_78 {j : AJ} (hj : SJ j) : Sound kM_195 78 (mb_195_78 j) := by
  unfold mb_195_78
  exact so_aload_n (f := 0) (by decide +kernel) rfl (so_get (C := RX9) (T := TX9) (N := 38) (by decide +kernel) rfl kin_9 (by decide) kw_473 (b := true) rfl (fun _ => rfl) (so_iconst (i := 2) (by decide +kernel) (by decide +kernel) (by decide) (so_iload_n (f := 2) (by decide +kernel) rfl (so_imul (by decide +kernel) (so_iload_n (f := 3) (by decide +kernel) rfl (so_iadd (by decide +kernel) (so_iload (by decide +kernel) (so_zast (by decide +kernel) (so_iinc (z := 1) (by decide +kernel) (by decide +kernel) (by decide) (by decide +kernel) (so_goto (off := -82) (tgt := 11) (by decide +kernel) (by decide) (hj 151 _ _ rfl)))))))))))
set_option maxRecDepth 20000 in
theorem sb_195_70 {j : AJ} (hj : SJ j) : Sound kM_195 70 (mb_195_70 j) := by
  unfold mb_195_70
  exact so_istore (by decide +kernel) (by decide +kernel) (so_iinc (z := 1) (by decide +kernel) (by decide +kernel) (by decide) (by decide +kernel) (so_goto (off := -53) (tgt := 22) (by decide +kernel) (by decide) (hj 150 _ _ rfl)))
set_option maxRecDepth 20000 in
theorem sb_195_69 {j : AJ} (hj : SJ j) : Sound kM_195 69 (mb_195_69 j) := by
  unfold mb_195_69
  exact so_iconst (i := 0) (by decide +kernel) (by decide +kernel) (by decide) (sb_195_70 hj)
set_option maxRecDepth 20000 in
theorem sb_195_65 {j : AJ} (hj : SJ j) : Sound kM_195 65 (mb_195_65 j) := by
  unfold mb_195_65
  exact so_iconst (i := 1) (by decide +kernel) (by decide +kernel) (by decide) (so_goto (off := 4) (tgt := 70) (by decide +kernel) (by decide) (sb_195_70 hj))
set_option maxRecDepth 20000 in
theorem sb_195_22 {j : AJ} (hj : SJ j) : Sound kM_195 22 (mb_195_22 j) := by
  unfold mb_195_22
  exact so_iload (by decide +kernel) (so_iload_n (f := 1) (by decide +kernel) rfl (so_icmp (off := 53) (tgt := 78) (by decide +kernel) (by decide) rfl (sb_195_78 hj) (so_aload_n (f := 0) (by decide +kernel) rfl (so_iload_n (f := 2) (by decide +kernel) rfl (so_iload (by decide +kernel) (so_iload_n (f := 1) (by decide +kernel) rfl (so_iload_n (f := 3) (by decide +kernel) rfl (so_callV (C := RX9) (T := TX9) (N0 := 38) (by decide +kernel) kcf_194 rfl rfl rfl kw_585 kw_586 kw_587 (by decide +kernel) (sb_194_0 hj) (so_istore (by decide +kernel) (by decide +kernel) (so_iload (by decide +kernel) (so_if (off := 24) (tgt := 65) (by decide +kernel) (by decide) rfl (sb_195_65 hj) (so_iload (by decide +kernel) (so_if (off := 23) (tgt := 69) (by decide +kernel) (by decide) rfl (sb_195_69 hj) (so_aload_n (f := 0) (by decide +kernel) rfl (so_get (C := RX9) (T := TX9) (N := 38) (by decide +kernel) rfl kin_9 (by decide) kw_473 (b := true) rfl (fun _ => rfl) (so_iconst (i := 2) (by decide +kernel) (by decide +kernel) (by decide) (so_iload (by decide +kernel) (so_imul (by decide +kernel) (so_iconst (i := 1) (by decide +kernel) (by decide +kernel) (by decide) (so_iadd (by decide +kernel) (so_iload_n (f := 3) (by decide +kernel) rfl (so_isub (by decide +kernel) (so_zald (by decide +kernel) (so_if (off := 7) (tgt := 69) (by decide +kernel) (by decide) rfl (sb_195_69 hj) (sb_195_65 hj)))))))))))))))))))))))))
set_option maxRecDepth 20000 in
theorem sb_195_11 {j : AJ} (hj : SJ j) : Sound kM_195 11 (mb_195_11 j) := by
  unfold mb_195_11
  exact so_iload_n (f := 3) (by decide +kernel) rfl (so_iconst (i := 2) (by decide +kernel) (by decide +kernel) (by decide) (so_icmp (off := 83) (tgt := 96) (by decide +kernel) (by decide) rfl (sb_195_96 hj) (so_iconst (i := 0) (by decide +kernel) (by decide +kernel) (by decide) (so_istore (by decide +kernel) (by decide +kernel) (so_iconst (i := 0) (by decide +kernel) (by decide +kernel) (by decide) (so_istore (by decide +kernel) (by decide +kernel) (sb_195_22 hj)))))))
set_option maxRecDepth 20000 in
theorem sb_195_2 {j : AJ} (hj : SJ j) : Sound kM_195 2 (mb_195_2 j) := by
  unfold mb_195_2
  exact so_iload_n (f := 2) (by decide +kernel) rfl (so_iconst (i := 1) (by decide +kernel) (by decide +kernel) (by decide) (so_iload_n (f := 1) (by decide +kernel) rfl (so_ishl (by decide +kernel) (so_icmp (off := 96) (tgt := 102) (by decide +kernel) (by decide) rfl (sb_195_102 hj) (so_iconst (i := 0) (by decide +kernel) (by decide +kernel) (by decide) (so_istore_n (f := 3) (by decide +kernel) rfl (by decide +kernel) (sb_195_11 hj)))))))
set_option maxRecDepth 20000 in
theorem sb_195_0 {j : AJ} (hj : SJ j) : Sound kM_195 0 (mb_195_0 j) := by
  unfold mb_195_0
  exact so_iconst (i := 0) (by decide +kernel) (by decide +kernel) (by decide) (so_istore_n (f := 2) (by decide +kernel) rfl (by decide +kernel) (sb_195_2 hj))
set_option maxRecDepth 20000 in
theorem sb_196_63 {j : AJ} (hj : SJ j) : Sound kM_196 63 (mb_196_63 j) := by
  unfold mb_196_63
  exact so_reti (by decide +kernel) rfl
set_option maxRecDepth 20000 in
theorem sb_196_62 {j : AJ} (hj : SJ j) : Sound kM_196 62 (mb_196_62 j) := by
  unfold mb_196_62
  exact so_iconst (i := 0) (by decide +kernel) (by decide +kernel) (by decide) (sb_196_63 hj)
set_option maxRecDepth 20000 in
theorem sb_196_36 {j : AJ} (hj : SJ j) : Sound kM_196 36 (mb_196_36 j) := by
  unfold mb_196_36
  exact so_aload_n (f := 0) (by decide +kernel) rfl (so_iload_n (f := 3) (by decide +kernel) rfl (so_callV (C := RX9) (T := TX9) (N0 := 38) (by decide +kernel) kcf_195 rfl rfl rfl kw_588 kw_589 kw_590 (by decide +kernel) (sb_195_0 hj) (so_aload_n (f := 0) (by decide +kernel) rfl (so_get (C := RX9) (T := TX9) (N := 38) (by decide +kernel) rfl kin_9 (by decide) kw_473 (b := true) rfl (fun _ => rfl) (so_iconst (i := 2) (by decide +kernel) (by decide +kernel) (by decide) (so_iconst (i := 1) (by decide +kernel) (by decide +kernel) (by decide) (so_iload_n (f := 3) (by decide +kernel) rfl (so_ishl (by decide +kernel) (so_iconst (i := 1) (by decide +kernel) (by decide +kernel) (by decide) (so_isub (by decide +kernel) (so_imul (by decide +kernel) (so_iload_n (f := 2) (by decide +kernel) rfl (so_iadd (by decide +kernel) (so_zald (by decide +kernel) (so_if (off := 7) (tgt := 62) (by decide +kernel) (by decide) rfl (sb_196_62 hj) (so_iconst (i := 1) (by decide +kernel) (by decide +kernel) (by decide) (so_goto (off := 4) (tgt := 63) (by decide +kernel) (by decide) (sb_196_63 hj))))))))))))))))))
set_option maxRecDepth 20000 in
theorem sb_196_21 {j : AJ} (hj : SJ j) : Sound kM_196 21 (mb_196_21 j) := by
  unfold mb_196_21
  exact so_aload_n (f := 0) (by decide +kernel) rfl (so_iload_n (f := 1) (by decide +kernel) rfl (so_callV (C := RX9) (T := TX9) (N0 := 38) (by decide +kernel) kcf_193 rfl rfl rfl kw_591 kw_592 kw_593 (by decide +kernel) (sb_193_0 hj) (so_istore_n (f := 3) (by decide +kernel) rfl (by decide +kernel) (so_iload_n (f := 3) (by decide +kernel) rfl (so_bipush (i := 12) (by decide +kernel) (by decide +kernel) (by decide) (so_icmp (off := 6) (tgt := 36) (by decide +kernel) (by decide) rfl (sb_196_36 hj) (so_bipush (i := -3) (by decide +kernel) (by decide +kernel) (by decide) (so_reti (by decide +kernel) rfl))))))))
set_option maxRecDepth 20000 in
theorem sb_196_19 {j : AJ} (hj : SJ j) : Sound kM_196 19 (mb_196_19 j) := by
  unfold mb_196_19
  exact so_iconst (i := -1) (by decide +kernel) (by decide +kernel) (by decide) (so_reti (by decide +kernel) rfl)
set_option maxRecDepth 20000 in
theorem sb_196_0 {j : AJ} (hj : SJ j) : Sound kM_196 0 (mb_196_0 j) := by
  unfold mb_196_0
  exact so_iload_n (f := 1) (by decide +kernel) rfl (so_if (off := 18) (tgt := 19) (by decide +kernel) (by decide) rfl (sb_196_19 hj) (so_iload_n (f := 1) (by decide +kernel) rfl (so_bipush (i := 63) (by decide +kernel) (by decide +kernel) (by decide) (so_icmp (off := 12) (tgt := 19) (by decide +kernel) (by decide) rfl (sb_196_19 hj) (so_iload_n (f := 2) (by decide +kernel) rfl (so_if (off := 8) (tgt := 19) (by decide +kernel) (by decide) rfl (sb_196_19 hj) (so_iload_n (f := 2) (by decide +kernel) rfl (so_iconst (i := 1) (by decide +kernel) (by decide +kernel) (by decide) (so_icmp (off := 5) (tgt := 21) (by decide +kernel) (by decide) rfl (sb_196_21 hj) (sb_196_19 hj))))))))))
set_option maxRecDepth 20000 in
theorem sb_197_82 {j : AJ} (hj : SJ j) : Sound kM_197 82 (mb_197_82 j) := by
  unfold mb_197_82
  exact so_bipush (i := -4) (by decide +kernel) (by decide +kernel) (by decide) (so_reti (by decide +kernel) rfl)
set_option maxRecDepth 20000 in
theorem sb_197_76 {j : AJ} (hj : SJ j) : Sound kM_197 76 (mb_197_76 j) := by
  unfold mb_197_76
  exact so_iinc (z := 1) (by decide +kernel) (by decide +kernel) (by decide) (by decide +kernel) (so_goto (off := -56) (tgt := 23) (by decide +kernel) (by decide) (hj 153 _ _ rfl))
set_option maxRecDepth 20000 in
theorem sb_197_23 {j : AJ} (hj : SJ j) : Sound kM_197 23 (mb_197_23 j) := by
  unfold mb_197_23
  exact so_iload (by decide +kernel) (so_iload (by decide +kernel) (so_icmp (off := 55) (tgt := 82) (by decide +kernel) (by decide) rfl (sb_197_82 hj) (so_aload_n (f := 0) (by decide +kernel) rfl (so_iconst (i := 1) (by decide +kernel) (by decide +kernel) (by decide) (so_iload (by decide +kernel) (so_ishl (by decide +kernel) (so_iconst (i := 1) (by decide +kernel) (by decide +kernel) (by decide) (so_isub (by decide +kernel) (so_iload (by decide +kernel) (so_iload (by decide +kernel) (so_iload_n (f := 2) (by decide +kernel) rfl (so_callV (C := RX9) (T := TX9) (N0 := 38) (by decide +kernel) kcf_194 rfl rfl rfl kw_585 kw_586 kw_587 (by decide +kernel) (sb_194_0 hj) (so_istore (by decide +kernel) (by decide +kernel) (so_iload (by decide +kernel) (so_if (off := 27) (tgt := 76) (by decide +kernel) (by decide) rfl (sb_197_76 hj) (so_aload_n (f := 0) (by decide +kernel) rfl (so_get (C := RX9) (T := TX9) (N := 38) (by decide +kernel) rfl kin_9 (by decide) kw_473 (b := true) rfl (fun _ => rfl) (so_iconst (i := 2) (by decide +kernel) (by decide +kernel) (by decide) (so_iload (by decide +kernel) (so_imul (by decide +kernel) (so_iconst (i := 1) (by decide +kernel) (by decide +kernel) (by decide) (so_iadd (by decide +kernel) (so_iload_n (f := 2) (by decide +kernel) rfl (so_isub (by decide +kernel) (so_zald (by decide +kernel) (so_if (off := 11) (tgt := 76) (by decide +kernel) (by decide) rfl (sb_197_76 hj) (so_aload_n (f := 0) (by decide +kernel) rfl (so_get (C := RX9) (T := TX9) (N := 38) (by decide +kernel) rfl kin_9 (by decide) kw_472 (b := true) rfl (fun _ => rfl) (so_iload (by decide +kernel) (so_iald (by decide +kernel) (so_reti (by decide +kernel) rfl)))))))))))))))))))))))))))))))
set_option maxRecDepth 20000 in
theorem sb_197_13 {j : AJ} (hj : SJ j) : Sound kM_197 13 (mb_197_13 j) := by
  unfold mb_197_13
  exact so_aload_n (f := 0) (by decide +kernel) rfl (so_iload_n (f := 1) (by decide +kernel) rfl (so_callV (C := RX9) (T := TX9) (N0 := 38) (by decide +kernel) kcf_193 rfl rfl rfl kw_591 kw_592 kw_593 (by decide +kernel) (sb_193_0 hj) (so_istore (by decide +kernel) (by decide +kernel) (so_iconst (i := 0) (by decide +kernel) (by decide +kernel) (by decide) (so_istore (by decide +kernel) (by decide +kernel) (sb_197_23 hj))))))
set_option maxRecDepth 20000 in
theorem sb_197_0 {j : AJ} (hj : SJ j) : Sound kM_197 0 (mb_197_0 j) := by
  unfold mb_197_0
  exact so_aload_n (f := 0) (by decide +kernel) rfl (so_iload_n (f := 1) (by decide +kernel) rfl (so_iload_n (f := 2) (by decide +kernel) rfl (so_callV (C := RX9) (T := TX9) (N0 := 38) (by decide +kernel) kcf_196 rfl rfl rfl kw_594 kw_595 kw_596 (by decide +kernel) (sb_196_0 hj) (so_istore_n (f := 3) (by decide +kernel) rfl (by decide +kernel) (so_iload_n (f := 3) (by decide +kernel) rfl (so_if (off := 5) (tgt := 13) (by decide +kernel) (by decide) rfl (sb_197_13 hj) (so_iload_n (f := 3) (by decide +kernel) rfl (so_reti (by decide +kernel) rfl))))))))
