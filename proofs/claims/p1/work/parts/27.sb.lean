/-! ===== the blocks are sound ===== -/
set_option maxRecDepth 20000 in
theorem sb_173_100 {j : AJ} (hj : SJ j) : Sound kM_173 100 (mb_173_100 j) := by
  unfold mb_173_100
  exact so_aload_n (f := 0) (by decide +kernel) rfl (so_iload (by decide +kernel) (so_iload_n (f := 3) (by decide +kernel) rfl (so_callV (C := RX9) (T := TX9) (N0 := 38) (by decide +kernel) kcf_164 rfl rfl rfl kw_531 kw_532 kw_533 (by decide +kernel) (sb_164_0 hj) (so_reti (by decide +kernel) rfl))))
set_option maxRecDepth 20000 in
theorem sb_173_84 {j : AJ} (hj : SJ j) : Sound kM_173 84 (mb_173_84 j) := by
  unfold mb_173_84
  exact so_aload_n (f := 0) (by decide +kernel) rfl (so_iload (by decide +kernel) (so_iload (by decide +kernel) (so_callV (C := RX9) (T := TX9) (N0 := 38) (by decide +kernel) kcf_172 rfl rfl rfl kw_551 kw_552 kw_553 (by decide +kernel) (sb_172_0 hj) (so_istore (by decide +kernel) (by decide +kernel) (so_iincU (z := 1) (by decide +kernel) (by decide +kernel) (by decide) (by decide +kernel) (so_goto (off := -26) (tgt := 71) (by decide +kernel) (by decide) (hj 133 _ _ rfl)))))))
set_option maxRecDepth 20000 in
theorem sb_173_71 {j : AJ} (hj : SJ j) : Sound kM_173 71 (mb_173_71 j) := by
  unfold mb_173_71
  exact so_iload (by decide +kernel) (so_iload_n (f := 1) (by decide +kernel) rfl (so_icmp (off := 10) (tgt := 84) (by decide +kernel) (by decide) rfl (sb_173_84 hj) (so_iload (by decide +kernel) (so_iload_n (f := 1) (by decide +kernel) rfl (so_ineg (by decide +kernel) (so_icmp (off := 19) (tgt := 100) (by decide +kernel) (by decide) rfl (sb_173_100 hj) (sb_173_84 hj)))))))
set_option maxRecDepth 20000 in
theorem sb_173_66 {j : AJ} (hj : SJ j) : Sound kM_173 66 (mb_173_66 j) := by
  unfold mb_173_66
  exact so_istore (by decide +kernel) (by decide +kernel) (so_iconst (i := 0) (by decide +kernel) (by decide +kernel) (by decide) (so_istore (by decide +kernel) (by decide +kernel) (sb_173_71 hj)))
set_option maxRecDepth 20000 in
theorem sb_173_65 {j : AJ} (hj : SJ j) : Sound kM_173 65 (mb_173_65 j) := by
  unfold mb_173_65
  exact so_iconst (i := 0) (by decide +kernel) (by decide +kernel) (by decide) (sb_173_66 hj)
set_option maxRecDepth 20000 in
theorem sb_173_54 {j : AJ} (hj : SJ j) : Sound kM_173 54 (mb_173_54 j) := by
  unfold mb_173_54
  exact so_istore (by decide +kernel) (by decide +kernel) (so_iload_n (f := 2) (by decide +kernel) rfl (so_if (off := 8) (tgt := 65) (by decide +kernel) (by decide) rfl (sb_173_65 hj) (so_iload (by decide +kernel) (so_goto (off := 4) (tgt := 66) (by decide +kernel) (by decide) (sb_173_66 hj)))))
set_option maxRecDepth 20000 in
theorem sb_173_47 {j : AJ} (hj : SJ j) : Sound kM_173 47 (mb_173_47 j) := by
  unfold mb_173_47
  exact so_aload_n (f := 0) (by decide +kernel) rfl (so_iload (by decide +kernel) (so_iconst (i := 0) (by decide +kernel) (by decide +kernel) (by decide) (so_callV (C := RX9) (T := TX9) (N0 := 38) (by decide +kernel) kcf_168 rfl rfl rfl kw_542 kw_543 kw_544 (by decide +kernel) (sb_168_0 hj) (sb_173_54 hj))))
set_option maxRecDepth 20000 in
theorem sb_173_21 {j : AJ} (hj : SJ j) : Sound kM_173 21 (mb_173_21 j) := by
  unfold mb_173_21
  exact so_aload_n (f := 0) (by decide +kernel) rfl (so_callV (C := RX9) (T := TX9) (N0 := 38) (by decide +kernel) kcf_162 rfl rfl rfl kw_537 kw_538 kw_539 (by decide +kernel) (sb_162_0 hj) (so_aload_n (f := 0) (by decide +kernel) rfl (so_iconst (i := 0) (by decide +kernel) (by decide +kernel) (by decide) (so_iconst (i := 0) (by decide +kernel) (by decide +kernel) (by decide) (so_callV (C := RX9) (T := TX9) (N0 := 38) (by decide +kernel) kcf_168 rfl rfl rfl kw_542 kw_543 kw_544 (by decide +kernel) (sb_168_0 hj) (so_istore (by decide +kernel) (by decide +kernel) (so_iload_n (f := 1) (by decide +kernel) rfl (so_if (off := 13) (tgt := 47) (by decide +kernel) (by decide) rfl (sb_173_47 hj) (so_aload_n (f := 0) (by decide +kernel) rfl (so_iconst (i := 0) (by decide +kernel) (by decide +kernel) (by decide) (so_iload (by decide +kernel) (so_callV (C := RX9) (T := TX9) (N0 := 38) (by decide +kernel) kcf_168 rfl rfl rfl kw_542 kw_543 kw_544 (by decide +kernel) (sb_168_0 hj) (so_goto (off := 10) (tgt := 54) (by decide +kernel) (by decide) (sb_173_54 hj))))))))))))))
set_option maxRecDepth 20000 in
theorem sb_173_19 {j : AJ} (hj : SJ j) : Sound kM_173 19 (mb_173_19 j) := by
  unfold mb_173_19
  exact so_iconst (i := -1) (by decide +kernel) (by decide +kernel) (by decide) (so_reti (by decide +kernel) rfl)
set_option maxRecDepth 20000 in
theorem sb_173_0 {j : AJ} (hj : SJ j) : Sound kM_173 0 (mb_173_0 j) := by
  unfold mb_173_0
  exact so_iload_n (f := 1) (by decide +kernel) rfl (so_bipush (i := -6) (by decide +kernel) (by decide +kernel) (by decide) (so_icmp (off := 16) (tgt := 19) (by decide +kernel) (by decide) rfl (sb_173_19 hj) (so_iload_n (f := 1) (by decide +kernel) rfl (so_bipush (i := 6) (by decide +kernel) (by decide +kernel) (by decide) (so_icmp (off := 10) (tgt := 19) (by decide +kernel) (by decide) rfl (sb_173_19 hj) (so_iload_n (f := 3) (by decide +kernel) rfl (so_callS (by decide +kernel) kcf_165 rfl kw_540 kw_541 (by decide +kernel) (sb_165_0 hj) (so_if (off := 5) (tgt := 21) (by decide +kernel) (by decide) rfl (sb_173_21 hj) (sb_173_19 hj)))))))))
set_option maxRecDepth 20000 in
theorem sb_174_0 {j : AJ} (hj : SJ j) : Sound kM_174 0 (mb_174_0 j) := by
  unfold mb_174_0
  exact so_aload_n (f := 0) (by decide +kernel) rfl (so_callV (C := RX9) (T := TX9) (N0 := 38) (by decide +kernel) kcf_162 rfl rfl rfl kw_537 kw_538 kw_539 (by decide +kernel) (sb_162_0 hj) (so_aload_n (f := 0) (by decide +kernel) rfl (so_get (C := RX9) (T := TX9) (N := 38) (by decide +kernel) rfl kin_9 (by decide) kw_455 (b := true) rfl (fun _ => rfl) (so_aload_n (f := 0) (by decide +kernel) rfl (so_iload_n (f := 1) (by decide +kernel) rfl (so_callV (C := RX9) (T := TX9) (N0 := 38) (by decide +kernel) kcf_163 rfl rfl rfl kw_554 kw_555 kw_556 (by decide +kernel) (sb_163_0 hj) (so_ialdU (by decide +kernel) (so_reti (by decide +kernel) rfl))))))))
set_option maxRecDepth 20000 in
theorem sb_175_299 {j : AJ} (hj : SJ j) : Sound kM_175 299 (mb_175_299 j) := by
  unfold mb_175_299
  exact so_aload_n (f := 0) (by decide +kernel) rfl (so_aload_n (f := 0) (by decide +kernel) rfl (so_callV (C := RX9) (T := TX9) (N0 := 38) (by decide +kernel) kcf_160 rfl rfl rfl kw_528 kw_529 kw_530 (by decide +kernel) (sb_160_0 hj) (so_iload_n (f := 3) (by decide +kernel) rfl (so_callV (C := RX9) (T := TX9) (N0 := 38) (by decide +kernel) kcf_164 rfl rfl rfl kw_531 kw_532 kw_533 (by decide +kernel) (sb_164_0 hj) (so_reti (by decide +kernel) rfl)))))
set_option maxRecDepth 20000 in
theorem sb_175_293 {j : AJ} (hj : SJ j) : Sound kM_175 293 (mb_175_293 j) := by
  unfold mb_175_293
  exact so_iincU (z := 1) (by decide +kernel) (by decide +kernel) (by decide) (by decide +kernel) (so_goto (off := -82) (tgt := 214) (by decide +kernel) (by decide) (hj 137 _ _ rfl))
set_option maxRecDepth 20000 in
theorem sb_175_257 {j : AJ} (hj : SJ j) : Sound kM_175 257 (mb_175_257 j) := by
  unfold mb_175_257
  exact so_iload_n (f := 2) (by decide +kernel) rfl (so_iload (by decide +kernel) (so_sa1 (so_ishr (by decide +kernel) (so_iconst (i := 1) (by decide +kernel) (by decide +kernel) (by decide) (so_iand (by decide +kernel) (so_iconst (i := 1) (by decide +kernel) (by decide +kernel) (by decide) (so_icmp (off := 29) (tgt := 293) (by decide +kernel) (by decide) rfl (sb_175_293 hj) (so_aload_n (f := 0) (by decide +kernel) rfl (so_get (C := RX9) (T := TX9) (N := 38) (by decide +kernel) rfl kin_9 (by decide) kw_460 (b := true) rfl (fun _ => rfl) (so_aload_n (f := 0) (by decide +kernel) rfl (so_get (C := RX9) (T := TX9) (N := 38) (by decide +kernel) rfl kin_9 (by decide) kw_499 (b := false) rfl (fun _ => rfl) (so_aload_n (f := 0) (by decide +kernel) rfl (so_get (C := RX9) (T := TX9) (N := 38) (by decide +kernel) rfl kin_9 (by decide) kw_476 (b := true) rfl (fun _ => rfl) (so_iload (by decide +kernel) (so_ialdU (by decide +kernel) (so_iastU (by decide +kernel) (so_aload_n (f := 0) (by decide +kernel) rfl (so_dup (by decide +kernel) (so_get (C := RX9) (T := TX9) (N := 38) (by decide +kernel) rfl kin_9 (by decide) kw_499 (b := false) rfl (fun _ => rfl) (so_iconst (i := 1) (by decide +kernel) (by decide +kernel) (by decide) (so_addU (by decide +kernel) (so_putI (C := RX9) (T := TX9) (N := 38) (ty0 := tyX9) (by decide +kernel) rfl kin_9 tyX9_ok nmX9 (by decide) kw_499 rfl rfl rfl (sb_175_293 hj)))))))))))))))))))))))
set_option maxRecDepth 20000 in
theorem sb_175_214 {j : AJ} (hj : SJ j) : Sound kM_175 214 (mb_175_214 j) := by
  unfold mb_175_214
  exact so_iload (by decide +kernel) (so_bipush (i := 10) (by decide +kernel) (by decide +kernel) (by decide) (so_icmp (off := 81) (tgt := 299) (by decide +kernel) (by decide) rfl (sb_175_299 hj) (so_iload_n (f := 1) (by decide +kernel) rfl (so_iload (by decide +kernel) (so_sa1 (so_ishr (by decide +kernel) (so_iconst (i := 1) (by decide +kernel) (by decide +kernel) (by decide) (so_iand (by decide +kernel) (so_iconst (i := 1) (by decide +kernel) (by decide +kernel) (by decide) (so_icmp (off := 29) (tgt := 257) (by decide +kernel) (by decide) rfl (sb_175_257 hj) (so_aload_n (f := 0) (by decide +kernel) rfl (so_get (C := RX9) (T := TX9) (N := 38) (by decide +kernel) rfl kin_9 (by decide) kw_459 (b := true) rfl (fun _ => rfl) (so_aload_n (f := 0) (by decide +kernel) rfl (so_get (C := RX9) (T := TX9) (N := 38) (by decide +kernel) rfl kin_9 (by decide) kw_495 (b := false) rfl (fun _ => rfl) (so_aload_n (f := 0) (by decide +kernel) rfl (so_get (C := RX9) (T := TX9) (N := 38) (by decide +kernel) rfl kin_9 (by decide) kw_476 (b := true) rfl (fun _ => rfl) (so_iload (by decide +kernel) (so_ialdU (by decide +kernel) (so_iastU (by decide +kernel) (so_aload_n (f := 0) (by decide +kernel) rfl (so_dup (by decide +kernel) (so_get (C := RX9) (T := TX9) (N := 38) (by decide +kernel) rfl kin_9 (by decide) kw_495 (b := false) rfl (fun _ => rfl) (so_iconst (i := 1) (by decide +kernel) (by decide +kernel) (by decide) (so_addU (by decide +kernel) (so_putI (C := RX9) (T := TX9) (N := 38) (ty0 := tyX9) (by decide +kernel) rfl kin_9 tyX9_ok nmX9 (by decide) kw_495 rfl rfl rfl (sb_175_257 hj))))))))))))))))))))))))))
set_option maxRecDepth 20000 in
theorem sb_175_207 {j : AJ} (hj : SJ j) : Sound kM_175 207 (mb_175_207 j) := by
  unfold mb_175_207
  exact so_aload_n (f := 0) (by decide +kernel) rfl (so_callV (C := RX9) (T := TX9) (N0 := 38) (by decide +kernel) kcf_161 rfl rfl rfl kw_525 kw_526 kw_527 (by decide +kernel) (sb_161_0 hj) (so_iconst (i := 0) (by decide +kernel) (by decide +kernel) (by decide) (so_istore (by decide +kernel) (by decide +kernel) (sb_175_214 hj))))
set_option maxRecDepth 20000 in
theorem sb_175_200 {j : AJ} (hj : SJ j) : Sound kM_175 200 (mb_175_200 j) := by
  unfold mb_175_200
  exact so_iastU (by decide +kernel) (so_iincU (z := 1) (by decide +kernel) (by decide +kernel) (by decide) (by decide +kernel) (so_goto (off := -39) (tgt := 165) (by decide +kernel) (by decide) (hj 136 _ _ rfl)))
set_option maxRecDepth 20000 in
theorem sb_175_199 {j : AJ} (hj : SJ j) : Sound kM_175 199 (mb_175_199 j) := by
  unfold mb_175_199
  exact so_iconst (i := 0) (by decide +kernel) (by decide +kernel) (by decide) (sb_175_200 hj)
set_option maxRecDepth 20000 in
theorem sb_175_165 {j : AJ} (hj : SJ j) : Sound kM_175 165 (mb_175_165 j) := by
  unfold mb_175_165
  exact so_iload (by decide +kernel) (so_bipush (i := 10) (by decide +kernel) (by decide +kernel) (by decide) (so_icmp (off := 38) (tgt := 207) (by decide +kernel) (by decide) rfl (sb_175_207 hj) (so_aload_n (f := 0) (by decide +kernel) rfl (so_get (C := RX9) (T := TX9) (N := 38) (by decide +kernel) rfl kin_9 (by decide) kw_476 (b := true) rfl (fun _ => rfl) (so_iload (by decide +kernel) (so_iload_n (f := 1) (by decide +kernel) rfl (so_iload_n (f := 2) (by decide +kernel) rfl (so_osa (so_ior (by decide +kernel) (so_iload (by decide +kernel) (so_ishr (by decide +kernel) (so_iconst (i := 1) (by decide +kernel) (by decide +kernel) (by decide) (so_iand (by decide +kernel) (so_iconst (i := 1) (by decide +kernel) (by decide +kernel) (by decide) (so_icmp (off := 12) (tgt := 199) (by decide +kernel) (by decide) rfl (sb_175_199 hj) (so_aload_n (f := 0) (by decide +kernel) rfl (so_iload (by decide +kernel) (so_callV (C := RX9) (T := TX9) (N0 := 38) (by decide +kernel) kcf_163 rfl rfl rfl kw_554 kw_555 kw_556 (by decide +kernel) (sb_163_0 hj) (so_goto (off := 4) (tgt := 200) (by decide +kernel) (by decide) (sb_175_200 hj))))))))))))))))))))
set_option maxRecDepth 20000 in
theorem sb_175_158 {j : AJ} (hj : SJ j) : Sound kM_175 158 (mb_175_158 j) := by
  unfold mb_175_158
  exact so_aload_n (f := 0) (by decide +kernel) rfl (so_callV (C := RX9) (T := TX9) (N0 := 38) (by decide +kernel) kcf_162 rfl rfl rfl kw_537 kw_538 kw_539 (by decide +kernel) (sb_162_0 hj) (so_iconst (i := 0) (by decide +kernel) (by decide +kernel) (by decide) (so_istore (by decide +kernel) (by decide +kernel) (sb_175_165 hj))))
set_option maxRecDepth 20000 in
theorem sb_175_155 {j : AJ} (hj : SJ j) : Sound kM_175 155 (mb_175_155 j) := by
  unfold mb_175_155
  exact so_bipush (i := -3) (by decide +kernel) (by decide +kernel) (by decide) (so_reti (by decide +kernel) rfl)
set_option maxRecDepth 20000 in
theorem sb_175_142 {j : AJ} (hj : SJ j) : Sound kM_175 142 (mb_175_142 j) := by
  unfold mb_175_142
  exact so_iload (by decide +kernel) (so_sipush (i := 300) (by decide +kernel) (by decide +kernel) (by decide) (so_icmp (off := 8) (tgt := 155) (by decide +kernel) (by decide) rfl (sb_175_155 hj) (so_iload (by decide +kernel) (so_if (off := 6) (tgt := 158) (by decide +kernel) (by decide) rfl (sb_175_158 hj) (sb_175_155 hj)))))
set_option maxRecDepth 20000 in
theorem sb_175_134 {j : AJ} (hj : SJ j) : Sound kM_175 134 (mb_175_134 j) := by
  unfold mb_175_134
  exact so_istore (by decide +kernel) (by decide +kernel) (so_iincU (z := 1) (by decide +kernel) (by decide +kernel) (by decide) (by decide +kernel) (so_goto (off := -53) (tgt := 86) (by decide +kernel) (by decide) (hj 135 _ _ rfl)))
set_option maxRecDepth 20000 in
theorem sb_175_133 {j : AJ} (hj : SJ j) : Sound kM_175 133 (mb_175_133 j) := by
  unfold mb_175_133
  exact so_iconst (i := 0) (by decide +kernel) (by decide +kernel) (by decide) (sb_175_134 hj)
set_option maxRecDepth 20000 in
theorem sb_175_129 {j : AJ} (hj : SJ j) : Sound kM_175 129 (mb_175_129 j) := by
  unfold mb_175_129
  exact so_iconst (i := 1) (by decide +kernel) (by decide +kernel) (by decide) (so_goto (off := 4) (tgt := 134) (by decide +kernel) (by decide) (sb_175_134 hj))
set_option maxRecDepth 20000 in
theorem sb_175_86 {j : AJ} (hj : SJ j) : Sound kM_175 86 (mb_175_86 j) := by
  unfold mb_175_86
  exact so_iload (by decide +kernel) (so_bipush (i := 10) (by decide +kernel) (by decide +kernel) (by decide) (so_icmp (off := 52) (tgt := 142) (by decide +kernel) (by decide) rfl (sb_175_142 hj) (so_iload (by decide +kernel) (so_sipush (i := 300) (by decide +kernel) (by decide +kernel) (by decide) (so_icmp (off := 44) (tgt := 142) (by decide +kernel) (by decide) rfl (sb_175_142 hj) (so_iload (by decide +kernel) (so_if (off := 26) (tgt := 129) (by decide +kernel) (by decide) rfl (sb_175_129 hj) (so_iload_n (f := 1) (by decide +kernel) rfl (so_iload_n (f := 2) (by decide +kernel) rfl (so_osa (so_ior (by decide +kernel) (so_iload (by decide +kernel) (so_ishr (by decide +kernel) (so_iconst (i := 1) (by decide +kernel) (by decide +kernel) (by decide) (so_iand (by decide +kernel) (so_iconst (i := 1) (by decide +kernel) (by decide +kernel) (by decide) (so_icmp (off := 18) (tgt := 133) (by decide +kernel) (by decide) rfl (sb_175_133 hj) (so_aload_n (f := 0) (by decide +kernel) rfl (so_iload (by decide +kernel) (so_callV (C := RX9) (T := TX9) (N0 := 38) (by decide +kernel) kcf_174 rfl rfl rfl kw_557 kw_558 kw_559 (by decide +kernel) (sb_174_0 hj) (so_bipush (i := 20) (by decide +kernel) (by decide +kernel) (by decide) (so_icmp (off := 7) (tgt := 133) (by decide +kernel) (by decide) rfl (sb_175_133 hj) (sb_175_129 hj)))))))))))))))))))))))
set_option maxRecDepth 20000 in
theorem sb_175_83 {j : AJ} (hj : SJ j) : Sound kM_175 83 (mb_175_83 j) := by
  unfold mb_175_83
  exact so_iconst (i := 0) (by decide +kernel) (by decide +kernel) (by decide) (so_istore (by decide +kernel) (by decide +kernel) (sb_175_86 hj))
set_option maxRecDepth 20000 in
theorem sb_175_40 {j : AJ} (hj : SJ j) : Sound kM_175 40 (mb_175_40 j) := by
  unfold mb_175_40
  exact so_iload (by decide +kernel) (so_bipush (i := 10) (by decide +kernel) (by decide +kernel) (by decide) (so_icmp (off := 39) (tgt := 83) (by decide +kernel) (by decide) rfl (sb_175_83 hj) (so_iload_n (f := 1) (by decide +kernel) rfl (so_iload (by decide +kernel) (so_sa1 (so_ishr (by decide +kernel) (so_iconst (i := 1) (by decide +kernel) (by decide +kernel) (by decide) (so_iand (by decide +kernel) (so_iload_n (f := 2) (by decide +kernel) rfl (so_iload (by decide +kernel) (so_sa1 (so_ishr (by decide +kernel) (so_iconst (i := 1) (by decide +kernel) (by decide +kernel) (by decide) (so_iand (by decide +kernel) (so_addU (by decide +kernel) (so_istore (by decide +kernel) (by decide +kernel) (so_iload (by decide +kernel) (so_iload (by decide +kernel) (so_aload_n (f := 0) (by decide +kernel) rfl (so_get (C := RX9) (T := TX9) (N := 38) (by decide +kernel) rfl kin_9 (by decide) kw_440 (b := true) rfl (fun _ => rfl) (so_iload (by decide +kernel) (so_ialdU (by decide +kernel) (so_mulU (by decide +kernel) (so_addU (by decide +kernel) (so_istore (by decide +kernel) (by decide +kernel) (so_iincU (z := 1) (by decide +kernel) (by decide +kernel) (by decide) (by decide +kernel) (so_goto (off := -40) (tgt := 40) (by decide +kernel) (by decide) (hj 134 _ _ rfl))))))))))))))))))))))))))))
set_option maxRecDepth 20000 in
theorem sb_175_31 {j : AJ} (hj : SJ j) : Sound kM_175 31 (mb_175_31 j) := by
  unfold mb_175_31
  exact so_iconst (i := 0) (by decide +kernel) (by decide +kernel) (by decide) (so_istore (by decide +kernel) (by decide +kernel) (so_iconst (i := 0) (by decide +kernel) (by decide +kernel) (by decide) (so_istore (by decide +kernel) (by decide +kernel) (so_iconst (i := 0) (by decide +kernel) (by decide +kernel) (by decide) (so_istore (by decide +kernel) (by decide +kernel) (sb_175_40 hj))))))
set_option maxRecDepth 20000 in
theorem sb_175_29 {j : AJ} (hj : SJ j) : Sound kM_175 29 (mb_175_29 j) := by
  unfold mb_175_29
  exact so_iconst (i := -1) (by decide +kernel) (by decide +kernel) (by decide) (so_reti (by decide +kernel) rfl)
set_option maxRecDepth 20000 in
theorem sb_175_0 {j : AJ} (hj : SJ j) : Sound kM_175 0 (mb_175_0 j) := by
  unfold mb_175_0
  exact so_iload_n (f := 1) (by decide +kernel) rfl (so_if (off := 28) (tgt := 29) (by decide +kernel) (by decide) rfl (sb_175_29 hj) (so_iload_n (f := 1) (by decide +kernel) rfl (so_sipush (i := 1023) (by decide +kernel) (by decide +kernel) (by decide) (so_icmp (off := 21) (tgt := 29) (by decide +kernel) (by decide) rfl (sb_175_29 hj) (so_iload_n (f := 2) (by decide +kernel) rfl (so_if (off := 17) (tgt := 29) (by decide +kernel) (by decide) rfl (sb_175_29 hj) (so_iload_n (f := 2) (by decide +kernel) rfl (so_sipush (i := 1023) (by decide +kernel) (by decide +kernel) (by decide) (so_icmp (off := 10) (tgt := 29) (by decide +kernel) (by decide) rfl (sb_175_29 hj) (so_iload_n (f := 3) (by decide +kernel) rfl (so_callS (by decide +kernel) kcf_165 rfl kw_540 kw_541 (by decide +kernel) (sb_165_0 hj) (so_if (off := 5) (tgt := 31) (by decide +kernel) (by decide) rfl (sb_175_31 hj) (sb_175_29 hj)))))))))))))
set_option maxRecDepth 20000 in
theorem sb_176_45 {j : AJ} (hj : SJ j) : Sound kM_176 45 (mb_176_45 j) := by
  unfold mb_176_45
  exact so_aload_n (f := 0) (by decide +kernel) rfl (so_callV (C := RX9) (T := TX9) (N0 := 38) (by decide +kernel) kcf_162 rfl rfl rfl kw_537 kw_538 kw_539 (by decide +kernel) (sb_162_0 hj) (so_aload_n (f := 0) (by decide +kernel) rfl (so_iload_n (f := 1) (by decide +kernel) rfl (so_callV (C := RX9) (T := TX9) (N0 := 38) (by decide +kernel) kcf_163 rfl rfl rfl kw_554 kw_555 kw_556 (by decide +kernel) (sb_163_0 hj) (so_istore (by decide +kernel) (by decide +kernel) (so_aload_n (f := 0) (by decide +kernel) rfl (so_iload_n (f := 2) (by decide +kernel) rfl (so_callV (C := RX9) (T := TX9) (N0 := 38) (by decide +kernel) kcf_163 rfl rfl rfl kw_554 kw_555 kw_556 (by decide +kernel) (sb_163_0 hj) (so_istore (by decide +kernel) (by decide +kernel) (so_aload_n (f := 0) (by decide +kernel) rfl (so_aload_n (f := 0) (by decide +kernel) rfl (so_iload (by decide +kernel) (so_iload (by decide +kernel) (so_callV (C := RX9) (T := TX9) (N0 := 38) (by decide +kernel) kcf_172 rfl rfl rfl kw_551 kw_552 kw_553 (by decide +kernel) (sb_172_0 hj) (so_iload_n (f := 3) (by decide +kernel) rfl (so_callV (C := RX9) (T := TX9) (N0 := 38) (by decide +kernel) kcf_164 rfl rfl rfl kw_531 kw_532 kw_533 (by decide +kernel) (sb_164_0 hj) (so_reti (by decide +kernel) rfl)))))))))))))))))
set_option maxRecDepth 20000 in
theorem sb_176_23 {j : AJ} (hj : SJ j) : Sound kM_176 23 (mb_176_23 j) := by
  unfold mb_176_23
  exact so_aload_n (f := 0) (by decide +kernel) rfl (so_get (C := RX9) (T := TX9) (N := 38) (by decide +kernel) rfl kin_9 (by decide) kw_440 (b := true) rfl (fun _ => rfl) (so_iload_n (f := 1) (by decide +kernel) rfl (so_ialdU (by decide +kernel) (so_aload_n (f := 0) (by decide +kernel) rfl (so_get (C := RX9) (T := TX9) (N := 38) (by decide +kernel) rfl kin_9 (by decide) kw_440 (b := true) rfl (fun _ => rfl) (so_iload_n (f := 2) (by decide +kernel) rfl (so_ialdU (by decide +kernel) (so_mulU (by decide +kernel) (so_sipush (i := 300) (by decide +kernel) (by decide +kernel) (by decide) (so_icmp (off := 6) (tgt := 45) (by decide +kernel) (by decide) rfl (sb_176_45 hj) (so_bipush (i := -3) (by decide +kernel) (by decide +kernel) (by decide) (so_reti (by decide +kernel) rfl))))))))))))
set_option maxRecDepth 20000 in
theorem sb_176_21 {j : AJ} (hj : SJ j) : Sound kM_176 21 (mb_176_21 j) := by
  unfold mb_176_21
  exact so_iconst (i := -1) (by decide +kernel) (by decide +kernel) (by decide) (so_reti (by decide +kernel) rfl)
set_option maxRecDepth 20000 in
theorem sb_176_0 {j : AJ} (hj : SJ j) : Sound kM_176 0 (mb_176_0 j) := by
  unfold mb_176_0
  exact so_iload_n (f := 1) (by decide +kernel) rfl (so_callS (by decide +kernel) kcf_165 rfl kw_540 kw_541 (by decide +kernel) (sb_165_0 hj) (so_if (off := 17) (tgt := 21) (by decide +kernel) (by decide) rfl (sb_176_21 hj) (so_iload_n (f := 2) (by decide +kernel) rfl (so_callS (by decide +kernel) kcf_165 rfl kw_540 kw_541 (by decide +kernel) (sb_165_0 hj) (so_if (off := 10) (tgt := 21) (by decide +kernel) (by decide) rfl (sb_176_21 hj) (so_iload_n (f := 3) (by decide +kernel) rfl (so_callS (by decide +kernel) kcf_165 rfl kw_540 kw_541 (by decide +kernel) (sb_165_0 hj) (so_if (off := 5) (tgt := 23) (by decide +kernel) (by decide) rfl (sb_176_23 hj) (sb_176_21 hj)))))))))
set_option maxRecDepth 20000 in
theorem sb_177_191 {j : AJ} (hj : SJ j) : Sound kM_177 191 (mb_177_191 j) := by
  unfold mb_177_191
  exact so_aload_n (f := 0) (by decide +kernel) rfl (so_iload_n (f := 3) (by decide +kernel) rfl (so_iload_n (f := 2) (by decide +kernel) rfl (so_callV (C := RX9) (T := TX9) (N0 := 38) (by decide +kernel) kcf_164 rfl rfl rfl kw_531 kw_532 kw_533 (by decide +kernel) (sb_164_0 hj) (so_reti (by decide +kernel) rfl))))
set_option maxRecDepth 20000 in
theorem sb_177_166 {j : AJ} (hj : SJ j) : Sound kM_177 166 (mb_177_166 j) := by
  unfold mb_177_166
  exact so_aload_n (f := 0) (by decide +kernel) rfl (so_get (C := RX9) (T := TX9) (N := 38) (by decide +kernel) rfl kin_9 (by decide) kw_461 (b := true) rfl (fun _ => rfl) (so_iload (by decide +kernel) (so_aload_n (f := 0) (by decide +kernel) rfl (so_callV (C := RX9) (T := TX9) (N0 := 38) (by decide +kernel) kcf_160 rfl rfl rfl kw_528 kw_529 kw_530 (by decide +kernel) (sb_160_0 hj) (so_iastU (by decide +kernel) (so_aload_n (f := 0) (by decide +kernel) rfl (so_get (C := RX9) (T := TX9) (N := 38) (by decide +kernel) rfl kin_9 (by decide) kw_461 (b := true) rfl (fun _ => rfl) (so_iload (by decide +kernel) (so_ialdU (by decide +kernel) (so_istore_n (f := 3) (by decide +kernel) rfl (by decide +kernel) (so_iincU (z := 1) (by decide +kernel) (by decide +kernel) (by decide) (by decide +kernel) (so_goto (off := -163) (tgt := 25) (by decide +kernel) (by decide) (hj 140 _ _ rfl)))))))))))))
set_option maxRecDepth 20000 in
theorem sb_177_111 {j : AJ} (hj : SJ j) : Sound kM_177 111 (mb_177_111 j) := by
  unfold mb_177_111
  exact so_iload (by decide +kernel) (so_aload_n (f := 0) (by decide +kernel) rfl (so_get (C := RX9) (T := TX9) (N := 38) (by decide +kernel) rfl kin_9 (by decide) kw_448 (b := true) rfl (fun _ => rfl) (so_iload (by decide +kernel) (so_ialdU (by decide +kernel) (so_icmp (off := 46) (tgt := 166) (by decide +kernel) (by decide) rfl (sb_177_166 hj) (so_aload_n (f := 0) (by decide +kernel) rfl (so_get (C := RX9) (T := TX9) (N := 38) (by decide +kernel) rfl kin_9 (by decide) kw_459 (b := true) rfl (fun _ => rfl) (so_iload (by decide +kernel) (so_aload_n (f := 0) (by decide +kernel) rfl (so_get (C := RX9) (T := TX9) (N := 38) (by decide +kernel) rfl kin_9 (by decide) kw_461 (b := true) rfl (fun _ => rfl) (so_aload_n (f := 0) (by decide +kernel) rfl (so_get (C := RX9) (T := TX9) (N := 38) (by decide +kernel) rfl kin_9 (by decide) kw_450 (b := true) rfl (fun _ => rfl) (so_aload_n (f := 0) (by decide +kernel) rfl (so_get (C := RX9) (T := TX9) (N := 38) (by decide +kernel) rfl kin_9 (by decide) kw_447 (b := true) rfl (fun _ => rfl) (so_iload (by decide +kernel) (so_ialdU (by decide +kernel) (so_iload (by decide +kernel) (so_addU (by decide +kernel) (so_ialdU (by decide +kernel) (so_ialdU (by decide +kernel) (so_iastU (by decide +kernel) (so_aload_n (f := 0) (by decide +kernel) rfl (so_dup (by decide +kernel) (so_get (C := RX9) (T := TX9) (N := 38) (by decide +kernel) rfl kin_9 (by decide) kw_495 (b := false) rfl (fun _ => rfl) (so_iconst (i := 1) (by decide +kernel) (by decide +kernel) (by decide) (so_addU (by decide +kernel) (so_putI (C := RX9) (T := TX9) (N := 38) (ty0 := tyX9) (by decide +kernel) rfl kin_9 tyX9_ok nmX9 (by decide) kw_495 rfl rfl rfl (so_iincU (z := 1) (by decide +kernel) (by decide +kernel) (by decide) (by decide +kernel) (so_goto (off := -52) (tgt := 111) (by decide +kernel) (by decide) (hj 139 _ _ rfl))))))))))))))))))))))))))))))
set_option maxRecDepth 20000 in
theorem sb_177_108 {j : AJ} (hj : SJ j) : Sound kM_177 108 (mb_177_108 j) := by
  unfold mb_177_108
  exact so_iconst (i := 0) (by decide +kernel) (by decide +kernel) (by decide) (so_istore (by decide +kernel) (by decide +kernel) (sb_177_111 hj))
set_option maxRecDepth 20000 in
theorem sb_177_53 {j : AJ} (hj : SJ j) : Sound kM_177 53 (mb_177_53 j) := by
  unfold mb_177_53
  exact so_iload (by decide +kernel) (so_aload_n (f := 0) (by decide +kernel) rfl (so_get (C := RX9) (T := TX9) (N := 38) (by decide +kernel) rfl kin_9 (by decide) kw_446 (b := true) rfl (fun _ => rfl) (so_iload (by decide +kernel) (so_ialdU (by decide +kernel) (so_icmp (off := 46) (tgt := 108) (by decide +kernel) (by decide) rfl (sb_177_108 hj) (so_aload_n (f := 0) (by decide +kernel) rfl (so_get (C := RX9) (T := TX9) (N := 38) (by decide +kernel) rfl kin_9 (by decide) kw_460 (b := true) rfl (fun _ => rfl) (so_iload (by decide +kernel) (so_aload_n (f := 0) (by decide +kernel) rfl (so_get (C := RX9) (T := TX9) (N := 38) (by decide +kernel) rfl kin_9 (by decide) kw_461 (b := true) rfl (fun _ => rfl) (so_aload_n (f := 0) (by decide +kernel) rfl (so_get (C := RX9) (T := TX9) (N := 38) (by decide +kernel) rfl kin_9 (by decide) kw_450 (b := true) rfl (fun _ => rfl) (so_aload_n (f := 0) (by decide +kernel) rfl (so_get (C := RX9) (T := TX9) (N := 38) (by decide +kernel) rfl kin_9 (by decide) kw_445 (b := true) rfl (fun _ => rfl) (so_iload (by decide +kernel) (so_ialdU (by decide +kernel) (so_iload (by decide +kernel) (so_addU (by decide +kernel) (so_ialdU (by decide +kernel) (so_ialdU (by decide +kernel) (so_iastU (by decide +kernel) (so_aload_n (f := 0) (by decide +kernel) rfl (so_dup (by decide +kernel) (so_get (C := RX9) (T := TX9) (N := 38) (by decide +kernel) rfl kin_9 (by decide) kw_499 (b := false) rfl (fun _ => rfl) (so_iconst (i := 1) (by decide +kernel) (by decide +kernel) (by decide) (so_addU (by decide +kernel) (so_putI (C := RX9) (T := TX9) (N := 38) (ty0 := tyX9) (by decide +kernel) rfl kin_9 tyX9_ok nmX9 (by decide) kw_499 rfl rfl rfl (so_iincU (z := 1) (by decide +kernel) (by decide +kernel) (by decide) (by decide +kernel) (so_goto (off := -52) (tgt := 53) (by decide +kernel) (by decide) (hj 138 _ _ rfl))))))))))))))))))))))))))))))
set_option maxRecDepth 20000 in
theorem sb_177_25 {j : AJ} (hj : SJ j) : Sound kM_177 25 (mb_177_25 j) := by
  unfold mb_177_25
  exact so_iload (by decide +kernel) (so_aload_n (f := 0) (by decide +kernel) rfl (so_get (C := RX9) (T := TX9) (N := 38) (by decide +kernel) rfl kin_9 (by decide) kw_440 (b := true) rfl (fun _ => rfl) (so_iload_n (f := 1) (by decide +kernel) rfl (so_ialdU (by decide +kernel) (so_icmp (off := 158) (tgt := 191) (by decide +kernel) (by decide) rfl (sb_177_191 hj) (so_sipush (i := 520) (by decide +kernel) (by decide +kernel) (by decide) (so_iload_n (f := 1) (by decide +kernel) rfl (so_mulU (by decide +kernel) (so_iload (by decide +kernel) (so_addU (by decide +kernel) (so_istore (by decide +kernel) (by decide +kernel) (so_aload_n (f := 0) (by decide +kernel) rfl (so_callV (C := RX9) (T := TX9) (N0 := 38) (by decide +kernel) kcf_161 rfl rfl rfl kw_525 kw_526 kw_527 (by decide +kernel) (sb_161_0 hj) (so_iconst (i := 0) (by decide +kernel) (by decide +kernel) (by decide) (so_istore (by decide +kernel) (by decide +kernel) (sb_177_53 hj))))))))))))))))
set_option maxRecDepth 20000 in
theorem sb_177_16 {j : AJ} (hj : SJ j) : Sound kM_177 16 (mb_177_16 j) := by
  unfold mb_177_16
  exact so_aload_n (f := 0) (by decide +kernel) rfl (so_callV (C := RX9) (T := TX9) (N0 := 38) (by decide +kernel) kcf_162 rfl rfl rfl kw_537 kw_538 kw_539 (by decide +kernel) (sb_162_0 hj) (so_iconst (i := 0) (by decide +kernel) (by decide +kernel) (by decide) (so_istore_n (f := 3) (by decide +kernel) rfl (by decide +kernel) (so_iconst (i := 0) (by decide +kernel) (by decide +kernel) (by decide) (so_istore (by decide +kernel) (by decide +kernel) (sb_177_25 hj))))))
set_option maxRecDepth 20000 in
theorem sb_177_14 {j : AJ} (hj : SJ j) : Sound kM_177 14 (mb_177_14 j) := by
  unfold mb_177_14
  exact so_iconst (i := -1) (by decide +kernel) (by decide +kernel) (by decide) (so_reti (by decide +kernel) rfl)
set_option maxRecDepth 20000 in
theorem sb_177_0 {j : AJ} (hj : SJ j) : Sound kM_177 0 (mb_177_0 j) := by
  unfold mb_177_0
  exact so_iload_n (f := 1) (by decide +kernel) rfl (so_callS (by decide +kernel) kcf_165 rfl kw_540 kw_541 (by decide +kernel) (sb_165_0 hj) (so_if (off := 10) (tgt := 14) (by decide +kernel) (by decide) rfl (sb_177_14 hj) (so_iload_n (f := 2) (by decide +kernel) rfl (so_callS (by decide +kernel) kcf_165 rfl kw_540 kw_541 (by decide +kernel) (sb_165_0 hj) (so_if (off := 5) (tgt := 16) (by decide +kernel) (by decide) rfl (sb_177_16 hj) (sb_177_14 hj))))))
set_option maxRecDepth 20000 in
theorem sb_178_91 {j : AJ} (hj : SJ j) : Sound kM_178 91 (mb_178_91 j) := by
  unfold mb_178_91
  exact so_iload (by decide +kernel) (so_callV (C := RX9) (T := TX9) (N0 := 38) (by decide +kernel) kcf_164 rfl rfl rfl kw_531 kw_532 kw_533 (by decide +kernel) (sb_164_0 hj) (so_reti (by decide +kernel) rfl))
set_option maxRecDepth 20000 in
theorem sb_178_84 {j : AJ} (hj : SJ j) : Sound kM_178 84 (mb_178_84 j) := by
  unfold mb_178_84
  exact so_aload_n (f := 0) (by decide +kernel) rfl (so_iload (by decide +kernel) (so_iload_n (f := 3) (by decide +kernel) rfl (so_callV (C := RX9) (T := TX9) (N0 := 38) (by decide +kernel) kcf_150 rfl rfl rfl kw_489 kw_490 kw_491 (by decide +kernel) (sb_150_0 hj) (sb_178_91 hj))))
set_option maxRecDepth 20000 in
theorem sb_178_69 {j : AJ} (hj : SJ j) : Sound kM_178 69 (mb_178_69 j) := by
  unfold mb_178_69
  exact so_aload_n (f := 0) (by decide +kernel) rfl (so_iload_n (f := 2) (by decide +kernel) rfl (so_if (off := 13) (tgt := 84) (by decide +kernel) (by decide) rfl (sb_178_84 hj) (so_aload_n (f := 0) (by decide +kernel) rfl (so_iload (by decide +kernel) (so_iload_n (f := 3) (by decide +kernel) rfl (so_callV (C := RX9) (T := TX9) (N0 := 38) (by decide +kernel) kcf_149 rfl rfl rfl kw_486 kw_487 kw_488 (by decide +kernel) (sb_149_0 hj) (so_goto (off := 10) (tgt := 91) (by decide +kernel) (by decide) (sb_178_91 hj))))))))
set_option maxRecDepth 20000 in
theorem sb_178_66 {j : AJ} (hj : SJ j) : Sound kM_178 66 (mb_178_66 j) := by
  unfold mb_178_66
  exact so_bipush (i := -4) (by decide +kernel) (by decide +kernel) (by decide) (so_reti (by decide +kernel) rfl)
set_option maxRecDepth 20000 in
theorem sb_178_63 {j : AJ} (hj : SJ j) : Sound kM_178 63 (mb_178_63 j) := by
  unfold mb_178_63
  exact so_icmp (off := 6) (tgt := 69) (by decide +kernel) (by decide) rfl (sb_178_69 hj) (sb_178_66 hj)
set_option maxRecDepth 20000 in
theorem sb_178_56 {j : AJ} (hj : SJ j) : Sound kM_178 56 (mb_178_56 j) := by
  unfold mb_178_56
  exact so_aload_n (f := 0) (by decide +kernel) rfl (so_get (C := RX9) (T := TX9) (N := 38) (by decide +kernel) rfl kin_9 (by decide) kw_454 (b := true) rfl (fun _ => rfl) (so_iload (by decide +kernel) (so_ialdU (by decide +kernel) (sb_178_63 hj))))
set_option maxRecDepth 20000 in
theorem sb_178_26 {j : AJ} (hj : SJ j) : Sound kM_178 26 (mb_178_26 j) := by
  unfold mb_178_26
  exact so_aload_n (f := 0) (by decide +kernel) rfl (so_callV (C := RX9) (T := TX9) (N0 := 38) (by decide +kernel) kcf_162 rfl rfl rfl kw_537 kw_538 kw_539 (by decide +kernel) (sb_162_0 hj) (so_aload_n (f := 0) (by decide +kernel) rfl (so_iload_n (f := 1) (by decide +kernel) rfl (so_callV (C := RX9) (T := TX9) (N0 := 38) (by decide +kernel) kcf_163 rfl rfl rfl kw_554 kw_555 kw_556 (by decide +kernel) (sb_163_0 hj) (so_istore (by decide +kernel) (by decide +kernel) (so_iload_n (f := 3) (by decide +kernel) rfl (so_if (off := 28) (tgt := 66) (by decide +kernel) (by decide) rfl (sb_178_66 hj) (so_iload_n (f := 3) (by decide +kernel) rfl (so_iload_n (f := 2) (by decide +kernel) rfl (so_if (off := 13) (tgt := 56) (by decide +kernel) (by decide) rfl (sb_178_56 hj) (so_aload_n (f := 0) (by decide +kernel) rfl (so_get (C := RX9) (T := TX9) (N := 38) (by decide +kernel) rfl kin_9 (by decide) kw_452 (b := true) rfl (fun _ => rfl) (so_iload (by decide +kernel) (so_ialdU (by decide +kernel) (so_goto (off := 10) (tgt := 63) (by decide +kernel) (by decide) (sb_178_63 hj))))))))))))))))
set_option maxRecDepth 20000 in
theorem sb_178_24 {j : AJ} (hj : SJ j) : Sound kM_178 24 (mb_178_24 j) := by
  unfold mb_178_24
  exact so_iconst (i := -1) (by decide +kernel) (by decide +kernel) (by decide) (so_reti (by decide +kernel) rfl)
set_option maxRecDepth 20000 in
theorem sb_178_0 {j : AJ} (hj : SJ j) : Sound kM_178 0 (mb_178_0 j) := by
  unfold mb_178_0
  exact so_iload_n (f := 1) (by decide +kernel) rfl (so_callS (by decide +kernel) kcf_165 rfl kw_540 kw_541 (by decide +kernel) (sb_165_0 hj) (so_if (off := 20) (tgt := 24) (by decide +kernel) (by decide) rfl (sb_178_24 hj) (so_iload_n (f := 2) (by decide +kernel) rfl (so_if (off := 16) (tgt := 24) (by decide +kernel) (by decide) rfl (sb_178_24 hj) (so_iload_n (f := 2) (by decide +kernel) rfl (so_iconst (i := 1) (by decide +kernel) (by decide +kernel) (by decide) (so_icmp (off := 11) (tgt := 24) (by decide +kernel) (by decide) rfl (sb_178_24 hj) (so_iload (by decide +kernel) (so_callS (by decide +kernel) kcf_165 rfl kw_540 kw_541 (by decide +kernel) (sb_165_0 hj) (so_if (off := 5) (tgt := 26) (by decide +kernel) (by decide) rfl (sb_178_26 hj) (sb_178_24 hj)))))))))))
set_option maxRecDepth 20000 in
theorem sb_179_36 {j : AJ} (hj : SJ j) : Sound kM_179 36 (mb_179_36 j) := by
  unfold mb_179_36
  exact so_reti (by decide +kernel) rfl
set_option maxRecDepth 20000 in
theorem sb_179_35 {j : AJ} (hj : SJ j) : Sound kM_179 35 (mb_179_35 j) := by
  unfold mb_179_35
  exact so_iconst (i := 0) (by decide +kernel) (by decide +kernel) (by decide) (sb_179_36 hj)
set_option maxRecDepth 20000 in
theorem sb_179_23 {j : AJ} (hj : SJ j) : Sound kM_179 23 (mb_179_23 j) := by
  unfold mb_179_23
  exact so_lload (by decide +kernel) (so_lload (by decide +kernel) (so_lcmp (by decide +kernel) (so_if (off := 7) (tgt := 35) (by decide +kernel) (by decide) rfl (sb_179_35 hj) (so_iconst (i := 1) (by decide +kernel) (by decide +kernel) (by decide) (so_goto (off := 4) (tgt := 36) (by decide +kernel) (by decide) (sb_179_36 hj))))))
set_option maxRecDepth 20000 in
theorem sb_179_0 {j : AJ} (hj : SJ j) : Sound kM_179 0 (mb_179_0 j) := by
  unfold mb_179_0
  exact so_lload_n (f := 0) (by decide +kernel) rfl (so_iload (by decide +kernel) (so_lshl (by decide +kernel) (so_lstore (by decide +kernel) (by decide +kernel) (so_lload_n (f := 3) (by decide +kernel) rfl (so_iload_n (f := 2) (by decide +kernel) rfl (so_lshl (by decide +kernel) (so_lstore (by decide +kernel) (by decide +kernel) (so_lload (by decide +kernel) (so_lload (by decide +kernel) (so_lcmp (by decide +kernel) (so_if (off := 7) (tgt := 23) (by decide +kernel) (by decide) rfl (sb_179_23 hj) (so_iconst (i := -1) (by decide +kernel) (by decide +kernel) (by decide) (so_goto (off := 16) (tgt := 36) (by decide +kernel) (by decide) (sb_179_36 hj))))))))))))))
set_option maxRecDepth 20000 in
theorem sb_180_37 {j : AJ} (hj : SJ j) : Sound kM_180 37 (mb_180_37 j) := by
  unfold mb_180_37
  exact so_aload_n (f := 0) (by decide +kernel) rfl (so_get (C := RX9) (T := TX9) (N := 38) (by decide +kernel) rfl kin_9 (by decide) kw_468 (b := true) rfl (fun _ => rfl) (so_iload_n (f := 1) (by decide +kernel) rfl (so_lload (by decide +kernel) (so_last (by decide +kernel) (so_aload_n (f := 0) (by decide +kernel) rfl (so_get (C := RX9) (T := TX9) (N := 38) (by decide +kernel) rfl kin_9 (by decide) kw_469 (b := true) rfl (fun _ => rfl) (so_iload_n (f := 1) (by decide +kernel) rfl (so_iload (by decide +kernel) (so_iast (by decide +kernel) (so_retv (by decide +kernel) rfl))))))))))
set_option maxRecDepth 20000 in
theorem sb_180_7 {j : AJ} (hj : SJ j) : Sound kM_180 7 (mb_180_7 j) := by
  unfold mb_180_7
  exact so_iload (by decide +kernel) (so_if (off := 28) (tgt := 37) (by decide +kernel) (by decide) rfl (sb_180_37 hj) (so_lload (by decide +kernel) (so_ldc2w (i := 225) (by decide +kernel) kw_560 (by decide) (so_none))))
set_option maxRecDepth 20000 in
theorem sb_180_0 {j : AJ} (hj : SJ j) : Sound kM_180 0 (mb_180_0 j) := by
  unfold mb_180_0
  exact so_lload_n (f := 2) (by decide +kernel) rfl (so_lstore (by decide +kernel) (by decide +kernel) (so_iload (by decide +kernel) (so_istore (by decide +kernel) (by decide +kernel) (sb_180_7 hj))))
set_option maxRecDepth 20000 in
theorem sb_181_363 {j : AJ} (hj : SJ j) : Sound kM_181 363 (mb_181_363 j) := by
  unfold mb_181_363
  exact so_retv (by decide +kernel) rfl
set_option maxRecDepth 20000 in
theorem sb_181_315 {j : AJ} (hj : SJ j) : Sound kM_181 315 (mb_181_315 j) := by
  unfold mb_181_315
  exact so_istore (by decide +kernel) (by decide +kernel) (so_aload_n (f := 0) (by decide +kernel) rfl (so_iload_n (f := 2) (by decide +kernel) rfl (so_aload_n (f := 0) (by decide +kernel) rfl (so_get (C := RX9) (T := TX9) (N := 38) (by decide +kernel) rfl kin_9 (by decide) kw_468 (b := true) rfl (fun _ => rfl) (so_iload (by decide +kernel) (so_lald (by decide +kernel) (so_iload (by decide +kernel) (so_aload_n (f := 0) (by decide +kernel) rfl (so_get (C := RX9) (T := TX9) (N := 38) (by decide +kernel) rfl kin_9 (by decide) kw_469 (b := true) rfl (fun _ => rfl) (so_iload (by decide +kernel) (so_ialdU (by decide +kernel) (so_subU (by decide +kernel) (so_lshl (by decide +kernel) (so_aload_n (f := 0) (by decide +kernel) rfl (so_get (C := RX9) (T := TX9) (N := 38) (by decide +kernel) rfl kin_9 (by decide) kw_468 (b := true) rfl (fun _ => rfl) (so_iload (by decide +kernel) (so_lald (by decide +kernel) (so_iload (by decide +kernel) (so_aload_n (f := 0) (by decide +kernel) rfl (so_get (C := RX9) (T := TX9) (N := 38) (by decide +kernel) rfl kin_9 (by decide) kw_469 (b := true) rfl (fun _ => rfl) (so_iload (by decide +kernel) (so_ialdU (by decide +kernel) (so_subU (by decide +kernel) (so_lshl (by decide +kernel) (so_ladd (by decide +kernel) (so_iload (by decide +kernel) (so_iconst (i := 1) (by decide +kernel) (by decide +kernel) (by decide) (so_addU (by decide +kernel) (so_callV (C := RX9) (T := TX9) (N0 := 38) (by decide +kernel) kcf_180 rfl rfl rfl kw_561 kw_562 kw_563 (by decide +kernel) (sb_180_0 hj) (sb_181_363 hj))))))))))))))))))))))))))))))
set_option maxRecDepth 20000 in
theorem sb_181_308 {j : AJ} (hj : SJ j) : Sound kM_181 308 (mb_181_308 j) := by
  unfold mb_181_308
  exact so_aload_n (f := 0) (by decide +kernel) rfl (so_get (C := RX9) (T := TX9) (N := 38) (by decide +kernel) rfl kin_9 (by decide) kw_469 (b := true) rfl (fun _ => rfl) (so_iload (by decide +kernel) (so_ialdU (by decide +kernel) (sb_181_315 hj))))
set_option maxRecDepth 20000 in
theorem sb_181_281 {j : AJ} (hj : SJ j) : Sound kM_181 281 (mb_181_281 j) := by
  unfold mb_181_281
  exact so_aload_n (f := 0) (by decide +kernel) rfl (so_get (C := RX9) (T := TX9) (N := 38) (by decide +kernel) rfl kin_9 (by decide) kw_469 (b := true) rfl (fun _ => rfl) (so_iload (by decide +kernel) (so_ialdU (by decide +kernel) (so_aload_n (f := 0) (by decide +kernel) rfl (so_get (C := RX9) (T := TX9) (N := 38) (by decide +kernel) rfl kin_9 (by decide) kw_469 (b := true) rfl (fun _ => rfl) (so_iload (by decide +kernel) (so_ialdU (by decide +kernel) (so_icmp (off := 13) (tgt := 308) (by decide +kernel) (by decide) rfl (sb_181_308 hj) (so_aload_n (f := 0) (by decide +kernel) rfl (so_get (C := RX9) (T := TX9) (N := 38) (by decide +kernel) rfl kin_9 (by decide) kw_469 (b := true) rfl (fun _ => rfl) (so_iload (by decide +kernel) (so_ialdU (by decide +kernel) (so_goto (off := 10) (tgt := 315) (by decide +kernel) (by decide) (sb_181_315 hj))))))))))))))
set_option maxRecDepth 20000 in
theorem sb_181_244 {j : AJ} (hj : SJ j) : Sound kM_181 244 (mb_181_244 j) := by
  unfold mb_181_244
  exact so_iload (by decide +kernel) (so_if (off := 35) (tgt := 281) (by decide +kernel) (by decide) rfl (sb_181_281 hj) (so_aload_n (f := 0) (by decide +kernel) rfl (so_iload_n (f := 2) (by decide +kernel) rfl (so_aload_n (f := 0) (by decide +kernel) rfl (so_get (C := RX9) (T := TX9) (N := 38) (by decide +kernel) rfl kin_9 (by decide) kw_468 (b := true) rfl (fun _ => rfl) (so_iload (by decide +kernel) (so_lald (by decide +kernel) (so_lconst (i := 1) (by decide +kernel) rfl (so_aload_n (f := 0) (by decide +kernel) rfl (so_get (C := RX9) (T := TX9) (N := 38) (by decide +kernel) rfl kin_9 (by decide) kw_469 (b := true) rfl (fun _ => rfl) (so_iload (by decide +kernel) (so_ialdU (by decide +kernel) (so_lshl (by decide +kernel) (so_lsub (by decide +kernel) (so_aload_n (f := 0) (by decide +kernel) rfl (so_get (C := RX9) (T := TX9) (N := 38) (by decide +kernel) rfl kin_9 (by decide) kw_469 (b := true) rfl (fun _ => rfl) (so_iload (by decide +kernel) (so_ialdU (by decide +kernel) (so_callV (C := RX9) (T := TX9) (N0 := 38) (by decide +kernel) kcf_180 rfl rfl rfl kw_561 kw_562 kw_563 (by decide +kernel) (sb_180_0 hj) (so_goto (off := 85) (tgt := 363) (by decide +kernel) (by decide) (sb_181_363 hj)))))))))))))))))))))
set_option maxRecDepth 20000 in
theorem sb_181_207 {j : AJ} (hj : SJ j) : Sound kM_181 207 (mb_181_207 j) := by
  unfold mb_181_207
  exact so_iload (by decide +kernel) (so_if (off := 35) (tgt := 244) (by decide +kernel) (by decide) rfl (sb_181_244 hj) (so_aload_n (f := 0) (by decide +kernel) rfl (so_iload_n (f := 2) (by decide +kernel) rfl (so_aload_n (f := 0) (by decide +kernel) rfl (so_get (C := RX9) (T := TX9) (N := 38) (by decide +kernel) rfl kin_9 (by decide) kw_468 (b := true) rfl (fun _ => rfl) (so_iload (by decide +kernel) (so_lald (by decide +kernel) (so_lconst (i := 1) (by decide +kernel) rfl (so_aload_n (f := 0) (by decide +kernel) rfl (so_get (C := RX9) (T := TX9) (N := 38) (by decide +kernel) rfl kin_9 (by decide) kw_469 (b := true) rfl (fun _ => rfl) (so_iload (by decide +kernel) (so_ialdU (by decide +kernel) (so_lshl (by decide +kernel) (so_ladd (by decide +kernel) (so_aload_n (f := 0) (by decide +kernel) rfl (so_get (C := RX9) (T := TX9) (N := 38) (by decide +kernel) rfl kin_9 (by decide) kw_469 (b := true) rfl (fun _ => rfl) (so_iload (by decide +kernel) (so_ialdU (by decide +kernel) (so_callV (C := RX9) (T := TX9) (N0 := 38) (by decide +kernel) kcf_180 rfl rfl rfl kw_561 kw_562 kw_563 (by decide +kernel) (sb_180_0 hj) (so_goto (off := 122) (tgt := 363) (by decide +kernel) (by decide) (sb_181_363 hj)))))))))))))))))))))
set_option maxRecDepth 20000 in
theorem sb_181_187 {j : AJ} (hj : SJ j) : Sound kM_181 187 (mb_181_187 j) := by
  unfold mb_181_187
  exact so_iload (by decide +kernel) (so_if (off := 18) (tgt := 207) (by decide +kernel) (by decide) rfl (sb_181_207 hj) (so_iload (by decide +kernel) (so_if (off := 13) (tgt := 207) (by decide +kernel) (by decide) rfl (sb_181_207 hj) (so_aload_n (f := 0) (by decide +kernel) rfl (so_iload_n (f := 2) (by decide +kernel) rfl (so_lconst (i := 0) (by decide +kernel) rfl (so_iconst (i := 0) (by decide +kernel) (by decide +kernel) (by decide) (so_callV (C := RX9) (T := TX9) (N0 := 38) (by decide +kernel) kcf_180 rfl rfl rfl kw_561 kw_562 kw_563 (by decide +kernel) (sb_180_0 hj) (so_goto (off := 159) (tgt := 363) (by decide +kernel) (by decide) (sb_181_363 hj))))))))))
set_option maxRecDepth 20000 in
theorem sb_181_171 {j : AJ} (hj : SJ j) : Sound kM_181 171 (mb_181_171 j) := by
  unfold mb_181_171
  exact so_istore (by decide +kernel) (by decide +kernel) (so_aload_n (f := 0) (by decide +kernel) rfl (so_get (C := RX9) (T := TX9) (N := 38) (by decide +kernel) rfl kin_9 (by decide) kw_467 (b := true) rfl (fun _ => rfl) (so_iload_n (f := 2) (by decide +kernel) rfl (so_iload (by decide +kernel) (so_zast (by decide +kernel) (so_iload (by decide +kernel) (so_if (off := 4) (tgt := 187) (by decide +kernel) (by decide) rfl (sb_181_187 hj) (so_retv (by decide +kernel) rfl))))))))
set_option maxRecDepth 20000 in
theorem sb_181_170 {j : AJ} (hj : SJ j) : Sound kM_181 170 (mb_181_170 j) := by
  unfold mb_181_170
  exact so_iconst (i := 0) (by decide +kernel) (by decide +kernel) (by decide) (sb_181_171 hj)
set_option maxRecDepth 20000 in
theorem sb_181_166 {j : AJ} (hj : SJ j) : Sound kM_181 166 (mb_181_166 j) := by
  unfold mb_181_166
  exact so_iconst (i := 1) (by decide +kernel) (by decide +kernel) (by decide) (so_goto (off := 4) (tgt := 171) (by decide +kernel) (by decide) (sb_181_171 hj))
set_option maxRecDepth 20000 in
theorem sb_181_115 {j : AJ} (hj : SJ j) : Sound kM_181 115 (mb_181_115 j) := by
  unfold mb_181_115
  exact so_istore (by decide +kernel) (by decide +kernel) (so_iload (by decide +kernel) (so_if (off := 51) (tgt := 170) (by decide +kernel) (by decide) rfl (sb_181_170 hj) (so_iload (by decide +kernel) (so_if (off := 42) (tgt := 166) (by decide +kernel) (by decide) rfl (sb_181_166 hj) (so_iload (by decide +kernel) (so_if (off := 37) (tgt := 166) (by decide +kernel) (by decide) rfl (sb_181_166 hj) (so_aload_n (f := 0) (by decide +kernel) rfl (so_get (C := RX9) (T := TX9) (N := 38) (by decide +kernel) rfl kin_9 (by decide) kw_468 (b := true) rfl (fun _ => rfl) (so_iload (by decide +kernel) (so_lald (by decide +kernel) (so_aload_n (f := 0) (by decide +kernel) rfl (so_get (C := RX9) (T := TX9) (N := 38) (by decide +kernel) rfl kin_9 (by decide) kw_469 (b := true) rfl (fun _ => rfl) (so_iload (by decide +kernel) (so_ialdU (by decide +kernel) (so_aload_n (f := 0) (by decide +kernel) rfl (so_get (C := RX9) (T := TX9) (N := 38) (by decide +kernel) rfl kin_9 (by decide) kw_468 (b := true) rfl (fun _ => rfl) (so_iload (by decide +kernel) (so_lald (by decide +kernel) (so_aload_n (f := 0) (by decide +kernel) rfl (so_get (C := RX9) (T := TX9) (N := 38) (by decide +kernel) rfl kin_9 (by decide) kw_469 (b := true) rfl (fun _ => rfl) (so_iload (by decide +kernel) (so_ialdU (by decide +kernel) (so_callS (by decide +kernel) kcf_179 rfl kw_564 kw_565 (by decide +kernel) (sb_179_0 hj) (so_if (off := 7) (tgt := 170) (by decide +kernel) (by decide) rfl (sb_181_170 hj) (sb_181_166 hj)))))))))))))))))))))))))
set_option maxRecDepth 20000 in
theorem sb_181_114 {j : AJ} (hj : SJ j) : Sound kM_181 114 (mb_181_114 j) := by
  unfold mb_181_114
  exact so_iconst (i := 0) (by decide +kernel) (by decide +kernel) (by decide) (sb_181_115 hj)
set_option maxRecDepth 20000 in
theorem sb_181_110 {j : AJ} (hj : SJ j) : Sound kM_181 110 (mb_181_110 j) := by
  unfold mb_181_110
  exact so_iconst (i := 1) (by decide +kernel) (by decide +kernel) (by decide) (so_goto (off := 4) (tgt := 115) (by decide +kernel) (by decide) (sb_181_115 hj))
set_option maxRecDepth 20000 in
theorem sb_181_95 {j : AJ} (hj : SJ j) : Sound kM_181 95 (mb_181_95 j) := by
  unfold mb_181_95
  exact so_iload (by decide +kernel) (so_if (off := 13) (tgt := 110) (by decide +kernel) (by decide) rfl (sb_181_110 hj) (so_aload_n (f := 0) (by decide +kernel) rfl (so_get (C := RX9) (T := TX9) (N := 38) (by decide +kernel) rfl kin_9 (by decide) kw_467 (b := true) rfl (fun _ => rfl) (so_iload (by decide +kernel) (so_zald (by decide +kernel) (so_if (off := 7) (tgt := 114) (by decide +kernel) (by decide) rfl (sb_181_114 hj) (sb_181_110 hj)))))))
set_option maxRecDepth 20000 in
theorem sb_181_66 {j : AJ} (hj : SJ j) : Sound kM_181 66 (mb_181_66 j) := by
  unfold mb_181_66
  exact so_istore (by decide +kernel) (by decide +kernel) (so_iload (by decide +kernel) (so_iconst (i := 2) (by decide +kernel) (by decide +kernel) (by decide) (so_icmp (off := 43) (tgt := 114) (by decide +kernel) (by decide) rfl (sb_181_114 hj) (so_iload (by decide +kernel) (so_iconst (i := 2) (by decide +kernel) (by decide +kernel) (by decide) (so_icmp (off := 37) (tgt := 114) (by decide +kernel) (by decide) rfl (sb_181_114 hj) (so_iload (by decide +kernel) (so_if (off := 13) (tgt := 95) (by decide +kernel) (by decide) rfl (sb_181_95 hj) (so_aload_n (f := 0) (by decide +kernel) rfl (so_get (C := RX9) (T := TX9) (N := 38) (by decide +kernel) rfl kin_9 (by decide) kw_467 (b := true) rfl (fun _ => rfl) (so_iload (by decide +kernel) (so_zald (by decide +kernel) (so_if (off := 22) (tgt := 114) (by decide +kernel) (by decide) rfl (sb_181_114 hj) (sb_181_95 hj))))))))))))))
set_option maxRecDepth 20000 in
theorem sb_181_65 {j : AJ} (hj : SJ j) : Sound kM_181 65 (mb_181_65 j) := by
  unfold mb_181_65
  exact so_iconst (i := -1) (by decide +kernel) (by decide +kernel) (by decide) (sb_181_66 hj)
set_option maxRecDepth 20000 in
theorem sb_181_44 {j : AJ} (hj : SJ j) : Sound kM_181 44 (mb_181_44 j) := by
  unfold mb_181_44
  exact so_istore (by decide +kernel) (by decide +kernel) (so_iload (by decide +kernel) (so_if (off := 17) (tgt := 65) (by decide +kernel) (by decide) rfl (sb_181_65 hj) (so_aload_n (f := 0) (by decide +kernel) rfl (so_get (C := RX9) (T := TX9) (N := 38) (by decide +kernel) rfl kin_9 (by decide) kw_450 (b := true) rfl (fun _ => rfl) (so_aload_n (f := 0) (by decide +kernel) rfl (so_get (C := RX9) (T := TX9) (N := 38) (by decide +kernel) rfl kin_9 (by decide) kw_447 (b := true) rfl (fun _ => rfl) (so_iload_n (f := 3) (by decide +kernel) rfl (so_ialdU (by decide +kernel) (so_ialdU (by decide +kernel) (so_goto (off := 4) (tgt := 66) (by decide +kernel) (by decide) (sb_181_66 hj)))))))))))
set_option maxRecDepth 20000 in
theorem sb_181_43 {j : AJ} (hj : SJ j) : Sound kM_181 43 (mb_181_43 j) := by
  unfold mb_181_43
  exact so_iconst (i := -1) (by decide +kernel) (by decide +kernel) (by decide) (sb_181_44 hj)
set_option maxRecDepth 20000 in
theorem sb_181_0 {j : AJ} (hj : SJ j) : Sound kM_181 0 (mb_181_0 j) := by
  unfold mb_181_0
  exact so_sipush (i := 520) (by decide +kernel) (by decide +kernel) (by decide) (so_iload_n (f := 1) (by decide +kernel) rfl (so_mulU (by decide +kernel) (so_iload_n (f := 2) (by decide +kernel) rfl (so_addU (by decide +kernel) (so_istore_n (f := 3) (by decide +kernel) rfl (by decide +kernel) (so_aload_n (f := 0) (by decide +kernel) rfl (so_get (C := RX9) (T := TX9) (N := 38) (by decide +kernel) rfl kin_9 (by decide) kw_446 (b := true) rfl (fun _ => rfl) (so_iload_n (f := 3) (by decide +kernel) rfl (so_ialdU (by decide +kernel) (so_istore (by decide +kernel) (by decide +kernel) (so_aload_n (f := 0) (by decide +kernel) rfl (so_get (C := RX9) (T := TX9) (N := 38) (by decide +kernel) rfl kin_9 (by decide) kw_448 (b := true) rfl (fun _ => rfl) (so_iload_n (f := 3) (by decide +kernel) rfl (so_ialdU (by decide +kernel) (so_istore (by decide +kernel) (by decide +kernel) (so_iload (by decide +kernel) (so_if (off := 17) (tgt := 43) (by decide +kernel) (by decide) rfl (sb_181_43 hj) (so_aload_n (f := 0) (by decide +kernel) rfl (so_get (C := RX9) (T := TX9) (N := 38) (by decide +kernel) rfl kin_9 (by decide) kw_450 (b := true) rfl (fun _ => rfl) (so_aload_n (f := 0) (by decide +kernel) rfl (so_get (C := RX9) (T := TX9) (N := 38) (by decide +kernel) rfl kin_9 (by decide) kw_445 (b := true) rfl (fun _ => rfl) (so_iload_n (f := 3) (by decide +kernel) rfl (so_ialdU (by decide +kernel) (so_ialdU (by decide +kernel) (so_goto (off := 4) (tgt := 44) (by decide +kernel) (by decide) (sb_181_44 hj))))))))))))))))))))))))))
set_option maxRecDepth 20000 in
theorem sb_182_234 {j : AJ} (hj : SJ j) : Sound kM_182 234 (mb_182_234 j) := by
  unfold mb_182_234
  exact so_retv (by decide +kernel) rfl
set_option maxRecDepth 20000 in
theorem sb_182_228 {j : AJ} (hj : SJ j) : Sound kM_182 228 (mb_182_228 j) := by
  unfold mb_182_228
  exact so_iincU (z := 1) (by decide +kernel) (by decide +kernel) (by decide) (by decide +kernel) (so_goto (off := -220) (tgt := 11) (by decide +kernel) (by decide) (hj 143 _ _ rfl))
set_option maxRecDepth 20000 in
theorem sb_182_222 {j : AJ} (hj : SJ j) : Sound kM_182 222 (mb_182_222 j) := by
  unfold mb_182_222
  exact so_iincU (z := 1) (by decide +kernel) (by decide +kernel) (by decide) (by decide +kernel) (so_goto (off := -149) (tgt := 76) (by decide +kernel) (by decide) (hj 142 _ _ rfl))
set_option maxRecDepth 20000 in
theorem sb_182_194 {j : AJ} (hj : SJ j) : Sound kM_182 194 (mb_182_194 j) := by
  unfold mb_182_194
  exact so_aload_n (f := 0) (by decide +kernel) rfl (so_get (C := RX9) (T := TX9) (N := 38) (by decide +kernel) rfl kin_9 (by decide) kw_470 (b := true) rfl (fun _ => rfl) (so_iload (by decide +kernel) (so_aload_n (f := 0) (by decide +kernel) rfl (so_get (C := RX9) (T := TX9) (N := 38) (by decide +kernel) rfl kin_9 (by decide) kw_470 (b := true) rfl (fun _ => rfl) (so_iload (by decide +kernel) (so_lald (by decide +kernel) (so_last (by decide +kernel) (so_aload_n (f := 0) (by decide +kernel) rfl (so_get (C := RX9) (T := TX9) (N := 38) (by decide +kernel) rfl kin_9 (by decide) kw_471 (b := true) rfl (fun _ => rfl) (so_iload (by decide +kernel) (so_aload_n (f := 0) (by decide +kernel) rfl (so_get (C := RX9) (T := TX9) (N := 38) (by decide +kernel) rfl kin_9 (by decide) kw_471 (b := true) rfl (fun _ => rfl) (so_iload (by decide +kernel) (so_ialdU (by decide +kernel) (so_iastU (by decide +kernel) (sb_182_222 hj))))))))))))))))
set_option maxRecDepth 20000 in
theorem sb_182_189 {j : AJ} (hj : SJ j) : Sound kM_182 189 (mb_182_189 j) := by
  unfold mb_182_189
  exact so_iload (by decide +kernel) (so_if (off := 31) (tgt := 222) (by decide +kernel) (by decide) rfl (sb_182_222 hj) (sb_182_194 hj))
set_option maxRecDepth 20000 in
theorem sb_182_169 {j : AJ} (hj : SJ j) : Sound kM_182 169 (mb_182_169 j) := by
  unfold mb_182_169
  exact so_istore (by decide +kernel) (by decide +kernel) (so_iload (by decide +kernel) (so_if (off := 21) (tgt := 194) (by decide +kernel) (by decide) rfl (sb_182_194 hj) (so_iload (by decide +kernel) (so_if (off := 11) (tgt := 189) (by decide +kernel) (by decide) rfl (sb_182_189 hj) (so_iload (by decide +kernel) (so_if (off := 39) (tgt := 222) (by decide +kernel) (by decide) rfl (sb_182_222 hj) (so_goto (off := 8) (tgt := 194) (by decide +kernel) (by decide) (sb_182_194 hj))))))))
set_option maxRecDepth 20000 in
theorem sb_182_138 {j : AJ} (hj : SJ j) : Sound kM_182 138 (mb_182_138 j) := by
  unfold mb_182_138
  exact so_aload_n (f := 0) (by decide +kernel) rfl (so_get (C := RX9) (T := TX9) (N := 38) (by decide +kernel) rfl kin_9 (by decide) kw_470 (b := true) rfl (fun _ => rfl) (so_iload (by decide +kernel) (so_lald (by decide +kernel) (so_aload_n (f := 0) (by decide +kernel) rfl (so_get (C := RX9) (T := TX9) (N := 38) (by decide +kernel) rfl kin_9 (by decide) kw_471 (b := true) rfl (fun _ => rfl) (so_iload (by decide +kernel) (so_ialdU (by decide +kernel) (so_aload_n (f := 0) (by decide +kernel) rfl (so_get (C := RX9) (T := TX9) (N := 38) (by decide +kernel) rfl kin_9 (by decide) kw_470 (b := true) rfl (fun _ => rfl) (so_iload (by decide +kernel) (so_lald (by decide +kernel) (so_aload_n (f := 0) (by decide +kernel) rfl (so_get (C := RX9) (T := TX9) (N := 38) (by decide +kernel) rfl kin_9 (by decide) kw_471 (b := true) rfl (fun _ => rfl) (so_iload (by decide +kernel) (so_ialdU (by decide +kernel) (so_callS (by decide +kernel) kcf_179 rfl kw_564 kw_565 (by decide +kernel) (sb_179_0 hj) (sb_182_169 hj)))))))))))))))))
set_option maxRecDepth 20000 in
theorem sb_182_117 {j : AJ} (hj : SJ j) : Sound kM_182 117 (mb_182_117 j) := by
  unfold mb_182_117
  exact so_iload (by decide +kernel) (so_addU (by decide +kernel) (so_ialdU (by decide +kernel) (so_mulU (by decide +kernel) (so_iconst (i := 1) (by decide +kernel) (by decide +kernel) (by decide) (so_addU (by decide +kernel) (so_iload (by decide +kernel) (so_subU (by decide +kernel) (so_istore (by decide +kernel) (by decide +kernel) (so_iload (by decide +kernel) (so_if (off := 7) (tgt := 138) (by decide +kernel) (by decide) rfl (sb_182_138 hj) (so_iconst (i := 0) (by decide +kernel) (by decide +kernel) (by decide) (so_goto (off := 34) (tgt := 169) (by decide +kernel) (by decide) (sb_182_169 hj)))))))))))))
set_option maxRecDepth 20000 in
theorem sb_182_111 {j : AJ} (hj : SJ j) : Sound kM_182 111 (mb_182_111 j) := by
  unfold mb_182_111
  exact so_aload_n (f := 0) (by decide +kernel) rfl (so_get (C := RX9) (T := TX9) (N := 38) (by decide +kernel) rfl kin_9 (by decide) kw_447 (b := true) rfl (fun _ => rfl) (so_iload_n (f := 3) (by decide +kernel) rfl (so_ialdU (by decide +kernel) (sb_182_117 hj))))
set_option maxRecDepth 20000 in
theorem sb_182_76 {j : AJ} (hj : SJ j) : Sound kM_182 76 (mb_182_76 j) := by
  unfold mb_182_76
  exact so_iload (by decide +kernel) (so_iload (by decide +kernel) (so_icmp (off := 148) (tgt := 228) (by decide +kernel) (by decide) rfl (sb_182_228 hj) (so_aload_n (f := 0) (by decide +kernel) rfl (so_get (C := RX9) (T := TX9) (N := 38) (by decide +kernel) rfl kin_9 (by decide) kw_467 (b := true) rfl (fun _ => rfl) (so_iload_n (f := 2) (by decide +kernel) rfl (so_zald (by decide +kernel) (so_if (off := 139) (tgt := 228) (by decide +kernel) (by decide) rfl (sb_182_228 hj) (so_iconst (i := 2) (by decide +kernel) (by decide +kernel) (by decide) (so_aload_n (f := 0) (by decide +kernel) rfl (so_get (C := RX9) (T := TX9) (N := 38) (by decide +kernel) rfl kin_9 (by decide) kw_450 (b := true) rfl (fun _ => rfl) (so_iload (by decide +kernel) (so_if (off := 12) (tgt := 111) (by decide +kernel) (by decide) rfl (sb_182_111 hj) (so_aload_n (f := 0) (by decide +kernel) rfl (so_get (C := RX9) (T := TX9) (N := 38) (by decide +kernel) rfl kin_9 (by decide) kw_445 (b := true) rfl (fun _ => rfl) (so_iload_n (f := 3) (by decide +kernel) rfl (so_ialdU (by decide +kernel) (so_goto (off := 9) (tgt := 117) (by decide +kernel) (by decide) (sb_182_117 hj))))))))))))))))))
set_option maxRecDepth 20000 in
theorem sb_182_71 {j : AJ} (hj : SJ j) : Sound kM_182 71 (mb_182_71 j) := by
  unfold mb_182_71
  exact so_istore (by decide +kernel) (by decide +kernel) (so_iconst (i := 0) (by decide +kernel) (by decide +kernel) (by decide) (so_istore (by decide +kernel) (by decide +kernel) (sb_182_76 hj)))
set_option maxRecDepth 20000 in
theorem sb_182_65 {j : AJ} (hj : SJ j) : Sound kM_182 65 (mb_182_65 j) := by
  unfold mb_182_65
  exact so_aload_n (f := 0) (by decide +kernel) rfl (so_get (C := RX9) (T := TX9) (N := 38) (by decide +kernel) rfl kin_9 (by decide) kw_448 (b := true) rfl (fun _ => rfl) (so_iload_n (f := 3) (by decide +kernel) rfl (so_ialdU (by decide +kernel) (sb_182_71 hj))))
set_option maxRecDepth 20000 in
theorem sb_182_11 {j : AJ} (hj : SJ j) : Sound kM_182 11 (mb_182_11 j) := by
  unfold mb_182_11
  exact so_iload (by decide +kernel) (so_iconst (i := 2) (by decide +kernel) (by decide +kernel) (by decide) (so_icmp (off := 220) (tgt := 234) (by decide +kernel) (by decide) rfl (sb_182_234 hj) (so_iconst (i := 2) (by decide +kernel) (by decide +kernel) (by decide) (so_iload_n (f := 2) (by decide +kernel) rfl (so_mulU (by decide +kernel) (so_iload (by decide +kernel) (so_addU (by decide +kernel) (so_istore (by decide +kernel) (by decide +kernel) (so_aload_n (f := 0) (by decide +kernel) rfl (so_get (C := RX9) (T := TX9) (N := 38) (by decide +kernel) rfl kin_9 (by decide) kw_470 (b := true) rfl (fun _ => rfl) (so_iload (by decide +kernel) (so_aload_n (f := 0) (by decide +kernel) rfl (so_get (C := RX9) (T := TX9) (N := 38) (by decide +kernel) rfl kin_9 (by decide) kw_468 (b := true) rfl (fun _ => rfl) (so_iload_n (f := 2) (by decide +kernel) rfl (so_lald (by decide +kernel) (so_last (by decide +kernel) (so_aload_n (f := 0) (by decide +kernel) rfl (so_get (C := RX9) (T := TX9) (N := 38) (by decide +kernel) rfl kin_9 (by decide) kw_471 (b := true) rfl (fun _ => rfl) (so_iload (by decide +kernel) (so_aload_n (f := 0) (by decide +kernel) rfl (so_get (C := RX9) (T := TX9) (N := 38) (by decide +kernel) rfl kin_9 (by decide) kw_469 (b := true) rfl (fun _ => rfl) (so_iload_n (f := 2) (by decide +kernel) rfl (so_ialdU (by decide +kernel) (so_iastU (by decide +kernel) (so_iload (by decide +kernel) (so_if (off := 12) (tgt := 65) (by decide +kernel) (by decide) rfl (sb_182_65 hj) (so_aload_n (f := 0) (by decide +kernel) rfl (so_get (C := RX9) (T := TX9) (N := 38) (by decide +kernel) rfl kin_9 (by decide) kw_446 (b := true) rfl (fun _ => rfl) (so_iload_n (f := 3) (by decide +kernel) rfl (so_ialdU (by decide +kernel) (so_goto (off := 9) (tgt := 71) (by decide +kernel) (by decide) (sb_182_71 hj))))))))))))))))))))))))))))))))
set_option maxRecDepth 20000 in
theorem sb_182_0 {j : AJ} (hj : SJ j) : Sound kM_182 0 (mb_182_0 j) := by
  unfold mb_182_0
  exact so_sipush (i := 520) (by decide +kernel) (by decide +kernel) (by decide) (so_iload_n (f := 1) (by decide +kernel) rfl (so_mulU (by decide +kernel) (so_iload_n (f := 2) (by decide +kernel) rfl (so_addU (by decide +kernel) (so_istore_n (f := 3) (by decide +kernel) rfl (by decide +kernel) (so_iconst (i := 0) (by decide +kernel) (by decide +kernel) (by decide) (so_istore (by decide +kernel) (by decide +kernel) (sb_182_11 hj))))))))
set_option maxRecDepth 20000 in
theorem sb_183_30 {j : AJ} (hj : SJ j) : Sound kM_183 30 (mb_183_30 j) := by
  unfold mb_183_30
  exact so_aload_n (f := 0) (by decide +kernel) rfl (so_get (C := RX9) (T := TX9) (N := 38) (by decide +kernel) rfl kin_9 (by decide) kw_440 (b := true) rfl (fun _ => rfl) (so_iload_n (f := 1) (by decide +kernel) rfl (so_ialdU (by decide +kernel) (so_iconst (i := 1) (by decide +kernel) (by decide +kernel) (by decide) (so_subU (by decide +kernel) (so_reti (by decide +kernel) rfl))))))
set_option maxRecDepth 20000 in
theorem sb_183_2 {j : AJ} (hj : SJ j) : Sound kM_183 2 (mb_183_2 j) := by
  unfold mb_183_2
  exact so_iload_n (f := 2) (by decide +kernel) rfl (so_aload_n (f := 0) (by decide +kernel) rfl (so_get (C := RX9) (T := TX9) (N := 38) (by decide +kernel) rfl kin_9 (by decide) kw_440 (b := true) rfl (fun _ => rfl) (so_iload_n (f := 1) (by decide +kernel) rfl (so_ialdU (by decide +kernel) (so_icmp (off := 21) (tgt := 30) (by decide +kernel) (by decide) rfl (sb_183_30 hj) (so_aload_n (f := 0) (by decide +kernel) rfl (so_iload_n (f := 1) (by decide +kernel) rfl (so_iload_n (f := 2) (by decide +kernel) rfl (so_callV (C := RX9) (T := TX9) (N0 := 38) (by decide +kernel) kcf_181 rfl rfl rfl kw_566 kw_567 kw_568 (by decide +kernel) (sb_181_0 hj) (so_aload_n (f := 0) (by decide +kernel) rfl (so_iload_n (f := 1) (by decide +kernel) rfl (so_iload_n (f := 2) (by decide +kernel) rfl (so_callV (C := RX9) (T := TX9) (N0 := 38) (by decide +kernel) kcf_182 rfl rfl rfl kw_569 kw_570 kw_571 (by decide +kernel) (sb_182_0 hj) (so_iincU (z := 1) (by decide +kernel) (by decide +kernel) (by decide) (by decide +kernel) (so_goto (off := -25) (tgt := 2) (by decide +kernel) (by decide) (hj 144 _ _ rfl))))))))))))))))
set_option maxRecDepth 20000 in
theorem sb_183_0 {j : AJ} (hj : SJ j) : Sound kM_183 0 (mb_183_0 j) := by
  unfold mb_183_0
  exact so_iconst (i := 0) (by decide +kernel) (by decide +kernel) (by decide) (so_istore_n (f := 2) (by decide +kernel) rfl (by decide +kernel) (sb_183_2 hj))
set_option maxRecDepth 20000 in
theorem sb_184_118 {j : AJ} (hj : SJ j) : Sound kM_184 118 (mb_184_118 j) := by
  unfold mb_184_118
  exact so_retz (by decide +kernel) rfl
set_option maxRecDepth 20000 in
theorem sb_184_117 {j : AJ} (hj : SJ j) : Sound kM_184 117 (mb_184_117 j) := by
  unfold mb_184_117
  exact so_iconst (i := 0) (by decide +kernel) (by decide +kernel) (by decide) (sb_184_118 hj)
set_option maxRecDepth 20000 in
theorem sb_184_37 {j : AJ} (hj : SJ j) : Sound kM_184 37 (mb_184_37 j) := by
  unfold mb_184_37
  exact so_aload_n (f := 0) (by decide +kernel) rfl (so_get (C := RX9) (T := TX9) (N := 38) (by decide +kernel) rfl kin_9 (by decide) kw_450 (b := true) rfl (fun _ => rfl) (so_aload_n (f := 0) (by decide +kernel) rfl (so_get (C := RX9) (T := TX9) (N := 38) (by decide +kernel) rfl kin_9 (by decide) kw_445 (b := true) rfl (fun _ => rfl) (so_iload_n (f := 2) (by decide +kernel) rfl (so_ialdU (by decide +kernel) (so_ialdU (by decide +kernel) (so_istore_n (f := 3) (by decide +kernel) rfl (by decide +kernel) (so_aload_n (f := 0) (by decide +kernel) rfl (so_get (C := RX9) (T := TX9) (N := 38) (by decide +kernel) rfl kin_9 (by decide) kw_450 (b := true) rfl (fun _ => rfl) (so_aload_n (f := 0) (by decide +kernel) rfl (so_get (C := RX9) (T := TX9) (N := 38) (by decide +kernel) rfl kin_9 (by decide) kw_447 (b := true) rfl (fun _ => rfl) (so_iload_n (f := 2) (by decide +kernel) rfl (so_ialdU (by decide +kernel) (so_ialdU (by decide +kernel) (so_istore (by decide +kernel) (by decide +kernel) (so_aload_n (f := 0) (by decide +kernel) rfl (so_get (C := RX9) (T := TX9) (N := 38) (by decide +kernel) rfl kin_9 (by decide) kw_467 (b := true) rfl (fun _ => rfl) (so_iload_n (f := 3) (by decide +kernel) rfl (so_zald (by decide +kernel) (so_if (off := 49) (tgt := 117) (by decide +kernel) (by decide) rfl (sb_184_117 hj) (so_aload_n (f := 0) (by decide +kernel) rfl (so_get (C := RX9) (T := TX9) (N := 38) (by decide +kernel) rfl kin_9 (by decide) kw_467 (b := true) rfl (fun _ => rfl) (so_iload (by decide +kernel) (so_zald (by decide +kernel) (so_if (off := 39) (tgt := 117) (by decide +kernel) (by decide) rfl (sb_184_117 hj) (so_aload_n (f := 0) (by decide +kernel) rfl (so_get (C := RX9) (T := TX9) (N := 38) (by decide +kernel) rfl kin_9 (by decide) kw_468 (b := true) rfl (fun _ => rfl) (so_iload_n (f := 3) (by decide +kernel) rfl (so_lald (by decide +kernel) (so_aload_n (f := 0) (by decide +kernel) rfl (so_get (C := RX9) (T := TX9) (N := 38) (by decide +kernel) rfl kin_9 (by decide) kw_469 (b := true) rfl (fun _ => rfl) (so_iload_n (f := 3) (by decide +kernel) rfl (so_ialdU (by decide +kernel) (so_aload_n (f := 0) (by decide +kernel) rfl (so_get (C := RX9) (T := TX9) (N := 38) (by decide +kernel) rfl kin_9 (by decide) kw_468 (b := true) rfl (fun _ => rfl) (so_iload (by decide +kernel) (so_lald (by decide +kernel) (so_aload_n (f := 0) (by decide +kernel) rfl (so_get (C := RX9) (T := TX9) (N := 38) (by decide +kernel) rfl kin_9 (by decide) kw_469 (b := true) rfl (fun _ => rfl) (so_iload (by decide +kernel) (so_ialdU (by decide +kernel) (so_callS (by decide +kernel) kcf_179 rfl kw_564 kw_565 (by decide +kernel) (sb_179_0 hj) (so_if (off := 7) (tgt := 117) (by decide +kernel) (by decide) rfl (sb_184_117 hj) (so_iconst (i := 1) (by decide +kernel) (by decide +kernel) (by decide) (so_goto (off := 4) (tgt := 118) (by decide +kernel) (by decide) (sb_184_118 hj))))))))))))))))))))))))))))))))))))))))))))))
set_option maxRecDepth 20000 in
theorem sb_184_35 {j : AJ} (hj : SJ j) : Sound kM_184 35 (mb_184_35 j) := by
  unfold mb_184_35
  exact so_iconst (i := 0) (by decide +kernel) (by decide +kernel) (by decide) (so_retz (by decide +kernel) rfl)
set_option maxRecDepth 20000 in
theorem sb_184_0 {j : AJ} (hj : SJ j) : Sound kM_184 0 (mb_184_0 j) := by
  unfold mb_184_0
  exact so_sipush (i := 520) (by decide +kernel) (by decide +kernel) (by decide) (so_iload_n (f := 1) (by decide +kernel) rfl (so_mulU (by decide +kernel) (so_aload_n (f := 0) (by decide +kernel) rfl (so_get (C := RX9) (T := TX9) (N := 38) (by decide +kernel) rfl kin_9 (by decide) kw_440 (b := true) rfl (fun _ => rfl) (so_iload_n (f := 1) (by decide +kernel) rfl (so_ialdU (by decide +kernel) (so_addU (by decide +kernel) (so_iconst (i := 1) (by decide +kernel) (by decide +kernel) (by decide) (so_subU (by decide +kernel) (so_istore_n (f := 2) (by decide +kernel) rfl (by decide +kernel) (so_aload_n (f := 0) (by decide +kernel) rfl (so_get (C := RX9) (T := TX9) (N := 38) (by decide +kernel) rfl kin_9 (by decide) kw_446 (b := true) rfl (fun _ => rfl) (so_iload_n (f := 2) (by decide +kernel) rfl (so_ialdU (by decide +kernel) (so_iconst (i := 1) (by decide +kernel) (by decide +kernel) (by decide) (so_icmp (off := 13) (tgt := 35) (by decide +kernel) (by decide) rfl (sb_184_35 hj) (so_aload_n (f := 0) (by decide +kernel) rfl (so_get (C := RX9) (T := TX9) (N := 38) (by decide +kernel) rfl kin_9 (by decide) kw_448 (b := true) rfl (fun _ => rfl) (so_iload_n (f := 2) (by decide +kernel) rfl (so_ialdU (by decide +kernel) (so_iconst (i := 1) (by decide +kernel) (by decide +kernel) (by decide) (so_icmp (off := 5) (tgt := 37) (by decide +kernel) (by decide) rfl (sb_184_37 hj) (sb_184_35 hj)))))))))))))))))))))))
