/-! ===== the blocks are sound ===== -/
set_option maxRecDepth 20000 in
theorem sb_185_144 {j : AJ} (hj : SJ j) : Sound kM_185 144 (mb_185_144 j) := by
  unfold mb_185_144
  exact so_ldci (i := 241) (by decide +kernel) kw_572 (by decide) (so_reti (by decide +kernel) rfl)
set_option maxRecDepth 20000 in
theorem sb_185_138 {j : AJ} (hj : SJ j) : Sound kM_185 138 (mb_185_138 j) := by
  unfold mb_185_138
  exact so_iincU (z := 1) (by decide +kernel) (by decide +kernel) (by decide) (by decide +kernel) (so_goto (off := -129) (tgt := 12) (by decide +kernel) (by decide) (hj 146 _ _ rfl))
set_option maxRecDepth 20000 in
theorem sb_185_112 {j : AJ} (hj : SJ j) : Sound kM_185 112 (mb_185_112 j) := by
  unfold mb_185_112
  exact so_aload_n (f := 0) (by decide +kernel) rfl (so_iload (by decide +kernel) (so_iload (by decide +kernel) (so_callV (C := RX9) (T := TX9) (N0 := 38) (by decide +kernel) kcf_172 rfl rfl rfl kw_551 kw_552 kw_553 (by decide +kernel) (sb_172_0 hj) (so_istore (by decide +kernel) (by decide +kernel) (so_aload_n (f := 0) (by decide +kernel) rfl (so_iload (by decide +kernel) (so_iload (by decide +kernel) (so_callV (C := RX9) (T := TX9) (N0 := 38) (by decide +kernel) kcf_172 rfl rfl rfl kw_551 kw_552 kw_553 (by decide +kernel) (sb_172_0 hj) (so_istore (by decide +kernel) (by decide +kernel) (so_iincU (z := 1) (by decide +kernel) (by decide +kernel) (by decide) (by decide +kernel) (so_goto (off := -77) (tgt := 58) (by decide +kernel) (by decide) (hj 145 _ _ rfl))))))))))))
set_option maxRecDepth 20000 in
theorem sb_185_110 {j : AJ} (hj : SJ j) : Sound kM_185 110 (mb_185_110 j) := by
  unfold mb_185_110
  exact so_addU (by decide +kernel) (so_reti (by decide +kernel) rfl)
set_option maxRecDepth 20000 in
theorem sb_185_109 {j : AJ} (hj : SJ j) : Sound kM_185 109 (mb_185_109 j) := by
  unfold mb_185_109
  exact so_iconst (i := 0) (by decide +kernel) (by decide +kernel) (by decide) (sb_185_110 hj)
set_option maxRecDepth 20000 in
theorem sb_185_93 {j : AJ} (hj : SJ j) : Sound kM_185 93 (mb_185_93 j) := by
  unfold mb_185_93
  exact so_istore (by decide +kernel) (by decide +kernel) (so_iconst (i := 2) (by decide +kernel) (by decide +kernel) (by decide) (so_iload (by decide +kernel) (so_mulU (by decide +kernel) (so_iload (by decide +kernel) (so_iload_n (f := 2) (by decide +kernel) rfl (so_icmp (off := 7) (tgt := 109) (by decide +kernel) (by decide) rfl (sb_185_109 hj) (so_iconst (i := 1) (by decide +kernel) (by decide +kernel) (by decide) (so_goto (off := 4) (tgt := 110) (by decide +kernel) (by decide) (sb_185_110 hj)))))))))
set_option maxRecDepth 20000 in
theorem sb_185_90 {j : AJ} (hj : SJ j) : Sound kM_185 90 (mb_185_90 j) := by
  unfold mb_185_90
  exact so_iload (by decide +kernel) (so_ineg (by decide +kernel) (sb_185_93 hj))
set_option maxRecDepth 20000 in
theorem sb_185_81 {j : AJ} (hj : SJ j) : Sound kM_185 81 (mb_185_81 j) := by
  unfold mb_185_81
  exact so_iload_n (f := 3) (by decide +kernel) rfl (so_if (off := 8) (tgt := 90) (by decide +kernel) (by decide) rfl (sb_185_90 hj) (so_iload (by decide +kernel) (so_goto (off := 6) (tgt := 93) (by decide +kernel) (by decide) (sb_185_93 hj))))
set_option maxRecDepth 20000 in
theorem sb_185_58 {j : AJ} (hj : SJ j) : Sound kM_185 58 (mb_185_58 j) := by
  unfold mb_185_58
  exact so_iload (by decide +kernel) (so_aload_n (f := 0) (by decide +kernel) rfl (so_get (C := RX9) (T := TX9) (N := 38) (by decide +kernel) rfl kin_9 (by decide) kw_455 (b := true) rfl (fun _ => rfl) (so_iload_n (f := 2) (by decide +kernel) rfl (so_ialdU (by decide +kernel) (so_icmp (off := 72) (tgt := 138) (by decide +kernel) (by decide) rfl (sb_185_138 hj) (so_iload (by decide +kernel) (so_iload_n (f := 2) (by decide +kernel) rfl (so_icmp (off := 9) (tgt := 81) (by decide +kernel) (by decide) rfl (sb_185_81 hj) (so_iload (by decide +kernel) (so_iload_n (f := 2) (by decide +kernel) rfl (so_icmp (off := 34) (tgt := 112) (by decide +kernel) (by decide) rfl (sb_185_112 hj) (sb_185_81 hj))))))))))))
set_option maxRecDepth 20000 in
theorem sb_185_46 {j : AJ} (hj : SJ j) : Sound kM_185 46 (mb_185_46 j) := by
  unfold mb_185_46
  exact so_istore (by decide +kernel) (by decide +kernel) (so_iconst (i := 0) (by decide +kernel) (by decide +kernel) (by decide) (so_istore (by decide +kernel) (by decide +kernel) (so_iload (by decide +kernel) (so_istore (by decide +kernel) (by decide +kernel) (so_iconst (i := 0) (by decide +kernel) (by decide +kernel) (by decide) (so_istore (by decide +kernel) (by decide +kernel) (sb_185_58 hj)))))))
set_option maxRecDepth 20000 in
theorem sb_185_39 {j : AJ} (hj : SJ j) : Sound kM_185 39 (mb_185_39 j) := by
  unfold mb_185_39
  exact so_aload_n (f := 0) (by decide +kernel) rfl (so_iload (by decide +kernel) (so_iconst (i := 0) (by decide +kernel) (by decide +kernel) (by decide) (so_callV (C := RX9) (T := TX9) (N0 := 38) (by decide +kernel) kcf_168 rfl rfl rfl kw_542 kw_543 kw_544 (by decide +kernel) (sb_168_0 hj) (sb_185_46 hj))))
set_option maxRecDepth 20000 in
theorem sb_185_12 {j : AJ} (hj : SJ j) : Sound kM_185 12 (mb_185_12 j) := by
  unfold mb_185_12
  exact so_iload_n (f := 3) (by decide +kernel) rfl (so_iconst (i := 2) (by decide +kernel) (by decide +kernel) (by decide) (so_icmp (off := 130) (tgt := 144) (by decide +kernel) (by decide) rfl (sb_185_144 hj) (so_aload_n (f := 0) (by decide +kernel) rfl (so_iconst (i := 0) (by decide +kernel) (by decide +kernel) (by decide) (so_iconst (i := 0) (by decide +kernel) (by decide +kernel) (by decide) (so_callV (C := RX9) (T := TX9) (N0 := 38) (by decide +kernel) kcf_168 rfl rfl rfl kw_542 kw_543 kw_544 (by decide +kernel) (sb_168_0 hj) (so_istore (by decide +kernel) (by decide +kernel) (so_iload_n (f := 3) (by decide +kernel) rfl (so_if (off := 13) (tgt := 39) (by decide +kernel) (by decide) rfl (sb_185_39 hj) (so_aload_n (f := 0) (by decide +kernel) rfl (so_iconst (i := 0) (by decide +kernel) (by decide +kernel) (by decide) (so_iload (by decide +kernel) (so_callV (C := RX9) (T := TX9) (N0 := 38) (by decide +kernel) kcf_168 rfl rfl rfl kw_542 kw_543 kw_544 (by decide +kernel) (sb_168_0 hj) (so_goto (off := 10) (tgt := 46) (by decide +kernel) (by decide) (sb_185_46 hj)))))))))))))))
set_option maxRecDepth 20000 in
theorem sb_185_0 {j : AJ} (hj : SJ j) : Sound kM_185 0 (mb_185_0 j) := by
  unfold mb_185_0
  exact so_aload_n (f := 0) (by decide +kernel) rfl (so_callV (C := RX9) (T := TX9) (N0 := 38) (by decide +kernel) kcf_162 rfl rfl rfl kw_537 kw_538 kw_539 (by decide +kernel) (sb_162_0 hj) (so_aload_n (f := 0) (by decide +kernel) rfl (so_iload_n (f := 1) (by decide +kernel) rfl (so_callV (C := RX9) (T := TX9) (N0 := 38) (by decide +kernel) kcf_163 rfl rfl rfl kw_554 kw_555 kw_556 (by decide +kernel) (sb_163_0 hj) (so_istore_n (f := 2) (by decide +kernel) rfl (by decide +kernel) (so_iconst (i := 0) (by decide +kernel) (by decide +kernel) (by decide) (so_istore_n (f := 3) (by decide +kernel) rfl (by decide +kernel) (sb_185_12 hj))))))))
set_option maxRecDepth 20000 in
theorem sb_186_44 {j : AJ} (hj : SJ j) : Sound kM_186 44 (mb_186_44 j) := by
  unfold mb_186_44
  exact so_reti (by decide +kernel) rfl
set_option maxRecDepth 20000 in
theorem sb_186_43 {j : AJ} (hj : SJ j) : Sound kM_186 43 (mb_186_43 j) := by
  unfold mb_186_43
  exact so_iconst (i := 0) (by decide +kernel) (by decide +kernel) (by decide) (sb_186_44 hj)
set_option maxRecDepth 20000 in
theorem sb_186_29 {j : AJ} (hj : SJ j) : Sound kM_186 29 (mb_186_29 j) := by
  unfold mb_186_29
  exact so_aload_n (f := 0) (by decide +kernel) rfl (so_iload_n (f := 1) (by decide +kernel) rfl (so_callV (C := RX9) (T := TX9) (N0 := 38) (by decide +kernel) kcf_185 rfl rfl rfl kw_573 kw_574 kw_575 (by decide +kernel) (sb_185_0 hj) (so_ldci (i := 241) (by decide +kernel) kw_572 (by decide) (so_icmp (off := 7) (tgt := 43) (by decide +kernel) (by decide) rfl (sb_186_43 hj) (so_iconst (i := 3) (by decide +kernel) (by decide +kernel) (by decide) (so_goto (off := 4) (tgt := 44) (by decide +kernel) (by decide) (sb_186_44 hj)))))))
set_option maxRecDepth 20000 in
theorem sb_186_17 {j : AJ} (hj : SJ j) : Sound kM_186 17 (mb_186_17 j) := by
  unfold mb_186_17
  exact so_aload_n (f := 0) (by decide +kernel) rfl (so_iload_n (f := 1) (by decide +kernel) rfl (so_callV (C := RX9) (T := TX9) (N0 := 38) (by decide +kernel) kcf_184 rfl rfl rfl kw_576 kw_577 kw_578 (by decide +kernel) (sb_184_0 hj) (so_if (off := 7) (tgt := 29) (by decide +kernel) (by decide) rfl (sb_186_29 hj) (so_iconst (i := 2) (by decide +kernel) (by decide +kernel) (by decide) (so_goto (off := 18) (tgt := 44) (by decide +kernel) (by decide) (sb_186_44 hj))))))
set_option maxRecDepth 20000 in
theorem sb_186_0 {j : AJ} (hj : SJ j) : Sound kM_186 0 (mb_186_0 j) := by
  unfold mb_186_0
  exact so_aload_n (f := 0) (by decide +kernel) rfl (so_iload_n (f := 1) (by decide +kernel) rfl (so_callV (C := RX9) (T := TX9) (N0 := 38) (by decide +kernel) kcf_183 rfl rfl rfl kw_579 kw_580 kw_581 (by decide +kernel) (sb_183_0 hj) (so_istore_n (f := 2) (by decide +kernel) rfl (by decide +kernel) (so_aload_n (f := 0) (by decide +kernel) rfl (so_get (C := RX9) (T := TX9) (N := 38) (by decide +kernel) rfl kin_9 (by decide) kw_467 (b := true) rfl (fun _ => rfl) (so_iload_n (f := 2) (by decide +kernel) rfl (so_zald (by decide +kernel) (so_if (off := 5) (tgt := 17) (by decide +kernel) (by decide) rfl (sb_186_17 hj) (so_iconst (i := 1) (by decide +kernel) (by decide +kernel) (by decide) (so_reti (by decide +kernel) rfl))))))))))
set_option maxRecDepth 20000 in
theorem sb_187_91 {j : AJ} (hj : SJ j) : Sound kM_187 91 (mb_187_91 j) := by
  unfold mb_187_91
  exact so_aload_n (f := 0) (by decide +kernel) rfl (so_iload_n (f := 1) (by decide +kernel) rfl (so_callV (C := RX9) (T := TX9) (N0 := 38) (by decide +kernel) kcf_186 rfl rfl rfl kw_582 kw_583 kw_584 (by decide +kernel) (sb_186_0 hj) (so_reti (by decide +kernel) rfl)))
set_option maxRecDepth 20000 in
theorem sb_187_84 {j : AJ} (hj : SJ j) : Sound kM_187 84 (mb_187_84 j) := by
  unfold mb_187_84
  exact so_aload_n (f := 0) (by decide +kernel) rfl (so_get (C := RX9) (T := TX9) (N := 38) (by decide +kernel) rfl kin_9 (by decide) kw_448 (b := true) rfl (fun _ => rfl) (so_iload_n (f := 3) (by decide +kernel) rfl (so_ialdU (by decide +kernel) (so_reti (by decide +kernel) rfl))))
set_option maxRecDepth 20000 in
theorem sb_187_77 {j : AJ} (hj : SJ j) : Sound kM_187 77 (mb_187_77 j) := by
  unfold mb_187_77
  exact so_aload_n (f := 0) (by decide +kernel) rfl (so_get (C := RX9) (T := TX9) (N := 38) (by decide +kernel) rfl kin_9 (by decide) kw_446 (b := true) rfl (fun _ => rfl) (so_iload_n (f := 3) (by decide +kernel) rfl (so_ialdU (by decide +kernel) (so_reti (by decide +kernel) rfl))))
set_option maxRecDepth 20000 in
theorem sb_187_71 {j : AJ} (hj : SJ j) : Sound kM_187 71 (mb_187_71 j) := by
  unfold mb_187_71
  exact so_aload_n (f := 0) (by decide +kernel) rfl (so_iload_n (f := 1) (by decide +kernel) rfl (so_callV (C := RX9) (T := TX9) (N0 := 38) (by decide +kernel) kcf_174 rfl rfl rfl kw_557 kw_558 kw_559 (by decide +kernel) (sb_174_0 hj) (so_reti (by decide +kernel) rfl)))
set_option maxRecDepth 20000 in
theorem sb_187_64 {j : AJ} (hj : SJ j) : Sound kM_187 64 (mb_187_64 j) := by
  unfold mb_187_64
  exact so_aload_n (f := 0) (by decide +kernel) rfl (so_get (C := RX9) (T := TX9) (N := 38) (by decide +kernel) rfl kin_9 (by decide) kw_440 (b := true) rfl (fun _ => rfl) (so_iload_n (f := 1) (by decide +kernel) rfl (so_ialdU (by decide +kernel) (so_reti (by decide +kernel) rfl))))
set_option maxRecDepth 20000 in
theorem sb_187_18 {j : AJ} (hj : SJ j) : Sound kM_187 18 (mb_187_18 j) := by
  unfold mb_187_18
  exact so_sipush (i := 520) (by decide +kernel) (by decide +kernel) (by decide) (so_iload_n (f := 1) (by decide +kernel) rfl (so_mulU (by decide +kernel) (so_aload_n (f := 0) (by decide +kernel) rfl (so_get (C := RX9) (T := TX9) (N := 38) (by decide +kernel) rfl kin_9 (by decide) kw_440 (b := true) rfl (fun _ => rfl) (so_iload_n (f := 1) (by decide +kernel) rfl (so_ialdU (by decide +kernel) (so_addU (by decide +kernel) (so_iconst (i := 1) (by decide +kernel) (by decide +kernel) (by decide) (so_subU (by decide +kernel) (so_istore_n (f := 3) (by decide +kernel) rfl (by decide +kernel) (so_iload_n (f := 2) (by decide +kernel) rfl (so_tsw2 (dflt := 57) (hi := 3) (offs := #[30, 37, 43, 50]) (len := 30) (tdf := 91) (tg := [64, 71, 77, 84]) (by decide +kernel) (by decide) (by decide) rfl (by decide) (by decide +kernel) ⟨(sb_187_64 hj), (sb_187_71 hj), (sb_187_77 hj), (sb_187_84 hj), trivial⟩ (sb_187_91 hj)))))))))))))
set_option maxRecDepth 20000 in
theorem sb_187_16 {j : AJ} (hj : SJ j) : Sound kM_187 16 (mb_187_16 j) := by
  unfold mb_187_16
  exact so_iconst (i := -1) (by decide +kernel) (by decide +kernel) (by decide) (so_reti (by decide +kernel) rfl)
set_option maxRecDepth 20000 in
theorem sb_187_0 {j : AJ} (hj : SJ j) : Sound kM_187 0 (mb_187_0 j) := by
  unfold mb_187_0
  exact so_iload_n (f := 1) (by decide +kernel) rfl (so_callS (by decide +kernel) kcf_165 rfl kw_540 kw_541 (by decide +kernel) (sb_165_0 hj) (so_if (off := 12) (tgt := 16) (by decide +kernel) (by decide) rfl (sb_187_16 hj) (so_iload_n (f := 2) (by decide +kernel) rfl (so_if (off := 8) (tgt := 16) (by decide +kernel) (by decide) rfl (sb_187_16 hj) (so_iload_n (f := 2) (by decide +kernel) rfl (so_iconst (i := 4) (by decide +kernel) (by decide +kernel) (by decide) (so_icmp (off := 5) (tgt := 18) (by decide +kernel) (by decide) rfl (sb_187_18 hj) (sb_187_16 hj))))))))
set_option maxRecDepth 20000 in
theorem sb_188_96 {j : AJ} (hj : SJ j) : Sound kM_188 96 (mb_188_96 j) := by
  unfold mb_188_96
  exact so_reti (by decide +kernel) rfl
set_option maxRecDepth 20000 in
theorem sb_188_95 {j : AJ} (hj : SJ j) : Sound kM_188 95 (mb_188_95 j) := by
  unfold mb_188_95
  exact so_iconst (i := 3) (by decide +kernel) (by decide +kernel) (by decide) (sb_188_96 hj)
set_option maxRecDepth 20000 in
theorem sb_188_81 {j : AJ} (hj : SJ j) : Sound kM_188 81 (mb_188_81 j) := by
  unfold mb_188_81
  exact so_aload_n (f := 0) (by decide +kernel) rfl (so_iload (by decide +kernel) (so_iload_n (f := 3) (by decide +kernel) rfl (so_callV (C := RX9) (T := TX9) (N0 := 38) (by decide +kernel) kcf_148 rfl rfl rfl kw_496 kw_497 kw_498 (by decide +kernel) (sb_148_0 hj) (so_if (off := 7) (tgt := 95) (by decide +kernel) (by decide) rfl (sb_188_95 hj) (so_iconst (i := 2) (by decide +kernel) (by decide +kernel) (by decide) (so_goto (off := 4) (tgt := 96) (by decide +kernel) (by decide) (sb_188_96 hj)))))))
set_option maxRecDepth 20000 in
theorem sb_188_80 {j : AJ} (hj : SJ j) : Sound kM_188 80 (mb_188_80 j) := by
  unfold mb_188_80
  exact so_reti (by decide +kernel) rfl
set_option maxRecDepth 20000 in
theorem sb_188_79 {j : AJ} (hj : SJ j) : Sound kM_188 79 (mb_188_79 j) := by
  unfold mb_188_79
  exact so_iconst (i := 1) (by decide +kernel) (by decide +kernel) (by decide) (sb_188_80 hj)
set_option maxRecDepth 20000 in
theorem sb_188_38 {j : AJ} (hj : SJ j) : Sound kM_188 38 (mb_188_38 j) := by
  unfold mb_188_38
  exact so_aload_n (f := 0) (by decide +kernel) rfl (so_callV (C := RX9) (T := TX9) (N0 := 38) (by decide +kernel) kcf_162 rfl rfl rfl kw_537 kw_538 kw_539 (by decide +kernel) (sb_162_0 hj) (so_aload_n (f := 0) (by decide +kernel) rfl (so_iload_n (f := 1) (by decide +kernel) rfl (so_callV (C := RX9) (T := TX9) (N0 := 38) (by decide +kernel) kcf_163 rfl rfl rfl kw_554 kw_555 kw_556 (by decide +kernel) (sb_163_0 hj) (so_istore_n (f := 3) (by decide +kernel) rfl (by decide +kernel) (so_aload_n (f := 0) (by decide +kernel) rfl (so_iload_n (f := 2) (by decide +kernel) rfl (so_callV (C := RX9) (T := TX9) (N0 := 38) (by decide +kernel) kcf_163 rfl rfl rfl kw_554 kw_555 kw_556 (by decide +kernel) (sb_163_0 hj) (so_istore (by decide +kernel) (by decide +kernel) (so_aload_n (f := 0) (by decide +kernel) rfl (so_iload_n (f := 3) (by decide +kernel) rfl (so_iload (by decide +kernel) (so_callV (C := RX9) (T := TX9) (N0 := 38) (by decide +kernel) kcf_148 rfl rfl rfl kw_496 kw_497 kw_498 (by decide +kernel) (sb_148_0 hj) (so_if (off := 19) (tgt := 81) (by decide +kernel) (by decide) rfl (sb_188_81 hj) (so_aload_n (f := 0) (by decide +kernel) rfl (so_iload (by decide +kernel) (so_iload_n (f := 3) (by decide +kernel) rfl (so_callV (C := RX9) (T := TX9) (N0 := 38) (by decide +kernel) kcf_148 rfl rfl rfl kw_496 kw_497 kw_498 (by decide +kernel) (sb_148_0 hj) (so_if (off := 7) (tgt := 79) (by decide +kernel) (by decide) rfl (sb_188_79 hj) (so_iconst (i := 0) (by decide +kernel) (by decide +kernel) (by decide) (so_goto (off := 4) (tgt := 80) (by decide +kernel) (by decide) (sb_188_80 hj))))))))))))))))))))))
set_option maxRecDepth 20000 in
theorem sb_188_16 {j : AJ} (hj : SJ j) : Sound kM_188 16 (mb_188_16 j) := by
  unfold mb_188_16
  exact so_aload_n (f := 0) (by decide +kernel) rfl (so_get (C := RX9) (T := TX9) (N := 38) (by decide +kernel) rfl kin_9 (by decide) kw_440 (b := true) rfl (fun _ => rfl) (so_iload_n (f := 1) (by decide +kernel) rfl (so_ialdU (by decide +kernel) (so_aload_n (f := 0) (by decide +kernel) rfl (so_get (C := RX9) (T := TX9) (N := 38) (by decide +kernel) rfl kin_9 (by decide) kw_440 (b := true) rfl (fun _ => rfl) (so_iload_n (f := 2) (by decide +kernel) rfl (so_ialdU (by decide +kernel) (so_addU (by decide +kernel) (so_sipush (i := 600) (by decide +kernel) (by decide +kernel) (by decide) (so_icmp (off := 6) (tgt := 38) (by decide +kernel) (by decide) rfl (sb_188_38 hj) (so_bipush (i := -3) (by decide +kernel) (by decide +kernel) (by decide) (so_reti (by decide +kernel) rfl))))))))))))
set_option maxRecDepth 20000 in
theorem sb_188_14 {j : AJ} (hj : SJ j) : Sound kM_188 14 (mb_188_14 j) := by
  unfold mb_188_14
  exact so_iconst (i := -1) (by decide +kernel) (by decide +kernel) (by decide) (so_reti (by decide +kernel) rfl)
set_option maxRecDepth 20000 in
theorem sb_188_0 {j : AJ} (hj : SJ j) : Sound kM_188 0 (mb_188_0 j) := by
  unfold mb_188_0
  exact so_iload_n (f := 1) (by decide +kernel) rfl (so_callS (by decide +kernel) kcf_165 rfl kw_540 kw_541 (by decide +kernel) (sb_165_0 hj) (so_if (off := 10) (tgt := 14) (by decide +kernel) (by decide) rfl (sb_188_14 hj) (so_iload_n (f := 2) (by decide +kernel) rfl (so_callS (by decide +kernel) kcf_165 rfl kw_540 kw_541 (by decide +kernel) (sb_165_0 hj) (so_if (off := 5) (tgt := 16) (by decide +kernel) (by decide) rfl (sb_188_16 hj) (sb_188_14 hj))))))
set_option maxRecDepth 20000 in
theorem sb_189_57 {j : AJ} (hj : SJ j) : Sound kM_189 57 (mb_189_57 j) := by
  unfold mb_189_57
  exact so_reti (by decide +kernel) rfl
set_option maxRecDepth 20000 in
theorem sb_189_56 {j : AJ} (hj : SJ j) : Sound kM_189 56 (mb_189_56 j) := by
  unfold mb_189_56
  exact so_iconst (i := 3) (by decide +kernel) (by decide +kernel) (by decide) (sb_189_57 hj)
set_option maxRecDepth 20000 in
theorem sb_189_43 {j : AJ} (hj : SJ j) : Sound kM_189 43 (mb_189_43 j) := by
  unfold mb_189_43
  exact so_aload_n (f := 0) (by decide +kernel) rfl (so_iconst (i := 0) (by decide +kernel) (by decide +kernel) (by decide) (so_iload_n (f := 2) (by decide +kernel) rfl (so_callV (C := RX9) (T := TX9) (N0 := 38) (by decide +kernel) kcf_148 rfl rfl rfl kw_496 kw_497 kw_498 (by decide +kernel) (sb_148_0 hj) (so_if (off := 7) (tgt := 56) (by decide +kernel) (by decide) rfl (sb_189_56 hj) (so_iconst (i := 2) (by decide +kernel) (by decide +kernel) (by decide) (so_goto (off := 4) (tgt := 57) (by decide +kernel) (by decide) (sb_189_57 hj)))))))
set_option maxRecDepth 20000 in
theorem sb_189_42 {j : AJ} (hj : SJ j) : Sound kM_189 42 (mb_189_42 j) := by
  unfold mb_189_42
  exact so_reti (by decide +kernel) rfl
set_option maxRecDepth 20000 in
theorem sb_189_41 {j : AJ} (hj : SJ j) : Sound kM_189 41 (mb_189_41 j) := by
  unfold mb_189_41
  exact so_iconst (i := 1) (by decide +kernel) (by decide +kernel) (by decide) (sb_189_42 hj)
set_option maxRecDepth 20000 in
theorem sb_189_9 {j : AJ} (hj : SJ j) : Sound kM_189 9 (mb_189_9 j) := by
  unfold mb_189_9
  exact so_aload_n (f := 0) (by decide +kernel) rfl (so_callV (C := RX9) (T := TX9) (N0 := 38) (by decide +kernel) kcf_162 rfl rfl rfl kw_537 kw_538 kw_539 (by decide +kernel) (sb_162_0 hj) (so_aload_n (f := 0) (by decide +kernel) rfl (so_iload_n (f := 1) (by decide +kernel) rfl (so_callV (C := RX9) (T := TX9) (N0 := 38) (by decide +kernel) kcf_163 rfl rfl rfl kw_554 kw_555 kw_556 (by decide +kernel) (sb_163_0 hj) (so_istore_n (f := 2) (by decide +kernel) rfl (by decide +kernel) (so_aload_n (f := 0) (by decide +kernel) rfl (so_iload_n (f := 2) (by decide +kernel) rfl (so_iconst (i := 0) (by decide +kernel) (by decide +kernel) (by decide) (so_callV (C := RX9) (T := TX9) (N0 := 38) (by decide +kernel) kcf_148 rfl rfl rfl kw_496 kw_497 kw_498 (by decide +kernel) (sb_148_0 hj) (so_if (off := 18) (tgt := 43) (by decide +kernel) (by decide) rfl (sb_189_43 hj) (so_aload_n (f := 0) (by decide +kernel) rfl (so_iconst (i := 0) (by decide +kernel) (by decide +kernel) (by decide) (so_iload_n (f := 2) (by decide +kernel) rfl (so_callV (C := RX9) (T := TX9) (N0 := 38) (by decide +kernel) kcf_148 rfl rfl rfl kw_496 kw_497 kw_498 (by decide +kernel) (sb_148_0 hj) (so_if (off := 7) (tgt := 41) (by decide +kernel) (by decide) rfl (sb_189_41 hj) (so_iconst (i := 0) (by decide +kernel) (by decide +kernel) (by decide) (so_goto (off := 4) (tgt := 42) (by decide +kernel) (by decide) (sb_189_42 hj))))))))))))))))))
set_option maxRecDepth 20000 in
theorem sb_189_0 {j : AJ} (hj : SJ j) : Sound kM_189 0 (mb_189_0 j) := by
  unfold mb_189_0
  exact so_iload_n (f := 1) (by decide +kernel) rfl (so_callS (by decide +kernel) kcf_165 rfl kw_540 kw_541 (by decide +kernel) (sb_165_0 hj) (so_if (off := 5) (tgt := 9) (by decide +kernel) (by decide) rfl (sb_189_9 hj) (so_iconst (i := -1) (by decide +kernel) (by decide +kernel) (by decide) (so_reti (by decide +kernel) rfl))))
set_option maxRecDepth 20000 in
theorem sb_190_59 {j : AJ} (hj : SJ j) : Sound kM_190 59 (mb_190_59 j) := by
  unfold mb_190_59
  exact so_reti (by decide +kernel) rfl
set_option maxRecDepth 20000 in
theorem sb_190_53 {j : AJ} (hj : SJ j) : Sound kM_190 53 (mb_190_53 j) := by
  unfold mb_190_53
  exact so_aload_n (f := 0) (by decide +kernel) rfl (so_get (C := RX9) (T := TX9) (N := 38) (by decide +kernel) rfl kin_9 (by decide) kw_469 (b := true) rfl (fun _ => rfl) (so_iload_n (f := 3) (by decide +kernel) rfl (so_ialdU (by decide +kernel) (sb_190_59 hj))))
set_option maxRecDepth 20000 in
theorem sb_190_39 {j : AJ} (hj : SJ j) : Sound kM_190 39 (mb_190_39 j) := by
  unfold mb_190_39
  exact so_iload_n (f := 2) (by decide +kernel) rfl (so_if (off := 13) (tgt := 53) (by decide +kernel) (by decide) rfl (sb_190_53 hj) (so_aload_n (f := 0) (by decide +kernel) rfl (so_get (C := RX9) (T := TX9) (N := 38) (by decide +kernel) rfl kin_9 (by decide) kw_468 (b := true) rfl (fun _ => rfl) (so_iload_n (f := 3) (by decide +kernel) rfl (so_lald (by decide +kernel) (so_l2i (by decide +kernel) (so_goto (off := 9) (tgt := 59) (by decide +kernel) (by decide) (sb_190_59 hj))))))))
set_option maxRecDepth 20000 in
theorem sb_190_19 {j : AJ} (hj : SJ j) : Sound kM_190 19 (mb_190_19 j) := by
  unfold mb_190_19
  exact so_aload_n (f := 0) (by decide +kernel) rfl (so_iload_n (f := 1) (by decide +kernel) rfl (so_callV (C := RX9) (T := TX9) (N0 := 38) (by decide +kernel) kcf_183 rfl rfl rfl kw_579 kw_580 kw_581 (by decide +kernel) (sb_183_0 hj) (so_istore_n (f := 3) (by decide +kernel) rfl (by decide +kernel) (so_aload_n (f := 0) (by decide +kernel) rfl (so_get (C := RX9) (T := TX9) (N := 38) (by decide +kernel) rfl kin_9 (by decide) kw_467 (b := true) rfl (fun _ => rfl) (so_iload_n (f := 3) (by decide +kernel) rfl (so_zald (by decide +kernel) (so_if (off := 8) (tgt := 39) (by decide +kernel) (by decide) rfl (sb_190_39 hj) (so_ldci (i := 241) (by decide +kernel) kw_572 (by decide) (so_goto (off := 23) (tgt := 59) (by decide +kernel) (by decide) (sb_190_59 hj)))))))))))
set_option maxRecDepth 20000 in
theorem sb_190_16 {j : AJ} (hj : SJ j) : Sound kM_190 16 (mb_190_16 j) := by
  unfold mb_190_16
  exact so_ldci (i := 241) (by decide +kernel) kw_572 (by decide) (so_reti (by decide +kernel) rfl)
set_option maxRecDepth 20000 in
theorem sb_190_0 {j : AJ} (hj : SJ j) : Sound kM_190 0 (mb_190_0 j) := by
  unfold mb_190_0
  exact so_iload_n (f := 1) (by decide +kernel) rfl (so_callS (by decide +kernel) kcf_165 rfl kw_540 kw_541 (by decide +kernel) (sb_165_0 hj) (so_if (off := 12) (tgt := 16) (by decide +kernel) (by decide) rfl (sb_190_16 hj) (so_iload_n (f := 2) (by decide +kernel) rfl (so_if (off := 8) (tgt := 16) (by decide +kernel) (by decide) rfl (sb_190_16 hj) (so_iload_n (f := 2) (by decide +kernel) rfl (so_iconst (i := 1) (by decide +kernel) (by decide +kernel) (by decide) (so_icmp (off := 6) (tgt := 19) (by decide +kernel) (by decide) rfl (sb_190_19 hj) (sb_190_16 hj))))))))
set_option maxRecDepth 20000 in
theorem sb_191_64 {j : AJ} (hj : SJ j) : Sound kM_191 64 (mb_191_64 j) := by
  unfold mb_191_64
  exact so_reti (by decide +kernel) rfl
set_option maxRecDepth 20000 in
theorem sb_191_58 {j : AJ} (hj : SJ j) : Sound kM_191 58 (mb_191_58 j) := by
  unfold mb_191_58
  exact so_iload_n (f := 3) (by decide +kernel) rfl (so_iload (by decide +kernel) (so_subU (by decide +kernel) (so_iconst (i := 2) (by decide +kernel) (by decide +kernel) (by decide) (so_idiv (by decide +kernel) (sb_191_64 hj)))))
set_option maxRecDepth 20000 in
theorem sb_191_46 {j : AJ} (hj : SJ j) : Sound kM_191 46 (mb_191_46 j) := by
  unfold mb_191_46
  exact so_istore (by decide +kernel) (by decide +kernel) (so_iload_n (f := 2) (by decide +kernel) rfl (so_iconst (i := 1) (by decide +kernel) (by decide +kernel) (by decide) (so_icmp (off := 8) (tgt := 58) (by decide +kernel) (by decide) rfl (sb_191_58 hj) (so_iload (by decide +kernel) (so_goto (off := 9) (tgt := 64) (by decide +kernel) (by decide) (sb_191_64 hj))))))
set_option maxRecDepth 20000 in
theorem sb_191_45 {j : AJ} (hj : SJ j) : Sound kM_191 45 (mb_191_45 j) := by
  unfold mb_191_45
  exact so_iconst (i := 0) (by decide +kernel) (by decide +kernel) (by decide) (sb_191_46 hj)
set_option maxRecDepth 20000 in
theorem sb_191_28 {j : AJ} (hj : SJ j) : Sound kM_191 28 (mb_191_28 j) := by
  unfold mb_191_28
  exact so_aload_n (f := 0) (by decide +kernel) rfl (so_iload_n (f := 1) (by decide +kernel) rfl (so_callV (C := RX9) (T := TX9) (N0 := 38) (by decide +kernel) kcf_185 rfl rfl rfl kw_573 kw_574 kw_575 (by decide +kernel) (sb_185_0 hj) (so_istore_n (f := 3) (by decide +kernel) rfl (by decide +kernel) (so_iload_n (f := 3) (by decide +kernel) rfl (so_iconst (i := 1) (by decide +kernel) (by decide +kernel) (by decide) (so_iand (by decide +kernel) (so_iconst (i := 1) (by decide +kernel) (by decide +kernel) (by decide) (so_icmp (off := 7) (tgt := 45) (by decide +kernel) (by decide) rfl (sb_191_45 hj) (so_iconst (i := 1) (by decide +kernel) (by decide +kernel) (by decide) (so_goto (off := 4) (tgt := 46) (by decide +kernel) (by decide) (sb_191_46 hj)))))))))))
set_option maxRecDepth 20000 in
theorem sb_191_25 {j : AJ} (hj : SJ j) : Sound kM_191 25 (mb_191_25 j) := by
  unfold mb_191_25
  exact so_ldci (i := 241) (by decide +kernel) kw_572 (by decide) (so_reti (by decide +kernel) rfl)
set_option maxRecDepth 20000 in
theorem sb_191_0 {j : AJ} (hj : SJ j) : Sound kM_191 0 (mb_191_0 j) := by
  unfold mb_191_0
  exact so_iload_n (f := 1) (by decide +kernel) rfl (so_callS (by decide +kernel) kcf_165 rfl kw_540 kw_541 (by decide +kernel) (sb_165_0 hj) (so_if (off := 21) (tgt := 25) (by decide +kernel) (by decide) rfl (sb_191_25 hj) (so_iload_n (f := 2) (by decide +kernel) rfl (so_if (off := 17) (tgt := 25) (by decide +kernel) (by decide) rfl (sb_191_25 hj) (so_iload_n (f := 2) (by decide +kernel) rfl (so_iconst (i := 1) (by decide +kernel) (by decide +kernel) (by decide) (so_icmp (off := 12) (tgt := 25) (by decide +kernel) (by decide) rfl (sb_191_25 hj) (so_aload_n (f := 0) (by decide +kernel) rfl (so_iload_n (f := 1) (by decide +kernel) rfl (so_callV (C := RX9) (T := TX9) (N0 := 38) (by decide +kernel) kcf_186 rfl rfl rfl kw_582 kw_583 kw_584 (by decide +kernel) (sb_186_0 hj) (so_iconst (i := 3) (by decide +kernel) (by decide +kernel) (by decide) (so_icmp (off := 6) (tgt := 28) (by decide +kernel) (by decide) rfl (sb_191_28 hj) (sb_191_25 hj)))))))))))))
set_option maxRecDepth 20000 in
theorem sb_192_61 {j : AJ} (hj : SJ j) : Sound kM_192 61 (mb_192_61 j) := by
  unfold mb_192_61
  exact so_reti (by decide +kernel) rfl
set_option maxRecDepth 20000 in
theorem sb_192_54 {j : AJ} (hj : SJ j) : Sound kM_192 54 (mb_192_54 j) := by
  unfold mb_192_54
  exact so_aload_n (f := 0) (by decide +kernel) rfl (so_get (C := RX9) (T := TX9) (N := 38) (by decide +kernel) rfl kin_9 (by decide) kw_471 (b := true) rfl (fun _ => rfl) (so_iload (by decide +kernel) (so_ialdU (by decide +kernel) (sb_192_61 hj))))
set_option maxRecDepth 20000 in
theorem sb_192_28 {j : AJ} (hj : SJ j) : Sound kM_192 28 (mb_192_28 j) := by
  unfold mb_192_28
  exact so_iconst (i := 2) (by decide +kernel) (by decide +kernel) (by decide) (so_aload_n (f := 0) (by decide +kernel) rfl (so_iload_n (f := 1) (by decide +kernel) rfl (so_callV (C := RX9) (T := TX9) (N0 := 38) (by decide +kernel) kcf_183 rfl rfl rfl kw_579 kw_580 kw_581 (by decide +kernel) (sb_183_0 hj) (so_mulU (by decide +kernel) (so_iload_n (f := 2) (by decide +kernel) rfl (so_addU (by decide +kernel) (so_istore (by decide +kernel) (by decide +kernel) (so_iload_n (f := 3) (by decide +kernel) rfl (so_if (off := 14) (tgt := 54) (by decide +kernel) (by decide) rfl (sb_192_54 hj) (so_aload_n (f := 0) (by decide +kernel) rfl (so_get (C := RX9) (T := TX9) (N := 38) (by decide +kernel) rfl kin_9 (by decide) kw_470 (b := true) rfl (fun _ => rfl) (so_iload (by decide +kernel) (so_lald (by decide +kernel) (so_l2i (by decide +kernel) (so_goto (off := 10) (tgt := 61) (by decide +kernel) (by decide) (sb_192_61 hj))))))))))))))))
set_option maxRecDepth 20000 in
theorem sb_192_25 {j : AJ} (hj : SJ j) : Sound kM_192 25 (mb_192_25 j) := by
  unfold mb_192_25
  exact so_ldci (i := 241) (by decide +kernel) kw_572 (by decide) (so_reti (by decide +kernel) rfl)
set_option maxRecDepth 20000 in
theorem sb_192_0 {j : AJ} (hj : SJ j) : Sound kM_192 0 (mb_192_0 j) := by
  unfold mb_192_0
  exact so_iload_n (f := 1) (by decide +kernel) rfl (so_callS (by decide +kernel) kcf_165 rfl kw_540 kw_541 (by decide +kernel) (sb_165_0 hj) (so_if (off := 21) (tgt := 25) (by decide +kernel) (by decide) rfl (sb_192_25 hj) (so_iload_n (f := 2) (by decide +kernel) rfl (so_if (off := 17) (tgt := 25) (by decide +kernel) (by decide) rfl (sb_192_25 hj) (so_iload_n (f := 2) (by decide +kernel) rfl (so_iconst (i := 1) (by decide +kernel) (by decide +kernel) (by decide) (so_icmp (off := 12) (tgt := 25) (by decide +kernel) (by decide) rfl (sb_192_25 hj) (so_iload_n (f := 3) (by decide +kernel) rfl (so_if (off := 8) (tgt := 25) (by decide +kernel) (by decide) rfl (sb_192_25 hj) (so_iload_n (f := 3) (by decide +kernel) rfl (so_iconst (i := 1) (by decide +kernel) (by decide +kernel) (by decide) (so_icmp (off := 6) (tgt := 28) (by decide +kernel) (by decide) rfl (sb_192_28 hj) (sb_192_25 hj)))))))))))))
set_option maxRecDepth 20000 in
theorem sb_193_80 {j : AJ} (hj : SJ j) : Sound kM_193 80 (mb_193_80 j) := by
  unfold mb_193_80
  exact so_iload_n (f := 2) (by decide +kernel) rfl (so_reti (by decide +kernel) rfl)
set_option maxRecDepth 20000 in
theorem sb_193_74 {j : AJ} (hj : SJ j) : Sound kM_193 74 (mb_193_74 j) := by
  unfold mb_193_74
  exact so_iinc (z := 1) (by decide +kernel) (by decide +kernel) (by decide) (by decide +kernel) (so_goto (off := -73) (tgt := 4) (by decide +kernel) (by decide) (hj 148 _ _ rfl))
set_option maxRecDepth 20000 in
theorem sb_193_68 {j : AJ} (hj : SJ j) : Sound kM_193 68 (mb_193_68 j) := by
  unfold mb_193_68
  exact so_iinc (z := 1) (by decide +kernel) (by decide +kernel) (by decide) (by decide +kernel) (so_goto (off := -58) (tgt := 13) (by decide +kernel) (by decide) (hj 147 _ _ rfl))
set_option maxRecDepth 20000 in
theorem sb_193_52 {j : AJ} (hj : SJ j) : Sound kM_193 52 (mb_193_52 j) := by
  unfold mb_193_52
  exact so_aload_n (f := 0) (by decide +kernel) rfl (so_get (C := RX9) (T := TX9) (N := 38) (by decide +kernel) rfl kin_9 (by decide) kw_472 (b := true) rfl (fun _ => rfl) (so_iload_n (f := 2) (by decide +kernel) rfl (so_bipush (i := 16) (by decide +kernel) (by decide +kernel) (by decide) (so_iload_n (f := 3) (by decide +kernel) rfl (so_imul (by decide +kernel) (so_iload (by decide +kernel) (so_iadd (by decide +kernel) (so_iast (by decide +kernel) (so_iinc (z := 1) (by decide +kernel) (by decide +kernel) (by decide) (by decide +kernel) (sb_193_68 hj))))))))))
set_option maxRecDepth 20000 in
theorem sb_193_13 {j : AJ} (hj : SJ j) : Sound kM_193 13 (mb_193_13 j) := by
  unfold mb_193_13
  exact so_iload (by decide +kernel) (so_bipush (i := 16) (by decide +kernel) (by decide +kernel) (by decide) (so_icmp (off := 57) (tgt := 74) (by decide +kernel) (by decide) rfl (sb_193_74 hj) (so_iload_n (f := 1) (by decide +kernel) rfl (so_iload_n (f := 3) (by decide +kernel) rfl (so_sa1 (so_ishr (by decide +kernel) (so_iconst (i := 1) (by decide +kernel) (by decide +kernel) (by decide) (so_iand (by decide +kernel) (so_iconst (i := 1) (by decide +kernel) (by decide +kernel) (by decide) (so_icmp (off := 42) (tgt := 68) (by decide +kernel) (by decide) rfl (sb_193_68 hj) (so_aload_n (f := 0) (by decide +kernel) rfl (so_get (C := RX9) (T := TX9) (N := 38) (by decide +kernel) rfl kin_9 (by decide) kw_442 (b := true) rfl (fun _ => rfl) (so_iload_n (f := 3) (by decide +kernel) rfl (so_iald (by decide +kernel) (so_iload (by decide +kernel) (so_callS (by decide +kernel) kcf_137 rfl kw_482 kw_483 (by decide +kernel) (sb_137_0 hj) (so_if (off := 28) (tgt := 68) (by decide +kernel) (by decide) rfl (sb_193_68 hj) (so_iload_n (f := 2) (by decide +kernel) rfl (so_bipush (i := 12) (by decide +kernel) (by decide +kernel) (by decide) (so_icmp (off := 6) (tgt := 52) (by decide +kernel) (by decide) rfl (sb_193_52 hj) (so_bipush (i := 13) (by decide +kernel) (by decide +kernel) (by decide) (so_reti (by decide +kernel) rfl))))))))))))))))))))))
set_option maxRecDepth 20000 in
theorem sb_193_4 {j : AJ} (hj : SJ j) : Sound kM_193 4 (mb_193_4 j) := by
  unfold mb_193_4
  exact so_iload_n (f := 3) (by decide +kernel) rfl (so_bipush (i := 6) (by decide +kernel) (by decide +kernel) (by decide) (so_icmp (off := 73) (tgt := 80) (by decide +kernel) (by decide) rfl (sb_193_80 hj) (so_iconst (i := 0) (by decide +kernel) (by decide +kernel) (by decide) (so_istore (by decide +kernel) (by decide +kernel) (sb_193_13 hj)))))
set_option maxRecDepth 20000 in
theorem sb_193_0 {j : AJ} (hj : SJ j) : Sound kM_193 0 (mb_193_0 j) := by
  unfold mb_193_0
  exact so_iconst (i := 0) (by decide +kernel) (by decide +kernel) (by decide) (so_istore_n (f := 2) (by decide +kernel) rfl (by decide +kernel) (so_iconst (i := 0) (by decide +kernel) (by decide +kernel) (by decide) (so_istore_n (f := 3) (by decide +kernel) rfl (by decide +kernel) (sb_193_4 hj))))
set_option maxRecDepth 20000 in
theorem sc_194_114 {j : AJ} (hj : SJ j) : Sound kM_194 114 (mc_194_114 j) := by
  unfold mc_194_114
  exact so_iconst (i := -1) (by decide +kernel) (by decide +kernel) (by decide) (so_reti (by decide +kernel) rfl)
set_option maxRecDepth 20000 in
theorem sb_194_114 {j : AJ} (hj : SJ j) : Sound kM_194 114 (mb_194_114 j) := by
  refine so_weak (sc_194_114 hj) (fun L S h r q0 => ?_)
  obtain ⟨c0, L0_, rfl, q1⟩ := w_C_some q0
  obtain ⟨i1, L1_, rfl, q2⟩ := w_I_some q1
  obtain ⟨i2, L2_, rfl, q3⟩ := w_I_some q2
  obtain ⟨i3, L3_, rfl, q4⟩ := w_I_some q3
  obtain ⟨i4, L4_, rfl, q5⟩ := w_I_some q4
  obtain ⟨i5, L5_, rfl, q6⟩ := w_I_some q5
  obtain ⟨i6, L6_, rfl, q7⟩ := w_I_some q6
  obtain ⟨i7, L7_, rfl, q8⟩ := w_I_some q7
  obtain ⟨rfl, q9⟩ := w_0_some q8
  obtain ⟨rfl, q10⟩ := a_nil_some q9
  exact q10
set_option maxRecDepth 20000 in
theorem sc_194_108 {j : AJ} (hj : SJ j) : Sound kM_194 108 (mc_194_108 j) := by
  unfold mc_194_108
  exact so_iinc (z := 1) (by decide +kernel) (by decide +kernel) (by decide) (by decide +kernel) (so_goto (off := -57) (tgt := 54) (by decide +kernel) (by decide) (hj 149 _ _ rfl))
set_option maxRecDepth 20000 in
theorem sb_194_108 {j : AJ} (hj : SJ j) : Sound kM_194 108 (mb_194_108 j) := by
  refine so_weak (sc_194_108 hj) (fun L S h r q0 => ?_)
  obtain ⟨c0, L0_, rfl, q1⟩ := w_C_some q0
  obtain ⟨i1, L1_, rfl, q2⟩ := w_I_some q1
  obtain ⟨i2, L2_, rfl, q3⟩ := w_I_some q2
  obtain ⟨i3, L3_, rfl, q4⟩ := w_I_some q3
  obtain ⟨i4, L4_, rfl, q5⟩ := w_I_some q4
  obtain ⟨i5, L5_, rfl, q6⟩ := w_I_some q5
  obtain ⟨i6, L6_, rfl, q7⟩ := w_I_some q6
  obtain ⟨i7, L7_, rfl, q8⟩ := w_I_some q7
  obtain ⟨rfl, q9⟩ := w_0_some q8
  obtain ⟨rfl, q10⟩ := a_nil_some q9
  exact q10
set_option maxRecDepth 20000 in
theorem sc_194_54 {j : AJ} (hj : SJ j) : Sound kM_194 54 (mc_194_54 j) := by
  unfold mc_194_54
  exact so_iload (by decide +kernel) (so_iload_n (f := 3) (by decide +kernel) rfl (so_icmp (off := 57) (tgt := 114) (by decide +kernel) (by decide) rfl (sb_194_114 hj) (so_iload (by decide +kernel) (so_bipush (i := 16) (by decide +kernel) (by decide +kernel) (by decide) (so_idiv (by decide +kernel) (so_iload (by decide +kernel) (so_bipush (i := 16) (by decide +kernel) (by decide +kernel) (by decide) (so_idiv (by decide +kernel) (so_icmp (off := 44) (tgt := 114) (by decide +kernel) (by decide) rfl (sb_194_114 hj) (so_aload_n (f := 0) (by decide +kernel) rfl (so_get (C := RX9) (T := TX9) (N := 38) (by decide +kernel) rfl kin_9 (by decide) kw_472 (b := true) rfl (fun _ => rfl) (so_iload (by decide +kernel) (so_iald (by decide +kernel) (so_iload (by decide +kernel) (so_icmp (off := 26) (tgt := 108) (by decide +kernel) (by decide) rfl (sb_194_108 hj) (so_iload_n (f := 1) (by decide +kernel) rfl (so_iload (by decide +kernel) (so_ishr (by decide +kernel) (so_iconst (i := 1) (by decide +kernel) (by decide +kernel) (by decide) (so_iand (by decide +kernel) (so_iconst (i := 1) (by decide +kernel) (by decide +kernel) (by decide) (so_icmp (off := 16) (tgt := 108) (by decide +kernel) (by decide) rfl (sb_194_108 hj) (so_iload_n (f := 1) (by decide +kernel) rfl (so_iconst (i := 1) (by decide +kernel) (by decide +kernel) (by decide) (so_iload_n (f := 2) (by decide +kernel) rfl (so_ishl (by decide +kernel) (so_iconst (i := 1) (by decide +kernel) (by decide +kernel) (by decide) (so_iload (by decide +kernel) (so_ishl (by decide +kernel) (so_ior (by decide +kernel) (so_iconst (i := -1) (by decide +kernel) (by decide +kernel) (by decide) (so_ixor (by decide +kernel) (so_iand (by decide +kernel) (so_reti (by decide +kernel) rfl))))))))))))))))))))))))))))))))))
set_option maxRecDepth 20000 in
theorem sb_194_54 {j : AJ} (hj : SJ j) : Sound kM_194 54 (mb_194_54 j) := by
  refine so_weak (sc_194_54 hj) (fun L S h r q0 => ?_)
  obtain ⟨c0, L0_, rfl, q1⟩ := w_C_some q0
  obtain ⟨i1, L1_, rfl, q2⟩ := w_I_some q1
  obtain ⟨i2, L2_, rfl, q3⟩ := w_I_some q2
  obtain ⟨i3, L3_, rfl, q4⟩ := w_I_some q3
  obtain ⟨i4, L4_, rfl, q5⟩ := w_I_some q4
  obtain ⟨i5, L5_, rfl, q6⟩ := w_I_some q5
  obtain ⟨i6, L6_, rfl, q7⟩ := w_I_some q6
  obtain ⟨i7, L7_, rfl, q8⟩ := w_I_some q7
  obtain ⟨rfl, q9⟩ := w_0_some q8
  obtain ⟨rfl, q10⟩ := a_nil_some q9
  exact q10
set_option maxRecDepth 20000 in
theorem sc_194_47 {j : AJ} (hj : SJ j) : Sound kM_194 47 (mc_194_47 j) := by
  unfold mc_194_47
  exact so_istore (by decide +kernel) (by decide +kernel) (so_iload_n (f := 2) (by decide +kernel) rfl (so_iconst (i := 1) (by decide +kernel) (by decide +kernel) (by decide) (so_iadd (by decide +kernel) (so_istore (by decide +kernel) (by decide +kernel) (sb_194_54 hj)))))
set_option maxRecDepth 20000 in
theorem sb_194_47 {j : AJ} (hj : SJ j) : Sound kM_194 47 (mb_194_47 j) := by
  refine so_weak (sc_194_47 hj) (fun L S h r q0 => ?_)
  obtain ⟨c0, L0_, rfl, q1⟩ := w_C_some q0
  obtain ⟨i1, L1_, rfl, q2⟩ := w_I_some q1
  obtain ⟨i2, L2_, rfl, q3⟩ := w_I_some q2
  obtain ⟨i3, L3_, rfl, q4⟩ := w_I_some q3
  obtain ⟨i4, L4_, rfl, q5⟩ := w_I_some q4
  obtain ⟨i5, L5_, rfl, q6⟩ := w_I_some q5
  obtain ⟨L6_, rfl, q7⟩ := w_N_some q6
  obtain ⟨L7_, rfl, q8⟩ := w_N_some q7
  obtain ⟨rfl, q9⟩ := w_0_some q8
  obtain ⟨s0, S0_, rfl, q10⟩ := a_popI_some q9
  obtain ⟨rfl, q11⟩ := a_nil_some q10
  exact q11
set_option maxRecDepth 20000 in
theorem sc_194_43 {j : AJ} (hj : SJ j) : Sound kM_194 43 (mc_194_43 j) := by
  unfold mc_194_43
  exact so_iload (by decide +kernel) (so_iconst (i := 4) (by decide +kernel) (by decide +kernel) (by decide) (so_iadd (by decide +kernel) (sb_194_47 hj)))
set_option maxRecDepth 20000 in
theorem sb_194_43 {j : AJ} (hj : SJ j) : Sound kM_194 43 (mb_194_43 j) := by
  refine so_weak (sc_194_43 hj) (fun L S h r q0 => ?_)
  obtain ⟨c0, L0_, rfl, q1⟩ := w_C_some q0
  obtain ⟨i1, L1_, rfl, q2⟩ := w_I_some q1
  obtain ⟨i2, L2_, rfl, q3⟩ := w_I_some q2
  obtain ⟨i3, L3_, rfl, q4⟩ := w_I_some q3
  obtain ⟨i4, L4_, rfl, q5⟩ := w_I_some q4
  obtain ⟨i5, L5_, rfl, q6⟩ := w_I_some q5
  obtain ⟨L6_, rfl, q7⟩ := w_N_some q6
  obtain ⟨L7_, rfl, q8⟩ := w_N_some q7
  obtain ⟨rfl, q9⟩ := w_0_some q8
  obtain ⟨rfl, q10⟩ := a_nil_some q9
  exact q10
set_option maxRecDepth 20000 in
theorem sc_194_31 {j : AJ} (hj : SJ j) : Sound kM_194 31 (mc_194_31 j) := by
  unfold mc_194_31
  exact so_iload (by decide +kernel) (so_if (off := 10) (tgt := 43) (by decide +kernel) (by decide) rfl (sb_194_43 hj) (so_iload (by decide +kernel) (so_iconst (i := 1) (by decide +kernel) (by decide +kernel) (by decide) (so_iadd (by decide +kernel) (so_goto (off := 7) (tgt := 47) (by decide +kernel) (by decide) (sb_194_47 hj))))))
set_option maxRecDepth 20000 in
theorem sb_194_31 {j : AJ} (hj : SJ j) : Sound kM_194 31 (mb_194_31 j) := by
  refine so_weak (sc_194_31 hj) (fun L S h r q0 => ?_)
  obtain ⟨c0, L0_, rfl, q1⟩ := w_C_some q0
  obtain ⟨i1, L1_, rfl, q2⟩ := w_I_some q1
  obtain ⟨i2, L2_, rfl, q3⟩ := w_I_some q2
  obtain ⟨i3, L3_, rfl, q4⟩ := w_I_some q3
  obtain ⟨i4, L4_, rfl, q5⟩ := w_I_some q4
  obtain ⟨i5, L5_, rfl, q6⟩ := w_I_some q5
  obtain ⟨L6_, rfl, q7⟩ := w_N_some q6
  obtain ⟨L7_, rfl, q8⟩ := w_N_some q7
  obtain ⟨rfl, q9⟩ := w_0_some q8
  obtain ⟨rfl, q10⟩ := a_nil_some q9
  exact q10
set_option maxRecDepth 20000 in
theorem sc_194_29 {j : AJ} (hj : SJ j) : Sound kM_194 29 (mc_194_29 j) := by
  unfold mc_194_29
  exact so_iconst (i := -1) (by decide +kernel) (by decide +kernel) (by decide) (so_reti (by decide +kernel) rfl)
set_option maxRecDepth 20000 in
theorem sb_194_29 {j : AJ} (hj : SJ j) : Sound kM_194 29 (mb_194_29 j) := by
  refine so_weak (sc_194_29 hj) (fun L S h r q0 => ?_)
  obtain ⟨c0, L0_, rfl, q1⟩ := w_C_some q0
  obtain ⟨i1, L1_, rfl, q2⟩ := w_I_some q1
  obtain ⟨i2, L2_, rfl, q3⟩ := w_I_some q2
  obtain ⟨i3, L3_, rfl, q4⟩ := w_I_some q3
  obtain ⟨i4, L4_, rfl, q5⟩ := w_I_some q4
  obtain ⟨i5, L5_, rfl, q6⟩ := w_I_some q5
  obtain ⟨L6_, rfl, q7⟩ := w_N_some q6
  obtain ⟨L7_, rfl, q8⟩ := w_N_some q7
  obtain ⟨rfl, q9⟩ := w_0_some q8
  obtain ⟨rfl, q10⟩ := a_nil_some q9
  exact q10
set_option maxRecDepth 20000 in
theorem sc_194_0 {j : AJ} (hj : SJ j) : Sound kM_194 0 (mc_194_0 j) := by
  unfold mc_194_0
  exact so_aload_n (f := 0) (by decide +kernel) rfl (so_get (C := RX9) (T := TX9) (N := 38) (by decide +kernel) rfl kin_9 (by decide) kw_472 (b := true) rfl (fun _ => rfl) (so_iload_n (f := 2) (by decide +kernel) rfl (so_iald (by decide +kernel) (so_istore (by decide +kernel) (by decide +kernel) (so_iload_n (f := 1) (by decide +kernel) rfl (so_iload_n (f := 2) (by decide +kernel) rfl (so_ishr (by decide +kernel) (so_iconst (i := 1) (by decide +kernel) (by decide +kernel) (by decide) (so_iand (by decide +kernel) (so_if (off := 16) (tgt := 29) (by decide +kernel) (by decide) rfl (sb_194_29 hj) (so_iload (by decide +kernel) (so_if (off := 13) (tgt := 31) (by decide +kernel) (by decide) rfl (sb_194_31 hj) (so_iload (by decide +kernel) (so_iconst (i := 4) (by decide +kernel) (by decide +kernel) (by decide) (so_irem (by decide +kernel) (so_iconst (i := 3) (by decide +kernel) (by decide +kernel) (by decide) (so_icmp (off := 5) (tgt := 31) (by decide +kernel) (by decide) rfl (sb_194_31 hj) (sb_194_29 hj))))))))))))))))))
set_option maxRecDepth 20000 in
theorem sb_194_0 {j : AJ} (hj : SJ j) : Sound kM_194 0 (mb_194_0 j) := by
  refine so_weak (sc_194_0 hj) (fun L S h r q0 => ?_)
  obtain ⟨c0, L0_, rfl, q1⟩ := w_C_some q0
  obtain ⟨i1, L1_, rfl, q2⟩ := w_I_some q1
  obtain ⟨i2, L2_, rfl, q3⟩ := w_I_some q2
  obtain ⟨i3, L3_, rfl, q4⟩ := w_I_some q3
  obtain ⟨i4, L4_, rfl, q5⟩ := w_I_some q4
  obtain ⟨L5_, rfl, q6⟩ := w_N_some q5
  obtain ⟨L6_, rfl, q7⟩ := w_N_some q6
  obtain ⟨L7_, rfl, q8⟩ := w_N_some q7
  obtain ⟨rfl, q9⟩ := w_0_some q8
  obtain ⟨rfl, q10⟩ := a_nil_some q9
  exact q10
set_option maxRecDepth 20000 in
theorem sc_195_102 {j : AJ} (hj : SJ j) : Sound kM_195 102 (mc_195_102 j) := by
  unfold mc_195_102
  exact so_retv (by decide +kernel) rfl
set_option maxRecDepth 20000 in
theorem sb_195_102 {j : AJ} (hj : SJ j) : Sound kM_195 102 (mb_195_102 j) := by
  refine so_weak (sc_195_102 hj) (fun L S h r q0 => ?_)
  obtain ⟨c0, L0_, rfl, q1⟩ := w_C_some q0
  obtain ⟨i1, L1_, rfl, q2⟩ := w_I_some q1
  obtain ⟨i2, L2_, rfl, q3⟩ := w_I_some q2
  obtain ⟨x3, L3_, rfl, q4⟩ := w_X_some q3
  obtain ⟨x4, L4_, rfl, q5⟩ := w_X_some q4
  obtain ⟨x5, L5_, rfl, q6⟩ := w_X_some q5
  obtain ⟨x6, L6_, rfl, q7⟩ := w_X_some q6
  obtain ⟨rfl, q8⟩ := w_0_some q7
  obtain ⟨rfl, q9⟩ := a_nil_some q8
  exact q9
set_option maxRecDepth 20000 in
theorem sc_195_96 {j : AJ} (hj : SJ j) : Sound kM_195 96 (mc_195_96 j) := by
  unfold mc_195_96
  exact so_iinc (z := 1) (by decide +kernel) (by decide +kernel) (by decide) (by decide +kernel) (so_goto (off := -97) (tgt := 2) (by decide +kernel) (by decide) (hj 152 _ _ rfl))
set_option maxRecDepth 20000 in
theorem sb_195_96 {j : AJ} (hj : SJ j) : Sound kM_195 96 (mb_195_96 j) := by
  refine so_weak (sc_195_96 hj) (fun L S h r q0 => ?_)
  obtain ⟨c0, L0_, rfl, q1⟩ := w_C_some q0
  obtain ⟨i1, L1_, rfl, q2⟩ := w_I_some q1
  obtain ⟨i2, L2_, rfl, q3⟩ := w_I_some q2
  obtain ⟨i3, L3_, rfl, q4⟩ := w_I_some q3
  obtain ⟨x4, L4_, rfl, q5⟩ := w_X_some q4
  obtain ⟨x5, L5_, rfl, q6⟩ := w_X_some q5
  obtain ⟨x6, L6_, rfl, q7⟩ := w_X_some q6
  obtain ⟨rfl, q8⟩ := w_0_some q7
  obtain ⟨rfl, q9⟩ := a_nil_some q8
  exact q9
set_option maxRecDepth 20000 in
theorem sc_195_78 {j : AJ} (hj : SJ j) : Sound kM_195 78 (mc_195_78 j) := by
  unfold mc_195_78
  exact so_aload_n (f := 0) (by decide +kernel) rfl (so_get (C := RX9) (T := TX9) (N := 38) (by decide +kernel) rfl kin_9 (by decide) kw_473 (b := true) rfl (fun _ => rfl) (so_iconst (i := 2) (by decide +kernel) (by decide +kernel) (by decide) (so_iload_n (f := 2) (by decide +kernel) rfl (so_imul (by decide +kernel) (so_iload_n (f := 3) (by decide +kernel) rfl (so_iadd (by decide +kernel) (so_iload (by decide +kernel) (so_zast (by decide +kernel) (so_iinc (z := 1) (by decide +kernel) (by decide +kernel) (by decide) (by decide +kernel) (so_goto (off := -82) (tgt := 11) (by decide +kernel) (by decide) (hj 151 _ _ rfl)))))))))))
set_option maxRecDepth 20000 in
theorem sb_195_78 {j : AJ} (hj : SJ j) : Sound kM_195 78 (mb_195_78 j) := by
  refine so_weak (sc_195_78 hj) (fun L S h r q0 => ?_)
  obtain ⟨c0, L0_, rfl, q1⟩ := w_C_some q0
  obtain ⟨i1, L1_, rfl, q2⟩ := w_I_some q1
  obtain ⟨i2, L2_, rfl, q3⟩ := w_I_some q2
  obtain ⟨i3, L3_, rfl, q4⟩ := w_I_some q3
  obtain ⟨i4, L4_, rfl, q5⟩ := w_I_some q4
  obtain ⟨i5, L5_, rfl, q6⟩ := w_I_some q5
  obtain ⟨x6, L6_, rfl, q7⟩ := w_X_some q6
  obtain ⟨rfl, q8⟩ := w_0_some q7
  obtain ⟨rfl, q9⟩ := a_nil_some q8
  exact q9
set_option maxRecDepth 20000 in
theorem sc_195_70 {j : AJ} (hj : SJ j) : Sound kM_195 70 (mc_195_70 j) := by
  unfold mc_195_70
  exact so_istore (by decide +kernel) (by decide +kernel) (so_iinc (z := 1) (by decide +kernel) (by decide +kernel) (by decide) (by decide +kernel) (so_goto (off := -53) (tgt := 22) (by decide +kernel) (by decide) (hj 150 _ _ rfl)))
set_option maxRecDepth 20000 in
theorem sb_195_70 {j : AJ} (hj : SJ j) : Sound kM_195 70 (mb_195_70 j) := by
  refine so_weak (sc_195_70 hj) (fun L S h r q0 => ?_)
  obtain ⟨c0, L0_, rfl, q1⟩ := w_C_some q0
  obtain ⟨i1, L1_, rfl, q2⟩ := w_I_some q1
  obtain ⟨i2, L2_, rfl, q3⟩ := w_I_some q2
  obtain ⟨i3, L3_, rfl, q4⟩ := w_I_some q3
  obtain ⟨i4, L4_, rfl, q5⟩ := w_I_some q4
  obtain ⟨i5, L5_, rfl, q6⟩ := w_I_some q5
  obtain ⟨i6, L6_, rfl, q7⟩ := w_I_some q6
  obtain ⟨rfl, q8⟩ := w_0_some q7
  obtain ⟨s0, S0_, rfl, q9⟩ := a_popI_some q8
  obtain ⟨rfl, q10⟩ := a_nil_some q9
  exact q10
set_option maxRecDepth 20000 in
theorem sc_195_69 {j : AJ} (hj : SJ j) : Sound kM_195 69 (mc_195_69 j) := by
  unfold mc_195_69
  exact so_iconst (i := 0) (by decide +kernel) (by decide +kernel) (by decide) (sb_195_70 hj)
set_option maxRecDepth 20000 in
theorem sb_195_69 {j : AJ} (hj : SJ j) : Sound kM_195 69 (mb_195_69 j) := by
  refine so_weak (sc_195_69 hj) (fun L S h r q0 => ?_)
  obtain ⟨c0, L0_, rfl, q1⟩ := w_C_some q0
  obtain ⟨i1, L1_, rfl, q2⟩ := w_I_some q1
  obtain ⟨i2, L2_, rfl, q3⟩ := w_I_some q2
  obtain ⟨i3, L3_, rfl, q4⟩ := w_I_some q3
  obtain ⟨i4, L4_, rfl, q5⟩ := w_I_some q4
  obtain ⟨i5, L5_, rfl, q6⟩ := w_I_some q5
  obtain ⟨i6, L6_, rfl, q7⟩ := w_I_some q6
  obtain ⟨rfl, q8⟩ := w_0_some q7
  obtain ⟨rfl, q9⟩ := a_nil_some q8
  exact q9
set_option maxRecDepth 20000 in
theorem sc_195_65 {j : AJ} (hj : SJ j) : Sound kM_195 65 (mc_195_65 j) := by
  unfold mc_195_65
  exact so_iconst (i := 1) (by decide +kernel) (by decide +kernel) (by decide) (so_goto (off := 4) (tgt := 70) (by decide +kernel) (by decide) (sb_195_70 hj))
set_option maxRecDepth 20000 in
theorem sb_195_65 {j : AJ} (hj : SJ j) : Sound kM_195 65 (mb_195_65 j) := by
  refine so_weak (sc_195_65 hj) (fun L S h r q0 => ?_)
  obtain ⟨c0, L0_, rfl, q1⟩ := w_C_some q0
  obtain ⟨i1, L1_, rfl, q2⟩ := w_I_some q1
  obtain ⟨i2, L2_, rfl, q3⟩ := w_I_some q2
  obtain ⟨i3, L3_, rfl, q4⟩ := w_I_some q3
  obtain ⟨i4, L4_, rfl, q5⟩ := w_I_some q4
  obtain ⟨i5, L5_, rfl, q6⟩ := w_I_some q5
  obtain ⟨i6, L6_, rfl, q7⟩ := w_I_some q6
  obtain ⟨rfl, q8⟩ := w_0_some q7
  obtain ⟨rfl, q9⟩ := a_nil_some q8
  exact q9
set_option maxRecDepth 20000 in
theorem sc_195_22 {j : AJ} (hj : SJ j) : Sound kM_195 22 (mc_195_22 j) := by
  unfold mc_195_22
  exact so_iload (by decide +kernel) (so_iload_n (f := 1) (by decide +kernel) rfl (so_icmp (off := 53) (tgt := 78) (by decide +kernel) (by decide) rfl (sb_195_78 hj) (so_aload_n (f := 0) (by decide +kernel) rfl (so_iload_n (f := 2) (by decide +kernel) rfl (so_iload (by decide +kernel) (so_iload_n (f := 1) (by decide +kernel) rfl (so_iload_n (f := 3) (by decide +kernel) rfl (so_weak (so_callV (C := RX9) (T := TX9) (N0 := 38) (by decide +kernel) kcf_194 rfl rfl rfl kw_585 kw_586 kw_587 (by decide +kernel) (sb_194_0 hj) (so_istore (by decide +kernel) (by decide +kernel) (so_iload (by decide +kernel) (so_if (off := 24) (tgt := 65) (by decide +kernel) (by decide) rfl (sb_195_65 hj) (so_iload (by decide +kernel) (so_if (off := 23) (tgt := 69) (by decide +kernel) (by decide) rfl (sb_195_69 hj) (so_aload_n (f := 0) (by decide +kernel) rfl (so_get (C := RX9) (T := TX9) (N := 38) (by decide +kernel) rfl kin_9 (by decide) kw_473 (b := true) rfl (fun _ => rfl) (so_iconst (i := 2) (by decide +kernel) (by decide +kernel) (by decide) (so_iload (by decide +kernel) (so_imul (by decide +kernel) (so_iconst (i := 1) (by decide +kernel) (by decide +kernel) (by decide) (so_iadd (by decide +kernel) (so_iload_n (f := 3) (by decide +kernel) rfl (so_isub (by decide +kernel) (so_zald (by decide +kernel) (so_if (off := 7) (tgt := 69) (by decide +kernel) (by decide) rfl (sb_195_69 hj) (sb_195_65 hj)))))))))))))))))) (callvE_imp BK_I)))))))))
set_option maxRecDepth 20000 in
theorem sb_195_22 {j : AJ} (hj : SJ j) : Sound kM_195 22 (mb_195_22 j) := by
  refine so_weak (sc_195_22 hj) (fun L S h r q0 => ?_)
  obtain ⟨c0, L0_, rfl, q1⟩ := w_C_some q0
  obtain ⟨i1, L1_, rfl, q2⟩ := w_I_some q1
  obtain ⟨i2, L2_, rfl, q3⟩ := w_I_some q2
  obtain ⟨i3, L3_, rfl, q4⟩ := w_I_some q3
  obtain ⟨i4, L4_, rfl, q5⟩ := w_I_some q4
  obtain ⟨i5, L5_, rfl, q6⟩ := w_I_some q5
  obtain ⟨x6, L6_, rfl, q7⟩ := w_X_some q6
  obtain ⟨rfl, q8⟩ := w_0_some q7
  obtain ⟨rfl, q9⟩ := a_nil_some q8
  exact q9
set_option maxRecDepth 20000 in
theorem sc_195_11 {j : AJ} (hj : SJ j) : Sound kM_195 11 (mc_195_11 j) := by
  unfold mc_195_11
  exact so_iload_n (f := 3) (by decide +kernel) rfl (so_iconst (i := 2) (by decide +kernel) (by decide +kernel) (by decide) (so_icmp (off := 83) (tgt := 96) (by decide +kernel) (by decide) rfl (sb_195_96 hj) (so_iconst (i := 0) (by decide +kernel) (by decide +kernel) (by decide) (so_istore (by decide +kernel) (by decide +kernel) (so_iconst (i := 0) (by decide +kernel) (by decide +kernel) (by decide) (so_istore (by decide +kernel) (by decide +kernel) (sb_195_22 hj)))))))
set_option maxRecDepth 20000 in
theorem sb_195_11 {j : AJ} (hj : SJ j) : Sound kM_195 11 (mb_195_11 j) := by
  refine so_weak (sc_195_11 hj) (fun L S h r q0 => ?_)
  obtain ⟨c0, L0_, rfl, q1⟩ := w_C_some q0
  obtain ⟨i1, L1_, rfl, q2⟩ := w_I_some q1
  obtain ⟨i2, L2_, rfl, q3⟩ := w_I_some q2
  obtain ⟨i3, L3_, rfl, q4⟩ := w_I_some q3
  obtain ⟨x4, L4_, rfl, q5⟩ := w_X_some q4
  obtain ⟨x5, L5_, rfl, q6⟩ := w_X_some q5
  obtain ⟨x6, L6_, rfl, q7⟩ := w_X_some q6
  obtain ⟨rfl, q8⟩ := w_0_some q7
  obtain ⟨rfl, q9⟩ := a_nil_some q8
  exact q9
set_option maxRecDepth 20000 in
theorem sc_195_2 {j : AJ} (hj : SJ j) : Sound kM_195 2 (mc_195_2 j) := by
  unfold mc_195_2
  exact so_iload_n (f := 2) (by decide +kernel) rfl (so_iconst (i := 1) (by decide +kernel) (by decide +kernel) (by decide) (so_iload_n (f := 1) (by decide +kernel) rfl (so_ishl (by decide +kernel) (so_icmp (off := 96) (tgt := 102) (by decide +kernel) (by decide) rfl (sb_195_102 hj) (so_iconst (i := 0) (by decide +kernel) (by decide +kernel) (by decide) (so_istore_n (f := 3) (by decide +kernel) rfl (by decide +kernel) (sb_195_11 hj)))))))
set_option maxRecDepth 20000 in
theorem sb_195_2 {j : AJ} (hj : SJ j) : Sound kM_195 2 (mb_195_2 j) := by
  refine so_weak (sc_195_2 hj) (fun L S h r q0 => ?_)
  obtain ⟨c0, L0_, rfl, q1⟩ := w_C_some q0
  obtain ⟨i1, L1_, rfl, q2⟩ := w_I_some q1
  obtain ⟨i2, L2_, rfl, q3⟩ := w_I_some q2
  obtain ⟨x3, L3_, rfl, q4⟩ := w_X_some q3
  obtain ⟨x4, L4_, rfl, q5⟩ := w_X_some q4
  obtain ⟨x5, L5_, rfl, q6⟩ := w_X_some q5
  obtain ⟨x6, L6_, rfl, q7⟩ := w_X_some q6
  obtain ⟨rfl, q8⟩ := w_0_some q7
  obtain ⟨rfl, q9⟩ := a_nil_some q8
  exact q9
set_option maxRecDepth 20000 in
theorem sc_195_0 {j : AJ} (hj : SJ j) : Sound kM_195 0 (mc_195_0 j) := by
  unfold mc_195_0
  exact so_iconst (i := 0) (by decide +kernel) (by decide +kernel) (by decide) (so_istore_n (f := 2) (by decide +kernel) rfl (by decide +kernel) (sb_195_2 hj))
set_option maxRecDepth 20000 in
theorem sb_195_0 {j : AJ} (hj : SJ j) : Sound kM_195 0 (mb_195_0 j) := by
  refine so_weak (sc_195_0 hj) (fun L S h r q0 => ?_)
  obtain ⟨c0, L0_, rfl, q1⟩ := w_C_some q0
  obtain ⟨i1, L1_, rfl, q2⟩ := w_I_some q1
  obtain ⟨L2_, rfl, q3⟩ := w_N_some q2
  obtain ⟨L3_, rfl, q4⟩ := w_N_some q3
  obtain ⟨L4_, rfl, q5⟩ := w_N_some q4
  obtain ⟨L5_, rfl, q6⟩ := w_N_some q5
  obtain ⟨L6_, rfl, q7⟩ := w_N_some q6
  obtain ⟨rfl, q8⟩ := w_0_some q7
  obtain ⟨rfl, q9⟩ := a_nil_some q8
  exact q9
set_option maxRecDepth 20000 in
theorem sb_196_63 {j : AJ} (hj : SJ j) : Sound kM_196 63 (mb_196_63 j) := by
  unfold mb_196_63
  exact so_reti (by decide +kernel) rfl
set_option maxRecDepth 20000 in
theorem sb_196_62 {j : AJ} (hj : SJ j) : Sound kM_196 62 (mb_196_62 j) := by
  unfold mb_196_62
  exact so_iconst (i := 0) (by decide +kernel) (by decide +kernel) (by decide) (sb_196_63 hj)
set_option maxRecDepth 20000 in
theorem sb_196_36 {j : AJ} (hj : SJ j) : Sound kM_196 36 (mb_196_36 j) := by
  unfold mb_196_36
  exact so_aload_n (f := 0) (by decide +kernel) rfl (so_iload_n (f := 3) (by decide +kernel) rfl (so_callV (C := RX9) (T := TX9) (N0 := 38) (by decide +kernel) kcf_195 rfl rfl rfl kw_588 kw_589 kw_590 (by decide +kernel) (sb_195_0 hj) (so_aload_n (f := 0) (by decide +kernel) rfl (so_get (C := RX9) (T := TX9) (N := 38) (by decide +kernel) rfl kin_9 (by decide) kw_473 (b := true) rfl (fun _ => rfl) (so_iconst (i := 2) (by decide +kernel) (by decide +kernel) (by decide) (so_iconst (i := 1) (by decide +kernel) (by decide +kernel) (by decide) (so_iload_n (f := 3) (by decide +kernel) rfl (so_ishl (by decide +kernel) (so_iconst (i := 1) (by decide +kernel) (by decide +kernel) (by decide) (so_isub (by decide +kernel) (so_imul (by decide +kernel) (so_iload_n (f := 2) (by decide +kernel) rfl (so_iadd (by decide +kernel) (so_zald (by decide +kernel) (so_if (off := 7) (tgt := 62) (by decide +kernel) (by decide) rfl (sb_196_62 hj) (so_iconst (i := 1) (by decide +kernel) (by decide +kernel) (by decide) (so_goto (off := 4) (tgt := 63) (by decide +kernel) (by decide) (sb_196_63 hj))))))))))))))))))
set_option maxRecDepth 20000 in
theorem sb_196_26 {j : AJ} (hj : SJ j) : Sound kM_196 26 (mb_196_26 j) := by
  unfold mb_196_26
  exact so_istore_n (f := 3) (by decide +kernel) rfl (by decide +kernel) (so_iload_n (f := 3) (by decide +kernel) rfl (so_bipush (i := 12) (by decide +kernel) (by decide +kernel) (by decide) (so_icmp (off := 6) (tgt := 36) (by decide +kernel) (by decide) rfl (sb_196_36 hj) (so_bipush (i := -3) (by decide +kernel) (by decide +kernel) (by decide) (so_reti (by decide +kernel) rfl)))))
set_option maxRecDepth 20000 in
theorem sb_196_23 {j : AJ} (hj : SJ j) : Sound kM_196 23 (mb_196_23 j) := by
  unfold mb_196_23
  exact so_callV (C := RX9) (T := TX9) (N0 := 38) (by decide +kernel) kcf_193 rfl rfl rfl kw_591 kw_592 kw_593 (by decide +kernel) (sb_193_0 hj) (sb_196_26 hj)
set_option maxRecDepth 20000 in
theorem sb_196_21 {j : AJ} (hj : SJ j) : Sound kM_196 21 (mb_196_21 j) := by
  unfold mb_196_21
  exact so_aload_n (f := 0) (by decide +kernel) rfl (so_iload_n (f := 1) (by decide +kernel) rfl (sb_196_23 hj))
set_option maxRecDepth 20000 in
theorem sb_196_19 {j : AJ} (hj : SJ j) : Sound kM_196 19 (mb_196_19 j) := by
  unfold mb_196_19
  exact so_iconst (i := -1) (by decide +kernel) (by decide +kernel) (by decide) (so_reti (by decide +kernel) rfl)
set_option maxRecDepth 20000 in
theorem sb_196_0 {j : AJ} (hj : SJ j) : Sound kM_196 0 (mb_196_0 j) := by
  unfold mb_196_0
  exact so_iload_n (f := 1) (by decide +kernel) rfl (so_if (off := 18) (tgt := 19) (by decide +kernel) (by decide) rfl (sb_196_19 hj) (so_iload_n (f := 1) (by decide +kernel) rfl (so_bipush (i := 63) (by decide +kernel) (by decide +kernel) (by decide) (so_icmp (off := 12) (tgt := 19) (by decide +kernel) (by decide) rfl (sb_196_19 hj) (so_iload_n (f := 2) (by decide +kernel) rfl (so_if (off := 8) (tgt := 19) (by decide +kernel) (by decide) rfl (sb_196_19 hj) (so_iload_n (f := 2) (by decide +kernel) rfl (so_iconst (i := 1) (by decide +kernel) (by decide +kernel) (by decide) (so_icmp (off := 5) (tgt := 21) (by decide +kernel) (by decide) rfl (sb_196_21 hj) (sb_196_19 hj))))))))))
set_option maxRecDepth 20000 in
theorem sz_196_63 {j : AJ} (hj : SJ j) : Sound kM_196 63 (mz_196_63 j) := by
  unfold mz_196_63
  exact so_reti (by decide +kernel) rfl
set_option maxRecDepth 20000 in
theorem sz_196_62 {j : AJ} (hj : SJ j) : Sound kM_196 62 (mz_196_62 j) := by
  unfold mz_196_62
  exact so_iconst (i := 0) (by decide +kernel) (by decide +kernel) (by decide) (sz_196_63 hj)
set_option maxRecDepth 20000 in
theorem sz_196_36 {j : AJ} (hj : SJ j) : Sound kM_196 36 (mz_196_36 j) := by
  unfold mz_196_36
  exact so_aload_n (f := 0) (by decide +kernel) rfl (so_iload_n (f := 3) (by decide +kernel) rfl (so_callV (C := RX9) (T := TX9) (N0 := 38) (by decide +kernel) kcf_195 rfl rfl rfl kw_588 kw_589 kw_590 (by decide +kernel) (sb_195_0 hj) (so_aload_n (f := 0) (by decide +kernel) rfl (so_get (C := RX9) (T := TX9) (N := 38) (by decide +kernel) rfl kin_9 (by decide) kw_473 (b := true) rfl (fun _ => rfl) (so_iconst (i := 2) (by decide +kernel) (by decide +kernel) (by decide) (so_iconst (i := 1) (by decide +kernel) (by decide +kernel) (by decide) (so_iload_n (f := 3) (by decide +kernel) rfl (so_ishl (by decide +kernel) (so_iconst (i := 1) (by decide +kernel) (by decide +kernel) (by decide) (so_isub (by decide +kernel) (so_imul (by decide +kernel) (so_iload_n (f := 2) (by decide +kernel) rfl (so_iadd (by decide +kernel) (so_zald (by decide +kernel) (so_if (off := 7) (tgt := 62) (by decide +kernel) (by decide) rfl (sz_196_62 hj) (so_iconst (i := 1) (by decide +kernel) (by decide +kernel) (by decide) (so_goto (off := 4) (tgt := 63) (by decide +kernel) (by decide) (sz_196_63 hj))))))))))))))))))
set_option maxRecDepth 20000 in
theorem sz_196_26 {j : AJ} (hj : SJ j) : Sound kM_196 26 (mz_196_26 j) := by
  unfold mz_196_26
  exact so_istore_n (f := 3) (by decide +kernel) rfl (by decide +kernel) (so_iload_n (f := 3) (by decide +kernel) rfl (so_bipush (i := 12) (by decide +kernel) (by decide +kernel) (by decide) (so_icmp (off := 6) (tgt := 36) (by decide +kernel) (by decide) rfl (sz_196_36 hj) (so_bipush (i := -3) (by decide +kernel) (by decide +kernel) (by decide) (so_reti (by decide +kernel) rfl)))))
set_option maxRecDepth 20000 in
theorem sz_196_21 {j : AJ} (hj : SJ j) : Sound kM_196 21 (mz_196_21 j) := by
  unfold mz_196_21
  exact so_aload_n (f := 0) (by decide +kernel) rfl (so_iload_n (f := 1) (by decide +kernel) rfl (so_stop rfl))
set_option maxRecDepth 20000 in
theorem sz_196_19 {j : AJ} (hj : SJ j) : Sound kM_196 19 (mz_196_19 j) := by
  unfold mz_196_19
  exact so_iconst (i := -1) (by decide +kernel) (by decide +kernel) (by decide) (so_reti (by decide +kernel) rfl)
set_option maxRecDepth 20000 in
theorem sz_196_0 {j : AJ} (hj : SJ j) : Sound kM_196 0 (mz_196_0 j) := by
  unfold mz_196_0
  exact so_iload_n (f := 1) (by decide +kernel) rfl (so_if (off := 18) (tgt := 19) (by decide +kernel) (by decide) rfl (sz_196_19 hj) (so_iload_n (f := 1) (by decide +kernel) rfl (so_bipush (i := 63) (by decide +kernel) (by decide +kernel) (by decide) (so_icmp (off := 12) (tgt := 19) (by decide +kernel) (by decide) rfl (sz_196_19 hj) (so_iload_n (f := 2) (by decide +kernel) rfl (so_if (off := 8) (tgt := 19) (by decide +kernel) (by decide) rfl (sz_196_19 hj) (so_iload_n (f := 2) (by decide +kernel) rfl (so_iconst (i := 1) (by decide +kernel) (by decide +kernel) (by decide) (so_icmp (off := 5) (tgt := 21) (by decide +kernel) (by decide) rfl (sz_196_21 hj) (sz_196_19 hj))))))))))
set_option maxRecDepth 20000 in
theorem pk_196_23 : MK kM_196 kM_193 23 yX9_findFields [true, true] (XV 9) := mk_V (C := RX9) (T := TX9) (N0 := 38) (pad := [none, none, none]) (n := 1) (by decide +kernel) kcf_193 rfl rfl rfl kw_591 kw_592 kw_593
set_option maxRecDepth 20000 in
theorem sb_197_82 {j : AJ} (hj : SJ j) : Sound kM_197 82 (mb_197_82 j) := by
  unfold mb_197_82
  exact so_bipush (i := -4) (by decide +kernel) (by decide +kernel) (by decide) (so_reti (by decide +kernel) rfl)
set_option maxRecDepth 20000 in
theorem sb_197_76 {j : AJ} (hj : SJ j) : Sound kM_197 76 (mb_197_76 j) := by
  unfold mb_197_76
  exact so_iinc (z := 1) (by decide +kernel) (by decide +kernel) (by decide) (by decide +kernel) (so_goto (off := -56) (tgt := 23) (by decide +kernel) (by decide) (hj 153 _ _ rfl))
set_option maxRecDepth 20000 in
theorem sb_197_23 {j : AJ} (hj : SJ j) : Sound kM_197 23 (mb_197_23 j) := by
  unfold mb_197_23
  exact so_iload (by decide +kernel) (so_iload (by decide +kernel) (so_icmp (off := 55) (tgt := 82) (by decide +kernel) (by decide) rfl (sb_197_82 hj) (so_aload_n (f := 0) (by decide +kernel) rfl (so_iconst (i := 1) (by decide +kernel) (by decide +kernel) (by decide) (so_iload (by decide +kernel) (so_ishl (by decide +kernel) (so_iconst (i := 1) (by decide +kernel) (by decide +kernel) (by decide) (so_isub (by decide +kernel) (so_iload (by decide +kernel) (so_iload (by decide +kernel) (so_iload_n (f := 2) (by decide +kernel) rfl (so_callV (C := RX9) (T := TX9) (N0 := 38) (by decide +kernel) kcf_194 rfl rfl rfl kw_585 kw_586 kw_587 (by decide +kernel) (sb_194_0 hj) (so_istore (by decide +kernel) (by decide +kernel) (so_iload (by decide +kernel) (so_if (off := 27) (tgt := 76) (by decide +kernel) (by decide) rfl (sb_197_76 hj) (so_aload_n (f := 0) (by decide +kernel) rfl (so_get (C := RX9) (T := TX9) (N := 38) (by decide +kernel) rfl kin_9 (by decide) kw_473 (b := true) rfl (fun _ => rfl) (so_iconst (i := 2) (by decide +kernel) (by decide +kernel) (by decide) (so_iload (by decide +kernel) (so_imul (by decide +kernel) (so_iconst (i := 1) (by decide +kernel) (by decide +kernel) (by decide) (so_iadd (by decide +kernel) (so_iload_n (f := 2) (by decide +kernel) rfl (so_isub (by decide +kernel) (so_zald (by decide +kernel) (so_if (off := 11) (tgt := 76) (by decide +kernel) (by decide) rfl (sb_197_76 hj) (so_aload_n (f := 0) (by decide +kernel) rfl (so_get (C := RX9) (T := TX9) (N := 38) (by decide +kernel) rfl kin_9 (by decide) kw_472 (b := true) rfl (fun _ => rfl) (so_iload (by decide +kernel) (so_iald (by decide +kernel) (so_reti (by decide +kernel) rfl)))))))))))))))))))))))))))))))
set_option maxRecDepth 20000 in
theorem sb_197_18 {j : AJ} (hj : SJ j) : Sound kM_197 18 (mb_197_18 j) := by
  unfold mb_197_18
  exact so_istore (by decide +kernel) (by decide +kernel) (so_iconst (i := 0) (by decide +kernel) (by decide +kernel) (by decide) (so_istore (by decide +kernel) (by decide +kernel) (sb_197_23 hj)))
set_option maxRecDepth 20000 in
theorem sb_197_15 {j : AJ} (hj : SJ j) : Sound kM_197 15 (mb_197_15 j) := by
  unfold mb_197_15
  exact so_callV (C := RX9) (T := TX9) (N0 := 38) (by decide +kernel) kcf_193 rfl rfl rfl kw_591 kw_592 kw_593 (by decide +kernel) (sb_193_0 hj) (sb_197_18 hj)
set_option maxRecDepth 20000 in
theorem sb_197_13 {j : AJ} (hj : SJ j) : Sound kM_197 13 (mb_197_13 j) := by
  unfold mb_197_13
  exact so_aload_n (f := 0) (by decide +kernel) rfl (so_iload_n (f := 1) (by decide +kernel) rfl (sb_197_15 hj))
set_option maxRecDepth 20000 in
theorem sb_197_6 {j : AJ} (hj : SJ j) : Sound kM_197 6 (mb_197_6 j) := by
  unfold mb_197_6
  exact so_istore_n (f := 3) (by decide +kernel) rfl (by decide +kernel) (so_iload_n (f := 3) (by decide +kernel) rfl (so_if (off := 5) (tgt := 13) (by decide +kernel) (by decide) rfl (sb_197_13 hj) (so_iload_n (f := 3) (by decide +kernel) rfl (so_reti (by decide +kernel) rfl))))
set_option maxRecDepth 20000 in
theorem sb_197_3 {j : AJ} (hj : SJ j) : Sound kM_197 3 (mb_197_3 j) := by
  unfold mb_197_3
  exact so_callV (C := RX9) (T := TX9) (N0 := 38) (by decide +kernel) kcf_196 rfl rfl rfl kw_594 kw_595 kw_596 (by decide +kernel) (sb_196_0 hj) (sb_197_6 hj)
set_option maxRecDepth 20000 in
theorem sb_197_0 {j : AJ} (hj : SJ j) : Sound kM_197 0 (mb_197_0 j) := by
  unfold mb_197_0
  exact so_aload_n (f := 0) (by decide +kernel) rfl (so_iload_n (f := 1) (by decide +kernel) rfl (so_iload_n (f := 2) (by decide +kernel) rfl (sb_197_3 hj)))
set_option maxRecDepth 20000 in
theorem sz_197_82 {j : AJ} (hj : SJ j) : Sound kM_197 82 (mz_197_82 j) := by
  unfold mz_197_82
  exact so_bipush (i := -4) (by decide +kernel) (by decide +kernel) (by decide) (so_reti (by decide +kernel) rfl)
set_option maxRecDepth 20000 in
theorem sz_197_76 {j : AJ} (hj : SJ j) : Sound kM_197 76 (mz_197_76 j) := by
  unfold mz_197_76
  exact so_iinc (z := 1) (by decide +kernel) (by decide +kernel) (by decide) (by decide +kernel) (so_goto (off := -56) (tgt := 23) (by decide +kernel) (by decide) (hj 153 _ _ rfl))
set_option maxRecDepth 20000 in
theorem sz_197_23 {j : AJ} (hj : SJ j) : Sound kM_197 23 (mz_197_23 j) := by
  unfold mz_197_23
  exact so_iload (by decide +kernel) (so_iload (by decide +kernel) (so_icmp (off := 55) (tgt := 82) (by decide +kernel) (by decide) rfl (sz_197_82 hj) (so_aload_n (f := 0) (by decide +kernel) rfl (so_iconst (i := 1) (by decide +kernel) (by decide +kernel) (by decide) (so_iload (by decide +kernel) (so_ishl (by decide +kernel) (so_iconst (i := 1) (by decide +kernel) (by decide +kernel) (by decide) (so_isub (by decide +kernel) (so_iload (by decide +kernel) (so_iload (by decide +kernel) (so_iload_n (f := 2) (by decide +kernel) rfl (so_callV (C := RX9) (T := TX9) (N0 := 38) (by decide +kernel) kcf_194 rfl rfl rfl kw_585 kw_586 kw_587 (by decide +kernel) (sb_194_0 hj) (so_istore (by decide +kernel) (by decide +kernel) (so_iload (by decide +kernel) (so_if (off := 27) (tgt := 76) (by decide +kernel) (by decide) rfl (sz_197_76 hj) (so_aload_n (f := 0) (by decide +kernel) rfl (so_get (C := RX9) (T := TX9) (N := 38) (by decide +kernel) rfl kin_9 (by decide) kw_473 (b := true) rfl (fun _ => rfl) (so_iconst (i := 2) (by decide +kernel) (by decide +kernel) (by decide) (so_iload (by decide +kernel) (so_imul (by decide +kernel) (so_iconst (i := 1) (by decide +kernel) (by decide +kernel) (by decide) (so_iadd (by decide +kernel) (so_iload_n (f := 2) (by decide +kernel) rfl (so_isub (by decide +kernel) (so_zald (by decide +kernel) (so_if (off := 11) (tgt := 76) (by decide +kernel) (by decide) rfl (sz_197_76 hj) (so_aload_n (f := 0) (by decide +kernel) rfl (so_get (C := RX9) (T := TX9) (N := 38) (by decide +kernel) rfl kin_9 (by decide) kw_472 (b := true) rfl (fun _ => rfl) (so_iload (by decide +kernel) (so_iald (by decide +kernel) (so_reti (by decide +kernel) rfl)))))))))))))))))))))))))))))))
set_option maxRecDepth 20000 in
theorem sz_197_18 {j : AJ} (hj : SJ j) : Sound kM_197 18 (mz_197_18 j) := by
  unfold mz_197_18
  exact so_istore (by decide +kernel) (by decide +kernel) (so_iconst (i := 0) (by decide +kernel) (by decide +kernel) (by decide) (so_istore (by decide +kernel) (by decide +kernel) (sz_197_23 hj)))
set_option maxRecDepth 20000 in
theorem sz_197_13 {j : AJ} (hj : SJ j) : Sound kM_197 13 (mz_197_13 j) := by
  unfold mz_197_13
  exact so_aload_n (f := 0) (by decide +kernel) rfl (so_iload_n (f := 1) (by decide +kernel) rfl (so_stop rfl))
set_option maxRecDepth 20000 in
theorem sz_197_6 {j : AJ} (hj : SJ j) : Sound kM_197 6 (mz_197_6 j) := by
  unfold mz_197_6
  exact so_istore_n (f := 3) (by decide +kernel) rfl (by decide +kernel) (so_iload_n (f := 3) (by decide +kernel) rfl (so_if (off := 5) (tgt := 13) (by decide +kernel) (by decide) rfl (sz_197_13 hj) (so_iload_n (f := 3) (by decide +kernel) rfl (so_reti (by decide +kernel) rfl))))
set_option maxRecDepth 20000 in
theorem sz_197_0 {j : AJ} (hj : SJ j) : Sound kM_197 0 (mz_197_0 j) := by
  unfold mz_197_0
  exact so_aload_n (f := 0) (by decide +kernel) rfl (so_iload_n (f := 1) (by decide +kernel) rfl (so_iload_n (f := 2) (by decide +kernel) rfl (so_stop rfl)))
set_option maxRecDepth 20000 in
theorem pk_197_3 : MK kM_197 kM_196 3 yX9_beginner [true, true, true] (XV 9) := mk_V (C := RX9) (T := TX9) (N0 := 38) (pad := [none]) (n := 2) (by decide +kernel) kcf_196 rfl rfl rfl kw_594 kw_595 kw_596
set_option maxRecDepth 20000 in
theorem pk_197_15 : MK kM_197 kM_193 15 yX9_findFields [true, true] (XV 9) := mk_V (C := RX9) (T := TX9) (N0 := 38) (pad := [none, none, none]) (n := 1) (by decide +kernel) kcf_193 rfl rfl rfl kw_591 kw_592 kw_593
