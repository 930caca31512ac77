/-! ===== the blocks are sound ===== -/
/-- the ways of a switch are sound -/
def SL (M : AM) : List Nat → List AK → Prop
  | [], [] => True
  | q :: qs, x :: xs => Sound M q x ∧ SL M qs xs
  | _, _ => False
theorem SL_get {M : AM} : ∀ {qs : List Nat} {xs : List AK}, SL M qs xs → ∀ (i q : Nat) (x : AK), qs[i]? = some q → xs[i]? = some x → Sound M q x
  | [], [], _, i, q, x, h, _ => by simp at h
  | q0 :: qs, x0 :: xs, ⟨h1, h2⟩, i, q, x, hq, hx => by
    cases i with
    | zero => cases hq; cases hx; exact h1
    | succ i => exact SL_get h2 i q x hq hx
theorem SL_len {M : AM} : ∀ {qs : List Nat} {xs : List AK}, SL M qs xs → qs.length = xs.length
  | [], [], _ => rfl
  | _ :: _, _ :: _, ⟨_, h⟩ => congrArg (· + 1) (SL_len h)
theorem so_tsw2 {M : AM} {pc : Nat} {ts : List AK} {df : AK} {dflt hi : Int} {offs : Array Int} {len tdf : Nat} {tg : List Nat} (hd : decode M.2.1 pc = .ok (.tableswitch dflt 0 hi offs, len)) (hhi : hi = (tg.length : Int) - 1) (hdf : (pc : Int) + dflt = (tdf : Int)) (hlen : offs.size = tg.length) (hts : tg.length ≤ 2147483648) (htg : offs.toList.map (fun o => (pc : Int) + o) = tg.map (fun q : Nat => (q : Int))) (hk : SL M tg ts) (hkd : Sound M tdf df) : Sound M pc (o_tsw 0 ts df) := by
  have hl := SL_len hk
  refine so_tsw (dflt := dflt) (offs := offs) (len := len) (tdf := tdf) (tg := tg) (by rw [← hl, ← hhi]; exact hd) hdf (by rw [← hl]; exact hlen) hl (by rw [← hl]; exact hts) (fun i o q h1 h2 => ?_) (fun i q x h1 h2 => SL_get hk i q x h1 h2) hkd
  have h3 : (offs.toList.map (fun o => (pc : Int) + o))[i]? = some ((pc : Int) + o) := by
    rw [List.getElem?_map, Array.getElem?_toList, h1]
    rfl
  rw [htg, List.getElem?_map, h2] at h3
  exact (Option.some.inj h3).symm

set_option maxRecDepth 20000 in
theorem sb_110_54 {j : AJ} (hj : SJ j) : Sound kM_110 54 (mb_110_54 j) := by
  unfold mb_110_54
  exact so_reti (by decide +kernel) rfl
set_option maxRecDepth 20000 in
theorem sb_110_52 {j : AJ} (hj : SJ j) : Sound kM_110 52 (mb_110_52 j) := by
  unfold mb_110_52
  exact so_bipush (i := -2) (by decide +kernel) (by decide +kernel) (by decide) (sb_110_54 hj)
set_option maxRecDepth 20000 in
theorem sb_110_26 {j : AJ} (hj : SJ j) : Sound kM_110 26 (mb_110_26 j) := by
  unfold mb_110_26
  exact so_aload_n (f := 0) (by decide +kernel) rfl (so_get (C := RX8) (T := TX8) (N := 8) (by decide +kernel) rfl kin_8 (by decide) kw_332 (b := true) rfl (fun _ => rfl) (so_iload_n (f := 1) (by decide +kernel) rfl (so_aaldG (by decide +kernel) (so_iload_n (f := 2) (by decide +kernel) rfl (so_iload_n (f := 3) (by decide +kernel) rfl (so_callV (C := RX0) (T := TX0) (N0 := 4) (by decide +kernel) kcf_10 rfl rfl rfl kw_354 kw_355 kw_356 (by decide +kernel) (sb_10_0 hj) (so_if (off := 15) (tgt := 52) (by decide +kernel) (by decide) rfl (sb_110_52 hj) (so_aload_n (f := 0) (by decide +kernel) rfl (so_get (C := RX8) (T := TX8) (N := 8) (by decide +kernel) rfl kin_8 (by decide) kw_332 (b := true) rfl (fun _ => rfl) (so_iload_n (f := 1) (by decide +kernel) rfl (so_aaldG (by decide +kernel) (so_callV (C := RX0) (T := TX0) (N0 := 4) (by decide +kernel) kcf_7 rfl rfl rfl kw_357 kw_358 kw_359 (by decide +kernel) (sb_7_0 hj) (so_goto (off := 5) (tgt := 54) (by decide +kernel) (by decide) (sb_110_54 hj))))))))))))))
set_option maxRecDepth 20000 in
theorem sb_110_24 {j : AJ} (hj : SJ j) : Sound kM_110 24 (mb_110_24 j) := by
  unfold mb_110_24
  exact so_iconst (i := -1) (by decide +kernel) (by decide +kernel) (by decide) (so_reti (by decide +kernel) rfl)
set_option maxRecDepth 20000 in
theorem sb_110_0 {j : AJ} (hj : SJ j) : Sound kM_110 0 (mb_110_0 j) := by
  unfold mb_110_0
  exact so_iload_n (f := 1) (by decide +kernel) rfl (so_callS (by decide +kernel) kcf_104 rfl kw_344 kw_345 (by decide +kernel) (sb_104_0 hj) (so_if (off := 20) (tgt := 24) (by decide +kernel) (by decide) rfl (sb_110_24 hj) (so_iload_n (f := 3) (by decide +kernel) rfl (so_callS (by decide +kernel) kcf_45 rfl kw_350 kw_125 (by decide +kernel) (sb_45_0 hj) (so_if (off := 13) (tgt := 24) (by decide +kernel) (by decide) rfl (sb_110_24 hj) (so_iload_n (f := 2) (by decide +kernel) rfl (so_if (off := 9) (tgt := 24) (by decide +kernel) (by decide) rfl (sb_110_24 hj) (so_iload_n (f := 2) (by decide +kernel) rfl (so_bipush (i := 16) (by decide +kernel) (by decide +kernel) (by decide) (so_icmp (off := 5) (tgt := 26) (by decide +kernel) (by decide) rfl (sb_110_26 hj) (sb_110_24 hj)))))))))))
set_option maxRecDepth 20000 in
theorem sb_111_20 {j : AJ} (hj : SJ j) : Sound kM_111 20 (mb_111_20 j) := by
  unfold mb_111_20
  exact so_reti (by decide +kernel) rfl
set_option maxRecDepth 20000 in
theorem sb_111_19 {j : AJ} (hj : SJ j) : Sound kM_111 19 (mb_111_19 j) := by
  unfold mb_111_19
  exact so_iconst (i := -1) (by decide +kernel) (by decide +kernel) (by decide) (sb_111_20 hj)
set_option maxRecDepth 20000 in
theorem sb_111_0 {j : AJ} (hj : SJ j) : Sound kM_111 0 (mb_111_0 j) := by
  unfold mb_111_0
  exact so_iload_n (f := 1) (by decide +kernel) rfl (so_callS (by decide +kernel) kcf_104 rfl kw_344 kw_345 (by decide +kernel) (sb_104_0 hj) (so_if (off := 15) (tgt := 19) (by decide +kernel) (by decide) rfl (sb_111_19 hj) (so_aload_n (f := 0) (by decide +kernel) rfl (so_get (C := RX8) (T := TX8) (N := 8) (by decide +kernel) rfl kin_8 (by decide) kw_332 (b := true) rfl (fun _ => rfl) (so_iload_n (f := 1) (by decide +kernel) rfl (so_aaldG (by decide +kernel) (so_callV (C := RX0) (T := TX0) (N0 := 4) (by decide +kernel) kcf_11 rfl rfl rfl kw_360 kw_361 kw_362 (by decide +kernel) (sb_11_0 hj) (so_goto (off := 4) (tgt := 20) (by decide +kernel) (by decide) (sb_111_20 hj)))))))))
set_option maxRecDepth 20000 in
theorem sb_112_16 {j : AJ} (hj : SJ j) : Sound kM_112 16 (mb_112_16 j) := by
  unfold mb_112_16
  exact so_aload_n (f := 0) (by decide +kernel) rfl (so_get (C := RX8) (T := TX8) (N := 8) (by decide +kernel) rfl kin_8 (by decide) kw_332 (b := true) rfl (fun _ => rfl) (so_iload_n (f := 2) (by decide +kernel) rfl (so_aaldG (by decide +kernel) (so_aload_n (f := 0) (by decide +kernel) rfl (so_get (C := RX8) (T := TX8) (N := 8) (by decide +kernel) rfl kin_8 (by decide) kw_332 (b := true) rfl (fun _ => rfl) (so_iload_n (f := 1) (by decide +kernel) rfl (so_aaldG (by decide +kernel) (so_callV (C := RX0) (T := TX0) (N0 := 4) (by decide +kernel) kcf_12 rfl rfl rfl kw_363 kw_364 kw_365 (by decide +kernel) (sb_12_0 hj) (so_callV (C := RX0) (T := TX0) (N0 := 4) (by decide +kernel) kcf_2 rfl rfl rfl kw_366 kw_367 kw_368 (by decide +kernel) (sb_2_0 hj) (so_aload_n (f := 0) (by decide +kernel) rfl (so_get (C := RX8) (T := TX8) (N := 8) (by decide +kernel) rfl kin_8 (by decide) kw_332 (b := true) rfl (fun _ => rfl) (so_iload_n (f := 2) (by decide +kernel) rfl (so_aaldG (by decide +kernel) (so_callV (C := RX0) (T := TX0) (N0 := 4) (by decide +kernel) kcf_6 rfl rfl rfl kw_343 kw_115 kw_116 (by decide +kernel) (sb_6_0 hj) (so_reti (by decide +kernel) rfl)))))))))))))))
set_option maxRecDepth 20000 in
theorem sb_112_14 {j : AJ} (hj : SJ j) : Sound kM_112 14 (mb_112_14 j) := by
  unfold mb_112_14
  exact so_iconst (i := -1) (by decide +kernel) (by decide +kernel) (by decide) (so_reti (by decide +kernel) rfl)
set_option maxRecDepth 20000 in
theorem sb_112_0 {j : AJ} (hj : SJ j) : Sound kM_112 0 (mb_112_0 j) := by
  unfold mb_112_0
  exact so_iload_n (f := 1) (by decide +kernel) rfl (so_callS (by decide +kernel) kcf_104 rfl kw_344 kw_345 (by decide +kernel) (sb_104_0 hj) (so_if (off := 10) (tgt := 14) (by decide +kernel) (by decide) rfl (sb_112_14 hj) (so_iload_n (f := 2) (by decide +kernel) rfl (so_callS (by decide +kernel) kcf_104 rfl kw_344 kw_345 (by decide +kernel) (sb_104_0 hj) (so_if (off := 5) (tgt := 16) (by decide +kernel) (by decide) rfl (sb_112_16 hj) (sb_112_14 hj))))))
set_option maxRecDepth 20000 in
theorem sb_113_15 {j : AJ} (hj : SJ j) : Sound kM_113 15 (mb_113_15 j) := by
  unfold mb_113_15
  exact so_retz (by decide +kernel) rfl
set_option maxRecDepth 20000 in
theorem sb_113_14 {j : AJ} (hj : SJ j) : Sound kM_113 14 (mb_113_14 j) := by
  unfold mb_113_14
  exact so_iconst (i := 0) (by decide +kernel) (by decide +kernel) (by decide) (sb_113_15 hj)
set_option maxRecDepth 20000 in
theorem sb_113_0 {j : AJ} (hj : SJ j) : Sound kM_113 0 (mb_113_0 j) := by
  unfold mb_113_0
  exact so_iload_n (f := 0) (by decide +kernel) rfl (so_if (off := 13) (tgt := 14) (by decide +kernel) (by decide) rfl (sb_113_14 hj) (so_iload_n (f := 0) (by decide +kernel) rfl (so_bipush (i := 10) (by decide +kernel) (by decide +kernel) (by decide) (so_icmp (off := 7) (tgt := 14) (by decide +kernel) (by decide) rfl (sb_113_14 hj) (so_iconst (i := 1) (by decide +kernel) (by decide +kernel) (by decide) (so_goto (off := 4) (tgt := 15) (by decide +kernel) (by decide) (sb_113_15 hj)))))))
set_option maxRecDepth 20000 in
theorem sb_114_0 {j : AJ} (hj : SJ j) : Sound kM_114 0 (mb_114_0 j) := by
  unfold mb_114_0
  exact so_aload_n (f := 0) (by decide +kernel) rfl (so_get (C := RX8) (T := TX8) (N := 8) (by decide +kernel) rfl kin_8 (by decide) kw_317 (b := true) rfl (fun _ => rfl) (so_aload_n (f := 0) (by decide +kernel) rfl (so_get (C := RX8) (T := TX8) (N := 8) (by decide +kernel) rfl kin_8 (by decide) kw_311 (b := true) rfl (fun _ => rfl) (so_iload_n (f := 1) (by decide +kernel) rfl (so_aload_n (f := 0) (by decide +kernel) rfl (so_get (C := RX8) (T := TX8) (N := 8) (by decide +kernel) rfl kin_8 (by decide) kw_330 (b := true) rfl (fun _ => rfl) (so_iload_n (f := 2) (by decide +kernel) rfl (so_aaldG (by decide +kernel) (so_callV (C := RX2) (T := TX2) (N0 := 4) (by decide +kernel) kcf_38 rfl rfl rfl kw_369 kw_370 kw_371 (by decide +kernel) (sb_38_0 hj) (so_aload_n (f := 0) (by decide +kernel) rfl (so_get (C := RX8) (T := TX8) (N := 8) (by decide +kernel) rfl kin_8 (by decide) kw_330 (b := true) rfl (fun _ => rfl) (so_iload_n (f := 2) (by decide +kernel) rfl (so_aaldG (by decide +kernel) (so_getN (C := RX1) (T := TX1) (N := 4) (by decide +kernel) rfl kin_1 (by decide) kw_372 (b := false) rfl (fun _ => rfl) (so_reti (by decide +kernel) rfl)))))))))))))))
set_option maxRecDepth 20000 in
theorem sb_115_33 {j : AJ} (hj : SJ j) : Sound kM_115 33 (mb_115_33 j) := by
  unfold mb_115_33
  exact so_aload_n (f := 0) (by decide +kernel) rfl (so_get (C := RX8) (T := TX8) (N := 8) (by decide +kernel) rfl kin_8 (by decide) kw_305 (b := true) rfl (fun _ => rfl) (so_callV (C := RX3) (T := TX3) (N0 := 4) (by decide +kernel) kcf_40 rfl rfl rfl kw_373 kw_374 kw_375 (by decide +kernel) (sb_40_0 hj) (so_aload_n (f := 0) (by decide +kernel) rfl (so_get (C := RX8) (T := TX8) (N := 8) (by decide +kernel) rfl kin_8 (by decide) kw_305 (b := true) rfl (fun _ => rfl) (so_aload_n (f := 0) (by decide +kernel) rfl (so_get (C := RX8) (T := TX8) (N := 8) (by decide +kernel) rfl kin_8 (by decide) kw_332 (b := true) rfl (fun _ => rfl) (so_iload_n (f := 1) (by decide +kernel) rfl (so_aaldG (by decide +kernel) (so_iload_n (f := 1) (by decide +kernel) rfl (so_callV (C := RX3) (T := TX3) (N0 := 4) (by decide +kernel) kcf_43 rfl rfl rfl kw_376 kw_377 kw_378 (by decide +kernel) (sb_43_0 hj) (so_aload_n (f := 0) (by decide +kernel) rfl (so_aload_n (f := 0) (by decide +kernel) rfl (so_get (C := RX8) (T := TX8) (N := 8) (by decide +kernel) rfl kin_8 (by decide) kw_311 (b := true) rfl (fun _ => rfl) (so_aload_n (f := 0) (by decide +kernel) rfl (so_get (C := RX8) (T := TX8) (N := 8) (by decide +kernel) rfl kin_8 (by decide) kw_305 (b := true) rfl (fun _ => rfl) (so_callV (C := RX7) (T := TX7) (N0 := 8) (by decide +kernel) kcf_91 rfl rfl rfl kw_379 kw_380 kw_381 (by decide +kernel) (sb_91_0 hj) (so_iload_n (f := 2) (by decide +kernel) rfl (so_callV (C := RX8) (T := TX8) (N0 := 8) (by decide +kernel) kcf_114 rfl rfl rfl kw_382 kw_383 kw_384 (by decide +kernel) (sb_114_0 hj) (so_reti (by decide +kernel) rfl)))))))))))))))))))
set_option maxRecDepth 20000 in
theorem sb_115_16 {j : AJ} (hj : SJ j) : Sound kM_115 16 (mb_115_16 j) := by
  unfold mb_115_16
  exact so_aload_n (f := 0) (by decide +kernel) rfl (so_get (C := RX8) (T := TX8) (N := 8) (by decide +kernel) rfl kin_8 (by decide) kw_332 (b := true) rfl (fun _ => rfl) (so_iload_n (f := 1) (by decide +kernel) rfl (so_aaldG (by decide +kernel) (so_callV (C := RX0) (T := TX0) (N0 := 4) (by decide +kernel) kcf_6 rfl rfl rfl kw_343 kw_115 kw_116 (by decide +kernel) (sb_6_0 hj) (so_bipush (i := 10) (by decide +kernel) (by decide +kernel) (by decide) (so_icmp (off := 6) (tgt := 33) (by decide +kernel) (by decide) rfl (sb_115_33 hj) (so_bipush (i := -3) (by decide +kernel) (by decide +kernel) (by decide) (so_reti (by decide +kernel) rfl))))))))
set_option maxRecDepth 20000 in
theorem sb_115_14 {j : AJ} (hj : SJ j) : Sound kM_115 14 (mb_115_14 j) := by
  unfold mb_115_14
  exact so_iconst (i := -1) (by decide +kernel) (by decide +kernel) (by decide) (so_reti (by decide +kernel) rfl)
set_option maxRecDepth 20000 in
theorem sb_115_0 {j : AJ} (hj : SJ j) : Sound kM_115 0 (mb_115_0 j) := by
  unfold mb_115_0
  exact so_iload_n (f := 1) (by decide +kernel) rfl (so_callS (by decide +kernel) kcf_104 rfl kw_344 kw_345 (by decide +kernel) (sb_104_0 hj) (so_if (off := 10) (tgt := 14) (by decide +kernel) (by decide) rfl (sb_115_14 hj) (so_iload_n (f := 2) (by decide +kernel) rfl (so_callS (by decide +kernel) kcf_113 rfl kw_385 kw_386 (by decide +kernel) (sb_113_0 hj) (so_if (off := 5) (tgt := 16) (by decide +kernel) (by decide) rfl (sb_115_16 hj) (sb_115_14 hj))))))
set_option maxRecDepth 20000 in
theorem sb_116_35 {j : AJ} (hj : SJ j) : Sound kM_116 35 (mb_116_35 j) := by
  unfold mb_116_35
  exact so_aload_n (f := 0) (by decide +kernel) rfl (so_aload_n (f := 0) (by decide +kernel) rfl (so_get (C := RX8) (T := TX8) (N := 8) (by decide +kernel) rfl kin_8 (by decide) kw_311 (b := true) rfl (fun _ => rfl) (so_iload_n (f := 1) (by decide +kernel) rfl (so_iload_n (f := 2) (by decide +kernel) rfl (so_callV (C := RX7) (T := TX7) (N0 := 8) (by decide +kernel) kcf_95 rfl rfl rfl kw_387 kw_388 kw_389 (by decide +kernel) (sb_95_0 hj) (so_iload_n (f := 3) (by decide +kernel) rfl (so_callV (C := RX8) (T := TX8) (N0 := 8) (by decide +kernel) kcf_114 rfl rfl rfl kw_382 kw_383 kw_384 (by decide +kernel) (sb_114_0 hj) (so_reti (by decide +kernel) rfl))))))))
set_option maxRecDepth 20000 in
theorem sb_116_33 {j : AJ} (hj : SJ j) : Sound kM_116 33 (mb_116_33 j) := by
  unfold mb_116_33
  exact so_iconst (i := -1) (by decide +kernel) (by decide +kernel) (by decide) (so_reti (by decide +kernel) rfl)
set_option maxRecDepth 20000 in
theorem sb_116_0 {j : AJ} (hj : SJ j) : Sound kM_116 0 (mb_116_0 j) := by
  unfold mb_116_0
  exact so_iload_n (f := 2) (by decide +kernel) rfl (so_if (off := 32) (tgt := 33) (by decide +kernel) (by decide) rfl (sb_116_33 hj) (so_iload_n (f := 2) (by decide +kernel) rfl (so_iconst (i := 3) (by decide +kernel) (by decide +kernel) (by decide) (so_icmp (off := 27) (tgt := 33) (by decide +kernel) (by decide) rfl (sb_116_33 hj) (so_iload_n (f := 1) (by decide +kernel) rfl (so_bipush (i := 8) (by decide +kernel) (by decide +kernel) (by decide) (so_iload_n (f := 2) (by decide +kernel) rfl (so_ishl (by decide +kernel) (so_ineg (by decide +kernel) (so_icmp (off := 18) (tgt := 33) (by decide +kernel) (by decide) rfl (sb_116_33 hj) (so_iload_n (f := 1) (by decide +kernel) rfl (so_bipush (i := 8) (by decide +kernel) (by decide +kernel) (by decide) (so_iload_n (f := 2) (by decide +kernel) rfl (so_ishl (by decide +kernel) (so_icmp (off := 10) (tgt := 33) (by decide +kernel) (by decide) rfl (sb_116_33 hj) (so_iload_n (f := 3) (by decide +kernel) rfl (so_callS (by decide +kernel) kcf_113 rfl kw_385 kw_386 (by decide +kernel) (sb_113_0 hj) (so_if (off := 5) (tgt := 35) (by decide +kernel) (by decide) rfl (sb_116_35 hj) (sb_116_33 hj)))))))))))))))))))
set_option maxRecDepth 20000 in
theorem sb_117_21 {j : AJ} (hj : SJ j) : Sound kM_117 21 (mb_117_21 j) := by
  unfold mb_117_21
  exact so_aload_n (f := 0) (by decide +kernel) rfl (so_aload_n (f := 0) (by decide +kernel) rfl (so_get (C := RX8) (T := TX8) (N := 8) (by decide +kernel) rfl kin_8 (by decide) kw_311 (b := true) rfl (fun _ => rfl) (so_iload_n (f := 1) (by decide +kernel) rfl (so_iload_n (f := 2) (by decide +kernel) rfl (so_callV (C := RX7) (T := TX7) (N0 := 8) (by decide +kernel) kcf_96 rfl rfl rfl kw_390 kw_391 kw_392 (by decide +kernel) (sb_96_0 hj) (so_iload_n (f := 3) (by decide +kernel) rfl (so_callV (C := RX8) (T := TX8) (N0 := 8) (by decide +kernel) kcf_114 rfl rfl rfl kw_382 kw_383 kw_384 (by decide +kernel) (sb_114_0 hj) (so_reti (by decide +kernel) rfl))))))))
set_option maxRecDepth 20000 in
theorem sb_117_19 {j : AJ} (hj : SJ j) : Sound kM_117 19 (mb_117_19 j) := by
  unfold mb_117_19
  exact so_iconst (i := -1) (by decide +kernel) (by decide +kernel) (by decide) (so_reti (by decide +kernel) rfl)
set_option maxRecDepth 20000 in
theorem sb_117_0 {j : AJ} (hj : SJ j) : Sound kM_117 0 (mb_117_0 j) := by
  unfold mb_117_0
  exact so_iload_n (f := 1) (by decide +kernel) rfl (so_bipush (i := -6) (by decide +kernel) (by decide +kernel) (by decide) (so_icmp (off := 16) (tgt := 19) (by decide +kernel) (by decide) rfl (sb_117_19 hj) (so_iload_n (f := 1) (by decide +kernel) rfl (so_bipush (i := 6) (by decide +kernel) (by decide +kernel) (by decide) (so_icmp (off := 10) (tgt := 19) (by decide +kernel) (by decide) rfl (sb_117_19 hj) (so_iload_n (f := 3) (by decide +kernel) rfl (so_callS (by decide +kernel) kcf_113 rfl kw_385 kw_386 (by decide +kernel) (sb_113_0 hj) (so_if (off := 5) (tgt := 21) (by decide +kernel) (by decide) rfl (sb_117_21 hj) (sb_117_19 hj)))))))))
set_option maxRecDepth 20000 in
theorem sb_118_16 {j : AJ} (hj : SJ j) : Sound kM_118 16 (mb_118_16 j) := by
  unfold mb_118_16
  exact so_retz (by decide +kernel) rfl
set_option maxRecDepth 20000 in
theorem sb_118_15 {j : AJ} (hj : SJ j) : Sound kM_118 15 (mb_118_15 j) := by
  unfold mb_118_15
  exact so_iconst (i := 0) (by decide +kernel) (by decide +kernel) (by decide) (sb_118_16 hj)
set_option maxRecDepth 20000 in
theorem sb_118_0 {j : AJ} (hj : SJ j) : Sound kM_118 0 (mb_118_0 j) := by
  unfold mb_118_0
  exact so_iload_n (f := 0) (by decide +kernel) rfl (so_if (off := 14) (tgt := 15) (by decide +kernel) (by decide) rfl (sb_118_15 hj) (so_iload_n (f := 0) (by decide +kernel) rfl (so_sipush (i := 1024) (by decide +kernel) (by decide +kernel) (by decide) (so_icmp (off := 7) (tgt := 15) (by decide +kernel) (by decide) rfl (sb_118_15 hj) (so_iconst (i := 1) (by decide +kernel) (by decide +kernel) (by decide) (so_goto (off := 4) (tgt := 16) (by decide +kernel) (by decide) (sb_118_16 hj)))))))
set_option maxRecDepth 20000 in
theorem sb_119_38 {j : AJ} (hj : SJ j) : Sound kM_119 38 (mb_119_38 j) := by
  unfold mb_119_38
  exact so_iconst (i := 0) (by decide +kernel) (by decide +kernel) (by decide) (so_retz (by decide +kernel) rfl)
set_option maxRecDepth 20000 in
theorem sb_119_32 {j : AJ} (hj : SJ j) : Sound kM_119 32 (mb_119_32 j) := by
  unfold mb_119_32
  exact so_iinc (z := 1) (by decide +kernel) (by decide +kernel) (by decide) (by decide +kernel) (so_goto (off := -33) (tgt := 2) (by decide +kernel) (by decide) (hj 60 _ _ rfl))
set_option maxRecDepth 20000 in
theorem sb_119_2 {j : AJ} (hj : SJ j) : Sound kM_119 2 (mb_119_2 j) := by
  unfold mb_119_2
  exact so_iload_n (f := 2) (by decide +kernel) rfl (so_bipush (i := 10) (by decide +kernel) (by decide +kernel) (by decide) (so_icmp (off := 33) (tgt := 38) (by decide +kernel) (by decide) rfl (sb_119_38 hj) (so_iload_n (f := 1) (by decide +kernel) rfl (so_iload_n (f := 2) (by decide +kernel) rfl (so_sa1 (so_ishr (by decide +kernel) (so_iconst (i := 1) (by decide +kernel) (by decide +kernel) (by decide) (so_iand (by decide +kernel) (so_if (off := 19) (tgt := 32) (by decide +kernel) (by decide) rfl (sb_119_32 hj) (so_aload_n (f := 0) (by decide +kernel) rfl (so_get (C := RX8) (T := TX8) (N := 8) (by decide +kernel) rfl kin_8 (by decide) kw_330 (b := true) rfl (fun _ => rfl) (so_iload_n (f := 2) (by decide +kernel) rfl (so_aaldG (by decide +kernel) (so_getN (C := RX1) (T := TX1) (N := 4) (by decide +kernel) rfl kin_1 (by decide) kw_393 (b := false) rfl (fun _ => rfl) (so_bipush (i := 20) (by decide +kernel) (by decide +kernel) (by decide) (so_icmp (off := 5) (tgt := 32) (by decide +kernel) (by decide) rfl (sb_119_32 hj) (so_iconst (i := 1) (by decide +kernel) (by decide +kernel) (by decide) (so_retz (by decide +kernel) rfl))))))))))))))))))
set_option maxRecDepth 20000 in
theorem sb_119_0 {j : AJ} (hj : SJ j) : Sound kM_119 0 (mb_119_0 j) := by
  unfold mb_119_0
  exact so_iconst (i := 0) (by decide +kernel) (by decide +kernel) (by decide) (so_istore_n (f := 2) (by decide +kernel) rfl (by decide +kernel) (sb_119_2 hj))
set_option maxRecDepth 20000 in
theorem sb_120_34 {j : AJ} (hj : SJ j) : Sound kM_120 34 (mb_120_34 j) := by
  unfold mb_120_34
  exact so_iload_n (f := 2) (by decide +kernel) rfl (so_reti (by decide +kernel) rfl)
set_option maxRecDepth 20000 in
theorem sb_120_4 {j : AJ} (hj : SJ j) : Sound kM_120 4 (mb_120_4 j) := by
  unfold mb_120_4
  exact so_iload_n (f := 3) (by decide +kernel) rfl (so_bipush (i := 10) (by decide +kernel) (by decide +kernel) (by decide) (so_icmp (off := 27) (tgt := 34) (by decide +kernel) (by decide) rfl (sb_120_34 hj) (so_iload_n (f := 2) (by decide +kernel) rfl (so_iload_n (f := 1) (by decide +kernel) rfl (so_iload_n (f := 3) (by decide +kernel) rfl (so_sa1 (so_ishr (by decide +kernel) (so_iconst (i := 1) (by decide +kernel) (by decide +kernel) (by decide) (so_iand (by decide +kernel) (so_aload_n (f := 0) (by decide +kernel) rfl (so_get (C := RX8) (T := TX8) (N := 8) (by decide +kernel) rfl kin_8 (by decide) kw_330 (b := true) rfl (fun _ => rfl) (so_iload_n (f := 3) (by decide +kernel) rfl (so_aaldG (by decide +kernel) (so_getN (C := RX1) (T := TX1) (N := 4) (by decide +kernel) rfl kin_1 (by decide) kw_372 (b := false) rfl (fun _ => rfl) (so_imul (by decide +kernel) (so_iadd (by decide +kernel) (so_istore_n (f := 2) (by decide +kernel) rfl (by decide +kernel) (so_iinc (z := 1) (by decide +kernel) (by decide +kernel) (by decide) (by decide +kernel) (so_goto (off := -27) (tgt := 4) (by decide +kernel) (by decide) (hj 61 _ _ rfl))))))))))))))))))))
set_option maxRecDepth 20000 in
theorem sb_120_0 {j : AJ} (hj : SJ j) : Sound kM_120 0 (mb_120_0 j) := by
  unfold mb_120_0
  exact so_iconst (i := 0) (by decide +kernel) (by decide +kernel) (by decide) (so_istore_n (f := 2) (by decide +kernel) rfl (by decide +kernel) (so_iconst (i := 0) (by decide +kernel) (by decide +kernel) (by decide) (so_istore_n (f := 3) (by decide +kernel) rfl (by decide +kernel) (sb_120_4 hj))))
set_option maxRecDepth 20000 in
theorem sb_121_67 {j : AJ} (hj : SJ j) : Sound kM_121 67 (mb_121_67 j) := by
  unfold mb_121_67
  exact so_iload_n (f := 3) (by decide +kernel) rfl (so_callV (C := RX8) (T := TX8) (N0 := 8) (by decide +kernel) kcf_114 rfl rfl rfl kw_382 kw_383 kw_384 (by decide +kernel) (sb_114_0 hj) (so_reti (by decide +kernel) rfl))
set_option maxRecDepth 20000 in
theorem sb_121_64 {j : AJ} (hj : SJ j) : Sound kM_121 64 (mb_121_64 j) := by
  unfold mb_121_64
  exact so_callV (C := RX7) (T := TX7) (N0 := 8) (by decide +kernel) kcf_99 rfl rfl rfl kw_394 kw_395 kw_396 (by decide +kernel) (sb_99_0 hj) (sb_121_67 hj)
set_option maxRecDepth 20000 in
theorem sb_121_53 {j : AJ} (hj : SJ j) : Sound kM_121 53 (mb_121_53 j) := by
  unfold mb_121_53
  exact so_aload_n (f := 0) (by decide +kernel) rfl (so_aload_n (f := 0) (by decide +kernel) rfl (so_get (C := RX8) (T := TX8) (N := 8) (by decide +kernel) rfl kin_8 (by decide) kw_311 (b := true) rfl (fun _ => rfl) (so_aload_n (f := 0) (by decide +kernel) rfl (so_get (C := RX8) (T := TX8) (N := 8) (by decide +kernel) rfl kin_8 (by decide) kw_330 (b := true) rfl (fun _ => rfl) (so_iload_n (f := 1) (by decide +kernel) rfl (so_iload_n (f := 2) (by decide +kernel) rfl (sb_121_64 hj)))))))
set_option maxRecDepth 20000 in
theorem sb_121_50 {j : AJ} (hj : SJ j) : Sound kM_121 50 (mb_121_50 j) := by
  unfold mb_121_50
  exact so_bipush (i := -3) (by decide +kernel) (by decide +kernel) (by decide) (so_reti (by decide +kernel) rfl)
set_option maxRecDepth 20000 in
theorem sb_121_43 {j : AJ} (hj : SJ j) : Sound kM_121 43 (mb_121_43 j) := by
  unfold mb_121_43
  exact so_iadd (by decide +kernel) (so_sipush (i := 300) (by decide +kernel) (by decide +kernel) (by decide) (so_icmp (off := 6) (tgt := 53) (by decide +kernel) (by decide) rfl (sb_121_53 hj) (sb_121_50 hj)))
set_option maxRecDepth 20000 in
theorem sb_121_40 {j : AJ} (hj : SJ j) : Sound kM_121 40 (mb_121_40 j) := by
  unfold mb_121_40
  exact so_callV (C := RX8) (T := TX8) (N0 := 8) (by decide +kernel) kcf_120 rfl rfl rfl kw_397 kw_398 kw_399 (by decide +kernel) (sb_120_0 hj) (sb_121_43 hj)
set_option maxRecDepth 20000 in
theorem sb_121_38 {j : AJ} (hj : SJ j) : Sound kM_121 38 (mb_121_38 j) := by
  unfold mb_121_38
  exact so_aload_n (f := 0) (by decide +kernel) rfl (so_iload_n (f := 2) (by decide +kernel) rfl (sb_121_40 hj))
set_option maxRecDepth 20000 in
theorem sb_121_35 {j : AJ} (hj : SJ j) : Sound kM_121 35 (mb_121_35 j) := by
  unfold mb_121_35
  exact so_callV (C := RX8) (T := TX8) (N0 := 8) (by decide +kernel) kcf_120 rfl rfl rfl kw_397 kw_398 kw_399 (by decide +kernel) (sb_120_0 hj) (sb_121_38 hj)
set_option maxRecDepth 20000 in
theorem sb_121_30 {j : AJ} (hj : SJ j) : Sound kM_121 30 (mb_121_30 j) := by
  unfold mb_121_30
  exact so_if (off := 20) (tgt := 50) (by decide +kernel) (by decide) rfl (sb_121_50 hj) (so_aload_n (f := 0) (by decide +kernel) rfl (so_iload_n (f := 1) (by decide +kernel) rfl (sb_121_35 hj)))
set_option maxRecDepth 20000 in
theorem sb_121_27 {j : AJ} (hj : SJ j) : Sound kM_121 27 (mb_121_27 j) := by
  unfold mb_121_27
  exact so_callV (C := RX8) (T := TX8) (N0 := 8) (by decide +kernel) kcf_119 rfl rfl rfl kw_400 kw_401 kw_402 (by decide +kernel) (sb_119_0 hj) (sb_121_30 hj)
set_option maxRecDepth 20000 in
theorem sb_121_23 {j : AJ} (hj : SJ j) : Sound kM_121 23 (mb_121_23 j) := by
  unfold mb_121_23
  exact so_aload_n (f := 0) (by decide +kernel) rfl (so_iload_n (f := 1) (by decide +kernel) rfl (so_iload_n (f := 2) (by decide +kernel) rfl (so_orG (by decide +kernel) (sb_121_27 hj))))
set_option maxRecDepth 20000 in
theorem sb_121_21 {j : AJ} (hj : SJ j) : Sound kM_121 21 (mb_121_21 j) := by
  unfold mb_121_21
  exact so_iconst (i := -1) (by decide +kernel) (by decide +kernel) (by decide) (so_reti (by decide +kernel) rfl)
set_option maxRecDepth 20000 in
theorem sb_121_0 {j : AJ} (hj : SJ j) : Sound kM_121 0 (mb_121_0 j) := by
  unfold mb_121_0
  exact so_iload_n (f := 1) (by decide +kernel) rfl (so_callS (by decide +kernel) kcf_118 rfl kw_403 kw_404 (by decide +kernel) (sb_118_0 hj) (so_if (off := 17) (tgt := 21) (by decide +kernel) (by decide) rfl (sb_121_21 hj) (so_iload_n (f := 2) (by decide +kernel) rfl (so_callS (by decide +kernel) kcf_118 rfl kw_403 kw_404 (by decide +kernel) (sb_118_0 hj) (so_if (off := 10) (tgt := 21) (by decide +kernel) (by decide) rfl (sb_121_21 hj) (so_iload_n (f := 3) (by decide +kernel) rfl (so_callS (by decide +kernel) kcf_113 rfl kw_385 kw_386 (by decide +kernel) (sb_113_0 hj) (so_if (off := 5) (tgt := 23) (by decide +kernel) (by decide) rfl (sb_121_23 hj) (sb_121_21 hj)))))))))
set_option maxRecDepth 20000 in
theorem sz_121_67 {j : AJ} (hj : SJ j) : Sound kM_121 67 (mz_121_67 j) := by
  unfold mz_121_67
  exact so_iload_n (f := 3) (by decide +kernel) rfl (so_callV (C := RX8) (T := TX8) (N0 := 8) (by decide +kernel) kcf_114 rfl rfl rfl kw_382 kw_383 kw_384 (by decide +kernel) (sb_114_0 hj) (so_reti (by decide +kernel) rfl))
set_option maxRecDepth 20000 in
theorem sz_121_53 {j : AJ} (hj : SJ j) : Sound kM_121 53 (mz_121_53 j) := by
  unfold mz_121_53
  exact so_aload_n (f := 0) (by decide +kernel) rfl (so_aload_n (f := 0) (by decide +kernel) rfl (so_get (C := RX8) (T := TX8) (N := 8) (by decide +kernel) rfl kin_8 (by decide) kw_311 (b := true) rfl (fun _ => rfl) (so_aload_n (f := 0) (by decide +kernel) rfl (so_get (C := RX8) (T := TX8) (N := 8) (by decide +kernel) rfl kin_8 (by decide) kw_330 (b := true) rfl (fun _ => rfl) (so_iload_n (f := 1) (by decide +kernel) rfl (so_iload_n (f := 2) (by decide +kernel) rfl (so_stop rfl)))))))
set_option maxRecDepth 20000 in
theorem sz_121_50 {j : AJ} (hj : SJ j) : Sound kM_121 50 (mz_121_50 j) := by
  unfold mz_121_50
  exact so_bipush (i := -3) (by decide +kernel) (by decide +kernel) (by decide) (so_reti (by decide +kernel) rfl)
set_option maxRecDepth 20000 in
theorem sz_121_43 {j : AJ} (hj : SJ j) : Sound kM_121 43 (mz_121_43 j) := by
  unfold mz_121_43
  exact so_iadd (by decide +kernel) (so_sipush (i := 300) (by decide +kernel) (by decide +kernel) (by decide) (so_icmp (off := 6) (tgt := 53) (by decide +kernel) (by decide) rfl (sz_121_53 hj) (sz_121_50 hj)))
set_option maxRecDepth 20000 in
theorem sz_121_38 {j : AJ} (hj : SJ j) : Sound kM_121 38 (mz_121_38 j) := by
  unfold mz_121_38
  exact so_aload_n (f := 0) (by decide +kernel) rfl (so_iload_n (f := 2) (by decide +kernel) rfl (so_stop rfl))
set_option maxRecDepth 20000 in
theorem sz_121_30 {j : AJ} (hj : SJ j) : Sound kM_121 30 (mz_121_30 j) := by
  unfold mz_121_30
  exact so_if (off := 20) (tgt := 50) (by decide +kernel) (by decide) rfl (sz_121_50 hj) (so_aload_n (f := 0) (by decide +kernel) rfl (so_iload_n (f := 1) (by decide +kernel) rfl (so_stop rfl)))
set_option maxRecDepth 20000 in
theorem sz_121_23 {j : AJ} (hj : SJ j) : Sound kM_121 23 (mz_121_23 j) := by
  unfold mz_121_23
  exact so_aload_n (f := 0) (by decide +kernel) rfl (so_iload_n (f := 1) (by decide +kernel) rfl (so_iload_n (f := 2) (by decide +kernel) rfl (so_orG (by decide +kernel) (so_stop rfl))))
set_option maxRecDepth 20000 in
theorem sz_121_21 {j : AJ} (hj : SJ j) : Sound kM_121 21 (mz_121_21 j) := by
  unfold mz_121_21
  exact so_iconst (i := -1) (by decide +kernel) (by decide +kernel) (by decide) (so_reti (by decide +kernel) rfl)
set_option maxRecDepth 20000 in
theorem sz_121_0 {j : AJ} (hj : SJ j) : Sound kM_121 0 (mz_121_0 j) := by
  unfold mz_121_0
  exact so_iload_n (f := 1) (by decide +kernel) rfl (so_callS (by decide +kernel) kcf_118 rfl kw_403 kw_404 (by decide +kernel) (sb_118_0 hj) (so_if (off := 17) (tgt := 21) (by decide +kernel) (by decide) rfl (sz_121_21 hj) (so_iload_n (f := 2) (by decide +kernel) rfl (so_callS (by decide +kernel) kcf_118 rfl kw_403 kw_404 (by decide +kernel) (sb_118_0 hj) (so_if (off := 10) (tgt := 21) (by decide +kernel) (by decide) rfl (sz_121_21 hj) (so_iload_n (f := 3) (by decide +kernel) rfl (so_callS (by decide +kernel) kcf_113 rfl kw_385 kw_386 (by decide +kernel) (sb_113_0 hj) (so_if (off := 5) (tgt := 23) (by decide +kernel) (by decide) rfl (sz_121_23 hj) (sz_121_21 hj)))))))))
set_option maxRecDepth 20000 in
theorem pk_121_27 : MK kM_121 kM_119 27 yX8_isTooDeep [true, true] (XV 8) := mk_V (C := RX8) (T := TX8) (N0 := 8) (pad := [none]) (n := 1) (by decide +kernel) kcf_119 rfl rfl rfl kw_400 kw_401 kw_402
set_option maxRecDepth 20000 in
theorem pk_121_35 : MK kM_121 kM_120 35 yX8_sizeOf [true, true] (XV 8) := mk_V (C := RX8) (T := TX8) (N0 := 8) (pad := [none, none]) (n := 1) (by decide +kernel) kcf_120 rfl rfl rfl kw_397 kw_398 kw_399
set_option maxRecDepth 20000 in
theorem pk_121_40 : MK kM_121 kM_120 40 yX8_sizeOf [true, true] (XV 8) := mk_V (C := RX8) (T := TX8) (N0 := 8) (pad := [none, none]) (n := 1) (by decide +kernel) kcf_120 rfl rfl rfl kw_397 kw_398 kw_399
set_option maxRecDepth 20000 in
theorem pk_121_64 : MK kM_121 kM_99 64 yX7_makeOf [true, true, true, true] (XV 7) := mk_V (C := RX7) (T := TX7) (N0 := 8) (pad := [none, none]) (n := 3) (by decide +kernel) kcf_99 rfl rfl rfl kw_394 kw_395 kw_396
set_option maxRecDepth 20000 in
theorem sb_122_51 {j : AJ} (hj : SJ j) : Sound kM_122 51 (mb_122_51 j) := by
  unfold mb_122_51
  exact so_aload_n (f := 0) (by decide +kernel) rfl (so_aload_n (f := 0) (by decide +kernel) rfl (so_get (C := RX8) (T := TX8) (N := 8) (by decide +kernel) rfl kin_8 (by decide) kw_311 (b := true) rfl (fun _ => rfl) (so_aload_n (f := 0) (by decide +kernel) rfl (so_get (C := RX8) (T := TX8) (N := 8) (by decide +kernel) rfl kin_8 (by decide) kw_330 (b := true) rfl (fun _ => rfl) (so_iload_n (f := 1) (by decide +kernel) rfl (so_aaldG (by decide +kernel) (so_aload_n (f := 0) (by decide +kernel) rfl (so_get (C := RX8) (T := TX8) (N := 8) (by decide +kernel) rfl kin_8 (by decide) kw_330 (b := true) rfl (fun _ => rfl) (so_iload_n (f := 2) (by decide +kernel) rfl (so_aaldG (by decide +kernel) (so_callV (C := RX7) (T := TX7) (N0 := 8) (by decide +kernel) kcf_100 rfl rfl rfl kw_405 kw_406 kw_407 (by decide +kernel) (sb_100_0 hj) (so_iload_n (f := 3) (by decide +kernel) rfl (so_callV (C := RX8) (T := TX8) (N0 := 8) (by decide +kernel) kcf_114 rfl rfl rfl kw_382 kw_383 kw_384 (by decide +kernel) (sb_114_0 hj) (so_reti (by decide +kernel) rfl))))))))))))))
set_option maxRecDepth 20000 in
theorem sb_122_23 {j : AJ} (hj : SJ j) : Sound kM_122 23 (mb_122_23 j) := by
  unfold mb_122_23
  exact so_aload_n (f := 0) (by decide +kernel) rfl (so_get (C := RX8) (T := TX8) (N := 8) (by decide +kernel) rfl kin_8 (by decide) kw_330 (b := true) rfl (fun _ => rfl) (so_iload_n (f := 1) (by decide +kernel) rfl (so_aaldG (by decide +kernel) (so_getN (C := RX1) (T := TX1) (N := 4) (by decide +kernel) rfl kin_1 (by decide) kw_372 (b := false) rfl (fun _ => rfl) (so_aload_n (f := 0) (by decide +kernel) rfl (so_get (C := RX8) (T := TX8) (N := 8) (by decide +kernel) rfl kin_8 (by decide) kw_330 (b := true) rfl (fun _ => rfl) (so_iload_n (f := 2) (by decide +kernel) rfl (so_aaldG (by decide +kernel) (so_getN (C := RX1) (T := TX1) (N := 4) (by decide +kernel) rfl kin_1 (by decide) kw_372 (b := false) rfl (fun _ => rfl) (so_imul (by decide +kernel) (so_sipush (i := 300) (by decide +kernel) (by decide +kernel) (by decide) (so_icmp (off := 6) (tgt := 51) (by decide +kernel) (by decide) rfl (sb_122_51 hj) (so_bipush (i := -3) (by decide +kernel) (by decide +kernel) (by decide) (so_reti (by decide +kernel) rfl))))))))))))))
set_option maxRecDepth 20000 in
theorem sb_122_21 {j : AJ} (hj : SJ j) : Sound kM_122 21 (mb_122_21 j) := by
  unfold mb_122_21
  exact so_iconst (i := -1) (by decide +kernel) (by decide +kernel) (by decide) (so_reti (by decide +kernel) rfl)
set_option maxRecDepth 20000 in
theorem sb_122_0 {j : AJ} (hj : SJ j) : Sound kM_122 0 (mb_122_0 j) := by
  unfold mb_122_0
  exact so_iload_n (f := 1) (by decide +kernel) rfl (so_callS (by decide +kernel) kcf_113 rfl kw_385 kw_386 (by decide +kernel) (sb_113_0 hj) (so_if (off := 17) (tgt := 21) (by decide +kernel) (by decide) rfl (sb_122_21 hj) (so_iload_n (f := 2) (by decide +kernel) rfl (so_callS (by decide +kernel) kcf_113 rfl kw_385 kw_386 (by decide +kernel) (sb_113_0 hj) (so_if (off := 10) (tgt := 21) (by decide +kernel) (by decide) rfl (sb_122_21 hj) (so_iload_n (f := 3) (by decide +kernel) rfl (so_callS (by decide +kernel) kcf_113 rfl kw_385 kw_386 (by decide +kernel) (sb_113_0 hj) (so_if (off := 5) (tgt := 23) (by decide +kernel) (by decide) rfl (sb_122_23 hj) (sb_122_21 hj)))))))))
set_option maxRecDepth 20000 in
theorem sb_123_16 {j : AJ} (hj : SJ j) : Sound kM_123 16 (mb_123_16 j) := by
  unfold mb_123_16
  exact so_aload_n (f := 0) (by decide +kernel) rfl (so_aload_n (f := 0) (by decide +kernel) rfl (so_get (C := RX8) (T := TX8) (N := 8) (by decide +kernel) rfl kin_8 (by decide) kw_311 (b := true) rfl (fun _ => rfl) (so_aload_n (f := 0) (by decide +kernel) rfl (so_get (C := RX8) (T := TX8) (N := 8) (by decide +kernel) rfl kin_8 (by decide) kw_330 (b := true) rfl (fun _ => rfl) (so_iload_n (f := 1) (by decide +kernel) rfl (so_aaldG (by decide +kernel) (so_iconst (i := 1) (by decide +kernel) (by decide +kernel) (by decide) (so_callV (C := RX7) (T := TX7) (N0 := 8) (by decide +kernel) kcf_101 rfl rfl rfl kw_408 kw_409 kw_410 (by decide +kernel) (sb_101_0 hj) (so_iload_n (f := 2) (by decide +kernel) rfl (so_callV (C := RX8) (T := TX8) (N0 := 8) (by decide +kernel) kcf_114 rfl rfl rfl kw_382 kw_383 kw_384 (by decide +kernel) (sb_114_0 hj) (so_reti (by decide +kernel) rfl)))))))))))
set_option maxRecDepth 20000 in
theorem sb_123_14 {j : AJ} (hj : SJ j) : Sound kM_123 14 (mb_123_14 j) := by
  unfold mb_123_14
  exact so_iconst (i := -1) (by decide +kernel) (by decide +kernel) (by decide) (so_reti (by decide +kernel) rfl)
set_option maxRecDepth 20000 in
theorem sb_123_0 {j : AJ} (hj : SJ j) : Sound kM_123 0 (mb_123_0 j) := by
  unfold mb_123_0
  exact so_iload_n (f := 1) (by decide +kernel) rfl (so_callS (by decide +kernel) kcf_113 rfl kw_385 kw_386 (by decide +kernel) (sb_113_0 hj) (so_if (off := 10) (tgt := 14) (by decide +kernel) (by decide) rfl (sb_123_14 hj) (so_iload_n (f := 2) (by decide +kernel) rfl (so_callS (by decide +kernel) kcf_113 rfl kw_385 kw_386 (by decide +kernel) (sb_113_0 hj) (so_if (off := 5) (tgt := 16) (by decide +kernel) (by decide) rfl (sb_123_16 hj) (sb_123_14 hj))))))
set_option maxRecDepth 20000 in
theorem sb_124_59 {j : AJ} (hj : SJ j) : Sound kM_124 59 (mb_124_59 j) := by
  unfold mb_124_59
  exact so_aload_n (f := 0) (by decide +kernel) rfl (so_get (C := RX8) (T := TX8) (N := 8) (by decide +kernel) rfl kin_8 (by decide) kw_311 (b := true) rfl (fun _ => rfl) (so_aload_n (f := 0) (by decide +kernel) rfl (so_get (C := RX8) (T := TX8) (N := 8) (by decide +kernel) rfl kin_8 (by decide) kw_330 (b := true) rfl (fun _ => rfl) (so_iload_n (f := 1) (by decide +kernel) rfl (so_aaldG (by decide +kernel) (so_iconst (i := 0) (by decide +kernel) (by decide +kernel) (by decide) (so_callV (C := RX7) (T := TX7) (N0 := 8) (by decide +kernel) kcf_101 rfl rfl rfl kw_408 kw_409 kw_410 (by decide +kernel) (sb_101_0 hj) (so_pop (by decide +kernel) (so_aload_n (f := 0) (by decide +kernel) rfl (so_iload (by decide +kernel) (so_iload (by decide +kernel) (so_callV (C := RX8) (T := TX8) (N0 := 8) (by decide +kernel) kcf_114 rfl rfl rfl kw_382 kw_383 kw_384 (by decide +kernel) (sb_114_0 hj) (so_reti (by decide +kernel) rfl)))))))))))))
set_option maxRecDepth 20000 in
theorem sb_124_24 {j : AJ} (hj : SJ j) : Sound kM_124 24 (mb_124_24 j) := by
  unfold mb_124_24
  exact so_aload_n (f := 0) (by decide +kernel) rfl (so_get (C := RX8) (T := TX8) (N := 8) (by decide +kernel) rfl kin_8 (by decide) kw_330 (b := true) rfl (fun _ => rfl) (so_iload_n (f := 1) (by decide +kernel) rfl (so_aaldG (by decide +kernel) (so_iload_n (f := 2) (by decide +kernel) rfl (so_callV (C := RX1) (T := TX1) (N0 := 4) (by decide +kernel) kcf_19 rfl rfl rfl kw_411 kw_188 kw_189 (by decide +kernel) (sb_19_0 hj) (so_aload_n (f := 0) (by decide +kernel) rfl (so_get (C := RX8) (T := TX8) (N := 8) (by decide +kernel) rfl kin_8 (by decide) kw_330 (b := true) rfl (fun _ => rfl) (so_iload_n (f := 1) (by decide +kernel) rfl (so_aaldG (by decide +kernel) (so_getN (C := RX1) (T := TX1) (N := 4) (by decide +kernel) rfl kin_1 (by decide) kw_372 (b := false) rfl (fun _ => rfl) (so_iconst (i := 1) (by decide +kernel) (by decide +kernel) (by decide) (so_isub (by decide +kernel) (so_iload_n (f := 3) (by decide +kernel) rfl (so_callV (C := RX5) (T := TX5) (N0 := 2) (by decide +kernel) kcf_58 rfl rfl rfl kw_412 kw_155 kw_156 (by decide +kernel) (sb_58_0 hj) (so_istore (by decide +kernel) (by decide +kernel) (so_iload (by decide +kernel) (so_if (off := 6) (tgt := 59) (by decide +kernel) (by decide) rfl (sb_124_59 hj) (so_bipush (i := -4) (by decide +kernel) (by decide +kernel) (by decide) (so_reti (by decide +kernel) rfl)))))))))))))))))))
set_option maxRecDepth 20000 in
theorem sb_124_22 {j : AJ} (hj : SJ j) : Sound kM_124 22 (mb_124_22 j) := by
  unfold mb_124_22
  exact so_iconst (i := -1) (by decide +kernel) (by decide +kernel) (by decide) (so_reti (by decide +kernel) rfl)
set_option maxRecDepth 20000 in
theorem sb_124_0 {j : AJ} (hj : SJ j) : Sound kM_124 0 (mb_124_0 j) := by
  unfold mb_124_0
  exact so_iload_n (f := 1) (by decide +kernel) rfl (so_callS (by decide +kernel) kcf_113 rfl kw_385 kw_386 (by decide +kernel) (sb_113_0 hj) (so_if (off := 18) (tgt := 22) (by decide +kernel) (by decide) rfl (sb_124_22 hj) (so_iload_n (f := 2) (by decide +kernel) rfl (so_callS (by decide +kernel) kcf_45 rfl kw_350 kw_125 (by decide +kernel) (sb_45_0 hj) (so_if (off := 11) (tgt := 22) (by decide +kernel) (by decide) rfl (sb_124_22 hj) (so_iload (by decide +kernel) (so_callS (by decide +kernel) kcf_113 rfl kw_385 kw_386 (by decide +kernel) (sb_113_0 hj) (so_if (off := 5) (tgt := 24) (by decide +kernel) (by decide) rfl (sb_124_24 hj) (sb_124_22 hj)))))))))
set_option maxRecDepth 20000 in
theorem sb_125_99 {j : AJ} (hj : SJ j) : Sound kM_125 99 (mb_125_99 j) := by
  unfold mb_125_99
  exact so_iconst (i := -1) (by decide +kernel) (by decide +kernel) (by decide) (so_reti (by decide +kernel) rfl)
set_option maxRecDepth 20000 in
theorem sb_125_90 {j : AJ} (hj : SJ j) : Sound kM_125 90 (mb_125_90 j) := by
  unfold mb_125_90
  exact so_aload_n (f := 0) (by decide +kernel) rfl (so_get (C := RX8) (T := TX8) (N := 8) (by decide +kernel) rfl kin_8 (by decide) kw_323 (b := true) rfl (fun _ => rfl) (so_aload_n (f := 3) (by decide +kernel) rfl (so_callV (C := RX6) (T := TX6) (N0 := 4) (by decide +kernel) kcf_74 rfl rfl rfl kw_413 kw_414 kw_415 (by decide +kernel) (sb_74_0 hj) (so_reti (by decide +kernel) rfl))))
set_option maxRecDepth 20000 in
theorem sb_125_76 {j : AJ} (hj : SJ j) : Sound kM_125 76 (mb_125_76 j) := by
  unfold mb_125_76
  exact so_aload_n (f := 3) (by decide +kernel) rfl (so_getN (C := RX1) (T := TX1) (N := 4) (by decide +kernel) rfl kin_1 (by decide) kw_416 (b := true) rfl (fun _ => rfl) (so_aload_n (f := 3) (by decide +kernel) rfl (so_getN (C := RX1) (T := TX1) (N := 4) (by decide +kernel) rfl kin_1 (by decide) kw_372 (b := false) rfl (fun _ => rfl) (so_iconst (i := 1) (by decide +kernel) (by decide +kernel) (by decide) (so_isub (by decide +kernel) (so_callV (C := RX5) (T := TX5) (N0 := 2) (by decide +kernel) kcf_32 rfl rfl rfl kw_417 kw_83 kw_84 (by decide +kernel) (sb_32_0 hj) (so_reti (by decide +kernel) rfl)))))))
set_option maxRecDepth 20000 in
theorem sb_125_62 {j : AJ} (hj : SJ j) : Sound kM_125 62 (mb_125_62 j) := by
  unfold mb_125_62
  exact so_aload_n (f := 3) (by decide +kernel) rfl (so_getN (C := RX1) (T := TX1) (N := 4) (by decide +kernel) rfl kin_1 (by decide) kw_418 (b := true) rfl (fun _ => rfl) (so_aload_n (f := 3) (by decide +kernel) rfl (so_getN (C := RX1) (T := TX1) (N := 4) (by decide +kernel) rfl kin_1 (by decide) kw_372 (b := false) rfl (fun _ => rfl) (so_iconst (i := 1) (by decide +kernel) (by decide +kernel) (by decide) (so_isub (by decide +kernel) (so_callV (C := RX5) (T := TX5) (N0 := 2) (by decide +kernel) kcf_32 rfl rfl rfl kw_417 kw_83 kw_84 (by decide +kernel) (sb_32_0 hj) (so_reti (by decide +kernel) rfl)))))))
set_option maxRecDepth 20000 in
theorem sb_125_57 {j : AJ} (hj : SJ j) : Sound kM_125 57 (mb_125_57 j) := by
  unfold mb_125_57
  exact so_aload_n (f := 3) (by decide +kernel) rfl (so_getN (C := RX1) (T := TX1) (N := 4) (by decide +kernel) rfl kin_1 (by decide) kw_393 (b := false) rfl (fun _ => rfl) (so_reti (by decide +kernel) rfl))
set_option maxRecDepth 20000 in
theorem sb_125_52 {j : AJ} (hj : SJ j) : Sound kM_125 52 (mb_125_52 j) := by
  unfold mb_125_52
  exact so_aload_n (f := 3) (by decide +kernel) rfl (so_getN (C := RX1) (T := TX1) (N := 4) (by decide +kernel) rfl kin_1 (by decide) kw_372 (b := false) rfl (fun _ => rfl) (so_reti (by decide +kernel) rfl))
set_option maxRecDepth 20000 in
theorem sb_125_9 {j : AJ} (hj : SJ j) : Sound kM_125 9 (mb_125_9 j) := by
  unfold mb_125_9
  exact so_aload_n (f := 0) (by decide +kernel) rfl (so_get (C := RX8) (T := TX8) (N := 8) (by decide +kernel) rfl kin_8 (by decide) kw_330 (b := true) rfl (fun _ => rfl) (so_iload_n (f := 1) (by decide +kernel) rfl (so_aaldG (by decide +kernel) (so_astore_n (f := 3) (by decide +kernel) rfl (by decide +kernel) (so_iload_n (f := 2) (by decide +kernel) rfl (so_tswU (Nat.le_of_ble_eq_true rfl) (so_tsw2 (dflt := 82) (hi := 4) (offs := #[35, 40, 45, 59, 73]) (len := 35) (tdf := 99) (tg := [52, 57, 62, 76, 90]) (by decide +kernel) (by decide) (by decide) rfl (by decide) (by decide +kernel) ⟨(sb_125_52 hj), (sb_125_57 hj), (sb_125_62 hj), (sb_125_76 hj), (sb_125_90 hj), trivial⟩ (sb_125_99 hj))))))))
set_option maxRecDepth 20000 in
theorem sb_125_0 {j : AJ} (hj : SJ j) : Sound kM_125 0 (mb_125_0 j) := by
  unfold mb_125_0
  exact so_iload_n (f := 1) (by decide +kernel) rfl (so_callS (by decide +kernel) kcf_113 rfl kw_385 kw_386 (by decide +kernel) (sb_113_0 hj) (so_if (off := 5) (tgt := 9) (by decide +kernel) (by decide) rfl (sb_125_9 hj) (so_iconst (i := -1) (by decide +kernel) (by decide +kernel) (by decide) (so_reti (by decide +kernel) rfl))))
set_option maxRecDepth 20000 in
theorem sb_126_44 {j : AJ} (hj : SJ j) : Sound kM_126 44 (mb_126_44 j) := by
  unfold mb_126_44
  exact so_aload_n (f := 0) (by decide +kernel) rfl (so_get (C := RX8) (T := TX8) (N := 8) (by decide +kernel) rfl kin_8 (by decide) kw_311 (b := true) rfl (fun _ => rfl) (so_aload_n (f := 0) (by decide +kernel) rfl (so_get (C := RX8) (T := TX8) (N := 8) (by decide +kernel) rfl kin_8 (by decide) kw_330 (b := true) rfl (fun _ => rfl) (so_iload_n (f := 1) (by decide +kernel) rfl (so_aaldG (by decide +kernel) (so_aload_n (f := 0) (by decide +kernel) rfl (so_get (C := RX8) (T := TX8) (N := 8) (by decide +kernel) rfl kin_8 (by decide) kw_330 (b := true) rfl (fun _ => rfl) (so_iload_n (f := 2) (by decide +kernel) rfl (so_aaldG (by decide +kernel) (so_callV (C := RX7) (T := TX7) (N0 := 8) (by decide +kernel) kcf_102 rfl rfl rfl kw_419 kw_420 kw_421 (by decide +kernel) (sb_102_0 hj) (so_reti (by decide +kernel) rfl)))))))))))
set_option maxRecDepth 20000 in
theorem sb_126_16 {j : AJ} (hj : SJ j) : Sound kM_126 16 (mb_126_16 j) := by
  unfold mb_126_16
  exact so_aload_n (f := 0) (by decide +kernel) rfl (so_get (C := RX8) (T := TX8) (N := 8) (by decide +kernel) rfl kin_8 (by decide) kw_330 (b := true) rfl (fun _ => rfl) (so_iload_n (f := 1) (by decide +kernel) rfl (so_aaldG (by decide +kernel) (so_getN (C := RX1) (T := TX1) (N := 4) (by decide +kernel) rfl kin_1 (by decide) kw_372 (b := false) rfl (fun _ => rfl) (so_aload_n (f := 0) (by decide +kernel) rfl (so_get (C := RX8) (T := TX8) (N := 8) (by decide +kernel) rfl kin_8 (by decide) kw_330 (b := true) rfl (fun _ => rfl) (so_iload_n (f := 2) (by decide +kernel) rfl (so_aaldG (by decide +kernel) (so_getN (C := RX1) (T := TX1) (N := 4) (by decide +kernel) rfl kin_1 (by decide) kw_372 (b := false) rfl (fun _ => rfl) (so_iadd (by decide +kernel) (so_sipush (i := 600) (by decide +kernel) (by decide +kernel) (by decide) (so_icmp (off := 6) (tgt := 44) (by decide +kernel) (by decide) rfl (sb_126_44 hj) (so_bipush (i := -3) (by decide +kernel) (by decide +kernel) (by decide) (so_reti (by decide +kernel) rfl))))))))))))))
set_option maxRecDepth 20000 in
theorem sb_126_14 {j : AJ} (hj : SJ j) : Sound kM_126 14 (mb_126_14 j) := by
  unfold mb_126_14
  exact so_iconst (i := -1) (by decide +kernel) (by decide +kernel) (by decide) (so_reti (by decide +kernel) rfl)
set_option maxRecDepth 20000 in
theorem sb_126_0 {j : AJ} (hj : SJ j) : Sound kM_126 0 (mb_126_0 j) := by
  unfold mb_126_0
  exact so_iload_n (f := 1) (by decide +kernel) rfl (so_callS (by decide +kernel) kcf_113 rfl kw_385 kw_386 (by decide +kernel) (sb_113_0 hj) (so_if (off := 10) (tgt := 14) (by decide +kernel) (by decide) rfl (sb_126_14 hj) (so_iload_n (f := 2) (by decide +kernel) rfl (so_callS (by decide +kernel) kcf_113 rfl kw_385 kw_386 (by decide +kernel) (sb_113_0 hj) (so_if (off := 5) (tgt := 16) (by decide +kernel) (by decide) rfl (sb_126_16 hj) (sb_126_14 hj))))))
set_option maxRecDepth 20000 in
theorem sb_127_28 {j : AJ} (hj : SJ j) : Sound kM_127 28 (mb_127_28 j) := by
  unfold mb_127_28
  exact so_reti (by decide +kernel) rfl
set_option maxRecDepth 20000 in
theorem sb_127_27 {j : AJ} (hj : SJ j) : Sound kM_127 27 (mb_127_27 j) := by
  unfold mb_127_27
  exact so_iconst (i := -1) (by decide +kernel) (by decide +kernel) (by decide) (sb_127_28 hj)
set_option maxRecDepth 20000 in
theorem sb_127_0 {j : AJ} (hj : SJ j) : Sound kM_127 0 (mb_127_0 j) := by
  unfold mb_127_0
  exact so_iload_n (f := 1) (by decide +kernel) rfl (so_callS (by decide +kernel) kcf_113 rfl kw_385 kw_386 (by decide +kernel) (sb_113_0 hj) (so_if (off := 23) (tgt := 27) (by decide +kernel) (by decide) rfl (sb_127_27 hj) (so_aload_n (f := 0) (by decide +kernel) rfl (so_get (C := RX8) (T := TX8) (N := 8) (by decide +kernel) rfl kin_8 (by decide) kw_311 (b := true) rfl (fun _ => rfl) (so_aload_n (f := 0) (by decide +kernel) rfl (so_get (C := RX8) (T := TX8) (N := 8) (by decide +kernel) rfl kin_8 (by decide) kw_330 (b := true) rfl (fun _ => rfl) (so_iload_n (f := 1) (by decide +kernel) rfl (so_aaldG (by decide +kernel) (so_aload_n (f := 0) (by decide +kernel) rfl (so_get (C := RX8) (T := TX8) (N := 8) (by decide +kernel) rfl kin_8 (by decide) kw_299 (b := true) rfl (fun _ => rfl) (so_callV (C := RX7) (T := TX7) (N0 := 8) (by decide +kernel) kcf_102 rfl rfl rfl kw_419 kw_420 kw_421 (by decide +kernel) (sb_102_0 hj) (so_goto (off := 4) (tgt := 28) (by decide +kernel) (by decide) (sb_127_28 hj)))))))))))))
set_option maxRecDepth 20000 in
theorem sb_128_14 {j : AJ} (hj : SJ j) : Sound kM_128 14 (mb_128_14 j) := by
  unfold mb_128_14
  exact so_retz (by decide +kernel) rfl
set_option maxRecDepth 20000 in
theorem sb_128_13 {j : AJ} (hj : SJ j) : Sound kM_128 13 (mb_128_13 j) := by
  unfold mb_128_13
  exact so_iconst (i := 0) (by decide +kernel) (by decide +kernel) (by decide) (sb_128_14 hj)
set_option maxRecDepth 20000 in
theorem sb_128_9 {j : AJ} (hj : SJ j) : Sound kM_128 9 (mb_128_9 j) := by
  unfold mb_128_9
  exact so_iconst (i := 1) (by decide +kernel) (by decide +kernel) (by decide) (so_goto (off := 4) (tgt := 14) (by decide +kernel) (by decide) (sb_128_14 hj))
set_option maxRecDepth 20000 in
theorem sb_128_0 {j : AJ} (hj : SJ j) : Sound kM_128 0 (mb_128_0 j) := by
  unfold mb_128_0
  exact so_iload_n (f := 0) (by decide +kernel) rfl (so_if (off := 8) (tgt := 9) (by decide +kernel) (by decide) rfl (sb_128_9 hj) (so_iload_n (f := 0) (by decide +kernel) rfl (so_iconst (i := 1) (by decide +kernel) (by decide +kernel) (by decide) (so_icmp (off := 7) (tgt := 13) (by decide +kernel) (by decide) rfl (sb_128_13 hj) (sb_128_9 hj)))))
set_option maxRecDepth 20000 in
theorem sb_129_54 {j : AJ} (hj : SJ j) : Sound kM_129 54 (mb_129_54 j) := by
  unfold mb_129_54
  exact so_reti (by decide +kernel) rfl
set_option maxRecDepth 20000 in
theorem sb_129_52 {j : AJ} (hj : SJ j) : Sound kM_129 52 (mb_129_52 j) := by
  unfold mb_129_52
  exact so_ldci (i := 187) (by decide +kernel) kw_422 (by decide) (sb_129_54 hj)
set_option maxRecDepth 20000 in
theorem sb_129_17 {j : AJ} (hj : SJ j) : Sound kM_129 17 (mb_129_17 j) := by
  unfold mb_129_17
  exact so_aload_n (f := 0) (by decide +kernel) rfl (so_get (C := RX8) (T := TX8) (N := 8) (by decide +kernel) rfl kin_8 (by decide) kw_323 (b := true) rfl (fun _ => rfl) (so_aload_n (f := 0) (by decide +kernel) rfl (so_get (C := RX8) (T := TX8) (N := 8) (by decide +kernel) rfl kin_8 (by decide) kw_330 (b := true) rfl (fun _ => rfl) (so_iload_n (f := 1) (by decide +kernel) rfl (so_aaldG (by decide +kernel) (so_callV (C := RX6) (T := TX6) (N0 := 4) (by decide +kernel) kcf_74 rfl rfl rfl kw_413 kw_414 kw_415 (by decide +kernel) (sb_74_0 hj) (so_iconst (i := 1) (by decide +kernel) (by decide +kernel) (by decide) (so_icmp (off := 21) (tgt := 52) (by decide +kernel) (by decide) rfl (sb_129_52 hj) (so_aload_n (f := 0) (by decide +kernel) rfl (so_get (C := RX8) (T := TX8) (N := 8) (by decide +kernel) rfl kin_8 (by decide) kw_323 (b := true) rfl (fun _ => rfl) (so_aload_n (f := 0) (by decide +kernel) rfl (so_get (C := RX8) (T := TX8) (N := 8) (by decide +kernel) rfl kin_8 (by decide) kw_330 (b := true) rfl (fun _ => rfl) (so_iload_n (f := 1) (by decide +kernel) rfl (so_aaldG (by decide +kernel) (so_iconst (i := 0) (by decide +kernel) (by decide +kernel) (by decide) (so_iload_n (f := 2) (by decide +kernel) rfl (so_callV (C := RX6) (T := TX6) (N0 := 4) (by decide +kernel) kcf_75 rfl rfl rfl kw_423 kw_424 kw_425 (by decide +kernel) (sb_75_0 hj) (so_goto (off := 5) (tgt := 54) (by decide +kernel) (by decide) (sb_129_54 hj)))))))))))))))))))
set_option maxRecDepth 20000 in
theorem sb_129_14 {j : AJ} (hj : SJ j) : Sound kM_129 14 (mb_129_14 j) := by
  unfold mb_129_14
  exact so_ldci (i := 187) (by decide +kernel) kw_422 (by decide) (so_reti (by decide +kernel) rfl)
set_option maxRecDepth 20000 in
theorem sb_129_0 {j : AJ} (hj : SJ j) : Sound kM_129 0 (mb_129_0 j) := by
  unfold mb_129_0
  exact so_iload_n (f := 1) (by decide +kernel) rfl (so_callS (by decide +kernel) kcf_113 rfl kw_385 kw_386 (by decide +kernel) (sb_113_0 hj) (so_if (off := 10) (tgt := 14) (by decide +kernel) (by decide) rfl (sb_129_14 hj) (so_iload_n (f := 2) (by decide +kernel) rfl (so_callS (by decide +kernel) kcf_128 rfl kw_426 kw_427 (by decide +kernel) (sb_128_0 hj) (so_if (off := 6) (tgt := 17) (by decide +kernel) (by decide) rfl (sb_129_17 hj) (sb_129_14 hj))))))
set_option maxRecDepth 20000 in
theorem sb_130_53 {j : AJ} (hj : SJ j) : Sound kM_130 53 (mb_130_53 j) := by
  unfold mb_130_53
  exact so_reti (by decide +kernel) rfl
set_option maxRecDepth 20000 in
theorem sb_130_51 {j : AJ} (hj : SJ j) : Sound kM_130 51 (mb_130_51 j) := by
  unfold mb_130_51
  exact so_ldci (i := 187) (by decide +kernel) kw_422 (by decide) (sb_130_53 hj)
set_option maxRecDepth 20000 in
theorem sb_130_17 {j : AJ} (hj : SJ j) : Sound kM_130 17 (mb_130_17 j) := by
  unfold mb_130_17
  exact so_aload_n (f := 0) (by decide +kernel) rfl (so_get (C := RX8) (T := TX8) (N := 8) (by decide +kernel) rfl kin_8 (by decide) kw_323 (b := true) rfl (fun _ => rfl) (so_aload_n (f := 0) (by decide +kernel) rfl (so_get (C := RX8) (T := TX8) (N := 8) (by decide +kernel) rfl kin_8 (by decide) kw_330 (b := true) rfl (fun _ => rfl) (so_iload_n (f := 1) (by decide +kernel) rfl (so_aaldG (by decide +kernel) (so_callV (C := RX6) (T := TX6) (N0 := 4) (by decide +kernel) kcf_74 rfl rfl rfl kw_413 kw_414 kw_415 (by decide +kernel) (sb_74_0 hj) (so_iconst (i := 3) (by decide +kernel) (by decide +kernel) (by decide) (so_icmp (off := 20) (tgt := 51) (by decide +kernel) (by decide) rfl (sb_130_51 hj) (so_aload_n (f := 0) (by decide +kernel) rfl (so_get (C := RX8) (T := TX8) (N := 8) (by decide +kernel) rfl kin_8 (by decide) kw_323 (b := true) rfl (fun _ => rfl) (so_aload_n (f := 0) (by decide +kernel) rfl (so_get (C := RX8) (T := TX8) (N := 8) (by decide +kernel) rfl kin_8 (by decide) kw_330 (b := true) rfl (fun _ => rfl) (so_iload_n (f := 1) (by decide +kernel) rfl (so_aaldG (by decide +kernel) (so_iload_n (f := 2) (by decide +kernel) rfl (so_callV (C := RX6) (T := TX6) (N0 := 4) (by decide +kernel) kcf_77 rfl rfl rfl kw_428 kw_429 kw_430 (by decide +kernel) (sb_77_0 hj) (so_goto (off := 5) (tgt := 53) (by decide +kernel) (by decide) (sb_130_53 hj))))))))))))))))))
set_option maxRecDepth 20000 in
theorem sb_130_14 {j : AJ} (hj : SJ j) : Sound kM_130 14 (mb_130_14 j) := by
  unfold mb_130_14
  exact so_ldci (i := 187) (by decide +kernel) kw_422 (by decide) (so_reti (by decide +kernel) rfl)
set_option maxRecDepth 20000 in
theorem sb_130_0 {j : AJ} (hj : SJ j) : Sound kM_130 0 (mb_130_0 j) := by
  unfold mb_130_0
  exact so_iload_n (f := 1) (by decide +kernel) rfl (so_callS (by decide +kernel) kcf_113 rfl kw_385 kw_386 (by decide +kernel) (sb_113_0 hj) (so_if (off := 10) (tgt := 14) (by decide +kernel) (by decide) rfl (sb_130_14 hj) (so_iload_n (f := 2) (by decide +kernel) rfl (so_callS (by decide +kernel) kcf_128 rfl kw_426 kw_427 (by decide +kernel) (sb_128_0 hj) (so_if (off := 6) (tgt := 17) (by decide +kernel) (by decide) rfl (sb_130_17 hj) (sb_130_14 hj))))))
set_option maxRecDepth 20000 in
theorem sb_131_24 {j : AJ} (hj : SJ j) : Sound kM_131 24 (mb_131_24 j) := by
  unfold mb_131_24
  exact so_aload_n (f := 0) (by decide +kernel) rfl (so_get (C := RX8) (T := TX8) (N := 8) (by decide +kernel) rfl kin_8 (by decide) kw_323 (b := true) rfl (fun _ => rfl) (so_aload_n (f := 0) (by decide +kernel) rfl (so_get (C := RX8) (T := TX8) (N := 8) (by decide +kernel) rfl kin_8 (by decide) kw_330 (b := true) rfl (fun _ => rfl) (so_iload_n (f := 1) (by decide +kernel) rfl (so_aaldG (by decide +kernel) (so_iload_n (f := 2) (by decide +kernel) rfl (so_iload_n (f := 3) (by decide +kernel) rfl (so_callV (C := RX6) (T := TX6) (N0 := 4) (by decide +kernel) kcf_75 rfl rfl rfl kw_423 kw_424 kw_425 (by decide +kernel) (sb_75_0 hj) (so_reti (by decide +kernel) rfl)))))))))
set_option maxRecDepth 20000 in
theorem sb_131_21 {j : AJ} (hj : SJ j) : Sound kM_131 21 (mb_131_21 j) := by
  unfold mb_131_21
  exact so_ldci (i := 187) (by decide +kernel) kw_422 (by decide) (so_reti (by decide +kernel) rfl)
set_option maxRecDepth 20000 in
theorem sb_131_0 {j : AJ} (hj : SJ j) : Sound kM_131 0 (mb_131_0 j) := by
  unfold mb_131_0
  exact so_iload_n (f := 1) (by decide +kernel) rfl (so_callS (by decide +kernel) kcf_113 rfl kw_385 kw_386 (by decide +kernel) (sb_113_0 hj) (so_if (off := 17) (tgt := 21) (by decide +kernel) (by decide) rfl (sb_131_21 hj) (so_iload_n (f := 2) (by decide +kernel) rfl (so_callS (by decide +kernel) kcf_45 rfl kw_350 kw_125 (by decide +kernel) (sb_45_0 hj) (so_if (off := 10) (tgt := 21) (by decide +kernel) (by decide) rfl (sb_131_21 hj) (so_iload_n (f := 3) (by decide +kernel) rfl (so_callS (by decide +kernel) kcf_128 rfl kw_426 kw_427 (by decide +kernel) (sb_128_0 hj) (so_if (off := 6) (tgt := 24) (by decide +kernel) (by decide) rfl (sb_131_24 hj) (sb_131_21 hj)))))))))
set_option maxRecDepth 20000 in
theorem sb_132_114 {j : AJ} (hj : SJ j) : Sound kM_132 114 (mb_132_114 j) := by
  unfold mb_132_114
  exact so_iconst (i := 0) (by decide +kernel) (by decide +kernel) (by decide) (so_reti (by decide +kernel) rfl)
set_option maxRecDepth 20000 in
theorem sb_132_108 {j : AJ} (hj : SJ j) : Sound kM_132 108 (mb_132_108 j) := by
  unfold mb_132_108
  exact so_iinc (z := 1) (by decide +kernel) (by decide +kernel) (by decide) (by decide +kernel) (so_goto (off := -35) (tgt := 76) (by decide +kernel) (by decide) (hj 63 _ _ rfl))
set_option maxRecDepth 20000 in
theorem sb_132_76 {j : AJ} (hj : SJ j) : Sound kM_132 76 (mb_132_76 j) := by
  unfold mb_132_76
  exact so_iload (by decide +kernel) (so_bipush (i := 6) (by decide +kernel) (by decide +kernel) (by decide) (so_icmp (off := 34) (tgt := 114) (by decide +kernel) (by decide) rfl (sb_132_114 hj) (so_iload_n (f := 1) (by decide +kernel) rfl (so_iload (by decide +kernel) (so_sa1 (so_ishr (by decide +kernel) (so_iconst (i := 1) (by decide +kernel) (by decide +kernel) (by decide) (so_iand (by decide +kernel) (so_if (off := 19) (tgt := 108) (by decide +kernel) (by decide) rfl (sb_132_108 hj) (so_aload_n (f := 0) (by decide +kernel) rfl (so_get (C := RX8) (T := TX8) (N := 8) (by decide +kernel) rfl kin_8 (by decide) kw_305 (b := true) rfl (fun _ => rfl) (so_aload_n (f := 0) (by decide +kernel) rfl (so_get (C := RX8) (T := TX8) (N := 8) (by decide +kernel) rfl kin_8 (by decide) kw_332 (b := true) rfl (fun _ => rfl) (so_iload (by decide +kernel) (so_aaldG (by decide +kernel) (so_iload (by decide +kernel) (so_callV (C := RX3) (T := TX3) (N0 := 4) (by decide +kernel) kcf_43 rfl rfl rfl kw_376 kw_377 kw_378 (by decide +kernel) (sb_43_0 hj) (sb_132_108 hj))))))))))))))))))
set_option maxRecDepth 20000 in
theorem sb_132_66 {j : AJ} (hj : SJ j) : Sound kM_132 66 (mb_132_66 j) := by
  unfold mb_132_66
  exact so_aload_n (f := 0) (by decide +kernel) rfl (so_get (C := RX8) (T := TX8) (N := 8) (by decide +kernel) rfl kin_8 (by decide) kw_305 (b := true) rfl (fun _ => rfl) (so_callV (C := RX3) (T := TX3) (N0 := 4) (by decide +kernel) kcf_40 rfl rfl rfl kw_373 kw_374 kw_375 (by decide +kernel) (sb_40_0 hj) (so_iconst (i := 0) (by decide +kernel) (by decide +kernel) (by decide) (so_istore (by decide +kernel) (by decide +kernel) (sb_132_76 hj)))))
set_option maxRecDepth 20000 in
theorem sb_132_57 {j : AJ} (hj : SJ j) : Sound kM_132 57 (mb_132_57 j) := by
  unfold mb_132_57
  exact so_iload_n (f := 3) (by decide +kernel) rfl (so_bipush (i := 12) (by decide +kernel) (by decide +kernel) (by decide) (so_icmp (off := 6) (tgt := 66) (by decide +kernel) (by decide) rfl (sb_132_66 hj) (so_bipush (i := -3) (by decide +kernel) (by decide +kernel) (by decide) (so_reti (by decide +kernel) rfl))))
set_option maxRecDepth 20000 in
theorem sb_132_24 {j : AJ} (hj : SJ j) : Sound kM_132 24 (mb_132_24 j) := by
  unfold mb_132_24
  exact so_iload (by decide +kernel) (so_bipush (i := 6) (by decide +kernel) (by decide +kernel) (by decide) (so_icmp (off := 29) (tgt := 57) (by decide +kernel) (by decide) rfl (sb_132_57 hj) (so_iload_n (f := 3) (by decide +kernel) rfl (so_iload_n (f := 1) (by decide +kernel) rfl (so_iload (by decide +kernel) (so_sa1 (so_ishr (by decide +kernel) (so_iconst (i := 1) (by decide +kernel) (by decide +kernel) (by decide) (so_iand (by decide +kernel) (so_aload_n (f := 0) (by decide +kernel) rfl (so_get (C := RX8) (T := TX8) (N := 8) (by decide +kernel) rfl kin_8 (by decide) kw_332 (b := true) rfl (fun _ => rfl) (so_iload (by decide +kernel) (so_aaldG (by decide +kernel) (so_callV (C := RX0) (T := TX0) (N0 := 4) (by decide +kernel) kcf_6 rfl rfl rfl kw_343 kw_115 kw_116 (by decide +kernel) (sb_6_0 hj) (so_imul (by decide +kernel) (so_iadd (by decide +kernel) (so_istore_n (f := 3) (by decide +kernel) rfl (by decide +kernel) (so_iinc (z := 1) (by decide +kernel) (by decide +kernel) (by decide) (by decide +kernel) (so_goto (off := -30) (tgt := 24) (by decide +kernel) (by decide) (hj 62 _ _ rfl))))))))))))))))))))
set_option maxRecDepth 20000 in
theorem sb_132_19 {j : AJ} (hj : SJ j) : Sound kM_132 19 (mb_132_19 j) := by
  unfold mb_132_19
  exact so_iconst (i := 0) (by decide +kernel) (by decide +kernel) (by decide) (so_istore_n (f := 3) (by decide +kernel) rfl (by decide +kernel) (so_iconst (i := 0) (by decide +kernel) (by decide +kernel) (by decide) (so_istore (by decide +kernel) (by decide +kernel) (sb_132_24 hj))))
set_option maxRecDepth 20000 in
theorem sb_132_17 {j : AJ} (hj : SJ j) : Sound kM_132 17 (mb_132_17 j) := by
  unfold mb_132_17
  exact so_iconst (i := -1) (by decide +kernel) (by decide +kernel) (by decide) (so_reti (by decide +kernel) rfl)
set_option maxRecDepth 20000 in
theorem sb_132_0 {j : AJ} (hj : SJ j) : Sound kM_132 0 (mb_132_0 j) := by
  unfold mb_132_0
  exact so_iload_n (f := 1) (by decide +kernel) rfl (so_if (off := 16) (tgt := 17) (by decide +kernel) (by decide) rfl (sb_132_17 hj) (so_iload_n (f := 1) (by decide +kernel) rfl (so_bipush (i := 64) (by decide +kernel) (by decide +kernel) (by decide) (so_icmp (off := 10) (tgt := 17) (by decide +kernel) (by decide) rfl (sb_132_17 hj) (so_iload_n (f := 2) (by decide +kernel) rfl (so_callS (by decide +kernel) kcf_45 rfl kw_350 kw_125 (by decide +kernel) (sb_45_0 hj) (so_if (off := 5) (tgt := 19) (by decide +kernel) (by decide) rfl (sb_132_19 hj) (sb_132_17 hj))))))))
set_option maxRecDepth 20000 in
theorem sb_133_33 {j : AJ} (hj : SJ j) : Sound kM_133 33 (mb_133_33 j) := by
  unfold mb_133_33
  exact so_reti (by decide +kernel) rfl
set_option maxRecDepth 20000 in
theorem sb_133_32 {j : AJ} (hj : SJ j) : Sound kM_133 32 (mb_133_32 j) := by
  unfold mb_133_32
  exact so_iconst (i := 0) (by decide +kernel) (by decide +kernel) (by decide) (sb_133_33 hj)
set_option maxRecDepth 20000 in
theorem sb_133_13 {j : AJ} (hj : SJ j) : Sound kM_133 13 (mb_133_13 j) := by
  unfold mb_133_13
  exact so_aload_n (f := 0) (by decide +kernel) rfl (so_get (C := RX8) (T := TX8) (N := 8) (by decide +kernel) rfl kin_8 (by decide) kw_329 (b := true) rfl (fun _ => rfl) (so_aload_n (f := 0) (by decide +kernel) rfl (so_get (C := RX8) (T := TX8) (N := 8) (by decide +kernel) rfl kin_8 (by decide) kw_305 (b := true) rfl (fun _ => rfl) (so_iload_n (f := 2) (by decide +kernel) rfl (so_callV (C := RX4) (T := TX4) (N0 := 1) (by decide +kernel) kcf_52 rfl rfl rfl kw_431 kw_432 kw_433 (by decide +kernel) (sb_52_0 hj) (so_if (off := 7) (tgt := 32) (by decide +kernel) (by decide) rfl (sb_133_32 hj) (so_iconst (i := 1) (by decide +kernel) (by decide +kernel) (by decide) (so_goto (off := 4) (tgt := 33) (by decide +kernel) (by decide) (sb_133_33 hj)))))))))
set_option maxRecDepth 20000 in
theorem sb_133_6 {j : AJ} (hj : SJ j) : Sound kM_133 6 (mb_133_6 j) := by
  unfold mb_133_6
  exact so_istore_n (f := 3) (by decide +kernel) rfl (by decide +kernel) (so_iload_n (f := 3) (by decide +kernel) rfl (so_if (off := 5) (tgt := 13) (by decide +kernel) (by decide) rfl (sb_133_13 hj) (so_iload_n (f := 3) (by decide +kernel) rfl (so_reti (by decide +kernel) rfl))))
set_option maxRecDepth 20000 in
theorem sb_133_3 {j : AJ} (hj : SJ j) : Sound kM_133 3 (mb_133_3 j) := by
  unfold mb_133_3
  exact so_callV (C := RX8) (T := TX8) (N0 := 8) (by decide +kernel) kcf_132 rfl rfl rfl kw_434 kw_435 kw_436 (by decide +kernel) (sb_132_0 hj) (sb_133_6 hj)
set_option maxRecDepth 20000 in
theorem sb_133_0 {j : AJ} (hj : SJ j) : Sound kM_133 0 (mb_133_0 j) := by
  unfold mb_133_0
  exact so_aload_n (f := 0) (by decide +kernel) rfl (so_iload_n (f := 1) (by decide +kernel) rfl (so_iload_n (f := 2) (by decide +kernel) rfl (sb_133_3 hj)))
set_option maxRecDepth 20000 in
theorem sz_133_33 {j : AJ} (hj : SJ j) : Sound kM_133 33 (mz_133_33 j) := by
  unfold mz_133_33
  exact so_reti (by decide +kernel) rfl
set_option maxRecDepth 20000 in
theorem sz_133_32 {j : AJ} (hj : SJ j) : Sound kM_133 32 (mz_133_32 j) := by
  unfold mz_133_32
  exact so_iconst (i := 0) (by decide +kernel) (by decide +kernel) (by decide) (sz_133_33 hj)
set_option maxRecDepth 20000 in
theorem sz_133_13 {j : AJ} (hj : SJ j) : Sound kM_133 13 (mz_133_13 j) := by
  unfold mz_133_13
  exact so_aload_n (f := 0) (by decide +kernel) rfl (so_get (C := RX8) (T := TX8) (N := 8) (by decide +kernel) rfl kin_8 (by decide) kw_329 (b := true) rfl (fun _ => rfl) (so_aload_n (f := 0) (by decide +kernel) rfl (so_get (C := RX8) (T := TX8) (N := 8) (by decide +kernel) rfl kin_8 (by decide) kw_305 (b := true) rfl (fun _ => rfl) (so_iload_n (f := 2) (by decide +kernel) rfl (so_callV (C := RX4) (T := TX4) (N0 := 1) (by decide +kernel) kcf_52 rfl rfl rfl kw_431 kw_432 kw_433 (by decide +kernel) (sb_52_0 hj) (so_if (off := 7) (tgt := 32) (by decide +kernel) (by decide) rfl (sz_133_32 hj) (so_iconst (i := 1) (by decide +kernel) (by decide +kernel) (by decide) (so_goto (off := 4) (tgt := 33) (by decide +kernel) (by decide) (sz_133_33 hj)))))))))
set_option maxRecDepth 20000 in
theorem sz_133_6 {j : AJ} (hj : SJ j) : Sound kM_133 6 (mz_133_6 j) := by
  unfold mz_133_6
  exact so_istore_n (f := 3) (by decide +kernel) rfl (by decide +kernel) (so_iload_n (f := 3) (by decide +kernel) rfl (so_if (off := 5) (tgt := 13) (by decide +kernel) (by decide) rfl (sz_133_13 hj) (so_iload_n (f := 3) (by decide +kernel) rfl (so_reti (by decide +kernel) rfl))))
set_option maxRecDepth 20000 in
theorem sz_133_0 {j : AJ} (hj : SJ j) : Sound kM_133 0 (mz_133_0 j) := by
  unfold mz_133_0
  exact so_aload_n (f := 0) (by decide +kernel) rfl (so_iload_n (f := 1) (by decide +kernel) rfl (so_iload_n (f := 2) (by decide +kernel) rfl (so_stop rfl)))
set_option maxRecDepth 20000 in
theorem pk_133_3 : MK kM_133 kM_132 3 yX8_layOut [true, true, true] (XV 8) := mk_V (C := RX8) (T := TX8) (N0 := 8) (pad := [none, none]) (n := 2) (by decide +kernel) kcf_132 rfl rfl rfl kw_434 kw_435 kw_436
set_option maxRecDepth 20000 in
theorem sb_134_39 {j : AJ} (hj : SJ j) : Sound kM_134 39 (mb_134_39 j) := by
  unfold mb_134_39
  exact so_reti (by decide +kernel) rfl
set_option maxRecDepth 20000 in
theorem sb_134_37 {j : AJ} (hj : SJ j) : Sound kM_134 37 (mb_134_37 j) := by
  unfold mb_134_37
  exact so_iload (by decide +kernel) (sb_134_39 hj)
set_option maxRecDepth 20000 in
theorem sb_134_13 {j : AJ} (hj : SJ j) : Sound kM_134 13 (mb_134_13 j) := by
  unfold mb_134_13
  exact so_aload_n (f := 0) (by decide +kernel) rfl (so_get (C := RX8) (T := TX8) (N := 8) (by decide +kernel) rfl kin_8 (by decide) kw_329 (b := true) rfl (fun _ => rfl) (so_aload_n (f := 0) (by decide +kernel) rfl (so_get (C := RX8) (T := TX8) (N := 8) (by decide +kernel) rfl kin_8 (by decide) kw_305 (b := true) rfl (fun _ => rfl) (so_iload_n (f := 2) (by decide +kernel) rfl (so_callV (C := RX4) (T := TX4) (N0 := 1) (by decide +kernel) kcf_53 rfl rfl rfl kw_437 kw_438 kw_439 (by decide +kernel) (sb_53_0 hj) (so_istore (by decide +kernel) (by decide +kernel) (so_iload (by decide +kernel) (so_if (off := 8) (tgt := 37) (by decide +kernel) (by decide) rfl (sb_134_37 hj) (so_bipush (i := -4) (by decide +kernel) (by decide +kernel) (by decide) (so_goto (off := 5) (tgt := 39) (by decide +kernel) (by decide) (sb_134_39 hj)))))))))))
set_option maxRecDepth 20000 in
theorem sb_134_6 {j : AJ} (hj : SJ j) : Sound kM_134 6 (mb_134_6 j) := by
  unfold mb_134_6
  exact so_istore_n (f := 3) (by decide +kernel) rfl (by decide +kernel) (so_iload_n (f := 3) (by decide +kernel) rfl (so_if (off := 5) (tgt := 13) (by decide +kernel) (by decide) rfl (sb_134_13 hj) (so_iload_n (f := 3) (by decide +kernel) rfl (so_reti (by decide +kernel) rfl))))
set_option maxRecDepth 20000 in
theorem sb_134_3 {j : AJ} (hj : SJ j) : Sound kM_134 3 (mb_134_3 j) := by
  unfold mb_134_3
  exact so_callV (C := RX8) (T := TX8) (N0 := 8) (by decide +kernel) kcf_132 rfl rfl rfl kw_434 kw_435 kw_436 (by decide +kernel) (sb_132_0 hj) (sb_134_6 hj)
set_option maxRecDepth 20000 in
theorem sb_134_0 {j : AJ} (hj : SJ j) : Sound kM_134 0 (mb_134_0 j) := by
  unfold mb_134_0
  exact so_aload_n (f := 0) (by decide +kernel) rfl (so_iload_n (f := 1) (by decide +kernel) rfl (so_iload_n (f := 2) (by decide +kernel) rfl (sb_134_3 hj)))
set_option maxRecDepth 20000 in
theorem sz_134_39 {j : AJ} (hj : SJ j) : Sound kM_134 39 (mz_134_39 j) := by
  unfold mz_134_39
  exact so_reti (by decide +kernel) rfl
set_option maxRecDepth 20000 in
theorem sz_134_37 {j : AJ} (hj : SJ j) : Sound kM_134 37 (mz_134_37 j) := by
  unfold mz_134_37
  exact so_iload (by decide +kernel) (sz_134_39 hj)
set_option maxRecDepth 20000 in
theorem sz_134_13 {j : AJ} (hj : SJ j) : Sound kM_134 13 (mz_134_13 j) := by
  unfold mz_134_13
  exact so_aload_n (f := 0) (by decide +kernel) rfl (so_get (C := RX8) (T := TX8) (N := 8) (by decide +kernel) rfl kin_8 (by decide) kw_329 (b := true) rfl (fun _ => rfl) (so_aload_n (f := 0) (by decide +kernel) rfl (so_get (C := RX8) (T := TX8) (N := 8) (by decide +kernel) rfl kin_8 (by decide) kw_305 (b := true) rfl (fun _ => rfl) (so_iload_n (f := 2) (by decide +kernel) rfl (so_callV (C := RX4) (T := TX4) (N0 := 1) (by decide +kernel) kcf_53 rfl rfl rfl kw_437 kw_438 kw_439 (by decide +kernel) (sb_53_0 hj) (so_istore (by decide +kernel) (by decide +kernel) (so_iload (by decide +kernel) (so_if (off := 8) (tgt := 37) (by decide +kernel) (by decide) rfl (sz_134_37 hj) (so_bipush (i := -4) (by decide +kernel) (by decide +kernel) (by decide) (so_goto (off := 5) (tgt := 39) (by decide +kernel) (by decide) (sz_134_39 hj)))))))))))
set_option maxRecDepth 20000 in
theorem sz_134_6 {j : AJ} (hj : SJ j) : Sound kM_134 6 (mz_134_6 j) := by
  unfold mz_134_6
  exact so_istore_n (f := 3) (by decide +kernel) rfl (by decide +kernel) (so_iload_n (f := 3) (by decide +kernel) rfl (so_if (off := 5) (tgt := 13) (by decide +kernel) (by decide) rfl (sz_134_13 hj) (so_iload_n (f := 3) (by decide +kernel) rfl (so_reti (by decide +kernel) rfl))))
set_option maxRecDepth 20000 in
theorem sz_134_0 {j : AJ} (hj : SJ j) : Sound kM_134 0 (mz_134_0 j) := by
  unfold mz_134_0
  exact so_aload_n (f := 0) (by decide +kernel) rfl (so_iload_n (f := 1) (by decide +kernel) rfl (so_iload_n (f := 2) (by decide +kernel) rfl (so_stop rfl)))
set_option maxRecDepth 20000 in
theorem pk_134_3 : MK kM_134 kM_132 3 yX8_layOut [true, true, true] (XV 8) := mk_V (C := RX8) (T := TX8) (N0 := 8) (pad := [none, none]) (n := 2) (by decide +kernel) kcf_132 rfl rfl rfl kw_434 kw_435 kw_436
set_option maxRecDepth 20000 in
theorem sb_135_321 {j : AJ} (hj : SJ j) : Sound kM_135 321 (mb_135_321 j) := by
  unfold mb_135_321
  exact so_retv (by decide +kernel) rfl
set_option maxRecDepth 20000 in
theorem sb_135_302 {j : AJ} (hj : SJ j) : Sound kM_135 302 (mb_135_302 j) := by
  unfold mb_135_302
  exact so_iload_n (f := 1) (by decide +kernel) rfl (so_bipush (i := 10) (by decide +kernel) (by decide +kernel) (by decide) (so_icmp (off := 16) (tgt := 321) (by decide +kernel) (by decide) rfl (sb_135_321 hj) (so_aload_n (f := 0) (by decide +kernel) rfl (so_get (C := RX9) (T := TX9) (N := 38) (by decide +kernel) rfl kin_9 (by decide) kw_440 (b := true) rfl (fun _ => rfl) (so_iload_n (f := 1) (by decide +kernel) rfl (so_iconst (i := 1) (by decide +kernel) (by decide +kernel) (by decide) (so_iast (by decide +kernel) (so_iinc (z := 1) (by decide +kernel) (by decide +kernel) (by decide) (by decide +kernel) (so_goto (off := -16) (tgt := 302) (by decide +kernel) (by decide) (hj 64 _ _ rfl))))))))))
set_option maxRecDepth 20000 in
theorem sb_135_0 {j : AJ} (hj : SJ j) : Sound kM_135 0 (mb_135_0 j) := by
  unfold mb_135_0
  exact so_aload_n (f := 0) (by decide +kernel) rfl (so_objInit (by decide +kernel) kw_441 kw_1 kw_2 (by decide +kernel) (so_aload_n (f := 0) (by decide +kernel) rfl (so_bipush (i := 6) (by decide +kernel) (by decide +kernel) (by decide) (so_newaI (by decide +kernel) kw_3 (so_putRF (C := RX9) (T := TX9) (N := 38) (ty0 := tyX9) (by decide +kernel) rfl kin_9 tyX9_ok nmX9 (by decide) kw_442 rfl rfl rfl (fun _ => rfl) (fun _ => rfl) rfl (so_aload_n (f := 0) (by decide +kernel) rfl (so_bipush (i := 48) (by decide +kernel) (by decide +kernel) (by decide) (so_newaI (by decide +kernel) kw_3 (so_putRF (C := RX9) (T := TX9) (N := 38) (ty0 := tyX9) (by decide +kernel) rfl kin_9 tyX9_ok nmX9 (by decide) kw_443 rfl rfl rfl (fun _ => rfl) (fun _ => rfl) rfl (so_aload_n (f := 0) (by decide +kernel) rfl (so_bipush (i := 6) (by decide +kernel) (by decide +kernel) (by decide) (so_newaI (by decide +kernel) kw_3 (so_putRF (C := RX9) (T := TX9) (N := 38) (ty0 := tyX9) (by decide +kernel) rfl kin_9 tyX9_ok nmX9 (by decide) kw_444 rfl rfl rfl (fun _ => rfl) (fun _ => rfl) rfl (so_aload_n (f := 0) (by decide +kernel) rfl (so_bipush (i := 10) (by decide +kernel) (by decide +kernel) (by decide) (so_newaI (by decide +kernel) kw_3 (so_putRF (C := RX9) (T := TX9) (N := 38) (ty0 := tyX9) (by decide +kernel) rfl kin_9 tyX9_ok nmX9 (by decide) kw_440 rfl rfl rfl (fun _ => rfl) (fun _ => rfl) rfl (so_aload_n (f := 0) (by decide +kernel) rfl (so_sipush (i := 5200) (by decide +kernel) (by decide +kernel) (by decide) (so_newaI (by decide +kernel) kw_3 (so_putRF (C := RX9) (T := TX9) (N := 38) (ty0 := tyX9) (by decide +kernel) rfl kin_9 tyX9_ok nmX9 (by decide) kw_445 rfl rfl rfl (fun _ => rfl) (fun _ => rfl) rfl (so_aload_n (f := 0) (by decide +kernel) rfl (so_sipush (i := 5200) (by decide +kernel) (by decide +kernel) (by decide) (so_newaI (by decide +kernel) kw_3 (so_putRF (C := RX9) (T := TX9) (N := 38) (ty0 := tyX9) (by decide +kernel) rfl kin_9 tyX9_ok nmX9 (by decide) kw_446 rfl rfl rfl (fun _ => rfl) (fun _ => rfl) rfl (so_aload_n (f := 0) (by decide +kernel) rfl (so_sipush (i := 5200) (by decide +kernel) (by decide +kernel) (by decide) (so_newaI (by decide +kernel) kw_3 (so_putRF (C := RX9) (T := TX9) (N := 38) (ty0 := tyX9) (by decide +kernel) rfl kin_9 tyX9_ok nmX9 (by decide) kw_447 rfl rfl rfl (fun _ => rfl) (fun _ => rfl) rfl (so_aload_n (f := 0) (by decide +kernel) rfl (so_sipush (i := 5200) (by decide +kernel) (by decide +kernel) (by decide) (so_newaI (by decide +kernel) kw_3 (so_putRF (C := RX9) (T := TX9) (N := 38) (ty0 := tyX9) (by decide +kernel) rfl kin_9 tyX9_ok nmX9 (by decide) kw_448 rfl rfl rfl (fun _ => rfl) (fun _ => rfl) rfl (so_aload_n (f := 0) (by decide +kernel) rfl (so_ldci (i := 34) (by decide +kernel) kw_449 (by decide) (so_newaI (by decide +kernel) kw_3 (so_putRF (C := RX9) (T := TX9) (N := 38) (ty0 := tyX9) (by decide +kernel) rfl kin_9 tyX9_ok nmX9 (by decide) kw_450 rfl rfl rfl (fun _ => rfl) (fun _ => rfl) rfl (so_aload_n (f := 0) (by decide +kernel) rfl (so_sipush (i := 1601) (by decide +kernel) (by decide +kernel) (by decide) (so_newaI (by decide +kernel) kw_3 (so_putRF (C := RX9) (T := TX9) (N := 38) (ty0 := tyX9) (by decide +kernel) rfl kin_9 tyX9_ok nmX9 (by decide) kw_451 rfl rfl rfl (fun _ => rfl) (fun _ => rfl) rfl (so_aload_n (f := 0) (by decide +kernel) rfl (so_sipush (i := 1601) (by decide +kernel) (by decide +kernel) (by decide) (so_newaI (by decide +kernel) kw_3 (so_putRF (C := RX9) (T := TX9) (N := 38) (ty0 := tyX9) (by decide +kernel) rfl kin_9 tyX9_ok nmX9 (by decide) kw_452 rfl rfl rfl (fun _ => rfl) (fun _ => rfl) rfl (so_aload_n (f := 0) (by decide +kernel) rfl (so_sipush (i := 1601) (by decide +kernel) (by decide +kernel) (by decide) (so_newaI (by decide +kernel) kw_3 (so_putRF (C := RX9) (T := TX9) (N := 38) (ty0 := tyX9) (by decide +kernel) rfl kin_9 tyX9_ok nmX9 (by decide) kw_453 rfl rfl rfl (fun _ => rfl) (fun _ => rfl) rfl (so_aload_n (f := 0) (by decide +kernel) rfl (so_sipush (i := 1601) (by decide +kernel) (by decide +kernel) (by decide) (so_newaI (by decide +kernel) kw_3 (so_putRF (C := RX9) (T := TX9) (N := 38) (ty0 := tyX9) (by decide +kernel) rfl kin_9 tyX9_ok nmX9 (by decide) kw_454 rfl rfl rfl (fun _ => rfl) (fun _ => rfl) rfl (so_aload_n (f := 0) (by decide +kernel) rfl (so_sipush (i := 1601) (by decide +kernel) (by decide +kernel) (by decide) (so_newaI (by decide +kernel) kw_3 (so_putRF (C := RX9) (T := TX9) (N := 38) (ty0 := tyX9) (by decide +kernel) rfl kin_9 tyX9_ok nmX9 (by decide) kw_455 rfl rfl rfl (fun _ => rfl) (fun _ => rfl) rfl (so_aload_n (f := 0) (by decide +kernel) rfl (so_ldci (i := 34) (by decide +kernel) kw_449 (by decide) (so_newaI (by decide +kernel) kw_3 (so_putRF (C := RX9) (T := TX9) (N := 38) (ty0 := tyX9) (by decide +kernel) rfl kin_9 tyX9_ok nmX9 (by decide) kw_456 rfl rfl rfl (fun _ => rfl) (fun _ => rfl) rfl (so_aload_n (f := 0) (by decide +kernel) rfl (so_ldci (i := 56) (by decide +kernel) kw_457 (by decide) (so_newaZ (by decide +kernel) kw_42 (so_putRF (C := RX9) (T := TX9) (N := 38) (ty0 := tyX9) (by decide +kernel) rfl kin_9 tyX9_ok nmX9 (by decide) kw_458 rfl rfl rfl (fun _ => rfl) (fun _ => rfl) rfl (so_aload_n (f := 0) (by decide +kernel) rfl (so_sipush (i := 1600) (by decide +kernel) (by decide +kernel) (by decide) (so_newaI (by decide +kernel) kw_3 (so_putRF (C := RX9) (T := TX9) (N := 38) (ty0 := tyX9) (by decide +kernel) rfl kin_9 tyX9_ok nmX9 (by decide) kw_459 rfl rfl rfl (fun _ => rfl) (fun _ => rfl) rfl (so_aload_n (f := 0) (by decide +kernel) rfl (so_sipush (i := 1600) (by decide +kernel) (by decide +kernel) (by decide) (so_newaI (by decide +kernel) kw_3 (so_putRF (C := RX9) (T := TX9) (N := 38) (ty0 := tyX9) (by decide +kernel) rfl kin_9 tyX9_ok nmX9 (by decide) kw_460 rfl rfl rfl (fun _ => rfl) (fun _ => rfl) rfl (so_aload_n (f := 0) (by decide +kernel) rfl (so_sipush (i := 1600) (by decide +kernel) (by decide +kernel) (by decide) (so_newaI (by decide +kernel) kw_3 (so_putRF (C := RX9) (T := TX9) (N := 38) (ty0 := tyX9) (by decide +kernel) rfl kin_9 tyX9_ok nmX9 (by decide) kw_461 rfl rfl rfl (fun _ => rfl) (fun _ => rfl) rfl (so_aload_n (f := 0) (by decide +kernel) rfl (so_sipush (i := 1600) (by decide +kernel) (by decide +kernel) (by decide) (so_newaI (by decide +kernel) kw_3 (so_putRF (C := RX9) (T := TX9) (N := 38) (ty0 := tyX9) (by decide +kernel) rfl kin_9 tyX9_ok nmX9 (by decide) kw_462 rfl rfl rfl (fun _ => rfl) (fun _ => rfl) rfl (so_aload_n (f := 0) (by decide +kernel) rfl (so_sipush (i := 2000) (by decide +kernel) (by decide +kernel) (by decide) (so_newaI (by decide +kernel) kw_3 (so_putRF (C := RX9) (T := TX9) (N := 38) (ty0 := tyX9) (by decide +kernel) rfl kin_9 tyX9_ok nmX9 (by decide) kw_463 rfl rfl rfl (fun _ => rfl) (fun _ => rfl) rfl (so_aload_n (f := 0) (by decide +kernel) rfl (so_ldci (i := 76) (by decide +kernel) kw_464 (by decide) (so_newaZ (by decide +kernel) kw_42 (so_putRF (C := RX9) (T := TX9) (N := 38) (ty0 := tyX9) (by decide +kernel) rfl kin_9 tyX9_ok nmX9 (by decide) kw_465 rfl rfl rfl (fun _ => rfl) (fun _ => rfl) rfl (so_aload_n (f := 0) (by decide +kernel) rfl (so_ldci (i := 76) (by decide +kernel) kw_464 (by decide) (so_newaI (by decide +kernel) kw_3 (so_putRF (C := RX9) (T := TX9) (N := 38) (ty0 := tyX9) (by decide +kernel) rfl kin_9 tyX9_ok nmX9 (by decide) kw_466 rfl rfl rfl (fun _ => rfl) (fun _ => rfl) rfl (so_aload_n (f := 0) (by decide +kernel) rfl (so_sipush (i := 520) (by decide +kernel) (by decide +kernel) (by decide) (so_newaZ (by decide +kernel) kw_42 (so_putRF (C := RX9) (T := TX9) (N := 38) (ty0 := tyX9) (by decide +kernel) rfl kin_9 tyX9_ok nmX9 (by decide) kw_467 rfl rfl rfl (fun _ => rfl) (fun _ => rfl) rfl (so_aload_n (f := 0) (by decide +kernel) rfl (so_sipush (i := 520) (by decide +kernel) (by decide +kernel) (by decide) (so_newaL (by decide +kernel) kw_29 (so_putRF (C := RX9) (T := TX9) (N := 38) (ty0 := tyX9) (by decide +kernel) rfl kin_9 tyX9_ok nmX9 (by decide) kw_468 rfl rfl rfl (fun _ => rfl) (fun _ => rfl) rfl (so_aload_n (f := 0) (by decide +kernel) rfl (so_sipush (i := 520) (by decide +kernel) (by decide +kernel) (by decide) (so_newaI (by decide +kernel) kw_3 (so_putRF (C := RX9) (T := TX9) (N := 38) (ty0 := tyX9) (by decide +kernel) rfl kin_9 tyX9_ok nmX9 (by decide) kw_469 rfl rfl rfl (fun _ => rfl) (fun _ => rfl) rfl (so_aload_n (f := 0) (by decide +kernel) rfl (so_sipush (i := 1040) (by decide +kernel) (by decide +kernel) (by decide) (so_newaL (by decide +kernel) kw_29 (so_putRF (C := RX9) (T := TX9) (N := 38) (ty0 := tyX9) (by decide +kernel) rfl kin_9 tyX9_ok nmX9 (by decide) kw_470 rfl rfl rfl (fun _ => rfl) (fun _ => rfl) rfl (so_aload_n (f := 0) (by decide +kernel) rfl (so_sipush (i := 1040) (by decide +kernel) (by decide +kernel) (by decide) (so_newaI (by decide +kernel) kw_3 (so_putRF (C := RX9) (T := TX9) (N := 38) (ty0 := tyX9) (by decide +kernel) rfl kin_9 tyX9_ok nmX9 (by decide) kw_471 rfl rfl rfl (fun _ => rfl) (fun _ => rfl) rfl (so_aload_n (f := 0) (by decide +kernel) rfl (so_bipush (i := 12) (by decide +kernel) (by decide +kernel) (by decide) (so_newaI (by decide +kernel) kw_3 (so_putRF (C := RX9) (T := TX9) (N := 38) (ty0 := tyX9) (by decide +kernel) rfl kin_9 tyX9_ok nmX9 (by decide) kw_472 rfl rfl rfl (fun _ => rfl) (fun _ => rfl) rfl (so_aload_n (f := 0) (by decide +kernel) rfl (so_sipush (i := 8192) (by decide +kernel) (by decide +kernel) (by decide) (so_newaZ (by decide +kernel) kw_42 (so_putRF (C := RX9) (T := TX9) (N := 38) (ty0 := tyX9) (by decide +kernel) rfl kin_9 tyX9_ok nmX9 (by decide) kw_473 rfl rfl rfl (fun _ => rfl) (fun _ => rfl) rfl (so_aload_n (f := 0) (by decide +kernel) rfl (so_sipush (i := 1600) (by decide +kernel) (by decide +kernel) (by decide) (so_newaI (by decide +kernel) kw_3 (so_putRF (C := RX9) (T := TX9) (N := 38) (ty0 := tyX9) (by decide +kernel) rfl kin_9 tyX9_ok nmX9 (by decide) kw_474 rfl rfl rfl (fun _ => rfl) (fun _ => rfl) rfl (so_aload_n (f := 0) (by decide +kernel) rfl (so_sipush (i := 1600) (by decide +kernel) (by decide +kernel) (by decide) (so_newaI (by decide +kernel) kw_3 (so_putRF (C := RX9) (T := TX9) (N := 38) (ty0 := tyX9) (by decide +kernel) rfl kin_9 tyX9_ok nmX9 (by decide) kw_475 rfl rfl rfl (fun _ => rfl) (fun _ => rfl) rfl (so_aload_n (f := 0) (by decide +kernel) rfl (so_sipush (i := 1600) (by decide +kernel) (by decide +kernel) (by decide) (so_newaI (by decide +kernel) kw_3 (so_putRF (C := RX9) (T := TX9) (N := 38) (ty0 := tyX9) (by decide +kernel) rfl kin_9 tyX9_ok nmX9 (by decide) kw_476 rfl rfl rfl (fun _ => rfl) (fun _ => rfl) rfl (so_aload_n (f := 0) (by decide +kernel) rfl (so_sipush (i := 1600) (by decide +kernel) (by decide +kernel) (by decide) (so_newaI (by decide +kernel) kw_3 (so_putRF (C := RX9) (T := TX9) (N := 38) (ty0 := tyX9) (by decide +kernel) rfl kin_9 tyX9_ok nmX9 (by decide) kw_477 rfl rfl rfl (fun _ => rfl) (fun _ => rfl) rfl (so_iconst (i := 0) (by decide +kernel) (by decide +kernel) (by decide) (so_istore_n (f := 1) (by decide +kernel) rfl (by decide +kernel) (sb_135_302 hj))))))))))))))))))))))))))))))))))))))))))))))))))))))))))))))))))))))))))))))))))))))))))))))))))))))))))))))))))))))))))))))))))))))))))))
