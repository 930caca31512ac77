/-! ===== loops: for every fuel the way back to a loop's head is sound ===== -/
theorem run_step {BT : List (List ABF)} {n t : Nat} {f : ABF} (hf : (BT[t / 16]?).bind (fun l => l[t % 16]?) = some f) : a_run BT (n + 1) t = f (a_run BT n) := by
  funext L S h
  obtain ⟨l, hl, hf⟩ := Option.bind_eq_some_iff.mp hf
  show a_nth (fun l => a_nth (fun f : ABF => f (a_run BT n) L S h) l (t % 16)) BT (t / 16) = _
  rw [a_nth_eq, hl]
  show a_nth (fun f : ABF => f (a_run BT n) L S h) l (t % 16) = _
  rw [a_nth_eq, hf]
  rfl
theorem so_ofEq {M : AM} {pc : Nat} {k k' : AK} (e : k' = k) (h : Sound M pc k) : Sound M pc k' := by rw [e]; exact h
set_option maxRecDepth 20000 in
theorem run_row_0 {n : Nat} (ih : SJ (a_run k_BT n)) : ∀ (i : Nat) (M : AM) (pc : Nat), i < 16 → k_loops[0 + i]? = some (M, pc) → Sound M pc (a_run k_BT (n + 1) (0 + i)) := by
  intro i M pc hi h
  match i, hi, h with
  | 0, _, h => cases h; exact so_ofEq (run_step (t := 0) (f := mb_9_4) rfl) (sb_9_4 ih)
  | 1, _, h => cases h; exact so_ofEq (run_step (t := 1) (f := mb_12_4) rfl) (sb_12_4 ih)
  | 2, _, h => cases h; exact so_ofEq (run_step (t := 2) (f := mb_13_6) rfl) (sb_13_6 ih)
  | 3, _, h => cases h; exact so_ofEq (run_step (t := 3) (f := mb_14_9) rfl) (sb_14_9 ih)
  | 4, _, h => cases h; exact so_ofEq (run_step (t := 4) (f := mb_23_28) rfl) (sb_23_28 ih)
  | 5, _, h => cases h; exact so_ofEq (run_step (t := 5) (f := mb_24_7) rfl) (sb_24_7 ih)
  | 6, _, h => cases h; exact so_ofEq (run_step (t := 6) (f := mb_25_2) rfl) (sb_25_2 ih)
  | 7, _, h => cases h; exact so_ofEq (run_step (t := 7) (f := mb_25_29) rfl) (sb_25_29 ih)
  | 8, _, h => cases h; exact so_ofEq (run_step (t := 8) (f := mb_26_10) rfl) (sb_26_10 ih)
  | 9, _, h => cases h; exact so_ofEq (run_step (t := 9) (f := mb_27_2) rfl) (sb_27_2 ih)
  | 10, _, h => cases h; exact so_ofEq (run_step (t := 10) (f := mb_29_10) rfl) (sb_29_10 ih)
  | 11, _, h => cases h; exact so_ofEq (run_step (t := 11) (f := mb_31_14) rfl) (sb_31_14 ih)
  | 12, _, h => cases h; exact so_ofEq (run_step (t := 12) (f := mb_32_12) rfl) (sb_32_12 ih)
  | 13, _, h => cases h; exact so_ofEq (run_step (t := 13) (f := mb_33_20) rfl) (sb_33_20 ih)
  | 14, _, h => cases h; exact so_ofEq (run_step (t := 14) (f := mb_35_18) rfl) (sb_35_18 ih)
  | 15, _, h => cases h; exact so_ofEq (run_step (t := 15) (f := mb_36_3) rfl) (sb_36_3 ih)
  | i + 16, hi, h => exact absurd hi (by omega)
set_option maxRecDepth 20000 in
theorem run_row_1 {n : Nat} (ih : SJ (a_run k_BT n)) : ∀ (i : Nat) (M : AM) (pc : Nat), i < 16 → k_loops[16 + i]? = some (M, pc) → Sound M pc (a_run k_BT (n + 1) (16 + i)) := by
  intro i M pc hi h
  match i, hi, h with
  | 0, _, h => cases h; exact so_ofEq (run_step (t := 16) (f := mb_37_7) rfl) (sb_37_7 ih)
  | 1, _, h => cases h; exact so_ofEq (run_step (t := 17) (f := mb_37_108) rfl) (sb_37_108 ih)
  | 2, _, h => cases h; exact so_ofEq (run_step (t := 18) (f := mb_38_30) rfl) (sb_38_30 ih)
  | 3, _, h => cases h; exact so_ofEq (run_step (t := 19) (f := mb_41_7) rfl) (sb_41_7 ih)
  | 4, _, h => cases h; exact so_ofEq (run_step (t := 20) (f := mb_43_21) rfl) (sb_43_21 ih)
  | 5, _, h => cases h; exact so_ofEq (run_step (t := 21) (f := mb_50_2) rfl) (sb_50_2 ih)
  | 6, _, h => cases h; exact so_ofEq (run_step (t := 22) (f := mb_51_62) rfl) (sb_51_62 ih)
  | 7, _, h => cases h; exact so_ofEq (run_step (t := 23) (f := mb_53_13) rfl) (sb_53_13 ih)
  | 8, _, h => cases h; exact so_ofEq (run_step (t := 24) (f := mb_56_23) rfl) (sb_56_23 ih)
  | 9, _, h => cases h; exact so_ofEq (run_step (t := 25) (f := mb_57_23) rfl) (sb_57_23 ih)
  | 10, _, h => cases h; exact so_ofEq (run_step (t := 26) (f := mb_58_10) rfl) (sb_58_10 ih)
  | 11, _, h => cases h; exact so_ofEq (run_step (t := 27) (f := mb_59_40) rfl) (sb_59_40 ih)
  | 12, _, h => cases h; exact so_ofEq (run_step (t := 28) (f := mb_64_12) rfl) (sb_64_12 ih)
  | 13, _, h => cases h; exact so_ofEq (run_step (t := 29) (f := mb_66_12) rfl) (sb_66_12 ih)
  | 14, _, h => cases h; exact so_ofEq (run_step (t := 30) (f := mb_67_2) rfl) (sb_67_2 ih)
  | 15, _, h => cases h; exact so_ofEq (run_step (t := 31) (f := mb_73_9) rfl) (sb_73_9 ih)
  | i + 16, hi, h => exact absurd hi (by omega)
set_option maxRecDepth 20000 in
theorem run_row_2 {n : Nat} (ih : SJ (a_run k_BT n)) : ∀ (i : Nat) (M : AM) (pc : Nat), i < 16 → k_loops[32 + i]? = some (M, pc) → Sound M pc (a_run k_BT (n + 1) (32 + i)) := by
  intro i M pc hi h
  match i, hi, h with
  | 0, _, h => cases h; exact so_ofEq (run_step (t := 32) (f := mb_75_58) rfl) (sb_75_58 ih)
  | 1, _, h => cases h; exact so_ofEq (run_step (t := 33) (f := mb_81_2) rfl) (sb_81_2 ih)
  | 2, _, h => cases h; exact so_ofEq (run_step (t := 34) (f := mb_81_32) rfl) (sb_81_32 ih)
  | 3, _, h => cases h; exact so_ofEq (run_step (t := 35) (f := mb_81_81) rfl) (sb_81_81 ih)
  | 4, _, h => cases h; exact so_ofEq (run_step (t := 36) (f := mb_83_16) rfl) (sb_83_16 ih)
  | 5, _, h => cases h; exact so_ofEq (run_step (t := 37) (f := mb_84_10) rfl) (sb_84_10 ih)
  | 6, _, h => cases h; exact so_ofEq (run_step (t := 38) (f := mb_85_85) rfl) (sb_85_85 ih)
  | 7, _, h => cases h; exact so_ofEq (run_step (t := 39) (f := mb_85_130) rfl) (sb_85_130 ih)
  | 8, _, h => cases h; exact so_ofEq (run_step (t := 40) (f := mb_86_10) rfl) (sb_86_10 ih)
  | 9, _, h => cases h; exact so_ofEq (run_step (t := 41) (f := mb_88_3) rfl) (sb_88_3 ih)
  | 10, _, h => cases h; exact so_ofEq (run_step (t := 42) (f := mb_89_2) rfl) (sb_89_2 ih)
  | 11, _, h => cases h; exact so_ofEq (run_step (t := 43) (f := mb_89_30) rfl) (sb_89_30 ih)
  | 12, _, h => cases h; exact so_ofEq (run_step (t := 44) (f := mb_90_3) rfl) (sb_90_3 ih)
  | 13, _, h => cases h; exact so_ofEq (run_step (t := 45) (f := mb_91_34) rfl) (sb_91_34 ih)
  | 14, _, h => cases h; exact so_ofEq (run_step (t := 46) (f := mb_94_23) rfl) (sb_94_23 ih)
  | 15, _, h => cases h; exact so_ofEq (run_step (t := 47) (f := mb_95_65) rfl) (sb_95_65 ih)
  | i + 16, hi, h => exact absurd hi (by omega)
set_option maxRecDepth 20000 in
theorem run_row_3 {n : Nat} (ih : SJ (a_run k_BT n)) : ∀ (i : Nat) (M : AM) (pc : Nat), i < 16 → k_loops[48 + i]? = some (M, pc) → Sound M pc (a_run k_BT (n + 1) (48 + i)) := by
  intro i M pc hi h
  match i, hi, h with
  | 0, _, h => cases h; exact so_ofEq (run_step (t := 48) (f := mb_96_37) rfl) (sb_96_37 ih)
  | 1, _, h => cases h; exact so_ofEq (run_step (t := 49) (f := mb_97_16) rfl) (sb_97_16 ih)
  | 2, _, h => cases h; exact so_ofEq (run_step (t := 50) (f := mb_98_4) rfl) (sb_98_4 ih)
  | 3, _, h => cases h; exact so_ofEq (run_step (t := 51) (f := mb_99_17) rfl) (sb_99_17 ih)
  | 4, _, h => cases h; exact so_ofEq (run_step (t := 52) (f := mb_99_63) rfl) (sb_99_63 ih)
  | 5, _, h => cases h; exact so_ofEq (run_step (t := 53) (f := mb_100_47) rfl) (sb_100_47 ih)
  | 6, _, h => cases h; exact so_ofEq (run_step (t := 54) (f := mb_100_35) rfl) (sb_100_35 ih)
  | 7, _, h => cases h; exact so_ofEq (run_step (t := 55) (f := mb_101_16) rfl) (sb_101_16 ih)
  | 8, _, h => cases h; exact so_ofEq (run_step (t := 56) (f := mb_102_44) rfl) (sb_102_44 ih)
  | 9, _, h => cases h; exact so_ofEq (run_step (t := 57) (f := mb_102_2) rfl) (sb_102_2 ih)
  | 10, _, h => cases h; exact so_ofEq (run_step (t := 58) (f := mb_103_15) rfl) (sb_103_15 ih)
  | 11, _, h => cases h; exact so_ofEq (run_step (t := 59) (f := mb_103_51) rfl) (sb_103_51 ih)
  | 12, _, h => cases h; exact so_ofEq (run_step (t := 60) (f := mb_119_2) rfl) (sb_119_2 ih)
  | 13, _, h => cases h; exact so_ofEq (run_step (t := 61) (f := mb_120_4) rfl) (sb_120_4 ih)
  | 14, _, h => cases h; exact so_ofEq (run_step (t := 62) (f := mb_132_24) rfl) (sb_132_24 ih)
  | 15, _, h => cases h; exact so_ofEq (run_step (t := 63) (f := mb_132_76) rfl) (sb_132_76 ih)
  | i + 16, hi, h => exact absurd hi (by omega)
set_option maxRecDepth 20000 in
theorem run_row_4 {n : Nat} (ih : SJ (a_run k_BT n)) : ∀ (i : Nat) (M : AM) (pc : Nat), i < 16 → k_loops[64 + i]? = some (M, pc) → Sound M pc (a_run k_BT (n + 1) (64 + i)) := by
  intro i M pc hi h
  match i, hi, h with
  | 0, _, h => cases h; exact so_ofEq (run_step (t := 64) (f := mb_135_302) rfl) (sb_135_302 ih)
  | 1, _, h => cases h; exact so_ofEq (run_step (t := 65) (f := mb_138_4) rfl) (sb_138_4 ih)
  | 2, _, h => cases h; exact so_ofEq (run_step (t := 66) (f := mb_142_31) rfl) (sb_142_31 ih)
  | 3, _, h => cases h; exact so_ofEq (run_step (t := 67) (f := mb_142_18) rfl) (sb_142_18 ih)
  | 4, _, h => cases h; exact so_ofEq (run_step (t := 68) (f := mb_144_23) rfl) (sb_144_23 ih)
  | 5, _, h => cases h; exact so_ofEq (run_step (t := 69) (f := mb_147_30) rfl) (sb_147_30 ih)
  | 6, _, h => cases h; exact so_ofEq (run_step (t := 70) (f := mb_147_21) rfl) (sb_147_21 ih)
  | 7, _, h => cases h; exact so_ofEq (run_step (t := 71) (f := mb_151_120) rfl) (sb_151_120 ih)
  | 8, _, h => cases h; exact so_ofEq (run_step (t := 72) (f := mb_151_178) rfl) (sb_151_178 ih)
  | 9, _, h => cases h; exact so_ofEq (run_step (t := 73) (f := mb_151_5) rfl) (sb_151_5 ih)
  | 10, _, h => cases h; exact so_ofEq (run_step (t := 74) (f := mb_152_15) rfl) (sb_152_15 ih)
  | 11, _, h => cases h; exact so_ofEq (run_step (t := 75) (f := mb_152_4) rfl) (sb_152_4 ih)
  | 12, _, h => cases h; exact so_ofEq (run_step (t := 76) (f := mb_153_15) rfl) (sb_153_15 ih)
  | 13, _, h => cases h; exact so_ofEq (run_step (t := 77) (f := mb_153_2) rfl) (sb_153_2 ih)
  | 14, _, h => cases h; exact so_ofEq (run_step (t := 78) (f := mb_154_20) rfl) (sb_154_20 ih)
  | 15, _, h => cases h; exact so_ofEq (run_step (t := 79) (f := mb_154_63) rfl) (sb_154_63 ih)
  | i + 16, hi, h => exact absurd hi (by omega)
set_option maxRecDepth 20000 in
theorem run_row_5 {n : Nat} (ih : SJ (a_run k_BT n)) : ∀ (i : Nat) (M : AM) (pc : Nat), i < 16 → k_loops[80 + i]? = some (M, pc) → Sound M pc (a_run k_BT (n + 1) (80 + i)) := by
  intro i M pc hi h
  match i, hi, h with
  | 0, _, h => cases h; exact so_ofEq (run_step (t := 80) (f := mb_154_123) rfl) (sb_154_123 ih)
  | 1, _, h => cases h; exact so_ofEq (run_step (t := 81) (f := mb_154_168) rfl) (sb_154_168 ih)
  | 2, _, h => cases h; exact so_ofEq (run_step (t := 82) (f := mb_154_7) rfl) (sb_154_7 ih)
  | 3, _, h => cases h; exact so_ofEq (run_step (t := 83) (f := mb_155_78) rfl) (sb_155_78 ih)
  | 4, _, h => cases h; exact so_ofEq (run_step (t := 84) (f := mb_155_19) rfl) (sb_155_19 ih)
  | 5, _, h => cases h; exact so_ofEq (run_step (t := 85) (f := mb_155_2) rfl) (sb_155_2 ih)
  | 6, _, h => cases h; exact so_ofEq (run_step (t := 86) (f := mb_156_78) rfl) (sb_156_78 ih)
  | 7, _, h => cases h; exact so_ofEq (run_step (t := 87) (f := mb_156_19) rfl) (sb_156_19 ih)
  | 8, _, h => cases h; exact so_ofEq (run_step (t := 88) (f := mb_156_2) rfl) (sb_156_2 ih)
  | 9, _, h => cases h; exact so_ofEq (run_step (t := 89) (f := mb_157_17) rfl) (sb_157_17 ih)
  | 10, _, h => cases h; exact so_ofEq (run_step (t := 90) (f := mb_157_4) rfl) (sb_157_4 ih)
  | 11, _, h => cases h; exact so_ofEq (run_step (t := 91) (f := mb_157_100) rfl) (sb_157_100 ih)
  | 12, _, h => cases h; exact so_ofEq (run_step (t := 92) (f := mb_157_145) rfl) (sb_157_145 ih)
  | 13, _, h => cases h; exact so_ofEq (run_step (t := 93) (f := mb_157_132) rfl) (sb_157_132 ih)
  | 14, _, h => cases h; exact so_ofEq (run_step (t := 94) (f := mb_157_228) rfl) (sb_157_228 ih)
  | 15, _, h => cases h; exact so_ofEq (run_step (t := 95) (f := mb_158_34) rfl) (sb_158_34 ih)
  | i + 16, hi, h => exact absurd hi (by omega)
set_option maxRecDepth 20000 in
theorem run_row_6 {n : Nat} (ih : SJ (a_run k_BT n)) : ∀ (i : Nat) (M : AM) (pc : Nat), i < 16 → k_loops[96 + i]? = some (M, pc) → Sound M pc (a_run k_BT (n + 1) (96 + i)) := by
  intro i M pc hi h
  match i, hi, h with
  | 0, _, h => cases h; exact so_ofEq (run_step (t := 96) (f := mb_158_75) rfl) (sb_158_75 ih)
  | 1, _, h => cases h; exact so_ofEq (run_step (t := 97) (f := mb_159_2) rfl) (sb_159_2 ih)
  | 2, _, h => cases h; exact so_ofEq (run_step (t := 98) (f := mb_159_64) rfl) (sb_159_64 ih)
  | 3, _, h => cases h; exact so_ofEq (run_step (t := 99) (f := mb_159_190) rfl) (sb_159_190 ih)
  | 4, _, h => cases h; exact so_ofEq (run_step (t := 100) (f := mb_160_36) rfl) (sb_160_36 ih)
  | 5, _, h => cases h; exact so_ofEq (run_step (t := 101) (f := mb_163_30) rfl) (sb_163_30 ih)
  | 6, _, h => cases h; exact so_ofEq (run_step (t := 102) (f := mb_163_88) rfl) (sb_163_88 ih)
  | 7, _, h => cases h; exact so_ofEq (run_step (t := 103) (f := mb_163_4) rfl) (sb_163_4 ih)
  | 8, _, h => cases h; exact so_ofEq (run_step (t := 104) (f := mb_164_2) rfl) (sb_164_2 ih)
  | 9, _, h => cases h; exact so_ofEq (run_step (t := 105) (f := mb_164_38) rfl) (sb_164_38 ih)
  | 10, _, h => cases h; exact so_ofEq (run_step (t := 106) (f := mb_164_80) rfl) (sb_164_80 ih)
  | 11, _, h => cases h; exact so_ofEq (run_step (t := 107) (f := mb_164_31) rfl) (sb_164_31 ih)
  | 12, _, h => cases h; exact so_ofEq (run_step (t := 108) (f := mb_164_196) rfl) (sb_164_196 ih)
  | 13, _, h => cases h; exact so_ofEq (run_step (t := 109) (f := mb_164_263) rfl) (sb_164_263 ih)
  | 14, _, h => cases h; exact so_ofEq (run_step (t := 110) (f := mb_164_137) rfl) (sb_164_137 ih)
  | 15, _, h => cases h; exact so_ofEq (run_step (t := 111) (f := mb_166_2) rfl) (sb_166_2 ih)
  | i + 16, hi, h => exact absurd hi (by omega)
set_option maxRecDepth 20000 in
theorem run_row_7 {n : Nat} (ih : SJ (a_run k_BT n)) : ∀ (i : Nat) (M : AM) (pc : Nat), i < 16 → k_loops[112 + i]? = some (M, pc) → Sound M pc (a_run k_BT (n + 1) (112 + i)) := by
  intro i M pc hi h
  match i, hi, h with
  | 0, _, h => cases h; exact so_ofEq (run_step (t := 112) (f := mb_167_42) rfl) (sb_167_42 ih)
  | 1, _, h => cases h; exact so_ofEq (run_step (t := 113) (f := mb_167_83) rfl) (sb_167_83 ih)
  | 2, _, h => cases h; exact so_ofEq (run_step (t := 114) (f := mb_167_75) rfl) (sb_167_75 ih)
  | 3, _, h => cases h; exact so_ofEq (run_step (t := 115) (f := mb_167_157) rfl) (sb_167_157 ih)
  | 4, _, h => cases h; exact so_ofEq (run_step (t := 116) (f := mb_169_10) rfl) (sb_169_10 ih)
  | 5, _, h => cases h; exact so_ofEq (run_step (t := 117) (f := mb_169_86) rfl) (sb_169_86 ih)
  | 6, _, h => cases h; exact so_ofEq (run_step (t := 118) (f := mb_169_168) rfl) (sb_169_168 ih)
  | 7, _, h => cases h; exact so_ofEq (run_step (t := 119) (f := mb_169_70) rfl) (sb_169_70 ih)
  | 8, _, h => cases h; exact so_ofEq (run_step (t := 120) (f := mb_171_2) rfl) (sb_171_2 ih)
  | 9, _, h => cases h; exact so_ofEq (run_step (t := 121) (f := mb_171_38) rfl) (sb_171_38 ih)
  | 10, _, h => cases h; exact so_ofEq (run_step (t := 122) (f := mb_171_80) rfl) (sb_171_80 ih)
  | 11, _, h => cases h; exact so_ofEq (run_step (t := 123) (f := mb_171_31) rfl) (sb_171_31 ih)
  | 12, _, h => cases h; exact so_ofEq (run_step (t := 124) (f := mb_171_130) rfl) (sb_171_130 ih)
  | 13, _, h => cases h; exact so_ofEq (run_step (t := 125) (f := mb_172_24) rfl) (sb_172_24 ih)
  | 14, _, h => cases h; exact so_ofEq (run_step (t := 126) (f := mb_172_53) rfl) (sb_172_53 ih)
  | 15, _, h => cases h; exact so_ofEq (run_step (t := 127) (f := mb_172_124) rfl) (sb_172_124 ih)
  | i + 16, hi, h => exact absurd hi (by omega)
set_option maxRecDepth 20000 in
theorem run_row_8 {n : Nat} (ih : SJ (a_run k_BT n)) : ∀ (i : Nat) (M : AM) (pc : Nat), i < 16 → k_loops[128 + i]? = some (M, pc) → Sound M pc (a_run k_BT (n + 1) (128 + i)) := by
  intro i M pc hi h
  match i, hi, h with
  | 0, _, h => cases h; exact so_ofEq (run_step (t := 128) (f := mb_172_188) rfl) (sb_172_188 ih)
  | 1, _, h => cases h; exact so_ofEq (run_step (t := 129) (f := mb_172_252) rfl) (sb_172_252 ih)
  | 2, _, h => cases h; exact so_ofEq (run_step (t := 130) (f := mb_172_316) rfl) (sb_172_316 ih)
  | 3, _, h => cases h; exact so_ofEq (run_step (t := 131) (f := mb_172_92) rfl) (sb_172_92 ih)
  | 4, _, h => cases h; exact so_ofEq (run_step (t := 132) (f := mb_172_83) rfl) (sb_172_83 ih)
  | 5, _, h => cases h; exact so_ofEq (run_step (t := 133) (f := mb_173_71) rfl) (sb_173_71 ih)
  | 6, _, h => cases h; exact so_ofEq (run_step (t := 134) (f := mb_175_40) rfl) (sb_175_40 ih)
  | 7, _, h => cases h; exact so_ofEq (run_step (t := 135) (f := mb_175_86) rfl) (sb_175_86 ih)
  | 8, _, h => cases h; exact so_ofEq (run_step (t := 136) (f := mb_175_165) rfl) (sb_175_165 ih)
  | 9, _, h => cases h; exact so_ofEq (run_step (t := 137) (f := mb_175_214) rfl) (sb_175_214 ih)
  | 10, _, h => cases h; exact so_ofEq (run_step (t := 138) (f := mb_177_53) rfl) (sb_177_53 ih)
  | 11, _, h => cases h; exact so_ofEq (run_step (t := 139) (f := mb_177_111) rfl) (sb_177_111 ih)
  | 12, _, h => cases h; exact so_ofEq (run_step (t := 140) (f := mb_177_25) rfl) (sb_177_25 ih)
  | 13, _, h => cases h; exact so_ofEq (run_step (t := 141) (f := mb_180_7) rfl) (sb_180_7 ih)
  | 14, _, h => cases h; exact so_ofEq (run_step (t := 142) (f := mb_182_76) rfl) (sb_182_76 ih)
  | 15, _, h => cases h; exact so_ofEq (run_step (t := 143) (f := mb_182_11) rfl) (sb_182_11 ih)
  | i + 16, hi, h => exact absurd hi (by omega)
set_option maxRecDepth 20000 in
theorem run_row_9 {n : Nat} (ih : SJ (a_run k_BT n)) : ∀ (i : Nat) (M : AM) (pc : Nat), i < 16 → k_loops[144 + i]? = some (M, pc) → Sound M pc (a_run k_BT (n + 1) (144 + i)) := by
  intro i M pc hi h
  match i, hi, h with
  | 0, _, h => cases h; exact so_ofEq (run_step (t := 144) (f := mb_183_2) rfl) (sb_183_2 ih)
  | 1, _, h => cases h; exact so_ofEq (run_step (t := 145) (f := mb_185_58) rfl) (sb_185_58 ih)
  | 2, _, h => cases h; exact so_ofEq (run_step (t := 146) (f := mb_185_12) rfl) (sb_185_12 ih)
  | 3, _, h => cases h; exact so_ofEq (run_step (t := 147) (f := mb_193_13) rfl) (sb_193_13 ih)
  | 4, _, h => cases h; exact so_ofEq (run_step (t := 148) (f := mb_193_4) rfl) (sb_193_4 ih)
  | 5, _, h => cases h; exact so_ofEq (run_step (t := 149) (f := mb_194_54) rfl) (sb_194_54 ih)
  | 6, _, h => cases h; exact so_ofEq (run_step (t := 150) (f := mb_195_22) rfl) (sb_195_22 ih)
  | 7, _, h => cases h; exact so_ofEq (run_step (t := 151) (f := mb_195_11) rfl) (sb_195_11 ih)
  | 8, _, h => cases h; exact so_ofEq (run_step (t := 152) (f := mb_195_2) rfl) (sb_195_2 ih)
  | 9, _, h => cases h; exact so_ofEq (run_step (t := 153) (f := mb_197_23) rfl) (sb_197_23 ih)
  | 10, _, h => cases h
  | 11, _, h => cases h
  | 12, _, h => cases h
  | 13, _, h => cases h
  | 14, _, h => cases h
  | 15, _, h => cases h
  | i + 16, hi, h => exact absurd hi (by omega)
theorem run_sound : ∀ n : Nat, SJ (a_run k_BT n)
  | 0 => fun i M pc h L S hh r e => by cases e
  | n + 1 => by
    have ih := run_sound n
    intro i M pc h
    have hlt : i < 154 := (List.getElem?_eq_some_iff.mp h).1
    have e : i = 16 * (i / 16) + i % 16 := (Nat.div_add_mod i 16).symm
    have hm : i % 16 < 16 := Nat.mod_lt _ (by decide)
    have hd : i / 16 < 10 := by omega
    rw [e] at h ⊢
    generalize i / 16 = q at *
    generalize i % 16 = r at *
    match q, hd with
    | 0, _ => exact run_row_0 ih r M pc hm h
    | 1, _ => exact run_row_1 ih r M pc hm h
    | 2, _ => exact run_row_2 ih r M pc hm h
    | 3, _ => exact run_row_3 ih r M pc hm h
    | 4, _ => exact run_row_4 ih r M pc hm h
    | 5, _ => exact run_row_5 ih r M pc hm h
    | 6, _ => exact run_row_6 ih r M pc hm h
    | 7, _ => exact run_row_7 ih r M pc hm h
    | 8, _ => exact run_row_8 ih r M pc hm h
    | 9, _ => exact run_row_9 ih r M pc hm h
    | q + 10, hd => exact absurd hd (by omega)
