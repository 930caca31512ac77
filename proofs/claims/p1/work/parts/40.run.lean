/-! ===== loops: for every fuel the way back to a loop's head is sound ===== -/
theorem a_tv_eq {BT : List (List ABF)} {t : Nat} {f : ABF} (hf : (BT[t / 16]?).bind (fun l => l[t % 16]?) = some f) : a_tv BT t = some f := by
  obtain ⟨l, hl, hf⟩ := Option.bind_eq_some_iff.mp hf
  unfold a_tv
  rw [a_at_eq]
  show @Option.rec (List ABF) (fun _ => Option ABF) none (fun l => a_at l (t % 16)) BT[t / 16]? = _
  rw [hl]
  show a_at l (t % 16) = _
  rw [a_at_eq, hf]
/-- the block of a head, sound -/
def TS (j : AJ) (t : Nat) (M : AM) (pc : Nat) : Prop := ∃ f : ABF, a_tv k_BT t = some f ∧ Sound M pc (f j)
set_option maxRecDepth 20000 in
theorem tab_row_0 {j : AJ} (hj : SJ j) : ∀ (i : Nat) (M : AM) (pc : Nat), i < 16 → k_loops[0 + i]? = some (M, pc) → TS j (0 + i) M pc := by
  intro i M pc hi h
  match i, hi, h with
  | 0, _, h => cases h; exact ⟨_, a_tv_eq (t := 0) (f := mb_9_4) rfl, sb_9_4 hj⟩
  | 1, _, h => cases h; exact ⟨_, a_tv_eq (t := 1) (f := mb_12_4) rfl, sb_12_4 hj⟩
  | 2, _, h => cases h; exact ⟨_, a_tv_eq (t := 2) (f := mb_13_6) rfl, sb_13_6 hj⟩
  | 3, _, h => cases h; exact ⟨_, a_tv_eq (t := 3) (f := mb_14_9) rfl, sb_14_9 hj⟩
  | 4, _, h => cases h; exact ⟨_, a_tv_eq (t := 4) (f := mb_23_28) rfl, sb_23_28 hj⟩
  | 5, _, h => cases h; exact ⟨_, a_tv_eq (t := 5) (f := mb_24_7) rfl, sb_24_7 hj⟩
  | 6, _, h => cases h; exact ⟨_, a_tv_eq (t := 6) (f := mb_25_2) rfl, sb_25_2 hj⟩
  | 7, _, h => cases h; exact ⟨_, a_tv_eq (t := 7) (f := mb_25_29) rfl, sb_25_29 hj⟩
  | 8, _, h => cases h; exact ⟨_, a_tv_eq (t := 8) (f := mb_26_10) rfl, sb_26_10 hj⟩
  | 9, _, h => cases h; exact ⟨_, a_tv_eq (t := 9) (f := mb_27_2) rfl, sb_27_2 hj⟩
  | 10, _, h => cases h; exact ⟨_, a_tv_eq (t := 10) (f := mb_29_10) rfl, sb_29_10 hj⟩
  | 11, _, h => cases h; exact ⟨_, a_tv_eq (t := 11) (f := mb_31_14) rfl, sb_31_14 hj⟩
  | 12, _, h => cases h; exact ⟨_, a_tv_eq (t := 12) (f := mb_32_12) rfl, sb_32_12 hj⟩
  | 13, _, h => cases h; exact ⟨_, a_tv_eq (t := 13) (f := mb_33_20) rfl, sb_33_20 hj⟩
  | 14, _, h => cases h; exact ⟨_, a_tv_eq (t := 14) (f := mb_35_18) rfl, sb_35_18 hj⟩
  | 15, _, h => cases h; exact ⟨_, a_tv_eq (t := 15) (f := mb_36_3) rfl, sb_36_3 hj⟩
  | i + 16, hi, h => exact absurd hi (by omega)
set_option maxRecDepth 20000 in
theorem tab_row_1 {j : AJ} (hj : SJ j) : ∀ (i : Nat) (M : AM) (pc : Nat), i < 16 → k_loops[16 + i]? = some (M, pc) → TS j (16 + i) M pc := by
  intro i M pc hi h
  match i, hi, h with
  | 0, _, h => cases h; exact ⟨_, a_tv_eq (t := 16) (f := mb_37_7) rfl, sb_37_7 hj⟩
  | 1, _, h => cases h; exact ⟨_, a_tv_eq (t := 17) (f := mb_37_108) rfl, sb_37_108 hj⟩
  | 2, _, h => cases h; exact ⟨_, a_tv_eq (t := 18) (f := mb_38_30) rfl, sb_38_30 hj⟩
  | 3, _, h => cases h; exact ⟨_, a_tv_eq (t := 19) (f := mb_41_7) rfl, sb_41_7 hj⟩
  | 4, _, h => cases h; exact ⟨_, a_tv_eq (t := 20) (f := mb_43_21) rfl, sb_43_21 hj⟩
  | 5, _, h => cases h; exact ⟨_, a_tv_eq (t := 21) (f := mb_50_2) rfl, sb_50_2 hj⟩
  | 6, _, h => cases h; exact ⟨_, a_tv_eq (t := 22) (f := mb_51_62) rfl, sb_51_62 hj⟩
  | 7, _, h => cases h; exact ⟨_, a_tv_eq (t := 23) (f := mb_53_13) rfl, sb_53_13 hj⟩
  | 8, _, h => cases h; exact ⟨_, a_tv_eq (t := 24) (f := mb_56_23) rfl, sb_56_23 hj⟩
  | 9, _, h => cases h; exact ⟨_, a_tv_eq (t := 25) (f := mb_57_23) rfl, sb_57_23 hj⟩
  | 10, _, h => cases h; exact ⟨_, a_tv_eq (t := 26) (f := mb_58_10) rfl, sb_58_10 hj⟩
  | 11, _, h => cases h; exact ⟨_, a_tv_eq (t := 27) (f := mb_59_40) rfl, sb_59_40 hj⟩
  | 12, _, h => cases h; exact ⟨_, a_tv_eq (t := 28) (f := mb_64_12) rfl, sb_64_12 hj⟩
  | 13, _, h => cases h; exact ⟨_, a_tv_eq (t := 29) (f := mb_66_12) rfl, sb_66_12 hj⟩
  | 14, _, h => cases h; exact ⟨_, a_tv_eq (t := 30) (f := mb_67_2) rfl, sb_67_2 hj⟩
  | 15, _, h => cases h; exact ⟨_, a_tv_eq (t := 31) (f := mb_73_9) rfl, sb_73_9 hj⟩
  | i + 16, hi, h => exact absurd hi (by omega)
set_option maxRecDepth 20000 in
theorem tab_row_2 {j : AJ} (hj : SJ j) : ∀ (i : Nat) (M : AM) (pc : Nat), i < 16 → k_loops[32 + i]? = some (M, pc) → TS j (32 + i) M pc := by
  intro i M pc hi h
  match i, hi, h with
  | 0, _, h => cases h; exact ⟨_, a_tv_eq (t := 32) (f := mb_75_58) rfl, sb_75_58 hj⟩
  | 1, _, h => cases h; exact ⟨_, a_tv_eq (t := 33) (f := mb_81_2) rfl, sb_81_2 hj⟩
  | 2, _, h => cases h; exact ⟨_, a_tv_eq (t := 34) (f := mb_81_32) rfl, sb_81_32 hj⟩
  | 3, _, h => cases h; exact ⟨_, a_tv_eq (t := 35) (f := mb_81_81) rfl, sb_81_81 hj⟩
  | 4, _, h => cases h; exact ⟨_, a_tv_eq (t := 36) (f := mb_83_16) rfl, sb_83_16 hj⟩
  | 5, _, h => cases h; exact ⟨_, a_tv_eq (t := 37) (f := mb_84_10) rfl, sb_84_10 hj⟩
  | 6, _, h => cases h; exact ⟨_, a_tv_eq (t := 38) (f := mb_85_85) rfl, sb_85_85 hj⟩
  | 7, _, h => cases h; exact ⟨_, a_tv_eq (t := 39) (f := mb_85_130) rfl, sb_85_130 hj⟩
  | 8, _, h => cases h; exact ⟨_, a_tv_eq (t := 40) (f := mb_86_10) rfl, sb_86_10 hj⟩
  | 9, _, h => cases h; exact ⟨_, a_tv_eq (t := 41) (f := mb_88_3) rfl, sb_88_3 hj⟩
  | 10, _, h => cases h; exact ⟨_, a_tv_eq (t := 42) (f := mb_89_2) rfl, sb_89_2 hj⟩
  | 11, _, h => cases h; exact ⟨_, a_tv_eq (t := 43) (f := mb_89_30) rfl, sb_89_30 hj⟩
  | 12, _, h => cases h; exact ⟨_, a_tv_eq (t := 44) (f := mb_90_3) rfl, sb_90_3 hj⟩
  | 13, _, h => cases h; exact ⟨_, a_tv_eq (t := 45) (f := mb_91_34) rfl, sb_91_34 hj⟩
  | 14, _, h => cases h; exact ⟨_, a_tv_eq (t := 46) (f := mb_94_23) rfl, sb_94_23 hj⟩
  | 15, _, h => cases h; exact ⟨_, a_tv_eq (t := 47) (f := mb_95_65) rfl, sb_95_65 hj⟩
  | i + 16, hi, h => exact absurd hi (by omega)
set_option maxRecDepth 20000 in
theorem tab_row_3 {j : AJ} (hj : SJ j) : ∀ (i : Nat) (M : AM) (pc : Nat), i < 16 → k_loops[48 + i]? = some (M, pc) → TS j (48 + i) M pc := by
  intro i M pc hi h
  match i, hi, h with
  | 0, _, h => cases h; exact ⟨_, a_tv_eq (t := 48) (f := mb_96_37) rfl, sb_96_37 hj⟩
  | 1, _, h => cases h; exact ⟨_, a_tv_eq (t := 49) (f := mb_97_16) rfl, sb_97_16 hj⟩
  | 2, _, h => cases h; exact ⟨_, a_tv_eq (t := 50) (f := mb_98_4) rfl, sb_98_4 hj⟩
  | 3, _, h => cases h; exact ⟨_, a_tv_eq (t := 51) (f := mb_99_17) rfl, sb_99_17 hj⟩
  | 4, _, h => cases h; exact ⟨_, a_tv_eq (t := 52) (f := mb_99_63) rfl, sb_99_63 hj⟩
  | 5, _, h => cases h; exact ⟨_, a_tv_eq (t := 53) (f := mb_100_47) rfl, sb_100_47 hj⟩
  | 6, _, h => cases h; exact ⟨_, a_tv_eq (t := 54) (f := mb_100_35) rfl, sb_100_35 hj⟩
  | 7, _, h => cases h; exact ⟨_, a_tv_eq (t := 55) (f := mb_101_16) rfl, sb_101_16 hj⟩
  | 8, _, h => cases h; exact ⟨_, a_tv_eq (t := 56) (f := mb_102_44) rfl, sb_102_44 hj⟩
  | 9, _, h => cases h; exact ⟨_, a_tv_eq (t := 57) (f := mb_102_2) rfl, sb_102_2 hj⟩
  | 10, _, h => cases h; exact ⟨_, a_tv_eq (t := 58) (f := mb_103_15) rfl, sb_103_15 hj⟩
  | 11, _, h => cases h; exact ⟨_, a_tv_eq (t := 59) (f := mb_103_51) rfl, sb_103_51 hj⟩
  | 12, _, h => cases h; exact ⟨_, a_tv_eq (t := 60) (f := mb_119_2) rfl, sb_119_2 hj⟩
  | 13, _, h => cases h; exact ⟨_, a_tv_eq (t := 61) (f := mb_120_4) rfl, sb_120_4 hj⟩
  | 14, _, h => cases h; exact ⟨_, a_tv_eq (t := 62) (f := mb_132_24) rfl, sb_132_24 hj⟩
  | 15, _, h => cases h; exact ⟨_, a_tv_eq (t := 63) (f := mb_132_76) rfl, sb_132_76 hj⟩
  | i + 16, hi, h => exact absurd hi (by omega)
set_option maxRecDepth 20000 in
theorem tab_row_4 {j : AJ} (hj : SJ j) : ∀ (i : Nat) (M : AM) (pc : Nat), i < 16 → k_loops[64 + i]? = some (M, pc) → TS j (64 + i) M pc := by
  intro i M pc hi h
  match i, hi, h with
  | 0, _, h => cases h; exact ⟨_, a_tv_eq (t := 64) (f := mb_135_302) rfl, sb_135_302 hj⟩
  | 1, _, h => cases h; exact ⟨_, a_tv_eq (t := 65) (f := mb_138_4) rfl, sb_138_4 hj⟩
  | 2, _, h => cases h; exact ⟨_, a_tv_eq (t := 66) (f := mb_142_31) rfl, sb_142_31 hj⟩
  | 3, _, h => cases h; exact ⟨_, a_tv_eq (t := 67) (f := mb_142_18) rfl, sb_142_18 hj⟩
  | 4, _, h => cases h; exact ⟨_, a_tv_eq (t := 68) (f := mb_144_23) rfl, sb_144_23 hj⟩
  | 5, _, h => cases h; exact ⟨_, a_tv_eq (t := 69) (f := mb_147_30) rfl, sb_147_30 hj⟩
  | 6, _, h => cases h; exact ⟨_, a_tv_eq (t := 70) (f := mb_147_21) rfl, sb_147_21 hj⟩
  | 7, _, h => cases h; exact ⟨_, a_tv_eq (t := 71) (f := mb_151_120) rfl, sb_151_120 hj⟩
  | 8, _, h => cases h; exact ⟨_, a_tv_eq (t := 72) (f := mb_151_178) rfl, sb_151_178 hj⟩
  | 9, _, h => cases h; exact ⟨_, a_tv_eq (t := 73) (f := mb_151_5) rfl, sb_151_5 hj⟩
  | 10, _, h => cases h; exact ⟨_, a_tv_eq (t := 74) (f := mb_152_15) rfl, sb_152_15 hj⟩
  | 11, _, h => cases h; exact ⟨_, a_tv_eq (t := 75) (f := mb_152_4) rfl, sb_152_4 hj⟩
  | 12, _, h => cases h; exact ⟨_, a_tv_eq (t := 76) (f := mb_153_15) rfl, sb_153_15 hj⟩
  | 13, _, h => cases h; exact ⟨_, a_tv_eq (t := 77) (f := mb_153_2) rfl, sb_153_2 hj⟩
  | 14, _, h => cases h; exact ⟨_, a_tv_eq (t := 78) (f := mb_154_20) rfl, sb_154_20 hj⟩
  | 15, _, h => cases h; exact ⟨_, a_tv_eq (t := 79) (f := mb_154_63) rfl, sb_154_63 hj⟩
  | i + 16, hi, h => exact absurd hi (by omega)
set_option maxRecDepth 20000 in
theorem tab_row_5 {j : AJ} (hj : SJ j) : ∀ (i : Nat) (M : AM) (pc : Nat), i < 16 → k_loops[80 + i]? = some (M, pc) → TS j (80 + i) M pc := by
  intro i M pc hi h
  match i, hi, h with
  | 0, _, h => cases h; exact ⟨_, a_tv_eq (t := 80) (f := mb_154_123) rfl, sb_154_123 hj⟩
  | 1, _, h => cases h; exact ⟨_, a_tv_eq (t := 81) (f := mb_154_168) rfl, sb_154_168 hj⟩
  | 2, _, h => cases h; exact ⟨_, a_tv_eq (t := 82) (f := mb_154_7) rfl, sb_154_7 hj⟩
  | 3, _, h => cases h; exact ⟨_, a_tv_eq (t := 83) (f := mb_155_78) rfl, sb_155_78 hj⟩
  | 4, _, h => cases h; exact ⟨_, a_tv_eq (t := 84) (f := mb_155_19) rfl, sb_155_19 hj⟩
  | 5, _, h => cases h; exact ⟨_, a_tv_eq (t := 85) (f := mb_155_2) rfl, sb_155_2 hj⟩
  | 6, _, h => cases h; exact ⟨_, a_tv_eq (t := 86) (f := mb_156_78) rfl, sb_156_78 hj⟩
  | 7, _, h => cases h; exact ⟨_, a_tv_eq (t := 87) (f := mb_156_19) rfl, sb_156_19 hj⟩
  | 8, _, h => cases h; exact ⟨_, a_tv_eq (t := 88) (f := mb_156_2) rfl, sb_156_2 hj⟩
  | 9, _, h => cases h; exact ⟨_, a_tv_eq (t := 89) (f := mb_157_17) rfl, sb_157_17 hj⟩
  | 10, _, h => cases h; exact ⟨_, a_tv_eq (t := 90) (f := mb_157_4) rfl, sb_157_4 hj⟩
  | 11, _, h => cases h; exact ⟨_, a_tv_eq (t := 91) (f := mb_157_100) rfl, sb_157_100 hj⟩
  | 12, _, h => cases h; exact ⟨_, a_tv_eq (t := 92) (f := mb_157_145) rfl, sb_157_145 hj⟩
  | 13, _, h => cases h; exact ⟨_, a_tv_eq (t := 93) (f := mb_157_132) rfl, sb_157_132 hj⟩
  | 14, _, h => cases h; exact ⟨_, a_tv_eq (t := 94) (f := mb_157_228) rfl, sb_157_228 hj⟩
  | 15, _, h => cases h; exact ⟨_, a_tv_eq (t := 95) (f := mb_158_34) rfl, sb_158_34 hj⟩
  | i + 16, hi, h => exact absurd hi (by omega)
set_option maxRecDepth 20000 in
theorem tab_row_6 {j : AJ} (hj : SJ j) : ∀ (i : Nat) (M : AM) (pc : Nat), i < 16 → k_loops[96 + i]? = some (M, pc) → TS j (96 + i) M pc := by
  intro i M pc hi h
  match i, hi, h with
  | 0, _, h => cases h; exact ⟨_, a_tv_eq (t := 96) (f := mb_158_75) rfl, sb_158_75 hj⟩
  | 1, _, h => cases h; exact ⟨_, a_tv_eq (t := 97) (f := mb_159_2) rfl, sb_159_2 hj⟩
  | 2, _, h => cases h; exact ⟨_, a_tv_eq (t := 98) (f := mb_159_64) rfl, sb_159_64 hj⟩
  | 3, _, h => cases h; exact ⟨_, a_tv_eq (t := 99) (f := mb_159_190) rfl, sb_159_190 hj⟩
  | 4, _, h => cases h; exact ⟨_, a_tv_eq (t := 100) (f := mb_160_36) rfl, sb_160_36 hj⟩
  | 5, _, h => cases h; exact ⟨_, a_tv_eq (t := 101) (f := mb_163_30) rfl, sb_163_30 hj⟩
  | 6, _, h => cases h; exact ⟨_, a_tv_eq (t := 102) (f := mb_163_88) rfl, sb_163_88 hj⟩
  | 7, _, h => cases h; exact ⟨_, a_tv_eq (t := 103) (f := mb_163_4) rfl, sb_163_4 hj⟩
  | 8, _, h => cases h; exact ⟨_, a_tv_eq (t := 104) (f := mb_164_2) rfl, sb_164_2 hj⟩
  | 9, _, h => cases h; exact ⟨_, a_tv_eq (t := 105) (f := mb_164_38) rfl, sb_164_38 hj⟩
  | 10, _, h => cases h; exact ⟨_, a_tv_eq (t := 106) (f := mb_164_80) rfl, sb_164_80 hj⟩
  | 11, _, h => cases h; exact ⟨_, a_tv_eq (t := 107) (f := mb_164_31) rfl, sb_164_31 hj⟩
  | 12, _, h => cases h; exact ⟨_, a_tv_eq (t := 108) (f := mb_164_196) rfl, sb_164_196 hj⟩
  | 13, _, h => cases h; exact ⟨_, a_tv_eq (t := 109) (f := mb_164_263) rfl, sb_164_263 hj⟩
  | 14, _, h => cases h; exact ⟨_, a_tv_eq (t := 110) (f := mb_164_137) rfl, sb_164_137 hj⟩
  | 15, _, h => cases h; exact ⟨_, a_tv_eq (t := 111) (f := mb_166_2) rfl, sb_166_2 hj⟩
  | i + 16, hi, h => exact absurd hi (by omega)
set_option maxRecDepth 20000 in
theorem tab_row_7 {j : AJ} (hj : SJ j) : ∀ (i : Nat) (M : AM) (pc : Nat), i < 16 → k_loops[112 + i]? = some (M, pc) → TS j (112 + i) M pc := by
  intro i M pc hi h
  match i, hi, h with
  | 0, _, h => cases h; exact ⟨_, a_tv_eq (t := 112) (f := mb_167_42) rfl, sb_167_42 hj⟩
  | 1, _, h => cases h; exact ⟨_, a_tv_eq (t := 113) (f := mb_167_83) rfl, sb_167_83 hj⟩
  | 2, _, h => cases h; exact ⟨_, a_tv_eq (t := 114) (f := mb_167_75) rfl, sb_167_75 hj⟩
  | 3, _, h => cases h; exact ⟨_, a_tv_eq (t := 115) (f := mb_167_157) rfl, sb_167_157 hj⟩
  | 4, _, h => cases h; exact ⟨_, a_tv_eq (t := 116) (f := mb_169_10) rfl, sb_169_10 hj⟩
  | 5, _, h => cases h; exact ⟨_, a_tv_eq (t := 117) (f := mb_169_86) rfl, sb_169_86 hj⟩
  | 6, _, h => cases h; exact ⟨_, a_tv_eq (t := 118) (f := mb_169_168) rfl, sb_169_168 hj⟩
  | 7, _, h => cases h; exact ⟨_, a_tv_eq (t := 119) (f := mb_169_70) rfl, sb_169_70 hj⟩
  | 8, _, h => cases h; exact ⟨_, a_tv_eq (t := 120) (f := mb_171_2) rfl, sb_171_2 hj⟩
  | 9, _, h => cases h; exact ⟨_, a_tv_eq (t := 121) (f := mb_171_38) rfl, sb_171_38 hj⟩
  | 10, _, h => cases h; exact ⟨_, a_tv_eq (t := 122) (f := mb_171_80) rfl, sb_171_80 hj⟩
  | 11, _, h => cases h; exact ⟨_, a_tv_eq (t := 123) (f := mb_171_31) rfl, sb_171_31 hj⟩
  | 12, _, h => cases h; exact ⟨_, a_tv_eq (t := 124) (f := mb_171_130) rfl, sb_171_130 hj⟩
  | 13, _, h => cases h; exact ⟨_, a_tv_eq (t := 125) (f := mb_172_24) rfl, sb_172_24 hj⟩
  | 14, _, h => cases h; exact ⟨_, a_tv_eq (t := 126) (f := mb_172_53) rfl, sb_172_53 hj⟩
  | 15, _, h => cases h; exact ⟨_, a_tv_eq (t := 127) (f := mb_172_124) rfl, sb_172_124 hj⟩
  | i + 16, hi, h => exact absurd hi (by omega)
set_option maxRecDepth 20000 in
theorem tab_row_8 {j : AJ} (hj : SJ j) : ∀ (i : Nat) (M : AM) (pc : Nat), i < 16 → k_loops[128 + i]? = some (M, pc) → TS j (128 + i) M pc := by
  intro i M pc hi h
  match i, hi, h with
  | 0, _, h => cases h; exact ⟨_, a_tv_eq (t := 128) (f := mb_172_188) rfl, sb_172_188 hj⟩
  | 1, _, h => cases h; exact ⟨_, a_tv_eq (t := 129) (f := mb_172_252) rfl, sb_172_252 hj⟩
  | 2, _, h => cases h; exact ⟨_, a_tv_eq (t := 130) (f := mb_172_316) rfl, sb_172_316 hj⟩
  | 3, _, h => cases h; exact ⟨_, a_tv_eq (t := 131) (f := mb_172_92) rfl, sb_172_92 hj⟩
  | 4, _, h => cases h; exact ⟨_, a_tv_eq (t := 132) (f := mb_172_83) rfl, sb_172_83 hj⟩
  | 5, _, h => cases h; exact ⟨_, a_tv_eq (t := 133) (f := mb_173_71) rfl, sb_173_71 hj⟩
  | 6, _, h => cases h; exact ⟨_, a_tv_eq (t := 134) (f := mb_175_40) rfl, sb_175_40 hj⟩
  | 7, _, h => cases h; exact ⟨_, a_tv_eq (t := 135) (f := mb_175_86) rfl, sb_175_86 hj⟩
  | 8, _, h => cases h; exact ⟨_, a_tv_eq (t := 136) (f := mb_175_165) rfl, sb_175_165 hj⟩
  | 9, _, h => cases h; exact ⟨_, a_tv_eq (t := 137) (f := mb_175_214) rfl, sb_175_214 hj⟩
  | 10, _, h => cases h; exact ⟨_, a_tv_eq (t := 138) (f := mb_177_53) rfl, sb_177_53 hj⟩
  | 11, _, h => cases h; exact ⟨_, a_tv_eq (t := 139) (f := mb_177_111) rfl, sb_177_111 hj⟩
  | 12, _, h => cases h; exact ⟨_, a_tv_eq (t := 140) (f := mb_177_25) rfl, sb_177_25 hj⟩
  | 13, _, h => cases h; exact ⟨_, a_tv_eq (t := 141) (f := mb_180_7) rfl, sb_180_7 hj⟩
  | 14, _, h => cases h; exact ⟨_, a_tv_eq (t := 142) (f := mb_182_76) rfl, sb_182_76 hj⟩
  | 15, _, h => cases h; exact ⟨_, a_tv_eq (t := 143) (f := mb_182_11) rfl, sb_182_11 hj⟩
  | i + 16, hi, h => exact absurd hi (by omega)
set_option maxRecDepth 20000 in
theorem tab_row_9 {j : AJ} (hj : SJ j) : ∀ (i : Nat) (M : AM) (pc : Nat), i < 16 → k_loops[144 + i]? = some (M, pc) → TS j (144 + i) M pc := by
  intro i M pc hi h
  match i, hi, h with
  | 0, _, h => cases h; exact ⟨_, a_tv_eq (t := 144) (f := mb_183_2) rfl, sb_183_2 hj⟩
  | 1, _, h => cases h; exact ⟨_, a_tv_eq (t := 145) (f := mb_185_58) rfl, sb_185_58 hj⟩
  | 2, _, h => cases h; exact ⟨_, a_tv_eq (t := 146) (f := mb_185_12) rfl, sb_185_12 hj⟩
  | 3, _, h => cases h; exact ⟨_, a_tv_eq (t := 147) (f := mb_193_13) rfl, sb_193_13 hj⟩
  | 4, _, h => cases h; exact ⟨_, a_tv_eq (t := 148) (f := mb_193_4) rfl, sb_193_4 hj⟩
  | 5, _, h => cases h; exact ⟨_, a_tv_eq (t := 149) (f := mb_194_54) rfl, sb_194_54 hj⟩
  | 6, _, h => cases h; exact ⟨_, a_tv_eq (t := 150) (f := mb_195_22) rfl, sb_195_22 hj⟩
  | 7, _, h => cases h; exact ⟨_, a_tv_eq (t := 151) (f := mb_195_11) rfl, sb_195_11 hj⟩
  | 8, _, h => cases h; exact ⟨_, a_tv_eq (t := 152) (f := mb_195_2) rfl, sb_195_2 hj⟩
  | 9, _, h => cases h; exact ⟨_, a_tv_eq (t := 153) (f := mb_197_23) rfl, sb_197_23 hj⟩
  | 10, _, h => cases h
  | 11, _, h => cases h
  | 12, _, h => cases h
  | 13, _, h => cases h
  | 14, _, h => cases h
  | 15, _, h => cases h
  | i + 16, hi, h => exact absurd hi (by omega)
theorem tab_sound {j : AJ} (hj : SJ j) : ∀ (i : Nat) (M : AM) (pc : Nat), k_loops[i]? = some (M, pc) → TS j i M pc := by
  intro i M pc h
  have hlt : i < 154 := (List.getElem?_eq_some_iff.mp h).1
  have e : i = 16 * (i / 16) + i % 16 := (Nat.div_add_mod i 16).symm
  have hm : i % 16 < 16 := Nat.mod_lt _ (by decide)
  have hd : i / 16 < 10 := by omega
  rw [e] at h ⊢
  generalize i / 16 = q at *
  generalize i % 16 = r at *
  match q, hd with
  | 0, _ => exact tab_row_0 hj r M pc hm h
  | 1, _ => exact tab_row_1 hj r M pc hm h
  | 2, _ => exact tab_row_2 hj r M pc hm h
  | 3, _ => exact tab_row_3 hj r M pc hm h
  | 4, _ => exact tab_row_4 hj r M pc hm h
  | 5, _ => exact tab_row_5 hj r M pc hm h
  | 6, _ => exact tab_row_6 hj r M pc hm h
  | 7, _ => exact tab_row_7 hj r M pc hm h
  | 8, _ => exact tab_row_8 hj r M pc hm h
  | 9, _ => exact tab_row_9 hj r M pc hm h
  | q + 10, hd => exact absurd hd (by omega)
theorem run_sound : ∀ n : Nat, SJ (a_run k_BT n)
  | 0 => fun i M pc h L S hh r e => by cases e
  | n + 1 => by
    intro i M pc h L S hh r e
    obtain ⟨f, hf, hs⟩ := tab_sound (run_sound n) i M pc h
    have e : @Option.rec ABF (fun _ => AO) none (fun f => f (a_run k_BT n) L S hh) (a_tv k_BT i) = some r := e
    rw [hf] at e
    exact hs L S hh r e
/-- stops at heads: each at its own place in the code -/
def q_st (st : Nat → Option Nat) : Prop := ∀ (t p : Nat) (M : AM) (pc : Nat), st t = some p → k_loops[t]? = some (M, pc) → p = pc
theorem runS_sound {st : Nat → Option Nat} (hst : q_st st) : ∀ n : Nat, SJ (a_runS k_BT st n)
  | 0 => fun i M pc h L S hh r e => by cases e
  | n + 1 => by
    intro i M pc h L S hh r e
    have e : @Option.rec Nat (fun _ => AO) (@Option.rec ABF (fun _ => AO) none (fun f => f (a_runS k_BT st n) L S hh) (a_tv k_BT i)) (fun p => o_stop p L S hh) (st i) = some r := e
    cases hs : st i with
    | none =>
      rw [hs] at e
      obtain ⟨f, hf, hs⟩ := tab_sound (runS_sound hst n) i M pc h
      rw [hf] at e
      exact hs L S hh r e
    | some p =>
      rw [hs] at e
      exact so_stop (hst i p M pc hs h) L S hh r e
/-- the head t0 is passed so often, then it is a stop -/
noncomputable def a_runN (BT : List (List ABF)) (t0 p0 : Nat) (fuel : Nat) : Nat → AJ := @Nat.rec (fun _ => Nat → AJ) (fun _ _ _ _ _ => none) (fun _ ih n t L S h => @Bool.rec (fun _ => AO) (@Option.rec ABF (fun _ => AO) none (fun f => f (ih n) L S h) (a_tv BT t)) (@Nat.rec (fun _ => AO) (o_stop p0 L S h) (fun m _ => @Option.rec ABF (fun _ => AO) none (fun f => f (ih m) L S h) (a_tv BT t)) n) (Nat.beq t t0)) fuel
theorem runN_sound {t0 p0 : Nat} {M0 : AM} (ht : k_loops[t0]? = some (M0, p0)) : ∀ fuel n : Nat, SJ (a_runN k_BT t0 p0 fuel n)
  | 0, n => fun i M pc h L S hh r e => by cases e
  | f + 1, n => by
    intro i M pc h L S hh r e
    have go : ∀ m, @Option.rec ABF (fun _ => AO) none (fun g => g (a_runN k_BT t0 p0 f m) L S hh) (a_tv k_BT i) = some r → (a_le hh (a_rh r) ∧ rOK M.2.2.2.1 r) ∧ Claim M pc L S hh r := by
      intro m e
      obtain ⟨g, hg, hs⟩ := tab_sound (runN_sound ht f m) i M pc h
      rw [hg] at e
      exact hs L S hh r e
    have e : @Bool.rec (fun _ => AO) (@Option.rec ABF (fun _ => AO) none (fun g => g (a_runN k_BT t0 p0 f n) L S hh) (a_tv k_BT i)) (@Nat.rec (fun _ => AO) (o_stop p0 L S hh) (fun m _ => @Option.rec ABF (fun _ => AO) none (fun g => g (a_runN k_BT t0 p0 f m) L S hh) (a_tv k_BT i)) n) (Nat.beq i t0) = some r := e
    cases hb : Nat.beq i t0
    · rw [hb] at e
      exact go n e
    · rw [hb] at e
      have hb := beq_iff.mp hb
      subst hb
      rw [ht] at h
      cases h
      cases n with
      | zero => exact so_stop rfl L S hh r e
      | succ m =>
        have go2 := go
        obtain ⟨g, hg, hs⟩ := tab_sound (runN_sound ht f m) i M0 p0 ht
        have e : @Option.rec ABF (fun _ => AO) none (fun g => g (a_runN k_BT i p0 f m) L S hh) (a_tv k_BT i) = some r := e
        rw [hg] at e
        exact hs L S hh r e
