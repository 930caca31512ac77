/-! ===== the words of the tables that the rows use ===== -/
def nestW (w : Jvm.Cond) : Bool := match w with
  | .fieldLinkNest _ _ _ _ _ _ => true
  | .methodLinkNest _ _ _ _ => true
  | .arrayOver (.object _) => true
  | _ => false
/-- the words of the tables that hold at every callee's start too -/
def k_tbl : List Jvm.Cond := lw_tbl.filter (fun w => goodWord w || nestW w)
theorem in_tbl {w : Jvm.Cond} (h : w ∈ lw_tbl) (hg : (goodWord w || nestW w) = true) : w ∈ k_tbl := List.mem_filter.mpr ⟨h, hg⟩
def a_i32 (n : Nat) : Int32 := Int32.ofNat n
def a_i64 (n : Nat) : Int64 := Int64.ofNat n
theorem in_t0 {w : Jvm.Cond} (h : w ∈ k2_sels lw_privs) : w ∈ lw_tbl := List.mem_append_left _ h
theorem in_t1 {w : Jvm.Cond} (h : w ∈ tables_1_1) : w ∈ lw_tbl := List.mem_append_right _ (List.mem_append_left _ h)
theorem in_t2 {w : Jvm.Cond} (h : w ∈ tables_1_2) : w ∈ lw_tbl := List.mem_append_right _ (List.mem_append_right _ (List.mem_append_left _ h))
theorem in_t3 {w : Jvm.Cond} (h : w ∈ tables_1_3) : w ∈ lw_tbl := List.mem_append_right _ (List.mem_append_right _ (List.mem_append_right _ (List.mem_append_left _ h)))
theorem in_t4 {w : Jvm.Cond} (h : w ∈ tables_1_4) : w ∈ lw_tbl := List.mem_append_right _ (List.mem_append_right _ (List.mem_append_right _ (List.mem_append_right _ (List.mem_append_left _ h))))
theorem in_t5 {w : Jvm.Cond} (h : w ∈ tables_1_5) : w ∈ lw_tbl := List.mem_append_right _ (List.mem_append_right _ (List.mem_append_right _ (List.mem_append_right _ (List.mem_append_right _ h))))
set_option maxRecDepth 20000 in
theorem kin0_0 : ∀ w ∈ u_ws RX0 TX0 4, w ∈ lw_tbl := by decide +kernel
set_option maxRecDepth 20000 in
theorem kin1_0 : ∀ w ∈ u_ws RX0 TX0 4, (goodWord w || nestW w) = true := by decide +kernel
set_option maxRecDepth 20000 in
theorem kin_0 : ∀ w ∈ u_ws RX0 TX0 4, w ∈ k_tbl := fun w h => in_tbl (kin0_0 w h) (kin1_0 w h)
set_option maxRecDepth 20000 in
theorem kin0_1 : ∀ w ∈ u_ws RX1 TX1 4, w ∈ lw_tbl := by decide +kernel
set_option maxRecDepth 20000 in
theorem kin1_1 : ∀ w ∈ u_ws RX1 TX1 4, (goodWord w || nestW w) = true := by decide +kernel
set_option maxRecDepth 20000 in
theorem kin_1 : ∀ w ∈ u_ws RX1 TX1 4, w ∈ k_tbl := fun w h => in_tbl (kin0_1 w h) (kin1_1 w h)
set_option maxRecDepth 20000 in
theorem kin0_2 : ∀ w ∈ u_ws RX2 TX2 4, w ∈ lw_tbl := by decide +kernel
set_option maxRecDepth 20000 in
theorem kin1_2 : ∀ w ∈ u_ws RX2 TX2 4, (goodWord w || nestW w) = true := by decide +kernel
set_option maxRecDepth 20000 in
theorem kin_2 : ∀ w ∈ u_ws RX2 TX2 4, w ∈ k_tbl := fun w h => in_tbl (kin0_2 w h) (kin1_2 w h)
set_option maxRecDepth 20000 in
theorem kin0_3 : ∀ w ∈ u_ws RX3 TX3 4, w ∈ lw_tbl := by decide +kernel
set_option maxRecDepth 20000 in
theorem kin1_3 : ∀ w ∈ u_ws RX3 TX3 4, (goodWord w || nestW w) = true := by decide +kernel
set_option maxRecDepth 20000 in
theorem kin_3 : ∀ w ∈ u_ws RX3 TX3 4, w ∈ k_tbl := fun w h => in_tbl (kin0_3 w h) (kin1_3 w h)
set_option maxRecDepth 20000 in
theorem kin0_4 : ∀ w ∈ u_ws RX4 TX4 1, w ∈ lw_tbl := by decide +kernel
set_option maxRecDepth 20000 in
theorem kin1_4 : ∀ w ∈ u_ws RX4 TX4 1, (goodWord w || nestW w) = true := by decide +kernel
set_option maxRecDepth 20000 in
theorem kin_4 : ∀ w ∈ u_ws RX4 TX4 1, w ∈ k_tbl := fun w h => in_tbl (kin0_4 w h) (kin1_4 w h)
set_option maxRecDepth 20000 in
theorem kin0_5 : ∀ w ∈ u_ws RX5 TX5 2, w ∈ lw_tbl := by decide +kernel
set_option maxRecDepth 20000 in
theorem kin1_5 : ∀ w ∈ u_ws RX5 TX5 2, (goodWord w || nestW w) = true := by decide +kernel
set_option maxRecDepth 20000 in
theorem kin_5 : ∀ w ∈ u_ws RX5 TX5 2, w ∈ k_tbl := fun w h => in_tbl (kin0_5 w h) (kin1_5 w h)
set_option maxRecDepth 20000 in
theorem kin0_6 : ∀ w ∈ u_ws RX6 TX6 4, w ∈ lw_tbl := by decide +kernel
set_option maxRecDepth 20000 in
theorem kin1_6 : ∀ w ∈ u_ws RX6 TX6 4, (goodWord w || nestW w) = true := by decide +kernel
set_option maxRecDepth 20000 in
theorem kin_6 : ∀ w ∈ u_ws RX6 TX6 4, w ∈ k_tbl := fun w h => in_tbl (kin0_6 w h) (kin1_6 w h)
set_option maxRecDepth 20000 in
theorem kin0_7 : ∀ w ∈ u_ws RX7 TX7 8, w ∈ lw_tbl := by decide +kernel
set_option maxRecDepth 20000 in
theorem kin1_7 : ∀ w ∈ u_ws RX7 TX7 8, (goodWord w || nestW w) = true := by decide +kernel
set_option maxRecDepth 20000 in
theorem kin_7 : ∀ w ∈ u_ws RX7 TX7 8, w ∈ k_tbl := fun w h => in_tbl (kin0_7 w h) (kin1_7 w h)
set_option maxRecDepth 20000 in
theorem kin0_8 : ∀ w ∈ u_ws RX8 TX8 8, w ∈ lw_tbl := by decide +kernel
set_option maxRecDepth 20000 in
theorem kin1_8 : ∀ w ∈ u_ws RX8 TX8 8, (goodWord w || nestW w) = true := by decide +kernel
set_option maxRecDepth 20000 in
theorem kin_8 : ∀ w ∈ u_ws RX8 TX8 8, w ∈ k_tbl := fun w h => in_tbl (kin0_8 w h) (kin1_8 w h)
set_option maxRecDepth 20000 in
theorem kin0_9 : ∀ w ∈ u_ws RX9 TX9 38, w ∈ lw_tbl := by decide +kernel
set_option maxRecDepth 20000 in
theorem kin1_9 : ∀ w ∈ u_ws RX9 TX9 38, (goodWord w || nestW w) = true := by decide +kernel
set_option maxRecDepth 20000 in
theorem kin_9 : ∀ w ∈ u_ws RX9 TX9 38, w ∈ k_tbl := fun w h => in_tbl (kin0_9 w h) (kin1_9 w h)
set_option maxRecDepth 20000 in
theorem kw_0 : Jvm.Cond.methodLink RX0 3 objectInit ∈ k_tbl := in_tbl (in_t1 (List.mem_of_getElem? (i := 28) rfl)) rfl
set_option maxRecDepth 20000 in
theorem kw_1 : Jvm.Cond.instanceMethod objectInit ∈ k_tbl := in_tbl (in_t1 (List.mem_of_getElem? (i := 20) rfl)) rfl
set_option maxRecDepth 20000 in
theorem kw_2 : Jvm.Cond.code objectInit ⟨#[0xb1]⟩ 1 none ∈ k_tbl := in_tbl (in_t1 (List.mem_of_getElem? (i := 21) rfl)) rfl
set_option maxRecDepth 20000 in
theorem kw_3 : Jvm.Cond.arrayClass Jvm.ClassFile.FieldType.int ∈ k_tbl := in_tbl (in_t1 (List.mem_of_getElem? (i := 42) rfl)) rfl
set_option maxRecDepth 20000 in
theorem kw_4 : Jvm.Cond.fieldLink RX0 11 (TX0 2).1 (TX0 2).2.1 (TX0 2).2.2.1 ∈ k_tbl := in_tbl (in_t1 (List.mem_of_getElem? (i := 31) rfl)) rfl
set_option maxRecDepth 20000 in
theorem kw_5 : Jvm.Cond.fieldLink RX0 15 (TX0 3).1 (TX0 3).2.1 (TX0 3).2.2.1 ∈ k_tbl := in_tbl (in_t1 (List.mem_of_getElem? (i := 32) rfl)) rfl
set_option maxRecDepth 20000 in
theorem kw_6 : Jvm.Cond.fieldLink RX0 18 (TX0 0).1 (TX0 0).2.1 (TX0 0).2.2.1 ∈ k_tbl := in_tbl (in_t1 (List.mem_of_getElem? (i := 29) rfl)) rfl
set_option maxRecDepth 20000 in
theorem kw_7 : Jvm.Cond.fieldLink RX0 22 (TX0 1).1 (TX0 1).2.1 (TX0 1).2.2.1 ∈ k_tbl := in_tbl (in_t1 (List.mem_of_getElem? (i := 30) rfl)) rfl
set_option maxRecDepth 20000 in
theorem kw_8 : Jvm.Cond.constant RJ6 265 (a_i32 1431655765) ∈ k_tbl := in_tbl (in_t2 (List.mem_of_getElem? (i := 3) rfl)) rfl
set_option maxRecDepth 20000 in
theorem kw_9 : Jvm.Cond.constant RJ6 266 (a_i32 858993459) ∈ k_tbl := in_tbl (in_t2 (List.mem_of_getElem? (i := 4) rfl)) rfl
set_option maxRecDepth 20000 in
theorem kw_10 : Jvm.Cond.constant RJ6 267 (a_i32 252645135) ∈ k_tbl := in_tbl (in_t2 (List.mem_of_getElem? (i := 5) rfl)) rfl
set_option maxRecDepth 20000 in
theorem kw_11 : Jvm.Cond.methodLink RX0 25 yJ6_bitCount_0f7a4 ∈ k_tbl := in_tbl (in_t2 (List.mem_of_getElem? (i := 0) rfl)) rfl
set_option maxRecDepth 20000 in
theorem kw_12 : Jvm.Cond.static yJ6_bitCount_0f7a4 ∈ k_tbl := in_tbl (in_t2 (List.mem_of_getElem? (i := 1) rfl)) rfl
set_option maxRecDepth 20000 in
theorem kw_13 : Jvm.Cond.methodLink RX0 31 yX0_isFree ∈ k_tbl := in_tbl (in_t2 (List.mem_of_getElem? (i := 46) rfl)) rfl
set_option maxRecDepth 20000 in
theorem kw_14 : Jvm.Cond.instanceMethod yX0_isFree ∈ k_tbl := in_tbl (in_t2 (List.mem_of_getElem? (i := 11) rfl)) rfl
set_option maxRecDepth 20000 in
theorem kw_15 : Jvm.Cond.selects RX0 yX0_isFree yX0_isFree ∈ k_tbl := in_tbl (in_t2 (List.mem_of_getElem? (i := 12) rfl)) rfl
set_option maxRecDepth 20000 in
theorem kw_16 : Jvm.Cond.methodLink RX0 35 yX0_plankMask ∈ k_tbl := in_tbl (in_t2 (List.mem_of_getElem? (i := 42) rfl)) rfl
set_option maxRecDepth 20000 in
theorem kw_17 : Jvm.Cond.instanceMethod yX0_plankMask ∈ k_tbl := in_tbl (in_t2 (List.mem_of_getElem? (i := 43) rfl)) rfl
set_option maxRecDepth 20000 in
theorem kw_18 : Jvm.Cond.selects RX0 yX0_plankMask yX0_plankMask ∈ k_tbl := in_tbl (in_t2 (List.mem_of_getElem? (i := 44) rfl)) rfl
set_option maxRecDepth 20000 in
theorem kw_19 : Jvm.Cond.constant RX0 42 (a_i32 61166) ∈ k_tbl := in_tbl (in_t2 (List.mem_of_getElem? (i := 30) rfl)) rfl
set_option maxRecDepth 20000 in
theorem kw_20 : Jvm.Cond.methodLink RX0 39 yX0_partOf ∈ k_tbl := in_tbl (in_t2 (List.mem_of_getElem? (i := 26) rfl)) rfl
set_option maxRecDepth 20000 in
theorem kw_21 : Jvm.Cond.instanceMethod yX0_partOf ∈ k_tbl := in_tbl (in_t2 (List.mem_of_getElem? (i := 28) rfl)) rfl
set_option maxRecDepth 20000 in
theorem kw_22 : Jvm.Cond.selects RX0 yX0_partOf yX0_partOf ∈ k_tbl := in_tbl (in_t0 (List.mem_of_getElem? (i := 0) rfl)) rfl
set_option maxRecDepth 20000 in
theorem kw_23 : Jvm.Cond.methodLink RX5 3 objectInit ∈ k_tbl := in_tbl (in_t1 (List.mem_of_getElem? (i := 55) rfl)) rfl
set_option maxRecDepth 20000 in
theorem kw_24 : Jvm.Cond.methodLink RX5 9 yJ9_min_7cf53 ∈ k_tbl := in_tbl (in_t1 (List.mem_of_getElem? (i := 56) rfl)) rfl
set_option maxRecDepth 20000 in
theorem kw_25 : Jvm.Cond.static yJ9_min_7cf53 ∈ k_tbl := in_tbl (in_t1 (List.mem_of_getElem? (i := 57) rfl)) rfl
set_option maxRecDepth 20000 in
theorem kw_26 : Jvm.Cond.methodLink RX5 15 yJ9_max_7cf53 ∈ k_tbl := in_tbl (in_t1 (List.mem_of_getElem? (i := 59) rfl)) rfl
set_option maxRecDepth 20000 in
theorem kw_27 : Jvm.Cond.static yJ9_max_7cf53 ∈ k_tbl := in_tbl (in_t1 (List.mem_of_getElem? (i := 60) rfl)) rfl
set_option maxRecDepth 20000 in
theorem kw_28 : Jvm.Cond.fieldLink RX5 18 (TX5 0).1 (TX5 0).2.1 (TX5 0).2.2.1 ∈ k_tbl := in_tbl (in_t1 (List.mem_of_getElem? (i := 62) rfl)) rfl
set_option maxRecDepth 20000 in
theorem kw_29 : Jvm.Cond.arrayClass Jvm.ClassFile.FieldType.long ∈ k_tbl := in_tbl (in_t1 (List.mem_of_getElem? (i := 69) rfl)) rfl
set_option maxRecDepth 20000 in
theorem kw_30 : Jvm.Cond.fieldLink RX5 24 (TX5 1).1 (TX5 1).2.1 (TX5 1).2.2.1 ∈ k_tbl := in_tbl (in_t1 (List.mem_of_getElem? (i := 63) rfl)) rfl
set_option maxRecDepth 20000 in
theorem kw_31 : Jvm.Cond.methodLink RX1 3 objectInit ∈ k_tbl := in_tbl (in_t1 (List.mem_of_getElem? (i := 49) rfl)) rfl
set_option maxRecDepth 20000 in
theorem kw_32 : Jvm.Cond.fieldLink RX1 9 (TX1 2).1 (TX1 2).2.1 (TX1 2).2.2.1 ∈ k_tbl := in_tbl (in_t1 (List.mem_of_getElem? (i := 80) rfl)) rfl
set_option maxRecDepth 20000 in
theorem kw_33 : Jvm.Cond.fieldLink RX1 15 (TX1 3).1 (TX1 3).2.1 (TX1 3).2.2.1 ∈ k_tbl := in_tbl (in_t1 (List.mem_of_getElem? (i := 85) rfl)) rfl
set_option maxRecDepth 20000 in
theorem kw_34 : Jvm.Cond.classLink RX1 18 RX5 ∈ k_tbl := in_tbl (in_t1 (List.mem_of_getElem? (i := 50) rfl)) rfl
set_option maxRecDepth 20000 in
theorem kw_35 : Jvm.Cond.instantiable RX5 2 ∈ k_tbl := in_tbl (in_t1 (List.mem_of_getElem? (i := 51) rfl)) rfl
set_option maxRecDepth 20000 in
theorem kw_36 : Jvm.Cond.initialized RX5 ∈ k_tbl := in_tbl (in_t1 (List.mem_of_getElem? (i := 4) rfl)) rfl
set_option maxRecDepth 20000 in
theorem kw_37 : Jvm.Cond.methodLink RX1 20 yX5_init ∈ k_tbl := in_tbl (in_t1 (List.mem_of_getElem? (i := 52) rfl)) rfl
set_option maxRecDepth 20000 in
theorem kw_38 : Jvm.Cond.instanceMethod yX5_init ∈ k_tbl := in_tbl (in_t1 (List.mem_of_getElem? (i := 53) rfl)) rfl
set_option maxRecDepth 20000 in
theorem kw_39 : Jvm.Cond.fieldLink RX1 23 (TX1 0).1 (TX1 0).2.1 (TX1 0).2.2.1 ∈ k_tbl := in_tbl (in_t1 (List.mem_of_getElem? (i := 70) rfl)) rfl
set_option maxRecDepth 20000 in
theorem kw_40 : Jvm.Cond.fieldLink RX1 27 (TX1 1).1 (TX1 1).2.1 (TX1 1).2.2.1 ∈ k_tbl := in_tbl (in_t1 (List.mem_of_getElem? (i := 75) rfl)) rfl
set_option maxRecDepth 20000 in
theorem kw_41 : Jvm.Cond.methodLink RX2 3 objectInit ∈ k_tbl := in_tbl (in_t1 (List.mem_of_getElem? (i := 156) rfl)) rfl
set_option maxRecDepth 20000 in
theorem kw_42 : Jvm.Cond.arrayClass Jvm.ClassFile.FieldType.boolean ∈ k_tbl := in_tbl (in_t1 (List.mem_of_getElem? (i := 170) rfl)) rfl
set_option maxRecDepth 20000 in
theorem kw_43 : Jvm.Cond.fieldLink RX2 9 (TX2 0).1 (TX2 0).2.1 (TX2 0).2.2.1 ∈ k_tbl := in_tbl (in_t1 (List.mem_of_getElem? (i := 157) rfl)) rfl
set_option maxRecDepth 20000 in
theorem kw_44 : Jvm.Cond.fieldLink RX2 15 (TX2 1).1 (TX2 1).2.1 (TX2 1).2.2.1 ∈ k_tbl := in_tbl (in_t1 (List.mem_of_getElem? (i := 158) rfl)) rfl
set_option maxRecDepth 20000 in
theorem kw_45 : Jvm.Cond.fieldLink RX2 19 (TX2 2).1 (TX2 2).2.1 (TX2 2).2.2.1 ∈ k_tbl := in_tbl (in_t1 (List.mem_of_getElem? (i := 159) rfl)) rfl
set_option maxRecDepth 20000 in
theorem kw_46 : Jvm.Cond.fieldLink RX2 22 (TX2 3).1 (TX2 3).2.1 (TX2 3).2.2.1 ∈ k_tbl := in_tbl (in_t1 (List.mem_of_getElem? (i := 160) rfl)) rfl
set_option maxRecDepth 20000 in
theorem kw_47 : Jvm.Cond.constantLong RJ13 314 (a_i64 6148914691236517205) ∈ k_tbl := in_tbl (in_t2 (List.mem_of_getElem? (i := 151) rfl)) rfl
set_option maxRecDepth 20000 in
theorem kw_48 : Jvm.Cond.constantLong RJ13 316 (a_i64 3689348814741910323) ∈ k_tbl := in_tbl (in_t2 (List.mem_of_getElem? (i := 152) rfl)) rfl
set_option maxRecDepth 20000 in
theorem kw_49 : Jvm.Cond.constantLong RJ13 318 (a_i64 1085102592571150095) ∈ k_tbl := in_tbl (in_t2 (List.mem_of_getElem? (i := 153) rfl)) rfl
set_option maxRecDepth 20000 in
theorem kw_50 : Jvm.Cond.constantLong RX5 31 (a_i64 18446744073709551615) ∈ k_tbl := in_tbl (in_t2 (List.mem_of_getElem? (i := 147) rfl)) rfl
set_option maxRecDepth 20000 in
theorem kw_51 : Jvm.Cond.methodLink RX5 37 yJ13_bitCount_95d88 ∈ k_tbl := in_tbl (in_t2 (List.mem_of_getElem? (i := 148) rfl)) rfl
set_option maxRecDepth 20000 in
theorem kw_52 : Jvm.Cond.static yJ13_bitCount_95d88 ∈ k_tbl := in_tbl (in_t2 (List.mem_of_getElem? (i := 149) rfl)) rfl
set_option maxRecDepth 20000 in
theorem kw_53 : Jvm.Cond.methodLink RX5 28 yX5_wordAt ∈ k_tbl := in_tbl (in_t2 (List.mem_of_getElem? (i := 143) rfl)) rfl
set_option maxRecDepth 20000 in
theorem kw_54 : Jvm.Cond.instanceMethod yX5_wordAt ∈ k_tbl := in_tbl (in_t2 (List.mem_of_getElem? (i := 145) rfl)) rfl
set_option maxRecDepth 20000 in
theorem kw_55 : Jvm.Cond.selects RX5 yX5_wordAt yX5_wordAt ∈ k_tbl := in_tbl (in_t0 (List.mem_of_getElem? (i := 7) rfl)) rfl
set_option maxRecDepth 20000 in
theorem kw_56 : Jvm.Cond.methodLink RX2 58 yX5_next ∈ k_tbl := in_tbl (in_t2 (List.mem_of_getElem? (i := 237) rfl)) rfl
set_option maxRecDepth 20000 in
theorem kw_57 : Jvm.Cond.instanceMethod yX5_next ∈ k_tbl := in_tbl (in_t2 (List.mem_of_getElem? (i := 140) rfl)) rfl
set_option maxRecDepth 20000 in
theorem kw_58 : Jvm.Cond.selects RX5 yX5_next yX5_next ∈ k_tbl := in_tbl (in_t2 (List.mem_of_getElem? (i := 141) rfl)) rfl
set_option maxRecDepth 20000 in
theorem kw_59 : Jvm.Cond.methodLink RX2 64 yJ9_max_7cf53 ∈ k_tbl := in_tbl (in_t2 (List.mem_of_getElem? (i := 238) rfl)) rfl
set_option maxRecDepth 20000 in
theorem kw_60 : Jvm.Cond.fieldLinkNest RX2 45 (TX7 1).1 (TX7 1).2.1 (TX7 1).2.2.1 "PlankBench" ∈ k_tbl := in_tbl (in_t1 (List.mem_of_getElem? (i := 126) rfl)) rfl
set_option maxRecDepth 20000 in
theorem kw_61 : Jvm.Cond.methodLink RX2 51 yX2_markOptions ∈ k_tbl := in_tbl (in_t2 (List.mem_of_getElem? (i := 233) rfl)) rfl
set_option maxRecDepth 20000 in
theorem kw_62 : Jvm.Cond.instanceMethod yX2_markOptions ∈ k_tbl := in_tbl (in_t2 (List.mem_of_getElem? (i := 235) rfl)) rfl
set_option maxRecDepth 20000 in
theorem kw_63 : Jvm.Cond.selects RX2 yX2_markOptions yX2_markOptions ∈ k_tbl := in_tbl (in_t0 (List.mem_of_getElem? (i := 17) rfl)) rfl
set_option maxRecDepth 20000 in
theorem kw_64 : Jvm.Cond.fieldLinkNest RX2 55 (TX7 2).1 (TX7 2).2.1 (TX7 2).2.2.1 "PlankBench" ∈ k_tbl := in_tbl (in_t1 (List.mem_of_getElem? (i := 128) rfl)) rfl
set_option maxRecDepth 20000 in
theorem kw_65 : Jvm.Cond.methodLink RX2 69 yX2_deepBehind ∈ k_tbl := in_tbl (in_t3 (List.mem_of_getElem? (i := 3) rfl)) rfl
set_option maxRecDepth 20000 in
theorem kw_66 : Jvm.Cond.instanceMethod yX2_deepBehind ∈ k_tbl := in_tbl (in_t3 (List.mem_of_getElem? (i := 5) rfl)) rfl
set_option maxRecDepth 20000 in
theorem kw_67 : Jvm.Cond.selects RX2 yX2_deepBehind yX2_deepBehind ∈ k_tbl := in_tbl (in_t0 (List.mem_of_getElem? (i := 19) rfl)) rfl
set_option maxRecDepth 20000 in
theorem kw_68 : Jvm.Cond.methodLink RX5 33 yX5_isRow ∈ k_tbl := in_tbl (in_t2 (List.mem_of_getElem? (i := 127) rfl)) rfl
set_option maxRecDepth 20000 in
theorem kw_69 : Jvm.Cond.instanceMethod yX5_isRow ∈ k_tbl := in_tbl (in_t2 (List.mem_of_getElem? (i := 129) rfl)) rfl
set_option maxRecDepth 20000 in
theorem kw_70 : Jvm.Cond.selects RX5 yX5_isRow yX5_isRow ∈ k_tbl := in_tbl (in_t0 (List.mem_of_getElem? (i := 4) rfl)) rfl
set_option maxRecDepth 20000 in
theorem kw_71 : Jvm.Cond.methodLink RX2 87 yX5_put ∈ k_tbl := in_tbl (in_t3 (List.mem_of_getElem? (i := 16) rfl)) rfl
set_option maxRecDepth 20000 in
theorem kw_72 : Jvm.Cond.instanceMethod yX5_put ∈ k_tbl := in_tbl (in_t2 (List.mem_of_getElem? (i := 172) rfl)) rfl
set_option maxRecDepth 20000 in
theorem kw_73 : Jvm.Cond.selects RX5 yX5_put yX5_put ∈ k_tbl := in_tbl (in_t2 (List.mem_of_getElem? (i := 173) rfl)) rfl
set_option maxRecDepth 20000 in
theorem kw_74 : Jvm.Cond.methodLink RX2 83 yX5_clear ∈ k_tbl := in_tbl (in_t3 (List.mem_of_getElem? (i := 15) rfl)) rfl
set_option maxRecDepth 20000 in
theorem kw_75 : Jvm.Cond.instanceMethod yX5_clear ∈ k_tbl := in_tbl (in_t2 (List.mem_of_getElem? (i := 124) rfl)) rfl
set_option maxRecDepth 20000 in
theorem kw_76 : Jvm.Cond.selects RX5 yX5_clear yX5_clear ∈ k_tbl := in_tbl (in_t2 (List.mem_of_getElem? (i := 125) rfl)) rfl
set_option maxRecDepth 20000 in
theorem kw_77 : Jvm.Cond.fieldLinkNest RX2 78 (TX1 1).1 (TX1 1).2.1 (TX1 1).2.2.1 "PlankBench" ∈ k_tbl := in_tbl (in_t1 (List.mem_of_getElem? (i := 77) rfl)) rfl
set_option maxRecDepth 20000 in
theorem kw_78 : Jvm.Cond.methodLink RX2 102 yX5_ahead ∈ k_tbl := in_tbl (in_t3 (List.mem_of_getElem? (i := 28) rfl)) rfl
set_option maxRecDepth 20000 in
theorem kw_79 : Jvm.Cond.instanceMethod yX5_ahead ∈ k_tbl := in_tbl (in_t3 (List.mem_of_getElem? (i := 29) rfl)) rfl
set_option maxRecDepth 20000 in
theorem kw_80 : Jvm.Cond.selects RX5 yX5_ahead yX5_ahead ∈ k_tbl := in_tbl (in_t3 (List.mem_of_getElem? (i := 30) rfl)) rfl
set_option maxRecDepth 20000 in
theorem kw_81 : Jvm.Cond.fieldLinkNest RX2 73 (TX1 0).1 (TX1 0).2.1 (TX1 0).2.2.1 "PlankBench" ∈ k_tbl := in_tbl (in_t1 (List.mem_of_getElem? (i := 72) rfl)) rfl
set_option maxRecDepth 20000 in
theorem kw_82 : Jvm.Cond.methodLink RX2 98 yX5_bitCount ∈ k_tbl := in_tbl (in_t3 (List.mem_of_getElem? (i := 24) rfl)) rfl
set_option maxRecDepth 20000 in
theorem kw_83 : Jvm.Cond.instanceMethod yX5_bitCount ∈ k_tbl := in_tbl (in_t3 (List.mem_of_getElem? (i := 25) rfl)) rfl
set_option maxRecDepth 20000 in
theorem kw_84 : Jvm.Cond.selects RX5 yX5_bitCount yX5_bitCount ∈ k_tbl := in_tbl (in_t3 (List.mem_of_getElem? (i := 26) rfl)) rfl
set_option maxRecDepth 20000 in
theorem kw_85 : Jvm.Cond.methodLink RX2 91 yX2_order ∈ k_tbl := in_tbl (in_t3 (List.mem_of_getElem? (i := 21) rfl)) rfl
set_option maxRecDepth 20000 in
theorem kw_86 : Jvm.Cond.static yX2_order ∈ k_tbl := in_tbl (in_t3 (List.mem_of_getElem? (i := 22) rfl)) rfl
set_option maxRecDepth 20000 in
theorem kw_87 : Jvm.Cond.methodLink RX2 95 yX5_swap ∈ k_tbl := in_tbl (in_t3 (List.mem_of_getElem? (i := 32) rfl)) rfl
set_option maxRecDepth 20000 in
theorem kw_88 : Jvm.Cond.instanceMethod yX5_swap ∈ k_tbl := in_tbl (in_t3 (List.mem_of_getElem? (i := 33) rfl)) rfl
set_option maxRecDepth 20000 in
theorem kw_89 : Jvm.Cond.selects RX5 yX5_swap yX5_swap ∈ k_tbl := in_tbl (in_t3 (List.mem_of_getElem? (i := 34) rfl)) rfl
set_option maxRecDepth 20000 in
theorem kw_90 : Jvm.Cond.methodLink RX2 74 yX2_rankRow ∈ k_tbl := in_tbl (in_t3 (List.mem_of_getElem? (i := 11) rfl)) rfl
set_option maxRecDepth 20000 in
theorem kw_91 : Jvm.Cond.instanceMethod yX2_rankRow ∈ k_tbl := in_tbl (in_t3 (List.mem_of_getElem? (i := 13) rfl)) rfl
set_option maxRecDepth 20000 in
theorem kw_92 : Jvm.Cond.selects RX2 yX2_rankRow yX2_rankRow ∈ k_tbl := in_tbl (in_t0 (List.mem_of_getElem? (i := 21) rfl)) rfl
set_option maxRecDepth 20000 in
theorem kw_93 : Jvm.Cond.methodLink RX2 79 yX2_sink ∈ k_tbl := in_tbl (in_t3 (List.mem_of_getElem? (i := 17) rfl)) rfl
set_option maxRecDepth 20000 in
theorem kw_94 : Jvm.Cond.instanceMethod yX2_sink ∈ k_tbl := in_tbl (in_t3 (List.mem_of_getElem? (i := 19) rfl)) rfl
set_option maxRecDepth 20000 in
theorem kw_95 : Jvm.Cond.selects RX2 yX2_sink yX2_sink ∈ k_tbl := in_tbl (in_t0 (List.mem_of_getElem? (i := 22) rfl)) rfl
set_option maxRecDepth 20000 in
theorem kw_96 : Jvm.Cond.fieldLinkNest RX2 36 (TX1 2).1 (TX1 2).2.1 (TX1 2).2.2.1 "PlankBench" ∈ k_tbl := in_tbl (in_t1 (List.mem_of_getElem? (i := 82) rfl)) rfl
set_option maxRecDepth 20000 in
theorem kw_97 : Jvm.Cond.fieldLinkNest RX2 42 (TX1 3).1 (TX1 3).2.1 (TX1 3).2.2.1 "PlankBench" ∈ k_tbl := in_tbl (in_t1 (List.mem_of_getElem? (i := 86) rfl)) rfl
set_option maxRecDepth 20000 in
theorem kw_98 : Jvm.Cond.methodLink RX2 32 yX2_placeLevel ∈ k_tbl := in_tbl (in_t3 (List.mem_of_getElem? (i := 7) rfl)) rfl
set_option maxRecDepth 20000 in
theorem kw_99 : Jvm.Cond.instanceMethod yX2_placeLevel ∈ k_tbl := in_tbl (in_t3 (List.mem_of_getElem? (i := 9) rfl)) rfl
set_option maxRecDepth 20000 in
theorem kw_100 : Jvm.Cond.selects RX2 yX2_placeLevel yX2_placeLevel ∈ k_tbl := in_tbl (in_t0 (List.mem_of_getElem? (i := 20) rfl)) rfl
set_option maxRecDepth 20000 in
theorem kw_101 : Jvm.Cond.methodLink RX2 25 yX2_markFollowers ∈ k_tbl := in_tbl (in_t2 (List.mem_of_getElem? (i := 229) rfl)) rfl
set_option maxRecDepth 20000 in
theorem kw_102 : Jvm.Cond.instanceMethod yX2_markFollowers ∈ k_tbl := in_tbl (in_t2 (List.mem_of_getElem? (i := 231) rfl)) rfl
set_option maxRecDepth 20000 in
theorem kw_103 : Jvm.Cond.selects RX2 yX2_markFollowers yX2_markFollowers ∈ k_tbl := in_tbl (in_t0 (List.mem_of_getElem? (i := 16) rfl)) rfl
set_option maxRecDepth 20000 in
theorem kw_104 : Jvm.Cond.methodLink RX2 29 yX2_findDeeps ∈ k_tbl := in_tbl (in_t2 (List.mem_of_getElem? (i := 239) rfl)) rfl
set_option maxRecDepth 20000 in
theorem kw_105 : Jvm.Cond.instanceMethod yX2_findDeeps ∈ k_tbl := in_tbl (in_t3 (List.mem_of_getElem? (i := 1) rfl)) rfl
set_option maxRecDepth 20000 in
theorem kw_106 : Jvm.Cond.selects RX2 yX2_findDeeps yX2_findDeeps ∈ k_tbl := in_tbl (in_t0 (List.mem_of_getElem? (i := 18) rfl)) rfl
set_option maxRecDepth 20000 in
theorem kw_107 : Jvm.Cond.methodLink RX3 3 objectInit ∈ k_tbl := in_tbl (in_t1 (List.mem_of_getElem? (i := 102) rfl)) rfl
set_option maxRecDepth 20000 in
theorem kw_108 : Jvm.Cond.fieldLink RX3 9 (TX3 1).1 (TX3 1).2.1 (TX3 1).2.2.1 ∈ k_tbl := in_tbl (in_t1 (List.mem_of_getElem? (i := 104) rfl)) rfl
set_option maxRecDepth 20000 in
theorem kw_109 : Jvm.Cond.fieldLink RX3 15 (TX3 2).1 (TX3 2).2.1 (TX3 2).2.2.1 ∈ k_tbl := in_tbl (in_t1 (List.mem_of_getElem? (i := 105) rfl)) rfl
set_option maxRecDepth 20000 in
theorem kw_110 : Jvm.Cond.fieldLink RX3 18 (TX3 3).1 (TX3 3).2.1 (TX3 3).2.2.1 ∈ k_tbl := in_tbl (in_t1 (List.mem_of_getElem? (i := 106) rfl)) rfl
set_option maxRecDepth 20000 in
theorem kw_111 : Jvm.Cond.fieldLink RX3 21 (TX3 0).1 (TX3 0).2.1 (TX3 0).2.2.1 ∈ k_tbl := in_tbl (in_t1 (List.mem_of_getElem? (i := 103) rfl)) rfl
set_option maxRecDepth 20000 in
theorem kw_112 : Jvm.Cond.methodLink RX3 42 yX3_narrowed ∈ k_tbl := in_tbl (in_t2 (List.mem_of_getElem? (i := 104) rfl)) rfl
set_option maxRecDepth 20000 in
theorem kw_113 : Jvm.Cond.static yX3_narrowed ∈ k_tbl := in_tbl (in_t2 (List.mem_of_getElem? (i := 105) rfl)) rfl
set_option maxRecDepth 20000 in
theorem kw_114 : Jvm.Cond.methodLink RX3 25 yX0_freeCount ∈ k_tbl := in_tbl (in_t2 (List.mem_of_getElem? (i := 94) rfl)) rfl
set_option maxRecDepth 20000 in
theorem kw_115 : Jvm.Cond.instanceMethod yX0_freeCount ∈ k_tbl := in_tbl (in_t1 (List.mem_of_getElem? (i := 237) rfl)) rfl
set_option maxRecDepth 20000 in
theorem kw_116 : Jvm.Cond.selects RX0 yX0_freeCount yX0_freeCount ∈ k_tbl := in_tbl (in_t1 (List.mem_of_getElem? (i := 238) rfl)) rfl
set_option maxRecDepth 20000 in
theorem kw_117 : Jvm.Cond.methodLink RX3 31 yX0_plankMask ∈ k_tbl := in_tbl (in_t2 (List.mem_of_getElem? (i := 95) rfl)) rfl
set_option maxRecDepth 20000 in
theorem kw_118 : Jvm.Cond.methodLink RX3 35 yX0_freeMask ∈ k_tbl := in_tbl (in_t2 (List.mem_of_getElem? (i := 96) rfl)) rfl
set_option maxRecDepth 20000 in
theorem kw_119 : Jvm.Cond.instanceMethod yX0_freeMask ∈ k_tbl := in_tbl (in_t2 (List.mem_of_getElem? (i := 97) rfl)) rfl
set_option maxRecDepth 20000 in
theorem kw_120 : Jvm.Cond.selects RX0 yX0_freeMask yX0_freeMask ∈ k_tbl := in_tbl (in_t2 (List.mem_of_getElem? (i := 98) rfl)) rfl
set_option maxRecDepth 20000 in
theorem kw_121 : Jvm.Cond.methodLink RX3 38 yX3_note ∈ k_tbl := in_tbl (in_t2 (List.mem_of_getElem? (i := 100) rfl)) rfl
set_option maxRecDepth 20000 in
theorem kw_122 : Jvm.Cond.instanceMethod yX3_note ∈ k_tbl := in_tbl (in_t2 (List.mem_of_getElem? (i := 102) rfl)) rfl
set_option maxRecDepth 20000 in
theorem kw_123 : Jvm.Cond.selects RX3 yX3_note yX3_note ∈ k_tbl := in_tbl (in_t0 (List.mem_of_getElem? (i := 1) rfl)) rfl
set_option maxRecDepth 20000 in
theorem kw_124 : Jvm.Cond.methodLinkNest RX3 45 yX8_isSide "PlankBench" ∈ k_tbl := in_tbl (in_t2 (List.mem_of_getElem? (i := 211) rfl)) rfl
set_option maxRecDepth 20000 in
theorem kw_125 : Jvm.Cond.static yX8_isSide ∈ k_tbl := in_tbl (in_t2 (List.mem_of_getElem? (i := 36) rfl)) rfl
set_option maxRecDepth 20000 in
theorem kw_126 : Jvm.Cond.methodLink RX3 49 yX3_count ∈ k_tbl := in_tbl (in_t2 (List.mem_of_getElem? (i := 216) rfl)) rfl
set_option maxRecDepth 20000 in
theorem kw_127 : Jvm.Cond.instanceMethod yX3_count ∈ k_tbl := in_tbl (in_t2 (List.mem_of_getElem? (i := 208) rfl)) rfl
set_option maxRecDepth 20000 in
theorem kw_128 : Jvm.Cond.selects RX3 yX3_count yX3_count ∈ k_tbl := in_tbl (in_t2 (List.mem_of_getElem? (i := 209) rfl)) rfl
set_option maxRecDepth 20000 in
theorem kw_129 : Jvm.Cond.methodLink RX4 3 objectInit ∈ k_tbl := in_tbl (in_t1 (List.mem_of_getElem? (i := 195) rfl)) rfl
set_option maxRecDepth 20000 in
theorem kw_130 : Jvm.Cond.fieldLink RX4 11 (TX4 0).1 (TX4 0).2.1 (TX4 0).2.2.1 ∈ k_tbl := in_tbl (in_t1 (List.mem_of_getElem? (i := 196) rfl)) rfl
set_option maxRecDepth 20000 in
theorem kw_131 : Jvm.Cond.methodLink RX4 29 yX3_count ∈ k_tbl := in_tbl (in_t4 (List.mem_of_getElem? (i := 7) rfl)) rfl
set_option maxRecDepth 20000 in
theorem kw_132 : Jvm.Cond.methodLink RX4 33 yX3_mask ∈ k_tbl := in_tbl (in_t4 (List.mem_of_getElem? (i := 8) rfl)) rfl
set_option maxRecDepth 20000 in
theorem kw_133 : Jvm.Cond.instanceMethod yX3_mask ∈ k_tbl := in_tbl (in_t2 (List.mem_of_getElem? (i := 213) rfl)) rfl
set_option maxRecDepth 20000 in
theorem kw_134 : Jvm.Cond.selects RX3 yX3_mask yX3_mask ∈ k_tbl := in_tbl (in_t2 (List.mem_of_getElem? (i := 214) rfl)) rfl
set_option maxRecDepth 20000 in
theorem kw_135 : Jvm.Cond.methodLinkNest RX4 40 yX8_isSide "PlankBench" ∈ k_tbl := in_tbl (in_t4 (List.mem_of_getElem? (i := 6) rfl)) rfl
set_option maxRecDepth 20000 in
theorem kw_136 : Jvm.Cond.methodLink RX4 15 yX3_allFields ∈ k_tbl := in_tbl (in_t3 (List.mem_of_getElem? (i := 238) rfl)) rfl
set_option maxRecDepth 20000 in
theorem kw_137 : Jvm.Cond.instanceMethod yX3_allFields ∈ k_tbl := in_tbl (in_t2 (List.mem_of_getElem? (i := 112) rfl)) rfl
set_option maxRecDepth 20000 in
theorem kw_138 : Jvm.Cond.selects RX3 yX3_allFields yX3_allFields ∈ k_tbl := in_tbl (in_t2 (List.mem_of_getElem? (i := 113) rfl)) rfl
set_option maxRecDepth 20000 in
theorem kw_139 : Jvm.Cond.methodLink RX4 21 yX4_forget ∈ k_tbl := in_tbl (in_t3 (List.mem_of_getElem? (i := 239) rfl)) rfl
set_option maxRecDepth 20000 in
theorem kw_140 : Jvm.Cond.instanceMethod yX4_forget ∈ k_tbl := in_tbl (in_t4 (List.mem_of_getElem? (i := 1) rfl)) rfl
set_option maxRecDepth 20000 in
theorem kw_141 : Jvm.Cond.selects RX4 yX4_forget yX4_forget ∈ k_tbl := in_tbl (in_t0 (List.mem_of_getElem? (i := 37) rfl)) rfl
set_option maxRecDepth 20000 in
theorem kw_142 : Jvm.Cond.methodLink RX4 25 yX4_isWon ∈ k_tbl := in_tbl (in_t4 (List.mem_of_getElem? (i := 3) rfl)) rfl
set_option maxRecDepth 20000 in
theorem kw_143 : Jvm.Cond.static yX4_isWon ∈ k_tbl := in_tbl (in_t4 (List.mem_of_getElem? (i := 4) rfl)) rfl
set_option maxRecDepth 20000 in
theorem kw_144 : Jvm.Cond.methodLink RX4 37 yX3_place ∈ k_tbl := in_tbl (in_t4 (List.mem_of_getElem? (i := 17) rfl)) rfl
set_option maxRecDepth 20000 in
theorem kw_145 : Jvm.Cond.instanceMethod yX3_place ∈ k_tbl := in_tbl (in_t4 (List.mem_of_getElem? (i := 18) rfl)) rfl
set_option maxRecDepth 20000 in
theorem kw_146 : Jvm.Cond.selects RX3 yX3_place yX3_place ∈ k_tbl := in_tbl (in_t4 (List.mem_of_getElem? (i := 19) rfl)) rfl
set_option maxRecDepth 20000 in
theorem kw_147 : Jvm.Cond.methodLink RX5 43 yX5_next ∈ k_tbl := in_tbl (in_t3 (List.mem_of_getElem? (i := 123) rfl)) rfl
set_option maxRecDepth 20000 in
theorem kw_148 : Jvm.Cond.methodLink RX6 7 objectInit ∈ k_tbl := in_tbl (in_t1 (List.mem_of_getElem? (i := 176) rfl)) rfl
set_option maxRecDepth 20000 in
theorem kw_149 : Jvm.Cond.fieldLink RX6 13 (TX6 0).1 (TX6 0).2.1 (TX6 0).2.2.1 ∈ k_tbl := in_tbl (in_t1 (List.mem_of_getElem? (i := 177) rfl)) rfl
set_option maxRecDepth 20000 in
theorem kw_150 : Jvm.Cond.fieldLink RX6 17 (TX6 1).1 (TX6 1).2.1 (TX6 1).2.2.1 ∈ k_tbl := in_tbl (in_t1 (List.mem_of_getElem? (i := 178) rfl)) rfl
set_option maxRecDepth 20000 in
theorem kw_151 : Jvm.Cond.fieldLink RX6 21 (TX6 2).1 (TX6 2).2.1 (TX6 2).2.2.1 ∈ k_tbl := in_tbl (in_t1 (List.mem_of_getElem? (i := 179) rfl)) rfl
set_option maxRecDepth 20000 in
theorem kw_152 : Jvm.Cond.fieldLink RX6 24 (TX6 3).1 (TX6 3).2.1 (TX6 3).2.2.1 ∈ k_tbl := in_tbl (in_t1 (List.mem_of_getElem? (i := 180) rfl)) rfl
set_option maxRecDepth 20000 in
theorem kw_153 : Jvm.Cond.methodLink RX6 57 yX5_bitCount ∈ k_tbl := in_tbl (in_t3 (List.mem_of_getElem? (i := 144) rfl)) rfl
set_option maxRecDepth 20000 in
theorem kw_154 : Jvm.Cond.methodLink RX6 63 yX5_bitAt ∈ k_tbl := in_tbl (in_t3 (List.mem_of_getElem? (i := 145) rfl)) rfl
set_option maxRecDepth 20000 in
theorem kw_155 : Jvm.Cond.instanceMethod yX5_bitAt ∈ k_tbl := in_tbl (in_t3 (List.mem_of_getElem? (i := 120) rfl)) rfl
set_option maxRecDepth 20000 in
theorem kw_156 : Jvm.Cond.selects RX5 yX5_bitAt yX5_bitAt ∈ k_tbl := in_tbl (in_t3 (List.mem_of_getElem? (i := 121) rfl)) rfl
set_option maxRecDepth 20000 in
theorem kw_157 : Jvm.Cond.constantLong RX6 77 (a_i64 4294967296) ∈ k_tbl := in_tbl (in_t3 (List.mem_of_getElem? (i := 146) rfl)) rfl
set_option maxRecDepth 20000 in
theorem kw_158 : Jvm.Cond.fieldLinkNest RX6 54 (TX1 1).1 (TX1 1).2.1 (TX1 1).2.2.1 "PlankBench" ∈ k_tbl := in_tbl (in_t1 (List.mem_of_getElem? (i := 76) rfl)) rfl
set_option maxRecDepth 20000 in
theorem kw_159 : Jvm.Cond.fieldLinkNest RX6 46 (TX1 0).1 (TX1 0).2.1 (TX1 0).2.2.1 "PlankBench" ∈ k_tbl := in_tbl (in_t1 (List.mem_of_getElem? (i := 71) rfl)) rfl
set_option maxRecDepth 20000 in
theorem kw_160 : Jvm.Cond.methodLink RX6 50 yX6_onlyOption ∈ k_tbl := in_tbl (in_t3 (List.mem_of_getElem? (i := 141) rfl)) rfl
set_option maxRecDepth 20000 in
theorem kw_161 : Jvm.Cond.static yX6_onlyOption ∈ k_tbl := in_tbl (in_t3 (List.mem_of_getElem? (i := 142) rfl)) rfl
set_option maxRecDepth 20000 in
theorem kw_162 : Jvm.Cond.methodLink RX6 86 yJ9_max_f86c9 ∈ k_tbl := in_tbl (in_t3 (List.mem_of_getElem? (i := 153) rfl)) rfl
set_option maxRecDepth 20000 in
theorem kw_163 : Jvm.Cond.static yJ9_max_f86c9 ∈ k_tbl := in_tbl (in_t3 (List.mem_of_getElem? (i := 154) rfl)) rfl
set_option maxRecDepth 20000 in
theorem kw_164 : Jvm.Cond.methodLink RX6 83 yX5_next ∈ k_tbl := in_tbl (in_t3 (List.mem_of_getElem? (i := 152) rfl)) rfl
set_option maxRecDepth 20000 in
theorem kw_165 : Jvm.Cond.methodLink RX6 92 yJ9_max_7cf53 ∈ k_tbl := in_tbl (in_t3 (List.mem_of_getElem? (i := 156) rfl)) rfl
set_option maxRecDepth 20000 in
theorem kw_166 : Jvm.Cond.constantLong RX6 81 (a_i64 9223372036854775808) ∈ k_tbl := in_tbl (in_t3 (List.mem_of_getElem? (i := 151) rfl)) rfl
set_option maxRecDepth 20000 in
theorem kw_167 : Jvm.Cond.methodLink RX6 96 yJ9_min_f86c9 ∈ k_tbl := in_tbl (in_t3 (List.mem_of_getElem? (i := 162) rfl)) rfl
set_option maxRecDepth 20000 in
theorem kw_168 : Jvm.Cond.static yJ9_min_f86c9 ∈ k_tbl := in_tbl (in_t3 (List.mem_of_getElem? (i := 163) rfl)) rfl
set_option maxRecDepth 20000 in
theorem kw_169 : Jvm.Cond.constantLong RX6 94 (a_i64 9223372036854775807) ∈ k_tbl := in_tbl (in_t3 (List.mem_of_getElem? (i := 161) rfl)) rfl
set_option maxRecDepth 20000 in
theorem kw_170 : Jvm.Cond.fieldLinkNest RX6 32 (TX1 2).1 (TX1 2).2.1 (TX1 2).2.2.1 "PlankBench" ∈ k_tbl := in_tbl (in_t1 (List.mem_of_getElem? (i := 81) rfl)) rfl
set_option maxRecDepth 20000 in
theorem kw_171 : Jvm.Cond.methodLink RX6 67 yX6_findNumber ∈ k_tbl := in_tbl (in_t3 (List.mem_of_getElem? (i := 137) rfl)) rfl
set_option maxRecDepth 20000 in
theorem kw_172 : Jvm.Cond.instanceMethod yX6_findNumber ∈ k_tbl := in_tbl (in_t3 (List.mem_of_getElem? (i := 139) rfl)) rfl
set_option maxRecDepth 20000 in
theorem kw_173 : Jvm.Cond.selects RX6 yX6_findNumber yX6_findNumber ∈ k_tbl := in_tbl (in_t0 (List.mem_of_getElem? (i := 30) rfl)) rfl
set_option maxRecDepth 20000 in
theorem kw_174 : Jvm.Cond.methodLink RX6 70 yX6_greatestRightStop ∈ k_tbl := in_tbl (in_t3 (List.mem_of_getElem? (i := 147) rfl)) rfl
set_option maxRecDepth 20000 in
theorem kw_175 : Jvm.Cond.instanceMethod yX6_greatestRightStop ∈ k_tbl := in_tbl (in_t3 (List.mem_of_getElem? (i := 149) rfl)) rfl
set_option maxRecDepth 20000 in
theorem kw_176 : Jvm.Cond.selects RX6 yX6_greatestRightStop yX6_greatestRightStop ∈ k_tbl := in_tbl (in_t0 (List.mem_of_getElem? (i := 31) rfl)) rfl
set_option maxRecDepth 20000 in
theorem kw_177 : Jvm.Cond.methodLink RX6 74 yX6_leastLeftStop ∈ k_tbl := in_tbl (in_t3 (List.mem_of_getElem? (i := 157) rfl)) rfl
set_option maxRecDepth 20000 in
theorem kw_178 : Jvm.Cond.instanceMethod yX6_leastLeftStop ∈ k_tbl := in_tbl (in_t3 (List.mem_of_getElem? (i := 159) rfl)) rfl
set_option maxRecDepth 20000 in
theorem kw_179 : Jvm.Cond.selects RX6 yX6_leastLeftStop yX6_leastLeftStop ∈ k_tbl := in_tbl (in_t0 (List.mem_of_getElem? (i := 32) rfl)) rfl
set_option maxRecDepth 20000 in
theorem kw_180 : Jvm.Cond.methodLink RX6 102 yJ9_floorMod_7cf53 ∈ k_tbl := in_tbl (in_t3 (List.mem_of_getElem? (i := 183) rfl)) rfl
set_option maxRecDepth 20000 in
theorem kw_181 : Jvm.Cond.static yJ9_floorMod_7cf53 ∈ k_tbl := in_tbl (in_t3 (List.mem_of_getElem? (i := 184) rfl)) rfl
set_option maxRecDepth 20000 in
theorem kw_182 : Jvm.Cond.constant RX6 45 (a_i32 2147483648) ∈ k_tbl := in_tbl (in_t3 (List.mem_of_getElem? (i := 179) rfl)) rfl
set_option maxRecDepth 20000 in
theorem kw_183 : Jvm.Cond.methodLink RX6 120 yX6_withOneUpMore ∈ k_tbl := in_tbl (in_t3 (List.mem_of_getElem? (i := 186) rfl)) rfl
set_option maxRecDepth 20000 in
theorem kw_184 : Jvm.Cond.static yX6_withOneUpMore ∈ k_tbl := in_tbl (in_t3 (List.mem_of_getElem? (i := 187) rfl)) rfl
set_option maxRecDepth 20000 in
theorem kw_185 : Jvm.Cond.methodLink RX6 109 yX6_turnedCode ∈ k_tbl := in_tbl (in_t3 (List.mem_of_getElem? (i := 180) rfl)) rfl
set_option maxRecDepth 20000 in
theorem kw_186 : Jvm.Cond.static yX6_turnedCode ∈ k_tbl := in_tbl (in_t3 (List.mem_of_getElem? (i := 181) rfl)) rfl
set_option maxRecDepth 20000 in
theorem kw_187 : Jvm.Cond.methodLink RX6 112 yX1_options ∈ k_tbl := in_tbl (in_t3 (List.mem_of_getElem? (i := 177) rfl)) rfl
set_option maxRecDepth 20000 in
theorem kw_188 : Jvm.Cond.instanceMethod yX1_options ∈ k_tbl := in_tbl (in_t3 (List.mem_of_getElem? (i := 95) rfl)) rfl
set_option maxRecDepth 20000 in
theorem kw_189 : Jvm.Cond.selects RX1 yX1_options yX1_options ∈ k_tbl := in_tbl (in_t3 (List.mem_of_getElem? (i := 96) rfl)) rfl
set_option maxRecDepth 20000 in
theorem kw_190 : Jvm.Cond.methodLink RX6 116 yX5_has ∈ k_tbl := in_tbl (in_t3 (List.mem_of_getElem? (i := 178) rfl)) rfl
set_option maxRecDepth 20000 in
theorem kw_191 : Jvm.Cond.instanceMethod yX5_has ∈ k_tbl := in_tbl (in_t2 (List.mem_of_getElem? (i := 164) rfl)) rfl
set_option maxRecDepth 20000 in
theorem kw_192 : Jvm.Cond.selects RX5 yX5_has yX5_has ∈ k_tbl := in_tbl (in_t2 (List.mem_of_getElem? (i := 165) rfl)) rfl
set_option maxRecDepth 20000 in
theorem kw_193 : Jvm.Cond.methodLink RX6 105 yX6_upCode ∈ k_tbl := in_tbl (in_t3 (List.mem_of_getElem? (i := 173) rfl)) rfl
set_option maxRecDepth 20000 in
theorem kw_194 : Jvm.Cond.instanceMethod yX6_upCode ∈ k_tbl := in_tbl (in_t3 (List.mem_of_getElem? (i := 175) rfl)) rfl
set_option maxRecDepth 20000 in
theorem kw_195 : Jvm.Cond.selects RX6 yX6_upCode yX6_upCode ∈ k_tbl := in_tbl (in_t0 (List.mem_of_getElem? (i := 35) rfl)) rfl
set_option maxRecDepth 20000 in
theorem kw_196 : Jvm.Cond.methodLink RX6 42 yX6_findUps ∈ k_tbl := in_tbl (in_t3 (List.mem_of_getElem? (i := 169) rfl)) rfl
set_option maxRecDepth 20000 in
theorem kw_197 : Jvm.Cond.instanceMethod yX6_findUps ∈ k_tbl := in_tbl (in_t3 (List.mem_of_getElem? (i := 171) rfl)) rfl
set_option maxRecDepth 20000 in
theorem kw_198 : Jvm.Cond.selects RX6 yX6_findUps yX6_findUps ∈ k_tbl := in_tbl (in_t0 (List.mem_of_getElem? (i := 34) rfl)) rfl
set_option maxRecDepth 20000 in
theorem kw_199 : Jvm.Cond.methodLink RX6 38 yX6_isSwitch ∈ k_tbl := in_tbl (in_t3 (List.mem_of_getElem? (i := 165) rfl)) rfl
set_option maxRecDepth 20000 in
theorem kw_200 : Jvm.Cond.instanceMethod yX6_isSwitch ∈ k_tbl := in_tbl (in_t3 (List.mem_of_getElem? (i := 167) rfl)) rfl
set_option maxRecDepth 20000 in
theorem kw_201 : Jvm.Cond.selects RX6 yX6_isSwitch yX6_isSwitch ∈ k_tbl := in_tbl (in_t0 (List.mem_of_getElem? (i := 33) rfl)) rfl
set_option maxRecDepth 20000 in
theorem kw_202 : Jvm.Cond.methodLink RX6 28 yX6_findStops ∈ k_tbl := in_tbl (in_t3 (List.mem_of_getElem? (i := 133) rfl)) rfl
set_option maxRecDepth 20000 in
theorem kw_203 : Jvm.Cond.instanceMethod yX6_findStops ∈ k_tbl := in_tbl (in_t3 (List.mem_of_getElem? (i := 135) rfl)) rfl
set_option maxRecDepth 20000 in
theorem kw_204 : Jvm.Cond.selects RX6 yX6_findStops yX6_findStops ∈ k_tbl := in_tbl (in_t0 (List.mem_of_getElem? (i := 29) rfl)) rfl
set_option maxRecDepth 20000 in
theorem kw_205 : Jvm.Cond.methodLink RX6 99 yJ9_floorDiv_7cf53 ∈ k_tbl := in_tbl (in_t3 (List.mem_of_getElem? (i := 221) rfl)) rfl
set_option maxRecDepth 20000 in
theorem kw_206 : Jvm.Cond.static yJ9_floorDiv_7cf53 ∈ k_tbl := in_tbl (in_t3 (List.mem_of_getElem? (i := 46) rfl)) rfl
set_option maxRecDepth 20000 in
theorem kw_207 : Jvm.Cond.methodLink RX7 3 objectInit ∈ k_tbl := in_tbl (in_t1 (List.mem_of_getElem? (i := 121) rfl)) rfl
set_option maxRecDepth 20000 in
theorem kw_208 : Jvm.Cond.classLink RX7 9 RX5 ∈ k_tbl := in_tbl (in_t1 (List.mem_of_getElem? (i := 122) rfl)) rfl
set_option maxRecDepth 20000 in
theorem kw_209 : Jvm.Cond.methodLink RX7 11 yX5_init ∈ k_tbl := in_tbl (in_t1 (List.mem_of_getElem? (i := 123) rfl)) rfl
set_option maxRecDepth 20000 in
theorem kw_210 : Jvm.Cond.fieldLink RX7 14 (TX7 1).1 (TX7 1).2.1 (TX7 1).2.2.1 ∈ k_tbl := in_tbl (in_t1 (List.mem_of_getElem? (i := 125) rfl)) rfl
set_option maxRecDepth 20000 in
theorem kw_211 : Jvm.Cond.fieldLink RX7 20 (TX7 2).1 (TX7 2).2.1 (TX7 2).2.2.1 ∈ k_tbl := in_tbl (in_t1 (List.mem_of_getElem? (i := 127) rfl)) rfl
set_option maxRecDepth 20000 in
theorem kw_212 : Jvm.Cond.fieldLink RX7 23 (TX7 3).1 (TX7 3).2.1 (TX7 3).2.2.1 ∈ k_tbl := in_tbl (in_t1 (List.mem_of_getElem? (i := 129) rfl)) rfl
set_option maxRecDepth 20000 in
theorem kw_213 : Jvm.Cond.fieldLink RX7 26 (TX7 4).1 (TX7 4).2.1 (TX7 4).2.2.1 ∈ k_tbl := in_tbl (in_t1 (List.mem_of_getElem? (i := 130) rfl)) rfl
set_option maxRecDepth 20000 in
theorem kw_214 : Jvm.Cond.fieldLink RX7 29 (TX7 5).1 (TX7 5).2.1 (TX7 5).2.2.1 ∈ k_tbl := in_tbl (in_t1 (List.mem_of_getElem? (i := 131) rfl)) rfl
set_option maxRecDepth 20000 in
theorem kw_215 : Jvm.Cond.fieldLink RX7 32 (TX7 6).1 (TX7 6).2.1 (TX7 6).2.2.1 ∈ k_tbl := in_tbl (in_t1 (List.mem_of_getElem? (i := 132) rfl)) rfl
set_option maxRecDepth 20000 in
theorem kw_216 : Jvm.Cond.fieldLink RX7 36 (TX7 7).1 (TX7 7).2.1 (TX7 7).2.2.1 ∈ k_tbl := in_tbl (in_t1 (List.mem_of_getElem? (i := 133) rfl)) rfl
set_option maxRecDepth 20000 in
theorem kw_217 : Jvm.Cond.methodLink RX7 125 yX5_clear ∈ k_tbl := in_tbl (in_t2 (List.mem_of_getElem? (i := 123) rfl)) rfl
set_option maxRecDepth 20000 in
theorem kw_218 : Jvm.Cond.methodLink RX7 145 yX5_join ∈ k_tbl := in_tbl (in_t2 (List.mem_of_getElem? (i := 154) rfl)) rfl
set_option maxRecDepth 20000 in
theorem kw_219 : Jvm.Cond.instanceMethod yX5_join ∈ k_tbl := in_tbl (in_t2 (List.mem_of_getElem? (i := 155) rfl)) rfl
set_option maxRecDepth 20000 in
theorem kw_220 : Jvm.Cond.selects RX5 yX5_join yX5_join ∈ k_tbl := in_tbl (in_t2 (List.mem_of_getElem? (i := 156) rfl)) rfl
set_option maxRecDepth 20000 in
theorem kw_221 : Jvm.Cond.methodLink RX7 118 yX5_next ∈ k_tbl := in_tbl (in_t2 (List.mem_of_getElem? (i := 139) rfl)) rfl
set_option maxRecDepth 20000 in
theorem kw_222 : Jvm.Cond.methodLink RX7 85 yJ9_max_7cf53 ∈ k_tbl := in_tbl (in_t2 (List.mem_of_getElem? (i := 158) rfl)) rfl
set_option maxRecDepth 20000 in
theorem kw_223 : Jvm.Cond.methodLink RX7 76 yX5_put ∈ k_tbl := in_tbl (in_t2 (List.mem_of_getElem? (i := 171) rfl)) rfl
set_option maxRecDepth 20000 in
theorem kw_224 : Jvm.Cond.methodLink RX7 148 yX5_has ∈ k_tbl := in_tbl (in_t2 (List.mem_of_getElem? (i := 163) rfl)) rfl
set_option maxRecDepth 20000 in
theorem kw_225 : Jvm.Cond.methodLink RX7 152 yX5_common ∈ k_tbl := in_tbl (in_t2 (List.mem_of_getElem? (i := 167) rfl)) rfl
set_option maxRecDepth 20000 in
theorem kw_226 : Jvm.Cond.instanceMethod yX5_common ∈ k_tbl := in_tbl (in_t2 (List.mem_of_getElem? (i := 168) rfl)) rfl
set_option maxRecDepth 20000 in
theorem kw_227 : Jvm.Cond.selects RX5 yX5_common yX5_common ∈ k_tbl := in_tbl (in_t2 (List.mem_of_getElem? (i := 169) rfl)) rfl
set_option maxRecDepth 20000 in
theorem kw_228 : Jvm.Cond.methodLink RX7 157 yX5_drop ∈ k_tbl := in_tbl (in_t2 (List.mem_of_getElem? (i := 183) rfl)) rfl
set_option maxRecDepth 20000 in
theorem kw_229 : Jvm.Cond.instanceMethod yX5_drop ∈ k_tbl := in_tbl (in_t2 (List.mem_of_getElem? (i := 184) rfl)) rfl
set_option maxRecDepth 20000 in
theorem kw_230 : Jvm.Cond.selects RX5 yX5_drop yX5_drop ∈ k_tbl := in_tbl (in_t2 (List.mem_of_getElem? (i := 185) rfl)) rfl
set_option maxRecDepth 20000 in
theorem kw_231 : Jvm.Cond.methodLink RX7 156 yX7_options ∈ k_tbl := in_tbl (in_t2 (List.mem_of_getElem? (i := 179) rfl)) rfl
set_option maxRecDepth 20000 in
theorem kw_232 : Jvm.Cond.instanceMethod yX7_options ∈ k_tbl := in_tbl (in_t2 (List.mem_of_getElem? (i := 180) rfl)) rfl
set_option maxRecDepth 20000 in
theorem kw_233 : Jvm.Cond.selects RX7 yX7_options yX7_options ∈ k_tbl := in_tbl (in_t2 (List.mem_of_getElem? (i := 181) rfl)) rfl
set_option maxRecDepth 20000 in
theorem kw_234 : Jvm.Cond.fieldLink RX7 39 (TX7 0).1 (TX7 0).2.1 (TX7 0).2.2.1 ∈ k_tbl := in_tbl (in_t1 (List.mem_of_getElem? (i := 124) rfl)) rfl
set_option maxRecDepth 20000 in
theorem kw_235 : Jvm.Cond.methodLink RX7 121 yX5_copy ∈ k_tbl := in_tbl (in_t2 (List.mem_of_getElem? (i := 195) rfl)) rfl
set_option maxRecDepth 20000 in
theorem kw_236 : Jvm.Cond.instanceMethod yX5_copy ∈ k_tbl := in_tbl (in_t2 (List.mem_of_getElem? (i := 196) rfl)) rfl
set_option maxRecDepth 20000 in
theorem kw_237 : Jvm.Cond.selects RX5 yX5_copy yX5_copy ∈ k_tbl := in_tbl (in_t2 (List.mem_of_getElem? (i := 197) rfl)) rfl
set_option maxRecDepth 20000 in
theorem kw_238 : Jvm.Cond.methodLink RX7 135 yX7_bypass ∈ k_tbl := in_tbl (in_t2 (List.mem_of_getElem? (i := 175) rfl)) rfl
set_option maxRecDepth 20000 in
theorem kw_239 : Jvm.Cond.instanceMethod yX7_bypass ∈ k_tbl := in_tbl (in_t2 (List.mem_of_getElem? (i := 177) rfl)) rfl
set_option maxRecDepth 20000 in
theorem kw_240 : Jvm.Cond.selects RX7 yX7_bypass yX7_bypass ∈ k_tbl := in_tbl (in_t0 (List.mem_of_getElem? (i := 9) rfl)) rfl
set_option maxRecDepth 20000 in
theorem kw_241 : Jvm.Cond.methodLink RX7 138 yX7_strike ∈ k_tbl := in_tbl (in_t2 (List.mem_of_getElem? (i := 187) rfl)) rfl
set_option maxRecDepth 20000 in
theorem kw_242 : Jvm.Cond.instanceMethod yX7_strike ∈ k_tbl := in_tbl (in_t2 (List.mem_of_getElem? (i := 189) rfl)) rfl
set_option maxRecDepth 20000 in
theorem kw_243 : Jvm.Cond.selects RX7 yX7_strike yX7_strike ∈ k_tbl := in_tbl (in_t0 (List.mem_of_getElem? (i := 10) rfl)) rfl
set_option maxRecDepth 20000 in
theorem kw_244 : Jvm.Cond.methodLink RX7 142 yX7_append ∈ k_tbl := in_tbl (in_t2 (List.mem_of_getElem? (i := 191) rfl)) rfl
set_option maxRecDepth 20000 in
theorem kw_245 : Jvm.Cond.instanceMethod yX7_append ∈ k_tbl := in_tbl (in_t2 (List.mem_of_getElem? (i := 193) rfl)) rfl
set_option maxRecDepth 20000 in
theorem kw_246 : Jvm.Cond.selects RX7 yX7_append yX7_append ∈ k_tbl := in_tbl (in_t0 (List.mem_of_getElem? (i := 11) rfl)) rfl
set_option maxRecDepth 20000 in
theorem kw_247 : Jvm.Cond.methodLink RX7 131 yX7_weigh ∈ k_tbl := in_tbl (in_t2 (List.mem_of_getElem? (i := 159) rfl)) rfl
set_option maxRecDepth 20000 in
theorem kw_248 : Jvm.Cond.instanceMethod yX7_weigh ∈ k_tbl := in_tbl (in_t2 (List.mem_of_getElem? (i := 161) rfl)) rfl
set_option maxRecDepth 20000 in
theorem kw_249 : Jvm.Cond.selects RX7 yX7_weigh yX7_weigh ∈ k_tbl := in_tbl (in_t0 (List.mem_of_getElem? (i := 8) rfl)) rfl
set_option maxRecDepth 20000 in
theorem kw_250 : Jvm.Cond.methodLink RX7 128 yX7_gatherBars ∈ k_tbl := in_tbl (in_t2 (List.mem_of_getElem? (i := 135) rfl)) rfl
set_option maxRecDepth 20000 in
theorem kw_251 : Jvm.Cond.instanceMethod yX7_gatherBars ∈ k_tbl := in_tbl (in_t2 (List.mem_of_getElem? (i := 137) rfl)) rfl
set_option maxRecDepth 20000 in
theorem kw_252 : Jvm.Cond.selects RX7 yX7_gatherBars yX7_gatherBars ∈ k_tbl := in_tbl (in_t0 (List.mem_of_getElem? (i := 6) rfl)) rfl
set_option maxRecDepth 20000 in
theorem kw_253 : Jvm.Cond.methodLink RX7 56 yX7_openHand ∈ k_tbl := in_tbl (in_t2 (List.mem_of_getElem? (i := 119) rfl)) rfl
set_option maxRecDepth 20000 in
theorem kw_254 : Jvm.Cond.instanceMethod yX7_openHand ∈ k_tbl := in_tbl (in_t2 (List.mem_of_getElem? (i := 121) rfl)) rfl
set_option maxRecDepth 20000 in
theorem kw_255 : Jvm.Cond.selects RX7 yX7_openHand yX7_openHand ∈ k_tbl := in_tbl (in_t0 (List.mem_of_getElem? (i := 3) rfl)) rfl
set_option maxRecDepth 20000 in
theorem kw_256 : Jvm.Cond.methodLink RX7 63 yX7_settle ∈ k_tbl := in_tbl (in_t2 (List.mem_of_getElem? (i := 131) rfl)) rfl
set_option maxRecDepth 20000 in
theorem kw_257 : Jvm.Cond.instanceMethod yX7_settle ∈ k_tbl := in_tbl (in_t2 (List.mem_of_getElem? (i := 133) rfl)) rfl
set_option maxRecDepth 20000 in
theorem kw_258 : Jvm.Cond.selects RX7 yX7_settle yX7_settle ∈ k_tbl := in_tbl (in_t0 (List.mem_of_getElem? (i := 5) rfl)) rfl
set_option maxRecDepth 20000 in
theorem kw_259 : Jvm.Cond.methodLink RX7 69 yX3_count ∈ k_tbl := in_tbl (in_t2 (List.mem_of_getElem? (i := 207) rfl)) rfl
set_option maxRecDepth 20000 in
theorem kw_260 : Jvm.Cond.methodLink RX7 72 yX3_mask ∈ k_tbl := in_tbl (in_t2 (List.mem_of_getElem? (i := 212) rfl)) rfl
set_option maxRecDepth 20000 in
theorem kw_261 : Jvm.Cond.methodLink RX7 66 yX7_markNext ∈ k_tbl := in_tbl (in_t2 (List.mem_of_getElem? (i := 203) rfl)) rfl
set_option maxRecDepth 20000 in
theorem kw_262 : Jvm.Cond.instanceMethod yX7_markNext ∈ k_tbl := in_tbl (in_t2 (List.mem_of_getElem? (i := 205) rfl)) rfl
set_option maxRecDepth 20000 in
theorem kw_263 : Jvm.Cond.selects RX7 yX7_markNext yX7_markNext ∈ k_tbl := in_tbl (in_t0 (List.mem_of_getElem? (i := 13) rfl)) rfl
set_option maxRecDepth 20000 in
theorem kw_264 : Jvm.Cond.methodLink RX7 59 yX7_offerRests ∈ k_tbl := in_tbl (in_t2 (List.mem_of_getElem? (i := 217) rfl)) rfl
set_option maxRecDepth 20000 in
theorem kw_265 : Jvm.Cond.instanceMethod yX7_offerRests ∈ k_tbl := in_tbl (in_t2 (List.mem_of_getElem? (i := 219) rfl)) rfl
set_option maxRecDepth 20000 in
theorem kw_266 : Jvm.Cond.selects RX7 yX7_offerRests yX7_offerRests ∈ k_tbl := in_tbl (in_t0 (List.mem_of_getElem? (i := 14) rfl)) rfl
set_option maxRecDepth 20000 in
theorem kw_267 : Jvm.Cond.methodLink RX7 52 yX7_markRests ∈ k_tbl := in_tbl (in_t2 (List.mem_of_getElem? (i := 199) rfl)) rfl
set_option maxRecDepth 20000 in
theorem kw_268 : Jvm.Cond.instanceMethod yX7_markRests ∈ k_tbl := in_tbl (in_t2 (List.mem_of_getElem? (i := 201) rfl)) rfl
set_option maxRecDepth 20000 in
theorem kw_269 : Jvm.Cond.selects RX7 yX7_markRests yX7_markRests ∈ k_tbl := in_tbl (in_t0 (List.mem_of_getElem? (i := 12) rfl)) rfl
set_option maxRecDepth 20000 in
theorem kw_270 : Jvm.Cond.methodLink RX7 49 yX7_makeNought ∈ k_tbl := in_tbl (in_t2 (List.mem_of_getElem? (i := 115) rfl)) rfl
set_option maxRecDepth 20000 in
theorem kw_271 : Jvm.Cond.instanceMethod yX7_makeNought ∈ k_tbl := in_tbl (in_t2 (List.mem_of_getElem? (i := 117) rfl)) rfl
set_option maxRecDepth 20000 in
theorem kw_272 : Jvm.Cond.selects RX7 yX7_makeNought yX7_makeNought ∈ k_tbl := in_tbl (in_t0 (List.mem_of_getElem? (i := 2) rfl)) rfl
set_option maxRecDepth 20000 in
theorem kw_273 : Jvm.Cond.methodLink RX7 43 yX3_allFields ∈ k_tbl := in_tbl (in_t2 (List.mem_of_getElem? (i := 111) rfl)) rfl
set_option maxRecDepth 20000 in
theorem kw_274 : Jvm.Cond.methodLink RX7 98 yX7_makePair ∈ k_tbl := in_tbl (in_t3 (List.mem_of_getElem? (i := 55) rfl)) rfl
set_option maxRecDepth 20000 in
theorem kw_275 : Jvm.Cond.instanceMethod yX7_makePair ∈ k_tbl := in_tbl (in_t3 (List.mem_of_getElem? (i := 57) rfl)) rfl
set_option maxRecDepth 20000 in
theorem kw_276 : Jvm.Cond.selects RX7 yX7_makePair yX7_makePair ∈ k_tbl := in_tbl (in_t0 (List.mem_of_getElem? (i := 24) rfl)) rfl
set_option maxRecDepth 20000 in
theorem kw_277 : Jvm.Cond.methodLink RX7 91 yJ9_abs_0f7a4 ∈ k_tbl := in_tbl (in_t3 (List.mem_of_getElem? (i := 48) rfl)) rfl
set_option maxRecDepth 20000 in
theorem kw_278 : Jvm.Cond.static yJ9_abs_0f7a4 ∈ k_tbl := in_tbl (in_t3 (List.mem_of_getElem? (i := 49) rfl)) rfl
set_option maxRecDepth 20000 in
theorem kw_279 : Jvm.Cond.methodLink RX7 80 yJ9_min_7cf53 ∈ k_tbl := in_tbl (in_t3 (List.mem_of_getElem? (i := 44) rfl)) rfl
set_option maxRecDepth 20000 in
theorem kw_280 : Jvm.Cond.methodLink RX7 94 yX7_between ∈ k_tbl := in_tbl (in_t3 (List.mem_of_getElem? (i := 51) rfl)) rfl
set_option maxRecDepth 20000 in
theorem kw_281 : Jvm.Cond.instanceMethod yX7_between ∈ k_tbl := in_tbl (in_t3 (List.mem_of_getElem? (i := 53) rfl)) rfl
set_option maxRecDepth 20000 in
theorem kw_282 : Jvm.Cond.selects RX7 yX7_between yX7_between ∈ k_tbl := in_tbl (in_t0 (List.mem_of_getElem? (i := 23) rfl)) rfl
set_option maxRecDepth 20000 in
theorem kw_283 : Jvm.Cond.methodLink RX7 88 yJ9_floorDiv_7cf53 ∈ k_tbl := in_tbl (in_t3 (List.mem_of_getElem? (i := 45) rfl)) rfl
set_option maxRecDepth 20000 in
theorem kw_284 : Jvm.Cond.methodLink RX7 114 yX1_options ∈ k_tbl := in_tbl (in_t3 (List.mem_of_getElem? (i := 94) rfl)) rfl
set_option maxRecDepth 20000 in
theorem kw_285 : Jvm.Cond.fieldLinkNest RX7 105 (TX1 2).1 (TX1 2).2.1 (TX1 2).2.2.1 "PlankBench" ∈ k_tbl := in_tbl (in_t1 (List.mem_of_getElem? (i := 83) rfl)) rfl
set_option maxRecDepth 20000 in
theorem kw_286 : Jvm.Cond.methodLink RX7 110 yX7_offerMade ∈ k_tbl := in_tbl (in_t3 (List.mem_of_getElem? (i := 90) rfl)) rfl
set_option maxRecDepth 20000 in
theorem kw_287 : Jvm.Cond.instanceMethod yX7_offerMade ∈ k_tbl := in_tbl (in_t3 (List.mem_of_getElem? (i := 92) rfl)) rfl
set_option maxRecDepth 20000 in
theorem kw_288 : Jvm.Cond.selects RX7 yX7_offerMade yX7_offerMade ∈ k_tbl := in_tbl (in_t0 (List.mem_of_getElem? (i := 28) rfl)) rfl
set_option maxRecDepth 20000 in
theorem kw_289 : Jvm.Cond.methodLink RX7 101 yX7_bring ∈ k_tbl := in_tbl (in_t3 (List.mem_of_getElem? (i := 86) rfl)) rfl
set_option maxRecDepth 20000 in
theorem kw_290 : Jvm.Cond.instanceMethod yX7_bring ∈ k_tbl := in_tbl (in_t3 (List.mem_of_getElem? (i := 88) rfl)) rfl
set_option maxRecDepth 20000 in
theorem kw_291 : Jvm.Cond.selects RX7 yX7_bring yX7_bring ∈ k_tbl := in_tbl (in_t0 (List.mem_of_getElem? (i := 27) rfl)) rfl
set_option maxRecDepth 20000 in
theorem kw_292 : Jvm.Cond.fieldLinkNest RX7 160 (TX1 0).1 (TX1 0).2.1 (TX1 0).2.2.1 "PlankBench" ∈ k_tbl := in_tbl (in_t1 (List.mem_of_getElem? (i := 74) rfl)) rfl
set_option maxRecDepth 20000 in
theorem kw_293 : Jvm.Cond.fieldLinkNest RX7 161 (TX1 1).1 (TX1 1).2.1 (TX1 1).2.2.1 "PlankBench" ∈ k_tbl := in_tbl (in_t1 (List.mem_of_getElem? (i := 79) rfl)) rfl
set_option maxRecDepth 20000 in
theorem kw_294 : Jvm.Cond.classLink RX8 16 RX1 ∈ k_tbl := in_tbl (in_t1 (List.mem_of_getElem? (i := 43) rfl)) rfl
set_option maxRecDepth 20000 in
theorem kw_295 : Jvm.Cond.instantiable RX1 4 ∈ k_tbl := in_tbl (in_t1 (List.mem_of_getElem? (i := 45) rfl)) rfl
set_option maxRecDepth 20000 in
theorem kw_296 : Jvm.Cond.initialized RX1 ∈ k_tbl := in_tbl (in_t1 (List.mem_of_getElem? (i := 3) rfl)) rfl
set_option maxRecDepth 20000 in
theorem kw_297 : Jvm.Cond.methodLink RX8 22 yX1_init ∈ k_tbl := in_tbl (in_t1 (List.mem_of_getElem? (i := 46) rfl)) rfl
set_option maxRecDepth 20000 in
theorem kw_298 : Jvm.Cond.instanceMethod yX1_init ∈ k_tbl := in_tbl (in_t1 (List.mem_of_getElem? (i := 47) rfl)) rfl
set_option maxRecDepth 20000 in
theorem kw_299 : Jvm.Cond.fieldLink RX8 25 (TX8 2).1 (TX8 2).2.1 (TX8 2).2.2.1 ∈ k_tbl := in_tbl (in_t1 (List.mem_of_getElem? (i := 202) rfl)) rfl
set_option maxRecDepth 20000 in
theorem kw_300 : Jvm.Cond.classLink RX8 29 RX3 ∈ k_tbl := in_tbl (in_t1 (List.mem_of_getElem? (i := 97) rfl)) rfl
set_option maxRecDepth 20000 in
theorem kw_301 : Jvm.Cond.instantiable RX3 4 ∈ k_tbl := in_tbl (in_t1 (List.mem_of_getElem? (i := 98) rfl)) rfl
set_option maxRecDepth 20000 in
theorem kw_302 : Jvm.Cond.initialized RX3 ∈ k_tbl := in_tbl (in_t1 (List.mem_of_getElem? (i := 6) rfl)) rfl
set_option maxRecDepth 20000 in
theorem kw_303 : Jvm.Cond.methodLinkNest RX8 31 yX3_init "PlankBench" ∈ k_tbl := in_tbl (in_t1 (List.mem_of_getElem? (i := 99) rfl)) rfl
set_option maxRecDepth 20000 in
theorem kw_304 : Jvm.Cond.instanceMethod yX3_init ∈ k_tbl := in_tbl (in_t1 (List.mem_of_getElem? (i := 100) rfl)) rfl
set_option maxRecDepth 20000 in
theorem kw_305 : Jvm.Cond.fieldLink RX8 32 (TX8 3).1 (TX8 3).2.1 (TX8 3).2.2.1 ∈ k_tbl := in_tbl (in_t1 (List.mem_of_getElem? (i := 203) rfl)) rfl
set_option maxRecDepth 20000 in
theorem kw_306 : Jvm.Cond.classLink RX8 36 RX7 ∈ k_tbl := in_tbl (in_t1 (List.mem_of_getElem? (i := 116) rfl)) rfl
set_option maxRecDepth 20000 in
theorem kw_307 : Jvm.Cond.instantiable RX7 8 ∈ k_tbl := in_tbl (in_t1 (List.mem_of_getElem? (i := 117) rfl)) rfl
set_option maxRecDepth 20000 in
theorem kw_308 : Jvm.Cond.initialized RX7 ∈ k_tbl := in_tbl (in_t1 (List.mem_of_getElem? (i := 7) rfl)) rfl
set_option maxRecDepth 20000 in
theorem kw_309 : Jvm.Cond.methodLinkNest RX8 38 yX7_init "PlankBench" ∈ k_tbl := in_tbl (in_t1 (List.mem_of_getElem? (i := 118) rfl)) rfl
set_option maxRecDepth 20000 in
theorem kw_310 : Jvm.Cond.instanceMethod yX7_init ∈ k_tbl := in_tbl (in_t1 (List.mem_of_getElem? (i := 119) rfl)) rfl
set_option maxRecDepth 20000 in
theorem kw_311 : Jvm.Cond.fieldLink RX8 39 (TX8 4).1 (TX8 4).2.1 (TX8 4).2.2.1 ∈ k_tbl := in_tbl (in_t1 (List.mem_of_getElem? (i := 204) rfl)) rfl
set_option maxRecDepth 20000 in
theorem kw_312 : Jvm.Cond.classLink RX8 43 RX2 ∈ k_tbl := in_tbl (in_t1 (List.mem_of_getElem? (i := 151) rfl)) rfl
set_option maxRecDepth 20000 in
theorem kw_313 : Jvm.Cond.instantiable RX2 4 ∈ k_tbl := in_tbl (in_t1 (List.mem_of_getElem? (i := 152) rfl)) rfl
set_option maxRecDepth 20000 in
theorem kw_314 : Jvm.Cond.initialized RX2 ∈ k_tbl := in_tbl (in_t1 (List.mem_of_getElem? (i := 8) rfl)) rfl
set_option maxRecDepth 20000 in
theorem kw_315 : Jvm.Cond.methodLinkNest RX8 45 yX2_init "PlankBench" ∈ k_tbl := in_tbl (in_t1 (List.mem_of_getElem? (i := 153) rfl)) rfl
set_option maxRecDepth 20000 in
theorem kw_316 : Jvm.Cond.instanceMethod yX2_init ∈ k_tbl := in_tbl (in_t1 (List.mem_of_getElem? (i := 154) rfl)) rfl
set_option maxRecDepth 20000 in
theorem kw_317 : Jvm.Cond.fieldLink RX8 46 (TX8 5).1 (TX8 5).2.1 (TX8 5).2.2.1 ∈ k_tbl := in_tbl (in_t1 (List.mem_of_getElem? (i := 205) rfl)) rfl
set_option maxRecDepth 20000 in
theorem kw_318 : Jvm.Cond.classLink RX8 50 RX6 ∈ k_tbl := in_tbl (in_t1 (List.mem_of_getElem? (i := 171) rfl)) rfl
set_option maxRecDepth 20000 in
theorem kw_319 : Jvm.Cond.instantiable RX6 4 ∈ k_tbl := in_tbl (in_t1 (List.mem_of_getElem? (i := 172) rfl)) rfl
set_option maxRecDepth 20000 in
theorem kw_320 : Jvm.Cond.initialized RX6 ∈ k_tbl := in_tbl (in_t1 (List.mem_of_getElem? (i := 9) rfl)) rfl
set_option maxRecDepth 20000 in
theorem kw_321 : Jvm.Cond.methodLinkNest RX8 52 yX6_init "PlankBench" ∈ k_tbl := in_tbl (in_t1 (List.mem_of_getElem? (i := 173) rfl)) rfl
set_option maxRecDepth 20000 in
theorem kw_322 : Jvm.Cond.instanceMethod yX6_init ∈ k_tbl := in_tbl (in_t1 (List.mem_of_getElem? (i := 174) rfl)) rfl
set_option maxRecDepth 20000 in
theorem kw_323 : Jvm.Cond.fieldLink RX8 53 (TX8 6).1 (TX8 6).2.1 (TX8 6).2.2.1 ∈ k_tbl := in_tbl (in_t1 (List.mem_of_getElem? (i := 206) rfl)) rfl
set_option maxRecDepth 20000 in
theorem kw_324 : Jvm.Cond.classLink RX8 57 RX4 ∈ k_tbl := in_tbl (in_t1 (List.mem_of_getElem? (i := 190) rfl)) rfl
set_option maxRecDepth 20000 in
theorem kw_325 : Jvm.Cond.instantiable RX4 1 ∈ k_tbl := in_tbl (in_t1 (List.mem_of_getElem? (i := 191) rfl)) rfl
set_option maxRecDepth 20000 in
theorem kw_326 : Jvm.Cond.initialized RX4 ∈ k_tbl := in_tbl (in_t1 (List.mem_of_getElem? (i := 10) rfl)) rfl
set_option maxRecDepth 20000 in
theorem kw_327 : Jvm.Cond.methodLinkNest RX8 59 yX4_init "PlankBench" ∈ k_tbl := in_tbl (in_t1 (List.mem_of_getElem? (i := 192) rfl)) rfl
set_option maxRecDepth 20000 in
theorem kw_328 : Jvm.Cond.instanceMethod yX4_init ∈ k_tbl := in_tbl (in_t1 (List.mem_of_getElem? (i := 193) rfl)) rfl
set_option maxRecDepth 20000 in
theorem kw_329 : Jvm.Cond.fieldLink RX8 60 (TX8 7).1 (TX8 7).2.1 (TX8 7).2.2.1 ∈ k_tbl := in_tbl (in_t1 (List.mem_of_getElem? (i := 207) rfl)) rfl
set_option maxRecDepth 20000 in
theorem kw_330 : Jvm.Cond.fieldLink RX8 18 (TX8 1).1 (TX8 1).2.1 (TX8 1).2.2.1 ∈ k_tbl := in_tbl (in_t1 (List.mem_of_getElem? (i := 201) rfl)) rfl
set_option maxRecDepth 20000 in
theorem kw_331 : Jvm.Cond.arrayOver (Jvm.ClassFile.FieldType.object "PlankBench$Form") ∈ k_tbl := in_tbl (in_t1 (List.mem_of_getElem? (i := 44) rfl)) rfl
set_option maxRecDepth 20000 in
theorem kw_332 : Jvm.Cond.fieldLink RX8 11 (TX8 0).1 (TX8 0).2.1 (TX8 0).2.2.1 ∈ k_tbl := in_tbl (in_t1 (List.mem_of_getElem? (i := 200) rfl)) rfl
set_option maxRecDepth 20000 in
theorem kw_333 : Jvm.Cond.classLink RX8 9 RX0 ∈ k_tbl := in_tbl (in_t1 (List.mem_of_getElem? (i := 22) rfl)) rfl
set_option maxRecDepth 20000 in
theorem kw_334 : Jvm.Cond.instantiable RX0 4 ∈ k_tbl := in_tbl (in_t1 (List.mem_of_getElem? (i := 24) rfl)) rfl
set_option maxRecDepth 20000 in
theorem kw_335 : Jvm.Cond.initialized RX0 ∈ k_tbl := in_tbl (in_t1 (List.mem_of_getElem? (i := 2) rfl)) rfl
set_option maxRecDepth 20000 in
theorem kw_336 : Jvm.Cond.methodLinkNest RX8 15 yX0_init "PlankBench" ∈ k_tbl := in_tbl (in_t1 (List.mem_of_getElem? (i := 25) rfl)) rfl
set_option maxRecDepth 20000 in
theorem kw_337 : Jvm.Cond.instanceMethod yX0_init ∈ k_tbl := in_tbl (in_t1 (List.mem_of_getElem? (i := 26) rfl)) rfl
set_option maxRecDepth 20000 in
theorem kw_338 : Jvm.Cond.methodLink RX8 3 objectInit ∈ k_tbl := in_tbl (in_t1 (List.mem_of_getElem? (i := 19) rfl)) rfl
set_option maxRecDepth 20000 in
theorem kw_339 : Jvm.Cond.arrayOver (Jvm.ClassFile.FieldType.object "PlankBench$Board") ∈ k_tbl := in_tbl (in_t1 (List.mem_of_getElem? (i := 23) rfl)) rfl
set_option maxRecDepth 20000 in
theorem kw_340 : Jvm.Cond.methodLink RX8 68 yX0_setRow ∈ k_tbl := in_tbl (in_t1 (List.mem_of_getElem? (i := 232) rfl)) rfl
set_option maxRecDepth 20000 in
theorem kw_341 : Jvm.Cond.instanceMethod yX0_setRow ∈ k_tbl := in_tbl (in_t1 (List.mem_of_getElem? (i := 233) rfl)) rfl
set_option maxRecDepth 20000 in
theorem kw_342 : Jvm.Cond.selects RX0 yX0_setRow yX0_setRow ∈ k_tbl := in_tbl (in_t1 (List.mem_of_getElem? (i := 234) rfl)) rfl
set_option maxRecDepth 20000 in
theorem kw_343 : Jvm.Cond.methodLink RX8 72 yX0_freeCount ∈ k_tbl := in_tbl (in_t1 (List.mem_of_getElem? (i := 236) rfl)) rfl
set_option maxRecDepth 20000 in
theorem kw_344 : Jvm.Cond.methodLink RX8 64 yX8_isBoard ∈ k_tbl := in_tbl (in_t1 (List.mem_of_getElem? (i := 229) rfl)) rfl
set_option maxRecDepth 20000 in
theorem kw_345 : Jvm.Cond.static yX8_isBoard ∈ k_tbl := in_tbl (in_t1 (List.mem_of_getElem? (i := 230) rfl)) rfl
set_option maxRecDepth 20000 in
theorem kw_346 : Jvm.Cond.methodLink RX8 76 yX0_isFree ∈ k_tbl := in_tbl (in_t2 (List.mem_of_getElem? (i := 10) rfl)) rfl
set_option maxRecDepth 20000 in
theorem kw_347 : Jvm.Cond.methodLink RX8 79 yX0_partCount ∈ k_tbl := in_tbl (in_t2 (List.mem_of_getElem? (i := 22) rfl)) rfl
set_option maxRecDepth 20000 in
theorem kw_348 : Jvm.Cond.instanceMethod yX0_partCount ∈ k_tbl := in_tbl (in_t2 (List.mem_of_getElem? (i := 23) rfl)) rfl
set_option maxRecDepth 20000 in
theorem kw_349 : Jvm.Cond.selects RX0 yX0_partCount yX0_partCount ∈ k_tbl := in_tbl (in_t2 (List.mem_of_getElem? (i := 24) rfl)) rfl
set_option maxRecDepth 20000 in
theorem kw_350 : Jvm.Cond.methodLink RX8 82 yX8_isSide ∈ k_tbl := in_tbl (in_t2 (List.mem_of_getElem? (i := 35) rfl)) rfl
set_option maxRecDepth 20000 in
theorem kw_351 : Jvm.Cond.methodLink RX8 85 yX0_plankCount ∈ k_tbl := in_tbl (in_t2 (List.mem_of_getElem? (i := 38) rfl)) rfl
set_option maxRecDepth 20000 in
theorem kw_352 : Jvm.Cond.instanceMethod yX0_plankCount ∈ k_tbl := in_tbl (in_t2 (List.mem_of_getElem? (i := 39) rfl)) rfl
set_option maxRecDepth 20000 in
theorem kw_353 : Jvm.Cond.selects RX0 yX0_plankCount yX0_plankCount ∈ k_tbl := in_tbl (in_t2 (List.mem_of_getElem? (i := 40) rfl)) rfl
set_option maxRecDepth 20000 in
theorem kw_354 : Jvm.Cond.methodLink RX8 89 yX0_put ∈ k_tbl := in_tbl (in_t2 (List.mem_of_getElem? (i := 51) rfl)) rfl
set_option maxRecDepth 20000 in
theorem kw_355 : Jvm.Cond.instanceMethod yX0_put ∈ k_tbl := in_tbl (in_t2 (List.mem_of_getElem? (i := 52) rfl)) rfl
set_option maxRecDepth 20000 in
theorem kw_356 : Jvm.Cond.selects RX0 yX0_put yX0_put ∈ k_tbl := in_tbl (in_t2 (List.mem_of_getElem? (i := 53) rfl)) rfl
set_option maxRecDepth 20000 in
theorem kw_357 : Jvm.Cond.methodLink RX8 93 yX0_laidCount ∈ k_tbl := in_tbl (in_t2 (List.mem_of_getElem? (i := 55) rfl)) rfl
set_option maxRecDepth 20000 in
theorem kw_358 : Jvm.Cond.instanceMethod yX0_laidCount ∈ k_tbl := in_tbl (in_t2 (List.mem_of_getElem? (i := 56) rfl)) rfl
set_option maxRecDepth 20000 in
theorem kw_359 : Jvm.Cond.selects RX0 yX0_laidCount yX0_laidCount ∈ k_tbl := in_tbl (in_t2 (List.mem_of_getElem? (i := 57) rfl)) rfl
set_option maxRecDepth 20000 in
theorem kw_360 : Jvm.Cond.methodLink RX8 96 yX0_takeBack ∈ k_tbl := in_tbl (in_t2 (List.mem_of_getElem? (i := 63) rfl)) rfl
set_option maxRecDepth 20000 in
theorem kw_361 : Jvm.Cond.instanceMethod yX0_takeBack ∈ k_tbl := in_tbl (in_t2 (List.mem_of_getElem? (i := 64) rfl)) rfl
set_option maxRecDepth 20000 in
theorem kw_362 : Jvm.Cond.selects RX0 yX0_takeBack yX0_takeBack ∈ k_tbl := in_tbl (in_t2 (List.mem_of_getElem? (i := 65) rfl)) rfl
set_option maxRecDepth 20000 in
theorem kw_363 : Jvm.Cond.methodLink RX8 99 yX0_turnedMask ∈ k_tbl := in_tbl (in_t2 (List.mem_of_getElem? (i := 71) rfl)) rfl
set_option maxRecDepth 20000 in
theorem kw_364 : Jvm.Cond.instanceMethod yX0_turnedMask ∈ k_tbl := in_tbl (in_t2 (List.mem_of_getElem? (i := 72) rfl)) rfl
set_option maxRecDepth 20000 in
theorem kw_365 : Jvm.Cond.selects RX0 yX0_turnedMask yX0_turnedMask ∈ k_tbl := in_tbl (in_t2 (List.mem_of_getElem? (i := 73) rfl)) rfl
set_option maxRecDepth 20000 in
theorem kw_366 : Jvm.Cond.methodLink RX8 102 yX0_become ∈ k_tbl := in_tbl (in_t2 (List.mem_of_getElem? (i := 75) rfl)) rfl
set_option maxRecDepth 20000 in
theorem kw_367 : Jvm.Cond.instanceMethod yX0_become ∈ k_tbl := in_tbl (in_t2 (List.mem_of_getElem? (i := 76) rfl)) rfl
set_option maxRecDepth 20000 in
theorem kw_368 : Jvm.Cond.selects RX0 yX0_become yX0_become ∈ k_tbl := in_tbl (in_t2 (List.mem_of_getElem? (i := 77) rfl)) rfl
set_option maxRecDepth 20000 in
theorem kw_369 : Jvm.Cond.methodLink RX8 207 yX2_store ∈ k_tbl := in_tbl (in_t2 (List.mem_of_getElem? (i := 225) rfl)) rfl
set_option maxRecDepth 20000 in
theorem kw_370 : Jvm.Cond.instanceMethod yX2_store ∈ k_tbl := in_tbl (in_t2 (List.mem_of_getElem? (i := 226) rfl)) rfl
set_option maxRecDepth 20000 in
theorem kw_371 : Jvm.Cond.selects RX2 yX2_store yX2_store ∈ k_tbl := in_tbl (in_t2 (List.mem_of_getElem? (i := 227) rfl)) rfl
set_option maxRecDepth 20000 in
theorem kw_372 : Jvm.Cond.fieldLinkNest RX8 143 (TX1 2).1 (TX1 2).2.1 (TX1 2).2.2.1 "PlankBench" ∈ k_tbl := in_tbl (in_t1 (List.mem_of_getElem? (i := 84) rfl)) rfl
set_option maxRecDepth 20000 in
theorem kw_373 : Jvm.Cond.methodLink RX8 108 yX3_clear ∈ k_tbl := in_tbl (in_t2 (List.mem_of_getElem? (i := 86) rfl)) rfl
set_option maxRecDepth 20000 in
theorem kw_374 : Jvm.Cond.instanceMethod yX3_clear ∈ k_tbl := in_tbl (in_t2 (List.mem_of_getElem? (i := 87) rfl)) rfl
set_option maxRecDepth 20000 in
theorem kw_375 : Jvm.Cond.selects RX3 yX3_clear yX3_clear ∈ k_tbl := in_tbl (in_t2 (List.mem_of_getElem? (i := 88) rfl)) rfl
set_option maxRecDepth 20000 in
theorem kw_376 : Jvm.Cond.methodLink RX8 111 yX3_bring ∈ k_tbl := in_tbl (in_t2 (List.mem_of_getElem? (i := 90) rfl)) rfl
set_option maxRecDepth 20000 in
theorem kw_377 : Jvm.Cond.instanceMethod yX3_bring ∈ k_tbl := in_tbl (in_t2 (List.mem_of_getElem? (i := 91) rfl)) rfl
set_option maxRecDepth 20000 in
theorem kw_378 : Jvm.Cond.selects RX3 yX3_bring yX3_bring ∈ k_tbl := in_tbl (in_t2 (List.mem_of_getElem? (i := 92) rfl)) rfl
set_option maxRecDepth 20000 in
theorem kw_379 : Jvm.Cond.methodLink RX8 115 yX7_makeBoard ∈ k_tbl := in_tbl (in_t2 (List.mem_of_getElem? (i := 107) rfl)) rfl
set_option maxRecDepth 20000 in
theorem kw_380 : Jvm.Cond.instanceMethod yX7_makeBoard ∈ k_tbl := in_tbl (in_t2 (List.mem_of_getElem? (i := 108) rfl)) rfl
set_option maxRecDepth 20000 in
theorem kw_381 : Jvm.Cond.selects RX7 yX7_makeBoard yX7_makeBoard ∈ k_tbl := in_tbl (in_t2 (List.mem_of_getElem? (i := 109) rfl)) rfl
set_option maxRecDepth 20000 in
theorem kw_382 : Jvm.Cond.methodLink RX8 119 yX8_keep ∈ k_tbl := in_tbl (in_t2 (List.mem_of_getElem? (i := 221) rfl)) rfl
set_option maxRecDepth 20000 in
theorem kw_383 : Jvm.Cond.instanceMethod yX8_keep ∈ k_tbl := in_tbl (in_t2 (List.mem_of_getElem? (i := 223) rfl)) rfl
set_option maxRecDepth 20000 in
theorem kw_384 : Jvm.Cond.selects RX8 yX8_keep yX8_keep ∈ k_tbl := in_tbl (in_t0 (List.mem_of_getElem? (i := 15) rfl)) rfl
set_option maxRecDepth 20000 in
theorem kw_385 : Jvm.Cond.methodLink RX8 105 yX8_isSpot ∈ k_tbl := in_tbl (in_t2 (List.mem_of_getElem? (i := 83) rfl)) rfl
set_option maxRecDepth 20000 in
theorem kw_386 : Jvm.Cond.static yX8_isSpot ∈ k_tbl := in_tbl (in_t2 (List.mem_of_getElem? (i := 84) rfl)) rfl
set_option maxRecDepth 20000 in
theorem kw_387 : Jvm.Cond.methodLink RX8 123 yX7_makeNumber ∈ k_tbl := in_tbl (in_t3 (List.mem_of_getElem? (i := 40) rfl)) rfl
set_option maxRecDepth 20000 in
theorem kw_388 : Jvm.Cond.instanceMethod yX7_makeNumber ∈ k_tbl := in_tbl (in_t3 (List.mem_of_getElem? (i := 41) rfl)) rfl
set_option maxRecDepth 20000 in
theorem kw_389 : Jvm.Cond.selects RX7 yX7_makeNumber yX7_makeNumber ∈ k_tbl := in_tbl (in_t3 (List.mem_of_getElem? (i := 42) rfl)) rfl
set_option maxRecDepth 20000 in
theorem kw_390 : Jvm.Cond.methodLink RX8 126 yX7_makeUps ∈ k_tbl := in_tbl (in_t3 (List.mem_of_getElem? (i := 63) rfl)) rfl
set_option maxRecDepth 20000 in
theorem kw_391 : Jvm.Cond.instanceMethod yX7_makeUps ∈ k_tbl := in_tbl (in_t3 (List.mem_of_getElem? (i := 64) rfl)) rfl
set_option maxRecDepth 20000 in
theorem kw_392 : Jvm.Cond.selects RX7 yX7_makeUps yX7_makeUps ∈ k_tbl := in_tbl (in_t3 (List.mem_of_getElem? (i := 65) rfl)) rfl
set_option maxRecDepth 20000 in
theorem kw_393 : Jvm.Cond.fieldLinkNest RX8 164 (TX1 3).1 (TX1 3).2.1 (TX1 3).2.2.1 "PlankBench" ∈ k_tbl := in_tbl (in_t1 (List.mem_of_getElem? (i := 87) rfl)) rfl
set_option maxRecDepth 20000 in
theorem kw_394 : Jvm.Cond.methodLink RX8 139 yX7_makeOf ∈ k_tbl := in_tbl (in_t3 (List.mem_of_getElem? (i := 82) rfl)) rfl
set_option maxRecDepth 20000 in
theorem kw_395 : Jvm.Cond.instanceMethod yX7_makeOf ∈ k_tbl := in_tbl (in_t3 (List.mem_of_getElem? (i := 83) rfl)) rfl
set_option maxRecDepth 20000 in
theorem kw_396 : Jvm.Cond.selects RX7 yX7_makeOf yX7_makeOf ∈ k_tbl := in_tbl (in_t3 (List.mem_of_getElem? (i := 84) rfl)) rfl
set_option maxRecDepth 20000 in
theorem kw_397 : Jvm.Cond.methodLink RX8 136 yX8_sizeOf ∈ k_tbl := in_tbl (in_t3 (List.mem_of_getElem? (i := 78) rfl)) rfl
set_option maxRecDepth 20000 in
theorem kw_398 : Jvm.Cond.instanceMethod yX8_sizeOf ∈ k_tbl := in_tbl (in_t3 (List.mem_of_getElem? (i := 80) rfl)) rfl
set_option maxRecDepth 20000 in
theorem kw_399 : Jvm.Cond.selects RX8 yX8_sizeOf yX8_sizeOf ∈ k_tbl := in_tbl (in_t0 (List.mem_of_getElem? (i := 26) rfl)) rfl
set_option maxRecDepth 20000 in
theorem kw_400 : Jvm.Cond.methodLink RX8 133 yX8_isTooDeep ∈ k_tbl := in_tbl (in_t3 (List.mem_of_getElem? (i := 74) rfl)) rfl
set_option maxRecDepth 20000 in
theorem kw_401 : Jvm.Cond.instanceMethod yX8_isTooDeep ∈ k_tbl := in_tbl (in_t3 (List.mem_of_getElem? (i := 76) rfl)) rfl
set_option maxRecDepth 20000 in
theorem kw_402 : Jvm.Cond.selects RX8 yX8_isTooDeep yX8_isTooDeep ∈ k_tbl := in_tbl (in_t0 (List.mem_of_getElem? (i := 25) rfl)) rfl
set_option maxRecDepth 20000 in
theorem kw_403 : Jvm.Cond.methodLink RX8 130 yX8_isSpotSet ∈ k_tbl := in_tbl (in_t3 (List.mem_of_getElem? (i := 71) rfl)) rfl
set_option maxRecDepth 20000 in
theorem kw_404 : Jvm.Cond.static yX8_isSpotSet ∈ k_tbl := in_tbl (in_t3 (List.mem_of_getElem? (i := 72) rfl)) rfl
set_option maxRecDepth 20000 in
theorem kw_405 : Jvm.Cond.methodLink RX8 147 yX7_makeSum ∈ k_tbl := in_tbl (in_t3 (List.mem_of_getElem? (i := 102) rfl)) rfl
set_option maxRecDepth 20000 in
theorem kw_406 : Jvm.Cond.instanceMethod yX7_makeSum ∈ k_tbl := in_tbl (in_t3 (List.mem_of_getElem? (i := 103) rfl)) rfl
set_option maxRecDepth 20000 in
theorem kw_407 : Jvm.Cond.selects RX7 yX7_makeSum yX7_makeSum ∈ k_tbl := in_tbl (in_t3 (List.mem_of_getElem? (i := 104) rfl)) rfl
set_option maxRecDepth 20000 in
theorem kw_408 : Jvm.Cond.methodLink RX8 151 yX7_copy ∈ k_tbl := in_tbl (in_t3 (List.mem_of_getElem? (i := 110) rfl)) rfl
set_option maxRecDepth 20000 in
theorem kw_409 : Jvm.Cond.instanceMethod yX7_copy ∈ k_tbl := in_tbl (in_t3 (List.mem_of_getElem? (i := 111) rfl)) rfl
set_option maxRecDepth 20000 in
theorem kw_410 : Jvm.Cond.selects RX7 yX7_copy yX7_copy ∈ k_tbl := in_tbl (in_t3 (List.mem_of_getElem? (i := 112) rfl)) rfl
set_option maxRecDepth 20000 in
theorem kw_411 : Jvm.Cond.methodLink RX8 155 yX1_options ∈ k_tbl := in_tbl (in_t3 (List.mem_of_getElem? (i := 118) rfl)) rfl
set_option maxRecDepth 20000 in
theorem kw_412 : Jvm.Cond.methodLink RX8 159 yX5_bitAt ∈ k_tbl := in_tbl (in_t3 (List.mem_of_getElem? (i := 119) rfl)) rfl
set_option maxRecDepth 20000 in
theorem kw_413 : Jvm.Cond.methodLink RX8 177 yX6_kindOf ∈ k_tbl := in_tbl (in_t3 (List.mem_of_getElem? (i := 129) rfl)) rfl
set_option maxRecDepth 20000 in
theorem kw_414 : Jvm.Cond.instanceMethod yX6_kindOf ∈ k_tbl := in_tbl (in_t3 (List.mem_of_getElem? (i := 130) rfl)) rfl
set_option maxRecDepth 20000 in
theorem kw_415 : Jvm.Cond.selects RX6 yX6_kindOf yX6_kindOf ∈ k_tbl := in_tbl (in_t3 (List.mem_of_getElem? (i := 131) rfl)) rfl
set_option maxRecDepth 20000 in
theorem kw_416 : Jvm.Cond.fieldLinkNest RX8 174 (TX1 1).1 (TX1 1).2.1 (TX1 1).2.2.1 "PlankBench" ∈ k_tbl := in_tbl (in_t1 (List.mem_of_getElem? (i := 78) rfl)) rfl
set_option maxRecDepth 20000 in
theorem kw_417 : Jvm.Cond.methodLink RX8 171 yX5_bitCount ∈ k_tbl := in_tbl (in_t3 (List.mem_of_getElem? (i := 128) rfl)) rfl
set_option maxRecDepth 20000 in
theorem kw_418 : Jvm.Cond.fieldLinkNest RX8 167 (TX1 0).1 (TX1 0).2.1 (TX1 0).2.2.1 "PlankBench" ∈ k_tbl := in_tbl (in_t1 (List.mem_of_getElem? (i := 73) rfl)) rfl
set_option maxRecDepth 20000 in
theorem kw_419 : Jvm.Cond.methodLink RX8 181 yX7_relation ∈ k_tbl := in_tbl (in_t3 (List.mem_of_getElem? (i := 193) rfl)) rfl
set_option maxRecDepth 20000 in
theorem kw_420 : Jvm.Cond.instanceMethod yX7_relation ∈ k_tbl := in_tbl (in_t3 (List.mem_of_getElem? (i := 194) rfl)) rfl
set_option maxRecDepth 20000 in
theorem kw_421 : Jvm.Cond.selects RX7 yX7_relation yX7_relation ∈ k_tbl := in_tbl (in_t3 (List.mem_of_getElem? (i := 195) rfl)) rfl
set_option maxRecDepth 20000 in
theorem kw_422 : Jvm.Cond.constant RX8 187 (a_i32 4293967296) ∈ k_tbl := in_tbl (in_t3 (List.mem_of_getElem? (i := 208) rfl)) rfl
set_option maxRecDepth 20000 in
theorem kw_423 : Jvm.Cond.methodLink RX8 188 yX6_stopOf ∈ k_tbl := in_tbl (in_t3 (List.mem_of_getElem? (i := 209) rfl)) rfl
set_option maxRecDepth 20000 in
theorem kw_424 : Jvm.Cond.instanceMethod yX6_stopOf ∈ k_tbl := in_tbl (in_t3 (List.mem_of_getElem? (i := 210) rfl)) rfl
set_option maxRecDepth 20000 in
theorem kw_425 : Jvm.Cond.selects RX6 yX6_stopOf yX6_stopOf ∈ k_tbl := in_tbl (in_t3 (List.mem_of_getElem? (i := 211) rfl)) rfl
set_option maxRecDepth 20000 in
theorem kw_426 : Jvm.Cond.methodLink RX8 184 yX8_isPartOfValue ∈ k_tbl := in_tbl (in_t3 (List.mem_of_getElem? (i := 205) rfl)) rfl
set_option maxRecDepth 20000 in
theorem kw_427 : Jvm.Cond.static yX8_isPartOfValue ∈ k_tbl := in_tbl (in_t3 (List.mem_of_getElem? (i := 206) rfl)) rfl
set_option maxRecDepth 20000 in
theorem kw_428 : Jvm.Cond.methodLink RX8 192 yX6_upsOf ∈ k_tbl := in_tbl (in_t3 (List.mem_of_getElem? (i := 217) rfl)) rfl
set_option maxRecDepth 20000 in
theorem kw_429 : Jvm.Cond.instanceMethod yX6_upsOf ∈ k_tbl := in_tbl (in_t3 (List.mem_of_getElem? (i := 218) rfl)) rfl
set_option maxRecDepth 20000 in
theorem kw_430 : Jvm.Cond.selects RX6 yX6_upsOf yX6_upsOf ∈ k_tbl := in_tbl (in_t3 (List.mem_of_getElem? (i := 219) rfl)) rfl
set_option maxRecDepth 20000 in
theorem kw_431 : Jvm.Cond.methodLink RX8 199 yX4_isWonBy ∈ k_tbl := in_tbl (in_t3 (List.mem_of_getElem? (i := 234) rfl)) rfl
set_option maxRecDepth 20000 in
theorem kw_432 : Jvm.Cond.instanceMethod yX4_isWonBy ∈ k_tbl := in_tbl (in_t3 (List.mem_of_getElem? (i := 235) rfl)) rfl
set_option maxRecDepth 20000 in
theorem kw_433 : Jvm.Cond.selects RX4 yX4_isWonBy yX4_isWonBy ∈ k_tbl := in_tbl (in_t3 (List.mem_of_getElem? (i := 236) rfl)) rfl
set_option maxRecDepth 20000 in
theorem kw_434 : Jvm.Cond.methodLink RX8 196 yX8_layOut ∈ k_tbl := in_tbl (in_t3 (List.mem_of_getElem? (i := 230) rfl)) rfl
set_option maxRecDepth 20000 in
theorem kw_435 : Jvm.Cond.instanceMethod yX8_layOut ∈ k_tbl := in_tbl (in_t3 (List.mem_of_getElem? (i := 232) rfl)) rfl
set_option maxRecDepth 20000 in
theorem kw_436 : Jvm.Cond.selects RX8 yX8_layOut yX8_layOut ∈ k_tbl := in_tbl (in_t0 (List.mem_of_getElem? (i := 36) rfl)) rfl
set_option maxRecDepth 20000 in
theorem kw_437 : Jvm.Cond.methodLink RX8 203 yX4_firstWinning ∈ k_tbl := in_tbl (in_t4 (List.mem_of_getElem? (i := 13) rfl)) rfl
set_option maxRecDepth 20000 in
theorem kw_438 : Jvm.Cond.instanceMethod yX4_firstWinning ∈ k_tbl := in_tbl (in_t4 (List.mem_of_getElem? (i := 14) rfl)) rfl
set_option maxRecDepth 20000 in
theorem kw_439 : Jvm.Cond.selects RX4 yX4_firstWinning yX4_firstWinning ∈ k_tbl := in_tbl (in_t4 (List.mem_of_getElem? (i := 15) rfl)) rfl
set_option maxRecDepth 20000 in
theorem kw_440 : Jvm.Cond.fieldLink RX9 19 (TX9 3).1 (TX9 3).2.1 (TX9 3).2.2.1 ∈ k_tbl := in_tbl (in_t4 (List.mem_of_getElem? (i := 33) rfl)) rfl
set_option maxRecDepth 20000 in
theorem kw_441 : Jvm.Cond.methodLink RX9 1 objectInit ∈ k_tbl := in_tbl (in_t4 (List.mem_of_getElem? (i := 26) rfl)) rfl
set_option maxRecDepth 20000 in
theorem kw_442 : Jvm.Cond.fieldLink RX9 7 (TX9 0).1 (TX9 0).2.1 (TX9 0).2.2.1 ∈ k_tbl := in_tbl (in_t4 (List.mem_of_getElem? (i := 30) rfl)) rfl
set_option maxRecDepth 20000 in
theorem kw_443 : Jvm.Cond.fieldLink RX9 13 (TX9 1).1 (TX9 1).2.1 (TX9 1).2.2.1 ∈ k_tbl := in_tbl (in_t4 (List.mem_of_getElem? (i := 31) rfl)) rfl
set_option maxRecDepth 20000 in
theorem kw_444 : Jvm.Cond.fieldLink RX9 16 (TX9 2).1 (TX9 2).2.1 (TX9 2).2.2.1 ∈ k_tbl := in_tbl (in_t4 (List.mem_of_getElem? (i := 32) rfl)) rfl
set_option maxRecDepth 20000 in
theorem kw_445 : Jvm.Cond.fieldLink RX9 22 (TX9 4).1 (TX9 4).2.1 (TX9 4).2.2.1 ∈ k_tbl := in_tbl (in_t4 (List.mem_of_getElem? (i := 34) rfl)) rfl
set_option maxRecDepth 20000 in
theorem kw_446 : Jvm.Cond.fieldLink RX9 25 (TX9 5).1 (TX9 5).2.1 (TX9 5).2.2.1 ∈ k_tbl := in_tbl (in_t4 (List.mem_of_getElem? (i := 35) rfl)) rfl
set_option maxRecDepth 20000 in
theorem kw_447 : Jvm.Cond.fieldLink RX9 28 (TX9 6).1 (TX9 6).2.1 (TX9 6).2.2.1 ∈ k_tbl := in_tbl (in_t4 (List.mem_of_getElem? (i := 36) rfl)) rfl
set_option maxRecDepth 20000 in
theorem kw_448 : Jvm.Cond.fieldLink RX9 31 (TX9 7).1 (TX9 7).2.1 (TX9 7).2.2.1 ∈ k_tbl := in_tbl (in_t4 (List.mem_of_getElem? (i := 37) rfl)) rfl
set_option maxRecDepth 20000 in
theorem kw_449 : Jvm.Cond.constant RX9 34 (a_i32 200000) ∈ k_tbl := in_tbl (in_t4 (List.mem_of_getElem? (i := 27) rfl)) rfl
set_option maxRecDepth 20000 in
theorem kw_450 : Jvm.Cond.fieldLink RX9 35 (TX9 8).1 (TX9 8).2.1 (TX9 8).2.2.1 ∈ k_tbl := in_tbl (in_t4 (List.mem_of_getElem? (i := 38) rfl)) rfl
set_option maxRecDepth 20000 in
theorem kw_451 : Jvm.Cond.fieldLink RX9 38 (TX9 10).1 (TX9 10).2.1 (TX9 10).2.2.1 ∈ k_tbl := in_tbl (in_t4 (List.mem_of_getElem? (i := 40) rfl)) rfl
set_option maxRecDepth 20000 in
theorem kw_452 : Jvm.Cond.fieldLink RX9 41 (TX9 11).1 (TX9 11).2.1 (TX9 11).2.2.1 ∈ k_tbl := in_tbl (in_t4 (List.mem_of_getElem? (i := 41) rfl)) rfl
set_option maxRecDepth 20000 in
theorem kw_453 : Jvm.Cond.fieldLink RX9 44 (TX9 12).1 (TX9 12).2.1 (TX9 12).2.2.1 ∈ k_tbl := in_tbl (in_t4 (List.mem_of_getElem? (i := 42) rfl)) rfl
set_option maxRecDepth 20000 in
theorem kw_454 : Jvm.Cond.fieldLink RX9 47 (TX9 13).1 (TX9 13).2.1 (TX9 13).2.2.1 ∈ k_tbl := in_tbl (in_t4 (List.mem_of_getElem? (i := 43) rfl)) rfl
set_option maxRecDepth 20000 in
theorem kw_455 : Jvm.Cond.fieldLink RX9 50 (TX9 14).1 (TX9 14).2.1 (TX9 14).2.2.1 ∈ k_tbl := in_tbl (in_t4 (List.mem_of_getElem? (i := 44) rfl)) rfl
set_option maxRecDepth 20000 in
theorem kw_456 : Jvm.Cond.fieldLink RX9 53 (TX9 15).1 (TX9 15).2.1 (TX9 15).2.2.1 ∈ k_tbl := in_tbl (in_t4 (List.mem_of_getElem? (i := 45) rfl)) rfl
set_option maxRecDepth 20000 in
theorem kw_457 : Jvm.Cond.constant RX9 56 (a_i32 2563201) ∈ k_tbl := in_tbl (in_t4 (List.mem_of_getElem? (i := 28) rfl)) rfl
set_option maxRecDepth 20000 in
theorem kw_458 : Jvm.Cond.fieldLink RX9 57 (TX9 17).1 (TX9 17).2.1 (TX9 17).2.2.1 ∈ k_tbl := in_tbl (in_t4 (List.mem_of_getElem? (i := 47) rfl)) rfl
set_option maxRecDepth 20000 in
theorem kw_459 : Jvm.Cond.fieldLink RX9 61 (TX9 18).1 (TX9 18).2.1 (TX9 18).2.2.1 ∈ k_tbl := in_tbl (in_t4 (List.mem_of_getElem? (i := 48) rfl)) rfl
set_option maxRecDepth 20000 in
theorem kw_460 : Jvm.Cond.fieldLink RX9 64 (TX9 19).1 (TX9 19).2.1 (TX9 19).2.2.1 ∈ k_tbl := in_tbl (in_t4 (List.mem_of_getElem? (i := 49) rfl)) rfl
set_option maxRecDepth 20000 in
theorem kw_461 : Jvm.Cond.fieldLink RX9 67 (TX9 22).1 (TX9 22).2.1 (TX9 22).2.2.1 ∈ k_tbl := in_tbl (in_t4 (List.mem_of_getElem? (i := 52) rfl)) rfl
set_option maxRecDepth 20000 in
theorem kw_462 : Jvm.Cond.fieldLink RX9 70 (TX9 23).1 (TX9 23).2.1 (TX9 23).2.2.1 ∈ k_tbl := in_tbl (in_t4 (List.mem_of_getElem? (i := 53) rfl)) rfl
set_option maxRecDepth 20000 in
theorem kw_463 : Jvm.Cond.fieldLink RX9 73 (TX9 24).1 (TX9 24).2.1 (TX9 24).2.2.1 ∈ k_tbl := in_tbl (in_t4 (List.mem_of_getElem? (i := 54) rfl)) rfl
set_option maxRecDepth 20000 in
theorem kw_464 : Jvm.Cond.constant RX9 76 (a_i32 65536) ∈ k_tbl := in_tbl (in_t4 (List.mem_of_getElem? (i := 29) rfl)) rfl
set_option maxRecDepth 20000 in
theorem kw_465 : Jvm.Cond.fieldLink RX9 77 (TX9 25).1 (TX9 25).2.1 (TX9 25).2.2.1 ∈ k_tbl := in_tbl (in_t4 (List.mem_of_getElem? (i := 55) rfl)) rfl
set_option maxRecDepth 20000 in
theorem kw_466 : Jvm.Cond.fieldLink RX9 80 (TX9 26).1 (TX9 26).2.1 (TX9 26).2.2.1 ∈ k_tbl := in_tbl (in_t4 (List.mem_of_getElem? (i := 56) rfl)) rfl
set_option maxRecDepth 20000 in
theorem kw_467 : Jvm.Cond.fieldLink RX9 83 (TX9 27).1 (TX9 27).2.1 (TX9 27).2.2.1 ∈ k_tbl := in_tbl (in_t4 (List.mem_of_getElem? (i := 57) rfl)) rfl
set_option maxRecDepth 20000 in
theorem kw_468 : Jvm.Cond.fieldLink RX9 86 (TX9 28).1 (TX9 28).2.1 (TX9 28).2.2.1 ∈ k_tbl := in_tbl (in_t4 (List.mem_of_getElem? (i := 58) rfl)) rfl
set_option maxRecDepth 20000 in
theorem kw_469 : Jvm.Cond.fieldLink RX9 90 (TX9 29).1 (TX9 29).2.1 (TX9 29).2.2.1 ∈ k_tbl := in_tbl (in_t4 (List.mem_of_getElem? (i := 59) rfl)) rfl
set_option maxRecDepth 20000 in
theorem kw_470 : Jvm.Cond.fieldLink RX9 93 (TX9 30).1 (TX9 30).2.1 (TX9 30).2.2.1 ∈ k_tbl := in_tbl (in_t4 (List.mem_of_getElem? (i := 60) rfl)) rfl
set_option maxRecDepth 20000 in
theorem kw_471 : Jvm.Cond.fieldLink RX9 96 (TX9 31).1 (TX9 31).2.1 (TX9 31).2.2.1 ∈ k_tbl := in_tbl (in_t4 (List.mem_of_getElem? (i := 61) rfl)) rfl
set_option maxRecDepth 20000 in
theorem kw_472 : Jvm.Cond.fieldLink RX9 99 (TX9 32).1 (TX9 32).2.1 (TX9 32).2.2.1 ∈ k_tbl := in_tbl (in_t4 (List.mem_of_getElem? (i := 62) rfl)) rfl
set_option maxRecDepth 20000 in
theorem kw_473 : Jvm.Cond.fieldLink RX9 102 (TX9 33).1 (TX9 33).2.1 (TX9 33).2.2.1 ∈ k_tbl := in_tbl (in_t4 (List.mem_of_getElem? (i := 63) rfl)) rfl
set_option maxRecDepth 20000 in
theorem kw_474 : Jvm.Cond.fieldLink RX9 105 (TX9 34).1 (TX9 34).2.1 (TX9 34).2.2.1 ∈ k_tbl := in_tbl (in_t4 (List.mem_of_getElem? (i := 64) rfl)) rfl
set_option maxRecDepth 20000 in
theorem kw_475 : Jvm.Cond.fieldLink RX9 108 (TX9 35).1 (TX9 35).2.1 (TX9 35).2.2.1 ∈ k_tbl := in_tbl (in_t4 (List.mem_of_getElem? (i := 65) rfl)) rfl
set_option maxRecDepth 20000 in
theorem kw_476 : Jvm.Cond.fieldLink RX9 111 (TX9 36).1 (TX9 36).2.1 (TX9 36).2.2.1 ∈ k_tbl := in_tbl (in_t4 (List.mem_of_getElem? (i := 66) rfl)) rfl
set_option maxRecDepth 20000 in
theorem kw_477 : Jvm.Cond.fieldLink RX9 114 (TX9 37).1 (TX9 37).2.1 (TX9 37).2.2.1 ∈ k_tbl := in_tbl (in_t4 (List.mem_of_getElem? (i := 67) rfl)) rfl
set_option maxRecDepth 20000 in
theorem kw_478 : Jvm.Cond.methodLink RX9 121 yX9_count ∈ k_tbl := in_tbl (in_t4 (List.mem_of_getElem? (i := 152) rfl)) rfl
set_option maxRecDepth 20000 in
theorem kw_479 : Jvm.Cond.static yX9_count ∈ k_tbl := in_tbl (in_t4 (List.mem_of_getElem? (i := 153) rfl)) rfl
set_option maxRecDepth 20000 in
theorem kw_480 : Jvm.Cond.methodLink RX9 117 yX9_isBoard ∈ k_tbl := in_tbl (in_t4 (List.mem_of_getElem? (i := 149) rfl)) rfl
set_option maxRecDepth 20000 in
theorem kw_481 : Jvm.Cond.static yX9_isBoard ∈ k_tbl := in_tbl (in_t4 (List.mem_of_getElem? (i := 150) rfl)) rfl
set_option maxRecDepth 20000 in
theorem kw_482 : Jvm.Cond.methodLink RX9 125 yX9_isFree ∈ k_tbl := in_tbl (in_t4 (List.mem_of_getElem? (i := 159) rfl)) rfl
set_option maxRecDepth 20000 in
theorem kw_483 : Jvm.Cond.static yX9_isFree ∈ k_tbl := in_tbl (in_t4 (List.mem_of_getElem? (i := 160) rfl)) rfl
set_option maxRecDepth 20000 in
theorem kw_484 : Jvm.Cond.methodLink RX9 129 yX9_second ∈ k_tbl := in_tbl (in_t4 (List.mem_of_getElem? (i := 174) rfl)) rfl
set_option maxRecDepth 20000 in
theorem kw_485 : Jvm.Cond.static yX9_second ∈ k_tbl := in_tbl (in_t4 (List.mem_of_getElem? (i := 175) rfl)) rfl
set_option maxRecDepth 20000 in
theorem kw_486 : Jvm.Cond.methodLink RX9 137 yX9_leftOf ∈ k_tbl := in_tbl (in_t4 (List.mem_of_getElem? (i := 219) rfl)) rfl
set_option maxRecDepth 20000 in
theorem kw_487 : Jvm.Cond.instanceMethod yX9_leftOf ∈ k_tbl := in_tbl (in_t4 (List.mem_of_getElem? (i := 221) rfl)) rfl
set_option maxRecDepth 20000 in
theorem kw_488 : Jvm.Cond.selects RX9 yX9_leftOf yX9_leftOf ∈ k_tbl := in_tbl (in_t0 (List.mem_of_getElem? (i := 43) rfl)) rfl
set_option maxRecDepth 20000 in
theorem kw_489 : Jvm.Cond.methodLink RX9 133 yX9_rightOf ∈ k_tbl := in_tbl (in_t4 (List.mem_of_getElem? (i := 223) rfl)) rfl
set_option maxRecDepth 20000 in
theorem kw_490 : Jvm.Cond.instanceMethod yX9_rightOf ∈ k_tbl := in_tbl (in_t4 (List.mem_of_getElem? (i := 225) rfl)) rfl
set_option maxRecDepth 20000 in
theorem kw_491 : Jvm.Cond.selects RX9 yX9_rightOf yX9_rightOf ∈ k_tbl := in_tbl (in_t0 (List.mem_of_getElem? (i := 44) rfl)) rfl
set_option maxRecDepth 20000 in
theorem kw_492 : Jvm.Cond.methodLink RX9 140 yX9_order ∈ k_tbl := in_tbl (in_t5 (List.mem_of_getElem? (i := 3) rfl)) rfl
set_option maxRecDepth 20000 in
theorem kw_493 : Jvm.Cond.instanceMethod yX9_order ∈ k_tbl := in_tbl (in_t5 (List.mem_of_getElem? (i := 5) rfl)) rfl
set_option maxRecDepth 20000 in
theorem kw_494 : Jvm.Cond.selects RX9 yX9_order yX9_order ∈ k_tbl := in_tbl (in_t0 (List.mem_of_getElem? (i := 49) rfl)) rfl
set_option maxRecDepth 20000 in
theorem kw_495 : Jvm.Cond.fieldLink RX9 153 (TX9 20).1 (TX9 20).2.1 (TX9 20).2.2.1 ∈ k_tbl := in_tbl (in_t4 (List.mem_of_getElem? (i := 50) rfl)) rfl
set_option maxRecDepth 20000 in
theorem kw_496 : Jvm.Cond.methodLink RX9 150 yX9_isLeast ∈ k_tbl := in_tbl (in_t4 (List.mem_of_getElem? (i := 215) rfl)) rfl
set_option maxRecDepth 20000 in
theorem kw_497 : Jvm.Cond.instanceMethod yX9_isLeast ∈ k_tbl := in_tbl (in_t4 (List.mem_of_getElem? (i := 217) rfl)) rfl
set_option maxRecDepth 20000 in
theorem kw_498 : Jvm.Cond.selects RX9 yX9_isLeast yX9_isLeast ∈ k_tbl := in_tbl (in_t0 (List.mem_of_getElem? (i := 42) rfl)) rfl
set_option maxRecDepth 20000 in
theorem kw_499 : Jvm.Cond.fieldLink RX9 147 (TX9 21).1 (TX9 21).2.1 (TX9 21).2.2.1 ∈ k_tbl := in_tbl (in_t4 (List.mem_of_getElem? (i := 51) rfl)) rfl
set_option maxRecDepth 20000 in
theorem kw_500 : Jvm.Cond.fieldLink RX9 143 (TX9 9).1 (TX9 9).2.1 (TX9 9).2.2.1 ∈ k_tbl := in_tbl (in_t4 (List.mem_of_getElem? (i := 39) rfl)) rfl
set_option maxRecDepth 20000 in
theorem kw_501 : Jvm.Cond.methodLink RX9 156 yX9_once ∈ k_tbl := in_tbl (in_t4 (List.mem_of_getElem? (i := 208) rfl)) rfl
set_option maxRecDepth 20000 in
theorem kw_502 : Jvm.Cond.static yX9_once ∈ k_tbl := in_tbl (in_t4 (List.mem_of_getElem? (i := 209) rfl)) rfl
set_option maxRecDepth 20000 in
theorem kw_503 : Jvm.Cond.fieldLink RX9 163 (TX9 16).1 (TX9 16).2.1 (TX9 16).2.2.1 ∈ k_tbl := in_tbl (in_t4 (List.mem_of_getElem? (i := 46) rfl)) rfl
set_option maxRecDepth 20000 in
theorem kw_504 : Jvm.Cond.methodLink RX9 160 yX9_isNew ∈ k_tbl := in_tbl (in_t5 (List.mem_of_getElem? (i := 11) rfl)) rfl
set_option maxRecDepth 20000 in
theorem kw_505 : Jvm.Cond.instanceMethod yX9_isNew ∈ k_tbl := in_tbl (in_t5 (List.mem_of_getElem? (i := 13) rfl)) rfl
set_option maxRecDepth 20000 in
theorem kw_506 : Jvm.Cond.selects RX9 yX9_isNew yX9_isNew ∈ k_tbl := in_tbl (in_t0 (List.mem_of_getElem? (i := 51) rfl)) rfl
set_option maxRecDepth 20000 in
theorem kw_507 : Jvm.Cond.methodLink RX9 176 yX9_leaveOut ∈ k_tbl := in_tbl (in_t4 (List.mem_of_getElem? (i := 235) rfl)) rfl
set_option maxRecDepth 20000 in
theorem kw_508 : Jvm.Cond.instanceMethod yX9_leaveOut ∈ k_tbl := in_tbl (in_t4 (List.mem_of_getElem? (i := 237) rfl)) rfl
set_option maxRecDepth 20000 in
theorem kw_509 : Jvm.Cond.selects RX9 yX9_leaveOut yX9_leaveOut ∈ k_tbl := in_tbl (in_t0 (List.mem_of_getElem? (i := 47) rfl)) rfl
set_option maxRecDepth 20000 in
theorem kw_510 : Jvm.Cond.methodLink RX9 179 yX9_sort ∈ k_tbl := in_tbl (in_t4 (List.mem_of_getElem? (i := 239) rfl)) rfl
set_option maxRecDepth 20000 in
theorem kw_511 : Jvm.Cond.instanceMethod yX9_sort ∈ k_tbl := in_tbl (in_t5 (List.mem_of_getElem? (i := 1) rfl)) rfl
set_option maxRecDepth 20000 in
theorem kw_512 : Jvm.Cond.selects RX9 yX9_sort yX9_sort ∈ k_tbl := in_tbl (in_t0 (List.mem_of_getElem? (i := 48) rfl)) rfl
set_option maxRecDepth 20000 in
theorem kw_513 : Jvm.Cond.methodLink RX9 183 yX9_keepNew ∈ k_tbl := in_tbl (in_t5 (List.mem_of_getElem? (i := 7) rfl)) rfl
set_option maxRecDepth 20000 in
theorem kw_514 : Jvm.Cond.instanceMethod yX9_keepNew ∈ k_tbl := in_tbl (in_t5 (List.mem_of_getElem? (i := 9) rfl)) rfl
set_option maxRecDepth 20000 in
theorem kw_515 : Jvm.Cond.selects RX9 yX9_keepNew yX9_keepNew ∈ k_tbl := in_tbl (in_t0 (List.mem_of_getElem? (i := 50) rfl)) rfl
set_option maxRecDepth 20000 in
theorem kw_516 : Jvm.Cond.methodLink RX9 169 yX9_replaceLeft ∈ k_tbl := in_tbl (in_t4 (List.mem_of_getElem? (i := 227) rfl)) rfl
set_option maxRecDepth 20000 in
theorem kw_517 : Jvm.Cond.instanceMethod yX9_replaceLeft ∈ k_tbl := in_tbl (in_t4 (List.mem_of_getElem? (i := 229) rfl)) rfl
set_option maxRecDepth 20000 in
theorem kw_518 : Jvm.Cond.selects RX9 yX9_replaceLeft yX9_replaceLeft ∈ k_tbl := in_tbl (in_t0 (List.mem_of_getElem? (i := 45) rfl)) rfl
set_option maxRecDepth 20000 in
theorem kw_519 : Jvm.Cond.methodLink RX9 173 yX9_replaceRight ∈ k_tbl := in_tbl (in_t4 (List.mem_of_getElem? (i := 231) rfl)) rfl
set_option maxRecDepth 20000 in
theorem kw_520 : Jvm.Cond.instanceMethod yX9_replaceRight ∈ k_tbl := in_tbl (in_t4 (List.mem_of_getElem? (i := 233) rfl)) rfl
set_option maxRecDepth 20000 in
theorem kw_521 : Jvm.Cond.selects RX9 yX9_replaceRight yX9_replaceRight ∈ k_tbl := in_tbl (in_t0 (List.mem_of_getElem? (i := 46) rfl)) rfl
set_option maxRecDepth 20000 in
theorem kw_522 : Jvm.Cond.methodLink RX9 166 yX9_compareNew ∈ k_tbl := in_tbl (in_t4 (List.mem_of_getElem? (i := 211) rfl)) rfl
set_option maxRecDepth 20000 in
theorem kw_523 : Jvm.Cond.instanceMethod yX9_compareNew ∈ k_tbl := in_tbl (in_t4 (List.mem_of_getElem? (i := 213) rfl)) rfl
set_option maxRecDepth 20000 in
theorem kw_524 : Jvm.Cond.selects RX9 yX9_compareNew yX9_compareNew ∈ k_tbl := in_tbl (in_t0 (List.mem_of_getElem? (i := 41) rfl)) rfl
set_option maxRecDepth 20000 in
theorem kw_525 : Jvm.Cond.methodLink RX9 187 yX9_clearNew ∈ k_tbl := in_tbl (in_t4 (List.mem_of_getElem? (i := 200) rfl)) rfl
set_option maxRecDepth 20000 in
theorem kw_526 : Jvm.Cond.instanceMethod yX9_clearNew ∈ k_tbl := in_tbl (in_t4 (List.mem_of_getElem? (i := 202) rfl)) rfl
set_option maxRecDepth 20000 in
theorem kw_527 : Jvm.Cond.selects RX9 yX9_clearNew yX9_clearNew ∈ k_tbl := in_tbl (in_t0 (List.mem_of_getElem? (i := 39) rfl)) rfl
set_option maxRecDepth 20000 in
theorem kw_528 : Jvm.Cond.methodLink RX9 190 yX9_made ∈ k_tbl := in_tbl (in_t4 (List.mem_of_getElem? (i := 204) rfl)) rfl
set_option maxRecDepth 20000 in
theorem kw_529 : Jvm.Cond.instanceMethod yX9_made ∈ k_tbl := in_tbl (in_t4 (List.mem_of_getElem? (i := 206) rfl)) rfl
set_option maxRecDepth 20000 in
theorem kw_530 : Jvm.Cond.selects RX9 yX9_made yX9_made ∈ k_tbl := in_tbl (in_t0 (List.mem_of_getElem? (i := 40) rfl)) rfl
set_option maxRecDepth 20000 in
theorem kw_531 : Jvm.Cond.methodLink RX9 203 yX9_save ∈ k_tbl := in_tbl (in_t5 (List.mem_of_getElem? (i := 19) rfl)) rfl
set_option maxRecDepth 20000 in
theorem kw_532 : Jvm.Cond.instanceMethod yX9_save ∈ k_tbl := in_tbl (in_t5 (List.mem_of_getElem? (i := 21) rfl)) rfl
set_option maxRecDepth 20000 in
theorem kw_533 : Jvm.Cond.selects RX9 yX9_save yX9_save ∈ k_tbl := in_tbl (in_t0 (List.mem_of_getElem? (i := 53) rfl)) rfl
set_option maxRecDepth 20000 in
theorem kw_534 : Jvm.Cond.methodLink RX9 199 yX9_addMoves ∈ k_tbl := in_tbl (in_t5 (List.mem_of_getElem? (i := 15) rfl)) rfl
set_option maxRecDepth 20000 in
theorem kw_535 : Jvm.Cond.instanceMethod yX9_addMoves ∈ k_tbl := in_tbl (in_t5 (List.mem_of_getElem? (i := 17) rfl)) rfl
set_option maxRecDepth 20000 in
theorem kw_536 : Jvm.Cond.selects RX9 yX9_addMoves yX9_addMoves ∈ k_tbl := in_tbl (in_t0 (List.mem_of_getElem? (i := 52) rfl)) rfl
set_option maxRecDepth 20000 in
theorem kw_537 : Jvm.Cond.methodLink RX9 196 yX9_begin ∈ k_tbl := in_tbl (in_t4 (List.mem_of_getElem? (i := 196) rfl)) rfl
set_option maxRecDepth 20000 in
theorem kw_538 : Jvm.Cond.instanceMethod yX9_begin ∈ k_tbl := in_tbl (in_t4 (List.mem_of_getElem? (i := 198) rfl)) rfl
set_option maxRecDepth 20000 in
theorem kw_539 : Jvm.Cond.selects RX9 yX9_begin yX9_begin ∈ k_tbl := in_tbl (in_t0 (List.mem_of_getElem? (i := 38) rfl)) rfl
set_option maxRecDepth 20000 in
theorem kw_540 : Jvm.Cond.methodLink RX9 193 yX9_isSpot ∈ k_tbl := in_tbl (in_t4 (List.mem_of_getElem? (i := 193) rfl)) rfl
set_option maxRecDepth 20000 in
theorem kw_541 : Jvm.Cond.static yX9_isSpot ∈ k_tbl := in_tbl (in_t4 (List.mem_of_getElem? (i := 194) rfl)) rfl
set_option maxRecDepth 20000 in
theorem kw_542 : Jvm.Cond.methodLink RX9 206 yX9_madeOf ∈ k_tbl := in_tbl (in_t5 (List.mem_of_getElem? (i := 31) rfl)) rfl
set_option maxRecDepth 20000 in
theorem kw_543 : Jvm.Cond.instanceMethod yX9_madeOf ∈ k_tbl := in_tbl (in_t5 (List.mem_of_getElem? (i := 33) rfl)) rfl
set_option maxRecDepth 20000 in
theorem kw_544 : Jvm.Cond.selects RX9 yX9_madeOf yX9_madeOf ∈ k_tbl := in_tbl (in_t0 (List.mem_of_getElem? (i := 55) rfl)) rfl
set_option maxRecDepth 20000 in
theorem kw_545 : Jvm.Cond.methodLink RX9 209 yX9_numbered ∈ k_tbl := in_tbl (in_t5 (List.mem_of_getElem? (i := 27) rfl)) rfl
set_option maxRecDepth 20000 in
theorem kw_546 : Jvm.Cond.instanceMethod yX9_numbered ∈ k_tbl := in_tbl (in_t5 (List.mem_of_getElem? (i := 29) rfl)) rfl
set_option maxRecDepth 20000 in
theorem kw_547 : Jvm.Cond.selects RX9 yX9_numbered yX9_numbered ∈ k_tbl := in_tbl (in_t0 (List.mem_of_getElem? (i := 54) rfl)) rfl
set_option maxRecDepth 20000 in
theorem kw_548 : Jvm.Cond.methodLink RX9 212 yX9_followers ∈ k_tbl := in_tbl (in_t5 (List.mem_of_getElem? (i := 43) rfl)) rfl
set_option maxRecDepth 20000 in
theorem kw_549 : Jvm.Cond.instanceMethod yX9_followers ∈ k_tbl := in_tbl (in_t5 (List.mem_of_getElem? (i := 45) rfl)) rfl
set_option maxRecDepth 20000 in
theorem kw_550 : Jvm.Cond.selects RX9 yX9_followers yX9_followers ∈ k_tbl := in_tbl (in_t0 (List.mem_of_getElem? (i := 57) rfl)) rfl
set_option maxRecDepth 20000 in
theorem kw_551 : Jvm.Cond.methodLink RX9 216 yX9_summed ∈ k_tbl := in_tbl (in_t5 (List.mem_of_getElem? (i := 39) rfl)) rfl
set_option maxRecDepth 20000 in
theorem kw_552 : Jvm.Cond.instanceMethod yX9_summed ∈ k_tbl := in_tbl (in_t5 (List.mem_of_getElem? (i := 41) rfl)) rfl
set_option maxRecDepth 20000 in
theorem kw_553 : Jvm.Cond.selects RX9 yX9_summed yX9_summed ∈ k_tbl := in_tbl (in_t0 (List.mem_of_getElem? (i := 56) rfl)) rfl
set_option maxRecDepth 20000 in
theorem kw_554 : Jvm.Cond.methodLink RX9 219 yX9_load ∈ k_tbl := in_tbl (in_t5 (List.mem_of_getElem? (i := 55) rfl)) rfl
set_option maxRecDepth 20000 in
theorem kw_555 : Jvm.Cond.instanceMethod yX9_load ∈ k_tbl := in_tbl (in_t5 (List.mem_of_getElem? (i := 57) rfl)) rfl
set_option maxRecDepth 20000 in
theorem kw_556 : Jvm.Cond.selects RX9 yX9_load yX9_load ∈ k_tbl := in_tbl (in_t0 (List.mem_of_getElem? (i := 59) rfl)) rfl
set_option maxRecDepth 20000 in
theorem kw_557 : Jvm.Cond.methodLink RX9 222 yX9_deepOf ∈ k_tbl := in_tbl (in_t5 (List.mem_of_getElem? (i := 51) rfl)) rfl
set_option maxRecDepth 20000 in
theorem kw_558 : Jvm.Cond.instanceMethod yX9_deepOf ∈ k_tbl := in_tbl (in_t5 (List.mem_of_getElem? (i := 53) rfl)) rfl
set_option maxRecDepth 20000 in
theorem kw_559 : Jvm.Cond.selects RX9 yX9_deepOf yX9_deepOf ∈ k_tbl := in_tbl (in_t0 (List.mem_of_getElem? (i := 58) rfl)) rfl
set_option maxRecDepth 20000 in
theorem kw_560 : Jvm.Cond.constantLong RX9 225 (a_i64 2) ∈ k_tbl := in_tbl (in_t5 (List.mem_of_getElem? (i := 94) rfl)) rfl
set_option maxRecDepth 20000 in
theorem kw_561 : Jvm.Cond.methodLink RX9 231 yX9_setValue ∈ k_tbl := in_tbl (in_t5 (List.mem_of_getElem? (i := 90) rfl)) rfl
set_option maxRecDepth 20000 in
theorem kw_562 : Jvm.Cond.instanceMethod yX9_setValue ∈ k_tbl := in_tbl (in_t5 (List.mem_of_getElem? (i := 92) rfl)) rfl
set_option maxRecDepth 20000 in
theorem kw_563 : Jvm.Cond.selects RX9 yX9_setValue yX9_setValue ∈ k_tbl := in_tbl (in_t0 (List.mem_of_getElem? (i := 63) rfl)) rfl
set_option maxRecDepth 20000 in
theorem kw_564 : Jvm.Cond.methodLink RX9 227 yX9_smaller ∈ k_tbl := in_tbl (in_t5 (List.mem_of_getElem? (i := 87) rfl)) rfl
set_option maxRecDepth 20000 in
theorem kw_565 : Jvm.Cond.static yX9_smaller ∈ k_tbl := in_tbl (in_t5 (List.mem_of_getElem? (i := 88) rfl)) rfl
set_option maxRecDepth 20000 in
theorem kw_566 : Jvm.Cond.methodLink RX9 235 yX9_findValue ∈ k_tbl := in_tbl (in_t5 (List.mem_of_getElem? (i := 83) rfl)) rfl
set_option maxRecDepth 20000 in
theorem kw_567 : Jvm.Cond.instanceMethod yX9_findValue ∈ k_tbl := in_tbl (in_t5 (List.mem_of_getElem? (i := 85) rfl)) rfl
set_option maxRecDepth 20000 in
theorem kw_568 : Jvm.Cond.selects RX9 yX9_findValue yX9_findValue ∈ k_tbl := in_tbl (in_t0 (List.mem_of_getElem? (i := 62) rfl)) rfl
set_option maxRecDepth 20000 in
theorem kw_569 : Jvm.Cond.methodLink RX9 238 yX9_findStops ∈ k_tbl := in_tbl (in_t5 (List.mem_of_getElem? (i := 95) rfl)) rfl
set_option maxRecDepth 20000 in
theorem kw_570 : Jvm.Cond.instanceMethod yX9_findStops ∈ k_tbl := in_tbl (in_t5 (List.mem_of_getElem? (i := 97) rfl)) rfl
set_option maxRecDepth 20000 in
theorem kw_571 : Jvm.Cond.selects RX9 yX9_findStops yX9_findStops ∈ k_tbl := in_tbl (in_t0 (List.mem_of_getElem? (i := 64) rfl)) rfl
set_option maxRecDepth 20000 in
theorem kw_572 : Jvm.Cond.constant RX9 241 (a_i32 4293967296) ∈ k_tbl := in_tbl (in_t5 (List.mem_of_getElem? (i := 107) rfl)) rfl
set_option maxRecDepth 20000 in
theorem kw_573 : Jvm.Cond.methodLink RX9 248 yX9_upsOf ∈ k_tbl := in_tbl (in_t5 (List.mem_of_getElem? (i := 103) rfl)) rfl
set_option maxRecDepth 20000 in
theorem kw_574 : Jvm.Cond.instanceMethod yX9_upsOf ∈ k_tbl := in_tbl (in_t5 (List.mem_of_getElem? (i := 105) rfl)) rfl
set_option maxRecDepth 20000 in
theorem kw_575 : Jvm.Cond.selects RX9 yX9_upsOf yX9_upsOf ∈ k_tbl := in_tbl (in_t0 (List.mem_of_getElem? (i := 66) rfl)) rfl
set_option maxRecDepth 20000 in
theorem kw_576 : Jvm.Cond.methodLink RX9 245 yX9_isSwitch ∈ k_tbl := in_tbl (in_t5 (List.mem_of_getElem? (i := 99) rfl)) rfl
set_option maxRecDepth 20000 in
theorem kw_577 : Jvm.Cond.instanceMethod yX9_isSwitch ∈ k_tbl := in_tbl (in_t5 (List.mem_of_getElem? (i := 101) rfl)) rfl
set_option maxRecDepth 20000 in
theorem kw_578 : Jvm.Cond.selects RX9 yX9_isSwitch yX9_isSwitch ∈ k_tbl := in_tbl (in_t0 (List.mem_of_getElem? (i := 65) rfl)) rfl
set_option maxRecDepth 20000 in
theorem kw_579 : Jvm.Cond.methodLink RX9 242 yX9_findValues ∈ k_tbl := in_tbl (in_t5 (List.mem_of_getElem? (i := 79) rfl)) rfl
set_option maxRecDepth 20000 in
theorem kw_580 : Jvm.Cond.instanceMethod yX9_findValues ∈ k_tbl := in_tbl (in_t5 (List.mem_of_getElem? (i := 81) rfl)) rfl
set_option maxRecDepth 20000 in
theorem kw_581 : Jvm.Cond.selects RX9 yX9_findValues yX9_findValues ∈ k_tbl := in_tbl (in_t0 (List.mem_of_getElem? (i := 61) rfl)) rfl
set_option maxRecDepth 20000 in
theorem kw_582 : Jvm.Cond.methodLink RX9 251 yX9_kindOf ∈ k_tbl := in_tbl (in_t5 (List.mem_of_getElem? (i := 75) rfl)) rfl
set_option maxRecDepth 20000 in
theorem kw_583 : Jvm.Cond.instanceMethod yX9_kindOf ∈ k_tbl := in_tbl (in_t5 (List.mem_of_getElem? (i := 77) rfl)) rfl
set_option maxRecDepth 20000 in
theorem kw_584 : Jvm.Cond.selects RX9 yX9_kindOf yX9_kindOf ∈ k_tbl := in_tbl (in_t0 (List.mem_of_getElem? (i := 60) rfl)) rfl
set_option maxRecDepth 20000 in
theorem kw_585 : Jvm.Cond.methodLink RX9 254 yX9_without ∈ k_tbl := in_tbl (in_t5 (List.mem_of_getElem? (i := 140) rfl)) rfl
set_option maxRecDepth 20000 in
theorem kw_586 : Jvm.Cond.instanceMethod yX9_without ∈ k_tbl := in_tbl (in_t5 (List.mem_of_getElem? (i := 142) rfl)) rfl
set_option maxRecDepth 20000 in
theorem kw_587 : Jvm.Cond.selects RX9 yX9_without yX9_without ∈ k_tbl := in_tbl (in_t0 (List.mem_of_getElem? (i := 69) rfl)) rfl
set_option maxRecDepth 20000 in
theorem kw_588 : Jvm.Cond.methodLink RX9 261 yX9_findWins ∈ k_tbl := in_tbl (in_t5 (List.mem_of_getElem? (i := 136) rfl)) rfl
set_option maxRecDepth 20000 in
theorem kw_589 : Jvm.Cond.instanceMethod yX9_findWins ∈ k_tbl := in_tbl (in_t5 (List.mem_of_getElem? (i := 138) rfl)) rfl
set_option maxRecDepth 20000 in
theorem kw_590 : Jvm.Cond.selects RX9 yX9_findWins yX9_findWins ∈ k_tbl := in_tbl (in_t0 (List.mem_of_getElem? (i := 68) rfl)) rfl
set_option maxRecDepth 20000 in
theorem kw_591 : Jvm.Cond.methodLink RX9 258 yX9_findFields ∈ k_tbl := in_tbl (in_t5 (List.mem_of_getElem? (i := 132) rfl)) rfl
set_option maxRecDepth 20000 in
theorem kw_592 : Jvm.Cond.instanceMethod yX9_findFields ∈ k_tbl := in_tbl (in_t5 (List.mem_of_getElem? (i := 134) rfl)) rfl
set_option maxRecDepth 20000 in
theorem kw_593 : Jvm.Cond.selects RX9 yX9_findFields yX9_findFields ∈ k_tbl := in_tbl (in_t0 (List.mem_of_getElem? (i := 67) rfl)) rfl
set_option maxRecDepth 20000 in
theorem kw_594 : Jvm.Cond.methodLink RX9 265 yX9_beginner ∈ k_tbl := in_tbl (in_t5 (List.mem_of_getElem? (i := 148) rfl)) rfl
set_option maxRecDepth 20000 in
theorem kw_595 : Jvm.Cond.instanceMethod yX9_beginner ∈ k_tbl := in_tbl (in_t5 (List.mem_of_getElem? (i := 129) rfl)) rfl
set_option maxRecDepth 20000 in
theorem kw_596 : Jvm.Cond.selects RX9 yX9_beginner yX9_beginner ∈ k_tbl := in_tbl (in_t5 (List.mem_of_getElem? (i := 130) rfl)) rfl
set_option maxRecDepth 20000 in
theorem kw_597 : Jvm.Cond.code yX0_init cX0_init 1 (none) ∈ k_tbl := in_tbl (in_t1 (List.mem_of_getElem? (i := 27) rfl)) rfl
set_option maxRecDepth 20000 in
theorem kw_598 : Jvm.Cond.code yX0_setRow cX0_setRow 3 (none) ∈ k_tbl := in_tbl (in_t1 (List.mem_of_getElem? (i := 235) rfl)) rfl
set_option maxRecDepth 20000 in
theorem kw_599 : Jvm.Cond.code yX0_become cX0_become 2 (none) ∈ k_tbl := in_tbl (in_t2 (List.mem_of_getElem? (i := 78) rfl)) rfl
set_option maxRecDepth 20000 in
theorem kw_600 : Jvm.Cond.code yX0_freeMask cX0_freeMask 1 (some .int) ∈ k_tbl := in_tbl (in_t2 (List.mem_of_getElem? (i := 99) rfl)) rfl
set_option maxRecDepth 20000 in
theorem kw_601 : Jvm.Cond.code yX0_isFree cX0_isFree 2 (some .boolean) ∈ k_tbl := in_tbl (in_t2 (List.mem_of_getElem? (i := 13) rfl)) rfl
set_option maxRecDepth 20000 in
theorem kw_602 : Jvm.Cond.code yJ6_bitCount_0f7a4 cJ6_bitCount_0f7a4 1 (some .int) ∈ k_tbl := in_tbl (in_t2 (List.mem_of_getElem? (i := 2) rfl)) rfl
set_option maxRecDepth 20000 in
theorem kw_603 : Jvm.Cond.initialized RJ6 ∈ k_tbl := in_tbl (in_t1 (List.mem_of_getElem? (i := 12) rfl)) rfl
set_option maxRecDepth 20000 in
theorem kw_604 : Jvm.Cond.code yX0_freeCount cX0_freeCount 1 (some .int) ∈ k_tbl := in_tbl (in_t1 (List.mem_of_getElem? (i := 239) rfl)) rfl
set_option maxRecDepth 20000 in
theorem kw_605 : Jvm.Cond.code yX0_laidCount cX0_laidCount 1 (some .int) ∈ k_tbl := in_tbl (in_t2 (List.mem_of_getElem? (i := 58) rfl)) rfl
set_option maxRecDepth 20000 in
theorem kw_606 : Jvm.Cond.code yX0_plankMask cX0_plankMask 4 (some .int) ∈ k_tbl := in_tbl (in_t2 (List.mem_of_getElem? (i := 45) rfl)) rfl
set_option maxRecDepth 20000 in
theorem kw_607 : Jvm.Cond.code yX0_plankCount cX0_plankCount 4 (some .int) ∈ k_tbl := in_tbl (in_t2 (List.mem_of_getElem? (i := 41) rfl)) rfl
set_option maxRecDepth 20000 in
theorem kw_608 : Jvm.Cond.code yX0_put cX0_put 4 (some .boolean) ∈ k_tbl := in_tbl (in_t2 (List.mem_of_getElem? (i := 54) rfl)) rfl
set_option maxRecDepth 20000 in
theorem kw_609 : Jvm.Cond.code yX0_takeBack cX0_takeBack 1 (some .int) ∈ k_tbl := in_tbl (in_t2 (List.mem_of_getElem? (i := 66) rfl)) rfl
set_option maxRecDepth 20000 in
theorem kw_610 : Jvm.Cond.code yX0_turnedMask cX0_turnedMask 4 (some .int) ∈ k_tbl := in_tbl (in_t2 (List.mem_of_getElem? (i := 74) rfl)) rfl
set_option maxRecDepth 20000 in
theorem kw_611 : Jvm.Cond.code yX0_partOf cX0_partOf 6 (some .int) ∈ k_tbl := in_tbl (in_t2 (List.mem_of_getElem? (i := 29) rfl)) rfl
set_option maxRecDepth 20000 in
theorem kw_612 : Jvm.Cond.code yX0_partCount cX0_partCount 4 (some .int) ∈ k_tbl := in_tbl (in_t2 (List.mem_of_getElem? (i := 25) rfl)) rfl
set_option maxRecDepth 20000 in
theorem kw_613 : Jvm.Cond.code yJ9_min_7cf53 cJ9_min_7cf53 2 (some .int) ∈ k_tbl := in_tbl (in_t1 (List.mem_of_getElem? (i := 58) rfl)) rfl
set_option maxRecDepth 20000 in
theorem kw_614 : Jvm.Cond.initialized RJ9 ∈ k_tbl := in_tbl (in_t1 (List.mem_of_getElem? (i := 5) rfl)) rfl
set_option maxRecDepth 20000 in
theorem kw_615 : Jvm.Cond.code yJ9_max_7cf53 cJ9_max_7cf53 2 (some .int) ∈ k_tbl := in_tbl (in_t1 (List.mem_of_getElem? (i := 61) rfl)) rfl
set_option maxRecDepth 20000 in
theorem kw_616 : Jvm.Cond.code yX5_init cX5_init 2 (none) ∈ k_tbl := in_tbl (in_t1 (List.mem_of_getElem? (i := 54) rfl)) rfl
set_option maxRecDepth 20000 in
theorem kw_617 : Jvm.Cond.code yX1_init cX1_init 2 (none) ∈ k_tbl := in_tbl (in_t1 (List.mem_of_getElem? (i := 48) rfl)) rfl
set_option maxRecDepth 20000 in
theorem kw_618 : Jvm.Cond.code yX1_options cX1_options 2 (some (.object "PlankBench$Rows")) ∈ k_tbl := in_tbl (in_t3 (List.mem_of_getElem? (i := 97) rfl)) rfl
set_option maxRecDepth 20000 in
theorem kw_619 : Jvm.Cond.code yX2_init cX2_init 1 (none) ∈ k_tbl := in_tbl (in_t1 (List.mem_of_getElem? (i := 155) rfl)) rfl
set_option maxRecDepth 20000 in
theorem kw_620 : Jvm.Cond.code yX5_wordAt cX5_wordAt 3 (some .int) ∈ k_tbl := in_tbl (in_t2 (List.mem_of_getElem? (i := 146) rfl)) rfl
set_option maxRecDepth 20000 in
theorem kw_621 : Jvm.Cond.code yJ13_bitCount_95d88 cJ13_bitCount_95d88 2 (some .int) ∈ k_tbl := in_tbl (in_t2 (List.mem_of_getElem? (i := 150) rfl)) rfl
set_option maxRecDepth 20000 in
theorem kw_622 : Jvm.Cond.initialized RJ13 ∈ k_tbl := in_tbl (in_t1 (List.mem_of_getElem? (i := 13) rfl)) rfl
set_option maxRecDepth 20000 in
theorem kw_623 : Jvm.Cond.code yX5_next cX5_next 8 (some .int) ∈ k_tbl := in_tbl (in_t2 (List.mem_of_getElem? (i := 142) rfl)) rfl
set_option maxRecDepth 20000 in
theorem kw_624 : Jvm.Cond.code yX2_markOptions cX2_markOptions 4 (none) ∈ k_tbl := in_tbl (in_t2 (List.mem_of_getElem? (i := 236) rfl)) rfl
set_option maxRecDepth 20000 in
theorem kw_625 : Jvm.Cond.code yX2_markFollowers cX2_markFollowers 4 (none) ∈ k_tbl := in_tbl (in_t2 (List.mem_of_getElem? (i := 232) rfl)) rfl
set_option maxRecDepth 20000 in
theorem kw_626 : Jvm.Cond.code yX2_deepBehind cX2_deepBehind 5 (some .int) ∈ k_tbl := in_tbl (in_t3 (List.mem_of_getElem? (i := 6) rfl)) rfl
set_option maxRecDepth 20000 in
theorem kw_627 : Jvm.Cond.code yX2_findDeeps cX2_findDeeps 4 (none) ∈ k_tbl := in_tbl (in_t3 (List.mem_of_getElem? (i := 2) rfl)) rfl
set_option maxRecDepth 20000 in
theorem kw_628 : Jvm.Cond.code yX5_isRow cX5_isRow 2 (some .boolean) ∈ k_tbl := in_tbl (in_t2 (List.mem_of_getElem? (i := 130) rfl)) rfl
set_option maxRecDepth 20000 in
theorem kw_629 : Jvm.Cond.code yX5_clear cX5_clear 3 (none) ∈ k_tbl := in_tbl (in_t2 (List.mem_of_getElem? (i := 126) rfl)) rfl
set_option maxRecDepth 20000 in
theorem kw_630 : Jvm.Cond.code yX5_put cX5_put 4 (none) ∈ k_tbl := in_tbl (in_t2 (List.mem_of_getElem? (i := 174) rfl)) rfl
set_option maxRecDepth 20000 in
theorem kw_631 : Jvm.Cond.code yX2_rankRow cX2_rankRow 6 (none) ∈ k_tbl := in_tbl (in_t3 (List.mem_of_getElem? (i := 14) rfl)) rfl
set_option maxRecDepth 20000 in
theorem kw_632 : Jvm.Cond.code yX5_bitCount cX5_bitCount 4 (some .int) ∈ k_tbl := in_tbl (in_t3 (List.mem_of_getElem? (i := 27) rfl)) rfl
set_option maxRecDepth 20000 in
theorem kw_633 : Jvm.Cond.code yX5_ahead cX5_ahead 8 (some .int) ∈ k_tbl := in_tbl (in_t3 (List.mem_of_getElem? (i := 31) rfl)) rfl
set_option maxRecDepth 20000 in
theorem kw_634 : Jvm.Cond.code yX2_order cX2_order 6 (some .int) ∈ k_tbl := in_tbl (in_t3 (List.mem_of_getElem? (i := 23) rfl)) rfl
set_option maxRecDepth 20000 in
theorem kw_635 : Jvm.Cond.code yX5_swap cX5_swap 6 (none) ∈ k_tbl := in_tbl (in_t3 (List.mem_of_getElem? (i := 35) rfl)) rfl
set_option maxRecDepth 20000 in
theorem kw_636 : Jvm.Cond.code yX2_sink cX2_sink 6 (none) ∈ k_tbl := in_tbl (in_t3 (List.mem_of_getElem? (i := 20) rfl)) rfl
set_option maxRecDepth 20000 in
theorem kw_637 : Jvm.Cond.code yX2_placeLevel cX2_placeLevel 8 (some .int) ∈ k_tbl := in_tbl (in_t3 (List.mem_of_getElem? (i := 10) rfl)) rfl
set_option maxRecDepth 20000 in
theorem kw_638 : Jvm.Cond.code yX2_store cX2_store 6 (none) ∈ k_tbl := in_tbl (in_t2 (List.mem_of_getElem? (i := 228) rfl)) rfl
set_option maxRecDepth 20000 in
theorem kw_639 : Jvm.Cond.code yX3_init cX3_init 1 (none) ∈ k_tbl := in_tbl (in_t1 (List.mem_of_getElem? (i := 101) rfl)) rfl
set_option maxRecDepth 20000 in
theorem kw_640 : Jvm.Cond.code yX3_clear cX3_clear 1 (none) ∈ k_tbl := in_tbl (in_t2 (List.mem_of_getElem? (i := 89) rfl)) rfl
set_option maxRecDepth 20000 in
theorem kw_641 : Jvm.Cond.code yX3_narrowed cX3_narrowed 5 (some .int) ∈ k_tbl := in_tbl (in_t2 (List.mem_of_getElem? (i := 106) rfl)) rfl
set_option maxRecDepth 20000 in
theorem kw_642 : Jvm.Cond.code yX3_note cX3_note 6 (none) ∈ k_tbl := in_tbl (in_t2 (List.mem_of_getElem? (i := 103) rfl)) rfl
set_option maxRecDepth 20000 in
theorem kw_643 : Jvm.Cond.code yX3_bring cX3_bring 4 (none) ∈ k_tbl := in_tbl (in_t2 (List.mem_of_getElem? (i := 93) rfl)) rfl
set_option maxRecDepth 20000 in
theorem kw_644 : Jvm.Cond.code yX3_allFields cX3_allFields 1 (some .int) ∈ k_tbl := in_tbl (in_t2 (List.mem_of_getElem? (i := 114) rfl)) rfl
set_option maxRecDepth 20000 in
theorem kw_645 : Jvm.Cond.code yX8_isSide cX8_isSide 1 (some .boolean) ∈ k_tbl := in_tbl (in_t2 (List.mem_of_getElem? (i := 37) rfl)) rfl
set_option maxRecDepth 20000 in
theorem kw_646 : Jvm.Cond.initialized RX8 ∈ k_tbl := in_tbl (in_t1 (List.mem_of_getElem? (i := 1) rfl)) rfl
set_option maxRecDepth 20000 in
theorem kw_647 : Jvm.Cond.code yX3_count cX3_count 2 (some .int) ∈ k_tbl := in_tbl (in_t2 (List.mem_of_getElem? (i := 210) rfl)) rfl
set_option maxRecDepth 20000 in
theorem kw_648 : Jvm.Cond.code yX3_mask cX3_mask 3 (some .int) ∈ k_tbl := in_tbl (in_t2 (List.mem_of_getElem? (i := 215) rfl)) rfl
set_option maxRecDepth 20000 in
theorem kw_649 : Jvm.Cond.code yX3_place cX3_place 3 (some .int) ∈ k_tbl := in_tbl (in_t4 (List.mem_of_getElem? (i := 20) rfl)) rfl
set_option maxRecDepth 20000 in
theorem kw_650 : Jvm.Cond.code yX4_init cX4_init 1 (none) ∈ k_tbl := in_tbl (in_t1 (List.mem_of_getElem? (i := 194) rfl)) rfl
set_option maxRecDepth 20000 in
theorem kw_651 : Jvm.Cond.code yX4_forget cX4_forget 3 (none) ∈ k_tbl := in_tbl (in_t4 (List.mem_of_getElem? (i := 2) rfl)) rfl
set_option maxRecDepth 20000 in
theorem kw_652 : Jvm.Cond.code yX4_isWon cX4_isWon 9 (some .boolean) ∈ k_tbl := in_tbl (in_t4 (List.mem_of_getElem? (i := 5) rfl)) rfl
set_option maxRecDepth 20000 in
theorem kw_653 : Jvm.Cond.code yX4_isWonBy cX4_isWonBy 4 (some .boolean) ∈ k_tbl := in_tbl (in_t3 (List.mem_of_getElem? (i := 237) rfl)) rfl
set_option maxRecDepth 20000 in
theorem kw_654 : Jvm.Cond.code yX4_firstWinning cX4_firstWinning 5 (some .int) ∈ k_tbl := in_tbl (in_t4 (List.mem_of_getElem? (i := 16) rfl)) rfl
set_option maxRecDepth 20000 in
theorem kw_655 : Jvm.Cond.code yX5_has cX5_has 4 (some .boolean) ∈ k_tbl := in_tbl (in_t2 (List.mem_of_getElem? (i := 166) rfl)) rfl
set_option maxRecDepth 20000 in
theorem kw_656 : Jvm.Cond.code yX5_drop cX5_drop 4 (none) ∈ k_tbl := in_tbl (in_t2 (List.mem_of_getElem? (i := 186) rfl)) rfl
set_option maxRecDepth 20000 in
theorem kw_657 : Jvm.Cond.code yX5_copy cX5_copy 5 (none) ∈ k_tbl := in_tbl (in_t2 (List.mem_of_getElem? (i := 198) rfl)) rfl
set_option maxRecDepth 20000 in
theorem kw_658 : Jvm.Cond.code yX5_join cX5_join 5 (none) ∈ k_tbl := in_tbl (in_t2 (List.mem_of_getElem? (i := 157) rfl)) rfl
set_option maxRecDepth 20000 in
theorem kw_659 : Jvm.Cond.code yX5_bitAt cX5_bitAt 5 (some .int) ∈ k_tbl := in_tbl (in_t3 (List.mem_of_getElem? (i := 122) rfl)) rfl
set_option maxRecDepth 20000 in
theorem kw_660 : Jvm.Cond.code yX5_common cX5_common 9 (some .int) ∈ k_tbl := in_tbl (in_t2 (List.mem_of_getElem? (i := 170) rfl)) rfl
set_option maxRecDepth 20000 in
theorem kw_661 : Jvm.Cond.code yX6_init cX6_init 1 (none) ∈ k_tbl := in_tbl (in_t1 (List.mem_of_getElem? (i := 175) rfl)) rfl
set_option maxRecDepth 20000 in
theorem kw_662 : Jvm.Cond.code yX6_onlyOption cX6_onlyOption 2 (some .int) ∈ k_tbl := in_tbl (in_t3 (List.mem_of_getElem? (i := 143) rfl)) rfl
set_option maxRecDepth 20000 in
theorem kw_663 : Jvm.Cond.code yX6_findNumber cX6_findNumber 11 (some .boolean) ∈ k_tbl := in_tbl (in_t3 (List.mem_of_getElem? (i := 140) rfl)) rfl
set_option maxRecDepth 20000 in
theorem kw_664 : Jvm.Cond.code yJ9_max_f86c9 cJ9_max_f86c9 4 (some .long) ∈ k_tbl := in_tbl (in_t3 (List.mem_of_getElem? (i := 155) rfl)) rfl
set_option maxRecDepth 20000 in
theorem kw_665 : Jvm.Cond.code yX6_greatestRightStop cX6_greatestRightStop 6 (some .long) ∈ k_tbl := in_tbl (in_t3 (List.mem_of_getElem? (i := 150) rfl)) rfl
set_option maxRecDepth 20000 in
theorem kw_666 : Jvm.Cond.code yJ9_min_f86c9 cJ9_min_f86c9 4 (some .long) ∈ k_tbl := in_tbl (in_t3 (List.mem_of_getElem? (i := 164) rfl)) rfl
set_option maxRecDepth 20000 in
theorem kw_667 : Jvm.Cond.code yX6_leastLeftStop cX6_leastLeftStop 6 (some .long) ∈ k_tbl := in_tbl (in_t3 (List.mem_of_getElem? (i := 160) rfl)) rfl
set_option maxRecDepth 20000 in
theorem kw_668 : Jvm.Cond.code yX6_findStops cX6_findStops 3 (none) ∈ k_tbl := in_tbl (in_t3 (List.mem_of_getElem? (i := 136) rfl)) rfl
set_option maxRecDepth 20000 in
theorem kw_669 : Jvm.Cond.code yX6_isSwitch cX6_isSwitch 5 (some .boolean) ∈ k_tbl := in_tbl (in_t3 (List.mem_of_getElem? (i := 168) rfl)) rfl
set_option maxRecDepth 20000 in
theorem kw_670 : Jvm.Cond.code yJ9_floorMod_7cf53 cJ9_floorMod_7cf53 3 (some .int) ∈ k_tbl := in_tbl (in_t3 (List.mem_of_getElem? (i := 185) rfl)) rfl
set_option maxRecDepth 20000 in
theorem kw_671 : Jvm.Cond.code yX6_turnedCode cX6_turnedCode 1 (some .int) ∈ k_tbl := in_tbl (in_t3 (List.mem_of_getElem? (i := 182) rfl)) rfl
set_option maxRecDepth 20000 in
theorem kw_672 : Jvm.Cond.code yX6_withOneUpMore cX6_withOneUpMore 1 (some .int) ∈ k_tbl := in_tbl (in_t3 (List.mem_of_getElem? (i := 188) rfl)) rfl
set_option maxRecDepth 20000 in
theorem kw_673 : Jvm.Cond.code yX6_upCode cX6_upCode 8 (some .int) ∈ k_tbl := in_tbl (in_t3 (List.mem_of_getElem? (i := 176) rfl)) rfl
set_option maxRecDepth 20000 in
theorem kw_674 : Jvm.Cond.code yX6_findUps cX6_findUps 4 (none) ∈ k_tbl := in_tbl (in_t3 (List.mem_of_getElem? (i := 172) rfl)) rfl
set_option maxRecDepth 20000 in
theorem kw_675 : Jvm.Cond.code yX6_kindOf cX6_kindOf 3 (some .int) ∈ k_tbl := in_tbl (in_t3 (List.mem_of_getElem? (i := 132) rfl)) rfl
set_option maxRecDepth 20000 in
theorem kw_676 : Jvm.Cond.code yX6_stopOf cX6_stopOf 9 (some .int) ∈ k_tbl := in_tbl (in_t3 (List.mem_of_getElem? (i := 212) rfl)) rfl
set_option maxRecDepth 20000 in
theorem kw_677 : Jvm.Cond.code yJ9_floorDiv_7cf53 cJ9_floorDiv_7cf53 3 (some .int) ∈ k_tbl := in_tbl (in_t3 (List.mem_of_getElem? (i := 47) rfl)) rfl
set_option maxRecDepth 20000 in
theorem kw_678 : Jvm.Cond.code yX6_upsOf cX6_upsOf 5 (some .int) ∈ k_tbl := in_tbl (in_t3 (List.mem_of_getElem? (i := 220) rfl)) rfl
set_option maxRecDepth 20000 in
theorem kw_679 : Jvm.Cond.code yX7_init cX7_init 1 (none) ∈ k_tbl := in_tbl (in_t1 (List.mem_of_getElem? (i := 120) rfl)) rfl
set_option maxRecDepth 20000 in
theorem kw_680 : Jvm.Cond.code yX7_options cX7_options 2 (some (.object "PlankBench$Rows")) ∈ k_tbl := in_tbl (in_t2 (List.mem_of_getElem? (i := 182) rfl)) rfl
set_option maxRecDepth 20000 in
theorem kw_681 : Jvm.Cond.code yX7_openHand cX7_openHand 1 (none) ∈ k_tbl := in_tbl (in_t2 (List.mem_of_getElem? (i := 122) rfl)) rfl
set_option maxRecDepth 20000 in
theorem kw_682 : Jvm.Cond.code yX7_gatherBars cX7_gatherBars 3 (none) ∈ k_tbl := in_tbl (in_t2 (List.mem_of_getElem? (i := 138) rfl)) rfl
set_option maxRecDepth 20000 in
theorem kw_683 : Jvm.Cond.code yX7_weigh cX7_weigh 6 (some .boolean) ∈ k_tbl := in_tbl (in_t2 (List.mem_of_getElem? (i := 162) rfl)) rfl
set_option maxRecDepth 20000 in
theorem kw_684 : Jvm.Cond.code yX7_bypass cX7_bypass 6 (none) ∈ k_tbl := in_tbl (in_t2 (List.mem_of_getElem? (i := 178) rfl)) rfl
set_option maxRecDepth 20000 in
theorem kw_685 : Jvm.Cond.code yX7_strike cX7_strike 4 (none) ∈ k_tbl := in_tbl (in_t2 (List.mem_of_getElem? (i := 190) rfl)) rfl
set_option maxRecDepth 20000 in
theorem kw_686 : Jvm.Cond.code yX7_append cX7_append 3 (some .int) ∈ k_tbl := in_tbl (in_t2 (List.mem_of_getElem? (i := 194) rfl)) rfl
set_option maxRecDepth 20000 in
theorem kw_687 : Jvm.Cond.code yX7_settle cX7_settle 2 (some .int) ∈ k_tbl := in_tbl (in_t2 (List.mem_of_getElem? (i := 134) rfl)) rfl
set_option maxRecDepth 20000 in
theorem kw_688 : Jvm.Cond.code yX7_makeNought cX7_makeNought 1 (some .int) ∈ k_tbl := in_tbl (in_t2 (List.mem_of_getElem? (i := 118) rfl)) rfl
set_option maxRecDepth 20000 in
theorem kw_689 : Jvm.Cond.code yX7_markNext cX7_markNext 6 (none) ∈ k_tbl := in_tbl (in_t2 (List.mem_of_getElem? (i := 206) rfl)) rfl
set_option maxRecDepth 20000 in
theorem kw_690 : Jvm.Cond.code yX7_markRests cX7_markRests 4 (none) ∈ k_tbl := in_tbl (in_t2 (List.mem_of_getElem? (i := 202) rfl)) rfl
set_option maxRecDepth 20000 in
theorem kw_691 : Jvm.Cond.code yX7_offerRests cX7_offerRests 6 (none) ∈ k_tbl := in_tbl (in_t2 (List.mem_of_getElem? (i := 220) rfl)) rfl
set_option maxRecDepth 20000 in
theorem kw_692 : Jvm.Cond.code yX7_makeBoard cX7_makeBoard 4 (some .int) ∈ k_tbl := in_tbl (in_t2 (List.mem_of_getElem? (i := 110) rfl)) rfl
set_option maxRecDepth 20000 in
theorem kw_693 : Jvm.Cond.code yX7_makePair cX7_makePair 3 (some .int) ∈ k_tbl := in_tbl (in_t3 (List.mem_of_getElem? (i := 58) rfl)) rfl
set_option maxRecDepth 20000 in
theorem kw_694 : Jvm.Cond.code yJ9_abs_0f7a4 cJ9_abs_0f7a4 1 (some .int) ∈ k_tbl := in_tbl (in_t3 (List.mem_of_getElem? (i := 50) rfl)) rfl
set_option maxRecDepth 20000 in
theorem kw_695 : Jvm.Cond.code yX7_between cX7_between 12 (some .int) ∈ k_tbl := in_tbl (in_t3 (List.mem_of_getElem? (i := 54) rfl)) rfl
set_option maxRecDepth 20000 in
theorem kw_696 : Jvm.Cond.code yX7_makeNumber cX7_makeNumber 9 (some .int) ∈ k_tbl := in_tbl (in_t3 (List.mem_of_getElem? (i := 43) rfl)) rfl
set_option maxRecDepth 20000 in
theorem kw_697 : Jvm.Cond.code yX7_makeUps cX7_makeUps 10 (some .int) ∈ k_tbl := in_tbl (in_t3 (List.mem_of_getElem? (i := 66) rfl)) rfl
set_option maxRecDepth 20000 in
theorem kw_698 : Jvm.Cond.code yX7_offerMade cX7_offerMade 9 (none) ∈ k_tbl := in_tbl (in_t3 (List.mem_of_getElem? (i := 93) rfl)) rfl
set_option maxRecDepth 20000 in
theorem kw_699 : Jvm.Cond.code yX7_bring cX7_bring 4 (some .int) ∈ k_tbl := in_tbl (in_t3 (List.mem_of_getElem? (i := 89) rfl)) rfl
set_option maxRecDepth 20000 in
theorem kw_700 : Jvm.Cond.code yX7_makeOf cX7_makeOf 6 (some .int) ∈ k_tbl := in_tbl (in_t3 (List.mem_of_getElem? (i := 85) rfl)) rfl
set_option maxRecDepth 20000 in
theorem kw_701 : Jvm.Cond.code yX7_makeSum cX7_makeSum 6 (some .int) ∈ k_tbl := in_tbl (in_t3 (List.mem_of_getElem? (i := 105) rfl)) rfl
set_option maxRecDepth 20000 in
theorem kw_702 : Jvm.Cond.code yX7_copy cX7_copy 4 (some .int) ∈ k_tbl := in_tbl (in_t3 (List.mem_of_getElem? (i := 113) rfl)) rfl
set_option maxRecDepth 20000 in
theorem kw_703 : Jvm.Cond.code yX7_relation cX7_relation 5 (some .int) ∈ k_tbl := in_tbl (in_t3 (List.mem_of_getElem? (i := 196) rfl)) rfl
set_option maxRecDepth 20000 in
theorem kw_704 : Jvm.Cond.code yX8_init cX8_init 2 (none) ∈ k_tbl := in_tbl (in_t1 (List.mem_of_getElem? (i := 18) rfl)) rfl
set_option maxRecDepth 20000 in
theorem kw_705 : Jvm.Cond.code yX8_isBoard cX8_isBoard 1 (some .boolean) ∈ k_tbl := in_tbl (in_t1 (List.mem_of_getElem? (i := 231) rfl)) rfl
set_option maxRecDepth 20000 in
theorem kw_706 : Jvm.Cond.code yX8_row cX8_row 4 (some .int) ∈ k_tbl := in_tbl (in_t1 (List.mem_of_getElem? (i := 228) rfl)) rfl
set_option maxRecDepth 20000 in
theorem kw_707 : Jvm.Cond.code yX8_field cX8_field 3 (some .boolean) ∈ k_tbl := in_tbl (in_t2 (List.mem_of_getElem? (i := 9) rfl)) rfl
set_option maxRecDepth 20000 in
theorem kw_708 : Jvm.Cond.code yX8_fields cX8_fields 2 (some .int) ∈ k_tbl := in_tbl (in_t2 (List.mem_of_getElem? (i := 17) rfl)) rfl
set_option maxRecDepth 20000 in
theorem kw_709 : Jvm.Cond.code yX8_parts cX8_parts 2 (some .int) ∈ k_tbl := in_tbl (in_t2 (List.mem_of_getElem? (i := 21) rfl)) rfl
set_option maxRecDepth 20000 in
theorem kw_710 : Jvm.Cond.code yX8_moves cX8_moves 3 (some .int) ∈ k_tbl := in_tbl (in_t2 (List.mem_of_getElem? (i := 34) rfl)) rfl
set_option maxRecDepth 20000 in
theorem kw_711 : Jvm.Cond.code yX8_lay cX8_lay 4 (some .int) ∈ k_tbl := in_tbl (in_t2 (List.mem_of_getElem? (i := 50) rfl)) rfl
set_option maxRecDepth 20000 in
theorem kw_712 : Jvm.Cond.code yX8_lift cX8_lift 2 (some .int) ∈ k_tbl := in_tbl (in_t2 (List.mem_of_getElem? (i := 62) rfl)) rfl
set_option maxRecDepth 20000 in
theorem kw_713 : Jvm.Cond.code yX8_quarter cX8_quarter 3 (some .int) ∈ k_tbl := in_tbl (in_t2 (List.mem_of_getElem? (i := 70) rfl)) rfl
set_option maxRecDepth 20000 in
theorem kw_714 : Jvm.Cond.code yX8_isSpot cX8_isSpot 1 (some .boolean) ∈ k_tbl := in_tbl (in_t2 (List.mem_of_getElem? (i := 85) rfl)) rfl
set_option maxRecDepth 20000 in
theorem kw_715 : Jvm.Cond.code yX8_keep cX8_keep 3 (some .int) ∈ k_tbl := in_tbl (in_t2 (List.mem_of_getElem? (i := 224) rfl)) rfl
set_option maxRecDepth 20000 in
theorem kw_716 : Jvm.Cond.code yX8_worth cX8_worth 3 (some .int) ∈ k_tbl := in_tbl (in_t2 (List.mem_of_getElem? (i := 82) rfl)) rfl
set_option maxRecDepth 20000 in
theorem kw_717 : Jvm.Cond.code yX8_number cX8_number 4 (some .int) ∈ k_tbl := in_tbl (in_t3 (List.mem_of_getElem? (i := 39) rfl)) rfl
set_option maxRecDepth 20000 in
theorem kw_718 : Jvm.Cond.code yX8_up cX8_up 4 (some .int) ∈ k_tbl := in_tbl (in_t3 (List.mem_of_getElem? (i := 62) rfl)) rfl
set_option maxRecDepth 20000 in
theorem kw_719 : Jvm.Cond.code yX8_isSpotSet cX8_isSpotSet 1 (some .boolean) ∈ k_tbl := in_tbl (in_t3 (List.mem_of_getElem? (i := 73) rfl)) rfl
set_option maxRecDepth 20000 in
theorem kw_720 : Jvm.Cond.code yX8_isTooDeep cX8_isTooDeep 3 (some .boolean) ∈ k_tbl := in_tbl (in_t3 (List.mem_of_getElem? (i := 77) rfl)) rfl
set_option maxRecDepth 20000 in
theorem kw_721 : Jvm.Cond.code yX8_sizeOf cX8_sizeOf 4 (some .int) ∈ k_tbl := in_tbl (in_t3 (List.mem_of_getElem? (i := 81) rfl)) rfl
set_option maxRecDepth 20000 in
theorem kw_722 : Jvm.Cond.code yX8_game cX8_game 4 (some .int) ∈ k_tbl := in_tbl (in_t3 (List.mem_of_getElem? (i := 70) rfl)) rfl
set_option maxRecDepth 20000 in
theorem kw_723 : Jvm.Cond.code yX8_add cX8_add 4 (some .int) ∈ k_tbl := in_tbl (in_t3 (List.mem_of_getElem? (i := 101) rfl)) rfl
set_option maxRecDepth 20000 in
theorem kw_724 : Jvm.Cond.code yX8_turn cX8_turn 3 (some .int) ∈ k_tbl := in_tbl (in_t3 (List.mem_of_getElem? (i := 109) rfl)) rfl
set_option maxRecDepth 20000 in
theorem kw_725 : Jvm.Cond.code yX8_option cX8_option 6 (some .int) ∈ k_tbl := in_tbl (in_t3 (List.mem_of_getElem? (i := 117) rfl)) rfl
set_option maxRecDepth 20000 in
theorem kw_726 : Jvm.Cond.code yX8_told cX8_told 4 (some .int) ∈ k_tbl := in_tbl (in_t3 (List.mem_of_getElem? (i := 127) rfl)) rfl
set_option maxRecDepth 20000 in
theorem kw_727 : Jvm.Cond.code yX8_compare cX8_compare 3 (some .int) ∈ k_tbl := in_tbl (in_t3 (List.mem_of_getElem? (i := 192) rfl)) rfl
set_option maxRecDepth 20000 in
theorem kw_728 : Jvm.Cond.code yX8_wins cX8_wins 2 (some .int) ∈ k_tbl := in_tbl (in_t3 (List.mem_of_getElem? (i := 200) rfl)) rfl
set_option maxRecDepth 20000 in
theorem kw_729 : Jvm.Cond.code yX8_isPartOfValue cX8_isPartOfValue 1 (some .boolean) ∈ k_tbl := in_tbl (in_t3 (List.mem_of_getElem? (i := 207) rfl)) rfl
set_option maxRecDepth 20000 in
theorem kw_730 : Jvm.Cond.code yX8_value cX8_value 3 (some .int) ∈ k_tbl := in_tbl (in_t3 (List.mem_of_getElem? (i := 204) rfl)) rfl
set_option maxRecDepth 20000 in
theorem kw_731 : Jvm.Cond.code yX8_ups cX8_ups 3 (some .int) ∈ k_tbl := in_tbl (in_t3 (List.mem_of_getElem? (i := 216) rfl)) rfl
set_option maxRecDepth 20000 in
theorem kw_732 : Jvm.Cond.code yX8_stop cX8_stop 4 (some .int) ∈ k_tbl := in_tbl (in_t3 (List.mem_of_getElem? (i := 225) rfl)) rfl
set_option maxRecDepth 20000 in
theorem kw_733 : Jvm.Cond.code yX8_layOut cX8_layOut 5 (some .int) ∈ k_tbl := in_tbl (in_t3 (List.mem_of_getElem? (i := 233) rfl)) rfl
set_option maxRecDepth 20000 in
theorem kw_734 : Jvm.Cond.code yX8_beginner cX8_beginner 4 (some .int) ∈ k_tbl := in_tbl (in_t3 (List.mem_of_getElem? (i := 229) rfl)) rfl
set_option maxRecDepth 20000 in
theorem kw_735 : Jvm.Cond.code yX8_best cX8_best 5 (some .int) ∈ k_tbl := in_tbl (in_t4 (List.mem_of_getElem? (i := 12) rfl)) rfl
set_option maxRecDepth 20000 in
theorem kw_736 : Jvm.Cond.code yX9_init cX9_init 2 (none) ∈ k_tbl := in_tbl (in_t4 (List.mem_of_getElem? (i := 25) rfl)) rfl
set_option maxRecDepth 20000 in
theorem kw_737 : Jvm.Cond.initialized RX9 ∈ k_tbl := in_tbl (in_t1 (List.mem_of_getElem? (i := 11) rfl)) rfl
set_option maxRecDepth 20000 in
theorem kw_738 : Jvm.Cond.code yX9_isBoard cX9_isBoard 1 (some .boolean) ∈ k_tbl := in_tbl (in_t4 (List.mem_of_getElem? (i := 151) rfl)) rfl
set_option maxRecDepth 20000 in
theorem kw_739 : Jvm.Cond.code yX9_isFree cX9_isFree 2 (some .boolean) ∈ k_tbl := in_tbl (in_t4 (List.mem_of_getElem? (i := 161) rfl)) rfl
set_option maxRecDepth 20000 in
theorem kw_740 : Jvm.Cond.code yX9_count cX9_count 3 (some .int) ∈ k_tbl := in_tbl (in_t4 (List.mem_of_getElem? (i := 154) rfl)) rfl
set_option maxRecDepth 20000 in
theorem kw_741 : Jvm.Cond.code yX9_row cX9_row 4 (some .int) ∈ k_tbl := in_tbl (in_t4 (List.mem_of_getElem? (i := 148) rfl)) rfl
set_option maxRecDepth 20000 in
theorem kw_742 : Jvm.Cond.code yX9_field cX9_field 3 (some .boolean) ∈ k_tbl := in_tbl (in_t4 (List.mem_of_getElem? (i := 158) rfl)) rfl
set_option maxRecDepth 20000 in
theorem kw_743 : Jvm.Cond.code yX9_fields cX9_fields 2 (some .int) ∈ k_tbl := in_tbl (in_t4 (List.mem_of_getElem? (i := 165) rfl)) rfl
set_option maxRecDepth 20000 in
theorem kw_744 : Jvm.Cond.code yX9_parts cX9_parts 7 (some .int) ∈ k_tbl := in_tbl (in_t4 (List.mem_of_getElem? (i := 169) rfl)) rfl
set_option maxRecDepth 20000 in
theorem kw_745 : Jvm.Cond.code yX9_second cX9_second 4 (some .int) ∈ k_tbl := in_tbl (in_t4 (List.mem_of_getElem? (i := 176) rfl)) rfl
set_option maxRecDepth 20000 in
theorem kw_746 : Jvm.Cond.code yX9_moves cX9_moves 5 (some .int) ∈ k_tbl := in_tbl (in_t4 (List.mem_of_getElem? (i := 173) rfl)) rfl
set_option maxRecDepth 20000 in
theorem kw_747 : Jvm.Cond.code yX9_lay cX9_lay 5 (some .int) ∈ k_tbl := in_tbl (in_t4 (List.mem_of_getElem? (i := 180) rfl)) rfl
set_option maxRecDepth 20000 in
theorem kw_748 : Jvm.Cond.code yX9_lift cX9_lift 3 (some .int) ∈ k_tbl := in_tbl (in_t4 (List.mem_of_getElem? (i := 184) rfl)) rfl
set_option maxRecDepth 20000 in
theorem kw_749 : Jvm.Cond.code yX9_quarter cX9_quarter 6 (some .int) ∈ k_tbl := in_tbl (in_t4 (List.mem_of_getElem? (i := 188) rfl)) rfl
set_option maxRecDepth 20000 in
theorem kw_750 : Jvm.Cond.code yX9_isLeast cX9_isLeast 3 (some .boolean) ∈ k_tbl := in_tbl (in_t4 (List.mem_of_getElem? (i := 218) rfl)) rfl
set_option maxRecDepth 20000 in
theorem kw_751 : Jvm.Cond.code yX9_leftOf cX9_leftOf 3 (some .int) ∈ k_tbl := in_tbl (in_t4 (List.mem_of_getElem? (i := 222) rfl)) rfl
set_option maxRecDepth 20000 in
theorem kw_752 : Jvm.Cond.code yX9_rightOf cX9_rightOf 3 (some .int) ∈ k_tbl := in_tbl (in_t4 (List.mem_of_getElem? (i := 226) rfl)) rfl
set_option maxRecDepth 20000 in
theorem kw_753 : Jvm.Cond.code yX9_order cX9_order 8 (some .int) ∈ k_tbl := in_tbl (in_t5 (List.mem_of_getElem? (i := 6) rfl)) rfl
set_option maxRecDepth 20000 in
theorem kw_754 : Jvm.Cond.code yX9_once cX9_once 6 (some .int) ∈ k_tbl := in_tbl (in_t4 (List.mem_of_getElem? (i := 210) rfl)) rfl
set_option maxRecDepth 20000 in
theorem kw_755 : Jvm.Cond.code yX9_sort cX9_sort 6 (none) ∈ k_tbl := in_tbl (in_t5 (List.mem_of_getElem? (i := 2) rfl)) rfl
set_option maxRecDepth 20000 in
theorem kw_756 : Jvm.Cond.code yX9_compareNew cX9_compareNew 5 (none) ∈ k_tbl := in_tbl (in_t4 (List.mem_of_getElem? (i := 214) rfl)) rfl
set_option maxRecDepth 20000 in
theorem kw_757 : Jvm.Cond.code yX9_replaceLeft cX9_replaceLeft 6 (some .boolean) ∈ k_tbl := in_tbl (in_t4 (List.mem_of_getElem? (i := 230) rfl)) rfl
set_option maxRecDepth 20000 in
theorem kw_758 : Jvm.Cond.code yX9_replaceRight cX9_replaceRight 6 (some .boolean) ∈ k_tbl := in_tbl (in_t4 (List.mem_of_getElem? (i := 234) rfl)) rfl
set_option maxRecDepth 20000 in
theorem kw_759 : Jvm.Cond.code yX9_leaveOut cX9_leaveOut 5 (none) ∈ k_tbl := in_tbl (in_t4 (List.mem_of_getElem? (i := 238) rfl)) rfl
set_option maxRecDepth 20000 in
theorem kw_760 : Jvm.Cond.code yX9_isNew cX9_isNew 4 (some .boolean) ∈ k_tbl := in_tbl (in_t5 (List.mem_of_getElem? (i := 14) rfl)) rfl
set_option maxRecDepth 20000 in
theorem kw_761 : Jvm.Cond.code yX9_keepNew cX9_keepNew 2 (some .int) ∈ k_tbl := in_tbl (in_t5 (List.mem_of_getElem? (i := 10) rfl)) rfl
set_option maxRecDepth 20000 in
theorem kw_762 : Jvm.Cond.code yX9_made cX9_made 2 (some .int) ∈ k_tbl := in_tbl (in_t4 (List.mem_of_getElem? (i := 207) rfl)) rfl
set_option maxRecDepth 20000 in
theorem kw_763 : Jvm.Cond.code yX9_clearNew cX9_clearNew 1 (none) ∈ k_tbl := in_tbl (in_t4 (List.mem_of_getElem? (i := 203) rfl)) rfl
set_option maxRecDepth 20000 in
theorem kw_764 : Jvm.Cond.code yX9_begin cX9_begin 2 (none) ∈ k_tbl := in_tbl (in_t4 (List.mem_of_getElem? (i := 199) rfl)) rfl
set_option maxRecDepth 20000 in
theorem kw_765 : Jvm.Cond.code yX9_load cX9_load 6 (some .int) ∈ k_tbl := in_tbl (in_t5 (List.mem_of_getElem? (i := 58) rfl)) rfl
set_option maxRecDepth 20000 in
theorem kw_766 : Jvm.Cond.code yX9_save cX9_save 8 (some .int) ∈ k_tbl := in_tbl (in_t5 (List.mem_of_getElem? (i := 22) rfl)) rfl
set_option maxRecDepth 20000 in
theorem kw_767 : Jvm.Cond.code yX9_isSpot cX9_isSpot 1 (some .boolean) ∈ k_tbl := in_tbl (in_t4 (List.mem_of_getElem? (i := 195) rfl)) rfl
set_option maxRecDepth 20000 in
theorem kw_768 : Jvm.Cond.code yX9_addMoves cX9_addMoves 5 (none) ∈ k_tbl := in_tbl (in_t5 (List.mem_of_getElem? (i := 18) rfl)) rfl
set_option maxRecDepth 20000 in
theorem kw_769 : Jvm.Cond.code yX9_worth cX9_worth 7 (some .int) ∈ k_tbl := in_tbl (in_t4 (List.mem_of_getElem? (i := 192) rfl)) rfl
set_option maxRecDepth 20000 in
theorem kw_770 : Jvm.Cond.code yX9_madeOf cX9_madeOf 3 (some .int) ∈ k_tbl := in_tbl (in_t5 (List.mem_of_getElem? (i := 34) rfl)) rfl
set_option maxRecDepth 20000 in
theorem kw_771 : Jvm.Cond.code yX9_numbered cX9_numbered 6 (some .int) ∈ k_tbl := in_tbl (in_t5 (List.mem_of_getElem? (i := 30) rfl)) rfl
set_option maxRecDepth 20000 in
theorem kw_772 : Jvm.Cond.code yX9_number cX9_number 4 (some .int) ∈ k_tbl := in_tbl (in_t5 (List.mem_of_getElem? (i := 26) rfl)) rfl
set_option maxRecDepth 20000 in
theorem kw_773 : Jvm.Cond.code yX9_followers cX9_followers 5 (some .int) ∈ k_tbl := in_tbl (in_t5 (List.mem_of_getElem? (i := 46) rfl)) rfl
set_option maxRecDepth 20000 in
theorem kw_774 : Jvm.Cond.code yX9_summed cX9_summed 10 (some .int) ∈ k_tbl := in_tbl (in_t5 (List.mem_of_getElem? (i := 42) rfl)) rfl
set_option maxRecDepth 20000 in
theorem kw_775 : Jvm.Cond.code yX9_up cX9_up 8 (some .int) ∈ k_tbl := in_tbl (in_t5 (List.mem_of_getElem? (i := 38) rfl)) rfl
set_option maxRecDepth 20000 in
theorem kw_776 : Jvm.Cond.code yX9_deepOf cX9_deepOf 2 (some .int) ∈ k_tbl := in_tbl (in_t5 (List.mem_of_getElem? (i := 54) rfl)) rfl
set_option maxRecDepth 20000 in
theorem kw_777 : Jvm.Cond.code yX9_game cX9_game 8 (some .int) ∈ k_tbl := in_tbl (in_t5 (List.mem_of_getElem? (i := 50) rfl)) rfl
set_option maxRecDepth 20000 in
theorem kw_778 : Jvm.Cond.code yX9_add cX9_add 6 (some .int) ∈ k_tbl := in_tbl (in_t5 (List.mem_of_getElem? (i := 62) rfl)) rfl
set_option maxRecDepth 20000 in
theorem kw_779 : Jvm.Cond.code yX9_turn cX9_turn 7 (some .int) ∈ k_tbl := in_tbl (in_t5 (List.mem_of_getElem? (i := 66) rfl)) rfl
set_option maxRecDepth 20000 in
theorem kw_780 : Jvm.Cond.code yX9_option cX9_option 6 (some .int) ∈ k_tbl := in_tbl (in_t5 (List.mem_of_getElem? (i := 70) rfl)) rfl
set_option maxRecDepth 20000 in
theorem kw_781 : Jvm.Cond.code yX9_smaller cX9_smaller 10 (some .int) ∈ k_tbl := in_tbl (in_t5 (List.mem_of_getElem? (i := 89) rfl)) rfl
set_option maxRecDepth 20000 in
theorem kw_782 : Jvm.Cond.code yX9_setValue cX9_setValue 8 (none) ∈ k_tbl := in_tbl (in_t5 (List.mem_of_getElem? (i := 93) rfl)) rfl
set_option maxRecDepth 20000 in
theorem kw_783 : Jvm.Cond.code yX9_findValue cX9_findValue 10 (none) ∈ k_tbl := in_tbl (in_t5 (List.mem_of_getElem? (i := 86) rfl)) rfl
set_option maxRecDepth 20000 in
theorem kw_784 : Jvm.Cond.code yX9_findStops cX9_findStops 10 (none) ∈ k_tbl := in_tbl (in_t5 (List.mem_of_getElem? (i := 98) rfl)) rfl
set_option maxRecDepth 20000 in
theorem kw_785 : Jvm.Cond.code yX9_findValues cX9_findValues 3 (some .int) ∈ k_tbl := in_tbl (in_t5 (List.mem_of_getElem? (i := 82) rfl)) rfl
set_option maxRecDepth 20000 in
theorem kw_786 : Jvm.Cond.code yX9_isSwitch cX9_isSwitch 5 (some .boolean) ∈ k_tbl := in_tbl (in_t5 (List.mem_of_getElem? (i := 102) rfl)) rfl
set_option maxRecDepth 20000 in
theorem kw_787 : Jvm.Cond.code yX9_upsOf cX9_upsOf 10 (some .int) ∈ k_tbl := in_tbl (in_t5 (List.mem_of_getElem? (i := 106) rfl)) rfl
set_option maxRecDepth 20000 in
theorem kw_788 : Jvm.Cond.code yX9_kindOf cX9_kindOf 3 (some .int) ∈ k_tbl := in_tbl (in_t5 (List.mem_of_getElem? (i := 78) rfl)) rfl
set_option maxRecDepth 20000 in
theorem kw_789 : Jvm.Cond.code yX9_told cX9_told 4 (some .int) ∈ k_tbl := in_tbl (in_t5 (List.mem_of_getElem? (i := 74) rfl)) rfl
set_option maxRecDepth 20000 in
theorem kw_790 : Jvm.Cond.code yX9_compare cX9_compare 5 (some .int) ∈ k_tbl := in_tbl (in_t5 (List.mem_of_getElem? (i := 111) rfl)) rfl
set_option maxRecDepth 20000 in
theorem kw_791 : Jvm.Cond.code yX9_wins cX9_wins 3 (some .int) ∈ k_tbl := in_tbl (in_t5 (List.mem_of_getElem? (i := 115) rfl)) rfl
set_option maxRecDepth 20000 in
theorem kw_792 : Jvm.Cond.code yX9_value cX9_value 4 (some .int) ∈ k_tbl := in_tbl (in_t5 (List.mem_of_getElem? (i := 119) rfl)) rfl
set_option maxRecDepth 20000 in
theorem kw_793 : Jvm.Cond.code yX9_ups cX9_ups 5 (some .int) ∈ k_tbl := in_tbl (in_t5 (List.mem_of_getElem? (i := 123) rfl)) rfl
set_option maxRecDepth 20000 in
theorem kw_794 : Jvm.Cond.code yX9_stop cX9_stop 5 (some .int) ∈ k_tbl := in_tbl (in_t5 (List.mem_of_getElem? (i := 127) rfl)) rfl
set_option maxRecDepth 20000 in
theorem kw_795 : Jvm.Cond.code yX9_findFields cX9_findFields 5 (some .int) ∈ k_tbl := in_tbl (in_t5 (List.mem_of_getElem? (i := 135) rfl)) rfl
set_option maxRecDepth 20000 in
theorem kw_796 : Jvm.Cond.code yX9_without cX9_without 8 (some .int) ∈ k_tbl := in_tbl (in_t5 (List.mem_of_getElem? (i := 143) rfl)) rfl
set_option maxRecDepth 20000 in
theorem kw_797 : Jvm.Cond.code yX9_findWins cX9_findWins 7 (none) ∈ k_tbl := in_tbl (in_t5 (List.mem_of_getElem? (i := 139) rfl)) rfl
set_option maxRecDepth 20000 in
theorem kw_798 : Jvm.Cond.code yX9_beginner cX9_beginner 4 (some .int) ∈ k_tbl := in_tbl (in_t5 (List.mem_of_getElem? (i := 131) rfl)) rfl
set_option maxRecDepth 20000 in
theorem kw_799 : Jvm.Cond.code yX9_best cX9_best 7 (some .int) ∈ k_tbl := in_tbl (in_t5 (List.mem_of_getElem? (i := 147) rfl)) rfl
