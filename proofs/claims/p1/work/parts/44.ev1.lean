/-! ===== boards: rows, fields, parts, moves ===== -/
set_option maxRecDepth 100000 in
theorem e0_0l : cE_0 (aU 0 0 2147483647) (aU 0 0 4294967295) (aU 0 0 4294967295) = true := by decide +kernel
set_option maxRecDepth 100000 in
theorem e0_0h : cE_0 (aU 0 (2147483648 + 6) 4294967295) (aU 0 0 4294967295) (aU 0 0 4294967295) = true := by decide +kernel
set_option maxRecDepth 100000 in
theorem e0_1l : cE_0 (aU 0 2147483648 (2147483647 + 6)) (aU 0 0 2147483647) (aU 0 0 4294967295) = true := by decide +kernel
set_option maxRecDepth 100000 in
theorem e0_1h : cE_0 (aU 0 2147483648 (2147483647 + 6)) (aU 0 (2147483648 + 4) 4294967295) (aU 0 0 4294967295) = true := by decide +kernel
set_option maxRecDepth 100000 in
theorem e0_2l : cE_0 (aU 0 2147483648 (2147483647 + 6)) (aU 0 2147483648 (2147483647 + 4)) (aU 0 0 2147483647) = true := by decide +kernel
set_option maxRecDepth 100000 in
theorem e0_2h : cE_0 (aU 0 2147483648 (2147483647 + 6)) (aU 0 2147483648 (2147483647 + 4)) (aU 0 (2147483648 + 16) 4294967295) = true := by decide +kernel
set_option maxRecDepth 100000 in
theorem e0_v0 : q_all (fun b => q_all (fun c => cE_0 (aI 0) (aI b) (aI c)) 16) 4 = true := by decide +kernel
set_option maxRecDepth 100000 in
theorem e0_v1 : q_all (fun b => q_all (fun c => cE_0 (aI 1) (aI b) (aI c)) 16) 4 = true := by decide +kernel
set_option maxRecDepth 100000 in
theorem e0_v2 : q_all (fun b => q_all (fun c => cE_0 (aI 2) (aI b) (aI c)) 16) 4 = true := by decide +kernel
set_option maxRecDepth 100000 in
theorem e0_v3 : q_all (fun b => q_all (fun c => cE_0 (aI 3) (aI b) (aI c)) 16) 4 = true := by decide +kernel
set_option maxRecDepth 100000 in
theorem e0_v4 : q_all (fun b => q_all (fun c => cE_0 (aI 4) (aI b) (aI c)) 16) 4 = true := by decide +kernel
set_option maxRecDepth 100000 in
theorem e0_v5 : q_all (fun b => q_all (fun c => cE_0 (aI 5) (aI b) (aI c)) 16) 4 = true := by decide +kernel
set_option maxRecDepth 20000 in
theorem op_0 (xa xb xc : Int32) : ∃ Aa Ab Ac : AV, (∀ (gv : Nat → Int32) (ad : List Nat), vR gv ad Aa (.int xa) ∧ vR gv ad Ab (.int xb) ∧ vR gv ad Ac (.int xc)) ∧ cE_0 Aa Ab Ac = true := by
  rcases i_box xa 6 (by decide) with ⟨ma, ha, rfl⟩ | ha | ha
  rotate_left
  · exact ⟨(aU 0 0 2147483647), (aU 0 0 4294967295), (aU 0 0 4294967295), fun gv ad => ⟨vU_low ha, vU_any xb, vU_any xc⟩, e0_0l⟩
  · exact ⟨(aU 0 (2147483648 + 6) 4294967295), (aU 0 0 4294967295), (aU 0 0 4294967295), fun gv ad => ⟨vU_high ha, vU_any xb, vU_any xc⟩, e0_0h⟩
  rcases i_box xb 4 (by decide) with ⟨mb, hb, rfl⟩ | hb | hb
  rotate_left
  · exact ⟨(aU 0 2147483648 (2147483647 + 6)), (aU 0 0 2147483647), (aU 0 0 4294967295), fun gv ad => ⟨vU_in ha (by decide), vU_low hb, vU_any xc⟩, e0_1l⟩
  · exact ⟨(aU 0 2147483648 (2147483647 + 6)), (aU 0 (2147483648 + 4) 4294967295), (aU 0 0 4294967295), fun gv ad => ⟨vU_in ha (by decide), vU_high hb, vU_any xc⟩, e0_1h⟩
  rcases i_box xc 16 (by decide) with ⟨mc, hc, rfl⟩ | hc | hc
  rotate_left
  · exact ⟨(aU 0 2147483648 (2147483647 + 6)), (aU 0 2147483648 (2147483647 + 4)), (aU 0 0 2147483647), fun gv ad => ⟨vU_in ha (by decide), vU_in hb (by decide), vU_low hc⟩, e0_2l⟩
  · exact ⟨(aU 0 2147483648 (2147483647 + 6)), (aU 0 2147483648 (2147483647 + 4)), (aU 0 (2147483648 + 16) 4294967295), fun gv ad => ⟨vU_in ha (by decide), vU_in hb (by decide), vU_high hc⟩, e0_2h⟩
  match ma, ha with
  | 0, _ => exact ⟨aI 0, aI mb, aI mc, fun gv ad => ⟨⟨by decide, rfl⟩, ⟨Nat.lt_of_lt_of_le hb (by decide), rfl⟩, ⟨Nat.lt_of_lt_of_le hc (by decide), rfl⟩⟩, (q_all_at (q_all_at e0_v0 mb hb) mc hc)⟩
  | 1, _ => exact ⟨aI 1, aI mb, aI mc, fun gv ad => ⟨⟨by decide, rfl⟩, ⟨Nat.lt_of_lt_of_le hb (by decide), rfl⟩, ⟨Nat.lt_of_lt_of_le hc (by decide), rfl⟩⟩, (q_all_at (q_all_at e0_v1 mb hb) mc hc)⟩
  | 2, _ => exact ⟨aI 2, aI mb, aI mc, fun gv ad => ⟨⟨by decide, rfl⟩, ⟨Nat.lt_of_lt_of_le hb (by decide), rfl⟩, ⟨Nat.lt_of_lt_of_le hc (by decide), rfl⟩⟩, (q_all_at (q_all_at e0_v2 mb hb) mc hc)⟩
  | 3, _ => exact ⟨aI 3, aI mb, aI mc, fun gv ad => ⟨⟨by decide, rfl⟩, ⟨Nat.lt_of_lt_of_le hb (by decide), rfl⟩, ⟨Nat.lt_of_lt_of_le hc (by decide), rfl⟩⟩, (q_all_at (q_all_at e0_v3 mb hb) mc hc)⟩
  | 4, _ => exact ⟨aI 4, aI mb, aI mc, fun gv ad => ⟨⟨by decide, rfl⟩, ⟨Nat.lt_of_lt_of_le hb (by decide), rfl⟩, ⟨Nat.lt_of_lt_of_le hc (by decide), rfl⟩⟩, (q_all_at (q_all_at e0_v4 mb hb) mc hc)⟩
  | 5, _ => exact ⟨aI 5, aI mb, aI mc, fun gv ad => ⟨⟨by decide, rfl⟩, ⟨Nat.lt_of_lt_of_le hb (by decide), rfl⟩, ⟨Nat.lt_of_lt_of_le hc (by decide), rfl⟩⟩, (q_all_at (q_all_at e0_v5 mb hb) mc hc)⟩
  | n + 6, h => exact absurd h (by omega)
set_option maxRecDepth 100000 in
theorem e1_0l : cE_1 (aU 0 0 2147483647) (aU 0 0 4294967295) = true := by decide +kernel
set_option maxRecDepth 100000 in
theorem e1_0h : cE_1 (aU 0 (2147483648 + 6) 4294967295) (aU 0 0 4294967295) = true := by decide +kernel
set_option maxRecDepth 100000 in
theorem e1_1l : q_all (fun a => cE_1 (aI a) (aU 0 0 2147483647)) 6 = true := by decide +kernel
set_option maxRecDepth 100000 in
theorem e1_1h : q_all (fun a => cE_1 (aI a) (aU 0 (2147483648 + 16) 4294967295)) 6 = true := by decide +kernel
set_option maxRecDepth 100000 in
theorem e1_v : q_all (fun a => q_all (fun b => cE_1 (aI a) (aI b)) 16) 6 = true := by decide +kernel
theorem op_1 (xa xb : Int32) : ∃ Aa Ab : AV, (∀ (gv : Nat → Int32) (ad : List Nat), vR gv ad Aa (.int xa) ∧ vR gv ad Ab (.int xb)) ∧ cE_1 Aa Ab = true := by
  rcases i_box xa 6 (by decide) with ⟨ma, ha, rfl⟩ | ha | ha
  rotate_left
  · exact ⟨(aU 0 0 2147483647), (aU 0 0 4294967295), fun gv ad => ⟨vU_low ha, vU_any xb⟩, e1_0l⟩
  · exact ⟨(aU 0 (2147483648 + 6) 4294967295), (aU 0 0 4294967295), fun gv ad => ⟨vU_high ha, vU_any xb⟩, e1_0h⟩
  rcases i_box xb 16 (by decide) with ⟨mb, hb, rfl⟩ | hb | hb
  rotate_left
  · exact ⟨aI ma, (aU 0 0 2147483647), fun gv ad => ⟨⟨Nat.lt_of_lt_of_le ha (by decide), rfl⟩, vU_low hb⟩, q_all_at e1_1l ma ha⟩
  · exact ⟨aI ma, (aU 0 (2147483648 + 16) 4294967295), fun gv ad => ⟨⟨Nat.lt_of_lt_of_le ha (by decide), rfl⟩, vU_high hb⟩, q_all_at e1_1h ma ha⟩
  exact ⟨aI ma, aI mb, fun gv ad => ⟨⟨Nat.lt_of_lt_of_le ha (by decide), rfl⟩, ⟨Nat.lt_of_lt_of_le hb (by decide), rfl⟩⟩, q_all_at (q_all_at e1_v ma ha) mb hb⟩
set_option maxRecDepth 100000 in
theorem e2_0l : cE_2 (aU 0 0 2147483647) = true := by decide +kernel
set_option maxRecDepth 100000 in
theorem e2_0h : cE_2 (aU 0 (2147483648 + 6) 4294967295) = true := by decide +kernel
set_option maxRecDepth 100000 in
theorem e2_v : q_all (fun a => cE_2 (aI a)) 6 = true := by decide +kernel
set_option maxRecDepth 20000 in
theorem op_2 (xa : Int32) : ∃ Aa : AV, (∀ (gv : Nat → Int32) (ad : List Nat), vR gv ad Aa (.int xa)) ∧ cE_2 Aa = true := by
  rcases i_box xa 6 (by decide) with ⟨ma, ha, rfl⟩ | ha | ha
  rotate_left
  · exact ⟨(aU 0 0 2147483647), fun gv ad => vU_low ha, e2_0l⟩
  · exact ⟨(aU 0 (2147483648 + 6) 4294967295), fun gv ad => vU_high ha, e2_0h⟩
  exact ⟨aI ma, fun gv ad => ⟨Nat.lt_of_lt_of_le ha (by decide), rfl⟩, (q_all_at e2_v ma ha)⟩
set_option maxRecDepth 100000 in
theorem e3_0l : cE_3 (aU 0 0 2147483647) = true := by decide +kernel
set_option maxRecDepth 100000 in
theorem e3_0h : cE_3 (aU 0 (2147483648 + 6) 4294967295) = true := by decide +kernel
set_option maxRecDepth 100000 in
theorem e3_v : q_all (fun a => cE_3 (aI a)) 6 = true := by decide +kernel
set_option maxRecDepth 20000 in
theorem op_3 (xa : Int32) : ∃ Aa : AV, (∀ (gv : Nat → Int32) (ad : List Nat), vR gv ad Aa (.int xa)) ∧ cE_3 Aa = true := by
  rcases i_box xa 6 (by decide) with ⟨ma, ha, rfl⟩ | ha | ha
  rotate_left
  · exact ⟨(aU 0 0 2147483647), fun gv ad => vU_low ha, e3_0l⟩
  · exact ⟨(aU 0 (2147483648 + 6) 4294967295), fun gv ad => vU_high ha, e3_0h⟩
  exact ⟨aI ma, fun gv ad => ⟨Nat.lt_of_lt_of_le ha (by decide), rfl⟩, (q_all_at e3_v ma ha)⟩
set_option maxRecDepth 100000 in
theorem e4_0l : cE_4 (aU 0 0 2147483647) (aU 0 0 4294967295) = true := by decide +kernel
set_option maxRecDepth 100000 in
theorem e4_0h : cE_4 (aU 0 (2147483648 + 6) 4294967295) (aU 0 0 4294967295) = true := by decide +kernel
set_option maxRecDepth 100000 in
theorem e4_1l : cE_4 (aU 0 2147483648 (2147483647 + 6)) (aU 0 0 2147483647) = true := by decide +kernel
set_option maxRecDepth 100000 in
theorem e4_1h : cE_4 (aU 0 2147483648 (2147483647 + 6)) (aU 0 (2147483648 + 2) 4294967295) = true := by decide +kernel
set_option maxRecDepth 100000 in
theorem e4_v : q_all (fun a => q_all (fun b => cE_4 (aI a) (aI b)) 2) 6 = true := by decide +kernel
set_option maxRecDepth 20000 in
theorem op_4 (xa xb : Int32) : ∃ Aa Ab : AV, (∀ (gv : Nat → Int32) (ad : List Nat), vR gv ad Aa (.int xa) ∧ vR gv ad Ab (.int xb)) ∧ cE_4 Aa Ab = true := by
  rcases i_box xa 6 (by decide) with ⟨ma, ha, rfl⟩ | ha | ha
  rotate_left
  · exact ⟨(aU 0 0 2147483647), (aU 0 0 4294967295), fun gv ad => ⟨vU_low ha, vU_any xb⟩, e4_0l⟩
  · exact ⟨(aU 0 (2147483648 + 6) 4294967295), (aU 0 0 4294967295), fun gv ad => ⟨vU_high ha, vU_any xb⟩, e4_0h⟩
  rcases i_box xb 2 (by decide) with ⟨mb, hb, rfl⟩ | hb | hb
  rotate_left
  · exact ⟨(aU 0 2147483648 (2147483647 + 6)), (aU 0 0 2147483647), fun gv ad => ⟨vU_in ha (by decide), vU_low hb⟩, e4_1l⟩
  · exact ⟨(aU 0 2147483648 (2147483647 + 6)), (aU 0 (2147483648 + 2) 4294967295), fun gv ad => ⟨vU_in ha (by decide), vU_high hb⟩, e4_1h⟩
  exact ⟨aI ma, aI mb, fun gv ad => ⟨⟨Nat.lt_of_lt_of_le ha (by decide), rfl⟩, ⟨Nat.lt_of_lt_of_le hb (by decide), rfl⟩⟩, (q_all_at (q_all_at e4_v ma ha) mb hb)⟩
set_option maxRecDepth 100000 in
theorem e6_0l : cE_6 (aU 0 0 2147483647) = true := by decide +kernel
set_option maxRecDepth 100000 in
theorem e6_0h : cE_6 (aU 0 (2147483648 + 6) 4294967295) = true := by decide +kernel
set_option maxRecDepth 100000 in
theorem e6_v : q_all (fun a => cE_6 (aI a)) 6 = true := by decide +kernel
set_option maxRecDepth 20000 in
theorem op_6 (xa : Int32) : ∃ Aa : AV, (∀ (gv : Nat → Int32) (ad : List Nat), vR gv ad Aa (.int xa)) ∧ cE_6 Aa = true := by
  rcases i_box xa 6 (by decide) with ⟨ma, ha, rfl⟩ | ha | ha
  rotate_left
  · exact ⟨(aU 0 0 2147483647), fun gv ad => vU_low ha, e6_0l⟩
  · exact ⟨(aU 0 (2147483648 + 6) 4294967295), fun gv ad => vU_high ha, e6_0h⟩
  exact ⟨aI ma, fun gv ad => ⟨Nat.lt_of_lt_of_le ha (by decide), rfl⟩, (q_all_at e6_v ma ha)⟩
set_option maxRecDepth 100000 in
theorem e7_0l : cE_7 (aU 0 0 2147483647) (aU 0 0 4294967295) = true := by decide +kernel
set_option maxRecDepth 100000 in
theorem e7_0h : cE_7 (aU 0 (2147483648 + 6) 4294967295) (aU 0 0 4294967295) = true := by decide +kernel
set_option maxRecDepth 100000 in
theorem e7_1l : cE_7 (aU 0 2147483648 (2147483647 + 6)) (aU 0 0 2147483647) = true := by decide +kernel
set_option maxRecDepth 100000 in
theorem e7_1h : cE_7 (aU 0 2147483648 (2147483647 + 6)) (aU 0 (2147483648 + 6) 4294967295) = true := by decide +kernel
set_option maxRecDepth 100000 in
theorem e7_v : q_all (fun a => q_all (fun b => cE_7 (aI a) (aI b)) 6) 6 = true := by decide +kernel
set_option maxRecDepth 20000 in
theorem op_7 (xa xb : Int32) : ∃ Aa Ab : AV, (∀ (gv : Nat → Int32) (ad : List Nat), vR gv ad Aa (.int xa) ∧ vR gv ad Ab (.int xb)) ∧ cE_7 Aa Ab = true := by
  rcases i_box xa 6 (by decide) with ⟨ma, ha, rfl⟩ | ha | ha
  rotate_left
  · exact ⟨(aU 0 0 2147483647), (aU 0 0 4294967295), fun gv ad => ⟨vU_low ha, vU_any xb⟩, e7_0l⟩
  · exact ⟨(aU 0 (2147483648 + 6) 4294967295), (aU 0 0 4294967295), fun gv ad => ⟨vU_high ha, vU_any xb⟩, e7_0h⟩
  rcases i_box xb 6 (by decide) with ⟨mb, hb, rfl⟩ | hb | hb
  rotate_left
  · exact ⟨(aU 0 2147483648 (2147483647 + 6)), (aU 0 0 2147483647), fun gv ad => ⟨vU_in ha (by decide), vU_low hb⟩, e7_1l⟩
  · exact ⟨(aU 0 2147483648 (2147483647 + 6)), (aU 0 (2147483648 + 6) 4294967295), fun gv ad => ⟨vU_in ha (by decide), vU_high hb⟩, e7_1h⟩
  exact ⟨aI ma, aI mb, fun gv ad => ⟨⟨Nat.lt_of_lt_of_le ha (by decide), rfl⟩, ⟨Nat.lt_of_lt_of_le hb (by decide), rfl⟩⟩, (q_all_at (q_all_at e7_v ma ha) mb hb)⟩
set_option maxRecDepth 100000 in
theorem e5_0l : cE_5 (aU 0 0 2147483647) (aU 0 0 4294967295) (aU 0 0 4294967295) = true := by decide +kernel
set_option maxRecDepth 100000 in
theorem e5_0h : cE_5 (aU 0 (2147483648 + 6) 4294967295) (aU 0 0 4294967295) (aU 0 0 4294967295) = true := by decide +kernel
set_option maxRecDepth 100000 in
theorem e5_2l : cE_5 (aU 0 2147483648 (2147483647 + 6)) (aU 0 0 4294967295) (aU 0 0 2147483647) = true := by decide +kernel
set_option maxRecDepth 100000 in
theorem e5_2h : cE_5 (aU 0 2147483648 (2147483647 + 6)) (aU 0 0 4294967295) (aU 0 (2147483648 + 2) 4294967295) = true := by decide +kernel
set_option maxRecDepth 100000 in
theorem e5_1l : q_all (fun c => cE_5 (aU 0 2147483648 (2147483647 + 6)) (aU 0 0 2147483647) (aI c)) 2 = true := by decide +kernel
set_option maxRecDepth 100000 in
theorem e5_1h : q_all (fun c => cE_5 (aU 0 2147483648 (2147483647 + 6)) (aU 0 (2147483648 + 16) 4294967295) (aI c)) 2 = true := by decide +kernel
set_option maxRecDepth 100000 in
theorem e5_v0 : q_all (fun b => q_all (fun c => cE_5 (aI 0) (aI b) (aI c)) 2) 16 = true := by decide +kernel
set_option maxRecDepth 100000 in
theorem e5_v1 : q_all (fun b => q_all (fun c => cE_5 (aI 1) (aI b) (aI c)) 2) 16 = true := by decide +kernel
set_option maxRecDepth 100000 in
theorem e5_v2 : q_all (fun b => q_all (fun c => cE_5 (aI 2) (aI b) (aI c)) 2) 16 = true := by decide +kernel
set_option maxRecDepth 100000 in
theorem e5_v3 : q_all (fun b => q_all (fun c => cE_5 (aI 3) (aI b) (aI c)) 2) 16 = true := by decide +kernel
set_option maxRecDepth 100000 in
theorem e5_v4 : q_all (fun b => q_all (fun c => cE_5 (aI 4) (aI b) (aI c)) 2) 16 = true := by decide +kernel
set_option maxRecDepth 100000 in
theorem e5_v5 : q_all (fun b => q_all (fun c => cE_5 (aI 5) (aI b) (aI c)) 2) 16 = true := by decide +kernel
set_option maxRecDepth 20000 in
theorem op_5 (xa xb xc : Int32) : ∃ Aa Ab Ac : AV, (∀ (gv : Nat → Int32) (ad : List Nat), vR gv ad Aa (.int xa) ∧ vR gv ad Ab (.int xb) ∧ vR gv ad Ac (.int xc)) ∧ cE_5 Aa Ab Ac = true := by
  rcases i_box xa 6 (by decide) with ⟨ma, ha, rfl⟩ | ha | ha
  rotate_left
  · exact ⟨(aU 0 0 2147483647), (aU 0 0 4294967295), (aU 0 0 4294967295), fun gv ad => ⟨vU_low ha, vU_any xb, vU_any xc⟩, e5_0l⟩
  · exact ⟨(aU 0 (2147483648 + 6) 4294967295), (aU 0 0 4294967295), (aU 0 0 4294967295), fun gv ad => ⟨vU_high ha, vU_any xb, vU_any xc⟩, e5_0h⟩
  rcases i_box xc 2 (by decide) with ⟨mc, hc, rfl⟩ | hc | hc
  rotate_left
  · exact ⟨(aU 0 2147483648 (2147483647 + 6)), (aU 0 0 4294967295), (aU 0 0 2147483647), fun gv ad => ⟨vU_in ha (by decide), vU_any xb, vU_low hc⟩, e5_2l⟩
  · exact ⟨(aU 0 2147483648 (2147483647 + 6)), (aU 0 0 4294967295), (aU 0 (2147483648 + 2) 4294967295), fun gv ad => ⟨vU_in ha (by decide), vU_any xb, vU_high hc⟩, e5_2h⟩
  rcases i_box xb 16 (by decide) with ⟨mb, hb, rfl⟩ | hb | hb
  rotate_left
  · exact ⟨(aU 0 2147483648 (2147483647 + 6)), (aU 0 0 2147483647), aI mc, fun gv ad => ⟨vU_in ha (by decide), vU_low hb, ⟨Nat.lt_of_lt_of_le hc (by decide), rfl⟩⟩, (q_all_at e5_1l mc hc)⟩
  · exact ⟨(aU 0 2147483648 (2147483647 + 6)), (aU 0 (2147483648 + 16) 4294967295), aI mc, fun gv ad => ⟨vU_in ha (by decide), vU_high hb, ⟨Nat.lt_of_lt_of_le hc (by decide), rfl⟩⟩, (q_all_at e5_1h mc hc)⟩
  match ma, ha with
  | 0, _ => exact ⟨aI 0, aI mb, aI mc, fun gv ad => ⟨⟨by decide, rfl⟩, ⟨Nat.lt_of_lt_of_le hb (by decide), rfl⟩, ⟨Nat.lt_of_lt_of_le hc (by decide), rfl⟩⟩, (q_all_at (q_all_at e5_v0 mb hb) mc hc)⟩
  | 1, _ => exact ⟨aI 1, aI mb, aI mc, fun gv ad => ⟨⟨by decide, rfl⟩, ⟨Nat.lt_of_lt_of_le hb (by decide), rfl⟩, ⟨Nat.lt_of_lt_of_le hc (by decide), rfl⟩⟩, (q_all_at (q_all_at e5_v1 mb hb) mc hc)⟩
  | 2, _ => exact ⟨aI 2, aI mb, aI mc, fun gv ad => ⟨⟨by decide, rfl⟩, ⟨Nat.lt_of_lt_of_le hb (by decide), rfl⟩, ⟨Nat.lt_of_lt_of_le hc (by decide), rfl⟩⟩, (q_all_at (q_all_at e5_v2 mb hb) mc hc)⟩
  | 3, _ => exact ⟨aI 3, aI mb, aI mc, fun gv ad => ⟨⟨by decide, rfl⟩, ⟨Nat.lt_of_lt_of_le hb (by decide), rfl⟩, ⟨Nat.lt_of_lt_of_le hc (by decide), rfl⟩⟩, (q_all_at (q_all_at e5_v3 mb hb) mc hc)⟩
  | 4, _ => exact ⟨aI 4, aI mb, aI mc, fun gv ad => ⟨⟨by decide, rfl⟩, ⟨Nat.lt_of_lt_of_le hb (by decide), rfl⟩, ⟨Nat.lt_of_lt_of_le hc (by decide), rfl⟩⟩, (q_all_at (q_all_at e5_v4 mb hb) mc hc)⟩
  | 5, _ => exact ⟨aI 5, aI mb, aI mc, fun gv ad => ⟨⟨by decide, rfl⟩, ⟨Nat.lt_of_lt_of_le hb (by decide), rfl⟩, ⟨Nat.lt_of_lt_of_le hc (by decide), rfl⟩⟩, (q_all_at (q_all_at e5_v5 mb hb) mc hc)⟩
  | n + 6, h => exact absurd h (by omega)
