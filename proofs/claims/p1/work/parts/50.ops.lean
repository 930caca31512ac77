/-! ===== up ===== -/
set_option maxRecDepth 100000 in
theorem e10_0l : (q_1 4294967295 105 Z_X (cX_10 k_HX (aU 0 0 2147483641) (aU 0 0 4294967295) (aU 0 0 4294967295)) && q_1 4294967295 35 Z_M (cM_10 k_HM (aU 0 0 2147483641) (aU 0 0 4294967295) (aU 0 0 4294967295))) = true := by decide +kernel
set_option maxRecDepth 100000 in
theorem e10_0h : (q_1 4294967295 105 Z_X (cX_10 k_HX (aU 0 2147483655 4294967295) (aU 0 0 4294967295) (aU 0 0 4294967295)) && q_1 4294967295 35 Z_M (cM_10 k_HM (aU 0 2147483655 4294967295) (aU 0 0 4294967295) (aU 0 0 4294967295))) = true := by decide +kernel
set_option maxRecDepth 100000 in
theorem e10_2l : q_all (fun a => (q_1 4294967295 105 Z_X (cX_10 k_HX (aI (a_ofs 6 a)) (aU 0 0 4294967295) (aU 0 0 2147483647)) && q_1 4294967295 35 Z_M (cM_10 k_HM (aI (a_ofs 6 a)) (aU 0 0 4294967295) (aU 0 0 2147483647)))) 13 = true := by decide +kernel
set_option maxRecDepth 100000 in
theorem e10_2h : q_all (fun a => (q_1 4294967295 105 Z_X (cX_10 k_HX (aI (a_ofs 6 a)) (aU 0 0 4294967295) (aU 0 2147483658 4294967295)) && q_1 4294967295 35 Z_M (cM_10 k_HM (aI (a_ofs 6 a)) (aU 0 0 4294967295) (aU 0 2147483658 4294967295)))) 13 = true := by decide +kernel
def T10 : List Nat := [8, 8, 7, 7, 6, 6, 5, 5, 4, 4, 3, 3, 1, 2, 3, 3, 4, 4, 5, 5, 6, 6, 7, 7, 8, 8]
set_option maxRecDepth 100000 in
theorem e10_X_0_0 : (fun a b => q_1 (k_l T10 (a * 2 + b)) 105 Z_X (cX_10 (k_HXs [21]) (aI (a_ofs 6 a)) (aI b) (aU (0 + 1) 2147483648 (2147483647 + 10)))) 0 0 = true := by decide +kernel
set_option maxRecDepth 100000 in
theorem e10_X_0_1 : (fun a b => q_1 (k_l T10 (a * 2 + b)) 105 Z_X (cX_10 (k_HXs [21]) (aI (a_ofs 6 a)) (aI b) (aU (0 + 1) 2147483648 (2147483647 + 10)))) 0 1 = true := by decide +kernel
set_option maxRecDepth 100000 in
theorem e10_X_1_0 : (fun a b => q_1 (k_l T10 (a * 2 + b)) 105 Z_X (cX_10 (k_HXs [21]) (aI (a_ofs 6 a)) (aI b) (aU (0 + 1) 2147483648 (2147483647 + 10)))) 1 0 = true := by decide +kernel
set_option maxRecDepth 100000 in
theorem e10_X_1_1 : (fun a b => q_1 (k_l T10 (a * 2 + b)) 105 Z_X (cX_10 (k_HXs [21]) (aI (a_ofs 6 a)) (aI b) (aU (0 + 1) 2147483648 (2147483647 + 10)))) 1 1 = true := by decide +kernel
set_option maxRecDepth 100000 in
theorem e10_X_2_0 : (fun a b => q_1 (k_l T10 (a * 2 + b)) 105 Z_X (cX_10 (k_HXs [21]) (aI (a_ofs 6 a)) (aI b) (aU (0 + 1) 2147483648 (2147483647 + 10)))) 2 0 = true := by decide +kernel
set_option maxRecDepth 100000 in
theorem e10_X_2_1 : (fun a b => q_1 (k_l T10 (a * 2 + b)) 105 Z_X (cX_10 (k_HXs [21]) (aI (a_ofs 6 a)) (aI b) (aU (0 + 1) 2147483648 (2147483647 + 10)))) 2 1 = true := by decide +kernel
set_option maxRecDepth 100000 in
theorem e10_X_3_0 : (fun a b => q_1 (k_l T10 (a * 2 + b)) 105 Z_X (cX_10 (k_HXs [21]) (aI (a_ofs 6 a)) (aI b) (aU (0 + 1) 2147483648 (2147483647 + 10)))) 3 0 = true := by decide +kernel
set_option maxRecDepth 100000 in
theorem e10_X_3_1 : (fun a b => q_1 (k_l T10 (a * 2 + b)) 105 Z_X (cX_10 (k_HXs [21]) (aI (a_ofs 6 a)) (aI b) (aU (0 + 1) 2147483648 (2147483647 + 10)))) 3 1 = true := by decide +kernel
set_option maxRecDepth 100000 in
theorem e10_X_4_0 : (fun a b => q_1 (k_l T10 (a * 2 + b)) 105 Z_X (cX_10 (k_HXs [21]) (aI (a_ofs 6 a)) (aI b) (aU (0 + 1) 2147483648 (2147483647 + 10)))) 4 0 = true := by decide +kernel
set_option maxRecDepth 100000 in
theorem e10_X_4_1 : (fun a b => q_1 (k_l T10 (a * 2 + b)) 105 Z_X (cX_10 (k_HXs [21]) (aI (a_ofs 6 a)) (aI b) (aU (0 + 1) 2147483648 (2147483647 + 10)))) 4 1 = true := by decide +kernel
set_option maxRecDepth 100000 in
theorem e10_X_5_0 : (fun a b => q_1 (k_l T10 (a * 2 + b)) 105 Z_X (cX_10 (k_HXs [21]) (aI (a_ofs 6 a)) (aI b) (aU (0 + 1) 2147483648 (2147483647 + 10)))) 5 0 = true := by decide +kernel
set_option maxRecDepth 100000 in
theorem e10_X_5_1 : (fun a b => q_1 (k_l T10 (a * 2 + b)) 105 Z_X (cX_10 (k_HXs [21]) (aI (a_ofs 6 a)) (aI b) (aU (0 + 1) 2147483648 (2147483647 + 10)))) 5 1 = true := by decide +kernel
set_option maxRecDepth 100000 in
theorem e10_X_6_0 : (fun a b => q_1 (k_l T10 (a * 2 + b)) 105 Z_X (cX_10 (k_HXs [21]) (aI (a_ofs 6 a)) (aI b) (aU (0 + 1) 2147483648 (2147483647 + 10)))) 6 0 = true := by decide +kernel
set_option maxRecDepth 100000 in
theorem e10_X_6_1 : (fun a b => q_1 (k_l T10 (a * 2 + b)) 105 Z_X (cX_10 (k_HXs [21]) (aI (a_ofs 6 a)) (aI b) (aU (0 + 1) 2147483648 (2147483647 + 10)))) 6 1 = true := by decide +kernel
set_option maxRecDepth 100000 in
theorem e10_X_7_0 : (fun a b => q_1 (k_l T10 (a * 2 + b)) 105 Z_X (cX_10 (k_HXs [21]) (aI (a_ofs 6 a)) (aI b) (aU (0 + 1) 2147483648 (2147483647 + 10)))) 7 0 = true := by decide +kernel
set_option maxRecDepth 100000 in
theorem e10_X_7_1 : (fun a b => q_1 (k_l T10 (a * 2 + b)) 105 Z_X (cX_10 (k_HXs [21]) (aI (a_ofs 6 a)) (aI b) (aU (0 + 1) 2147483648 (2147483647 + 10)))) 7 1 = true := by decide +kernel
set_option maxRecDepth 100000 in
theorem e10_X_8_0 : (fun a b => q_1 (k_l T10 (a * 2 + b)) 105 Z_X (cX_10 (k_HXs [21]) (aI (a_ofs 6 a)) (aI b) (aU (0 + 1) 2147483648 (2147483647 + 10)))) 8 0 = true := by decide +kernel
set_option maxRecDepth 100000 in
theorem e10_X_8_1 : (fun a b => q_1 (k_l T10 (a * 2 + b)) 105 Z_X (cX_10 (k_HXs [21]) (aI (a_ofs 6 a)) (aI b) (aU (0 + 1) 2147483648 (2147483647 + 10)))) 8 1 = true := by decide +kernel
set_option maxRecDepth 100000 in
theorem e10_X_9_0 : (fun a b => q_1 (k_l T10 (a * 2 + b)) 105 Z_X (cX_10 (k_HXs [21]) (aI (a_ofs 6 a)) (aI b) (aU (0 + 1) 2147483648 (2147483647 + 10)))) 9 0 = true := by decide +kernel
set_option maxRecDepth 100000 in
theorem e10_X_9_1 : (fun a b => q_1 (k_l T10 (a * 2 + b)) 105 Z_X (cX_10 (k_HXs [21]) (aI (a_ofs 6 a)) (aI b) (aU (0 + 1) 2147483648 (2147483647 + 10)))) 9 1 = true := by decide +kernel
set_option maxRecDepth 100000 in
theorem e10_X_10_0 : (fun a b => q_1 (k_l T10 (a * 2 + b)) 105 Z_X (cX_10 (k_HXs [21]) (aI (a_ofs 6 a)) (aI b) (aU (0 + 1) 2147483648 (2147483647 + 10)))) 10 0 = true := by decide +kernel
set_option maxRecDepth 100000 in
theorem e10_X_10_1 : (fun a b => q_1 (k_l T10 (a * 2 + b)) 105 Z_X (cX_10 (k_HXs [21]) (aI (a_ofs 6 a)) (aI b) (aU (0 + 1) 2147483648 (2147483647 + 10)))) 10 1 = true := by decide +kernel
set_option maxRecDepth 100000 in
theorem e10_X_11_0 : (fun a b => q_1 (k_l T10 (a * 2 + b)) 105 Z_X (cX_10 (k_HXs [21]) (aI (a_ofs 6 a)) (aI b) (aU (0 + 1) 2147483648 (2147483647 + 10)))) 11 0 = true := by decide +kernel
set_option maxRecDepth 100000 in
theorem e10_X_11_1 : (fun a b => q_1 (k_l T10 (a * 2 + b)) 105 Z_X (cX_10 (k_HXs [21]) (aI (a_ofs 6 a)) (aI b) (aU (0 + 1) 2147483648 (2147483647 + 10)))) 11 1 = true := by decide +kernel
set_option maxRecDepth 100000 in
theorem e10_X_12_0 : (fun a b => q_1 (k_l T10 (a * 2 + b)) 105 Z_X (cX_10 (k_HXs [21]) (aI (a_ofs 6 a)) (aI b) (aU (0 + 1) 2147483648 (2147483647 + 10)))) 12 0 = true := by decide +kernel
set_option maxRecDepth 100000 in
theorem e10_X_12_1 : (fun a b => q_1 (k_l T10 (a * 2 + b)) 105 Z_X (cX_10 (k_HXs [21]) (aI (a_ofs 6 a)) (aI b) (aU (0 + 1) 2147483648 (2147483647 + 10)))) 12 1 = true := by decide +kernel
theorem e10_X_0 : (fun a => ∀ b : Nat, b < 2 → q_1 (k_l T10 (a * 2 + b)) 105 Z_X (cX_10 (k_HXs [21]) (aI (a_ofs 6 a)) (aI b) (aU (0 + 1) 2147483648 (2147483647 + 10))) = true) 0 := by
  intro b h
  match b, h with
  | 0, _ => exact e10_X_0_0
  | 1, _ => exact e10_X_0_1
  | n + 2, h => exact absurd h (by omega)
theorem e10_X_1 : (fun a => ∀ b : Nat, b < 2 → q_1 (k_l T10 (a * 2 + b)) 105 Z_X (cX_10 (k_HXs [21]) (aI (a_ofs 6 a)) (aI b) (aU (0 + 1) 2147483648 (2147483647 + 10))) = true) 1 := by
  intro b h
  match b, h with
  | 0, _ => exact e10_X_1_0
  | 1, _ => exact e10_X_1_1
  | n + 2, h => exact absurd h (by omega)
theorem e10_X_2 : (fun a => ∀ b : Nat, b < 2 → q_1 (k_l T10 (a * 2 + b)) 105 Z_X (cX_10 (k_HXs [21]) (aI (a_ofs 6 a)) (aI b) (aU (0 + 1) 2147483648 (2147483647 + 10))) = true) 2 := by
  intro b h
  match b, h with
  | 0, _ => exact e10_X_2_0
  | 1, _ => exact e10_X_2_1
  | n + 2, h => exact absurd h (by omega)
theorem e10_X_3 : (fun a => ∀ b : Nat, b < 2 → q_1 (k_l T10 (a * 2 + b)) 105 Z_X (cX_10 (k_HXs [21]) (aI (a_ofs 6 a)) (aI b) (aU (0 + 1) 2147483648 (2147483647 + 10))) = true) 3 := by
  intro b h
  match b, h with
  | 0, _ => exact e10_X_3_0
  | 1, _ => exact e10_X_3_1
  | n + 2, h => exact absurd h (by omega)
theorem e10_X_4 : (fun a => ∀ b : Nat, b < 2 → q_1 (k_l T10 (a * 2 + b)) 105 Z_X (cX_10 (k_HXs [21]) (aI (a_ofs 6 a)) (aI b) (aU (0 + 1) 2147483648 (2147483647 + 10))) = true) 4 := by
  intro b h
  match b, h with
  | 0, _ => exact e10_X_4_0
  | 1, _ => exact e10_X_4_1
  | n + 2, h => exact absurd h (by omega)
theorem e10_X_5 : (fun a => ∀ b : Nat, b < 2 → q_1 (k_l T10 (a * 2 + b)) 105 Z_X (cX_10 (k_HXs [21]) (aI (a_ofs 6 a)) (aI b) (aU (0 + 1) 2147483648 (2147483647 + 10))) = true) 5 := by
  intro b h
  match b, h with
  | 0, _ => exact e10_X_5_0
  | 1, _ => exact e10_X_5_1
  | n + 2, h => exact absurd h (by omega)
theorem e10_X_6 : (fun a => ∀ b : Nat, b < 2 → q_1 (k_l T10 (a * 2 + b)) 105 Z_X (cX_10 (k_HXs [21]) (aI (a_ofs 6 a)) (aI b) (aU (0 + 1) 2147483648 (2147483647 + 10))) = true) 6 := by
  intro b h
  match b, h with
  | 0, _ => exact e10_X_6_0
  | 1, _ => exact e10_X_6_1
  | n + 2, h => exact absurd h (by omega)
theorem e10_X_7 : (fun a => ∀ b : Nat, b < 2 → q_1 (k_l T10 (a * 2 + b)) 105 Z_X (cX_10 (k_HXs [21]) (aI (a_ofs 6 a)) (aI b) (aU (0 + 1) 2147483648 (2147483647 + 10))) = true) 7 := by
  intro b h
  match b, h with
  | 0, _ => exact e10_X_7_0
  | 1, _ => exact e10_X_7_1
  | n + 2, h => exact absurd h (by omega)
theorem e10_X_8 : (fun a => ∀ b : Nat, b < 2 → q_1 (k_l T10 (a * 2 + b)) 105 Z_X (cX_10 (k_HXs [21]) (aI (a_ofs 6 a)) (aI b) (aU (0 + 1) 2147483648 (2147483647 + 10))) = true) 8 := by
  intro b h
  match b, h with
  | 0, _ => exact e10_X_8_0
  | 1, _ => exact e10_X_8_1
  | n + 2, h => exact absurd h (by omega)
theorem e10_X_9 : (fun a => ∀ b : Nat, b < 2 → q_1 (k_l T10 (a * 2 + b)) 105 Z_X (cX_10 (k_HXs [21]) (aI (a_ofs 6 a)) (aI b) (aU (0 + 1) 2147483648 (2147483647 + 10))) = true) 9 := by
  intro b h
  match b, h with
  | 0, _ => exact e10_X_9_0
  | 1, _ => exact e10_X_9_1
  | n + 2, h => exact absurd h (by omega)
theorem e10_X_10 : (fun a => ∀ b : Nat, b < 2 → q_1 (k_l T10 (a * 2 + b)) 105 Z_X (cX_10 (k_HXs [21]) (aI (a_ofs 6 a)) (aI b) (aU (0 + 1) 2147483648 (2147483647 + 10))) = true) 10 := by
  intro b h
  match b, h with
  | 0, _ => exact e10_X_10_0
  | 1, _ => exact e10_X_10_1
  | n + 2, h => exact absurd h (by omega)
theorem e10_X_11 : (fun a => ∀ b : Nat, b < 2 → q_1 (k_l T10 (a * 2 + b)) 105 Z_X (cX_10 (k_HXs [21]) (aI (a_ofs 6 a)) (aI b) (aU (0 + 1) 2147483648 (2147483647 + 10))) = true) 11 := by
  intro b h
  match b, h with
  | 0, _ => exact e10_X_11_0
  | 1, _ => exact e10_X_11_1
  | n + 2, h => exact absurd h (by omega)
theorem e10_X_12 : (fun a => ∀ b : Nat, b < 2 → q_1 (k_l T10 (a * 2 + b)) 105 Z_X (cX_10 (k_HXs [21]) (aI (a_ofs 6 a)) (aI b) (aU (0 + 1) 2147483648 (2147483647 + 10))) = true) 12 := by
  intro b h
  match b, h with
  | 0, _ => exact e10_X_12_0
  | 1, _ => exact e10_X_12_1
  | n + 2, h => exact absurd h (by omega)
theorem e10_X : ∀ a : Nat, a < 13 → ∀ b : Nat, b < 2 → q_1 (k_l T10 (a * 2 + b)) 105 Z_X (cX_10 (k_HXs [21]) (aI (a_ofs 6 a)) (aI b) (aU (0 + 1) 2147483648 (2147483647 + 10))) = true := by
  intro a h
  match a, h with
  | 0, _ => exact e10_X_0
  | 1, _ => exact e10_X_1
  | 2, _ => exact e10_X_2
  | 3, _ => exact e10_X_3
  | 4, _ => exact e10_X_4
  | 5, _ => exact e10_X_5
  | 6, _ => exact e10_X_6
  | 7, _ => exact e10_X_7
  | 8, _ => exact e10_X_8
  | 9, _ => exact e10_X_9
  | 10, _ => exact e10_X_10
  | 11, _ => exact e10_X_11
  | 12, _ => exact e10_X_12
  | n + 13, h => exact absurd h (by omega)
set_option maxRecDepth 100000 in
theorem e10_M_0_0 : (fun a b => q_1 (k_l T10 (a * 2 + b)) 35 Z_M (cM_10 k_HM (aI (a_ofs 6 a)) (aI b) (aU 0 2147483648 2147483657))) 0 0 = true := by decide +kernel
set_option maxRecDepth 100000 in
theorem e10_M_0_1 : (fun a b => q_1 (k_l T10 (a * 2 + b)) 35 Z_M (cM_10 k_HM (aI (a_ofs 6 a)) (aI b) (aU 0 2147483648 2147483657))) 0 1 = true := by decide +kernel
set_option maxRecDepth 100000 in
theorem e10_M_1_0 : (fun a b => q_1 (k_l T10 (a * 2 + b)) 35 Z_M (cM_10 k_HM (aI (a_ofs 6 a)) (aI b) (aU 0 2147483648 2147483657))) 1 0 = true := by decide +kernel
set_option maxRecDepth 100000 in
theorem e10_M_1_1 : (fun a b => q_1 (k_l T10 (a * 2 + b)) 35 Z_M (cM_10 k_HM (aI (a_ofs 6 a)) (aI b) (aU 0 2147483648 2147483657))) 1 1 = true := by decide +kernel
set_option maxRecDepth 100000 in
theorem e10_M_2_0 : (fun a b => q_1 (k_l T10 (a * 2 + b)) 35 Z_M (cM_10 k_HM (aI (a_ofs 6 a)) (aI b) (aU 0 2147483648 2147483657))) 2 0 = true := by decide +kernel
set_option maxRecDepth 100000 in
theorem e10_M_2_1 : (fun a b => q_1 (k_l T10 (a * 2 + b)) 35 Z_M (cM_10 k_HM (aI (a_ofs 6 a)) (aI b) (aU 0 2147483648 2147483657))) 2 1 = true := by decide +kernel
set_option maxRecDepth 100000 in
theorem e10_M_3_0 : (fun a b => q_1 (k_l T10 (a * 2 + b)) 35 Z_M (cM_10 k_HM (aI (a_ofs 6 a)) (aI b) (aU 0 2147483648 2147483657))) 3 0 = true := by decide +kernel
set_option maxRecDepth 100000 in
theorem e10_M_3_1 : (fun a b => q_1 (k_l T10 (a * 2 + b)) 35 Z_M (cM_10 k_HM (aI (a_ofs 6 a)) (aI b) (aU 0 2147483648 2147483657))) 3 1 = true := by decide +kernel
set_option maxRecDepth 100000 in
theorem e10_M_4_0 : (fun a b => q_1 (k_l T10 (a * 2 + b)) 35 Z_M (cM_10 k_HM (aI (a_ofs 6 a)) (aI b) (aU 0 2147483648 2147483657))) 4 0 = true := by decide +kernel
set_option maxRecDepth 100000 in
theorem e10_M_4_1 : (fun a b => q_1 (k_l T10 (a * 2 + b)) 35 Z_M (cM_10 k_HM (aI (a_ofs 6 a)) (aI b) (aU 0 2147483648 2147483657))) 4 1 = true := by decide +kernel
set_option maxRecDepth 100000 in
theorem e10_M_5_0 : (fun a b => q_1 (k_l T10 (a * 2 + b)) 35 Z_M (cM_10 k_HM (aI (a_ofs 6 a)) (aI b) (aU 0 2147483648 2147483657))) 5 0 = true := by decide +kernel
set_option maxRecDepth 100000 in
theorem e10_M_5_1 : (fun a b => q_1 (k_l T10 (a * 2 + b)) 35 Z_M (cM_10 k_HM (aI (a_ofs 6 a)) (aI b) (aU 0 2147483648 2147483657))) 5 1 = true := by decide +kernel
set_option maxRecDepth 100000 in
theorem e10_M_6_0 : (fun a b => q_1 (k_l T10 (a * 2 + b)) 35 Z_M (cM_10 k_HM (aI (a_ofs 6 a)) (aI b) (aU 0 2147483648 2147483657))) 6 0 = true := by decide +kernel
set_option maxRecDepth 100000 in
theorem e10_M_6_1 : (fun a b => q_1 (k_l T10 (a * 2 + b)) 35 Z_M (cM_10 k_HM (aI (a_ofs 6 a)) (aI b) (aU 0 2147483648 2147483657))) 6 1 = true := by decide +kernel
set_option maxRecDepth 100000 in
theorem e10_M_7_0 : (fun a b => q_1 (k_l T10 (a * 2 + b)) 35 Z_M (cM_10 k_HM (aI (a_ofs 6 a)) (aI b) (aU 0 2147483648 2147483657))) 7 0 = true := by decide +kernel
set_option maxRecDepth 100000 in
theorem e10_M_7_1 : (fun a b => q_1 (k_l T10 (a * 2 + b)) 35 Z_M (cM_10 k_HM (aI (a_ofs 6 a)) (aI b) (aU 0 2147483648 2147483657))) 7 1 = true := by decide +kernel
set_option maxRecDepth 100000 in
theorem e10_M_8_0 : (fun a b => q_1 (k_l T10 (a * 2 + b)) 35 Z_M (cM_10 k_HM (aI (a_ofs 6 a)) (aI b) (aU 0 2147483648 2147483657))) 8 0 = true := by decide +kernel
set_option maxRecDepth 100000 in
theorem e10_M_8_1 : (fun a b => q_1 (k_l T10 (a * 2 + b)) 35 Z_M (cM_10 k_HM (aI (a_ofs 6 a)) (aI b) (aU 0 2147483648 2147483657))) 8 1 = true := by decide +kernel
set_option maxRecDepth 100000 in
theorem e10_M_9_0 : (fun a b => q_1 (k_l T10 (a * 2 + b)) 35 Z_M (cM_10 k_HM (aI (a_ofs 6 a)) (aI b) (aU 0 2147483648 2147483657))) 9 0 = true := by decide +kernel
set_option maxRecDepth 100000 in
theorem e10_M_9_1 : (fun a b => q_1 (k_l T10 (a * 2 + b)) 35 Z_M (cM_10 k_HM (aI (a_ofs 6 a)) (aI b) (aU 0 2147483648 2147483657))) 9 1 = true := by decide +kernel
set_option maxRecDepth 100000 in
theorem e10_M_10_0 : (fun a b => q_1 (k_l T10 (a * 2 + b)) 35 Z_M (cM_10 k_HM (aI (a_ofs 6 a)) (aI b) (aU 0 2147483648 2147483657))) 10 0 = true := by decide +kernel
set_option maxRecDepth 100000 in
theorem e10_M_10_1 : (fun a b => q_1 (k_l T10 (a * 2 + b)) 35 Z_M (cM_10 k_HM (aI (a_ofs 6 a)) (aI b) (aU 0 2147483648 2147483657))) 10 1 = true := by decide +kernel
set_option maxRecDepth 100000 in
theorem e10_M_11_0 : (fun a b => q_1 (k_l T10 (a * 2 + b)) 35 Z_M (cM_10 k_HM (aI (a_ofs 6 a)) (aI b) (aU 0 2147483648 2147483657))) 11 0 = true := by decide +kernel
set_option maxRecDepth 100000 in
theorem e10_M_11_1 : (fun a b => q_1 (k_l T10 (a * 2 + b)) 35 Z_M (cM_10 k_HM (aI (a_ofs 6 a)) (aI b) (aU 0 2147483648 2147483657))) 11 1 = true := by decide +kernel
set_option maxRecDepth 100000 in
theorem e10_M_12_0 : (fun a b => q_1 (k_l T10 (a * 2 + b)) 35 Z_M (cM_10 k_HM (aI (a_ofs 6 a)) (aI b) (aU 0 2147483648 2147483657))) 12 0 = true := by decide +kernel
set_option maxRecDepth 100000 in
theorem e10_M_12_1 : (fun a b => q_1 (k_l T10 (a * 2 + b)) 35 Z_M (cM_10 k_HM (aI (a_ofs 6 a)) (aI b) (aU 0 2147483648 2147483657))) 12 1 = true := by decide +kernel
theorem e10_M_0 : (fun a => ∀ b : Nat, b < 2 → q_1 (k_l T10 (a * 2 + b)) 35 Z_M (cM_10 k_HM (aI (a_ofs 6 a)) (aI b) (aU 0 2147483648 2147483657)) = true) 0 := by
  intro b h
  match b, h with
  | 0, _ => exact e10_M_0_0
  | 1, _ => exact e10_M_0_1
  | n + 2, h => exact absurd h (by omega)
theorem e10_M_1 : (fun a => ∀ b : Nat, b < 2 → q_1 (k_l T10 (a * 2 + b)) 35 Z_M (cM_10 k_HM (aI (a_ofs 6 a)) (aI b) (aU 0 2147483648 2147483657)) = true) 1 := by
  intro b h
  match b, h with
  | 0, _ => exact e10_M_1_0
  | 1, _ => exact e10_M_1_1
  | n + 2, h => exact absurd h (by omega)
theorem e10_M_2 : (fun a => ∀ b : Nat, b < 2 → q_1 (k_l T10 (a * 2 + b)) 35 Z_M (cM_10 k_HM (aI (a_ofs 6 a)) (aI b) (aU 0 2147483648 2147483657)) = true) 2 := by
  intro b h
  match b, h with
  | 0, _ => exact e10_M_2_0
  | 1, _ => exact e10_M_2_1
  | n + 2, h => exact absurd h (by omega)
theorem e10_M_3 : (fun a => ∀ b : Nat, b < 2 → q_1 (k_l T10 (a * 2 + b)) 35 Z_M (cM_10 k_HM (aI (a_ofs 6 a)) (aI b) (aU 0 2147483648 2147483657)) = true) 3 := by
  intro b h
  match b, h with
  | 0, _ => exact e10_M_3_0
  | 1, _ => exact e10_M_3_1
  | n + 2, h => exact absurd h (by omega)
theorem e10_M_4 : (fun a => ∀ b : Nat, b < 2 → q_1 (k_l T10 (a * 2 + b)) 35 Z_M (cM_10 k_HM (aI (a_ofs 6 a)) (aI b) (aU 0 2147483648 2147483657)) = true) 4 := by
  intro b h
  match b, h with
  | 0, _ => exact e10_M_4_0
  | 1, _ => exact e10_M_4_1
  | n + 2, h => exact absurd h (by omega)
theorem e10_M_5 : (fun a => ∀ b : Nat, b < 2 → q_1 (k_l T10 (a * 2 + b)) 35 Z_M (cM_10 k_HM (aI (a_ofs 6 a)) (aI b) (aU 0 2147483648 2147483657)) = true) 5 := by
  intro b h
  match b, h with
  | 0, _ => exact e10_M_5_0
  | 1, _ => exact e10_M_5_1
  | n + 2, h => exact absurd h (by omega)
theorem e10_M_6 : (fun a => ∀ b : Nat, b < 2 → q_1 (k_l T10 (a * 2 + b)) 35 Z_M (cM_10 k_HM (aI (a_ofs 6 a)) (aI b) (aU 0 2147483648 2147483657)) = true) 6 := by
  intro b h
  match b, h with
  | 0, _ => exact e10_M_6_0
  | 1, _ => exact e10_M_6_1
  | n + 2, h => exact absurd h (by omega)
theorem e10_M_7 : (fun a => ∀ b : Nat, b < 2 → q_1 (k_l T10 (a * 2 + b)) 35 Z_M (cM_10 k_HM (aI (a_ofs 6 a)) (aI b) (aU 0 2147483648 2147483657)) = true) 7 := by
  intro b h
  match b, h with
  | 0, _ => exact e10_M_7_0
  | 1, _ => exact e10_M_7_1
  | n + 2, h => exact absurd h (by omega)
theorem e10_M_8 : (fun a => ∀ b : Nat, b < 2 → q_1 (k_l T10 (a * 2 + b)) 35 Z_M (cM_10 k_HM (aI (a_ofs 6 a)) (aI b) (aU 0 2147483648 2147483657)) = true) 8 := by
  intro b h
  match b, h with
  | 0, _ => exact e10_M_8_0
  | 1, _ => exact e10_M_8_1
  | n + 2, h => exact absurd h (by omega)
theorem e10_M_9 : (fun a => ∀ b : Nat, b < 2 → q_1 (k_l T10 (a * 2 + b)) 35 Z_M (cM_10 k_HM (aI (a_ofs 6 a)) (aI b) (aU 0 2147483648 2147483657)) = true) 9 := by
  intro b h
  match b, h with
  | 0, _ => exact e10_M_9_0
  | 1, _ => exact e10_M_9_1
  | n + 2, h => exact absurd h (by omega)
theorem e10_M_10 : (fun a => ∀ b : Nat, b < 2 → q_1 (k_l T10 (a * 2 + b)) 35 Z_M (cM_10 k_HM (aI (a_ofs 6 a)) (aI b) (aU 0 2147483648 2147483657)) = true) 10 := by
  intro b h
  match b, h with
  | 0, _ => exact e10_M_10_0
  | 1, _ => exact e10_M_10_1
  | n + 2, h => exact absurd h (by omega)
theorem e10_M_11 : (fun a => ∀ b : Nat, b < 2 → q_1 (k_l T10 (a * 2 + b)) 35 Z_M (cM_10 k_HM (aI (a_ofs 6 a)) (aI b) (aU 0 2147483648 2147483657)) = true) 11 := by
  intro b h
  match b, h with
  | 0, _ => exact e10_M_11_0
  | 1, _ => exact e10_M_11_1
  | n + 2, h => exact absurd h (by omega)
theorem e10_M_12 : (fun a => ∀ b : Nat, b < 2 → q_1 (k_l T10 (a * 2 + b)) 35 Z_M (cM_10 k_HM (aI (a_ofs 6 a)) (aI b) (aU 0 2147483648 2147483657)) = true) 12 := by
  intro b h
  match b, h with
  | 0, _ => exact e10_M_12_0
  | 1, _ => exact e10_M_12_1
  | n + 2, h => exact absurd h (by omega)
theorem e10_M : ∀ a : Nat, a < 13 → ∀ b : Nat, b < 2 → q_1 (k_l T10 (a * 2 + b)) 35 Z_M (cM_10 k_HM (aI (a_ofs 6 a)) (aI b) (aU 0 2147483648 2147483657)) = true := by
  intro a h
  match a, h with
  | 0, _ => exact e10_M_0
  | 1, _ => exact e10_M_1
  | 2, _ => exact e10_M_2
  | 3, _ => exact e10_M_3
  | 4, _ => exact e10_M_4
  | 5, _ => exact e10_M_5
  | 6, _ => exact e10_M_6
  | 7, _ => exact e10_M_7
  | 8, _ => exact e10_M_8
  | 9, _ => exact e10_M_9
  | 10, _ => exact e10_M_10
  | 11, _ => exact e10_M_11
  | 12, _ => exact e10_M_12
  | n + 13, h => exact absurd h (by omega)
set_option maxRecDepth 20000 in
theorem op_10 (xa xc : Int32) (mb : Nat) (hb : mb < 2) : OP_10 [xa, a_i32 mb, xc] := by
  rcases i_boxS xa 6 13 (by decide) (by decide) with ⟨ma, ha, rfl⟩ | ha | ha
  rotate_left
  · exact ⟨fun _ => 0, 4294967295, SideX_of [(aU 0 0 2147483641), (aU 0 0 4294967295), (aU 0 0 4294967295)] (sb_117_0 (run_sound 1000000)) (TrX_id _) (fun ad => ⟨vU_bd (Nat.zero_le _) ha, vU_any _, vU_any _, trivial⟩) (and_t e10_0l).1, SideM_of [(aU 0 0 2147483641), (aU 0 0 4294967295), (aU 0 0 4294967295)] (sb_173_0 (run_sound 1000000)) (fun ad => ⟨vU_bd (Nat.zero_le _) ha, vU_any _, vU_any _, trivial⟩) (and_t e10_0l).2⟩
  · exact ⟨fun _ => 0, 4294967295, SideX_of [(aU 0 2147483655 4294967295), (aU 0 0 4294967295), (aU 0 0 4294967295)] (sb_117_0 (run_sound 1000000)) (TrX_id _) (fun ad => ⟨vU_bd ha (a_bs_max _), vU_any _, vU_any _, trivial⟩) (and_t e10_0h).1, SideM_of [(aU 0 2147483655 4294967295), (aU 0 0 4294967295), (aU 0 0 4294967295)] (sb_173_0 (run_sound 1000000)) (fun ad => ⟨vU_bd ha (a_bs_max _), vU_any _, vU_any _, trivial⟩) (and_t e10_0h).2⟩
  rcases i_box xc 10 (by decide) with ⟨mc, hc, rfl⟩ | hc | hc
  rotate_left
  · exact ⟨fun _ => 0, 4294967295, SideX_of [(aI (a_ofs 6 ma)), (aU 0 0 4294967295), (aU 0 0 2147483647)] (sb_117_0 (run_sound 1000000)) (TrX_id _) (fun ad => ⟨vI_ofs (n := 13) (by decide) ha (by decide), vU_any _, vU_bd (Nat.zero_le _) hc, trivial⟩) (and_t (q_all_at e10_2l ma ha)).1, SideM_of [(aI (a_ofs 6 ma)), (aU 0 0 4294967295), (aU 0 0 2147483647)] (sb_173_0 (run_sound 1000000)) (fun ad => ⟨vI_ofs (n := 13) (by decide) ha (by decide), vU_any _, vU_bd (Nat.zero_le _) hc, trivial⟩) (and_t (q_all_at e10_2l ma ha)).2⟩
  · exact ⟨fun _ => 0, 4294967295, SideX_of [(aI (a_ofs 6 ma)), (aU 0 0 4294967295), (aU 0 2147483658 4294967295)] (sb_117_0 (run_sound 1000000)) (TrX_id _) (fun ad => ⟨vI_ofs (n := 13) (by decide) ha (by decide), vU_any _, vU_bd hc (a_bs_max _), trivial⟩) (and_t (q_all_at e10_2h ma ha)).1, SideM_of [(aI (a_ofs 6 ma)), (aU 0 0 4294967295), (aU 0 2147483658 4294967295)] (sb_173_0 (run_sound 1000000)) (fun ad => ⟨vI_ofs (n := 13) (by decide) ha (by decide), vU_any _, vU_bd hc (a_bs_max _), trivial⟩) (and_t (q_all_at e10_2h ma ha)).2⟩
  obtain ⟨σ, hσ⟩ := TrX_sp (gv := fun _ => a_i32 mc) hc rfl
  exact ⟨fun _ => a_i32 mc, (k_l T10 (ma * 2 + mb)), SideX_of [(aI (a_ofs 6 ma)), (aI mb), (aU (0 + 1) 2147483648 (2147483647 + 10))] (sb_117_0 (run_sound 1000000)) hσ (fun ad => ⟨vI_ofs (n := 13) (by decide) ha (by decide), ⟨Nat.lt_of_lt_of_le hb (by decide), rfl⟩, vG_in hc (by decide) (by decide) rfl, trivial⟩) ((e10_X ma ha) mb hb), SideM_of [(aI (a_ofs 6 ma)), (aI mb), (aU 0 2147483648 2147483657)] (sb_173_0 (run_sound 1000000)) (fun ad => ⟨vI_ofs (n := 13) (by decide) ha (by decide), ⟨Nat.lt_of_lt_of_le hb (by decide), rfl⟩, vU_in hc (by decide), trivial⟩) ((e10_M ma ha) mb hb)⟩
