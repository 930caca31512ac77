/-! ===== the law, call by call ===== -/
set_option maxRecDepth 20000 in
set_option maxHeartbeats 2000000 in
theorem law_11 {p : Program} {e : Env} {s : State} {m : MethodId} {below : List Frame} {meth : Method} {c : Code} {l : Launch} {b q1 q2 n : Nat} {xs : Nat → Int32} (C0 : lw_At p s m meth c b 5 xs) {gv : Nat → Int32} {cA : Nat → ClassId} {D : va_G} {ws : va_W} {H : Heap} {locs : List Loc} {ls : Array Slot} (hSX : SideX kM_121 [] gv [xs 1, xs 2, xs 3] n) (hSM : SideM kM_175 [none, none, none, none] gv [xs 1, xs 2, xs 3] n) (hW : WD gv cA D (fun q : Nat => s.heap.size ≤ q) s k_HJ ws H locs) (hq1 : (adr ws)[0]? = some q1) (hq2 : (adr ws)[105]? = some q2) (hl : lv_has ls 4 [(3, .int 0), (2, .ref q2), (1, .ref q1), (0, .ref b)]) : W p l e room_1 s m #[Value.ref b] below meth c H locs 140 3200385 (lw_Z below #[Value.ref b] s) (F0 m 529 ls []) := by
  obtain ⟨hx, hb, hr, hml, hown, hts, hX, hbl, hlocks, hgv⟩ := id C0
  have hC := CX_law C0
  have hbA : ¬ (fun q : Nat => s.heap.size ≤ q) b := Nat.not_le.mpr hbl
  refine lv_aload_n hx hb dw_529 rfl (lv_at hl 2 rfl) ?_
  refine law_ld (j := 1) (L := 5) hx hb hX hbl hbA hW.2.2.2.1 (lv_at hl 3 rfl) (lv_at hl 0 rfl) (v := 1) dw_530 dw_531 dw_532 dw_533 dw_534 (by decide) (by decide) (by decide) (by decide) ?_
  refine law_ld (j := 2) (L := 5) hx hb hX hbl hbA hW.2.2.2.1 (lv_at hl 3 rfl) (lv_at hl 0 rfl) (v := 2) dw_535 dw_536 dw_537 dw_538 dw_539 (by decide) (by decide) (by decide) (by decide) ?_
  refine law_ld (j := 3) (L := 5) hx hb hX hbl hbA hW.2.2.2.1 (lv_at hl 3 rfl) (lv_at hl 0 rfl) (v := 3) dw_540 dw_541 dw_542 dw_543 dw_544 (by decide) (by decide) (by decide) (by decide) ?_
  refine law_X (vs := [xs 1, xs 2, xs 3]) (rest := []) kcf_121 (Nat.le_of_ble_eq_true rfl) rfl rfl rfl kw_874 kw_875 kw_876 dw_545 hC hW hq1 hq2 hSX hl.1 (Nat.le_of_ble_eq_true rfl) (by decide) (by decide) (fun ws2 H1 locs1 hW2 hq => ?_)
  refine lv_aload_n hx hb dw_548 rfl (lv_at hl 1 rfl) ?_
  refine law_ld (j := 1) (L := 5) hx hb hX hbl hbA hW2.2.2.2.1 (lv_at hl 3 rfl) (lv_at hl 0 rfl) (v := 1) dw_549 dw_550 dw_551 dw_552 dw_553 (by decide) (by decide) (by decide) (by decide) ?_
  refine law_ld (j := 2) (L := 5) hx hb hX hbl hbA hW2.2.2.2.1 (lv_at hl 3 rfl) (lv_at hl 0 rfl) (v := 2) dw_554 dw_555 dw_556 dw_557 dw_558 (by decide) (by decide) (by decide) (by decide) ?_
  refine law_ld (j := 3) (L := 5) hx hb hX hbl hbA hW2.2.2.2.1 (lv_at hl 3 rfl) (lv_at hl 0 rfl) (v := 3) dw_559 dw_560 dw_561 dw_562 dw_563 (by decide) (by decide) (by decide) (by decide) ?_
  refine law_M (vs := [xs 1, xs 2, xs 3]) (rest := [.int (a_i32 n)]) kcf_175 (Nat.le_of_ble_eq_true rfl) rfl rfl rfl kw_877 kw_878 kw_879 dw_564 hC hW2 hq hSM hl.1 (Nat.le_of_ble_eq_true rfl) (by decide) (by decide) (fun H2 locs2 hS2 => ?_)
  refine lv_icmp_eq (tgt := 965) hx hb dw_567 (by decide) (fun _ => law_end C0 hS2 hl) (fun h => absurd rfl h)
set_option maxRecDepth 20000 in
set_option maxHeartbeats 2000000 in
theorem law_12 {p : Program} {e : Env} {s : State} {m : MethodId} {below : List Frame} {meth : Method} {c : Code} {l : Launch} {b q1 q2 n : Nat} {xs : Nat → Int32} (C0 : lw_At p s m meth c b 5 xs) {gv : Nat → Int32} {cA : Nat → ClassId} {D : va_G} {ws : va_W} {H : Heap} {locs : List Loc} {ls : Array Slot} (hSX : SideX kM_122 [] gv [xs 1, xs 2, xs 3] n) (hSM : SideM kM_176 [none, none] gv [xs 1, xs 2, xs 3] n) (hW : WD gv cA D (fun q : Nat => s.heap.size ≤ q) s k_HJ ws H locs) (hq1 : (adr ws)[0]? = some q1) (hq2 : (adr ws)[105]? = some q2) (hl : lv_has ls 4 [(3, .int 0), (2, .ref q2), (1, .ref q1), (0, .ref b)]) : W p l e room_1 s m #[Value.ref b] below meth c H locs 140 3200385 (lw_Z below #[Value.ref b] s) (F0 m 572 ls []) := by
  obtain ⟨hx, hb, hr, hml, hown, hts, hX, hbl, hlocks, hgv⟩ := id C0
  have hC := CX_law C0
  have hbA : ¬ (fun q : Nat => s.heap.size ≤ q) b := Nat.not_le.mpr hbl
  refine lv_aload_n hx hb dw_572 rfl (lv_at hl 2 rfl) ?_
  refine law_ld (j := 1) (L := 5) hx hb hX hbl hbA hW.2.2.2.1 (lv_at hl 3 rfl) (lv_at hl 0 rfl) (v := 1) dw_573 dw_574 dw_575 dw_576 dw_577 (by decide) (by decide) (by decide) (by decide) ?_
  refine law_ld (j := 2) (L := 5) hx hb hX hbl hbA hW.2.2.2.1 (lv_at hl 3 rfl) (lv_at hl 0 rfl) (v := 2) dw_578 dw_579 dw_580 dw_581 dw_582 (by decide) (by decide) (by decide) (by decide) ?_
  refine law_ld (j := 3) (L := 5) hx hb hX hbl hbA hW.2.2.2.1 (lv_at hl 3 rfl) (lv_at hl 0 rfl) (v := 3) dw_583 dw_584 dw_585 dw_586 dw_587 (by decide) (by decide) (by decide) (by decide) ?_
  refine law_X (vs := [xs 1, xs 2, xs 3]) (rest := []) kcf_122 (Nat.le_of_ble_eq_true rfl) rfl rfl rfl kw_880 kw_881 kw_882 dw_588 hC hW hq1 hq2 hSX hl.1 (Nat.le_of_ble_eq_true rfl) (by decide) (by decide) (fun ws2 H1 locs1 hW2 hq => ?_)
  refine lv_aload_n hx hb dw_591 rfl (lv_at hl 1 rfl) ?_
  refine law_ld (j := 1) (L := 5) hx hb hX hbl hbA hW2.2.2.2.1 (lv_at hl 3 rfl) (lv_at hl 0 rfl) (v := 1) dw_592 dw_593 dw_594 dw_595 dw_596 (by decide) (by decide) (by decide) (by decide) ?_
  refine law_ld (j := 2) (L := 5) hx hb hX hbl hbA hW2.2.2.2.1 (lv_at hl 3 rfl) (lv_at hl 0 rfl) (v := 2) dw_597 dw_598 dw_599 dw_600 dw_601 (by decide) (by decide) (by decide) (by decide) ?_
  refine law_ld (j := 3) (L := 5) hx hb hX hbl hbA hW2.2.2.2.1 (lv_at hl 3 rfl) (lv_at hl 0 rfl) (v := 3) dw_602 dw_603 dw_604 dw_605 dw_606 (by decide) (by decide) (by decide) (by decide) ?_
  refine law_M (vs := [xs 1, xs 2, xs 3]) (rest := [.int (a_i32 n)]) kcf_176 (Nat.le_of_ble_eq_true rfl) rfl rfl rfl kw_883 kw_884 kw_885 dw_607 hC hW2 hq hSM hl.1 (Nat.le_of_ble_eq_true rfl) (by decide) (by decide) (fun H2 locs2 hS2 => ?_)
  refine lv_icmp_eq (tgt := 965) hx hb dw_610 (by decide) (fun _ => law_end C0 hS2 hl) (fun h => absurd rfl h)
set_option maxRecDepth 20000 in
set_option maxHeartbeats 2000000 in
theorem law_13 {p : Program} {e : Env} {s : State} {m : MethodId} {below : List Frame} {meth : Method} {c : Code} {l : Launch} {b q1 q2 n : Nat} {xs : Nat → Int32} (C0 : lw_At p s m meth c b 5 xs) {gv : Nat → Int32} {cA : Nat → ClassId} {D : va_G} {ws : va_W} {H : Heap} {locs : List Loc} {ls : Array Slot} (hSX : SideX kM_123 [] gv [xs 1, xs 2] n) (hSM : SideM kM_177 [none, none, none, none] gv [xs 1, xs 2] n) (hW : WD gv cA D (fun q : Nat => s.heap.size ≤ q) s k_HJ ws H locs) (hq1 : (adr ws)[0]? = some q1) (hq2 : (adr ws)[105]? = some q2) (hl : lv_has ls 4 [(3, .int 0), (2, .ref q2), (1, .ref q1), (0, .ref b)]) : W p l e room_1 s m #[Value.ref b] below meth c H locs 140 3200385 (lw_Z below #[Value.ref b] s) (F0 m 615 ls []) := by
  obtain ⟨hx, hb, hr, hml, hown, hts, hX, hbl, hlocks, hgv⟩ := id C0
  have hC := CX_law C0
  have hbA : ¬ (fun q : Nat => s.heap.size ≤ q) b := Nat.not_le.mpr hbl
  refine lv_aload_n hx hb dw_615 rfl (lv_at hl 2 rfl) ?_
  refine law_ld (j := 1) (L := 5) hx hb hX hbl hbA hW.2.2.2.1 (lv_at hl 3 rfl) (lv_at hl 0 rfl) (v := 1) dw_616 dw_617 dw_618 dw_619 dw_620 (by decide) (by decide) (by decide) (by decide) ?_
  refine law_ld (j := 2) (L := 5) hx hb hX hbl hbA hW.2.2.2.1 (lv_at hl 3 rfl) (lv_at hl 0 rfl) (v := 2) dw_621 dw_622 dw_623 dw_624 dw_625 (by decide) (by decide) (by decide) (by decide) ?_
  refine law_X (vs := [xs 1, xs 2]) (rest := []) kcf_123 (Nat.le_of_ble_eq_true rfl) rfl rfl rfl kw_886 kw_887 kw_888 dw_626 hC hW hq1 hq2 hSX hl.1 (Nat.le_of_ble_eq_true rfl) (by decide) (by decide) (fun ws2 H1 locs1 hW2 hq => ?_)
  refine lv_aload_n hx hb dw_629 rfl (lv_at hl 1 rfl) ?_
  refine law_ld (j := 1) (L := 5) hx hb hX hbl hbA hW2.2.2.2.1 (lv_at hl 3 rfl) (lv_at hl 0 rfl) (v := 1) dw_630 dw_631 dw_632 dw_633 dw_634 (by decide) (by decide) (by decide) (by decide) ?_
  refine law_ld (j := 2) (L := 5) hx hb hX hbl hbA hW2.2.2.2.1 (lv_at hl 3 rfl) (lv_at hl 0 rfl) (v := 2) dw_635 dw_636 dw_637 dw_638 dw_639 (by decide) (by decide) (by decide) (by decide) ?_
  refine law_M (vs := [xs 1, xs 2]) (rest := [.int (a_i32 n)]) kcf_177 (Nat.le_of_ble_eq_true rfl) rfl rfl rfl kw_889 kw_890 kw_891 dw_640 hC hW2 hq hSM hl.1 (Nat.le_of_ble_eq_true rfl) (by decide) (by decide) (fun H2 locs2 hS2 => ?_)
  refine lv_icmp_eq (tgt := 965) hx hb dw_643 (by decide) (fun _ => law_end C0 hS2 hl) (fun h => absurd rfl h)
set_option maxRecDepth 20000 in
set_option maxHeartbeats 2000000 in
theorem law_14 {p : Program} {e : Env} {s : State} {m : MethodId} {below : List Frame} {meth : Method} {c : Code} {l : Launch} {b q1 q2 n : Nat} {xs : Nat → Int32} (C0 : lw_At p s m meth c b 5 xs) {gv : Nat → Int32} {cA : Nat → ClassId} {D : va_G} {ws : va_W} {H : Heap} {locs : List Loc} {ls : Array Slot} (hSX : SideX kM_124 [none] gv [xs 1, xs 2, xs 3, xs 4] n) (hSM : SideM kM_178 [none] gv [xs 1, xs 2, xs 3, xs 4] n) (hW : WD gv cA D (fun q : Nat => s.heap.size ≤ q) s k_HJ ws H locs) (hq1 : (adr ws)[0]? = some q1) (hq2 : (adr ws)[105]? = some q2) (hl : lv_has ls 4 [(3, .int 0), (2, .ref q2), (1, .ref q1), (0, .ref b)]) : W p l e room_1 s m #[Value.ref b] below meth c H locs 140 3200385 (lw_Z below #[Value.ref b] s) (F0 m 648 ls []) := by
  obtain ⟨hx, hb, hr, hml, hown, hts, hX, hbl, hlocks, hgv⟩ := id C0
  have hC := CX_law C0
  have hbA : ¬ (fun q : Nat => s.heap.size ≤ q) b := Nat.not_le.mpr hbl
  refine lv_aload_n hx hb dw_648 rfl (lv_at hl 2 rfl) ?_
  refine law_ld (j := 1) (L := 5) hx hb hX hbl hbA hW.2.2.2.1 (lv_at hl 3 rfl) (lv_at hl 0 rfl) (v := 1) dw_649 dw_650 dw_651 dw_652 dw_653 (by decide) (by decide) (by decide) (by decide) ?_
  refine law_ld (j := 2) (L := 5) hx hb hX hbl hbA hW.2.2.2.1 (lv_at hl 3 rfl) (lv_at hl 0 rfl) (v := 2) dw_654 dw_655 dw_656 dw_657 dw_658 (by decide) (by decide) (by decide) (by decide) ?_
  refine law_ld (j := 3) (L := 5) hx hb hX hbl hbA hW.2.2.2.1 (lv_at hl 3 rfl) (lv_at hl 0 rfl) (v := 3) dw_659 dw_660 dw_661 dw_662 dw_663 (by decide) (by decide) (by decide) (by decide) ?_
  refine law_ld (j := 4) (L := 5) hx hb hX hbl hbA hW.2.2.2.1 (lv_at hl 3 rfl) (lv_at hl 0 rfl) (v := 4) dw_664 dw_665 dw_666 dw_667 dw_668 (by decide) (by decide) (by decide) (by decide) ?_
  refine law_X (vs := [xs 1, xs 2, xs 3, xs 4]) (rest := []) kcf_124 (Nat.le_of_ble_eq_true rfl) rfl rfl rfl kw_892 kw_893 kw_894 dw_669 hC hW hq1 hq2 hSX hl.1 (Nat.le_of_ble_eq_true rfl) (by decide) (by decide) (fun ws2 H1 locs1 hW2 hq => ?_)
  refine lv_aload_n hx hb dw_672 rfl (lv_at hl 1 rfl) ?_
  refine law_ld (j := 1) (L := 5) hx hb hX hbl hbA hW2.2.2.2.1 (lv_at hl 3 rfl) (lv_at hl 0 rfl) (v := 1) dw_673 dw_674 dw_675 dw_676 dw_677 (by decide) (by decide) (by decide) (by decide) ?_
  refine law_ld (j := 2) (L := 5) hx hb hX hbl hbA hW2.2.2.2.1 (lv_at hl 3 rfl) (lv_at hl 0 rfl) (v := 2) dw_678 dw_679 dw_680 dw_681 dw_682 (by decide) (by decide) (by decide) (by decide) ?_
  refine law_ld (j := 3) (L := 5) hx hb hX hbl hbA hW2.2.2.2.1 (lv_at hl 3 rfl) (lv_at hl 0 rfl) (v := 3) dw_683 dw_684 dw_685 dw_686 dw_687 (by decide) (by decide) (by decide) (by decide) ?_
  refine law_ld (j := 4) (L := 5) hx hb hX hbl hbA hW2.2.2.2.1 (lv_at hl 3 rfl) (lv_at hl 0 rfl) (v := 4) dw_688 dw_689 dw_690 dw_691 dw_692 (by decide) (by decide) (by decide) (by decide) ?_
  refine law_M (vs := [xs 1, xs 2, xs 3, xs 4]) (rest := [.int (a_i32 n)]) kcf_178 (Nat.le_of_ble_eq_true rfl) rfl rfl rfl kw_895 kw_896 kw_897 dw_693 hC hW2 hq hSM hl.1 (Nat.le_of_ble_eq_true rfl) (by decide) (by decide) (fun H2 locs2 hS2 => ?_)
  refine lv_icmp_eq (tgt := 965) hx hb dw_696 (by decide) (fun _ => law_end C0 hS2 hl) (fun h => absurd rfl h)
set_option maxRecDepth 20000 in
set_option maxHeartbeats 2000000 in
theorem law_15 {p : Program} {e : Env} {s : State} {m : MethodId} {below : List Frame} {meth : Method} {c : Code} {l : Launch} {b q1 q2 n : Nat} {xs : Nat → Int32} (C0 : lw_At p s m meth c b 5 xs) {gv : Nat → Int32} {cA : Nat → ClassId} {D : va_G} {ws : va_W} {H : Heap} {locs : List Loc} {ls : Array Slot} (hSX : SideX kM_125 [none] gv [xs 1, xs 2] n) (hSM : SideM kM_187 [none] gv [xs 1, xs 2] n) (hW : WD gv cA D (fun q : Nat => s.heap.size ≤ q) s k_HJ ws H locs) (hq1 : (adr ws)[0]? = some q1) (hq2 : (adr ws)[105]? = some q2) (hl : lv_has ls 4 [(3, .int 0), (2, .ref q2), (1, .ref q1), (0, .ref b)]) : W p l e room_1 s m #[Value.ref b] below meth c H locs 140 3200385 (lw_Z below #[Value.ref b] s) (F0 m 701 ls []) := by
  obtain ⟨hx, hb, hr, hml, hown, hts, hX, hbl, hlocks, hgv⟩ := id C0
  have hC := CX_law C0
  have hbA : ¬ (fun q : Nat => s.heap.size ≤ q) b := Nat.not_le.mpr hbl
  refine lv_aload_n hx hb dw_701 rfl (lv_at hl 2 rfl) ?_
  refine law_ld (j := 1) (L := 5) hx hb hX hbl hbA hW.2.2.2.1 (lv_at hl 3 rfl) (lv_at hl 0 rfl) (v := 1) dw_702 dw_703 dw_704 dw_705 dw_706 (by decide) (by decide) (by decide) (by decide) ?_
  refine law_ld (j := 2) (L := 5) hx hb hX hbl hbA hW.2.2.2.1 (lv_at hl 3 rfl) (lv_at hl 0 rfl) (v := 2) dw_707 dw_708 dw_709 dw_710 dw_711 (by decide) (by decide) (by decide) (by decide) ?_
  refine law_X (vs := [xs 1, xs 2]) (rest := []) kcf_125 (Nat.le_of_ble_eq_true rfl) rfl rfl rfl kw_898 kw_899 kw_900 dw_712 hC hW hq1 hq2 hSX hl.1 (Nat.le_of_ble_eq_true rfl) (by decide) (by decide) (fun ws2 H1 locs1 hW2 hq => ?_)
  refine lv_aload_n hx hb dw_715 rfl (lv_at hl 1 rfl) ?_
  refine law_ld (j := 1) (L := 5) hx hb hX hbl hbA hW2.2.2.2.1 (lv_at hl 3 rfl) (lv_at hl 0 rfl) (v := 1) dw_716 dw_717 dw_718 dw_719 dw_720 (by decide) (by decide) (by decide) (by decide) ?_
  refine law_ld (j := 2) (L := 5) hx hb hX hbl hbA hW2.2.2.2.1 (lv_at hl 3 rfl) (lv_at hl 0 rfl) (v := 2) dw_721 dw_722 dw_723 dw_724 dw_725 (by decide) (by decide) (by decide) (by decide) ?_
  refine law_M (vs := [xs 1, xs 2]) (rest := [.int (a_i32 n)]) kcf_187 (Nat.le_of_ble_eq_true rfl) rfl rfl rfl kw_901 kw_902 kw_903 dw_726 hC hW2 hq hSM hl.1 (Nat.le_of_ble_eq_true rfl) (by decide) (by decide) (fun H2 locs2 hS2 => ?_)
  refine lv_icmp_eq (tgt := 965) hx hb dw_729 (by decide) (fun _ => law_end C0 hS2 hl) (fun h => absurd rfl h)
set_option maxRecDepth 20000 in
set_option maxHeartbeats 2000000 in
theorem law_16 {p : Program} {e : Env} {s : State} {m : MethodId} {below : List Frame} {meth : Method} {c : Code} {l : Launch} {b q1 q2 n : Nat} {xs : Nat → Int32} (C0 : lw_At p s m meth c b 5 xs) {gv : Nat → Int32} {cA : Nat → ClassId} {D : va_G} {ws : va_W} {H : Heap} {locs : List Loc} {ls : Array Slot} (hSX : SideX kM_126 [] gv [xs 1, xs 2] n) (hSM : SideM kM_188 [none, none] gv [xs 1, xs 2] n) (hW : WD gv cA D (fun q : Nat => s.heap.size ≤ q) s k_HJ ws H locs) (hq1 : (adr ws)[0]? = some q1) (hq2 : (adr ws)[105]? = some q2) (hl : lv_has ls 4 [(3, .int 0), (2, .ref q2), (1, .ref q1), (0, .ref b)]) : W p l e room_1 s m #[Value.ref b] below meth c H locs 140 3200385 (lw_Z below #[Value.ref b] s) (F0 m 734 ls []) := by
  obtain ⟨hx, hb, hr, hml, hown, hts, hX, hbl, hlocks, hgv⟩ := id C0
  have hC := CX_law C0
  have hbA : ¬ (fun q : Nat => s.heap.size ≤ q) b := Nat.not_le.mpr hbl
  refine lv_aload_n hx hb dw_734 rfl (lv_at hl 2 rfl) ?_
  refine law_ld (j := 1) (L := 5) hx hb hX hbl hbA hW.2.2.2.1 (lv_at hl 3 rfl) (lv_at hl 0 rfl) (v := 1) dw_735 dw_736 dw_737 dw_738 dw_739 (by decide) (by decide) (by decide) (by decide) ?_
  refine law_ld (j := 2) (L := 5) hx hb hX hbl hbA hW.2.2.2.1 (lv_at hl 3 rfl) (lv_at hl 0 rfl) (v := 2) dw_740 dw_741 dw_742 dw_743 dw_744 (by decide) (by decide) (by decide) (by decide) ?_
  refine law_X (vs := [xs 1, xs 2]) (rest := []) kcf_126 (Nat.le_of_ble_eq_true rfl) rfl rfl rfl kw_904 kw_905 kw_906 dw_745 hC hW hq1 hq2 hSX hl.1 (Nat.le_of_ble_eq_true rfl) (by decide) (by decide) (fun ws2 H1 locs1 hW2 hq => ?_)
  refine lv_aload_n hx hb dw_748 rfl (lv_at hl 1 rfl) ?_
  refine law_ld (j := 1) (L := 5) hx hb hX hbl hbA hW2.2.2.2.1 (lv_at hl 3 rfl) (lv_at hl 0 rfl) (v := 1) dw_749 dw_750 dw_751 dw_752 dw_753 (by decide) (by decide) (by decide) (by decide) ?_
  refine law_ld (j := 2) (L := 5) hx hb hX hbl hbA hW2.2.2.2.1 (lv_at hl 3 rfl) (lv_at hl 0 rfl) (v := 2) dw_754 dw_755 dw_756 dw_757 dw_758 (by decide) (by decide) (by decide) (by decide) ?_
  refine law_M (vs := [xs 1, xs 2]) (rest := [.int (a_i32 n)]) kcf_188 (Nat.le_of_ble_eq_true rfl) rfl rfl rfl kw_907 kw_908 kw_909 dw_759 hC hW2 hq hSM hl.1 (Nat.le_of_ble_eq_true rfl) (by decide) (by decide) (fun H2 locs2 hS2 => ?_)
  refine lv_icmp_eq (tgt := 965) hx hb dw_762 (by decide) (fun _ => law_end C0 hS2 hl) (fun h => absurd rfl h)
set_option maxRecDepth 20000 in
set_option maxHeartbeats 2000000 in
theorem law_17 {p : Program} {e : Env} {s : State} {m : MethodId} {below : List Frame} {meth : Method} {c : Code} {l : Launch} {b q1 q2 n : Nat} {xs : Nat → Int32} (C0 : lw_At p s m meth c b 5 xs) {gv : Nat → Int32} {cA : Nat → ClassId} {D : va_G} {ws : va_W} {H : Heap} {locs : List Loc} {ls : Array Slot} (hSX : SideX kM_127 [] gv [xs 1] n) (hSM : SideM kM_189 [none] gv [xs 1] n) (hW : WD gv cA D (fun q : Nat => s.heap.size ≤ q) s k_HJ ws H locs) (hq1 : (adr ws)[0]? = some q1) (hq2 : (adr ws)[105]? = some q2) (hl : lv_has ls 4 [(3, .int 0), (2, .ref q2), (1, .ref q1), (0, .ref b)]) : W p l e room_1 s m #[Value.ref b] below meth c H locs 140 3200385 (lw_Z below #[Value.ref b] s) (F0 m 767 ls []) := by
  obtain ⟨hx, hb, hr, hml, hown, hts, hX, hbl, hlocks, hgv⟩ := id C0
  have hC := CX_law C0
  have hbA : ¬ (fun q : Nat => s.heap.size ≤ q) b := Nat.not_le.mpr hbl
  refine lv_aload_n hx hb dw_767 rfl (lv_at hl 2 rfl) ?_
  refine law_ld (j := 1) (L := 5) hx hb hX hbl hbA hW.2.2.2.1 (lv_at hl 3 rfl) (lv_at hl 0 rfl) (v := 1) dw_768 dw_769 dw_770 dw_771 dw_772 (by decide) (by decide) (by decide) (by decide) ?_
  refine law_X (vs := [xs 1]) (rest := []) kcf_127 (Nat.le_of_ble_eq_true rfl) rfl rfl rfl kw_910 kw_911 kw_912 dw_773 hC hW hq1 hq2 hSX hl.1 (Nat.le_of_ble_eq_true rfl) (by decide) (by decide) (fun ws2 H1 locs1 hW2 hq => ?_)
  refine lv_aload_n hx hb dw_776 rfl (lv_at hl 1 rfl) ?_
  refine law_ld (j := 1) (L := 5) hx hb hX hbl hbA hW2.2.2.2.1 (lv_at hl 3 rfl) (lv_at hl 0 rfl) (v := 1) dw_777 dw_778 dw_779 dw_780 dw_781 (by decide) (by decide) (by decide) (by decide) ?_
  refine law_M (vs := [xs 1]) (rest := [.int (a_i32 n)]) kcf_189 (Nat.le_of_ble_eq_true rfl) rfl rfl rfl kw_913 kw_914 kw_915 dw_782 hC hW2 hq hSM hl.1 (Nat.le_of_ble_eq_true rfl) (by decide) (by decide) (fun H2 locs2 hS2 => ?_)
  refine lv_icmp_eq (tgt := 965) hx hb dw_785 (by decide) (fun _ => law_end C0 hS2 hl) (fun h => absurd rfl h)
set_option maxRecDepth 20000 in
set_option maxHeartbeats 2000000 in
theorem law_18 {p : Program} {e : Env} {s : State} {m : MethodId} {below : List Frame} {meth : Method} {c : Code} {l : Launch} {b q1 q2 n : Nat} {xs : Nat → Int32} (C0 : lw_At p s m meth c b 5 xs) {gv : Nat → Int32} {cA : Nat → ClassId} {D : va_G} {ws : va_W} {H : Heap} {locs : List Loc} {ls : Array Slot} (hSX : SideX kM_129 [] gv [xs 1, xs 2] n) (hSM : SideM kM_190 [none] gv [xs 1, xs 2] n) (hW : WD gv cA D (fun q : Nat => s.heap.size ≤ q) s k_HJ ws H locs) (hq1 : (adr ws)[0]? = some q1) (hq2 : (adr ws)[105]? = some q2) (hl : lv_has ls 4 [(3, .int 0), (2, .ref q2), (1, .ref q1), (0, .ref b)]) : W p l e room_1 s m #[Value.ref b] below meth c H locs 140 3200385 (lw_Z below #[Value.ref b] s) (F0 m 790 ls []) := by
  obtain ⟨hx, hb, hr, hml, hown, hts, hX, hbl, hlocks, hgv⟩ := id C0
  have hC := CX_law C0
  have hbA : ¬ (fun q : Nat => s.heap.size ≤ q) b := Nat.not_le.mpr hbl
  refine lv_aload_n hx hb dw_790 rfl (lv_at hl 2 rfl) ?_
  refine law_ld (j := 1) (L := 5) hx hb hX hbl hbA hW.2.2.2.1 (lv_at hl 3 rfl) (lv_at hl 0 rfl) (v := 1) dw_791 dw_792 dw_793 dw_794 dw_795 (by decide) (by decide) (by decide) (by decide) ?_
  refine law_ld (j := 2) (L := 5) hx hb hX hbl hbA hW.2.2.2.1 (lv_at hl 3 rfl) (lv_at hl 0 rfl) (v := 2) dw_796 dw_797 dw_798 dw_799 dw_800 (by decide) (by decide) (by decide) (by decide) ?_
  refine law_X (vs := [xs 1, xs 2]) (rest := []) kcf_129 (Nat.le_of_ble_eq_true rfl) rfl rfl rfl kw_916 kw_917 kw_918 dw_801 hC hW hq1 hq2 hSX hl.1 (Nat.le_of_ble_eq_true rfl) (by decide) (by decide) (fun ws2 H1 locs1 hW2 hq => ?_)
  refine lv_aload_n hx hb dw_804 rfl (lv_at hl 1 rfl) ?_
  refine law_ld (j := 1) (L := 5) hx hb hX hbl hbA hW2.2.2.2.1 (lv_at hl 3 rfl) (lv_at hl 0 rfl) (v := 1) dw_805 dw_806 dw_807 dw_808 dw_809 (by decide) (by decide) (by decide) (by decide) ?_
  refine law_ld (j := 2) (L := 5) hx hb hX hbl hbA hW2.2.2.2.1 (lv_at hl 3 rfl) (lv_at hl 0 rfl) (v := 2) dw_810 dw_811 dw_812 dw_813 dw_814 (by decide) (by decide) (by decide) (by decide) ?_
  refine law_M (vs := [xs 1, xs 2]) (rest := [.int (a_i32 n)]) kcf_190 (Nat.le_of_ble_eq_true rfl) rfl rfl rfl kw_919 kw_920 kw_921 dw_815 hC hW2 hq hSM hl.1 (Nat.le_of_ble_eq_true rfl) (by decide) (by decide) (fun H2 locs2 hS2 => ?_)
  refine lv_icmp_eq (tgt := 965) hx hb dw_818 (by decide) (fun _ => law_end C0 hS2 hl) (fun h => absurd rfl h)
set_option maxRecDepth 20000 in
set_option maxHeartbeats 2000000 in
theorem law_19 {p : Program} {e : Env} {s : State} {m : MethodId} {below : List Frame} {meth : Method} {c : Code} {l : Launch} {b q1 q2 n : Nat} {xs : Nat → Int32} (C0 : lw_At p s m meth c b 5 xs) {gv : Nat → Int32} {cA : Nat → ClassId} {D : va_G} {ws : va_W} {H : Heap} {locs : List Loc} {ls : Array Slot} (hSX : SideX kM_130 [] gv [xs 1, xs 2] n) (hSM : SideM kM_191 [none, none] gv [xs 1, xs 2] n) (hW : WD gv cA D (fun q : Nat => s.heap.size ≤ q) s k_HJ ws H locs) (hq1 : (adr ws)[0]? = some q1) (hq2 : (adr ws)[105]? = some q2) (hl : lv_has ls 4 [(3, .int 0), (2, .ref q2), (1, .ref q1), (0, .ref b)]) : W p l e room_1 s m #[Value.ref b] below meth c H locs 140 3200385 (lw_Z below #[Value.ref b] s) (F0 m 823 ls []) := by
  obtain ⟨hx, hb, hr, hml, hown, hts, hX, hbl, hlocks, hgv⟩ := id C0
  have hC := CX_law C0
  have hbA : ¬ (fun q : Nat => s.heap.size ≤ q) b := Nat.not_le.mpr hbl
  refine lv_aload_n hx hb dw_823 rfl (lv_at hl 2 rfl) ?_
  refine law_ld (j := 1) (L := 5) hx hb hX hbl hbA hW.2.2.2.1 (lv_at hl 3 rfl) (lv_at hl 0 rfl) (v := 1) dw_824 dw_825 dw_826 dw_827 dw_828 (by decide) (by decide) (by decide) (by decide) ?_
  refine law_ld (j := 2) (L := 5) hx hb hX hbl hbA hW.2.2.2.1 (lv_at hl 3 rfl) (lv_at hl 0 rfl) (v := 2) dw_829 dw_830 dw_831 dw_832 dw_833 (by decide) (by decide) (by decide) (by decide) ?_
  refine law_X (vs := [xs 1, xs 2]) (rest := []) kcf_130 (Nat.le_of_ble_eq_true rfl) rfl rfl rfl kw_922 kw_923 kw_924 dw_834 hC hW hq1 hq2 hSX hl.1 (Nat.le_of_ble_eq_true rfl) (by decide) (by decide) (fun ws2 H1 locs1 hW2 hq => ?_)
  refine lv_aload_n hx hb dw_837 rfl (lv_at hl 1 rfl) ?_
  refine law_ld (j := 1) (L := 5) hx hb hX hbl hbA hW2.2.2.2.1 (lv_at hl 3 rfl) (lv_at hl 0 rfl) (v := 1) dw_838 dw_839 dw_840 dw_841 dw_842 (by decide) (by decide) (by decide) (by decide) ?_
  refine law_ld (j := 2) (L := 5) hx hb hX hbl hbA hW2.2.2.2.1 (lv_at hl 3 rfl) (lv_at hl 0 rfl) (v := 2) dw_843 dw_844 dw_845 dw_846 dw_847 (by decide) (by decide) (by decide) (by decide) ?_
  refine law_M (vs := [xs 1, xs 2]) (rest := [.int (a_i32 n)]) kcf_191 (Nat.le_of_ble_eq_true rfl) rfl rfl rfl kw_925 kw_926 kw_927 dw_848 hC hW2 hq hSM hl.1 (Nat.le_of_ble_eq_true rfl) (by decide) (by decide) (fun H2 locs2 hS2 => ?_)
  refine lv_icmp_eq (tgt := 965) hx hb dw_851 (by decide) (fun _ => law_end C0 hS2 hl) (fun h => absurd rfl h)
set_option maxRecDepth 20000 in
set_option maxHeartbeats 2000000 in
theorem law_20 {p : Program} {e : Env} {s : State} {m : MethodId} {below : List Frame} {meth : Method} {c : Code} {l : Launch} {b q1 q2 n : Nat} {xs : Nat → Int32} (C0 : lw_At p s m meth c b 5 xs) {gv : Nat → Int32} {cA : Nat → ClassId} {D : va_G} {ws : va_W} {H : Heap} {locs : List Loc} {ls : Array Slot} (hSX : SideX kM_131 [] gv [xs 1, xs 2, xs 3] n) (hSM : SideM kM_192 [none] gv [xs 1, xs 2, xs 3] n) (hW : WD gv cA D (fun q : Nat => s.heap.size ≤ q) s k_HJ ws H locs) (hq1 : (adr ws)[0]? = some q1) (hq2 : (adr ws)[105]? = some q2) (hl : lv_has ls 4 [(3, .int 0), (2, .ref q2), (1, .ref q1), (0, .ref b)]) : W p l e room_1 s m #[Value.ref b] below meth c H locs 140 3200385 (lw_Z below #[Value.ref b] s) (F0 m 856 ls []) := by
  obtain ⟨hx, hb, hr, hml, hown, hts, hX, hbl, hlocks, hgv⟩ := id C0
  have hC := CX_law C0
  have hbA : ¬ (fun q : Nat => s.heap.size ≤ q) b := Nat.not_le.mpr hbl
  refine lv_aload_n hx hb dw_856 rfl (lv_at hl 2 rfl) ?_
  refine law_ld (j := 1) (L := 5) hx hb hX hbl hbA hW.2.2.2.1 (lv_at hl 3 rfl) (lv_at hl 0 rfl) (v := 1) dw_857 dw_858 dw_859 dw_860 dw_861 (by decide) (by decide) (by decide) (by decide) ?_
  refine law_ld (j := 2) (L := 5) hx hb hX hbl hbA hW.2.2.2.1 (lv_at hl 3 rfl) (lv_at hl 0 rfl) (v := 2) dw_862 dw_863 dw_864 dw_865 dw_866 (by decide) (by decide) (by decide) (by decide) ?_
  refine law_ld (j := 3) (L := 5) hx hb hX hbl hbA hW.2.2.2.1 (lv_at hl 3 rfl) (lv_at hl 0 rfl) (v := 3) dw_867 dw_868 dw_869 dw_870 dw_871 (by decide) (by decide) (by decide) (by decide) ?_
  refine law_X (vs := [xs 1, xs 2, xs 3]) (rest := []) kcf_131 (Nat.le_of_ble_eq_true rfl) rfl rfl rfl kw_928 kw_929 kw_930 dw_872 hC hW hq1 hq2 hSX hl.1 (Nat.le_of_ble_eq_true rfl) (by decide) (by decide) (fun ws2 H1 locs1 hW2 hq => ?_)
  refine lv_aload_n hx hb dw_875 rfl (lv_at hl 1 rfl) ?_
  refine law_ld (j := 1) (L := 5) hx hb hX hbl hbA hW2.2.2.2.1 (lv_at hl 3 rfl) (lv_at hl 0 rfl) (v := 1) dw_876 dw_877 dw_878 dw_879 dw_880 (by decide) (by decide) (by decide) (by decide) ?_
  refine law_ld (j := 2) (L := 5) hx hb hX hbl hbA hW2.2.2.2.1 (lv_at hl 3 rfl) (lv_at hl 0 rfl) (v := 2) dw_881 dw_882 dw_883 dw_884 dw_885 (by decide) (by decide) (by decide) (by decide) ?_
  refine law_ld (j := 3) (L := 5) hx hb hX hbl hbA hW2.2.2.2.1 (lv_at hl 3 rfl) (lv_at hl 0 rfl) (v := 3) dw_886 dw_887 dw_888 dw_889 dw_890 (by decide) (by decide) (by decide) (by decide) ?_
  refine law_M (vs := [xs 1, xs 2, xs 3]) (rest := [.int (a_i32 n)]) kcf_192 (Nat.le_of_ble_eq_true rfl) rfl rfl rfl kw_931 kw_932 kw_933 dw_891 hC hW2 hq hSM hl.1 (Nat.le_of_ble_eq_true rfl) (by decide) (by decide) (fun H2 locs2 hS2 => ?_)
  refine lv_icmp_eq (tgt := 965) hx hb dw_894 (by decide) (fun _ => law_end C0 hS2 hl) (fun h => absurd rfl h)
set_option maxRecDepth 20000 in
set_option maxHeartbeats 2000000 in
theorem law_21 {p : Program} {e : Env} {s : State} {m : MethodId} {below : List Frame} {meth : Method} {c : Code} {l : Launch} {b q1 q2 n : Nat} {xs : Nat → Int32} (C0 : lw_At p s m meth c b 5 xs) {gv : Nat → Int32} {cA : Nat → ClassId} {D : va_G} {ws : va_W} {H : Heap} {locs : List Loc} {ls : Array Slot} (hSX : SideX kM_133 [none] gv [xs 1, xs 2] n) (hSM : SideM kM_196 [none] gv [xs 1, xs 2] n) (hW : WD gv cA D (fun q : Nat => s.heap.size ≤ q) s k_HJ ws H locs) (hq1 : (adr ws)[0]? = some q1) (hq2 : (adr ws)[105]? = some q2) (hl : lv_has ls 4 [(3, .int 0), (2, .ref q2), (1, .ref q1), (0, .ref b)]) : W p l e room_1 s m #[Value.ref b] below meth c H locs 140 3200385 (lw_Z below #[Value.ref b] s) (F0 m 899 ls []) := by
  obtain ⟨hx, hb, hr, hml, hown, hts, hX, hbl, hlocks, hgv⟩ := id C0
  have hC := CX_law C0
  have hbA : ¬ (fun q : Nat => s.heap.size ≤ q) b := Nat.not_le.mpr hbl
  refine lv_aload_n hx hb dw_899 rfl (lv_at hl 2 rfl) ?_
  refine law_ld (j := 1) (L := 5) hx hb hX hbl hbA hW.2.2.2.1 (lv_at hl 3 rfl) (lv_at hl 0 rfl) (v := 1) dw_900 dw_901 dw_902 dw_903 dw_904 (by decide) (by decide) (by decide) (by decide) ?_
  refine law_ld (j := 2) (L := 5) hx hb hX hbl hbA hW.2.2.2.1 (lv_at hl 3 rfl) (lv_at hl 0 rfl) (v := 2) dw_905 dw_906 dw_907 dw_908 dw_909 (by decide) (by decide) (by decide) (by decide) ?_
  refine law_X (vs := [xs 1, xs 2]) (rest := []) kcf_133 (Nat.le_of_ble_eq_true rfl) rfl rfl rfl kw_934 kw_935 kw_936 dw_910 hC hW hq1 hq2 hSX hl.1 (Nat.le_of_ble_eq_true rfl) (by decide) (by decide) (fun ws2 H1 locs1 hW2 hq => ?_)
  refine lv_aload_n hx hb dw_913 rfl (lv_at hl 1 rfl) ?_
  refine law_ld (j := 1) (L := 5) hx hb hX hbl hbA hW2.2.2.2.1 (lv_at hl 3 rfl) (lv_at hl 0 rfl) (v := 1) dw_914 dw_915 dw_916 dw_917 dw_918 (by decide) (by decide) (by decide) (by decide) ?_
  refine law_ld (j := 2) (L := 5) hx hb hX hbl hbA hW2.2.2.2.1 (lv_at hl 3 rfl) (lv_at hl 0 rfl) (v := 2) dw_919 dw_920 dw_921 dw_922 dw_923 (by decide) (by decide) (by decide) (by decide) ?_
  refine law_M (vs := [xs 1, xs 2]) (rest := [.int (a_i32 n)]) kcf_196 (Nat.le_of_ble_eq_true rfl) rfl rfl rfl kw_937 kw_595 kw_596 dw_924 hC hW2 hq hSM hl.1 (Nat.le_of_ble_eq_true rfl) (by decide) (by decide) (fun H2 locs2 hS2 => ?_)
  refine lv_icmp_eq (tgt := 965) hx hb dw_927 (by decide) (fun _ => law_end C0 hS2 hl) (fun h => absurd rfl h)
set_option maxRecDepth 20000 in
set_option maxHeartbeats 2000000 in
theorem law_22 {p : Program} {e : Env} {s : State} {m : MethodId} {below : List Frame} {meth : Method} {c : Code} {l : Launch} {b q1 q2 n : Nat} {xs : Nat → Int32} (C0 : lw_At p s m meth c b 5 xs) {gv : Nat → Int32} {cA : Nat → ClassId} {D : va_G} {ws : va_W} {H : Heap} {locs : List Loc} {ls : Array Slot} (hSX : SideX kM_134 [none, none] gv [xs 1, xs 2] n) (hSM : SideM kM_197 [none, none, none, none] gv [xs 1, xs 2] n) (hW : WD gv cA D (fun q : Nat => s.heap.size ≤ q) s k_HJ ws H locs) (hq1 : (adr ws)[0]? = some q1) (hq2 : (adr ws)[105]? = some q2) (hl : lv_has ls 4 [(3, .int 0), (2, .ref q2), (1, .ref q1), (0, .ref b)]) : W p l e room_1 s m #[Value.ref b] below meth c H locs 140 3200385 (lw_Z below #[Value.ref b] s) (F0 m 932 ls []) := by
  obtain ⟨hx, hb, hr, hml, hown, hts, hX, hbl, hlocks, hgv⟩ := id C0
  have hC := CX_law C0
  have hbA : ¬ (fun q : Nat => s.heap.size ≤ q) b := Nat.not_le.mpr hbl
  refine lv_aload_n hx hb dw_932 rfl (lv_at hl 2 rfl) ?_
  refine law_ld (j := 1) (L := 5) hx hb hX hbl hbA hW.2.2.2.1 (lv_at hl 3 rfl) (lv_at hl 0 rfl) (v := 1) dw_933 dw_934 dw_935 dw_936 dw_937 (by decide) (by decide) (by decide) (by decide) ?_
  refine law_ld (j := 2) (L := 5) hx hb hX hbl hbA hW.2.2.2.1 (lv_at hl 3 rfl) (lv_at hl 0 rfl) (v := 2) dw_938 dw_939 dw_940 dw_941 dw_942 (by decide) (by decide) (by decide) (by decide) ?_
  refine law_X (vs := [xs 1, xs 2]) (rest := []) kcf_134 (Nat.le_of_ble_eq_true rfl) rfl rfl rfl kw_938 kw_939 kw_940 dw_943 hC hW hq1 hq2 hSX hl.1 (Nat.le_of_ble_eq_true rfl) (by decide) (by decide) (fun ws2 H1 locs1 hW2 hq => ?_)
  refine lv_aload_n hx hb dw_946 rfl (lv_at hl 1 rfl) ?_
  refine law_ld (j := 1) (L := 5) hx hb hX hbl hbA hW2.2.2.2.1 (lv_at hl 3 rfl) (lv_at hl 0 rfl) (v := 1) dw_947 dw_948 dw_949 dw_950 dw_951 (by decide) (by decide) (by decide) (by decide) ?_
  refine law_ld (j := 2) (L := 5) hx hb hX hbl hbA hW2.2.2.2.1 (lv_at hl 3 rfl) (lv_at hl 0 rfl) (v := 2) dw_952 dw_953 dw_954 dw_955 dw_956 (by decide) (by decide) (by decide) (by decide) ?_
  refine law_M (vs := [xs 1, xs 2]) (rest := [.int (a_i32 n)]) kcf_197 (Nat.le_of_ble_eq_true rfl) rfl rfl rfl kw_941 kw_942 kw_943 dw_957 hC hW2 hq hSM hl.1 (Nat.le_of_ble_eq_true rfl) (by decide) (by decide) (fun H2 locs2 hS2 => ?_)
  refine lv_icmp_eq (tgt := 965) hx hb dw_960 (by decide) (fun _ => law_end C0 hS2 hl) (fun h => absurd rfl h)
