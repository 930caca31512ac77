/-! ===== the law, decoded ===== -/
set_option maxRecDepth 20000 in
theorem dw_554 : decode code 554 = .ok (.aload_n 0, 1) := by decide +kernel
set_option maxRecDepth 20000 in
theorem dw_555 : decode code 555 = .ok (.iload_n 3, 1) := by decide +kernel
set_option maxRecDepth 20000 in
theorem dw_556 : decode code 556 = .ok (.iconst 2, 1) := by decide +kernel
set_option maxRecDepth 20000 in
theorem dw_557 : decode code 557 = .ok (.iadd, 1) := by decide +kernel
set_option maxRecDepth 20000 in
theorem dw_558 : decode code 558 = .ok (.iaload, 1) := by decide +kernel
set_option maxRecDepth 20000 in
theorem dw_559 : decode code 559 = .ok (.aload_n 0, 1) := by decide +kernel
set_option maxRecDepth 20000 in
theorem dw_560 : decode code 560 = .ok (.iload_n 3, 1) := by decide +kernel
set_option maxRecDepth 20000 in
theorem dw_561 : decode code 561 = .ok (.iconst 3, 1) := by decide +kernel
set_option maxRecDepth 20000 in
theorem dw_562 : decode code 562 = .ok (.iadd, 1) := by decide +kernel
set_option maxRecDepth 20000 in
theorem dw_563 : decode code 563 = .ok (.iaload, 1) := by decide +kernel
set_option maxRecDepth 20000 in
theorem dw_564 : decode code 564 = .ok (.invokevirtual 65, 3) := by decide +kernel
set_option maxRecDepth 20000 in
theorem dw_567 : decode code 567 = .ok (.if_icmp .eq 398, 3) := by decide +kernel
set_option maxRecDepth 20000 in
theorem dw_570 : decode code 570 = .ok (.iconst 0, 1) := by decide +kernel
set_option maxRecDepth 20000 in
theorem dw_571 : decode code 571 = .ok (.ireturn, 1) := by decide +kernel
set_option maxRecDepth 20000 in
theorem dw_572 : decode code 572 = .ok (.aload_n 1, 1) := by decide +kernel
set_option maxRecDepth 20000 in
theorem dw_573 : decode code 573 = .ok (.aload_n 0, 1) := by decide +kernel
set_option maxRecDepth 20000 in
theorem dw_574 : decode code 574 = .ok (.iload_n 3, 1) := by decide +kernel
set_option maxRecDepth 20000 in
theorem dw_575 : decode code 575 = .ok (.iconst 1, 1) := by decide +kernel
set_option maxRecDepth 20000 in
theorem dw_576 : decode code 576 = .ok (.iadd, 1) := by decide +kernel
set_option maxRecDepth 20000 in
theorem dw_577 : decode code 577 = .ok (.iaload, 1) := by decide +kernel
set_option maxRecDepth 20000 in
theorem dw_578 : decode code 578 = .ok (.aload_n 0, 1) := by decide +kernel
set_option maxRecDepth 20000 in
theorem dw_579 : decode code 579 = .ok (.iload_n 3, 1) := by decide +kernel
set_option maxRecDepth 20000 in
theorem dw_580 : decode code 580 = .ok (.iconst 2, 1) := by decide +kernel
set_option maxRecDepth 20000 in
theorem dw_581 : decode code 581 = .ok (.iadd, 1) := by decide +kernel
set_option maxRecDepth 20000 in
theorem dw_582 : decode code 582 = .ok (.iaload, 1) := by decide +kernel
set_option maxRecDepth 20000 in
theorem dw_583 : decode code 583 = .ok (.aload_n 0, 1) := by decide +kernel
set_option maxRecDepth 20000 in
theorem dw_584 : decode code 584 = .ok (.iload_n 3, 1) := by decide +kernel
set_option maxRecDepth 20000 in
theorem dw_585 : decode code 585 = .ok (.iconst 3, 1) := by decide +kernel
set_option maxRecDepth 20000 in
theorem dw_586 : decode code 586 = .ok (.iadd, 1) := by decide +kernel
set_option maxRecDepth 20000 in
theorem dw_587 : decode code 587 = .ok (.iaload, 1) := by decide +kernel
set_option maxRecDepth 20000 in
theorem dw_588 : decode code 588 = .ok (.invokevirtual 66, 3) := by decide +kernel
set_option maxRecDepth 20000 in
theorem dw_591 : decode code 591 = .ok (.aload_n 2, 1) := by decide +kernel
set_option maxRecDepth 20000 in
theorem dw_592 : decode code 592 = .ok (.aload_n 0, 1) := by decide +kernel
set_option maxRecDepth 20000 in
theorem dw_593 : decode code 593 = .ok (.iload_n 3, 1) := by decide +kernel
set_option maxRecDepth 20000 in
theorem dw_594 : decode code 594 = .ok (.iconst 1, 1) := by decide +kernel
set_option maxRecDepth 20000 in
theorem dw_595 : decode code 595 = .ok (.iadd, 1) := by decide +kernel
set_option maxRecDepth 20000 in
theorem dw_596 : decode code 596 = .ok (.iaload, 1) := by decide +kernel
set_option maxRecDepth 20000 in
theorem dw_597 : decode code 597 = .ok (.aload_n 0, 1) := by decide +kernel
set_option maxRecDepth 20000 in
theorem dw_598 : decode code 598 = .ok (.iload_n 3, 1) := by decide +kernel
set_option maxRecDepth 20000 in
theorem dw_599 : decode code 599 = .ok (.iconst 2, 1) := by decide +kernel
set_option maxRecDepth 20000 in
theorem dw_600 : decode code 600 = .ok (.iadd, 1) := by decide +kernel
set_option maxRecDepth 20000 in
theorem dw_601 : decode code 601 = .ok (.iaload, 1) := by decide +kernel
set_option maxRecDepth 20000 in
theorem dw_602 : decode code 602 = .ok (.aload_n 0, 1) := by decide +kernel
set_option maxRecDepth 20000 in
theorem dw_603 : decode code 603 = .ok (.iload_n 3, 1) := by decide +kernel
set_option maxRecDepth 20000 in
theorem dw_604 : decode code 604 = .ok (.iconst 3, 1) := by decide +kernel
set_option maxRecDepth 20000 in
theorem dw_605 : decode code 605 = .ok (.iadd, 1) := by decide +kernel
set_option maxRecDepth 20000 in
theorem dw_606 : decode code 606 = .ok (.iaload, 1) := by decide +kernel
set_option maxRecDepth 20000 in
theorem dw_607 : decode code 607 = .ok (.invokevirtual 69, 3) := by decide +kernel
set_option maxRecDepth 20000 in
theorem dw_610 : decode code 610 = .ok (.if_icmp .eq 355, 3) := by decide +kernel
set_option maxRecDepth 20000 in
theorem dw_613 : decode code 613 = .ok (.iconst 0, 1) := by decide +kernel
set_option maxRecDepth 20000 in
theorem dw_614 : decode code 614 = .ok (.ireturn, 1) := by decide +kernel
set_option maxRecDepth 20000 in
theorem dw_615 : decode code 615 = .ok (.aload_n 1, 1) := by decide +kernel
set_option maxRecDepth 20000 in
theorem dw_616 : decode code 616 = .ok (.aload_n 0, 1) := by decide +kernel
set_option maxRecDepth 20000 in
theorem dw_617 : decode code 617 = .ok (.iload_n 3, 1) := by decide +kernel
set_option maxRecDepth 20000 in
theorem dw_618 : decode code 618 = .ok (.iconst 1, 1) := by decide +kernel
set_option maxRecDepth 20000 in
theorem dw_619 : decode code 619 = .ok (.iadd, 1) := by decide +kernel
set_option maxRecDepth 20000 in
theorem dw_620 : decode code 620 = .ok (.iaload, 1) := by decide +kernel
set_option maxRecDepth 20000 in
theorem dw_621 : decode code 621 = .ok (.aload_n 0, 1) := by decide +kernel
set_option maxRecDepth 20000 in
theorem dw_622 : decode code 622 = .ok (.iload_n 3, 1) := by decide +kernel
set_option maxRecDepth 20000 in
theorem dw_623 : decode code 623 = .ok (.iconst 2, 1) := by decide +kernel
