/-! ===== the law, decoded ===== -/
set_option maxRecDepth 20000 in
theorem dw_624 : decode code 624 = .ok (.iadd, 1) := by decide +kernel
set_option maxRecDepth 20000 in
theorem dw_625 : decode code 625 = .ok (.iaload, 1) := by decide +kernel
set_option maxRecDepth 20000 in
theorem dw_626 : decode code 626 = .ok (.invokevirtual 70, 3) := by decide +kernel
set_option maxRecDepth 20000 in
theorem dw_629 : decode code 629 = .ok (.aload_n 2, 1) := by decide +kernel
set_option maxRecDepth 20000 in
theorem dw_630 : decode code 630 = .ok (.aload_n 0, 1) := by decide +kernel
set_option maxRecDepth 20000 in
theorem dw_631 : decode code 631 = .ok (.iload_n 3, 1) := by decide +kernel
set_option maxRecDepth 20000 in
theorem dw_632 : decode code 632 = .ok (.iconst 1, 1) := by decide +kernel
set_option maxRecDepth 20000 in
theorem dw_633 : decode code 633 = .ok (.iadd, 1) := by decide +kernel
set_option maxRecDepth 20000 in
theorem dw_634 : decode code 634 = .ok (.iaload, 1) := by decide +kernel
set_option maxRecDepth 20000 in
theorem dw_635 : decode code 635 = .ok (.aload_n 0, 1) := by decide +kernel
set_option maxRecDepth 20000 in
theorem dw_636 : decode code 636 = .ok (.iload_n 3, 1) := by decide +kernel
set_option maxRecDepth 20000 in
theorem dw_637 : decode code 637 = .ok (.iconst 2, 1) := by decide +kernel
set_option maxRecDepth 20000 in
theorem dw_638 : decode code 638 = .ok (.iadd, 1) := by decide +kernel
set_option maxRecDepth 20000 in
theorem dw_639 : decode code 639 = .ok (.iaload, 1) := by decide +kernel
set_option maxRecDepth 20000 in
theorem dw_640 : decode code 640 = .ok (.invokevirtual 73, 3) := by decide +kernel
set_option maxRecDepth 20000 in
theorem dw_643 : decode code 643 = .ok (.if_icmp .eq 322, 3) := by decide +kernel
set_option maxRecDepth 20000 in
theorem dw_646 : decode code 646 = .ok (.iconst 0, 1) := by decide +kernel
set_option maxRecDepth 20000 in
theorem dw_647 : decode code 647 = .ok (.ireturn, 1) := by decide +kernel
set_option maxRecDepth 20000 in
theorem dw_648 : decode code 648 = .ok (.aload_n 1, 1) := by decide +kernel
set_option maxRecDepth 20000 in
theorem dw_649 : decode code 649 = .ok (.aload_n 0, 1) := by decide +kernel
set_option maxRecDepth 20000 in
theorem dw_650 : decode code 650 = .ok (.iload_n 3, 1) := by decide +kernel
set_option maxRecDepth 20000 in
theorem dw_651 : decode code 651 = .ok (.iconst 1, 1) := by decide +kernel
set_option maxRecDepth 20000 in
theorem dw_652 : decode code 652 = .ok (.iadd, 1) := by decide +kernel
set_option maxRecDepth 20000 in
theorem dw_653 : decode code 653 = .ok (.iaload, 1) := by decide +kernel
set_option maxRecDepth 20000 in
theorem dw_654 : decode code 654 = .ok (.aload_n 0, 1) := by decide +kernel
set_option maxRecDepth 20000 in
theorem dw_655 : decode code 655 = .ok (.iload_n 3, 1) := by decide +kernel
set_option maxRecDepth 20000 in
theorem dw_656 : decode code 656 = .ok (.iconst 2, 1) := by decide +kernel
set_option maxRecDepth 20000 in
theorem dw_657 : decode code 657 = .ok (.iadd, 1) := by decide +kernel
set_option maxRecDepth 20000 in
theorem dw_658 : decode code 658 = .ok (.iaload, 1) := by decide +kernel
set_option maxRecDepth 20000 in
theorem dw_659 : decode code 659 = .ok (.aload_n 0, 1) := by decide +kernel
set_option maxRecDepth 20000 in
theorem dw_660 : decode code 660 = .ok (.iload_n 3, 1) := by decide +kernel
set_option maxRecDepth 20000 in
theorem dw_661 : decode code 661 = .ok (.iconst 3, 1) := by decide +kernel
set_option maxRecDepth 20000 in
theorem dw_662 : decode code 662 = .ok (.iadd, 1) := by decide +kernel
set_option maxRecDepth 20000 in
theorem dw_663 : decode code 663 = .ok (.iaload, 1) := by decide +kernel
set_option maxRecDepth 20000 in
theorem dw_664 : decode code 664 = .ok (.aload_n 0, 1) := by decide +kernel
set_option maxRecDepth 20000 in
theorem dw_665 : decode code 665 = .ok (.iload_n 3, 1) := by decide +kernel
set_option maxRecDepth 20000 in
theorem dw_666 : decode code 666 = .ok (.iconst 4, 1) := by decide +kernel
set_option maxRecDepth 20000 in
theorem dw_667 : decode code 667 = .ok (.iadd, 1) := by decide +kernel
set_option maxRecDepth 20000 in
theorem dw_668 : decode code 668 = .ok (.iaload, 1) := by decide +kernel
set_option maxRecDepth 20000 in
theorem dw_669 : decode code 669 = .ok (.invokevirtual 74, 3) := by decide +kernel
set_option maxRecDepth 20000 in
theorem dw_672 : decode code 672 = .ok (.aload_n 2, 1) := by decide +kernel
set_option maxRecDepth 20000 in
theorem dw_673 : decode code 673 = .ok (.aload_n 0, 1) := by decide +kernel
set_option maxRecDepth 20000 in
theorem dw_674 : decode code 674 = .ok (.iload_n 3, 1) := by decide +kernel
set_option maxRecDepth 20000 in
theorem dw_675 : decode code 675 = .ok (.iconst 1, 1) := by decide +kernel
set_option maxRecDepth 20000 in
theorem dw_676 : decode code 676 = .ok (.iadd, 1) := by decide +kernel
set_option maxRecDepth 20000 in
theorem dw_677 : decode code 677 = .ok (.iaload, 1) := by decide +kernel
set_option maxRecDepth 20000 in
theorem dw_678 : decode code 678 = .ok (.aload_n 0, 1) := by decide +kernel
set_option maxRecDepth 20000 in
theorem dw_679 : decode code 679 = .ok (.iload_n 3, 1) := by decide +kernel
set_option maxRecDepth 20000 in
theorem dw_680 : decode code 680 = .ok (.iconst 2, 1) := by decide +kernel
set_option maxRecDepth 20000 in
theorem dw_681 : decode code 681 = .ok (.iadd, 1) := by decide +kernel
set_option maxRecDepth 20000 in
theorem dw_682 : decode code 682 = .ok (.iaload, 1) := by decide +kernel
set_option maxRecDepth 20000 in
theorem dw_683 : decode code 683 = .ok (.aload_n 0, 1) := by decide +kernel
set_option maxRecDepth 20000 in
theorem dw_684 : decode code 684 = .ok (.iload_n 3, 1) := by decide +kernel
set_option maxRecDepth 20000 in
theorem dw_685 : decode code 685 = .ok (.iconst 3, 1) := by decide +kernel
set_option maxRecDepth 20000 in
theorem dw_686 : decode code 686 = .ok (.iadd, 1) := by decide +kernel
set_option maxRecDepth 20000 in
theorem dw_687 : decode code 687 = .ok (.iaload, 1) := by decide +kernel
set_option maxRecDepth 20000 in
theorem dw_688 : decode code 688 = .ok (.aload_n 0, 1) := by decide +kernel
set_option maxRecDepth 20000 in
theorem dw_689 : decode code 689 = .ok (.iload_n 3, 1) := by decide +kernel
set_option maxRecDepth 20000 in
theorem dw_690 : decode code 690 = .ok (.iconst 4, 1) := by decide +kernel
set_option maxRecDepth 20000 in
theorem dw_691 : decode code 691 = .ok (.iadd, 1) := by decide +kernel
