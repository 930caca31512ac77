/-! ===== the law, decoded ===== -/
set_option maxRecDepth 20000 in
theorem dw_768 : decode code 768 = .ok (.aload_n 0, 1) := by decide +kernel
set_option maxRecDepth 20000 in
theorem dw_769 : decode code 769 = .ok (.iload_n 3, 1) := by decide +kernel
set_option maxRecDepth 20000 in
theorem dw_770 : decode code 770 = .ok (.iconst 1, 1) := by decide +kernel
set_option maxRecDepth 20000 in
theorem dw_771 : decode code 771 = .ok (.iadd, 1) := by decide +kernel
set_option maxRecDepth 20000 in
theorem dw_772 : decode code 772 = .ok (.iaload, 1) := by decide +kernel
set_option maxRecDepth 20000 in
theorem dw_773 : decode code 773 = .ok (.invokevirtual 87, 3) := by decide +kernel
set_option maxRecDepth 20000 in
theorem dw_776 : decode code 776 = .ok (.aload_n 2, 1) := by decide +kernel
set_option maxRecDepth 20000 in
theorem dw_777 : decode code 777 = .ok (.aload_n 0, 1) := by decide +kernel
set_option maxRecDepth 20000 in
theorem dw_778 : decode code 778 = .ok (.iload_n 3, 1) := by decide +kernel
set_option maxRecDepth 20000 in
theorem dw_779 : decode code 779 = .ok (.iconst 1, 1) := by decide +kernel
set_option maxRecDepth 20000 in
theorem dw_780 : decode code 780 = .ok (.iadd, 1) := by decide +kernel
set_option maxRecDepth 20000 in
theorem dw_781 : decode code 781 = .ok (.iaload, 1) := by decide +kernel
set_option maxRecDepth 20000 in
theorem dw_782 : decode code 782 = .ok (.invokevirtual 90, 3) := by decide +kernel
set_option maxRecDepth 20000 in
theorem dw_785 : decode code 785 = .ok (.if_icmp .eq 180, 3) := by decide +kernel
set_option maxRecDepth 20000 in
theorem dw_788 : decode code 788 = .ok (.iconst 0, 1) := by decide +kernel
set_option maxRecDepth 20000 in
theorem dw_789 : decode code 789 = .ok (.ireturn, 1) := by decide +kernel
set_option maxRecDepth 20000 in
theorem dw_790 : decode code 790 = .ok (.aload_n 1, 1) := by decide +kernel
set_option maxRecDepth 20000 in
theorem dw_791 : decode code 791 = .ok (.aload_n 0, 1) := by decide +kernel
set_option maxRecDepth 20000 in
theorem dw_792 : decode code 792 = .ok (.iload_n 3, 1) := by decide +kernel
set_option maxRecDepth 20000 in
theorem dw_793 : decode code 793 = .ok (.iconst 1, 1) := by decide +kernel
set_option maxRecDepth 20000 in
theorem dw_794 : decode code 794 = .ok (.iadd, 1) := by decide +kernel
set_option maxRecDepth 20000 in
theorem dw_795 : decode code 795 = .ok (.iaload, 1) := by decide +kernel
set_option maxRecDepth 20000 in
theorem dw_796 : decode code 796 = .ok (.aload_n 0, 1) := by decide +kernel
set_option maxRecDepth 20000 in
theorem dw_797 : decode code 797 = .ok (.iload_n 3, 1) := by decide +kernel
set_option maxRecDepth 20000 in
theorem dw_798 : decode code 798 = .ok (.iconst 2, 1) := by decide +kernel
set_option maxRecDepth 20000 in
theorem dw_799 : decode code 799 = .ok (.iadd, 1) := by decide +kernel
set_option maxRecDepth 20000 in
theorem dw_800 : decode code 800 = .ok (.iaload, 1) := by decide +kernel
set_option maxRecDepth 20000 in
theorem dw_801 : decode code 801 = .ok (.invokevirtual 91, 3) := by decide +kernel
set_option maxRecDepth 20000 in
theorem dw_804 : decode code 804 = .ok (.aload_n 2, 1) := by decide +kernel
set_option maxRecDepth 20000 in
theorem dw_805 : decode code 805 = .ok (.aload_n 0, 1) := by decide +kernel
set_option maxRecDepth 20000 in
theorem dw_806 : decode code 806 = .ok (.iload_n 3, 1) := by decide +kernel
set_option maxRecDepth 20000 in
theorem dw_807 : decode code 807 = .ok (.iconst 1, 1) := by decide +kernel
set_option maxRecDepth 20000 in
theorem dw_808 : decode code 808 = .ok (.iadd, 1) := by decide +kernel
set_option maxRecDepth 20000 in
theorem dw_809 : decode code 809 = .ok (.iaload, 1) := by decide +kernel
set_option maxRecDepth 20000 in
theorem dw_810 : decode code 810 = .ok (.aload_n 0, 1) := by decide +kernel
set_option maxRecDepth 20000 in
theorem dw_811 : decode code 811 = .ok (.iload_n 3, 1) := by decide +kernel
set_option maxRecDepth 20000 in
theorem dw_812 : decode code 812 = .ok (.iconst 2, 1) := by decide +kernel
set_option maxRecDepth 20000 in
theorem dw_813 : decode code 813 = .ok (.iadd, 1) := by decide +kernel
set_option maxRecDepth 20000 in
theorem dw_814 : decode code 814 = .ok (.iaload, 1) := by decide +kernel
set_option maxRecDepth 20000 in
theorem dw_815 : decode code 815 = .ok (.invokevirtual 94, 3) := by decide +kernel
set_option maxRecDepth 20000 in
theorem dw_818 : decode code 818 = .ok (.if_icmp .eq 147, 3) := by decide +kernel
set_option maxRecDepth 20000 in
theorem dw_821 : decode code 821 = .ok (.iconst 0, 1) := by decide +kernel
set_option maxRecDepth 20000 in
theorem dw_822 : decode code 822 = .ok (.ireturn, 1) := by decide +kernel
set_option maxRecDepth 20000 in
theorem dw_823 : decode code 823 = .ok (.aload_n 1, 1) := by decide +kernel
set_option maxRecDepth 20000 in
theorem dw_824 : decode code 824 = .ok (.aload_n 0, 1) := by decide +kernel
set_option maxRecDepth 20000 in
theorem dw_825 : decode code 825 = .ok (.iload_n 3, 1) := by decide +kernel
set_option maxRecDepth 20000 in
theorem dw_826 : decode code 826 = .ok (.iconst 1, 1) := by decide +kernel
set_option maxRecDepth 20000 in
theorem dw_827 : decode code 827 = .ok (.iadd, 1) := by decide +kernel
set_option maxRecDepth 20000 in
theorem dw_828 : decode code 828 = .ok (.iaload, 1) := by decide +kernel
set_option maxRecDepth 20000 in
theorem dw_829 : decode code 829 = .ok (.aload_n 0, 1) := by decide +kernel
set_option maxRecDepth 20000 in
theorem dw_830 : decode code 830 = .ok (.iload_n 3, 1) := by decide +kernel
set_option maxRecDepth 20000 in
theorem dw_831 : decode code 831 = .ok (.iconst 2, 1) := by decide +kernel
set_option maxRecDepth 20000 in
theorem dw_832 : decode code 832 = .ok (.iadd, 1) := by decide +kernel
set_option maxRecDepth 20000 in
theorem dw_833 : decode code 833 = .ok (.iaload, 1) := by decide +kernel
set_option maxRecDepth 20000 in
theorem dw_834 : decode code 834 = .ok (.invokevirtual 95, 3) := by decide +kernel
set_option maxRecDepth 20000 in
theorem dw_837 : decode code 837 = .ok (.aload_n 2, 1) := by decide +kernel
set_option maxRecDepth 20000 in
theorem dw_838 : decode code 838 = .ok (.aload_n 0, 1) := by decide +kernel
set_option maxRecDepth 20000 in
theorem dw_839 : decode code 839 = .ok (.iload_n 3, 1) := by decide +kernel
set_option maxRecDepth 20000 in
theorem dw_840 : decode code 840 = .ok (.iconst 1, 1) := by decide +kernel
set_option maxRecDepth 20000 in
theorem dw_841 : decode code 841 = .ok (.iadd, 1) := by decide +kernel
