theorem ld_672 : decode code 672 = .ok (.aload_n 1, 1) := by decide +kernel
theorem ld_673 : la_dA 673 1 := ⟨by decide +kernel, by decide +kernel, by decide +kernel, by decide +kernel, by decide +kernel⟩
theorem ld_678 : la_dA 678 2 := ⟨by decide +kernel, by decide +kernel, by decide +kernel, by decide +kernel, by decide +kernel⟩
theorem ld_683 : decode code 683 = .ok (.invokevirtual 89, 3) := by decide +kernel
theorem ld_686 : decode code 686 = .ok (.aload_n 2, 1) := by decide +kernel
theorem ld_687 : la_dA 687 1 := ⟨by decide +kernel, by decide +kernel, by decide +kernel, by decide +kernel, by decide +kernel⟩
theorem ld_692 : la_dA 692 2 := ⟨by decide +kernel, by decide +kernel, by decide +kernel, by decide +kernel, by decide +kernel⟩
theorem ld_697 : decode code 697 = .ok (.invokevirtual 92, 3) := by decide +kernel
theorem ld_700 : decode code 700 = .ok (.if_icmp .eq 173, 3) := by decide +kernel
theorem ld_705 : decode code 705 = .ok (.aload_n 1, 1) := by decide +kernel
theorem ld_706 : la_dA 706 1 := ⟨by decide +kernel, by decide +kernel, by decide +kernel, by decide +kernel, by decide +kernel⟩
theorem ld_711 : la_dA 711 2 := ⟨by decide +kernel, by decide +kernel, by decide +kernel, by decide +kernel, by decide +kernel⟩
theorem ld_716 : decode code 716 = .ok (.invokevirtual 93, 3) := by decide +kernel
theorem ld_719 : decode code 719 = .ok (.aload_n 2, 1) := by decide +kernel
theorem ld_720 : la_dA 720 1 := ⟨by decide +kernel, by decide +kernel, by decide +kernel, by decide +kernel, by decide +kernel⟩
theorem ld_725 : la_dA 725 2 := ⟨by decide +kernel, by decide +kernel, by decide +kernel, by decide +kernel, by decide +kernel⟩
theorem ld_730 : decode code 730 = .ok (.invokevirtual 96, 3) := by decide +kernel
theorem ld_733 : decode code 733 = .ok (.if_icmp .eq 140, 3) := by decide +kernel
theorem ld_738 : decode code 738 = .ok (.aload_n 1, 1) := by decide +kernel
theorem ld_739 : la_dA 739 1 := ⟨by decide +kernel, by decide +kernel, by decide +kernel, by decide +kernel, by decide +kernel⟩
theorem ld_744 : decode code 744 = .ok (.invokevirtual 97, 3) := by decide +kernel
theorem ld_747 : decode code 747 = .ok (.aload_n 2, 1) := by decide +kernel
theorem ld_748 : la_dA 748 1 := ⟨by decide +kernel, by decide +kernel, by decide +kernel, by decide +kernel, by decide +kernel⟩
theorem ld_753 : decode code 753 = .ok (.invokevirtual 100, 3) := by decide +kernel
theorem ld_756 : decode code 756 = .ok (.if_icmp .eq 117, 3) := by decide +kernel
theorem ld_761 : decode code 761 = .ok (.aload_n 1, 1) := by decide +kernel
theorem ld_762 : la_dA 762 1 := ⟨by decide +kernel, by decide +kernel, by decide +kernel, by decide +kernel, by decide +kernel⟩
theorem ld_767 : decode code 767 = .ok (.invokevirtual 101, 3) := by decide +kernel
theorem ld_770 : decode code 770 = .ok (.aload_n 2, 1) := by decide +kernel
theorem ld_771 : la_dA 771 1 := ⟨by decide +kernel, by decide +kernel, by decide +kernel, by decide +kernel, by decide +kernel⟩
theorem ld_776 : decode code 776 = .ok (.invokevirtual 104, 3) := by decide +kernel
theorem ld_779 : decode code 779 = .ok (.if_icmp .eq 94, 3) := by decide +kernel
theorem ld_784 : decode code 784 = .ok (.aload_n 1, 1) := by decide +kernel
theorem ld_785 : la_dA 785 1 := ⟨by decide +kernel, by decide +kernel, by decide +kernel, by decide +kernel, by decide +kernel⟩
theorem ld_790 : la_dA 790 2 := ⟨by decide +kernel, by decide +kernel, by decide +kernel, by decide +kernel, by decide +kernel⟩
theorem ld_795 : decode code 795 = .ok (.invokevirtual 105, 3) := by decide +kernel
theorem ld_798 : decode code 798 = .ok (.aload_n 2, 1) := by decide +kernel
theorem ld_799 : la_dA 799 1 := ⟨by decide +kernel, by decide +kernel, by decide +kernel, by decide +kernel, by decide +kernel⟩
theorem ld_804 : la_dA 804 2 := ⟨by decide +kernel, by decide +kernel, by decide +kernel, by decide +kernel, by decide +kernel⟩
theorem ld_809 : decode code 809 = .ok (.invokevirtual 108, 3) := by decide +kernel
theorem ld_812 : decode code 812 = .ok (.if_icmp .eq 61, 3) := by decide +kernel
theorem ld_817 : decode code 817 = .ok (.aload_n 1, 1) := by decide +kernel
theorem ld_818 : la_dA 818 1 := ⟨by decide +kernel, by decide +kernel, by decide +kernel, by decide +kernel, by decide +kernel⟩
theorem ld_823 : la_dA 823 2 := ⟨by decide +kernel, by decide +kernel, by decide +kernel, by decide +kernel, by decide +kernel⟩
theorem ld_828 : decode code 828 = .ok (.invokevirtual 109, 3) := by decide +kernel
theorem ld_831 : decode code 831 = .ok (.aload_n 2, 1) := by decide +kernel
theorem ld_832 : la_dA 832 1 := ⟨by decide +kernel, by decide +kernel, by decide +kernel, by decide +kernel, by decide +kernel⟩
theorem ld_837 : la_dA 837 2 := ⟨by decide +kernel, by decide +kernel, by decide +kernel, by decide +kernel, by decide +kernel⟩
theorem ld_842 : decode code 842 = .ok (.invokevirtual 112, 3) := by decide +kernel
theorem ld_845 : decode code 845 = .ok (.if_icmp .eq 28, 3) := by decide +kernel
theorem ld_850 : decode code 850 = .ok (.aload_n 1, 1) := by decide +kernel
theorem ld_851 : la_dA 851 1 := ⟨by decide +kernel, by decide +kernel, by decide +kernel, by decide +kernel, by decide +kernel⟩
theorem ld_856 : decode code 856 = .ok (.invokevirtual 113, 3) := by decide +kernel
theorem ld_859 : decode code 859 = .ok (.aload_n 2, 1) := by decide +kernel
theorem ld_860 : la_dA 860 1 := ⟨by decide +kernel, by decide +kernel, by decide +kernel, by decide +kernel, by decide +kernel⟩
theorem ld_865 : decode code 865 = .ok (.invokevirtual 116, 3) := by decide +kernel
theorem ld_868 : decode code 868 = .ok (.if_icmp .eq 5, 3) := by decide +kernel
