theorem dL_known_753 : decode cL_known 753 = .ok (.if_icmp .ne 70, 3) := by decide +kernel
theorem dL_known_756 : decode cL_known 756 = .ok (.aload_n 0, 1) := by decide +kernel
theorem dL_known_757 : decode cL_known 757 = .ok (.iconst 2, 1) := by decide +kernel
theorem dL_known_758 : decode cL_known 758 = .ok (.iconst 0, 1) := by decide +kernel
theorem dL_known_759 : decode cL_known 759 = .ok (.invokevirtual 36, 3) := by decide +kernel
theorem dL_known_762 : decode cL_known 762 = .ok (.bipush (-4), 2) := by decide +kernel
theorem dL_known_764 : decode cL_known 764 = .ok (.if_icmp .ne 59, 3) := by decide +kernel
theorem dL_known_767 : decode cL_known 767 = .ok (.aload_n 0, 1) := by decide +kernel
theorem dL_known_768 : decode cL_known 768 = .ok (.iconst 2, 1) := by decide +kernel
theorem dL_known_769 : decode cL_known 769 = .ok (.sipush 1300, 3) := by decide +kernel
theorem dL_known_772 : decode cL_known 772 = .ok (.invokevirtual 87, 3) := by decide +kernel
theorem dL_known_775 : decode cL_known 775 = .ok (.bipush (-2), 2) := by decide +kernel
theorem dL_known_777 : decode cL_known 777 = .ok (.if_icmp .ne 46, 3) := by decide +kernel
theorem dL_known_780 : decode cL_known 780 = .ok (.aload_n 0, 1) := by decide +kernel
theorem dL_known_781 : decode cL_known 781 = .ok (.iconst 2, 1) := by decide +kernel
theorem dL_known_782 : decode cL_known 782 = .ok (.sipush 1099, 3) := by decide +kernel
theorem dL_known_785 : decode cL_known 785 = .ok (.invokevirtual 87, 3) := by decide +kernel
theorem dL_known_788 : decode cL_known 788 = .ok (.sipush 200, 3) := by decide +kernel
theorem dL_known_791 : decode cL_known 791 = .ok (.if_icmp .ne 32, 3) := by decide +kernel
theorem dL_known_794 : decode cL_known 794 = .ok (.aload_n 0, 1) := by decide +kernel
theorem dL_known_795 : decode cL_known 795 = .ok (.iconst 0, 1) := by decide +kernel
theorem dL_known_796 : decode cL_known 796 = .ok (.bipush 7, 2) := by decide +kernel
theorem dL_known_798 : decode cL_known 798 = .ok (.invokevirtual 29, 3) := by decide +kernel
theorem dL_known_801 : decode cL_known 801 = .ok (.ifCond .ne 22, 3) := by decide +kernel
theorem dL_known_804 : decode cL_known 804 = .ok (.aload_n 0, 1) := by decide +kernel
theorem dL_known_805 : decode cL_known 805 = .ok (.iconst 0, 1) := by decide +kernel
theorem dL_known_806 : decode cL_known 806 = .ok (.iconst 2, 1) := by decide +kernel
theorem dL_known_807 : decode cL_known 807 = .ok (.invokevirtual 29, 3) := by decide +kernel
theorem dL_known_810 : decode cL_known 810 = .ok (.iconst 1, 1) := by decide +kernel
theorem dL_known_811 : decode cL_known 811 = .ok (.if_icmp .ne 12, 3) := by decide +kernel
theorem dL_known_814 : decode cL_known 814 = .ok (.aload_n 0, 1) := by decide +kernel
theorem dL_known_815 : decode cL_known 815 = .ok (.iconst 0, 1) := by decide +kernel
theorem dL_known_816 : decode cL_known 816 = .ok (.iconst 3, 1) := by decide +kernel
theorem dL_known_817 : decode cL_known 817 = .ok (.invokevirtual 29, 3) := by decide +kernel
theorem dL_known_820 : decode cL_known 820 = .ok (.ifCond .eq 5, 3) := by decide +kernel
theorem dL_known_823 : decode cL_known 823 = .ok (.iconst 0, 1) := by decide +kernel
theorem dL_known_824 : decode cL_known 824 = .ok (.ireturn, 1) := by decide +kernel
theorem dL_known_825 : decode cL_known 825 = .ok (.aload_n 0, 1) := by decide +kernel
theorem dL_known_826 : decode cL_known 826 = .ok (.iconst 1, 1) := by decide +kernel
theorem dL_known_827 : decode cL_known 827 = .ok (.sipush 1260, 3) := by decide +kernel
theorem dL_known_830 : decode cL_known 830 = .ok (.bipush 100, 2) := by decide +kernel
theorem dL_known_832 : decode cL_known 832 = .ok (.invokevirtual 48, 3) := by decide +kernel
theorem dL_known_835 : decode cL_known 835 = .ok (.bipush 6, 2) := by decide +kernel
theorem dL_known_837 : decode cL_known 837 = .ok (.if_icmp .ne 205, 3) := by decide +kernel
theorem dL_known_840 : decode cL_known 840 = .ok (.aload_n 0, 1) := by decide +kernel
theorem dL_known_841 : decode cL_known 841 = .ok (.iconst 2, 1) := by decide +kernel
theorem dL_known_842 : decode cL_known 842 = .ok (.sipush 1260, 3) := by decide +kernel
theorem dL_known_845 : decode cL_known 845 = .ok (.bipush 100, 2) := by decide +kernel
theorem dL_known_847 : decode cL_known 847 = .ok (.invokevirtual 48, 3) := by decide +kernel
theorem dL_known_850 : decode cL_known 850 = .ok (.bipush 6, 2) := by decide +kernel
theorem dL_known_852 : decode cL_known 852 = .ok (.if_icmp .ne 190, 3) := by decide +kernel
theorem dL_known_855 : decode cL_known 855 = .ok (.aload_n 0, 1) := by decide +kernel
theorem dL_known_856 : decode cL_known 856 = .ok (.iconst 1, 1) := by decide +kernel
theorem dL_known_857 : decode cL_known 857 = .ok (.iconst 1, 1) := by decide +kernel
theorem dL_known_858 : decode cL_known 858 = .ok (.iconst 2, 1) := by decide +kernel
theorem dL_known_859 : decode cL_known 859 = .ok (.iconst 1, 1) := by decide +kernel
theorem dL_known_860 : decode cL_known 860 = .ok (.invokevirtual 63, 3) := by decide +kernel
theorem dL_known_863 : decode cL_known 863 = .ok (.sipush 177, 3) := by decide +kernel
theorem dL_known_866 : decode cL_known 866 = .ok (.if_icmp .ne 176, 3) := by decide +kernel
theorem dL_known_869 : decode cL_known 869 = .ok (.aload_n 0, 1) := by decide +kernel
theorem dL_known_870 : decode cL_known 870 = .ok (.iconst 1, 1) := by decide +kernel
theorem dL_known_871 : decode cL_known 871 = .ok (.iconst 3, 1) := by decide +kernel
theorem dL_known_872 : decode cL_known 872 = .ok (.iconst 2, 1) := by decide +kernel
theorem dL_known_873 : decode cL_known 873 = .ok (.iconst 1, 1) := by decide +kernel
theorem dL_known_874 : decode cL_known 874 = .ok (.invokevirtual 63, 3) := by decide +kernel
theorem dL_known_877 : decode cL_known 877 = .ok (.sipush 882, 3) := by decide +kernel
theorem dL_known_880 : decode cL_known 880 = .ok (.if_icmp .ne 162, 3) := by decide +kernel
theorem dL_known_883 : decode cL_known 883 = .ok (.aload_n 0, 1) := by decide +kernel
theorem dL_known_884 : decode cL_known 884 = .ok (.iconst 1, 1) := by decide +kernel
theorem dL_known_885 : decode cL_known 885 = .ok (.iconst 2, 1) := by decide +kernel
theorem dL_known_886 : decode cL_known 886 = .ok (.iconst 2, 1) := by decide +kernel
theorem dL_known_887 : decode cL_known 887 = .ok (.iconst 1, 1) := by decide +kernel
theorem dL_known_888 : decode cL_known 888 = .ok (.invokevirtual 63, 3) := by decide +kernel
theorem dL_known_891 : decode cL_known 891 = .ok (.bipush (-4), 2) := by decide +kernel
theorem dL_known_893 : decode cL_known 893 = .ok (.if_icmp .ne 149, 3) := by decide +kernel
theorem dL_known_896 : decode cL_known 896 = .ok (.aload_n 0, 1) := by decide +kernel
theorem dL_known_897 : decode cL_known 897 = .ok (.iconst 1, 1) := by decide +kernel
theorem dL_known_898 : decode cL_known 898 = .ok (.iconst 2, 1) := by decide +kernel
theorem dL_known_899 : decode cL_known 899 = .ok (.iconst 0, 1) := by decide +kernel
