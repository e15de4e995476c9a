theorem d_Model_valid_795 : decode prog_14_method_34_code 795 = .ok (.invokevirtual 351, 3) := by decide +kernel
theorem d_Model_valid_779 : decode prog_14_method_34_code 779 = .ok (.aload_n 0, 1) := by decide +kernel
theorem d_Model_valid_780 : decode prog_14_method_34_code 780 = .ok (.getfield 16, 3) := by decide +kernel
theorem d_Model_valid_783 : decode prog_14_method_34_code 783 = .ok (.getfield 116, 3) := by decide +kernel
theorem d_Model_valid_786 : decode prog_14_method_34_code 786 = .ok (.iconst 1, 1) := by decide +kernel
theorem d_Model_valid_787 : decode prog_14_method_34_code 787 = .ok (.if_icmp .ne 7, 3) := by decide +kernel
theorem d_Model_valid_790 : decode prog_14_method_34_code 790 = .ok (.iconst 1, 1) := by decide +kernel
theorem d_Model_valid_791 : decode prog_14_method_34_code 791 = .ok (.goto 4, 3) := by decide +kernel
theorem d_Model_valid_798 : decode prog_14_method_34_code 798 = .ok (.aload_n 0, 1) := by decide +kernel
theorem d_Model_valid_799 : decode prog_14_method_34_code 799 = .ok (.iconst 1, 1) := by decide +kernel
theorem d_Model_valid_800 : decode prog_14_method_34_code 800 = .ok (.invokevirtual 372, 3) := by decide +kernel
theorem d_Model_valid_803 : decode prog_14_method_34_code 803 = .ok (.pop, 1) := by decide +kernel
theorem d_Model_valid_804 : decode prog_14_method_34_code 804 = .ok (.aload_n 0, 1) := by decide +kernel
theorem d_Model_valid_805 : decode prog_14_method_34_code 805 = .ok (.lload 7, 2) := by decide +kernel
theorem d_Model_valid_807 : decode prog_14_method_34_code 807 = .ok (.l2i, 1) := by decide +kernel
theorem d_Model_valid_808 : decode prog_14_method_34_code 808 = .ok (.invokevirtual 396, 3) := by decide +kernel
theorem d_Model_valid_811 : decode prog_14_method_34_code 811 = .ok (.goto 342, 3) := by decide +kernel
theorem d_Model_valid_814 : decode prog_14_method_34_code 814 = .ok (.aload_n 0, 1) := by decide +kernel
theorem d_Model_valid_815 : decode prog_14_method_34_code 815 = .ok (.iconst 3, 1) := by decide +kernel
theorem d_Model_valid_816 : decode prog_14_method_34_code 816 = .ok (.invokevirtual 372, 3) := by decide +kernel
theorem d_Model_valid_819 : decode prog_14_method_34_code 819 = .ok (.pop, 1) := by decide +kernel
theorem d_Model_valid_820 : decode prog_14_method_34_code 820 = .ok (.goto 333, 3) := by decide +kernel
theorem d_Model_valid_823 : decode prog_14_method_34_code 823 = .ok (.aload_n 0, 1) := by decide +kernel
theorem d_Model_valid_824 : decode prog_14_method_34_code 824 = .ok (.iconst 1, 1) := by decide +kernel
theorem d_Model_valid_825 : decode prog_14_method_34_code 825 = .ok (.invokevirtual 372, 3) := by decide +kernel
theorem d_Model_valid_828 : decode prog_14_method_34_code 828 = .ok (.pop, 1) := by decide +kernel
theorem d_Model_valid_829 : decode prog_14_method_34_code 829 = .ok (.aload_n 0, 1) := by decide +kernel
theorem d_Model_valid_830 : decode prog_14_method_34_code 830 = .ok (.iconst 3, 1) := by decide +kernel
theorem d_Model_valid_831 : decode prog_14_method_34_code 831 = .ok (.invokevirtual 372, 3) := by decide +kernel
theorem d_Model_valid_834 : decode prog_14_method_34_code 834 = .ok (.istore 7, 2) := by decide +kernel
theorem d_Model_valid_836 : decode prog_14_method_34_code 836 = .ok (.aload_n 0, 1) := by decide +kernel
theorem d_Model_valid_837 : decode prog_14_method_34_code 837 = .ok (.iload 7, 2) := by decide +kernel
theorem d_Model_valid_839 : decode prog_14_method_34_code 839 = .ok (.invokevirtual 372, 3) := by decide +kernel
theorem d_Model_valid_842 : decode prog_14_method_34_code 842 = .ok (.istore 8, 2) := by decide +kernel
theorem d_Model_valid_844 : decode prog_14_method_34_code 844 = .ok (.aload_n 0, 1) := by decide +kernel
theorem d_Model_valid_845 : decode prog_14_method_34_code 845 = .ok (.iload 8, 2) := by decide +kernel
theorem d_Model_valid_847 : decode prog_14_method_34_code 847 = .ok (.iconst 3, 1) := by decide +kernel
theorem d_Model_valid_848 : decode prog_14_method_34_code 848 = .ok (.if_icmp .ne 8, 3) := by decide +kernel
theorem d_Model_valid_856 : decode prog_14_method_34_code 856 = .ok (.iload 8, 2) := by decide +kernel
theorem d_Model_valid_858 : decode prog_14_method_34_code 858 = .ok (.invokevirtual 387, 3) := by decide +kernel
theorem d_Model_valid_861 : decode prog_14_method_34_code 861 = .ok (.goto 292, 3) := by decide +kernel
theorem d_Model_valid_851 : decode prog_14_method_34_code 851 = .ok (.iload 7, 2) := by decide +kernel
theorem d_Model_valid_853 : decode prog_14_method_34_code 853 = .ok (.goto 5, 3) := by decide +kernel
theorem d_Model_valid_864 : decode prog_14_method_34_code 864 = .ok (.aload_n 0, 1) := by decide +kernel
theorem d_Model_valid_865 : decode prog_14_method_34_code 865 = .ok (.invokevirtual 68, 3) := by decide +kernel
theorem d_Model_valid_868 : decode prog_14_method_34_code 868 = .ok (.lstore 7, 2) := by decide +kernel
theorem d_Model_valid_870 : decode prog_14_method_34_code 870 = .ok (.aload_n 0, 1) := by decide +kernel
theorem d_Model_valid_871 : decode prog_14_method_34_code 871 = .ok (.lload 7, 2) := by decide +kernel
theorem d_Model_valid_873 : decode prog_14_method_34_code 873 = .ok (.iload 5, 2) := by decide +kernel
theorem d_Model_valid_875 : decode prog_14_method_34_code 875 = .ok (.i2l, 1) := by decide +kernel
theorem d_Model_valid_876 : decode prog_14_method_34_code 876 = .ok (.lcmp, 1) := by decide +kernel
theorem d_Model_valid_877 : decode prog_14_method_34_code 877 = .ok (.ifCond .ge 7, 3) := by decide +kernel
theorem d_Model_valid_884 : decode prog_14_method_34_code 884 = .ok (.iconst 0, 1) := by decide +kernel
theorem d_Model_valid_885 : decode prog_14_method_34_code 885 = .ok (.invokevirtual 351, 3) := by decide +kernel
theorem d_Model_valid_880 : decode prog_14_method_34_code 880 = .ok (.iconst 1, 1) := by decide +kernel
theorem d_Model_valid_881 : decode prog_14_method_34_code 881 = .ok (.goto 4, 3) := by decide +kernel
theorem d_Model_valid_888 : decode prog_14_method_34_code 888 = .ok (.lload 7, 2) := by decide +kernel
theorem d_Model_valid_890 : decode prog_14_method_34_code 890 = .ok (.iload 4, 2) := by decide +kernel
theorem d_Model_valid_892 : decode prog_14_method_34_code 892 = .ok (.i2l, 1) := by decide +kernel
theorem d_Model_valid_893 : decode prog_14_method_34_code 893 = .ok (.lcmp, 1) := by decide +kernel
theorem d_Model_valid_894 : decode prog_14_method_34_code 894 = .ok (.ifCond .ge 22, 3) := by decide +kernel
theorem d_Model_valid_916 : decode prog_14_method_34_code 916 = .ok (.aload_n 0, 1) := by decide +kernel
theorem d_Model_valid_917 : decode prog_14_method_34_code 917 = .ok (.getfield 16, 3) := by decide +kernel
theorem d_Model_valid_920 : decode prog_14_method_34_code 920 = .ok (.getfield 324, 3) := by decide +kernel
theorem d_Model_valid_923 : decode prog_14_method_34_code 923 = .ok (.bipush 30, 2) := by decide +kernel
theorem d_Model_valid_925 : decode prog_14_method_34_code 925 = .ok (.iload_n 1, 1) := by decide +kernel
theorem d_Model_valid_926 : decode prog_14_method_34_code 926 = .ok (.imul, 1) := by decide +kernel
theorem d_Model_valid_927 : decode prog_14_method_34_code 927 = .ok (.lload 7, 2) := by decide +kernel
theorem d_Model_valid_929 : decode prog_14_method_34_code 929 = .ok (.l2i, 1) := by decide +kernel
theorem d_Model_valid_930 : decode prog_14_method_34_code 930 = .ok (.iadd, 1) := by decide +kernel
theorem d_Model_valid_931 : decode prog_14_method_34_code 931 = .ok (.iload 4, 2) := by decide +kernel
theorem d_Model_valid_933 : decode prog_14_method_34_code 933 = .ok (.isub, 1) := by decide +kernel
theorem d_Model_valid_934 : decode prog_14_method_34_code 934 = .ok (.iaload, 1) := by decide +kernel
theorem d_Model_valid_935 : decode prog_14_method_34_code 935 = .ok (.istore 9, 2) := by decide +kernel
theorem d_Model_valid_937 : decode prog_14_method_34_code 937 = .ok (.iload 6, 2) := by decide +kernel
theorem d_Model_valid_939 : decode prog_14_method_34_code 939 = .ok (.bipush 32, 2) := by decide +kernel
theorem d_Model_valid_941 : decode prog_14_method_34_code 941 = .ok (.if_icmp .eq 10, 3) := by decide +kernel
theorem d_Model_valid_951 : decode prog_14_method_34_code 951 = .ok (.iload 6, 2) := by decide +kernel
theorem d_Model_valid_953 : decode prog_14_method_34_code 953 = .ok (.bipush 33, 2) := by decide +kernel
theorem d_Model_valid_955 : decode prog_14_method_34_code 955 = .ok (.if_icmp .eq 198, 3) := by decide +kernel
theorem d_Model_valid_958 : decode prog_14_method_34_code 958 = .ok (.aload_n 0, 1) := by decide +kernel
theorem d_Model_valid_959 : decode prog_14_method_34_code 959 = .ok (.iload 9, 2) := by decide +kernel
theorem d_Model_valid_961 : decode prog_14_method_34_code 961 = .ok (.invokevirtual 387, 3) := by decide +kernel
theorem d_Model_valid_964 : decode prog_14_method_34_code 964 = .ok (.goto 189, 3) := by decide +kernel
theorem d_Model_valid_944 : decode prog_14_method_34_code 944 = .ok (.aload_n 0, 1) := by decide +kernel
theorem d_Model_valid_945 : decode prog_14_method_34_code 945 = .ok (.iload 9, 2) := by decide +kernel
theorem d_Model_valid_947 : decode prog_14_method_34_code 947 = .ok (.invokevirtual 372, 3) := by decide +kernel
theorem d_Model_valid_950 : decode prog_14_method_34_code 950 = .ok (.pop, 1) := by decide +kernel
theorem d_Model_valid_897 : decode prog_14_method_34_code 897 = .ok (.aload_n 0, 1) := by decide +kernel
theorem d_Model_valid_898 : decode prog_14_method_34_code 898 = .ok (.getfield 16, 3) := by decide +kernel
theorem d_Model_valid_901 : decode prog_14_method_34_code 901 = .ok (.getfield 225, 3) := by decide +kernel
theorem d_Model_valid_904 : decode prog_14_method_34_code 904 = .ok (.bipush 6, 2) := by decide +kernel
theorem d_Model_valid_906 : decode prog_14_method_34_code 906 = .ok (.iload_n 3, 1) := by decide +kernel
theorem d_Model_valid_907 : decode prog_14_method_34_code 907 = .ok (.imul, 1) := by decide +kernel
theorem d_Model_valid_908 : decode prog_14_method_34_code 908 = .ok (.lload 7, 2) := by decide +kernel
theorem d_Model_valid_910 : decode prog_14_method_34_code 910 = .ok (.l2i, 1) := by decide +kernel
theorem d_Model_valid_911 : decode prog_14_method_34_code 911 = .ok (.iadd, 1) := by decide +kernel
theorem d_Model_valid_912 : decode prog_14_method_34_code 912 = .ok (.iaload, 1) := by decide +kernel
theorem d_Model_valid_913 : decode prog_14_method_34_code 913 = .ok (.goto 22, 3) := by decide +kernel
theorem d_Model_valid_967 : decode prog_14_method_34_code 967 = .ok (.aload_n 0, 1) := by decide +kernel
