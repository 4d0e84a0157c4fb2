def dlb_4l : List (Nat × Instr × Nat) := [(843, .istore 4, 2), (845, .iinc 5 5, 3), (848, .iload 4, 2), (850, .iload 15, 2), (852, .iconst (-1), 1), (853, .if_icmp .ge 14, 3), (856, .aload_n 1, 1), (857, .iload_n 3, 1), (858, .invokestatic 136, 3), (861, .lload 7, 2), (863, .lcmp, 1), (864, .ifCond .ne 50, 3), (867, .aload_n 1, 1), (868, .aload_n 0, 1), (869, .iload 5, 2), (871, .iload_n 3, 1), (872, .invokestatic 123, 3), (875, .aload_n 0, 1), (876, .iload 5, 2), (878, .iconst 1, 1), (879, .iadd, 1), (880, .sipush 360, 3), (883, .invokestatic 123, 3), (886, .invokestatic 178, 3), (889, .ifCond .eq 25, 3), (892, .iload 6, 2), (894, .bipush 10, 2), (896, .irem, 1), (897, .bipush 9, 2), (899, .if_icmp .lt 11, 3), (902, .aload_n 1, 1), (903, .iload_n 3, 1), (904, .invokestatic 182, 3), (907, .ifCond .eq 7, 3), (910, .iconst 1, 1), (911, .goto 4, 3), (914, .iconst 0, 1), (915, .iand, 1), (916, .istore 4, 2), (918, .iinc 6 1, 3), (921, .goto (-743), 3), (924, .iload 4, 2), (926, .ifCond .eq 15, 3), (929, .aload_n 1, 1), (930, .iload_n 3, 1), (931, .invokestatic 182, 3), (934, .ifCond .eq 7, 3), (937, .iconst 1, 1), (938, .goto 4, 3), (941, .iconst 0, 1), (942, .ireturn, 1)]
theorem dlb_4 : dcl (fun k => decode cL_law k) dlb_4l = true := by decide +kernel
theorem dL_law_843 : decode cL_law 843 = .ok (.istore 4, 2) := dcl_at (f := fun k => decode cL_law k) dlb_4 0 rfl
theorem dL_law_845 : decode cL_law 845 = .ok (.iinc 5 5, 3) := dcl_at (f := fun k => decode cL_law k) dlb_4 1 rfl
theorem dL_law_848 : decode cL_law 848 = .ok (.iload 4, 2) := dcl_at (f := fun k => decode cL_law k) dlb_4 2 rfl
theorem dL_law_850 : decode cL_law 850 = .ok (.iload 15, 2) := dcl_at (f := fun k => decode cL_law k) dlb_4 3 rfl
theorem dL_law_852 : decode cL_law 852 = .ok (.iconst (-1), 1) := dcl_at (f := fun k => decode cL_law k) dlb_4 4 rfl
theorem dL_law_853 : decode cL_law 853 = .ok (.if_icmp .ge 14, 3) := dcl_at (f := fun k => decode cL_law k) dlb_4 5 rfl
theorem dL_law_856 : decode cL_law 856 = .ok (.aload_n 1, 1) := dcl_at (f := fun k => decode cL_law k) dlb_4 6 rfl
theorem dL_law_857 : decode cL_law 857 = .ok (.iload_n 3, 1) := dcl_at (f := fun k => decode cL_law k) dlb_4 7 rfl
theorem dL_law_858 : decode cL_law 858 = .ok (.invokestatic 136, 3) := dcl_at (f := fun k => decode cL_law k) dlb_4 8 rfl
theorem dL_law_861 : decode cL_law 861 = .ok (.lload 7, 2) := dcl_at (f := fun k => decode cL_law k) dlb_4 9 rfl
theorem dL_law_863 : decode cL_law 863 = .ok (.lcmp, 1) := dcl_at (f := fun k => decode cL_law k) dlb_4 10 rfl
theorem dL_law_864 : decode cL_law 864 = .ok (.ifCond .ne 50, 3) := dcl_at (f := fun k => decode cL_law k) dlb_4 11 rfl
theorem dL_law_867 : decode cL_law 867 = .ok (.aload_n 1, 1) := dcl_at (f := fun k => decode cL_law k) dlb_4 12 rfl
theorem dL_law_868 : decode cL_law 868 = .ok (.aload_n 0, 1) := dcl_at (f := fun k => decode cL_law k) dlb_4 13 rfl
theorem dL_law_869 : decode cL_law 869 = .ok (.iload 5, 2) := dcl_at (f := fun k => decode cL_law k) dlb_4 14 rfl
theorem dL_law_871 : decode cL_law 871 = .ok (.iload_n 3, 1) := dcl_at (f := fun k => decode cL_law k) dlb_4 15 rfl
theorem dL_law_872 : decode cL_law 872 = .ok (.invokestatic 123, 3) := dcl_at (f := fun k => decode cL_law k) dlb_4 16 rfl
theorem dL_law_875 : decode cL_law 875 = .ok (.aload_n 0, 1) := dcl_at (f := fun k => decode cL_law k) dlb_4 17 rfl
theorem dL_law_876 : decode cL_law 876 = .ok (.iload 5, 2) := dcl_at (f := fun k => decode cL_law k) dlb_4 18 rfl
theorem dL_law_878 : decode cL_law 878 = .ok (.iconst 1, 1) := dcl_at (f := fun k => decode cL_law k) dlb_4 19 rfl
theorem dL_law_879 : decode cL_law 879 = .ok (.iadd, 1) := dcl_at (f := fun k => decode cL_law k) dlb_4 20 rfl
theorem dL_law_880 : decode cL_law 880 = .ok (.sipush 360, 3) := dcl_at (f := fun k => decode cL_law k) dlb_4 21 rfl
theorem dL_law_883 : decode cL_law 883 = .ok (.invokestatic 123, 3) := dcl_at (f := fun k => decode cL_law k) dlb_4 22 rfl
theorem dL_law_886 : decode cL_law 886 = .ok (.invokestatic 178, 3) := dcl_at (f := fun k => decode cL_law k) dlb_4 23 rfl
theorem dL_law_889 : decode cL_law 889 = .ok (.ifCond .eq 25, 3) := dcl_at (f := fun k => decode cL_law k) dlb_4 24 rfl
theorem dL_law_892 : decode cL_law 892 = .ok (.iload 6, 2) := dcl_at (f := fun k => decode cL_law k) dlb_4 25 rfl
theorem dL_law_894 : decode cL_law 894 = .ok (.bipush 10, 2) := dcl_at (f := fun k => decode cL_law k) dlb_4 26 rfl
theorem dL_law_896 : decode cL_law 896 = .ok (.irem, 1) := dcl_at (f := fun k => decode cL_law k) dlb_4 27 rfl
theorem dL_law_897 : decode cL_law 897 = .ok (.bipush 9, 2) := dcl_at (f := fun k => decode cL_law k) dlb_4 28 rfl
theorem dL_law_899 : decode cL_law 899 = .ok (.if_icmp .lt 11, 3) := dcl_at (f := fun k => decode cL_law k) dlb_4 29 rfl
theorem dL_law_902 : decode cL_law 902 = .ok (.aload_n 1, 1) := dcl_at (f := fun k => decode cL_law k) dlb_4 30 rfl
theorem dL_law_903 : decode cL_law 903 = .ok (.iload_n 3, 1) := dcl_at (f := fun k => decode cL_law k) dlb_4 31 rfl
theorem dL_law_904 : decode cL_law 904 = .ok (.invokestatic 182, 3) := dcl_at (f := fun k => decode cL_law k) dlb_4 32 rfl
theorem dL_law_907 : decode cL_law 907 = .ok (.ifCond .eq 7, 3) := dcl_at (f := fun k => decode cL_law k) dlb_4 33 rfl
theorem dL_law_910 : decode cL_law 910 = .ok (.iconst 1, 1) := dcl_at (f := fun k => decode cL_law k) dlb_4 34 rfl
theorem dL_law_911 : decode cL_law 911 = .ok (.goto 4, 3) := dcl_at (f := fun k => decode cL_law k) dlb_4 35 rfl
theorem dL_law_914 : decode cL_law 914 = .ok (.iconst 0, 1) := dcl_at (f := fun k => decode cL_law k) dlb_4 36 rfl
theorem dL_law_915 : decode cL_law 915 = .ok (.iand, 1) := dcl_at (f := fun k => decode cL_law k) dlb_4 37 rfl
theorem dL_law_916 : decode cL_law 916 = .ok (.istore 4, 2) := dcl_at (f := fun k => decode cL_law k) dlb_4 38 rfl
theorem dL_law_918 : decode cL_law 918 = .ok (.iinc 6 1, 3) := dcl_at (f := fun k => decode cL_law k) dlb_4 39 rfl
theorem dL_law_921 : decode cL_law 921 = .ok (.goto (-743), 3) := dcl_at (f := fun k => decode cL_law k) dlb_4 40 rfl
theorem dL_law_924 : decode cL_law 924 = .ok (.iload 4, 2) := dcl_at (f := fun k => decode cL_law k) dlb_4 41 rfl
theorem dL_law_926 : decode cL_law 926 = .ok (.ifCond .eq 15, 3) := dcl_at (f := fun k => decode cL_law k) dlb_4 42 rfl
theorem dL_law_929 : decode cL_law 929 = .ok (.aload_n 1, 1) := dcl_at (f := fun k => decode cL_law k) dlb_4 43 rfl
theorem dL_law_930 : decode cL_law 930 = .ok (.iload_n 3, 1) := dcl_at (f := fun k => decode cL_law k) dlb_4 44 rfl
theorem dL_law_931 : decode cL_law 931 = .ok (.invokestatic 182, 3) := dcl_at (f := fun k => decode cL_law k) dlb_4 45 rfl
theorem dL_law_934 : decode cL_law 934 = .ok (.ifCond .eq 7, 3) := dcl_at (f := fun k => decode cL_law k) dlb_4 46 rfl
theorem dL_law_937 : decode cL_law 937 = .ok (.iconst 1, 1) := dcl_at (f := fun k => decode cL_law k) dlb_4 47 rfl
theorem dL_law_938 : decode cL_law 938 = .ok (.goto 4, 3) := dcl_at (f := fun k => decode cL_law k) dlb_4 48 rfl
theorem dL_law_941 : decode cL_law 941 = .ok (.iconst 0, 1) := dcl_at (f := fun k => decode cL_law k) dlb_4 49 rfl
theorem dL_law_942 : decode cL_law 942 = .ok (.ireturn, 1) := dcl_at (f := fun k => decode cL_law k) dlb_4 50 rfl
