theorem dL_refuses_841 : decode cL_refuses 841 = .ok (.istore 14, 2) := by decide +kernel
theorem dL_refuses_843 : decode cL_refuses 843 = .ok (.iload 14, 2) := by decide +kernel
theorem dL_refuses_845 : decode cL_refuses 845 = .ok (.ifCond .ne 5, 3) := by decide +kernel
theorem dL_refuses_848 : decode cL_refuses 848 = .ok (.iconst 0, 1) := by decide +kernel
theorem dL_refuses_849 : decode cL_refuses 849 = .ok (.ireturn, 1) := by decide +kernel
theorem dL_refuses_850 : decode cL_refuses 850 = .ok (.iinc 7 1, 3) := by decide +kernel
theorem dL_refuses_853 : decode cL_refuses 853 = .ok (.goto (-822), 3) := by decide +kernel
theorem dL_refuses_856 : decode cL_refuses 856 = .ok (.aload_n 0, 1) := by decide +kernel
theorem dL_refuses_857 : decode cL_refuses 857 = .ok (.invokevirtual 75, 3) := by decide +kernel
theorem dL_refuses_860 : decode cL_refuses 860 = .ok (.iload_n 3, 1) := by decide +kernel
theorem dL_refuses_861 : decode cL_refuses 861 = .ok (.if_icmp .ne 32, 3) := by decide +kernel
theorem dL_refuses_864 : decode cL_refuses 864 = .ok (.aload_n 0, 1) := by decide +kernel
theorem dL_refuses_865 : decode cL_refuses 865 = .ok (.iconst 0, 1) := by decide +kernel
theorem dL_refuses_866 : decode cL_refuses 866 = .ok (.iconst 0, 1) := by decide +kernel
theorem dL_refuses_867 : decode cL_refuses 867 = .ok (.sipush 363, 3) := by decide +kernel
theorem dL_refuses_870 : decode cL_refuses 870 = .ok (.invokevirtual 60, 3) := by decide +kernel
theorem dL_refuses_873 : decode cL_refuses 873 = .ok (.iload 4, 2) := by decide +kernel
theorem dL_refuses_875 : decode cL_refuses 875 = .ok (.if_icmp .ne 18, 3) := by decide +kernel
theorem dL_refuses_878 : decode cL_refuses 878 = .ok (.aload_n 0, 1) := by decide +kernel
theorem dL_refuses_879 : decode cL_refuses 879 = .ok (.iconst 0, 1) := by decide +kernel
theorem dL_refuses_880 : decode cL_refuses 880 = .ok (.iconst 0, 1) := by decide +kernel
theorem dL_refuses_881 : decode cL_refuses 881 = .ok (.invokevirtual 67, 3) := by decide +kernel
theorem dL_refuses_884 : decode cL_refuses 884 = .ok (.iload 5, 2) := by decide +kernel
theorem dL_refuses_886 : decode cL_refuses 886 = .ok (.if_icmp .ne 7, 3) := by decide +kernel
theorem dL_refuses_889 : decode cL_refuses 889 = .ok (.iconst 1, 1) := by decide +kernel
theorem dL_refuses_890 : decode cL_refuses 890 = .ok (.goto 4, 3) := by decide +kernel
theorem dL_refuses_893 : decode cL_refuses 893 = .ok (.iconst 0, 1) := by decide +kernel
theorem dL_refuses_894 : decode cL_refuses 894 = .ok (.ireturn, 1) := by decide +kernel
