theorem dL_draws_27 : decode cL_draws 27 = .ok (.iconst 1, 1) := by decide +kernel
theorem dL_draws_28 : decode cL_draws 28 = .ok (.istore 5, 2) := by decide +kernel
theorem dL_draws_30 : decode cL_draws 30 = .ok (.iload 5, 2) := by decide +kernel
theorem dL_draws_32 : decode cL_draws 32 = .ok (.bipush 45, 2) := by decide +kernel
theorem dL_draws_34 : decode cL_draws 34 = .ok (.if_icmp .ge 33, 3) := by decide +kernel
theorem dL_draws_37 : decode cL_draws 37 = .ok (.iload 4, 2) := by decide +kernel
theorem dL_draws_39 : decode cL_draws 39 = .ok (.ifCond .ne 28, 3) := by decide +kernel
theorem dL_draws_42 : decode cL_draws 42 = .ok (.aload_n 0, 1) := by decide +kernel
theorem dL_draws_43 : decode cL_draws 43 = .ok (.iload_n 1, 1) := by decide +kernel
theorem dL_draws_44 : decode cL_draws 44 = .ok (.iload 5, 2) := by decide +kernel
theorem dL_draws_46 : decode cL_draws 46 = .ok (.invokevirtual 70, 3) := by decide +kernel
theorem dL_draws_49 : decode cL_draws 49 = .ok (.bipush 40, 2) := by decide +kernel
theorem dL_draws_51 : decode cL_draws 51 = .ok (.if_icmp .ne 7, 3) := by decide +kernel
theorem dL_draws_54 : decode cL_draws 54 = .ok (.iconst 1, 1) := by decide +kernel
theorem dL_draws_55 : decode cL_draws 55 = .ok (.goto 4, 3) := by decide +kernel
theorem dL_draws_58 : decode cL_draws 58 = .ok (.iconst 0, 1) := by decide +kernel
theorem dL_draws_59 : decode cL_draws 59 = .ok (.istore 4, 2) := by decide +kernel
theorem dL_draws_61 : decode cL_draws 61 = .ok (.iinc 5 1, 3) := by decide +kernel
theorem dL_draws_64 : decode cL_draws 64 = .ok (.goto (-34), 3) := by decide +kernel
theorem dL_draws_67 : decode cL_draws 67 = .ok (.iload_n 3, 1) := by decide +kernel
theorem dL_draws_68 : decode cL_draws 68 = .ok (.bipush (-5), 2) := by decide +kernel
theorem dL_draws_70 : decode cL_draws 70 = .ok (.if_icmp .eq 10, 3) := by decide +kernel
theorem dL_draws_73 : decode cL_draws 73 = .ok (.aload_n 0, 1) := by decide +kernel
theorem dL_draws_74 : decode cL_draws 74 = .ok (.invokevirtual 76, 3) := by decide +kernel
theorem dL_draws_77 : decode cL_draws 77 = .ok (.ifCond .lt 12, 3) := by decide +kernel
theorem dL_draws_80 : decode cL_draws 80 = .ok (.iload 4, 2) := by decide +kernel
theorem dL_draws_82 : decode cL_draws 82 = .ok (.ifCond .eq 7, 3) := by decide +kernel
theorem dL_draws_85 : decode cL_draws 85 = .ok (.iconst 1, 1) := by decide +kernel
theorem dL_draws_86 : decode cL_draws 86 = .ok (.goto 4, 3) := by decide +kernel
theorem dL_draws_89 : decode cL_draws 89 = .ok (.iconst 0, 1) := by decide +kernel
theorem dL_draws_90 : decode cL_draws 90 = .ok (.ireturn, 1) := by decide +kernel
