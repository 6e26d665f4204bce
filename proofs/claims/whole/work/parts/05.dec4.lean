theorem dX4_init_0 : decode cX4_init 0 = .ok (.aload_n 0, 1) := by decide +kernel
theorem dX4_init_1 : decode cX4_init 1 = .ok (.invokespecial 3, 3) := by decide +kernel
theorem dX4_init_4 : decode cX4_init 4 = .ok (.aload_n 0, 1) := by decide +kernel
theorem dX4_init_5 : decode cX4_init 5 = .ok (.new 9, 3) := by decide +kernel
theorem dX4_init_8 : decode cX4_init 8 = .ok (.dup, 1) := by decide +kernel
theorem dX4_init_9 : decode cX4_init 9 = .ok (.invokespecial 11, 3) := by decide +kernel
theorem dX4_init_12 : decode cX4_init 12 = .ok (.putfield 12, 3) := by decide +kernel
theorem dX4_init_15 : decode cX4_init 15 = .ok (.aload_n 0, 1) := by decide +kernel
theorem dX4_init_16 : decode cX4_init 16 = .ok (.new 9, 3) := by decide +kernel
theorem dX4_init_19 : decode cX4_init 19 = .ok (.dup, 1) := by decide +kernel
theorem dX4_init_20 : decode cX4_init 20 = .ok (.invokespecial 11, 3) := by decide +kernel
theorem dX4_init_23 : decode cX4_init 23 = .ok (.putfield 16, 3) := by decide +kernel
theorem dX4_init_26 : decode cX4_init 26 = .ok (.aload_n 0, 1) := by decide +kernel
theorem dX4_init_27 : decode cX4_init 27 = .ok (.new 9, 3) := by decide +kernel
theorem dX4_init_30 : decode cX4_init 30 = .ok (.dup, 1) := by decide +kernel
theorem dX4_init_31 : decode cX4_init 31 = .ok (.invokespecial 11, 3) := by decide +kernel
theorem dX4_init_34 : decode cX4_init 34 = .ok (.putfield 19, 3) := by decide +kernel
theorem dX4_init_37 : decode cX4_init 37 = .ok (.aload_n 0, 1) := by decide +kernel
theorem dX4_init_38 : decode cX4_init 38 = .ok (.iconst 0, 1) := by decide +kernel
theorem dX4_init_39 : decode cX4_init 39 = .ok (.putfield 22, 3) := by decide +kernel
theorem dX4_init_42 : decode cX4_init 42 = .ok (.aload_n 0, 1) := by decide +kernel
theorem dX4_init_43 : decode cX4_init 43 = .ok (.new 26, 3) := by decide +kernel
theorem dX4_init_46 : decode cX4_init 46 = .ok (.dup, 1) := by decide +kernel
theorem dX4_init_47 : decode cX4_init 47 = .ok (.invokespecial 28, 3) := by decide +kernel
theorem dX4_init_50 : decode cX4_init 50 = .ok (.putfield 29, 3) := by decide +kernel
theorem dX4_init_53 : decode cX4_init 53 = .ok (.aload_n 0, 1) := by decide +kernel
theorem dX4_init_54 : decode cX4_init 54 = .ok (.new 33, 3) := by decide +kernel
theorem dX4_init_57 : decode cX4_init 57 = .ok (.dup, 1) := by decide +kernel
theorem dX4_init_58 : decode cX4_init 58 = .ok (.invokespecial 35, 3) := by decide +kernel
theorem dX4_init_61 : decode cX4_init 61 = .ok (.putfield 36, 3) := by decide +kernel
theorem dX4_init_64 : decode cX4_init 64 = .ok (.aload_n 0, 1) := by decide +kernel
theorem dX4_init_65 : decode cX4_init 65 = .ok (.iconst 4, 1) := by decide +kernel
theorem dX4_init_66 : decode cX4_init 66 = .ok (.anewarray 40, 3) := by decide +kernel
theorem dX4_init_69 : decode cX4_init 69 = .ok (.putfield 42, 3) := by decide +kernel
theorem dX4_init_72 : decode cX4_init 72 = .ok (.iconst 0, 1) := by decide +kernel
theorem dX4_init_73 : decode cX4_init 73 = .ok (.istore_n 1, 1) := by decide +kernel
theorem dX4_init_74 : decode cX4_init 74 = .ok (.iload_n 1, 1) := by decide +kernel
theorem dX4_init_75 : decode cX4_init 75 = .ok (.iconst 4, 1) := by decide +kernel
theorem dX4_init_76 : decode cX4_init 76 = .ok (.if_icmp .ge 22, 3) := by decide +kernel
theorem dX4_init_79 : decode cX4_init 79 = .ok (.aload_n 0, 1) := by decide +kernel
theorem dX4_init_80 : decode cX4_init 80 = .ok (.getfield 42, 3) := by decide +kernel
theorem dX4_init_83 : decode cX4_init 83 = .ok (.iload_n 1, 1) := by decide +kernel
theorem dX4_init_84 : decode cX4_init 84 = .ok (.new 40, 3) := by decide +kernel
theorem dX4_init_87 : decode cX4_init 87 = .ok (.dup, 1) := by decide +kernel
theorem dX4_init_88 : decode cX4_init 88 = .ok (.invokespecial 46, 3) := by decide +kernel
theorem dX4_init_91 : decode cX4_init 91 = .ok (.aastore, 1) := by decide +kernel
theorem dX4_init_92 : decode cX4_init 92 = .ok (.iinc 1 1, 3) := by decide +kernel
theorem dX4_init_95 : decode cX4_init 95 = .ok (.goto (-21), 3) := by decide +kernel
theorem dX4_init_98 : decode cX4_init 98 = .ok (.aload_n 0, 1) := by decide +kernel
theorem dX4_init_99 : decode cX4_init 99 = .ok (.bipush 7, 2) := by decide +kernel
theorem dX4_init_101 : decode cX4_init 101 = .ok (.newarray .int, 2) := by decide +kernel
theorem dX4_init_103 : decode cX4_init 103 = .ok (.putfield 47, 3) := by decide +kernel
theorem dX4_init_106 : decode cX4_init 106 = .ok (.return_, 1) := by decide +kernel
theorem dX4_dust_0 : decode cX4_dust 0 = .ok (.iload_n 1, 1) := by decide +kernel
theorem dX4_dust_1 : decode cX4_dust 1 = .ok (.invokestatic 51, 3) := by decide +kernel
theorem dX4_dust_4 : decode cX4_dust 4 = .ok (.ifCond .eq 14, 3) := by decide +kernel
theorem dX4_dust_7 : decode cX4_dust 7 = .ok (.iload_n 2, 1) := by decide +kernel
theorem dX4_dust_8 : decode cX4_dust 8 = .ok (.iconst 0, 1) := by decide +kernel
theorem dX4_dust_9 : decode cX4_dust 9 = .ok (.sipush 9999, 3) := by decide +kernel
theorem dX4_dust_12 : decode cX4_dust 12 = .ok (.invokestatic 55, 3) := by decide +kernel
theorem dX4_dust_15 : decode cX4_dust 15 = .ok (.ifCond .ne 9, 3) := by decide +kernel
theorem dX4_dust_18 : decode cX4_dust 18 = .ok (.aload_n 0, 1) := by decide +kernel
theorem dX4_dust_19 : decode cX4_dust 19 = .ok (.iconst 0, 1) := by decide +kernel
theorem dX4_dust_20 : decode cX4_dust 20 = .ok (.invokevirtual 59, 3) := by decide +kernel
theorem dX4_dust_23 : decode cX4_dust 23 = .ok (.ireturn, 1) := by decide +kernel
theorem dX4_dust_24 : decode cX4_dust 24 = .ok (.aload_n 0, 1) := by decide +kernel
theorem dX4_dust_25 : decode cX4_dust 25 = .ok (.getfield 12, 3) := by decide +kernel
theorem dX4_dust_28 : decode cX4_dust 28 = .ok (.getfield 63, 3) := by decide +kernel
theorem dX4_dust_31 : decode cX4_dust 31 = .ok (.iload_n 1, 1) := by decide +kernel
theorem dX4_dust_32 : decode cX4_dust 32 = .ok (.iaload, 1) := by decide +kernel
theorem dX4_dust_33 : decode cX4_dust 33 = .ok (.istore_n 3, 1) := by decide +kernel
theorem dX4_dust_34 : decode cX4_dust 34 = .ok (.aload_n 0, 1) := by decide +kernel
theorem dX4_dust_35 : decode cX4_dust 35 = .ok (.getfield 12, 3) := by decide +kernel
theorem dX4_dust_38 : decode cX4_dust 38 = .ok (.getfield 63, 3) := by decide +kernel
theorem dX4_dust_41 : decode cX4_dust 41 = .ok (.iload_n 1, 1) := by decide +kernel
theorem dX4_dust_42 : decode cX4_dust 42 = .ok (.iload_n 2, 1) := by decide +kernel
theorem dX4_dust_43 : decode cX4_dust 43 = .ok (.iastore, 1) := by decide +kernel
theorem dX4_dust_44 : decode cX4_dust 44 = .ok (.iload_n 3, 1) := by decide +kernel
theorem dX4_dust_45 : decode cX4_dust 45 = .ok (.ireturn, 1) := by decide +kernel
theorem dX4_surface_0 : decode cX4_surface 0 = .ok (.iload_n 1, 1) := by decide +kernel
theorem dX4_surface_1 : decode cX4_surface 1 = .ok (.invokestatic 51, 3) := by decide +kernel
theorem dX4_surface_4 : decode cX4_surface 4 = .ok (.ifCond .ne 9, 3) := by decide +kernel
theorem dX4_surface_7 : decode cX4_surface 7 = .ok (.aload_n 0, 1) := by decide +kernel
theorem dX4_surface_8 : decode cX4_surface 8 = .ok (.iconst 0, 1) := by decide +kernel
theorem dX4_surface_9 : decode cX4_surface 9 = .ok (.invokevirtual 59, 3) := by decide +kernel
theorem dX4_surface_12 : decode cX4_surface 12 = .ok (.ireturn, 1) := by decide +kernel
theorem dX4_surface_13 : decode cX4_surface 13 = .ok (.iload_n 2, 1) := by decide +kernel
theorem dX4_surface_14 : decode cX4_surface 14 = .ok (.tableswitch 67 0 3 #[30, 40, 49, 58], 30) := by decide +kernel
theorem dX4_surface_44 : decode cX4_surface 44 = .ok (.aload_n 0, 1) := by decide +kernel
theorem dX4_surface_45 : decode cX4_surface 45 = .ok (.getfield 12, 3) := by decide +kernel
theorem dX4_surface_48 : decode cX4_surface 48 = .ok (.getfield 63, 3) := by decide +kernel
theorem dX4_surface_51 : decode cX4_surface 51 = .ok (.iload_n 1, 1) := by decide +kernel
theorem dX4_surface_52 : decode cX4_surface 52 = .ok (.iaload, 1) := by decide +kernel
theorem dX4_surface_53 : decode cX4_surface 53 = .ok (.ireturn, 1) := by decide +kernel
theorem dX4_surface_54 : decode cX4_surface 54 = .ok (.aload_n 0, 1) := by decide +kernel
theorem dX4_surface_55 : decode cX4_surface 55 = .ok (.getfield 12, 3) := by decide +kernel
theorem dX4_surface_58 : decode cX4_surface 58 = .ok (.iload_n 1, 1) := by decide +kernel
theorem dX4_surface_59 : decode cX4_surface 59 = .ok (.invokevirtual 66, 3) := by decide +kernel
theorem dX4_surface_62 : decode cX4_surface 62 = .ok (.ireturn, 1) := by decide +kernel
theorem dX4_surface_63 : decode cX4_surface 63 = .ok (.aload_n 0, 1) := by decide +kernel
theorem dX4_surface_64 : decode cX4_surface 64 = .ok (.getfield 12, 3) := by decide +kernel
theorem dX4_surface_67 : decode cX4_surface 67 = .ok (.iload_n 1, 1) := by decide +kernel
theorem dX4_surface_68 : decode cX4_surface 68 = .ok (.invokevirtual 69, 3) := by decide +kernel
theorem dX4_surface_71 : decode cX4_surface 71 = .ok (.ireturn, 1) := by decide +kernel
theorem dX4_surface_72 : decode cX4_surface 72 = .ok (.aload_n 0, 1) := by decide +kernel
theorem dX4_surface_73 : decode cX4_surface 73 = .ok (.getfield 12, 3) := by decide +kernel
theorem dX4_surface_76 : decode cX4_surface 76 = .ok (.iload_n 1, 1) := by decide +kernel
theorem dX4_surface_77 : decode cX4_surface 77 = .ok (.invokevirtual 72, 3) := by decide +kernel
theorem dX4_surface_80 : decode cX4_surface 80 = .ok (.ireturn, 1) := by decide +kernel
theorem dX4_surface_81 : decode cX4_surface 81 = .ok (.aload_n 0, 1) := by decide +kernel
theorem dX4_surface_82 : decode cX4_surface 82 = .ok (.iconst 0, 1) := by decide +kernel
theorem dX4_surface_83 : decode cX4_surface 83 = .ok (.invokevirtual 59, 3) := by decide +kernel
theorem dX4_surface_86 : decode cX4_surface 86 = .ok (.ireturn, 1) := by decide +kernel
theorem dX4_law_0 : decode cX4_law 0 = .ok (.iload_n 1, 1) := by decide +kernel
theorem dX4_law_1 : decode cX4_law 1 = .ok (.ifCond .ne 31, 3) := by decide +kernel
theorem dX4_law_4 : decode cX4_law 4 = .ok (.iload_n 2, 1) := by decide +kernel
theorem dX4_law_5 : decode cX4_law 5 = .ok (.iconst 0, 1) := by decide +kernel
theorem dX4_law_6 : decode cX4_law 6 = .ok (.bipush 99, 2) := by decide +kernel
theorem dX4_law_8 : decode cX4_law 8 = .ok (.invokestatic 55, 3) := by decide +kernel
theorem dX4_law_11 : decode cX4_law 11 = .ok (.ifCond .eq 21, 3) := by decide +kernel
theorem dX4_law_14 : decode cX4_law 14 = .ok (.aload_n 0, 1) := by decide +kernel
theorem dX4_law_15 : decode cX4_law 15 = .ok (.getfield 12, 3) := by decide +kernel
theorem dX4_law_18 : decode cX4_law 18 = .ok (.getfield 75, 3) := by decide +kernel
theorem dX4_law_21 : decode cX4_law 21 = .ok (.istore_n 3, 1) := by decide +kernel
theorem dX4_law_22 : decode cX4_law 22 = .ok (.aload_n 0, 1) := by decide +kernel
theorem dX4_law_23 : decode cX4_law 23 = .ok (.getfield 12, 3) := by decide +kernel
theorem dX4_law_26 : decode cX4_law 26 = .ok (.iload_n 2, 1) := by decide +kernel
theorem dX4_law_27 : decode cX4_law 27 = .ok (.putfield 75, 3) := by decide +kernel
theorem dX4_law_30 : decode cX4_law 30 = .ok (.iload_n 3, 1) := by decide +kernel
theorem dX4_law_31 : decode cX4_law 31 = .ok (.ireturn, 1) := by decide +kernel
theorem dX4_law_32 : decode cX4_law 32 = .ok (.iload_n 1, 1) := by decide +kernel
theorem dX4_law_33 : decode cX4_law 33 = .ok (.iconst 1, 1) := by decide +kernel
theorem dX4_law_34 : decode cX4_law 34 = .ok (.if_icmp .ne 31, 3) := by decide +kernel
theorem dX4_law_37 : decode cX4_law 37 = .ok (.iload_n 2, 1) := by decide +kernel
theorem dX4_law_38 : decode cX4_law 38 = .ok (.bipush (-3), 2) := by decide +kernel
theorem dX4_law_40 : decode cX4_law 40 = .ok (.iconst 3, 1) := by decide +kernel
theorem dX4_law_41 : decode cX4_law 41 = .ok (.invokestatic 55, 3) := by decide +kernel
theorem dX4_law_44 : decode cX4_law 44 = .ok (.ifCond .eq 21, 3) := by decide +kernel
theorem dX4_law_47 : decode cX4_law 47 = .ok (.aload_n 0, 1) := by decide +kernel
theorem dX4_law_48 : decode cX4_law 48 = .ok (.getfield 12, 3) := by decide +kernel
theorem dX4_law_51 : decode cX4_law 51 = .ok (.getfield 79, 3) := by decide +kernel
theorem dX4_law_54 : decode cX4_law 54 = .ok (.istore_n 3, 1) := by decide +kernel
theorem dX4_law_55 : decode cX4_law 55 = .ok (.aload_n 0, 1) := by decide +kernel
theorem dX4_law_56 : decode cX4_law 56 = .ok (.getfield 12, 3) := by decide +kernel
theorem dX4_law_59 : decode cX4_law 59 = .ok (.iload_n 2, 1) := by decide +kernel
theorem dX4_law_60 : decode cX4_law 60 = .ok (.putfield 79, 3) := by decide +kernel
theorem dX4_law_63 : decode cX4_law 63 = .ok (.iload_n 3, 1) := by decide +kernel
theorem dX4_law_64 : decode cX4_law 64 = .ok (.ireturn, 1) := by decide +kernel
theorem dX4_law_65 : decode cX4_law 65 = .ok (.aload_n 0, 1) := by decide +kernel
theorem dX4_law_66 : decode cX4_law 66 = .ok (.iconst 0, 1) := by decide +kernel
theorem dX4_law_67 : decode cX4_law 67 = .ok (.invokevirtual 59, 3) := by decide +kernel
theorem dX4_law_70 : decode cX4_law 70 = .ok (.ireturn, 1) := by decide +kernel
theorem dX4_tenant_0 : decode cX4_tenant 0 = .ok (.iload_n 1, 1) := by decide +kernel
theorem dX4_tenant_1 : decode cX4_tenant 1 = .ok (.invokestatic 82, 3) := by decide +kernel
theorem dX4_tenant_4 : decode cX4_tenant 4 = .ok (.ifCond .eq 10, 3) := by decide +kernel
theorem dX4_tenant_7 : decode cX4_tenant 7 = .ok (.iload_n 2, 1) := by decide +kernel
theorem dX4_tenant_8 : decode cX4_tenant 8 = .ok (.invokestatic 51, 3) := by decide +kernel
theorem dX4_tenant_11 : decode cX4_tenant 11 = .ok (.ifCond .ne 9, 3) := by decide +kernel
theorem dX4_tenant_14 : decode cX4_tenant 14 = .ok (.aload_n 0, 1) := by decide +kernel
theorem dX4_tenant_15 : decode cX4_tenant 15 = .ok (.iconst 0, 1) := by decide +kernel
theorem dX4_tenant_16 : decode cX4_tenant 16 = .ok (.invokevirtual 59, 3) := by decide +kernel
theorem dX4_tenant_19 : decode cX4_tenant 19 = .ok (.ireturn, 1) := by decide +kernel
theorem dX4_tenant_20 : decode cX4_tenant 20 = .ok (.aload_n 0, 1) := by decide +kernel
theorem dX4_tenant_21 : decode cX4_tenant 21 = .ok (.getfield 12, 3) := by decide +kernel
theorem dX4_tenant_24 : decode cX4_tenant 24 = .ok (.getfield 85, 3) := by decide +kernel
theorem dX4_tenant_27 : decode cX4_tenant 27 = .ok (.bipush 8, 2) := by decide +kernel
theorem dX4_tenant_29 : decode cX4_tenant 29 = .ok (.if_icmp .lt 9, 3) := by decide +kernel
theorem dX4_tenant_32 : decode cX4_tenant 32 = .ok (.aload_n 0, 1) := by decide +kernel
theorem dX4_tenant_33 : decode cX4_tenant 33 = .ok (.iconst 1, 1) := by decide +kernel
theorem dX4_tenant_34 : decode cX4_tenant 34 = .ok (.invokevirtual 59, 3) := by decide +kernel
theorem dX4_tenant_37 : decode cX4_tenant 37 = .ok (.ireturn, 1) := by decide +kernel
theorem dX4_tenant_38 : decode cX4_tenant 38 = .ok (.aload_n 0, 1) := by decide +kernel
theorem dX4_tenant_39 : decode cX4_tenant 39 = .ok (.getfield 12, 3) := by decide +kernel
theorem dX4_tenant_42 : decode cX4_tenant 42 = .ok (.iload_n 1, 1) := by decide +kernel
theorem dX4_tenant_43 : decode cX4_tenant 43 = .ok (.iload_n 2, 1) := by decide +kernel
theorem dX4_tenant_44 : decode cX4_tenant 44 = .ok (.invokevirtual 88, 3) := by decide +kernel
theorem dX4_tenant_47 : decode cX4_tenant 47 = .ok (.ireturn, 1) := by decide +kernel
theorem dX4_of_0 : decode cX4_of 0 = .ok (.aload_n 0, 1) := by decide +kernel
theorem dX4_of_1 : decode cX4_of 1 = .ok (.iload_n 1, 1) := by decide +kernel
theorem dX4_of_2 : decode cX4_of 2 = .ok (.invokevirtual 92, 3) := by decide +kernel
theorem dX4_of_5 : decode cX4_of 5 = .ok (.ifCond .ne 9, 3) := by decide +kernel
theorem dX4_of_8 : decode cX4_of 8 = .ok (.aload_n 0, 1) := by decide +kernel
theorem dX4_of_9 : decode cX4_of 9 = .ok (.iconst 0, 1) := by decide +kernel
theorem dX4_of_10 : decode cX4_of 10 = .ok (.invokevirtual 59, 3) := by decide +kernel
theorem dX4_of_13 : decode cX4_of 13 = .ok (.ireturn, 1) := by decide +kernel
theorem dX4_of_14 : decode cX4_of 14 = .ok (.iload_n 2, 1) := by decide +kernel
theorem dX4_of_15 : decode cX4_of 15 = .ok (.tableswitch 112 0 6 #[41, 51, 61, 71, 80, 94, 103], 41) := by decide +kernel
theorem dX4_of_56 : decode cX4_of 56 = .ok (.aload_n 0, 1) := by decide +kernel
theorem dX4_of_57 : decode cX4_of 57 = .ok (.getfield 12, 3) := by decide +kernel
theorem dX4_of_60 : decode cX4_of 60 = .ok (.getfield 95, 3) := by decide +kernel
theorem dX4_of_63 : decode cX4_of 63 = .ok (.iload_n 1, 1) := by decide +kernel
theorem dX4_of_64 : decode cX4_of 64 = .ok (.iaload, 1) := by decide +kernel
theorem dX4_of_65 : decode cX4_of 65 = .ok (.ireturn, 1) := by decide +kernel
theorem dX4_of_66 : decode cX4_of 66 = .ok (.aload_n 0, 1) := by decide +kernel
theorem dX4_of_67 : decode cX4_of 67 = .ok (.getfield 12, 3) := by decide +kernel
theorem dX4_of_70 : decode cX4_of 70 = .ok (.getfield 98, 3) := by decide +kernel
theorem dX4_of_73 : decode cX4_of 73 = .ok (.iload_n 1, 1) := by decide +kernel
theorem dX4_of_74 : decode cX4_of 74 = .ok (.iaload, 1) := by decide +kernel
theorem dX4_of_75 : decode cX4_of 75 = .ok (.ireturn, 1) := by decide +kernel
theorem dX4_of_76 : decode cX4_of 76 = .ok (.aload_n 0, 1) := by decide +kernel
theorem dX4_of_77 : decode cX4_of 77 = .ok (.getfield 12, 3) := by decide +kernel
theorem dX4_of_80 : decode cX4_of 80 = .ok (.getfield 101, 3) := by decide +kernel
theorem dX4_of_83 : decode cX4_of 83 = .ok (.iload_n 1, 1) := by decide +kernel
theorem dX4_of_84 : decode cX4_of 84 = .ok (.iaload, 1) := by decide +kernel
theorem dX4_of_85 : decode cX4_of 85 = .ok (.ireturn, 1) := by decide +kernel
theorem dX4_of_86 : decode cX4_of 86 = .ok (.aload_n 0, 1) := by decide +kernel
theorem dX4_of_87 : decode cX4_of 87 = .ok (.getfield 12, 3) := by decide +kernel
theorem dX4_of_90 : decode cX4_of 90 = .ok (.iload_n 1, 1) := by decide +kernel
theorem dX4_of_91 : decode cX4_of 91 = .ok (.invokevirtual 104, 3) := by decide +kernel
theorem dX4_of_94 : decode cX4_of 94 = .ok (.ireturn, 1) := by decide +kernel
theorem dX4_of_95 : decode cX4_of 95 = .ok (.getstatic 107, 3) := by decide +kernel
theorem dX4_of_98 : decode cX4_of 98 = .ok (.aload_n 0, 1) := by decide +kernel
theorem dX4_of_99 : decode cX4_of 99 = .ok (.getfield 12, 3) := by decide +kernel
theorem dX4_of_102 : decode cX4_of 102 = .ok (.getfield 95, 3) := by decide +kernel
theorem dX4_of_105 : decode cX4_of 105 = .ok (.iload_n 1, 1) := by decide +kernel
theorem dX4_of_106 : decode cX4_of 106 = .ok (.iaload, 1) := by decide +kernel
theorem dX4_of_107 : decode cX4_of 107 = .ok (.iaload, 1) := by decide +kernel
theorem dX4_of_108 : decode cX4_of 108 = .ok (.ireturn, 1) := by decide +kernel
theorem dX4_of_109 : decode cX4_of 109 = .ok (.aload_n 0, 1) := by decide +kernel
theorem dX4_of_110 : decode cX4_of 110 = .ok (.getfield 12, 3) := by decide +kernel
theorem dX4_of_113 : decode cX4_of 113 = .ok (.iload_n 1, 1) := by decide +kernel
theorem dX4_of_114 : decode cX4_of 114 = .ok (.invokevirtual 110, 3) := by decide +kernel
theorem dX4_of_117 : decode cX4_of 117 = .ok (.ireturn, 1) := by decide +kernel
theorem dX4_of_118 : decode cX4_of 118 = .ok (.aload_n 0, 1) := by decide +kernel
theorem dX4_of_119 : decode cX4_of 119 = .ok (.getfield 12, 3) := by decide +kernel
theorem dX4_of_122 : decode cX4_of 122 = .ok (.iload_n 1, 1) := by decide +kernel
theorem dX4_of_123 : decode cX4_of 123 = .ok (.invokevirtual 113, 3) := by decide +kernel
theorem dX4_of_126 : decode cX4_of 126 = .ok (.ireturn, 1) := by decide +kernel
theorem dX4_of_127 : decode cX4_of 127 = .ok (.aload_n 0, 1) := by decide +kernel
theorem dX4_of_128 : decode cX4_of 128 = .ok (.iconst 0, 1) := by decide +kernel
theorem dX4_of_129 : decode cX4_of 129 = .ok (.invokevirtual 59, 3) := by decide +kernel
theorem dX4_of_132 : decode cX4_of 132 = .ok (.ireturn, 1) := by decide +kernel
theorem dX4_change_0 : decode cX4_change 0 = .ok (.aload_n 0, 1) := by decide +kernel
theorem dX4_change_1 : decode cX4_change 1 = .ok (.iload_n 1, 1) := by decide +kernel
theorem dX4_change_2 : decode cX4_change 2 = .ok (.invokevirtual 92, 3) := by decide +kernel
theorem dX4_change_5 : decode cX4_change 5 = .ok (.ifCond .ne 9, 3) := by decide +kernel
theorem dX4_change_8 : decode cX4_change 8 = .ok (.aload_n 0, 1) := by decide +kernel
theorem dX4_change_9 : decode cX4_change 9 = .ok (.iconst 0, 1) := by decide +kernel
theorem dX4_change_10 : decode cX4_change 10 = .ok (.invokevirtual 59, 3) := by decide +kernel
theorem dX4_change_13 : decode cX4_change 13 = .ok (.ireturn, 1) := by decide +kernel
theorem dX4_change_14 : decode cX4_change 14 = .ok (.iload_n 2, 1) := by decide +kernel
theorem dX4_change_15 : decode cX4_change 15 = .ok (.ifCond .ne 23, 3) := by decide +kernel
theorem dX4_change_18 : decode cX4_change 18 = .ok (.iload_n 3, 1) := by decide +kernel
theorem dX4_change_19 : decode cX4_change 19 = .ok (.invokestatic 82, 3) := by decide +kernel
theorem dX4_change_22 : decode cX4_change 22 = .ok (.ifCond .eq 16, 3) := by decide +kernel
theorem dX4_change_25 : decode cX4_change 25 = .ok (.aload_n 0, 1) := by decide +kernel
theorem dX4_change_26 : decode cX4_change 26 = .ok (.getfield 12, 3) := by decide +kernel
theorem dX4_change_29 : decode cX4_change 29 = .ok (.getfield 95, 3) := by decide +kernel
theorem dX4_change_32 : decode cX4_change 32 = .ok (.iload_n 1, 1) := by decide +kernel
theorem dX4_change_33 : decode cX4_change 33 = .ok (.iload_n 3, 1) := by decide +kernel
theorem dX4_change_34 : decode cX4_change 34 = .ok (.invokestatic 116, 3) := by decide +kernel
theorem dX4_change_37 : decode cX4_change 37 = .ok (.ireturn, 1) := by decide +kernel
theorem dX4_change_38 : decode cX4_change 38 = .ok (.iload_n 2, 1) := by decide +kernel
theorem dX4_change_39 : decode cX4_change 39 = .ok (.iconst 1, 1) := by decide +kernel
theorem dX4_change_40 : decode cX4_change 40 = .ok (.if_icmp .ne 23, 3) := by decide +kernel
theorem dX4_change_43 : decode cX4_change 43 = .ok (.iload_n 3, 1) := by decide +kernel
theorem dX4_change_44 : decode cX4_change 44 = .ok (.invokestatic 51, 3) := by decide +kernel
theorem dX4_change_47 : decode cX4_change 47 = .ok (.ifCond .eq 16, 3) := by decide +kernel
theorem dX4_change_50 : decode cX4_change 50 = .ok (.aload_n 0, 1) := by decide +kernel
theorem dX4_change_51 : decode cX4_change 51 = .ok (.getfield 12, 3) := by decide +kernel
theorem dX4_change_54 : decode cX4_change 54 = .ok (.getfield 98, 3) := by decide +kernel
theorem dX4_change_57 : decode cX4_change 57 = .ok (.iload_n 1, 1) := by decide +kernel
theorem dX4_change_58 : decode cX4_change 58 = .ok (.iload_n 3, 1) := by decide +kernel
theorem dX4_change_59 : decode cX4_change 59 = .ok (.invokestatic 116, 3) := by decide +kernel
theorem dX4_change_62 : decode cX4_change 62 = .ok (.ireturn, 1) := by decide +kernel
theorem dX4_change_63 : decode cX4_change 63 = .ok (.iload_n 2, 1) := by decide +kernel
theorem dX4_change_64 : decode cX4_change 64 = .ok (.iconst 2, 1) := by decide +kernel
theorem dX4_change_65 : decode cX4_change 65 = .ok (.if_icmp .ne 26, 3) := by decide +kernel
theorem dX4_change_68 : decode cX4_change 68 = .ok (.iload_n 3, 1) := by decide +kernel
theorem dX4_change_69 : decode cX4_change 69 = .ok (.iconst 0, 1) := by decide +kernel
theorem dX4_change_70 : decode cX4_change 70 = .ok (.ldc 120, 2) := by decide +kernel
theorem dX4_change_72 : decode cX4_change 72 = .ok (.invokestatic 55, 3) := by decide +kernel
theorem dX4_change_75 : decode cX4_change 75 = .ok (.ifCond .eq 16, 3) := by decide +kernel
theorem dX4_change_78 : decode cX4_change 78 = .ok (.aload_n 0, 1) := by decide +kernel
theorem dX4_change_79 : decode cX4_change 79 = .ok (.getfield 12, 3) := by decide +kernel
theorem dX4_change_82 : decode cX4_change 82 = .ok (.getfield 101, 3) := by decide +kernel
theorem dX4_change_85 : decode cX4_change 85 = .ok (.iload_n 1, 1) := by decide +kernel
theorem dX4_change_86 : decode cX4_change 86 = .ok (.iload_n 3, 1) := by decide +kernel
theorem dX4_change_87 : decode cX4_change 87 = .ok (.invokestatic 116, 3) := by decide +kernel
theorem dX4_change_90 : decode cX4_change 90 = .ok (.ireturn, 1) := by decide +kernel
theorem dX4_change_91 : decode cX4_change 91 = .ok (.aload_n 0, 1) := by decide +kernel
theorem dX4_change_92 : decode cX4_change 92 = .ok (.iconst 0, 1) := by decide +kernel
theorem dX4_change_93 : decode cX4_change 93 = .ok (.invokevirtual 59, 3) := by decide +kernel
theorem dX4_change_96 : decode cX4_change 96 = .ok (.ireturn, 1) := by decide +kernel
theorem dX4_mark_0 : decode cX4_mark 0 = .ok (.aload_n 0, 1) := by decide +kernel
theorem dX4_mark_1 : decode cX4_mark 1 = .ok (.iload_n 1, 1) := by decide +kernel
theorem dX4_mark_2 : decode cX4_mark 2 = .ok (.invokevirtual 92, 3) := by decide +kernel
theorem dX4_mark_5 : decode cX4_mark 5 = .ok (.ifCond .eq 10, 3) := by decide +kernel
theorem dX4_mark_8 : decode cX4_mark 8 = .ok (.iload_n 2, 1) := by decide +kernel
theorem dX4_mark_9 : decode cX4_mark 9 = .ok (.invokestatic 51, 3) := by decide +kernel
theorem dX4_mark_12 : decode cX4_mark 12 = .ok (.ifCond .ne 9, 3) := by decide +kernel
theorem dX4_mark_15 : decode cX4_mark 15 = .ok (.aload_n 0, 1) := by decide +kernel
theorem dX4_mark_16 : decode cX4_mark 16 = .ok (.iconst 0, 1) := by decide +kernel
theorem dX4_mark_17 : decode cX4_mark 17 = .ok (.invokevirtual 59, 3) := by decide +kernel
theorem dX4_mark_20 : decode cX4_mark 20 = .ok (.ireturn, 1) := by decide +kernel
theorem dX4_mark_21 : decode cX4_mark 21 = .ok (.aload_n 0, 1) := by decide +kernel
theorem dX4_mark_22 : decode cX4_mark 22 = .ok (.getfield 12, 3) := by decide +kernel
theorem dX4_mark_25 : decode cX4_mark 25 = .ok (.getfield 121, 3) := by decide +kernel
theorem dX4_mark_28 : decode cX4_mark 28 = .ok (.iload_n 1, 1) := by decide +kernel
theorem dX4_mark_29 : decode cX4_mark 29 = .ok (.bipush 12, 2) := by decide +kernel
theorem dX4_mark_31 : decode cX4_mark 31 = .ok (.imul, 1) := by decide +kernel
theorem dX4_mark_32 : decode cX4_mark 32 = .ok (.iload_n 2, 1) := by decide +kernel
theorem dX4_mark_33 : decode cX4_mark 33 = .ok (.iadd, 1) := by decide +kernel
theorem dX4_mark_34 : decode cX4_mark 34 = .ok (.iaload, 1) := by decide +kernel
theorem dX4_mark_35 : decode cX4_mark 35 = .ok (.ireturn, 1) := by decide +kernel
theorem dX4_charter_0 : decode cX4_charter 0 = .ok (.aload_n 0, 1) := by decide +kernel
theorem dX4_charter_1 : decode cX4_charter 1 = .ok (.iload_n 1, 1) := by decide +kernel
theorem dX4_charter_2 : decode cX4_charter 2 = .ok (.invokevirtual 92, 3) := by decide +kernel
theorem dX4_charter_5 : decode cX4_charter 5 = .ok (.ifCond .eq 20, 3) := by decide +kernel
theorem dX4_charter_8 : decode cX4_charter 8 = .ok (.iload_n 2, 1) := by decide +kernel
theorem dX4_charter_9 : decode cX4_charter 9 = .ok (.invokestatic 51, 3) := by decide +kernel
theorem dX4_charter_12 : decode cX4_charter 12 = .ok (.ifCond .eq 13, 3) := by decide +kernel
theorem dX4_charter_15 : decode cX4_charter 15 = .ok (.iload_n 3, 1) := by decide +kernel
theorem dX4_charter_16 : decode cX4_charter 16 = .ok (.iconst 0, 1) := by decide +kernel
theorem dX4_charter_17 : decode cX4_charter 17 = .ok (.bipush 99, 2) := by decide +kernel
theorem dX4_charter_19 : decode cX4_charter 19 = .ok (.invokestatic 55, 3) := by decide +kernel
theorem dX4_charter_22 : decode cX4_charter 22 = .ok (.ifCond .ne 9, 3) := by decide +kernel
theorem dX4_charter_25 : decode cX4_charter 25 = .ok (.aload_n 0, 1) := by decide +kernel
theorem dX4_charter_26 : decode cX4_charter 26 = .ok (.iconst 0, 1) := by decide +kernel
theorem dX4_charter_27 : decode cX4_charter 27 = .ok (.invokevirtual 59, 3) := by decide +kernel
theorem dX4_charter_30 : decode cX4_charter 30 = .ok (.ireturn, 1) := by decide +kernel
theorem dX4_charter_31 : decode cX4_charter 31 = .ok (.aload_n 0, 1) := by decide +kernel
theorem dX4_charter_32 : decode cX4_charter 32 = .ok (.getfield 12, 3) := by decide +kernel
theorem dX4_charter_35 : decode cX4_charter 35 = .ok (.getfield 121, 3) := by decide +kernel
theorem dX4_charter_38 : decode cX4_charter 38 = .ok (.iload_n 1, 1) := by decide +kernel
theorem dX4_charter_39 : decode cX4_charter 39 = .ok (.bipush 12, 2) := by decide +kernel
theorem dX4_charter_41 : decode cX4_charter 41 = .ok (.imul, 1) := by decide +kernel
theorem dX4_charter_42 : decode cX4_charter 42 = .ok (.iload_n 2, 1) := by decide +kernel
theorem dX4_charter_43 : decode cX4_charter 43 = .ok (.iadd, 1) := by decide +kernel
theorem dX4_charter_44 : decode cX4_charter 44 = .ok (.iload_n 3, 1) := by decide +kernel
theorem dX4_charter_45 : decode cX4_charter 45 = .ok (.invokestatic 116, 3) := by decide +kernel
theorem dX4_charter_48 : decode cX4_charter 48 = .ok (.ireturn, 1) := by decide +kernel
theorem dX4_swap_0 : decode cX4_swap 0 = .ok (.aload_n 0, 1) := by decide +kernel
theorem dX4_swap_1 : decode cX4_swap 1 = .ok (.iload_n 1, 1) := by decide +kernel
theorem dX4_swap_2 : decode cX4_swap 2 = .ok (.invokevirtual 92, 3) := by decide +kernel
theorem dX4_swap_5 : decode cX4_swap 5 = .ok (.ifCond .eq 16, 3) := by decide +kernel
theorem dX4_swap_8 : decode cX4_swap 8 = .ok (.aload_n 0, 1) := by decide +kernel
theorem dX4_swap_9 : decode cX4_swap 9 = .ok (.iload_n 2, 1) := by decide +kernel
theorem dX4_swap_10 : decode cX4_swap 10 = .ok (.invokevirtual 92, 3) := by decide +kernel
theorem dX4_swap_13 : decode cX4_swap 13 = .ok (.ifCond .eq 8, 3) := by decide +kernel
theorem dX4_swap_16 : decode cX4_swap 16 = .ok (.iload_n 1, 1) := by decide +kernel
theorem dX4_swap_17 : decode cX4_swap 17 = .ok (.iload_n 2, 1) := by decide +kernel
theorem dX4_swap_18 : decode cX4_swap 18 = .ok (.if_icmp .ne 9, 3) := by decide +kernel
theorem dX4_swap_21 : decode cX4_swap 21 = .ok (.aload_n 0, 1) := by decide +kernel
theorem dX4_swap_22 : decode cX4_swap 22 = .ok (.iconst 0, 1) := by decide +kernel
theorem dX4_swap_23 : decode cX4_swap 23 = .ok (.invokevirtual 59, 3) := by decide +kernel
theorem dX4_swap_26 : decode cX4_swap 26 = .ok (.ireturn, 1) := by decide +kernel
theorem dX4_swap_27 : decode cX4_swap 27 = .ok (.aload_n 0, 1) := by decide +kernel
theorem dX4_swap_28 : decode cX4_swap 28 = .ok (.getfield 12, 3) := by decide +kernel
theorem dX4_swap_31 : decode cX4_swap 31 = .ok (.getfield 98, 3) := by decide +kernel
theorem dX4_swap_34 : decode cX4_swap 34 = .ok (.iload_n 1, 1) := by decide +kernel
theorem dX4_swap_35 : decode cX4_swap 35 = .ok (.iaload, 1) := by decide +kernel
theorem dX4_swap_36 : decode cX4_swap 36 = .ok (.aload_n 0, 1) := by decide +kernel
theorem dX4_swap_37 : decode cX4_swap 37 = .ok (.getfield 12, 3) := by decide +kernel
theorem dX4_swap_40 : decode cX4_swap 40 = .ok (.getfield 98, 3) := by decide +kernel
theorem dX4_swap_43 : decode cX4_swap 43 = .ok (.iload_n 2, 1) := by decide +kernel
theorem dX4_swap_44 : decode cX4_swap 44 = .ok (.iaload, 1) := by decide +kernel
theorem dX4_swap_45 : decode cX4_swap 45 = .ok (.if_icmp .ne 5, 3) := by decide +kernel
theorem dX4_swap_48 : decode cX4_swap 48 = .ok (.iconst 0, 1) := by decide +kernel
theorem dX4_swap_49 : decode cX4_swap 49 = .ok (.ireturn, 1) := by decide +kernel
theorem dX4_swap_50 : decode cX4_swap 50 = .ok (.aload_n 0, 1) := by decide +kernel
theorem dX4_swap_51 : decode cX4_swap 51 = .ok (.getfield 12, 3) := by decide +kernel
theorem dX4_swap_54 : decode cX4_swap 54 = .ok (.iload_n 1, 1) := by decide +kernel
theorem dX4_swap_55 : decode cX4_swap 55 = .ok (.iload_n 2, 1) := by decide +kernel
theorem dX4_swap_56 : decode cX4_swap 56 = .ok (.invokevirtual 124, 3) := by decide +kernel
theorem dX4_swap_59 : decode cX4_swap 59 = .ok (.iconst 1, 1) := by decide +kernel
theorem dX4_swap_60 : decode cX4_swap 60 = .ok (.ireturn, 1) := by decide +kernel
theorem dX4_sneeze_0 : decode cX4_sneeze 0 = .ok (.iload_n 1, 1) := by decide +kernel
theorem dX4_sneeze_1 : decode cX4_sneeze 1 = .ok (.invokestatic 51, 3) := by decide +kernel
theorem dX4_sneeze_4 : decode cX4_sneeze 4 = .ok (.ifCond .eq 14, 3) := by decide +kernel
theorem dX4_sneeze_7 : decode cX4_sneeze 7 = .ok (.iload_n 2, 1) := by decide +kernel
theorem dX4_sneeze_8 : decode cX4_sneeze 8 = .ok (.bipush (-11), 2) := by decide +kernel
theorem dX4_sneeze_10 : decode cX4_sneeze 10 = .ok (.bipush 11, 2) := by decide +kernel
theorem dX4_sneeze_12 : decode cX4_sneeze 12 = .ok (.invokestatic 55, 3) := by decide +kernel
theorem dX4_sneeze_15 : decode cX4_sneeze 15 = .ok (.ifCond .ne 9, 3) := by decide +kernel
theorem dX4_sneeze_18 : decode cX4_sneeze 18 = .ok (.aload_n 0, 1) := by decide +kernel
theorem dX4_sneeze_19 : decode cX4_sneeze 19 = .ok (.iconst 0, 1) := by decide +kernel
theorem dX4_sneeze_20 : decode cX4_sneeze 20 = .ok (.invokevirtual 59, 3) := by decide +kernel
theorem dX4_sneeze_23 : decode cX4_sneeze 23 = .ok (.ireturn, 1) := by decide +kernel
theorem dX4_sneeze_24 : decode cX4_sneeze 24 = .ok (.aload_n 0, 1) := by decide +kernel
theorem dX4_sneeze_25 : decode cX4_sneeze 25 = .ok (.getfield 12, 3) := by decide +kernel
theorem dX4_sneeze_28 : decode cX4_sneeze 28 = .ok (.iload_n 1, 1) := by decide +kernel
theorem dX4_sneeze_29 : decode cX4_sneeze 29 = .ok (.iload_n 2, 1) := by decide +kernel
theorem dX4_sneeze_30 : decode cX4_sneeze 30 = .ok (.invokevirtual 128, 3) := by decide +kernel
theorem dX4_sneeze_33 : decode cX4_sneeze 33 = .ok (.ireturn, 1) := by decide +kernel
theorem dX4_go_0 : decode cX4_go 0 = .ok (.iload_n 1, 1) := by decide +kernel
theorem dX4_go_1 : decode cX4_go 1 = .ok (.iconst 1, 1) := by decide +kernel
theorem dX4_go_2 : decode cX4_go 2 = .ok (.bipush 40, 2) := by decide +kernel
theorem dX4_go_4 : decode cX4_go 4 = .ok (.invokestatic 55, 3) := by decide +kernel
theorem dX4_go_7 : decode cX4_go 7 = .ok (.ifCond .ne 9, 3) := by decide +kernel
theorem dX4_go_10 : decode cX4_go 10 = .ok (.aload_n 0, 1) := by decide +kernel
theorem dX4_go_11 : decode cX4_go 11 = .ok (.iconst 0, 1) := by decide +kernel
theorem dX4_go_12 : decode cX4_go 12 = .ok (.invokevirtual 59, 3) := by decide +kernel
theorem dX4_go_15 : decode cX4_go 15 = .ok (.ireturn, 1) := by decide +kernel
theorem dX4_go_16 : decode cX4_go 16 = .ok (.aload_n 0, 1) := by decide +kernel
theorem dX4_go_17 : decode cX4_go 17 = .ok (.getfield 12, 3) := by decide +kernel
theorem dX4_go_20 : decode cX4_go 20 = .ok (.getfield 131, 3) := by decide +kernel
theorem dX4_go_23 : decode cX4_go 23 = .ok (.ldc 120, 2) := by decide +kernel
theorem dX4_go_25 : decode cX4_go 25 = .ok (.iload_n 1, 1) := by decide +kernel
theorem dX4_go_26 : decode cX4_go 26 = .ok (.isub, 1) := by decide +kernel
theorem dX4_go_27 : decode cX4_go 27 = .ok (.if_icmp .le 9, 3) := by decide +kernel
theorem dX4_go_30 : decode cX4_go 30 = .ok (.aload_n 0, 1) := by decide +kernel
theorem dX4_go_31 : decode cX4_go 31 = .ok (.iconst 4, 1) := by decide +kernel
theorem dX4_go_32 : decode cX4_go 32 = .ok (.invokevirtual 59, 3) := by decide +kernel
theorem dX4_go_35 : decode cX4_go 35 = .ok (.ireturn, 1) := by decide +kernel
theorem dX4_go_36 : decode cX4_go 36 = .ok (.aload_n 0, 1) := by decide +kernel
theorem dX4_go_37 : decode cX4_go 37 = .ok (.getfield 12, 3) := by decide +kernel
theorem dX4_go_40 : decode cX4_go 40 = .ok (.iload_n 1, 1) := by decide +kernel
theorem dX4_go_41 : decode cX4_go 41 = .ok (.invokevirtual 134, 3) := by decide +kernel
theorem dX4_go_44 : decode cX4_go 44 = .ok (.aload_n 0, 1) := by decide +kernel
theorem dX4_go_45 : decode cX4_go 45 = .ok (.getfield 12, 3) := by decide +kernel
theorem dX4_go_48 : decode cX4_go 48 = .ok (.invokevirtual 138, 3) := by decide +kernel
theorem dX4_go_51 : decode cX4_go 51 = .ok (.ireturn, 1) := by decide +kernel
theorem dX4_now_0 : decode cX4_now 0 = .ok (.iload_n 1, 1) := by decide +kernel
theorem dX4_now_1 : decode cX4_now 1 = .ok (.tableswitch 87 0 5 #[39, 47, 55, 63, 71, 79], 39) := by decide +kernel
theorem dX4_now_40 : decode cX4_now 40 = .ok (.aload_n 0, 1) := by decide +kernel
theorem dX4_now_41 : decode cX4_now 41 = .ok (.getfield 12, 3) := by decide +kernel
theorem dX4_now_44 : decode cX4_now 44 = .ok (.getfield 131, 3) := by decide +kernel
theorem dX4_now_47 : decode cX4_now 47 = .ok (.ireturn, 1) := by decide +kernel
theorem dX4_now_48 : decode cX4_now 48 = .ok (.aload_n 0, 1) := by decide +kernel
theorem dX4_now_49 : decode cX4_now 49 = .ok (.getfield 12, 3) := by decide +kernel
theorem dX4_now_52 : decode cX4_now 52 = .ok (.invokevirtual 138, 3) := by decide +kernel
theorem dX4_now_55 : decode cX4_now 55 = .ok (.ireturn, 1) := by decide +kernel
theorem dX4_now_56 : decode cX4_now 56 = .ok (.aload_n 0, 1) := by decide +kernel
theorem dX4_now_57 : decode cX4_now 57 = .ok (.getfield 12, 3) := by decide +kernel
theorem dX4_now_60 : decode cX4_now 60 = .ok (.invokevirtual 142, 3) := by decide +kernel
theorem dX4_now_63 : decode cX4_now 63 = .ok (.ireturn, 1) := by decide +kernel
theorem dX4_now_64 : decode cX4_now 64 = .ok (.aload_n 0, 1) := by decide +kernel
theorem dX4_now_65 : decode cX4_now 65 = .ok (.getfield 12, 3) := by decide +kernel
theorem dX4_now_68 : decode cX4_now 68 = .ok (.invokevirtual 145, 3) := by decide +kernel
theorem dX4_now_71 : decode cX4_now 71 = .ok (.ireturn, 1) := by decide +kernel
theorem dX4_now_72 : decode cX4_now 72 = .ok (.aload_n 0, 1) := by decide +kernel
theorem dX4_now_73 : decode cX4_now 73 = .ok (.getfield 12, 3) := by decide +kernel
theorem dX4_now_76 : decode cX4_now 76 = .ok (.invokevirtual 148, 3) := by decide +kernel
theorem dX4_now_79 : decode cX4_now 79 = .ok (.ireturn, 1) := by decide +kernel
theorem dX4_now_80 : decode cX4_now 80 = .ok (.aload_n 0, 1) := by decide +kernel
theorem dX4_now_81 : decode cX4_now 81 = .ok (.getfield 12, 3) := by decide +kernel
theorem dX4_now_84 : decode cX4_now 84 = .ok (.invokevirtual 151, 3) := by decide +kernel
theorem dX4_now_87 : decode cX4_now 87 = .ok (.ireturn, 1) := by decide +kernel
theorem dX4_now_88 : decode cX4_now 88 = .ok (.aload_n 0, 1) := by decide +kernel
theorem dX4_now_89 : decode cX4_now 89 = .ok (.iconst 0, 1) := by decide +kernel
theorem dX4_now_90 : decode cX4_now 90 = .ok (.invokevirtual 59, 3) := by decide +kernel
theorem dX4_now_93 : decode cX4_now 93 = .ok (.ireturn, 1) := by decide +kernel
theorem dX4_ahead_0 : decode cX4_ahead 0 = .ok (.iload_n 1, 1) := by decide +kernel
theorem dX4_ahead_1 : decode cX4_ahead 1 = .ok (.invokestatic 51, 3) := by decide +kernel
theorem dX4_ahead_4 : decode cX4_ahead 4 = .ok (.ifCond .eq 13, 3) := by decide +kernel
theorem dX4_ahead_7 : decode cX4_ahead 7 = .ok (.iload_n 2, 1) := by decide +kernel
theorem dX4_ahead_8 : decode cX4_ahead 8 = .ok (.iconst 0, 1) := by decide +kernel
theorem dX4_ahead_9 : decode cX4_ahead 9 = .ok (.bipush 60, 2) := by decide +kernel
theorem dX4_ahead_11 : decode cX4_ahead 11 = .ok (.invokestatic 55, 3) := by decide +kernel
theorem dX4_ahead_14 : decode cX4_ahead 14 = .ok (.ifCond .ne 9, 3) := by decide +kernel
theorem dX4_ahead_17 : decode cX4_ahead 17 = .ok (.aload_n 0, 1) := by decide +kernel
theorem dX4_ahead_18 : decode cX4_ahead 18 = .ok (.iconst 0, 1) := by decide +kernel
theorem dX4_ahead_19 : decode cX4_ahead 19 = .ok (.invokevirtual 59, 3) := by decide +kernel
theorem dX4_ahead_22 : decode cX4_ahead 22 = .ok (.ireturn, 1) := by decide +kernel
theorem dX4_ahead_23 : decode cX4_ahead 23 = .ok (.aload_n 0, 1) := by decide +kernel
theorem dX4_ahead_24 : decode cX4_ahead 24 = .ok (.getfield 16, 3) := by decide +kernel
theorem dX4_ahead_27 : decode cX4_ahead 27 = .ok (.aload_n 0, 1) := by decide +kernel
theorem dX4_ahead_28 : decode cX4_ahead 28 = .ok (.getfield 12, 3) := by decide +kernel
theorem dX4_ahead_31 : decode cX4_ahead 31 = .ok (.invokevirtual 154, 3) := by decide +kernel
theorem dX4_ahead_34 : decode cX4_ahead 34 = .ok (.aload_n 0, 1) := by decide +kernel
theorem dX4_ahead_35 : decode cX4_ahead 35 = .ok (.getfield 16, 3) := by decide +kernel
theorem dX4_ahead_38 : decode cX4_ahead 38 = .ok (.iload_n 2, 1) := by decide +kernel
theorem dX4_ahead_39 : decode cX4_ahead 39 = .ok (.sipush 255, 3) := by decide +kernel
theorem dX4_ahead_42 : decode cX4_ahead 42 = .ok (.invokevirtual 158, 3) := by decide +kernel
theorem dX4_ahead_45 : decode cX4_ahead 45 = .ok (.aload_n 0, 1) := by decide +kernel
theorem dX4_ahead_46 : decode cX4_ahead 46 = .ok (.getfield 16, 3) := by decide +kernel
theorem dX4_ahead_49 : decode cX4_ahead 49 = .ok (.getfield 63, 3) := by decide +kernel
theorem dX4_ahead_52 : decode cX4_ahead 52 = .ok (.iload_n 1, 1) := by decide +kernel
theorem dX4_ahead_53 : decode cX4_ahead 53 = .ok (.iaload, 1) := by decide +kernel
theorem dX4_ahead_54 : decode cX4_ahead 54 = .ok (.ireturn, 1) := by decide +kernel
theorem dX4_goods_0 : decode cX4_goods 0 = .ok (.aload_n 0, 1) := by decide +kernel
theorem dX4_goods_1 : decode cX4_goods 1 = .ok (.iload_n 1, 1) := by decide +kernel
theorem dX4_goods_2 : decode cX4_goods 2 = .ok (.invokevirtual 92, 3) := by decide +kernel
theorem dX4_goods_5 : decode cX4_goods 5 = .ok (.ifCond .eq 13, 3) := by decide +kernel
theorem dX4_goods_8 : decode cX4_goods 8 = .ok (.iload_n 2, 1) := by decide +kernel
theorem dX4_goods_9 : decode cX4_goods 9 = .ok (.iconst 0, 1) := by decide +kernel
theorem dX4_goods_10 : decode cX4_goods 10 = .ok (.bipush 60, 2) := by decide +kernel
theorem dX4_goods_12 : decode cX4_goods 12 = .ok (.invokestatic 55, 3) := by decide +kernel
theorem dX4_goods_15 : decode cX4_goods 15 = .ok (.ifCond .ne 9, 3) := by decide +kernel
theorem dX4_goods_18 : decode cX4_goods 18 = .ok (.aload_n 0, 1) := by decide +kernel
theorem dX4_goods_19 : decode cX4_goods 19 = .ok (.iconst 0, 1) := by decide +kernel
theorem dX4_goods_20 : decode cX4_goods 20 = .ok (.invokevirtual 59, 3) := by decide +kernel
theorem dX4_goods_23 : decode cX4_goods 23 = .ok (.ireturn, 1) := by decide +kernel
theorem dX4_goods_24 : decode cX4_goods 24 = .ok (.aload_n 0, 1) := by decide +kernel
theorem dX4_goods_25 : decode cX4_goods 25 = .ok (.getfield 16, 3) := by decide +kernel
theorem dX4_goods_28 : decode cX4_goods 28 = .ok (.aload_n 0, 1) := by decide +kernel
theorem dX4_goods_29 : decode cX4_goods 29 = .ok (.getfield 12, 3) := by decide +kernel
theorem dX4_goods_32 : decode cX4_goods 32 = .ok (.invokevirtual 154, 3) := by decide +kernel
theorem dX4_goods_35 : decode cX4_goods 35 = .ok (.aload_n 0, 1) := by decide +kernel
theorem dX4_goods_36 : decode cX4_goods 36 = .ok (.getfield 16, 3) := by decide +kernel
theorem dX4_goods_39 : decode cX4_goods 39 = .ok (.iload_n 2, 1) := by decide +kernel
theorem dX4_goods_40 : decode cX4_goods 40 = .ok (.invokevirtual 134, 3) := by decide +kernel
theorem dX4_goods_43 : decode cX4_goods 43 = .ok (.aload_n 0, 1) := by decide +kernel
theorem dX4_goods_44 : decode cX4_goods 44 = .ok (.getfield 16, 3) := by decide +kernel
theorem dX4_goods_47 : decode cX4_goods 47 = .ok (.getfield 101, 3) := by decide +kernel
theorem dX4_goods_50 : decode cX4_goods 50 = .ok (.iload_n 1, 1) := by decide +kernel
theorem dX4_goods_51 : decode cX4_goods 51 = .ok (.iaload, 1) := by decide +kernel
theorem dX4_goods_52 : decode cX4_goods 52 = .ok (.ireturn, 1) := by decide +kernel
theorem dX4_holder_0 : decode cX4_holder 0 = .ok (.iload_n 1, 1) := by decide +kernel
theorem dX4_holder_1 : decode cX4_holder 1 = .ok (.invokestatic 51, 3) := by decide +kernel
theorem dX4_holder_4 : decode cX4_holder 4 = .ok (.ifCond .eq 13, 3) := by decide +kernel
theorem dX4_holder_7 : decode cX4_holder 7 = .ok (.iload_n 2, 1) := by decide +kernel
theorem dX4_holder_8 : decode cX4_holder 8 = .ok (.iconst 0, 1) := by decide +kernel
theorem dX4_holder_9 : decode cX4_holder 9 = .ok (.bipush 60, 2) := by decide +kernel
theorem dX4_holder_11 : decode cX4_holder 11 = .ok (.invokestatic 55, 3) := by decide +kernel
theorem dX4_holder_14 : decode cX4_holder 14 = .ok (.ifCond .ne 9, 3) := by decide +kernel
theorem dX4_holder_17 : decode cX4_holder 17 = .ok (.aload_n 0, 1) := by decide +kernel
theorem dX4_holder_18 : decode cX4_holder 18 = .ok (.iconst 0, 1) := by decide +kernel
theorem dX4_holder_19 : decode cX4_holder 19 = .ok (.invokevirtual 59, 3) := by decide +kernel
theorem dX4_holder_22 : decode cX4_holder 22 = .ok (.ireturn, 1) := by decide +kernel
theorem dX4_holder_23 : decode cX4_holder 23 = .ok (.aload_n 0, 1) := by decide +kernel
theorem dX4_holder_24 : decode cX4_holder 24 = .ok (.getfield 16, 3) := by decide +kernel
theorem dX4_holder_27 : decode cX4_holder 27 = .ok (.aload_n 0, 1) := by decide +kernel
theorem dX4_holder_28 : decode cX4_holder 28 = .ok (.getfield 12, 3) := by decide +kernel
theorem dX4_holder_31 : decode cX4_holder 31 = .ok (.invokevirtual 154, 3) := by decide +kernel
theorem dX4_holder_34 : decode cX4_holder 34 = .ok (.aload_n 0, 1) := by decide +kernel
theorem dX4_holder_35 : decode cX4_holder 35 = .ok (.getfield 16, 3) := by decide +kernel
theorem dX4_holder_38 : decode cX4_holder 38 = .ok (.iload_n 2, 1) := by decide +kernel
theorem dX4_holder_39 : decode cX4_holder 39 = .ok (.invokevirtual 134, 3) := by decide +kernel
theorem dX4_holder_42 : decode cX4_holder 42 = .ok (.aload_n 0, 1) := by decide +kernel
theorem dX4_holder_43 : decode cX4_holder 43 = .ok (.getfield 16, 3) := by decide +kernel
theorem dX4_holder_46 : decode cX4_holder 46 = .ok (.iload_n 1, 1) := by decide +kernel
theorem dX4_holder_47 : decode cX4_holder 47 = .ok (.invokevirtual 66, 3) := by decide +kernel
theorem dX4_holder_50 : decode cX4_holder 50 = .ok (.ireturn, 1) := by decide +kernel
theorem dX4_when_0 : decode cX4_when 0 = .ok (.aload_n 0, 1) := by decide +kernel
theorem dX4_when_1 : decode cX4_when 1 = .ok (.iload_n 1, 1) := by decide +kernel
theorem dX4_when_2 : decode cX4_when 2 = .ok (.invokevirtual 92, 3) := by decide +kernel
theorem dX4_when_5 : decode cX4_when 5 = .ok (.ifCond .eq 10, 3) := by decide +kernel
theorem dX4_when_8 : decode cX4_when 8 = .ok (.iload_n 2, 1) := by decide +kernel
theorem dX4_when_9 : decode cX4_when 9 = .ok (.invokestatic 51, 3) := by decide +kernel
theorem dX4_when_12 : decode cX4_when 12 = .ok (.ifCond .ne 9, 3) := by decide +kernel
theorem dX4_when_15 : decode cX4_when 15 = .ok (.aload_n 0, 1) := by decide +kernel
theorem dX4_when_16 : decode cX4_when 16 = .ok (.iconst 0, 1) := by decide +kernel
theorem dX4_when_17 : decode cX4_when 17 = .ok (.invokevirtual 59, 3) := by decide +kernel
theorem dX4_when_20 : decode cX4_when 20 = .ok (.ireturn, 1) := by decide +kernel
theorem dX4_when_21 : decode cX4_when 21 = .ok (.aload_n 0, 1) := by decide +kernel
theorem dX4_when_22 : decode cX4_when 22 = .ok (.getfield 16, 3) := by decide +kernel
theorem dX4_when_25 : decode cX4_when 25 = .ok (.aload_n 0, 1) := by decide +kernel
theorem dX4_when_26 : decode cX4_when 26 = .ok (.getfield 12, 3) := by decide +kernel
theorem dX4_when_29 : decode cX4_when 29 = .ok (.invokevirtual 154, 3) := by decide +kernel
theorem dX4_when_32 : decode cX4_when 32 = .ok (.iconst 0, 1) := by decide +kernel
theorem dX4_when_33 : decode cX4_when 33 = .ok (.istore_n 3, 1) := by decide +kernel
theorem dX4_when_34 : decode cX4_when 34 = .ok (.iload_n 3, 1) := by decide +kernel
theorem dX4_when_35 : decode cX4_when 35 = .ok (.bipush 60, 2) := by decide +kernel
theorem dX4_when_37 : decode cX4_when 37 = .ok (.if_icmp .gt 30, 3) := by decide +kernel
theorem dX4_when_40 : decode cX4_when 40 = .ok (.aload_n 0, 1) := by decide +kernel
theorem dX4_when_41 : decode cX4_when 41 = .ok (.getfield 16, 3) := by decide +kernel
theorem dX4_when_44 : decode cX4_when 44 = .ok (.iload_n 2, 1) := by decide +kernel
theorem dX4_when_45 : decode cX4_when 45 = .ok (.invokevirtual 66, 3) := by decide +kernel
theorem dX4_when_48 : decode cX4_when 48 = .ok (.iload_n 1, 1) := by decide +kernel
theorem dX4_when_49 : decode cX4_when 49 = .ok (.if_icmp .ne 5, 3) := by decide +kernel
theorem dX4_when_52 : decode cX4_when 52 = .ok (.iload_n 3, 1) := by decide +kernel
theorem dX4_when_53 : decode cX4_when 53 = .ok (.ireturn, 1) := by decide +kernel
theorem dX4_when_54 : decode cX4_when 54 = .ok (.aload_n 0, 1) := by decide +kernel
theorem dX4_when_55 : decode cX4_when 55 = .ok (.getfield 16, 3) := by decide +kernel
theorem dX4_when_58 : decode cX4_when 58 = .ok (.invokevirtual 161, 3) := by decide +kernel
theorem dX4_when_61 : decode cX4_when 61 = .ok (.iinc 3 1, 3) := by decide +kernel
theorem dX4_when_64 : decode cX4_when 64 = .ok (.goto (-30), 3) := by decide +kernel
theorem dX4_when_67 : decode cX4_when 67 = .ok (.aload_n 0, 1) := by decide +kernel
theorem dX4_when_68 : decode cX4_when 68 = .ok (.iconst 3, 1) := by decide +kernel
theorem dX4_when_69 : decode cX4_when 69 = .ok (.invokevirtual 59, 3) := by decide +kernel
theorem dX4_when_72 : decode cX4_when 72 = .ok (.ireturn, 1) := by decide +kernel
theorem dX4_clash_0 : decode cX4_clash 0 = .ok (.aload_n 0, 1) := by decide +kernel
theorem dX4_clash_1 : decode cX4_clash 1 = .ok (.getfield 16, 3) := by decide +kernel
theorem dX4_clash_4 : decode cX4_clash 4 = .ok (.aload_n 0, 1) := by decide +kernel
theorem dX4_clash_5 : decode cX4_clash 5 = .ok (.getfield 12, 3) := by decide +kernel
theorem dX4_clash_8 : decode cX4_clash 8 = .ok (.invokevirtual 154, 3) := by decide +kernel
theorem dX4_clash_11 : decode cX4_clash 11 = .ok (.iconst 1, 1) := by decide +kernel
theorem dX4_clash_12 : decode cX4_clash 12 = .ok (.istore_n 1, 1) := by decide +kernel
theorem dX4_clash_13 : decode cX4_clash 13 = .ok (.iload_n 1, 1) := by decide +kernel
theorem dX4_clash_14 : decode cX4_clash 14 = .ok (.bipush 60, 2) := by decide +kernel
theorem dX4_clash_16 : decode cX4_clash 16 = .ok (.if_icmp .gt 32, 3) := by decide +kernel
theorem dX4_clash_19 : decode cX4_clash 19 = .ok (.aload_n 0, 1) := by decide +kernel
theorem dX4_clash_20 : decode cX4_clash 20 = .ok (.getfield 16, 3) := by decide +kernel
theorem dX4_clash_23 : decode cX4_clash 23 = .ok (.invokevirtual 161, 3) := by decide +kernel
theorem dX4_clash_26 : decode cX4_clash 26 = .ok (.aload_n 0, 1) := by decide +kernel
theorem dX4_clash_27 : decode cX4_clash 27 = .ok (.getfield 16, 3) := by decide +kernel
theorem dX4_clash_30 : decode cX4_clash 30 = .ok (.aload_n 0, 1) := by decide +kernel
theorem dX4_clash_31 : decode cX4_clash 31 = .ok (.getfield 12, 3) := by decide +kernel
theorem dX4_clash_34 : decode cX4_clash 34 = .ok (.invokevirtual 164, 3) := by decide +kernel
theorem dX4_clash_37 : decode cX4_clash 37 = .ok (.ifCond .ne 5, 3) := by decide +kernel
theorem dX4_clash_40 : decode cX4_clash 40 = .ok (.iload_n 1, 1) := by decide +kernel
theorem dX4_clash_41 : decode cX4_clash 41 = .ok (.ireturn, 1) := by decide +kernel
theorem dX4_clash_42 : decode cX4_clash 42 = .ok (.iinc 1 1, 3) := by decide +kernel
theorem dX4_clash_45 : decode cX4_clash 45 = .ok (.goto (-32), 3) := by decide +kernel
theorem dX4_clash_48 : decode cX4_clash 48 = .ok (.aload_n 0, 1) := by decide +kernel
theorem dX4_clash_49 : decode cX4_clash 49 = .ok (.iconst 3, 1) := by decide +kernel
theorem dX4_clash_50 : decode cX4_clash 50 = .ok (.invokevirtual 59, 3) := by decide +kernel
theorem dX4_clash_53 : decode cX4_clash 53 = .ok (.ireturn, 1) := by decide +kernel
theorem dX4_rich_0 : decode cX4_rich 0 = .ok (.aload_n 0, 1) := by decide +kernel
theorem dX4_rich_1 : decode cX4_rich 1 = .ok (.iload_n 1, 1) := by decide +kernel
theorem dX4_rich_2 : decode cX4_rich 2 = .ok (.invokevirtual 92, 3) := by decide +kernel
theorem dX4_rich_5 : decode cX4_rich 5 = .ok (.ifCond .eq 13, 3) := by decide +kernel
theorem dX4_rich_8 : decode cX4_rich 8 = .ok (.iload_n 2, 1) := by decide +kernel
theorem dX4_rich_9 : decode cX4_rich 9 = .ok (.iconst 0, 1) := by decide +kernel
theorem dX4_rich_10 : decode cX4_rich 10 = .ok (.ldc 120, 2) := by decide +kernel
theorem dX4_rich_12 : decode cX4_rich 12 = .ok (.invokestatic 55, 3) := by decide +kernel
theorem dX4_rich_15 : decode cX4_rich 15 = .ok (.ifCond .ne 9, 3) := by decide +kernel
theorem dX4_rich_18 : decode cX4_rich 18 = .ok (.aload_n 0, 1) := by decide +kernel
theorem dX4_rich_19 : decode cX4_rich 19 = .ok (.iconst 0, 1) := by decide +kernel
theorem dX4_rich_20 : decode cX4_rich 20 = .ok (.invokevirtual 59, 3) := by decide +kernel
theorem dX4_rich_23 : decode cX4_rich 23 = .ok (.ireturn, 1) := by decide +kernel
theorem dX4_rich_24 : decode cX4_rich 24 = .ok (.aload_n 0, 1) := by decide +kernel
theorem dX4_rich_25 : decode cX4_rich 25 = .ok (.getfield 16, 3) := by decide +kernel
theorem dX4_rich_28 : decode cX4_rich 28 = .ok (.aload_n 0, 1) := by decide +kernel
theorem dX4_rich_29 : decode cX4_rich 29 = .ok (.getfield 12, 3) := by decide +kernel
theorem dX4_rich_32 : decode cX4_rich 32 = .ok (.invokevirtual 154, 3) := by decide +kernel
theorem dX4_rich_35 : decode cX4_rich 35 = .ok (.iconst 0, 1) := by decide +kernel
theorem dX4_rich_36 : decode cX4_rich 36 = .ok (.istore_n 3, 1) := by decide +kernel
theorem dX4_rich_37 : decode cX4_rich 37 = .ok (.iload_n 3, 1) := by decide +kernel
theorem dX4_rich_38 : decode cX4_rich 38 = .ok (.bipush 60, 2) := by decide +kernel
theorem dX4_rich_40 : decode cX4_rich 40 = .ok (.if_icmp .gt 31, 3) := by decide +kernel
theorem dX4_rich_43 : decode cX4_rich 43 = .ok (.aload_n 0, 1) := by decide +kernel
theorem dX4_rich_44 : decode cX4_rich 44 = .ok (.getfield 16, 3) := by decide +kernel
theorem dX4_rich_47 : decode cX4_rich 47 = .ok (.getfield 101, 3) := by decide +kernel
theorem dX4_rich_50 : decode cX4_rich 50 = .ok (.iload_n 1, 1) := by decide +kernel
theorem dX4_rich_51 : decode cX4_rich 51 = .ok (.iaload, 1) := by decide +kernel
theorem dX4_rich_52 : decode cX4_rich 52 = .ok (.iload_n 2, 1) := by decide +kernel
theorem dX4_rich_53 : decode cX4_rich 53 = .ok (.if_icmp .lt 5, 3) := by decide +kernel
theorem dX4_rich_56 : decode cX4_rich 56 = .ok (.iload_n 3, 1) := by decide +kernel
theorem dX4_rich_57 : decode cX4_rich 57 = .ok (.ireturn, 1) := by decide +kernel
theorem dX4_rich_58 : decode cX4_rich 58 = .ok (.aload_n 0, 1) := by decide +kernel
theorem dX4_rich_59 : decode cX4_rich 59 = .ok (.getfield 16, 3) := by decide +kernel
theorem dX4_rich_62 : decode cX4_rich 62 = .ok (.invokevirtual 161, 3) := by decide +kernel
theorem dX4_rich_65 : decode cX4_rich 65 = .ok (.iinc 3 1, 3) := by decide +kernel
theorem dX4_rich_68 : decode cX4_rich 68 = .ok (.goto (-31), 3) := by decide +kernel
theorem dX4_rich_71 : decode cX4_rich 71 = .ok (.aload_n 0, 1) := by decide +kernel
theorem dX4_rich_72 : decode cX4_rich 72 = .ok (.iconst 3, 1) := by decide +kernel
theorem dX4_rich_73 : decode cX4_rich 73 = .ok (.invokevirtual 59, 3) := by decide +kernel
theorem dX4_rich_76 : decode cX4_rich 76 = .ok (.ireturn, 1) := by decide +kernel
theorem dX4_seat_0 : decode cX4_seat 0 = .ok (.aload_n 0, 1) := by decide +kernel
theorem dX4_seat_1 : decode cX4_seat 1 = .ok (.iload_n 1, 1) := by decide +kernel
theorem dX4_seat_2 : decode cX4_seat 2 = .ok (.invokevirtual 92, 3) := by decide +kernel
theorem dX4_seat_5 : decode cX4_seat 5 = .ok (.ifCond .eq 13, 3) := by decide +kernel
theorem dX4_seat_8 : decode cX4_seat 8 = .ok (.iload_n 2, 1) := by decide +kernel
theorem dX4_seat_9 : decode cX4_seat 9 = .ok (.iconst 0, 1) := by decide +kernel
theorem dX4_seat_10 : decode cX4_seat 10 = .ok (.bipush 40, 2) := by decide +kernel
theorem dX4_seat_12 : decode cX4_seat 12 = .ok (.invokestatic 55, 3) := by decide +kernel
theorem dX4_seat_15 : decode cX4_seat 15 = .ok (.ifCond .ne 9, 3) := by decide +kernel
theorem dX4_seat_18 : decode cX4_seat 18 = .ok (.aload_n 0, 1) := by decide +kernel
theorem dX4_seat_19 : decode cX4_seat 19 = .ok (.iconst 0, 1) := by decide +kernel
theorem dX4_seat_20 : decode cX4_seat 20 = .ok (.invokevirtual 59, 3) := by decide +kernel
theorem dX4_seat_23 : decode cX4_seat 23 = .ok (.ireturn, 1) := by decide +kernel
theorem dX4_seat_24 : decode cX4_seat 24 = .ok (.aload_n 0, 1) := by decide +kernel
theorem dX4_seat_25 : decode cX4_seat 25 = .ok (.iload_n 1, 1) := by decide +kernel
theorem dX4_seat_26 : decode cX4_seat 26 = .ok (.iload_n 2, 1) := by decide +kernel
theorem dX4_seat_27 : decode cX4_seat 27 = .ok (.iconst 0, 1) := by decide +kernel
theorem dX4_seat_28 : decode cX4_seat 28 = .ok (.iconst 0, 1) := by decide +kernel
theorem dX4_seat_29 : decode cX4_seat 29 = .ok (.bipush 11, 2) := by decide +kernel
theorem dX4_seat_31 : decode cX4_seat 31 = .ok (.invokevirtual 168, 3) := by decide +kernel
theorem dX4_seat_34 : decode cX4_seat 34 = .ok (.ireturn, 1) := by decide +kernel
theorem dX4_kindFor_0 : decode cX4_kindFor 0 = .ok (.aload_n 0, 1) := by decide +kernel
theorem dX4_kindFor_1 : decode cX4_kindFor 1 = .ok (.iload_n 1, 1) := by decide +kernel
theorem dX4_kindFor_2 : decode cX4_kindFor 2 = .ok (.invokevirtual 92, 3) := by decide +kernel
theorem dX4_kindFor_5 : decode cX4_kindFor 5 = .ok (.ifCond .eq 13, 3) := by decide +kernel
theorem dX4_kindFor_8 : decode cX4_kindFor 8 = .ok (.iload_n 2, 1) := by decide +kernel
theorem dX4_kindFor_9 : decode cX4_kindFor 9 = .ok (.iconst 0, 1) := by decide +kernel
theorem dX4_kindFor_10 : decode cX4_kindFor 10 = .ok (.bipush 40, 2) := by decide +kernel
theorem dX4_kindFor_12 : decode cX4_kindFor 12 = .ok (.invokestatic 55, 3) := by decide +kernel
theorem dX4_kindFor_15 : decode cX4_kindFor 15 = .ok (.ifCond .ne 9, 3) := by decide +kernel
theorem dX4_kindFor_18 : decode cX4_kindFor 18 = .ok (.aload_n 0, 1) := by decide +kernel
theorem dX4_kindFor_19 : decode cX4_kindFor 19 = .ok (.iconst 0, 1) := by decide +kernel
theorem dX4_kindFor_20 : decode cX4_kindFor 20 = .ok (.invokevirtual 59, 3) := by decide +kernel
theorem dX4_kindFor_23 : decode cX4_kindFor 23 = .ok (.ireturn, 1) := by decide +kernel
theorem dX4_kindFor_24 : decode cX4_kindFor 24 = .ok (.aload_n 0, 1) := by decide +kernel
theorem dX4_kindFor_25 : decode cX4_kindFor 25 = .ok (.iload_n 1, 1) := by decide +kernel
theorem dX4_kindFor_26 : decode cX4_kindFor 26 = .ok (.iload_n 2, 1) := by decide +kernel
theorem dX4_kindFor_27 : decode cX4_kindFor 27 = .ok (.iconst 1, 1) := by decide +kernel
theorem dX4_kindFor_28 : decode cX4_kindFor 28 = .ok (.iconst 0, 1) := by decide +kernel
theorem dX4_kindFor_29 : decode cX4_kindFor 29 = .ok (.bipush 6, 2) := by decide +kernel
theorem dX4_kindFor_31 : decode cX4_kindFor 31 = .ok (.invokevirtual 168, 3) := by decide +kernel
theorem dX4_kindFor_34 : decode cX4_kindFor 34 = .ok (.ireturn, 1) := by decide +kernel
theorem dX4_draught_0 : decode cX4_draught 0 = .ok (.aload_n 0, 1) := by decide +kernel
theorem dX4_draught_1 : decode cX4_draught 1 = .ok (.iload_n 1, 1) := by decide +kernel
theorem dX4_draught_2 : decode cX4_draught 2 = .ok (.invokevirtual 92, 3) := by decide +kernel
theorem dX4_draught_5 : decode cX4_draught 5 = .ok (.ifCond .eq 13, 3) := by decide +kernel
theorem dX4_draught_8 : decode cX4_draught 8 = .ok (.iload_n 2, 1) := by decide +kernel
theorem dX4_draught_9 : decode cX4_draught 9 = .ok (.iconst 0, 1) := by decide +kernel
theorem dX4_draught_10 : decode cX4_draught 10 = .ok (.bipush 40, 2) := by decide +kernel
theorem dX4_draught_12 : decode cX4_draught 12 = .ok (.invokestatic 55, 3) := by decide +kernel
theorem dX4_draught_15 : decode cX4_draught 15 = .ok (.ifCond .ne 9, 3) := by decide +kernel
theorem dX4_draught_18 : decode cX4_draught 18 = .ok (.aload_n 0, 1) := by decide +kernel
theorem dX4_draught_19 : decode cX4_draught 19 = .ok (.iconst 0, 1) := by decide +kernel
theorem dX4_draught_20 : decode cX4_draught 20 = .ok (.invokevirtual 59, 3) := by decide +kernel
theorem dX4_draught_23 : decode cX4_draught 23 = .ok (.ireturn, 1) := by decide +kernel
theorem dX4_draught_24 : decode cX4_draught 24 = .ok (.aload_n 0, 1) := by decide +kernel
theorem dX4_draught_25 : decode cX4_draught 25 = .ok (.iload_n 1, 1) := by decide +kernel
theorem dX4_draught_26 : decode cX4_draught 26 = .ok (.iload_n 2, 1) := by decide +kernel
theorem dX4_draught_27 : decode cX4_draught 27 = .ok (.iconst 2, 1) := by decide +kernel
theorem dX4_draught_28 : decode cX4_draught 28 = .ok (.bipush (-3), 2) := by decide +kernel
theorem dX4_draught_30 : decode cX4_draught 30 = .ok (.iconst 3, 1) := by decide +kernel
theorem dX4_draught_31 : decode cX4_draught 31 = .ok (.invokevirtual 168, 3) := by decide +kernel
theorem dX4_draught_34 : decode cX4_draught 34 = .ok (.ireturn, 1) := by decide +kernel
theorem dX4_fallFor_0 : decode cX4_fallFor 0 = .ok (.iload_n 1, 1) := by decide +kernel
theorem dX4_fallFor_1 : decode cX4_fallFor 1 = .ok (.iconst 0, 1) := by decide +kernel
theorem dX4_fallFor_2 : decode cX4_fallFor 2 = .ok (.ldc 120, 2) := by decide +kernel
theorem dX4_fallFor_4 : decode cX4_fallFor 4 = .ok (.invokestatic 55, 3) := by decide +kernel
theorem dX4_fallFor_7 : decode cX4_fallFor 7 = .ok (.ifCond .eq 13, 3) := by decide +kernel
theorem dX4_fallFor_10 : decode cX4_fallFor 10 = .ok (.iload_n 2, 1) := by decide +kernel
theorem dX4_fallFor_11 : decode cX4_fallFor 11 = .ok (.iconst 0, 1) := by decide +kernel
theorem dX4_fallFor_12 : decode cX4_fallFor 12 = .ok (.bipush 40, 2) := by decide +kernel
theorem dX4_fallFor_14 : decode cX4_fallFor 14 = .ok (.invokestatic 55, 3) := by decide +kernel
theorem dX4_fallFor_17 : decode cX4_fallFor 17 = .ok (.ifCond .ne 9, 3) := by decide +kernel
theorem dX4_fallFor_20 : decode cX4_fallFor 20 = .ok (.aload_n 0, 1) := by decide +kernel
theorem dX4_fallFor_21 : decode cX4_fallFor 21 = .ok (.iconst 0, 1) := by decide +kernel
theorem dX4_fallFor_22 : decode cX4_fallFor 22 = .ok (.invokevirtual 59, 3) := by decide +kernel
theorem dX4_fallFor_25 : decode cX4_fallFor 25 = .ok (.ireturn, 1) := by decide +kernel
theorem dX4_fallFor_26 : decode cX4_fallFor 26 = .ok (.iconst (-1), 1) := by decide +kernel
theorem dX4_fallFor_27 : decode cX4_fallFor 27 = .ok (.istore_n 3, 1) := by decide +kernel
theorem dX4_fallFor_28 : decode cX4_fallFor 28 = .ok (.bipush 64, 2) := by decide +kernel
theorem dX4_fallFor_30 : decode cX4_fallFor 30 = .ok (.istore 4, 2) := by decide +kernel
theorem dX4_fallFor_32 : decode cX4_fallFor 32 = .ok (.iload 4, 2) := by decide +kernel
theorem dX4_fallFor_34 : decode cX4_fallFor 34 = .ok (.ifCond .le 39, 3) := by decide +kernel
theorem dX4_fallFor_37 : decode cX4_fallFor 37 = .ok (.iload_n 3, 1) := by decide +kernel
theorem dX4_fallFor_38 : decode cX4_fallFor 38 = .ok (.iload 4, 2) := by decide +kernel
theorem dX4_fallFor_40 : decode cX4_fallFor 40 = .ok (.iadd, 1) := by decide +kernel
theorem dX4_fallFor_41 : decode cX4_fallFor 41 = .ok (.istore 5, 2) := by decide +kernel
theorem dX4_fallFor_43 : decode cX4_fallFor 43 = .ok (.iload 5, 2) := by decide +kernel
theorem dX4_fallFor_45 : decode cX4_fallFor 45 = .ok (.bipush 99, 2) := by decide +kernel
theorem dX4_fallFor_47 : decode cX4_fallFor 47 = .ok (.if_icmp .gt 17, 3) := by decide +kernel
theorem dX4_fallFor_50 : decode cX4_fallFor 50 = .ok (.aload_n 0, 1) := by decide +kernel
theorem dX4_fallFor_51 : decode cX4_fallFor 51 = .ok (.iload 5, 2) := by decide +kernel
theorem dX4_fallFor_53 : decode cX4_fallFor 53 = .ok (.iload_n 2, 1) := by decide +kernel
theorem dX4_fallFor_54 : decode cX4_fallFor 54 = .ok (.invokevirtual 172, 3) := by decide +kernel
theorem dX4_fallFor_57 : decode cX4_fallFor 57 = .ok (.iload_n 1, 1) := by decide +kernel
theorem dX4_fallFor_58 : decode cX4_fallFor 58 = .ok (.if_icmp .ge 6, 3) := by decide +kernel
theorem dX4_fallFor_61 : decode cX4_fallFor 61 = .ok (.iload 5, 2) := by decide +kernel
theorem dX4_fallFor_63 : decode cX4_fallFor 63 = .ok (.istore_n 3, 1) := by decide +kernel
theorem dX4_fallFor_64 : decode cX4_fallFor 64 = .ok (.iload 4, 2) := by decide +kernel
theorem dX4_fallFor_66 : decode cX4_fallFor 66 = .ok (.iconst 2, 1) := by decide +kernel
theorem dX4_fallFor_67 : decode cX4_fallFor 67 = .ok (.idiv, 1) := by decide +kernel
theorem dX4_fallFor_68 : decode cX4_fallFor 68 = .ok (.istore 4, 2) := by decide +kernel
theorem dX4_fallFor_70 : decode cX4_fallFor 70 = .ok (.goto (-38), 3) := by decide +kernel
theorem dX4_fallFor_73 : decode cX4_fallFor 73 = .ok (.iload_n 3, 1) := by decide +kernel
theorem dX4_fallFor_74 : decode cX4_fallFor 74 = .ok (.bipush 99, 2) := by decide +kernel
theorem dX4_fallFor_76 : decode cX4_fallFor 76 = .ok (.if_icmp .ne 11, 3) := by decide +kernel
theorem dX4_fallFor_79 : decode cX4_fallFor 79 = .ok (.aload_n 0, 1) := by decide +kernel
theorem dX4_fallFor_80 : decode cX4_fallFor 80 = .ok (.iconst 3, 1) := by decide +kernel
theorem dX4_fallFor_81 : decode cX4_fallFor 81 = .ok (.invokevirtual 59, 3) := by decide +kernel
theorem dX4_fallFor_84 : decode cX4_fallFor 84 = .ok (.goto 6, 3) := by decide +kernel
theorem dX4_fallFor_87 : decode cX4_fallFor 87 = .ok (.iload_n 3, 1) := by decide +kernel
theorem dX4_fallFor_88 : decode cX4_fallFor 88 = .ok (.iconst 1, 1) := by decide +kernel
theorem dX4_fallFor_89 : decode cX4_fallFor 89 = .ok (.iadd, 1) := by decide +kernel
theorem dX4_fallFor_90 : decode cX4_fallFor 90 = .ok (.ireturn, 1) := by decide +kernel
theorem dX4_swapFor_0 : decode cX4_swapFor 0 = .ok (.aload_n 0, 1) := by decide +kernel
theorem dX4_swapFor_1 : decode cX4_swapFor 1 = .ok (.iload_n 1, 1) := by decide +kernel
theorem dX4_swapFor_2 : decode cX4_swapFor 2 = .ok (.invokevirtual 92, 3) := by decide +kernel
theorem dX4_swapFor_5 : decode cX4_swapFor 5 = .ok (.ifCond .eq 13, 3) := by decide +kernel
theorem dX4_swapFor_8 : decode cX4_swapFor 8 = .ok (.iload_n 2, 1) := by decide +kernel
theorem dX4_swapFor_9 : decode cX4_swapFor 9 = .ok (.iconst 0, 1) := by decide +kernel
theorem dX4_swapFor_10 : decode cX4_swapFor 10 = .ok (.bipush 40, 2) := by decide +kernel
theorem dX4_swapFor_12 : decode cX4_swapFor 12 = .ok (.invokestatic 55, 3) := by decide +kernel
theorem dX4_swapFor_15 : decode cX4_swapFor 15 = .ok (.ifCond .ne 9, 3) := by decide +kernel
theorem dX4_swapFor_18 : decode cX4_swapFor 18 = .ok (.aload_n 0, 1) := by decide +kernel
theorem dX4_swapFor_19 : decode cX4_swapFor 19 = .ok (.iconst 0, 1) := by decide +kernel
theorem dX4_swapFor_20 : decode cX4_swapFor 20 = .ok (.invokevirtual 59, 3) := by decide +kernel
theorem dX4_swapFor_23 : decode cX4_swapFor 23 = .ok (.ireturn, 1) := by decide +kernel
theorem dX4_swapFor_24 : decode cX4_swapFor 24 = .ok (.aload_n 0, 1) := by decide +kernel
theorem dX4_swapFor_25 : decode cX4_swapFor 25 = .ok (.getfield 12, 3) := by decide +kernel
theorem dX4_swapFor_28 : decode cX4_swapFor 28 = .ok (.getfield 85, 3) := by decide +kernel
theorem dX4_swapFor_31 : decode cX4_swapFor 31 = .ok (.iconst 2, 1) := by decide +kernel
theorem dX4_swapFor_32 : decode cX4_swapFor 32 = .ok (.if_icmp .ge 9, 3) := by decide +kernel
theorem dX4_swapFor_35 : decode cX4_swapFor 35 = .ok (.aload_n 0, 1) := by decide +kernel
theorem dX4_swapFor_36 : decode cX4_swapFor 36 = .ok (.iconst 3, 1) := by decide +kernel
theorem dX4_swapFor_37 : decode cX4_swapFor 37 = .ok (.invokevirtual 59, 3) := by decide +kernel
theorem dX4_swapFor_40 : decode cX4_swapFor 40 = .ok (.ireturn, 1) := by decide +kernel
theorem dX4_swapFor_41 : decode cX4_swapFor 41 = .ok (.aload_n 0, 1) := by decide +kernel
theorem dX4_swapFor_42 : decode cX4_swapFor 42 = .ok (.iload_n 1, 1) := by decide +kernel
theorem dX4_swapFor_43 : decode cX4_swapFor 43 = .ok (.iload_n 2, 1) := by decide +kernel
theorem dX4_swapFor_44 : decode cX4_swapFor 44 = .ok (.iconst 3, 1) := by decide +kernel
theorem dX4_swapFor_45 : decode cX4_swapFor 45 = .ok (.iconst 0, 1) := by decide +kernel
theorem dX4_swapFor_46 : decode cX4_swapFor 46 = .ok (.aload_n 0, 1) := by decide +kernel
theorem dX4_swapFor_47 : decode cX4_swapFor 47 = .ok (.getfield 12, 3) := by decide +kernel
theorem dX4_swapFor_50 : decode cX4_swapFor 50 = .ok (.getfield 85, 3) := by decide +kernel
theorem dX4_swapFor_53 : decode cX4_swapFor 53 = .ok (.iconst 1, 1) := by decide +kernel
theorem dX4_swapFor_54 : decode cX4_swapFor 54 = .ok (.isub, 1) := by decide +kernel
theorem dX4_swapFor_55 : decode cX4_swapFor 55 = .ok (.invokevirtual 168, 3) := by decide +kernel
theorem dX4_swapFor_58 : decode cX4_swapFor 58 = .ok (.ireturn, 1) := by decide +kernel
theorem dX4_brooms_0 : decode cX4_brooms 0 = .ok (.iload_n 1, 1) := by decide +kernel
theorem dX4_brooms_1 : decode cX4_brooms 1 = .ok (.iconst 0, 1) := by decide +kernel
theorem dX4_brooms_2 : decode cX4_brooms 2 = .ok (.ldc 120, 2) := by decide +kernel
theorem dX4_brooms_4 : decode cX4_brooms 4 = .ok (.invokestatic 55, 3) := by decide +kernel
theorem dX4_brooms_7 : decode cX4_brooms 7 = .ok (.ifCond .eq 13, 3) := by decide +kernel
theorem dX4_brooms_10 : decode cX4_brooms 10 = .ok (.iload_n 2, 1) := by decide +kernel
theorem dX4_brooms_11 : decode cX4_brooms 11 = .ok (.iconst 0, 1) := by decide +kernel
theorem dX4_brooms_12 : decode cX4_brooms 12 = .ok (.bipush 20, 2) := by decide +kernel
theorem dX4_brooms_14 : decode cX4_brooms 14 = .ok (.invokestatic 55, 3) := by decide +kernel
theorem dX4_brooms_17 : decode cX4_brooms 17 = .ok (.ifCond .ne 9, 3) := by decide +kernel
theorem dX4_brooms_20 : decode cX4_brooms 20 = .ok (.aload_n 0, 1) := by decide +kernel
theorem dX4_brooms_21 : decode cX4_brooms 21 = .ok (.iconst 0, 1) := by decide +kernel
theorem dX4_brooms_22 : decode cX4_brooms 22 = .ok (.invokevirtual 59, 3) := by decide +kernel
theorem dX4_brooms_25 : decode cX4_brooms 25 = .ok (.ireturn, 1) := by decide +kernel
theorem dX4_brooms_26 : decode cX4_brooms 26 = .ok (.iconst 1, 1) := by decide +kernel
theorem dX4_brooms_27 : decode cX4_brooms 27 = .ok (.aload_n 0, 1) := by decide +kernel
theorem dX4_brooms_28 : decode cX4_brooms 28 = .ok (.getfield 12, 3) := by decide +kernel
theorem dX4_brooms_31 : decode cX4_brooms 31 = .ok (.getfield 85, 3) := by decide +kernel
theorem dX4_brooms_34 : decode cX4_brooms 34 = .ok (.ishl, 1) := by decide +kernel
theorem dX4_brooms_35 : decode cX4_brooms 35 = .ok (.iconst 1, 1) := by decide +kernel
theorem dX4_brooms_36 : decode cX4_brooms 36 = .ok (.isub, 1) := by decide +kernel
theorem dX4_brooms_37 : decode cX4_brooms 37 = .ok (.istore_n 3, 1) := by decide +kernel
theorem dX4_brooms_38 : decode cX4_brooms 38 = .ok (.aload_n 0, 1) := by decide +kernel
theorem dX4_brooms_39 : decode cX4_brooms 39 = .ok (.iload_n 3, 1) := by decide +kernel
theorem dX4_brooms_40 : decode cX4_brooms 40 = .ok (.iload_n 2, 1) := by decide +kernel
theorem dX4_brooms_41 : decode cX4_brooms 41 = .ok (.invokevirtual 175, 3) := by decide +kernel
theorem dX4_brooms_44 : decode cX4_brooms 44 = .ok (.iload_n 1, 1) := by decide +kernel
theorem dX4_brooms_45 : decode cX4_brooms 45 = .ok (.if_icmp .le 9, 3) := by decide +kernel
theorem dX4_brooms_48 : decode cX4_brooms 48 = .ok (.aload_n 0, 1) := by decide +kernel
theorem dX4_brooms_49 : decode cX4_brooms 49 = .ok (.iconst 3, 1) := by decide +kernel
theorem dX4_brooms_50 : decode cX4_brooms 50 = .ok (.invokevirtual 59, 3) := by decide +kernel
theorem dX4_brooms_53 : decode cX4_brooms 53 = .ok (.ireturn, 1) := by decide +kernel
theorem dX4_brooms_54 : decode cX4_brooms 54 = .ok (.iconst 0, 1) := by decide +kernel
theorem dX4_brooms_55 : decode cX4_brooms 55 = .ok (.istore 4, 2) := by decide +kernel
theorem dX4_brooms_57 : decode cX4_brooms 57 = .ok (.iload 4, 2) := by decide +kernel
theorem dX4_brooms_59 : decode cX4_brooms 59 = .ok (.aload_n 0, 1) := by decide +kernel
theorem dX4_brooms_60 : decode cX4_brooms 60 = .ok (.getfield 12, 3) := by decide +kernel
theorem dX4_brooms_63 : decode cX4_brooms 63 = .ok (.getfield 85, 3) := by decide +kernel
theorem dX4_brooms_66 : decode cX4_brooms 66 = .ok (.if_icmp .ge 48, 3) := by decide +kernel
theorem dX4_brooms_69 : decode cX4_brooms 69 = .ok (.iconst 0, 1) := by decide +kernel
theorem dX4_brooms_70 : decode cX4_brooms 70 = .ok (.istore 5, 2) := by decide +kernel
theorem dX4_brooms_72 : decode cX4_brooms 72 = .ok (.iload 5, 2) := by decide +kernel
theorem dX4_brooms_74 : decode cX4_brooms 74 = .ok (.iload_n 3, 1) := by decide +kernel
theorem dX4_brooms_75 : decode cX4_brooms 75 = .ok (.if_icmp .ge 33, 3) := by decide +kernel
theorem dX4_brooms_78 : decode cX4_brooms 78 = .ok (.iload 5, 2) := by decide +kernel
theorem dX4_brooms_80 : decode cX4_brooms 80 = .ok (.invokestatic 178, 3) := by decide +kernel
theorem dX4_brooms_83 : decode cX4_brooms 83 = .ok (.iload 4, 2) := by decide +kernel
theorem dX4_brooms_85 : decode cX4_brooms 85 = .ok (.if_icmp .ne 17, 3) := by decide +kernel
theorem dX4_brooms_88 : decode cX4_brooms 88 = .ok (.aload_n 0, 1) := by decide +kernel
theorem dX4_brooms_89 : decode cX4_brooms 89 = .ok (.iload 5, 2) := by decide +kernel
theorem dX4_brooms_91 : decode cX4_brooms 91 = .ok (.iload_n 2, 1) := by decide +kernel
theorem dX4_brooms_92 : decode cX4_brooms 92 = .ok (.invokevirtual 175, 3) := by decide +kernel
theorem dX4_brooms_95 : decode cX4_brooms 95 = .ok (.iload_n 1, 1) := by decide +kernel
theorem dX4_brooms_96 : decode cX4_brooms 96 = .ok (.if_icmp .gt 6, 3) := by decide +kernel
theorem dX4_brooms_99 : decode cX4_brooms 99 = .ok (.iload 5, 2) := by decide +kernel
theorem dX4_brooms_101 : decode cX4_brooms 101 = .ok (.ireturn, 1) := by decide +kernel
theorem dX4_brooms_102 : decode cX4_brooms 102 = .ok (.iinc 5 1, 3) := by decide +kernel
theorem dX4_brooms_105 : decode cX4_brooms 105 = .ok (.goto (-33), 3) := by decide +kernel
theorem dX4_brooms_108 : decode cX4_brooms 108 = .ok (.iinc 4 1, 3) := by decide +kernel
theorem dX4_brooms_111 : decode cX4_brooms 111 = .ok (.goto (-54), 3) := by decide +kernel
theorem dX4_brooms_114 : decode cX4_brooms 114 = .ok (.iload_n 3, 1) := by decide +kernel
theorem dX4_brooms_115 : decode cX4_brooms 115 = .ok (.ireturn, 1) := by decide +kernel
theorem dX4_without_0 : decode cX4_without 0 = .ok (.iload_n 1, 1) := by decide +kernel
theorem dX4_without_1 : decode cX4_without 1 = .ok (.iconst 0, 1) := by decide +kernel
theorem dX4_without_2 : decode cX4_without 2 = .ok (.bipush 40, 2) := by decide +kernel
theorem dX4_without_4 : decode cX4_without 4 = .ok (.invokestatic 55, 3) := by decide +kernel
theorem dX4_without_7 : decode cX4_without 7 = .ok (.ifCond .ne 9, 3) := by decide +kernel
theorem dX4_without_10 : decode cX4_without 10 = .ok (.aload_n 0, 1) := by decide +kernel
theorem dX4_without_11 : decode cX4_without 11 = .ok (.iconst 0, 1) := by decide +kernel
theorem dX4_without_12 : decode cX4_without 12 = .ok (.invokevirtual 59, 3) := by decide +kernel
theorem dX4_without_15 : decode cX4_without 15 = .ok (.ireturn, 1) := by decide +kernel
theorem dX4_without_16 : decode cX4_without 16 = .ok (.aload_n 0, 1) := by decide +kernel
theorem dX4_without_17 : decode cX4_without 17 = .ok (.getfield 12, 3) := by decide +kernel
theorem dX4_without_20 : decode cX4_without 20 = .ok (.getfield 85, 3) := by decide +kernel
theorem dX4_without_23 : decode cX4_without 23 = .ok (.ifCond .ne 9, 3) := by decide +kernel
theorem dX4_without_26 : decode cX4_without 26 = .ok (.aload_n 0, 1) := by decide +kernel
theorem dX4_without_27 : decode cX4_without 27 = .ok (.iconst 3, 1) := by decide +kernel
theorem dX4_without_28 : decode cX4_without 28 = .ok (.invokevirtual 59, 3) := by decide +kernel
theorem dX4_without_31 : decode cX4_without 31 = .ok (.ireturn, 1) := by decide +kernel
theorem dX4_without_32 : decode cX4_without 32 = .ok (.iconst 0, 1) := by decide +kernel
theorem dX4_without_33 : decode cX4_without 33 = .ok (.istore_n 2, 1) := by decide +kernel
theorem dX4_without_34 : decode cX4_without 34 = .ok (.iconst (-1), 1) := by decide +kernel
theorem dX4_without_35 : decode cX4_without 35 = .ok (.istore_n 3, 1) := by decide +kernel
theorem dX4_without_36 : decode cX4_without 36 = .ok (.iconst 0, 1) := by decide +kernel
theorem dX4_without_37 : decode cX4_without 37 = .ok (.istore 4, 2) := by decide +kernel
theorem dX4_without_39 : decode cX4_without 39 = .ok (.iload 4, 2) := by decide +kernel
theorem dX4_without_41 : decode cX4_without 41 = .ok (.aload_n 0, 1) := by decide +kernel
theorem dX4_without_42 : decode cX4_without 42 = .ok (.getfield 12, 3) := by decide +kernel
theorem dX4_without_45 : decode cX4_without 45 = .ok (.getfield 85, 3) := by decide +kernel
theorem dX4_without_48 : decode cX4_without 48 = .ok (.if_icmp .ge 38, 3) := by decide +kernel
theorem dX4_without_51 : decode cX4_without 51 = .ok (.aload_n 0, 1) := by decide +kernel
theorem dX4_without_52 : decode cX4_without 52 = .ok (.sipush 255, 3) := by decide +kernel
theorem dX4_without_55 : decode cX4_without 55 = .ok (.iconst 1, 1) := by decide +kernel
theorem dX4_without_56 : decode cX4_without 56 = .ok (.iload 4, 2) := by decide +kernel
theorem dX4_without_58 : decode cX4_without 58 = .ok (.ishl, 1) := by decide +kernel
theorem dX4_without_59 : decode cX4_without 59 = .ok (.iconst (-1), 1) := by decide +kernel
theorem dX4_without_60 : decode cX4_without 60 = .ok (.ixor, 1) := by decide +kernel
theorem dX4_without_61 : decode cX4_without 61 = .ok (.iand, 1) := by decide +kernel
theorem dX4_without_62 : decode cX4_without 62 = .ok (.iload_n 1, 1) := by decide +kernel
theorem dX4_without_63 : decode cX4_without 63 = .ok (.invokevirtual 175, 3) := by decide +kernel
theorem dX4_without_66 : decode cX4_without 66 = .ok (.istore 5, 2) := by decide +kernel
theorem dX4_without_68 : decode cX4_without 68 = .ok (.iload 5, 2) := by decide +kernel
theorem dX4_without_70 : decode cX4_without 70 = .ok (.iload_n 3, 1) := by decide +kernel
theorem dX4_without_71 : decode cX4_without 71 = .ok (.if_icmp .le 9, 3) := by decide +kernel
theorem dX4_without_74 : decode cX4_without 74 = .ok (.iload 5, 2) := by decide +kernel
theorem dX4_without_76 : decode cX4_without 76 = .ok (.istore_n 3, 1) := by decide +kernel
theorem dX4_without_77 : decode cX4_without 77 = .ok (.iload 4, 2) := by decide +kernel
theorem dX4_without_79 : decode cX4_without 79 = .ok (.istore_n 2, 1) := by decide +kernel
theorem dX4_without_80 : decode cX4_without 80 = .ok (.iinc 4 1, 3) := by decide +kernel
theorem dX4_without_83 : decode cX4_without 83 = .ok (.goto (-44), 3) := by decide +kernel
theorem dX4_without_86 : decode cX4_without 86 = .ok (.iload_n 2, 1) := by decide +kernel
theorem dX4_without_87 : decode cX4_without 87 = .ok (.ireturn, 1) := by decide +kernel
theorem dX4_fits_0 : decode cX4_fits 0 = .ok (.aload_n 0, 1) := by decide +kernel
theorem dX4_fits_1 : decode cX4_fits 1 = .ok (.iload_n 1, 1) := by decide +kernel
theorem dX4_fits_2 : decode cX4_fits 2 = .ok (.iload_n 2, 1) := by decide +kernel
theorem dX4_fits_3 : decode cX4_fits 3 = .ok (.invokevirtual 183, 3) := by decide +kernel
theorem dX4_fits_6 : decode cX4_fits 6 = .ok (.istore_n 3, 1) := by decide +kernel
theorem dX4_fits_7 : decode cX4_fits 7 = .ok (.iload_n 3, 1) := by decide +kernel
theorem dX4_fits_8 : decode cX4_fits 8 = .ok (.ifCond .eq 7, 3) := by decide +kernel
theorem dX4_fits_11 : decode cX4_fits 11 = .ok (.iload_n 3, 1) := by decide +kernel
theorem dX4_fits_12 : decode cX4_fits 12 = .ok (.goto 12, 3) := by decide +kernel
theorem dX4_fits_15 : decode cX4_fits 15 = .ok (.aload_n 0, 1) := by decide +kernel
theorem dX4_fits_16 : decode cX4_fits 16 = .ok (.iload_n 1, 1) := by decide +kernel
theorem dX4_fits_17 : decode cX4_fits 17 = .ok (.iload_n 2, 1) := by decide +kernel
theorem dX4_fits_18 : decode cX4_fits 18 = .ok (.iconst 0, 1) := by decide +kernel
theorem dX4_fits_19 : decode cX4_fits 19 = .ok (.bipush 12, 2) := by decide +kernel
theorem dX4_fits_21 : decode cX4_fits 21 = .ok (.invokevirtual 186, 3) := by decide +kernel
theorem dX4_fits_24 : decode cX4_fits 24 = .ok (.ireturn, 1) := by decide +kernel
theorem dX4_kinds_0 : decode cX4_kinds 0 = .ok (.aload_n 0, 1) := by decide +kernel
theorem dX4_kinds_1 : decode cX4_kinds 1 = .ok (.iload_n 1, 1) := by decide +kernel
theorem dX4_kinds_2 : decode cX4_kinds 2 = .ok (.iload_n 2, 1) := by decide +kernel
theorem dX4_kinds_3 : decode cX4_kinds 3 = .ok (.invokevirtual 183, 3) := by decide +kernel
theorem dX4_kinds_6 : decode cX4_kinds 6 = .ok (.istore_n 3, 1) := by decide +kernel
theorem dX4_kinds_7 : decode cX4_kinds 7 = .ok (.iload_n 3, 1) := by decide +kernel
theorem dX4_kinds_8 : decode cX4_kinds 8 = .ok (.ifCond .eq 7, 3) := by decide +kernel
theorem dX4_kinds_11 : decode cX4_kinds 11 = .ok (.iload_n 3, 1) := by decide +kernel
theorem dX4_kinds_12 : decode cX4_kinds 12 = .ok (.goto 12, 3) := by decide +kernel
theorem dX4_kinds_15 : decode cX4_kinds 15 = .ok (.aload_n 0, 1) := by decide +kernel
theorem dX4_kinds_16 : decode cX4_kinds 16 = .ok (.iload_n 1, 1) := by decide +kernel
theorem dX4_kinds_17 : decode cX4_kinds 17 = .ok (.iload_n 2, 1) := by decide +kernel
theorem dX4_kinds_18 : decode cX4_kinds 18 = .ok (.iconst 1, 1) := by decide +kernel
theorem dX4_kinds_19 : decode cX4_kinds 19 = .ok (.bipush 7, 2) := by decide +kernel
theorem dX4_kinds_21 : decode cX4_kinds 21 = .ok (.invokevirtual 186, 3) := by decide +kernel
theorem dX4_kinds_24 : decode cX4_kinds 24 = .ok (.ireturn, 1) := by decide +kernel
theorem dX4_sneezes_0 : decode cX4_sneezes 0 = .ok (.iload_n 1, 1) := by decide +kernel
theorem dX4_sneezes_1 : decode cX4_sneezes 1 = .ok (.iconst 1, 1) := by decide +kernel
theorem dX4_sneezes_2 : decode cX4_sneezes 2 = .ok (.bipush 20, 2) := by decide +kernel
theorem dX4_sneezes_4 : decode cX4_sneezes 4 = .ok (.invokestatic 55, 3) := by decide +kernel
theorem dX4_sneezes_7 : decode cX4_sneezes 7 = .ok (.ifCond .ne 9, 3) := by decide +kernel
theorem dX4_sneezes_10 : decode cX4_sneezes 10 = .ok (.aload_n 0, 1) := by decide +kernel
theorem dX4_sneezes_11 : decode cX4_sneezes 11 = .ok (.iconst 0, 1) := by decide +kernel
theorem dX4_sneezes_12 : decode cX4_sneezes 12 = .ok (.invokevirtual 59, 3) := by decide +kernel
theorem dX4_sneezes_15 : decode cX4_sneezes 15 = .ok (.ireturn, 1) := by decide +kernel
theorem dX4_sneezes_16 : decode cX4_sneezes 16 = .ok (.aload_n 0, 1) := by decide +kernel
theorem dX4_sneezes_17 : decode cX4_sneezes 17 = .ok (.getfield 12, 3) := by decide +kernel
theorem dX4_sneezes_20 : decode cX4_sneezes 20 = .ok (.getfield 131, 3) := by decide +kernel
theorem dX4_sneezes_23 : decode cX4_sneezes 23 = .ok (.ldc 120, 2) := by decide +kernel
theorem dX4_sneezes_25 : decode cX4_sneezes 25 = .ok (.iload_n 1, 1) := by decide +kernel
theorem dX4_sneezes_26 : decode cX4_sneezes 26 = .ok (.isub, 1) := by decide +kernel
theorem dX4_sneezes_27 : decode cX4_sneezes 27 = .ok (.if_icmp .le 9, 3) := by decide +kernel
theorem dX4_sneezes_30 : decode cX4_sneezes 30 = .ok (.aload_n 0, 1) := by decide +kernel
theorem dX4_sneezes_31 : decode cX4_sneezes 31 = .ok (.iconst 4, 1) := by decide +kernel
theorem dX4_sneezes_32 : decode cX4_sneezes 32 = .ok (.invokevirtual 59, 3) := by decide +kernel
theorem dX4_sneezes_35 : decode cX4_sneezes 35 = .ok (.ireturn, 1) := by decide +kernel
theorem dX4_sneezes_36 : decode cX4_sneezes 36 = .ok (.iconst 0, 1) := by decide +kernel
theorem dX4_sneezes_37 : decode cX4_sneezes 37 = .ok (.istore_n 2, 1) := by decide +kernel
theorem dX4_sneezes_38 : decode cX4_sneezes 38 = .ok (.iload_n 2, 1) := by decide +kernel
theorem dX4_sneezes_39 : decode cX4_sneezes 39 = .ok (.iload_n 1, 1) := by decide +kernel
theorem dX4_sneezes_40 : decode cX4_sneezes 40 = .ok (.if_icmp .ge 35, 3) := by decide +kernel
theorem dX4_sneezes_43 : decode cX4_sneezes 43 = .ok (.aload_n 0, 1) := by decide +kernel
theorem dX4_sneezes_44 : decode cX4_sneezes 44 = .ok (.getfield 12, 3) := by decide +kernel
theorem dX4_sneezes_47 : decode cX4_sneezes 47 = .ok (.aload_n 0, 1) := by decide +kernel
theorem dX4_sneezes_48 : decode cX4_sneezes 48 = .ok (.getfield 12, 3) := by decide +kernel
theorem dX4_sneezes_51 : decode cX4_sneezes 51 = .ok (.invokevirtual 190, 3) := by decide +kernel
theorem dX4_sneezes_54 : decode cX4_sneezes 54 = .ok (.bipush 12, 2) := by decide +kernel
theorem dX4_sneezes_56 : decode cX4_sneezes 56 = .ok (.irem, 1) := by decide +kernel
theorem dX4_sneezes_57 : decode cX4_sneezes 57 = .ok (.iconst 1, 1) := by decide +kernel
theorem dX4_sneezes_58 : decode cX4_sneezes 58 = .ok (.invokevirtual 128, 3) := by decide +kernel
theorem dX4_sneezes_61 : decode cX4_sneezes 61 = .ok (.pop, 1) := by decide +kernel
theorem dX4_sneezes_62 : decode cX4_sneezes 62 = .ok (.aload_n 0, 1) := by decide +kernel
theorem dX4_sneezes_63 : decode cX4_sneezes 63 = .ok (.getfield 12, 3) := by decide +kernel
theorem dX4_sneezes_66 : decode cX4_sneezes 66 = .ok (.invokevirtual 161, 3) := by decide +kernel
theorem dX4_sneezes_69 : decode cX4_sneezes 69 = .ok (.iinc 2 1, 3) := by decide +kernel
theorem dX4_sneezes_72 : decode cX4_sneezes 72 = .ok (.goto (-34), 3) := by decide +kernel
theorem dX4_sneezes_75 : decode cX4_sneezes 75 = .ok (.aload_n 0, 1) := by decide +kernel
theorem dX4_sneezes_76 : decode cX4_sneezes 76 = .ok (.getfield 12, 3) := by decide +kernel
theorem dX4_sneezes_79 : decode cX4_sneezes 79 = .ok (.invokevirtual 138, 3) := by decide +kernel
theorem dX4_sneezes_82 : decode cX4_sneezes 82 = .ok (.ireturn, 1) := by decide +kernel
theorem dX4_odds_0 : decode cX4_odds 0 = .ok (.iload_n 1, 1) := by decide +kernel
theorem dX4_odds_1 : decode cX4_odds 1 = .ok (.iconst 0, 1) := by decide +kernel
theorem dX4_odds_2 : decode cX4_odds 2 = .ok (.bipush 14, 2) := by decide +kernel
theorem dX4_odds_4 : decode cX4_odds 4 = .ok (.invokestatic 55, 3) := by decide +kernel
theorem dX4_odds_7 : decode cX4_odds 7 = .ok (.ifCond .eq 12, 3) := by decide +kernel
theorem dX4_odds_10 : decode cX4_odds 10 = .ok (.iload_n 2, 1) := by decide +kernel
theorem dX4_odds_11 : decode cX4_odds 11 = .ok (.iconst 0, 1) := by decide +kernel
theorem dX4_odds_12 : decode cX4_odds 12 = .ok (.iconst 1, 1) := by decide +kernel
theorem dX4_odds_13 : decode cX4_odds 13 = .ok (.invokestatic 55, 3) := by decide +kernel
theorem dX4_odds_16 : decode cX4_odds 16 = .ok (.ifCond .ne 10, 3) := by decide +kernel
theorem dX4_odds_19 : decode cX4_odds 19 = .ok (.aload_n 0, 1) := by decide +kernel
theorem dX4_odds_20 : decode cX4_odds 20 = .ok (.iconst 0, 1) := by decide +kernel
theorem dX4_odds_21 : decode cX4_odds 21 = .ok (.invokevirtual 59, 3) := by decide +kernel
theorem dX4_odds_24 : decode cX4_odds 24 = .ok (.i2l, 1) := by decide +kernel
theorem dX4_odds_25 : decode cX4_odds 25 = .ok (.lreturn, 1) := by decide +kernel
theorem dX4_odds_26 : decode cX4_odds 26 = .ok (.bipush 12, 2) := by decide +kernel
theorem dX4_odds_28 : decode cX4_odds 28 = .ok (.aload_n 0, 1) := by decide +kernel
theorem dX4_odds_29 : decode cX4_odds 29 = .ok (.getfield 12, 3) := by decide +kernel
theorem dX4_odds_32 : decode cX4_odds 32 = .ok (.invokevirtual 145, 3) := by decide +kernel
theorem dX4_odds_35 : decode cX4_odds 35 = .ok (.invokestatic 178, 3) := by decide +kernel
theorem dX4_odds_38 : decode cX4_odds 38 = .ok (.isub, 1) := by decide +kernel
theorem dX4_odds_39 : decode cX4_odds 39 = .ok (.istore_n 3, 1) := by decide +kernel
theorem dX4_odds_40 : decode cX4_odds 40 = .ok (.iload_n 3, 1) := by decide +kernel
theorem dX4_odds_41 : decode cX4_odds 41 = .ok (.bipush 12, 2) := by decide +kernel
theorem dX4_odds_43 : decode cX4_odds 43 = .ok (.invokestatic 193, 3) := by decide +kernel
theorem dX4_odds_46 : decode cX4_odds 46 = .ok (.istore 4, 2) := by decide +kernel
theorem dX4_odds_48 : decode cX4_odds 48 = .ok (.iload_n 2, 1) := by decide +kernel
theorem dX4_odds_49 : decode cX4_odds 49 = .ok (.ifCond .ne 10, 3) := by decide +kernel
theorem dX4_odds_52 : decode cX4_odds 52 = .ok (.iload_n 3, 1) := by decide +kernel
theorem dX4_odds_53 : decode cX4_odds 53 = .ok (.iload 4, 2) := by decide +kernel
theorem dX4_odds_55 : decode cX4_odds 55 = .ok (.idiv, 1) := by decide +kernel
theorem dX4_odds_56 : decode cX4_odds 56 = .ok (.goto 8, 3) := by decide +kernel
theorem dX4_odds_59 : decode cX4_odds 59 = .ok (.bipush 12, 2) := by decide +kernel
theorem dX4_odds_61 : decode cX4_odds 61 = .ok (.iload 4, 2) := by decide +kernel
theorem dX4_odds_63 : decode cX4_odds 63 = .ok (.idiv, 1) := by decide +kernel
theorem dX4_odds_64 : decode cX4_odds 64 = .ok (.istore 5, 2) := by decide +kernel
theorem dX4_odds_66 : decode cX4_odds 66 = .ok (.lconst 1, 1) := by decide +kernel
theorem dX4_odds_67 : decode cX4_odds 67 = .ok (.lstore 6, 2) := by decide +kernel
theorem dX4_odds_69 : decode cX4_odds 69 = .ok (.iconst 0, 1) := by decide +kernel
theorem dX4_odds_70 : decode cX4_odds 70 = .ok (.istore 8, 2) := by decide +kernel
theorem dX4_odds_72 : decode cX4_odds 72 = .ok (.iload 8, 2) := by decide +kernel
theorem dX4_odds_74 : decode cX4_odds 74 = .ok (.iload_n 1, 1) := by decide +kernel
theorem dX4_odds_75 : decode cX4_odds 75 = .ok (.if_icmp .ge 17, 3) := by decide +kernel
theorem dX4_odds_78 : decode cX4_odds 78 = .ok (.lload 6, 2) := by decide +kernel
theorem dX4_odds_80 : decode cX4_odds 80 = .ok (.iload 5, 2) := by decide +kernel
theorem dX4_odds_82 : decode cX4_odds 82 = .ok (.i2l, 1) := by decide +kernel
theorem dX4_odds_83 : decode cX4_odds 83 = .ok (.lmul, 1) := by decide +kernel
theorem dX4_odds_84 : decode cX4_odds 84 = .ok (.lstore 6, 2) := by decide +kernel
theorem dX4_odds_86 : decode cX4_odds 86 = .ok (.iinc 8 1, 3) := by decide +kernel
theorem dX4_odds_89 : decode cX4_odds 89 = .ok (.goto (-17), 3) := by decide +kernel
theorem dX4_odds_92 : decode cX4_odds 92 = .ok (.lload 6, 2) := by decide +kernel
theorem dX4_odds_94 : decode cX4_odds 94 = .ok (.lreturn, 1) := by decide +kernel
theorem dX4_seed_0 : decode cX4_seed 0 = .ok (.aload_n 0, 1) := by decide +kernel
theorem dX4_seed_1 : decode cX4_seed 1 = .ok (.getfield 12, 3) := by decide +kernel
theorem dX4_seed_4 : decode cX4_seed 4 = .ok (.getfield 196, 3) := by decide +kernel
theorem dX4_seed_7 : decode cX4_seed 7 = .ok (.istore_n 2, 1) := by decide +kernel
theorem dX4_seed_8 : decode cX4_seed 8 = .ok (.aload_n 0, 1) := by decide +kernel
theorem dX4_seed_9 : decode cX4_seed 9 = .ok (.getfield 12, 3) := by decide +kernel
theorem dX4_seed_12 : decode cX4_seed 12 = .ok (.iload_n 1, 1) := by decide +kernel
theorem dX4_seed_13 : decode cX4_seed 13 = .ok (.putfield 196, 3) := by decide +kernel
theorem dX4_seed_16 : decode cX4_seed 16 = .ok (.iload_n 2, 1) := by decide +kernel
theorem dX4_seed_17 : decode cX4_seed 17 = .ok (.ireturn, 1) := by decide +kernel
theorem dX4_feed_0 : decode cX4_feed 0 = .ok (.iload_n 2, 1) := by decide +kernel
theorem dX4_feed_1 : decode cX4_feed 1 = .ok (.iconst 1, 1) := by decide +kernel
theorem dX4_feed_2 : decode cX4_feed 2 = .ok (.iconst 4, 1) := by decide +kernel
theorem dX4_feed_3 : decode cX4_feed 3 = .ok (.invokestatic 55, 3) := by decide +kernel
theorem dX4_feed_6 : decode cX4_feed 6 = .ok (.ifCond .ne 9, 3) := by decide +kernel
theorem dX4_feed_9 : decode cX4_feed 9 = .ok (.aload_n 0, 1) := by decide +kernel
theorem dX4_feed_10 : decode cX4_feed 10 = .ok (.iconst 0, 1) := by decide +kernel
theorem dX4_feed_11 : decode cX4_feed 11 = .ok (.invokevirtual 59, 3) := by decide +kernel
theorem dX4_feed_14 : decode cX4_feed 14 = .ok (.ireturn, 1) := by decide +kernel
theorem dX4_feed_15 : decode cX4_feed 15 = .ok (.aload_n 0, 1) := by decide +kernel
theorem dX4_feed_16 : decode cX4_feed 16 = .ok (.getfield 29, 3) := by decide +kernel
theorem dX4_feed_19 : decode cX4_feed 19 = .ok (.getfield 199, 3) := by decide +kernel
theorem dX4_feed_22 : decode cX4_feed 22 = .ok (.bipush 120, 2) := by decide +kernel
theorem dX4_feed_24 : decode cX4_feed 24 = .ok (.iload_n 2, 1) := by decide +kernel
theorem dX4_feed_25 : decode cX4_feed 25 = .ok (.isub, 1) := by decide +kernel
theorem dX4_feed_26 : decode cX4_feed 26 = .ok (.if_icmp .le 9, 3) := by decide +kernel
theorem dX4_feed_29 : decode cX4_feed 29 = .ok (.aload_n 0, 1) := by decide +kernel
theorem dX4_feed_30 : decode cX4_feed 30 = .ok (.iconst 1, 1) := by decide +kernel
theorem dX4_feed_31 : decode cX4_feed 31 = .ok (.invokevirtual 59, 3) := by decide +kernel
theorem dX4_feed_34 : decode cX4_feed 34 = .ok (.ireturn, 1) := by decide +kernel
theorem dX4_feed_35 : decode cX4_feed 35 = .ok (.aload_n 0, 1) := by decide +kernel
theorem dX4_feed_36 : decode cX4_feed 36 = .ok (.getfield 29, 3) := by decide +kernel
theorem dX4_feed_39 : decode cX4_feed 39 = .ok (.iload_n 1, 1) := by decide +kernel
theorem dX4_feed_40 : decode cX4_feed 40 = .ok (.iload_n 2, 1) := by decide +kernel
theorem dX4_feed_41 : decode cX4_feed 41 = .ok (.invokevirtual 202, 3) := by decide +kernel
theorem dX4_feed_44 : decode cX4_feed 44 = .ok (.aload_n 0, 1) := by decide +kernel
theorem dX4_feed_45 : decode cX4_feed 45 = .ok (.getfield 29, 3) := by decide +kernel
theorem dX4_feed_48 : decode cX4_feed 48 = .ok (.getfield 199, 3) := by decide +kernel
theorem dX4_feed_51 : decode cX4_feed 51 = .ok (.ireturn, 1) := by decide +kernel
theorem dX4_wipe_0 : decode cX4_wipe 0 = .ok (.aload_n 0, 1) := by decide +kernel
theorem dX4_wipe_1 : decode cX4_wipe 1 = .ok (.getfield 29, 3) := by decide +kernel
theorem dX4_wipe_4 : decode cX4_wipe 4 = .ok (.getfield 199, 3) := by decide +kernel
theorem dX4_wipe_7 : decode cX4_wipe 7 = .ok (.istore_n 1, 1) := by decide +kernel
theorem dX4_wipe_8 : decode cX4_wipe 8 = .ok (.aload_n 0, 1) := by decide +kernel
theorem dX4_wipe_9 : decode cX4_wipe 9 = .ok (.getfield 29, 3) := by decide +kernel
theorem dX4_wipe_12 : decode cX4_wipe 12 = .ok (.iconst 0, 1) := by decide +kernel
theorem dX4_wipe_13 : decode cX4_wipe 13 = .ok (.putfield 199, 3) := by decide +kernel
theorem dX4_wipe_16 : decode cX4_wipe 16 = .ok (.iload_n 1, 1) := by decide +kernel
theorem dX4_wipe_17 : decode cX4_wipe 17 = .ok (.ireturn, 1) := by decide +kernel
theorem dX4_text_0 : decode cX4_text 0 = .ok (.aload_n 0, 1) := by decide +kernel
theorem dX4_text_1 : decode cX4_text 1 = .ok (.getfield 36, 3) := by decide +kernel
theorem dX4_text_4 : decode cX4_text 4 = .ok (.aload_n 0, 1) := by decide +kernel
theorem dX4_text_5 : decode cX4_text 5 = .ok (.getfield 29, 3) := by decide +kernel
theorem dX4_text_8 : decode cX4_text 8 = .ok (.invokevirtual 205, 3) := by decide +kernel
theorem dX4_text_11 : decode cX4_text 11 = .ok (.aload_n 0, 1) := by decide +kernel
theorem dX4_text_12 : decode cX4_text 12 = .ok (.getfield 29, 3) := by decide +kernel
theorem dX4_text_15 : decode cX4_text 15 = .ok (.iconst 0, 1) := by decide +kernel
theorem dX4_text_16 : decode cX4_text 16 = .ok (.putfield 199, 3) := by decide +kernel
theorem dX4_text_19 : decode cX4_text 19 = .ok (.aload_n 0, 1) := by decide +kernel
theorem dX4_text_20 : decode cX4_text 20 = .ok (.getfield 16, 3) := by decide +kernel
theorem dX4_text_23 : decode cX4_text 23 = .ok (.aload_n 0, 1) := by decide +kernel
theorem dX4_text_24 : decode cX4_text 24 = .ok (.getfield 12, 3) := by decide +kernel
theorem dX4_text_27 : decode cX4_text 27 = .ok (.invokevirtual 154, 3) := by decide +kernel
theorem dX4_text_30 : decode cX4_text 30 = .ok (.aload_n 0, 1) := by decide +kernel
theorem dX4_text_31 : decode cX4_text 31 = .ok (.getfield 36, 3) := by decide +kernel
theorem dX4_text_34 : decode cX4_text 34 = .ok (.aload_n 0, 1) := by decide +kernel
theorem dX4_text_35 : decode cX4_text 35 = .ok (.getfield 16, 3) := by decide +kernel
theorem dX4_text_38 : decode cX4_text 38 = .ok (.invokevirtual 209, 3) := by decide +kernel
theorem dX4_text_41 : decode cX4_text 41 = .ok (.istore_n 1, 1) := by decide +kernel
theorem dX4_text_42 : decode cX4_text 42 = .ok (.iload_n 1, 1) := by decide +kernel
theorem dX4_text_43 : decode cX4_text 43 = .ok (.ifCond .lt 14, 3) := by decide +kernel
theorem dX4_text_46 : decode cX4_text 46 = .ok (.aload_n 0, 1) := by decide +kernel
theorem dX4_text_47 : decode cX4_text 47 = .ok (.getfield 12, 3) := by decide +kernel
theorem dX4_text_50 : decode cX4_text 50 = .ok (.aload_n 0, 1) := by decide +kernel
theorem dX4_text_51 : decode cX4_text 51 = .ok (.getfield 16, 3) := by decide +kernel
theorem dX4_text_54 : decode cX4_text 54 = .ok (.invokevirtual 154, 3) := by decide +kernel
theorem dX4_text_57 : decode cX4_text 57 = .ok (.iload_n 1, 1) := by decide +kernel
theorem dX4_text_58 : decode cX4_text 58 = .ok (.ireturn, 1) := by decide +kernel
theorem dX4_hold_0 : decode cX4_hold 0 = .ok (.iload_n 1, 1) := by decide +kernel
theorem dX4_hold_1 : decode cX4_hold 1 = .ok (.invokestatic 213, 3) := by decide +kernel
theorem dX4_hold_4 : decode cX4_hold 4 = .ok (.ifCond .eq 16, 3) := by decide +kernel
theorem dX4_hold_7 : decode cX4_hold 7 = .ok (.iload_n 2, 1) := by decide +kernel
theorem dX4_hold_8 : decode cX4_hold 8 = .ok (.iconst (-1), 1) := by decide +kernel
theorem dX4_hold_9 : decode cX4_hold 9 = .ok (.if_icmp .eq 17, 3) := by decide +kernel
theorem dX4_hold_12 : decode cX4_hold 12 = .ok (.aload_n 0, 1) := by decide +kernel
theorem dX4_hold_13 : decode cX4_hold 13 = .ok (.iload_n 2, 1) := by decide +kernel
theorem dX4_hold_14 : decode cX4_hold 14 = .ok (.invokevirtual 92, 3) := by decide +kernel
theorem dX4_hold_17 : decode cX4_hold 17 = .ok (.ifCond .ne 9, 3) := by decide +kernel
theorem dX4_hold_20 : decode cX4_hold 20 = .ok (.aload_n 0, 1) := by decide +kernel
theorem dX4_hold_21 : decode cX4_hold 21 = .ok (.iconst 0, 1) := by decide +kernel
theorem dX4_hold_22 : decode cX4_hold 22 = .ok (.invokevirtual 59, 3) := by decide +kernel
theorem dX4_hold_25 : decode cX4_hold 25 = .ok (.ireturn, 1) := by decide +kernel
theorem dX4_hold_26 : decode cX4_hold 26 = .ok (.aload_n 0, 1) := by decide +kernel
theorem dX4_hold_27 : decode cX4_hold 27 = .ok (.getfield 12, 3) := by decide +kernel
theorem dX4_hold_30 : decode cX4_hold 30 = .ok (.getfield 216, 3) := by decide +kernel
theorem dX4_hold_33 : decode cX4_hold 33 = .ok (.iload_n 1, 1) := by decide +kernel
theorem dX4_hold_34 : decode cX4_hold 34 = .ok (.iload_n 2, 1) := by decide +kernel
theorem dX4_hold_35 : decode cX4_hold 35 = .ok (.iastore, 1) := by decide +kernel
theorem dX4_hold_36 : decode cX4_hold 36 = .ok (.iconst 1, 1) := by decide +kernel
theorem dX4_hold_37 : decode cX4_hold 37 = .ok (.ireturn, 1) := by decide +kernel
theorem dX4_as_0 : decode cX4_as 0 = .ok (.iload_n 1, 1) := by decide +kernel
theorem dX4_as_1 : decode cX4_as 1 = .ok (.invokestatic 213, 3) := by decide +kernel
theorem dX4_as_4 : decode cX4_as 4 = .ok (.ifCond .eq 10, 3) := by decide +kernel
theorem dX4_as_7 : decode cX4_as 7 = .ok (.iload_n 2, 1) := by decide +kernel
theorem dX4_as_8 : decode cX4_as 8 = .ok (.invokestatic 82, 3) := by decide +kernel
theorem dX4_as_11 : decode cX4_as 11 = .ok (.ifCond .ne 9, 3) := by decide +kernel
theorem dX4_as_14 : decode cX4_as 14 = .ok (.aload_n 0, 1) := by decide +kernel
theorem dX4_as_15 : decode cX4_as 15 = .ok (.iconst 0, 1) := by decide +kernel
theorem dX4_as_16 : decode cX4_as 16 = .ok (.invokevirtual 59, 3) := by decide +kernel
theorem dX4_as_19 : decode cX4_as 19 = .ok (.ireturn, 1) := by decide +kernel
theorem dX4_as_20 : decode cX4_as 20 = .ok (.aload_n 0, 1) := by decide +kernel
theorem dX4_as_21 : decode cX4_as 21 = .ok (.getfield 12, 3) := by decide +kernel
theorem dX4_as_24 : decode cX4_as 24 = .ok (.getfield 216, 3) := by decide +kernel
theorem dX4_as_27 : decode cX4_as 27 = .ok (.iload_n 1, 1) := by decide +kernel
theorem dX4_as_28 : decode cX4_as 28 = .ok (.iaload, 1) := by decide +kernel
theorem dX4_as_29 : decode cX4_as 29 = .ok (.istore_n 3, 1) := by decide +kernel
theorem dX4_as_30 : decode cX4_as 30 = .ok (.aload_n 0, 1) := by decide +kernel
theorem dX4_as_31 : decode cX4_as 31 = .ok (.iload_n 3, 1) := by decide +kernel
theorem dX4_as_32 : decode cX4_as 32 = .ok (.invokevirtual 92, 3) := by decide +kernel
theorem dX4_as_35 : decode cX4_as 35 = .ok (.ifCond .ne 9, 3) := by decide +kernel
theorem dX4_as_38 : decode cX4_as 38 = .ok (.aload_n 0, 1) := by decide +kernel
theorem dX4_as_39 : decode cX4_as 39 = .ok (.iconst 5, 1) := by decide +kernel
theorem dX4_as_40 : decode cX4_as 40 = .ok (.invokevirtual 59, 3) := by decide +kernel
theorem dX4_as_43 : decode cX4_as 43 = .ok (.ireturn, 1) := by decide +kernel
theorem dX4_as_44 : decode cX4_as 44 = .ok (.aload_n 0, 1) := by decide +kernel
theorem dX4_as_45 : decode cX4_as 45 = .ok (.getfield 12, 3) := by decide +kernel
theorem dX4_as_48 : decode cX4_as 48 = .ok (.getfield 95, 3) := by decide +kernel
theorem dX4_as_51 : decode cX4_as 51 = .ok (.iload_n 3, 1) := by decide +kernel
theorem dX4_as_52 : decode cX4_as 52 = .ok (.iaload, 1) := by decide +kernel
theorem dX4_as_53 : decode cX4_as 53 = .ok (.iload_n 2, 1) := by decide +kernel
theorem dX4_as_54 : decode cX4_as 54 = .ok (.invokestatic 219, 3) := by decide +kernel
theorem dX4_as_57 : decode cX4_as 57 = .ok (.ifCond .eq 7, 3) := by decide +kernel
theorem dX4_as_60 : decode cX4_as 60 = .ok (.iload_n 3, 1) := by decide +kernel
theorem dX4_as_61 : decode cX4_as 61 = .ok (.goto 8, 3) := by decide +kernel
theorem dX4_as_64 : decode cX4_as 64 = .ok (.aload_n 0, 1) := by decide +kernel
theorem dX4_as_65 : decode cX4_as 65 = .ok (.iconst 2, 1) := by decide +kernel
theorem dX4_as_66 : decode cX4_as 66 = .ok (.invokevirtual 59, 3) := by decide +kernel
theorem dX4_as_69 : decode cX4_as 69 = .ok (.ireturn, 1) := by decide +kernel
theorem dX4_sheet_0 : decode cX4_sheet 0 = .ok (.iload_n 1, 1) := by decide +kernel
theorem dX4_sheet_1 : decode cX4_sheet 1 = .ok (.invokestatic 223, 3) := by decide +kernel
theorem dX4_sheet_4 : decode cX4_sheet 4 = .ok (.ifCond .eq 25, 3) := by decide +kernel
theorem dX4_sheet_7 : decode cX4_sheet 7 = .ok (.iload_n 2, 1) := by decide +kernel
theorem dX4_sheet_8 : decode cX4_sheet 8 = .ok (.ifCond .eq 27, 3) := by decide +kernel
theorem dX4_sheet_11 : decode cX4_sheet 11 = .ok (.iload_n 2, 1) := by decide +kernel
theorem dX4_sheet_12 : decode cX4_sheet 12 = .ok (.bipush 8, 2) := by decide +kernel
theorem dX4_sheet_14 : decode cX4_sheet 14 = .ok (.if_icmp .eq 21, 3) := by decide +kernel
theorem dX4_sheet_17 : decode cX4_sheet 17 = .ok (.iload_n 2, 1) := by decide +kernel
theorem dX4_sheet_18 : decode cX4_sheet 18 = .ok (.bipush 16, 2) := by decide +kernel
theorem dX4_sheet_20 : decode cX4_sheet 20 = .ok (.if_icmp .eq 15, 3) := by decide +kernel
theorem dX4_sheet_23 : decode cX4_sheet 23 = .ok (.iload_n 2, 1) := by decide +kernel
theorem dX4_sheet_24 : decode cX4_sheet 24 = .ok (.bipush 32, 2) := by decide +kernel
theorem dX4_sheet_26 : decode cX4_sheet 26 = .ok (.if_icmp .eq 9, 3) := by decide +kernel
theorem dX4_sheet_29 : decode cX4_sheet 29 = .ok (.aload_n 0, 1) := by decide +kernel
theorem dX4_sheet_30 : decode cX4_sheet 30 = .ok (.iconst 0, 1) := by decide +kernel
theorem dX4_sheet_31 : decode cX4_sheet 31 = .ok (.invokevirtual 59, 3) := by decide +kernel
theorem dX4_sheet_34 : decode cX4_sheet 34 = .ok (.ireturn, 1) := by decide +kernel
theorem dX4_sheet_35 : decode cX4_sheet 35 = .ok (.iload_n 3, 1) := by decide +kernel
theorem dX4_sheet_36 : decode cX4_sheet 36 = .ok (.ifCond .ge 10, 3) := by decide +kernel
theorem dX4_sheet_39 : decode cX4_sheet 39 = .ok (.aload_n 0, 1) := by decide +kernel
theorem dX4_sheet_40 : decode cX4_sheet 40 = .ok (.bipush 6, 2) := by decide +kernel
theorem dX4_sheet_42 : decode cX4_sheet 42 = .ok (.invokevirtual 59, 3) := by decide +kernel
theorem dX4_sheet_45 : decode cX4_sheet 45 = .ok (.ireturn, 1) := by decide +kernel
theorem dX4_sheet_46 : decode cX4_sheet 46 = .ok (.iload_n 3, 1) := by decide +kernel
theorem dX4_sheet_47 : decode cX4_sheet 47 = .ok (.bipush 40, 2) := by decide +kernel
theorem dX4_sheet_49 : decode cX4_sheet 49 = .ok (.if_icmp .le 9, 3) := by decide +kernel
theorem dX4_sheet_52 : decode cX4_sheet 52 = .ok (.aload_n 0, 1) := by decide +kernel
theorem dX4_sheet_53 : decode cX4_sheet 53 = .ok (.iconst 0, 1) := by decide +kernel
theorem dX4_sheet_54 : decode cX4_sheet 54 = .ok (.invokevirtual 59, 3) := by decide +kernel
theorem dX4_sheet_57 : decode cX4_sheet 57 = .ok (.ireturn, 1) := by decide +kernel
theorem dX4_sheet_58 : decode cX4_sheet 58 = .ok (.aload_n 0, 1) := by decide +kernel
theorem dX4_sheet_59 : decode cX4_sheet 59 = .ok (.getfield 42, 3) := by decide +kernel
theorem dX4_sheet_62 : decode cX4_sheet 62 = .ok (.iload_n 1, 1) := by decide +kernel
theorem dX4_sheet_63 : decode cX4_sheet 63 = .ok (.aaload, 1) := by decide +kernel
theorem dX4_sheet_64 : decode cX4_sheet 64 = .ok (.iload_n 2, 1) := by decide +kernel
theorem dX4_sheet_65 : decode cX4_sheet 65 = .ok (.iload_n 3, 1) := by decide +kernel
theorem dX4_sheet_66 : decode cX4_sheet 66 = .ok (.invokevirtual 226, 3) := by decide +kernel
theorem dX4_sheet_69 : decode cX4_sheet 69 = .ok (.ireturn, 1) := by decide +kernel
theorem dX4_write_0 : decode cX4_write 0 = .ok (.iload_n 1, 1) := by decide +kernel
theorem dX4_write_1 : decode cX4_write 1 = .ok (.invokestatic 223, 3) := by decide +kernel
theorem dX4_write_4 : decode cX4_write 4 = .ok (.ifCond .ne 9, 3) := by decide +kernel
theorem dX4_write_7 : decode cX4_write 7 = .ok (.aload_n 0, 1) := by decide +kernel
theorem dX4_write_8 : decode cX4_write 8 = .ok (.iconst 0, 1) := by decide +kernel
theorem dX4_write_9 : decode cX4_write 9 = .ok (.invokevirtual 59, 3) := by decide +kernel
theorem dX4_write_12 : decode cX4_write 12 = .ok (.ireturn, 1) := by decide +kernel
theorem dX4_write_13 : decode cX4_write 13 = .ok (.aload_n 0, 1) := by decide +kernel
theorem dX4_write_14 : decode cX4_write 14 = .ok (.getfield 42, 3) := by decide +kernel
theorem dX4_write_17 : decode cX4_write 17 = .ok (.iload_n 1, 1) := by decide +kernel
theorem dX4_write_18 : decode cX4_write 18 = .ok (.aaload, 1) := by decide +kernel
theorem dX4_write_19 : decode cX4_write 19 = .ok (.getfield 229, 3) := by decide +kernel
theorem dX4_write_22 : decode cX4_write 22 = .ok (.ifCond .ne 9, 3) := by decide +kernel
theorem dX4_write_25 : decode cX4_write 25 = .ok (.aload_n 0, 1) := by decide +kernel
theorem dX4_write_26 : decode cX4_write 26 = .ok (.iconst 5, 1) := by decide +kernel
theorem dX4_write_27 : decode cX4_write 27 = .ok (.invokevirtual 59, 3) := by decide +kernel
theorem dX4_write_30 : decode cX4_write 30 = .ok (.ireturn, 1) := by decide +kernel
theorem dX4_write_31 : decode cX4_write 31 = .ok (.iload_n 2, 1) := by decide +kernel
theorem dX4_write_32 : decode cX4_write 32 = .ok (.iconst 0, 1) := by decide +kernel
theorem dX4_write_33 : decode cX4_write 33 = .ok (.aload_n 0, 1) := by decide +kernel
theorem dX4_write_34 : decode cX4_write 34 = .ok (.getfield 42, 3) := by decide +kernel
theorem dX4_write_37 : decode cX4_write 37 = .ok (.iload_n 1, 1) := by decide +kernel
theorem dX4_write_38 : decode cX4_write 38 = .ok (.aaload, 1) := by decide +kernel
theorem dX4_write_39 : decode cX4_write 39 = .ok (.getfield 232, 3) := by decide +kernel
theorem dX4_write_42 : decode cX4_write 42 = .ok (.iconst 1, 1) := by decide +kernel
theorem dX4_write_43 : decode cX4_write 43 = .ok (.isub, 1) := by decide +kernel
theorem dX4_write_44 : decode cX4_write 44 = .ok (.invokestatic 55, 3) := by decide +kernel
theorem dX4_write_47 : decode cX4_write 47 = .ok (.ifCond .ne 9, 3) := by decide +kernel
theorem dX4_write_50 : decode cX4_write 50 = .ok (.aload_n 0, 1) := by decide +kernel
theorem dX4_write_51 : decode cX4_write 51 = .ok (.iconst 0, 1) := by decide +kernel
theorem dX4_write_52 : decode cX4_write 52 = .ok (.invokevirtual 59, 3) := by decide +kernel
theorem dX4_write_55 : decode cX4_write 55 = .ok (.ireturn, 1) := by decide +kernel
theorem dX4_write_56 : decode cX4_write 56 = .ok (.aload_n 0, 1) := by decide +kernel
theorem dX4_write_57 : decode cX4_write 57 = .ok (.getfield 42, 3) := by decide +kernel
theorem dX4_write_60 : decode cX4_write 60 = .ok (.iload_n 1, 1) := by decide +kernel
theorem dX4_write_61 : decode cX4_write 61 = .ok (.aaload, 1) := by decide +kernel
theorem dX4_write_62 : decode cX4_write 62 = .ok (.iload_n 2, 1) := by decide +kernel
theorem dX4_write_63 : decode cX4_write 63 = .ok (.iload_n 3, 1) := by decide +kernel
theorem dX4_write_64 : decode cX4_write 64 = .ok (.invokevirtual 233, 3) := by decide +kernel
theorem dX4_write_67 : decode cX4_write 67 = .ok (.iconst 1, 1) := by decide +kernel
theorem dX4_write_68 : decode cX4_write 68 = .ok (.ireturn, 1) := by decide +kernel
theorem dX4_copy_0 : decode cX4_copy 0 = .ok (.iload_n 1, 1) := by decide +kernel
theorem dX4_copy_1 : decode cX4_copy 1 = .ok (.invokestatic 223, 3) := by decide +kernel
theorem dX4_copy_4 : decode cX4_copy 4 = .ok (.ifCond .eq 10, 3) := by decide +kernel
theorem dX4_copy_7 : decode cX4_copy 7 = .ok (.iload_n 3, 1) := by decide +kernel
theorem dX4_copy_8 : decode cX4_copy 8 = .ok (.invokestatic 223, 3) := by decide +kernel
theorem dX4_copy_11 : decode cX4_copy 11 = .ok (.ifCond .ne 9, 3) := by decide +kernel
theorem dX4_copy_14 : decode cX4_copy 14 = .ok (.aload_n 0, 1) := by decide +kernel
theorem dX4_copy_15 : decode cX4_copy 15 = .ok (.iconst 0, 1) := by decide +kernel
theorem dX4_copy_16 : decode cX4_copy 16 = .ok (.invokevirtual 59, 3) := by decide +kernel
theorem dX4_copy_19 : decode cX4_copy 19 = .ok (.ireturn, 1) := by decide +kernel
theorem dX4_copy_20 : decode cX4_copy 20 = .ok (.aload_n 0, 1) := by decide +kernel
theorem dX4_copy_21 : decode cX4_copy 21 = .ok (.getfield 42, 3) := by decide +kernel
theorem dX4_copy_24 : decode cX4_copy 24 = .ok (.iload_n 1, 1) := by decide +kernel
theorem dX4_copy_25 : decode cX4_copy 25 = .ok (.aaload, 1) := by decide +kernel
theorem dX4_copy_26 : decode cX4_copy 26 = .ok (.getfield 229, 3) := by decide +kernel
theorem dX4_copy_29 : decode cX4_copy 29 = .ok (.ifCond .eq 15, 3) := by decide +kernel
theorem dX4_copy_32 : decode cX4_copy 32 = .ok (.aload_n 0, 1) := by decide +kernel
theorem dX4_copy_33 : decode cX4_copy 33 = .ok (.getfield 42, 3) := by decide +kernel
theorem dX4_copy_36 : decode cX4_copy 36 = .ok (.iload_n 3, 1) := by decide +kernel
theorem dX4_copy_37 : decode cX4_copy 37 = .ok (.aaload, 1) := by decide +kernel
theorem dX4_copy_38 : decode cX4_copy 38 = .ok (.getfield 229, 3) := by decide +kernel
theorem dX4_copy_41 : decode cX4_copy 41 = .ok (.ifCond .ne 9, 3) := by decide +kernel
theorem dX4_copy_44 : decode cX4_copy 44 = .ok (.aload_n 0, 1) := by decide +kernel
theorem dX4_copy_45 : decode cX4_copy 45 = .ok (.iconst 5, 1) := by decide +kernel
theorem dX4_copy_46 : decode cX4_copy 46 = .ok (.invokevirtual 59, 3) := by decide +kernel
theorem dX4_copy_49 : decode cX4_copy 49 = .ok (.ireturn, 1) := by decide +kernel
theorem dX4_copy_50 : decode cX4_copy 50 = .ok (.aload_n 0, 1) := by decide +kernel
theorem dX4_copy_51 : decode cX4_copy 51 = .ok (.getfield 42, 3) := by decide +kernel
theorem dX4_copy_54 : decode cX4_copy 54 = .ok (.iload_n 1, 1) := by decide +kernel
theorem dX4_copy_55 : decode cX4_copy 55 = .ok (.aaload, 1) := by decide +kernel
theorem dX4_copy_56 : decode cX4_copy 56 = .ok (.getfield 229, 3) := by decide +kernel
theorem dX4_copy_59 : decode cX4_copy 59 = .ok (.aload_n 0, 1) := by decide +kernel
theorem dX4_copy_60 : decode cX4_copy 60 = .ok (.getfield 42, 3) := by decide +kernel
theorem dX4_copy_63 : decode cX4_copy 63 = .ok (.iload_n 3, 1) := by decide +kernel
theorem dX4_copy_64 : decode cX4_copy 64 = .ok (.aaload, 1) := by decide +kernel
theorem dX4_copy_65 : decode cX4_copy 65 = .ok (.getfield 229, 3) := by decide +kernel
theorem dX4_copy_68 : decode cX4_copy 68 = .ok (.if_icmp .eq 9, 3) := by decide +kernel
theorem dX4_copy_71 : decode cX4_copy 71 = .ok (.aload_n 0, 1) := by decide +kernel
theorem dX4_copy_72 : decode cX4_copy 72 = .ok (.iconst 2, 1) := by decide +kernel
theorem dX4_copy_73 : decode cX4_copy 73 = .ok (.invokevirtual 59, 3) := by decide +kernel
theorem dX4_copy_76 : decode cX4_copy 76 = .ok (.ireturn, 1) := by decide +kernel
theorem dX4_copy_77 : decode cX4_copy 77 = .ok (.aload_n 0, 1) := by decide +kernel
theorem dX4_copy_78 : decode cX4_copy 78 = .ok (.getfield 42, 3) := by decide +kernel
theorem dX4_copy_81 : decode cX4_copy 81 = .ok (.iload_n 1, 1) := by decide +kernel
theorem dX4_copy_82 : decode cX4_copy 82 = .ok (.aaload, 1) := by decide +kernel
theorem dX4_copy_83 : decode cX4_copy 83 = .ok (.iload_n 2, 1) := by decide +kernel
theorem dX4_copy_84 : decode cX4_copy 84 = .ok (.iload 5, 2) := by decide +kernel
theorem dX4_copy_86 : decode cX4_copy 86 = .ok (.invokevirtual 235, 3) := by decide +kernel
theorem dX4_copy_89 : decode cX4_copy 89 = .ok (.ifCond .eq 19, 3) := by decide +kernel
theorem dX4_copy_92 : decode cX4_copy 92 = .ok (.aload_n 0, 1) := by decide +kernel
theorem dX4_copy_93 : decode cX4_copy 93 = .ok (.getfield 42, 3) := by decide +kernel
theorem dX4_copy_96 : decode cX4_copy 96 = .ok (.iload_n 3, 1) := by decide +kernel
theorem dX4_copy_97 : decode cX4_copy 97 = .ok (.aaload, 1) := by decide +kernel
theorem dX4_copy_98 : decode cX4_copy 98 = .ok (.iload 4, 2) := by decide +kernel
theorem dX4_copy_100 : decode cX4_copy 100 = .ok (.iload 5, 2) := by decide +kernel
theorem dX4_copy_102 : decode cX4_copy 102 = .ok (.invokevirtual 235, 3) := by decide +kernel
theorem dX4_copy_105 : decode cX4_copy 105 = .ok (.ifCond .ne 9, 3) := by decide +kernel
theorem dX4_copy_108 : decode cX4_copy 108 = .ok (.aload_n 0, 1) := by decide +kernel
theorem dX4_copy_109 : decode cX4_copy 109 = .ok (.iconst 0, 1) := by decide +kernel
theorem dX4_copy_110 : decode cX4_copy 110 = .ok (.invokevirtual 59, 3) := by decide +kernel
theorem dX4_copy_113 : decode cX4_copy 113 = .ok (.ireturn, 1) := by decide +kernel
theorem dX4_copy_114 : decode cX4_copy 114 = .ok (.aload_n 0, 1) := by decide +kernel
theorem dX4_copy_115 : decode cX4_copy 115 = .ok (.getfield 42, 3) := by decide +kernel
theorem dX4_copy_118 : decode cX4_copy 118 = .ok (.iload_n 1, 1) := by decide +kernel
theorem dX4_copy_119 : decode cX4_copy 119 = .ok (.aaload, 1) := by decide +kernel
theorem dX4_copy_120 : decode cX4_copy 120 = .ok (.getfield 238, 3) := by decide +kernel
theorem dX4_copy_123 : decode cX4_copy 123 = .ok (.iload_n 2, 1) := by decide +kernel
theorem dX4_copy_124 : decode cX4_copy 124 = .ok (.aload_n 0, 1) := by decide +kernel
theorem dX4_copy_125 : decode cX4_copy 125 = .ok (.getfield 42, 3) := by decide +kernel
theorem dX4_copy_128 : decode cX4_copy 128 = .ok (.iload_n 3, 1) := by decide +kernel
theorem dX4_copy_129 : decode cX4_copy 129 = .ok (.aaload, 1) := by decide +kernel
theorem dX4_copy_130 : decode cX4_copy 130 = .ok (.getfield 238, 3) := by decide +kernel
theorem dX4_copy_133 : decode cX4_copy 133 = .ok (.iload 4, 2) := by decide +kernel
theorem dX4_copy_135 : decode cX4_copy 135 = .ok (.iload 5, 2) := by decide +kernel
theorem dX4_copy_137 : decode cX4_copy 137 = .ok (.invokestatic 241, 3) := by decide +kernel
theorem dX4_copy_140 : decode cX4_copy 140 = .ok (.iload 5, 2) := by decide +kernel
theorem dX4_copy_142 : decode cX4_copy 142 = .ok (.ireturn, 1) := by decide +kernel
theorem dX4_load_0 : decode cX4_load 0 = .ok (.iload_n 1, 1) := by decide +kernel
theorem dX4_load_1 : decode cX4_load 1 = .ok (.invokestatic 223, 3) := by decide +kernel
theorem dX4_load_4 : decode cX4_load 4 = .ok (.ifCond .ne 9, 3) := by decide +kernel
theorem dX4_load_7 : decode cX4_load 7 = .ok (.aload_n 0, 1) := by decide +kernel
theorem dX4_load_8 : decode cX4_load 8 = .ok (.iconst 0, 1) := by decide +kernel
theorem dX4_load_9 : decode cX4_load 9 = .ok (.invokevirtual 59, 3) := by decide +kernel
theorem dX4_load_12 : decode cX4_load 12 = .ok (.ireturn, 1) := by decide +kernel
theorem dX4_load_13 : decode cX4_load 13 = .ok (.aload_n 0, 1) := by decide +kernel
theorem dX4_load_14 : decode cX4_load 14 = .ok (.getfield 42, 3) := by decide +kernel
theorem dX4_load_17 : decode cX4_load 17 = .ok (.iload_n 1, 1) := by decide +kernel
theorem dX4_load_18 : decode cX4_load 18 = .ok (.aaload, 1) := by decide +kernel
theorem dX4_load_19 : decode cX4_load 19 = .ok (.astore_n 2, 1) := by decide +kernel
theorem dX4_load_20 : decode cX4_load 20 = .ok (.aload_n 2, 1) := by decide +kernel
theorem dX4_load_21 : decode cX4_load 21 = .ok (.getfield 229, 3) := by decide +kernel
theorem dX4_load_24 : decode cX4_load 24 = .ok (.ifCond .ne 9, 3) := by decide +kernel
theorem dX4_load_27 : decode cX4_load 27 = .ok (.aload_n 0, 1) := by decide +kernel
theorem dX4_load_28 : decode cX4_load 28 = .ok (.iconst 5, 1) := by decide +kernel
theorem dX4_load_29 : decode cX4_load 29 = .ok (.invokevirtual 59, 3) := by decide +kernel
theorem dX4_load_32 : decode cX4_load 32 = .ok (.ireturn, 1) := by decide +kernel
theorem dX4_load_33 : decode cX4_load 33 = .ok (.iconst 0, 1) := by decide +kernel
theorem dX4_load_34 : decode cX4_load 34 = .ok (.istore_n 3, 1) := by decide +kernel
theorem dX4_load_35 : decode cX4_load 35 = .ok (.iload_n 3, 1) := by decide +kernel
theorem dX4_load_36 : decode cX4_load 36 = .ok (.aload_n 2, 1) := by decide +kernel
theorem dX4_load_37 : decode cX4_load 37 = .ok (.getfield 232, 3) := by decide +kernel
theorem dX4_load_40 : decode cX4_load 40 = .ok (.if_icmp .ge 46, 3) := by decide +kernel
theorem dX4_load_43 : decode cX4_load 43 = .ok (.iload_n 3, 1) := by decide +kernel
theorem dX4_load_44 : decode cX4_load 44 = .ok (.bipush 12, 2) := by decide +kernel
theorem dX4_load_46 : decode cX4_load 46 = .ok (.if_icmp .ge 40, 3) := by decide +kernel
theorem dX4_load_49 : decode cX4_load 49 = .ok (.aload_n 2, 1) := by decide +kernel
theorem dX4_load_50 : decode cX4_load 50 = .ok (.getfield 238, 3) := by decide +kernel
theorem dX4_load_53 : decode cX4_load 53 = .ok (.iload_n 3, 1) := by decide +kernel
theorem dX4_load_54 : decode cX4_load 54 = .ok (.iaload, 1) := by decide +kernel
theorem dX4_load_55 : decode cX4_load 55 = .ok (.iconst 0, 1) := by decide +kernel
theorem dX4_load_56 : decode cX4_load 56 = .ok (.sipush 9999, 3) := by decide +kernel
theorem dX4_load_59 : decode cX4_load 59 = .ok (.invokestatic 55, 3) := by decide +kernel
theorem dX4_load_62 : decode cX4_load 62 = .ok (.ifCond .eq 24, 3) := by decide +kernel
theorem dX4_load_65 : decode cX4_load 65 = .ok (.aload_n 0, 1) := by decide +kernel
theorem dX4_load_66 : decode cX4_load 66 = .ok (.getfield 12, 3) := by decide +kernel
theorem dX4_load_69 : decode cX4_load 69 = .ok (.getfield 63, 3) := by decide +kernel
theorem dX4_load_72 : decode cX4_load 72 = .ok (.iload_n 3, 1) := by decide +kernel
theorem dX4_load_73 : decode cX4_load 73 = .ok (.aload_n 2, 1) := by decide +kernel
theorem dX4_load_74 : decode cX4_load 74 = .ok (.getfield 238, 3) := by decide +kernel
theorem dX4_load_77 : decode cX4_load 77 = .ok (.iload_n 3, 1) := by decide +kernel
theorem dX4_load_78 : decode cX4_load 78 = .ok (.iaload, 1) := by decide +kernel
theorem dX4_load_79 : decode cX4_load 79 = .ok (.iastore, 1) := by decide +kernel
theorem dX4_load_80 : decode cX4_load 80 = .ok (.iinc 3 1, 3) := by decide +kernel
theorem dX4_load_83 : decode cX4_load 83 = .ok (.goto (-48), 3) := by decide +kernel
theorem dX4_load_86 : decode cX4_load 86 = .ok (.iload_n 3, 1) := by decide +kernel
theorem dX4_load_87 : decode cX4_load 87 = .ok (.ireturn, 1) := by decide +kernel
theorem dX4_judge_0 : decode cX4_judge 0 = .ok (.iload_n 1, 1) := by decide +kernel
theorem dX4_judge_1 : decode cX4_judge 1 = .ok (.invokestatic 223, 3) := by decide +kernel
theorem dX4_judge_4 : decode cX4_judge 4 = .ok (.ifCond .ne 9, 3) := by decide +kernel
theorem dX4_judge_7 : decode cX4_judge 7 = .ok (.aload_n 0, 1) := by decide +kernel
theorem dX4_judge_8 : decode cX4_judge 8 = .ok (.iconst 0, 1) := by decide +kernel
theorem dX4_judge_9 : decode cX4_judge 9 = .ok (.invokevirtual 59, 3) := by decide +kernel
theorem dX4_judge_12 : decode cX4_judge 12 = .ok (.ireturn, 1) := by decide +kernel
theorem dX4_judge_13 : decode cX4_judge 13 = .ok (.aload_n 0, 1) := by decide +kernel
theorem dX4_judge_14 : decode cX4_judge 14 = .ok (.getfield 42, 3) := by decide +kernel
theorem dX4_judge_17 : decode cX4_judge 17 = .ok (.iload_n 1, 1) := by decide +kernel
theorem dX4_judge_18 : decode cX4_judge 18 = .ok (.aaload, 1) := by decide +kernel
theorem dX4_judge_19 : decode cX4_judge 19 = .ok (.astore_n 2, 1) := by decide +kernel
theorem dX4_judge_20 : decode cX4_judge 20 = .ok (.aload_n 2, 1) := by decide +kernel
theorem dX4_judge_21 : decode cX4_judge 21 = .ok (.getfield 229, 3) := by decide +kernel
theorem dX4_judge_24 : decode cX4_judge 24 = .ok (.ifCond .ne 9, 3) := by decide +kernel
theorem dX4_judge_27 : decode cX4_judge 27 = .ok (.aload_n 0, 1) := by decide +kernel
theorem dX4_judge_28 : decode cX4_judge 28 = .ok (.iconst 5, 1) := by decide +kernel
theorem dX4_judge_29 : decode cX4_judge 29 = .ok (.invokevirtual 59, 3) := by decide +kernel
theorem dX4_judge_32 : decode cX4_judge 32 = .ok (.ireturn, 1) := by decide +kernel
theorem dX4_judge_33 : decode cX4_judge 33 = .ok (.iconst 0, 1) := by decide +kernel
theorem dX4_judge_34 : decode cX4_judge 34 = .ok (.istore_n 3, 1) := by decide +kernel
theorem dX4_judge_35 : decode cX4_judge 35 = .ok (.iload_n 3, 1) := by decide +kernel
theorem dX4_judge_36 : decode cX4_judge 36 = .ok (.aload_n 2, 1) := by decide +kernel
theorem dX4_judge_37 : decode cX4_judge 37 = .ok (.getfield 232, 3) := by decide +kernel
theorem dX4_judge_40 : decode cX4_judge 40 = .ok (.if_icmp .ge 36, 3) := by decide +kernel
theorem dX4_judge_43 : decode cX4_judge 43 = .ok (.iload_n 3, 1) := by decide +kernel
theorem dX4_judge_44 : decode cX4_judge 44 = .ok (.bipush 12, 2) := by decide +kernel
theorem dX4_judge_46 : decode cX4_judge 46 = .ok (.if_icmp .ge 20, 3) := by decide +kernel
theorem dX4_judge_49 : decode cX4_judge 49 = .ok (.aload_n 2, 1) := by decide +kernel
theorem dX4_judge_50 : decode cX4_judge 50 = .ok (.getfield 238, 3) := by decide +kernel
theorem dX4_judge_53 : decode cX4_judge 53 = .ok (.iload_n 3, 1) := by decide +kernel
theorem dX4_judge_54 : decode cX4_judge 54 = .ok (.iaload, 1) := by decide +kernel
theorem dX4_judge_55 : decode cX4_judge 55 = .ok (.aload_n 0, 1) := by decide +kernel
theorem dX4_judge_56 : decode cX4_judge 56 = .ok (.getfield 12, 3) := by decide +kernel
theorem dX4_judge_59 : decode cX4_judge 59 = .ok (.iload_n 3, 1) := by decide +kernel
theorem dX4_judge_60 : decode cX4_judge 60 = .ok (.invokevirtual 66, 3) := by decide +kernel
theorem dX4_judge_63 : decode cX4_judge 63 = .ok (.if_icmp .eq 7, 3) := by decide +kernel
theorem dX4_judge_66 : decode cX4_judge 66 = .ok (.iconst 1, 1) := by decide +kernel
theorem dX4_judge_67 : decode cX4_judge 67 = .ok (.iload_n 3, 1) := by decide +kernel
theorem dX4_judge_68 : decode cX4_judge 68 = .ok (.iadd, 1) := by decide +kernel
theorem dX4_judge_69 : decode cX4_judge 69 = .ok (.ireturn, 1) := by decide +kernel
theorem dX4_judge_70 : decode cX4_judge 70 = .ok (.iinc 3 1, 3) := by decide +kernel
theorem dX4_judge_73 : decode cX4_judge 73 = .ok (.goto (-38), 3) := by decide +kernel
theorem dX4_judge_76 : decode cX4_judge 76 = .ok (.iconst 0, 1) := by decide +kernel
theorem dX4_judge_77 : decode cX4_judge 77 = .ok (.ireturn, 1) := by decide +kernel
theorem dX4_image_0 : decode cX4_image 0 = .ok (.aload_n 0, 1) := by decide +kernel
theorem dX4_image_1 : decode cX4_image 1 = .ok (.getfield 19, 3) := by decide +kernel
theorem dX4_image_4 : decode cX4_image 4 = .ok (.aload_n 0, 1) := by decide +kernel
theorem dX4_image_5 : decode cX4_image 5 = .ok (.getfield 12, 3) := by decide +kernel
theorem dX4_image_8 : decode cX4_image 8 = .ok (.invokevirtual 154, 3) := by decide +kernel
theorem dX4_image_11 : decode cX4_image 11 = .ok (.aload_n 0, 1) := by decide +kernel
theorem dX4_image_12 : decode cX4_image 12 = .ok (.iconst 1, 1) := by decide +kernel
theorem dX4_image_13 : decode cX4_image 13 = .ok (.putfield 22, 3) := by decide +kernel
theorem dX4_image_16 : decode cX4_image 16 = .ok (.iconst 1, 1) := by decide +kernel
theorem dX4_image_17 : decode cX4_image 17 = .ok (.ireturn, 1) := by decide +kernel
theorem dX4_undo_0 : decode cX4_undo 0 = .ok (.aload_n 0, 1) := by decide +kernel
theorem dX4_undo_1 : decode cX4_undo 1 = .ok (.getfield 22, 3) := by decide +kernel
theorem dX4_undo_4 : decode cX4_undo 4 = .ok (.ifCond .ne 9, 3) := by decide +kernel
theorem dX4_undo_7 : decode cX4_undo 7 = .ok (.aload_n 0, 1) := by decide +kernel
theorem dX4_undo_8 : decode cX4_undo 8 = .ok (.iconst 3, 1) := by decide +kernel
theorem dX4_undo_9 : decode cX4_undo 9 = .ok (.invokevirtual 59, 3) := by decide +kernel
theorem dX4_undo_12 : decode cX4_undo 12 = .ok (.ireturn, 1) := by decide +kernel
theorem dX4_undo_13 : decode cX4_undo 13 = .ok (.aload_n 0, 1) := by decide +kernel
theorem dX4_undo_14 : decode cX4_undo 14 = .ok (.getfield 12, 3) := by decide +kernel
theorem dX4_undo_17 : decode cX4_undo 17 = .ok (.aload_n 0, 1) := by decide +kernel
theorem dX4_undo_18 : decode cX4_undo 18 = .ok (.getfield 19, 3) := by decide +kernel
theorem dX4_undo_21 : decode cX4_undo 21 = .ok (.invokevirtual 154, 3) := by decide +kernel
theorem dX4_undo_24 : decode cX4_undo 24 = .ok (.aload_n 0, 1) := by decide +kernel
theorem dX4_undo_25 : decode cX4_undo 25 = .ok (.getfield 12, 3) := by decide +kernel
theorem dX4_undo_28 : decode cX4_undo 28 = .ok (.getfield 131, 3) := by decide +kernel
theorem dX4_undo_31 : decode cX4_undo 31 = .ok (.ireturn, 1) := by decide +kernel
theorem dX4_tear_0 : decode cX4_tear 0 = .ok (.aload_n 0, 1) := by decide +kernel
theorem dX4_tear_1 : decode cX4_tear 1 = .ok (.getfield 22, 3) := by decide +kernel
theorem dX4_tear_4 : decode cX4_tear 4 = .ok (.ifCond .eq 7, 3) := by decide +kernel
theorem dX4_tear_7 : decode cX4_tear 7 = .ok (.iconst 1, 1) := by decide +kernel
theorem dX4_tear_8 : decode cX4_tear 8 = .ok (.goto 4, 3) := by decide +kernel
theorem dX4_tear_11 : decode cX4_tear 11 = .ok (.iconst 0, 1) := by decide +kernel
theorem dX4_tear_12 : decode cX4_tear 12 = .ok (.istore_n 1, 1) := by decide +kernel
theorem dX4_tear_13 : decode cX4_tear 13 = .ok (.aload_n 0, 1) := by decide +kernel
theorem dX4_tear_14 : decode cX4_tear 14 = .ok (.iconst 0, 1) := by decide +kernel
theorem dX4_tear_15 : decode cX4_tear 15 = .ok (.putfield 22, 3) := by decide +kernel
theorem dX4_tear_18 : decode cX4_tear 18 = .ok (.iload_n 1, 1) := by decide +kernel
theorem dX4_tear_19 : decode cX4_tear 19 = .ok (.ireturn, 1) := by decide +kernel
theorem dX4_count_0 : decode cX4_count 0 = .ok (.iload_n 1, 1) := by decide +kernel
theorem dX4_count_1 : decode cX4_count 1 = .ok (.tableswitch 114 0 7 #[47, 55, 63, 74, 82, 90, 98, 106], 47) := by decide +kernel
theorem dX4_count_48 : decode cX4_count 48 = .ok (.aload_n 0, 1) := by decide +kernel
theorem dX4_count_49 : decode cX4_count 49 = .ok (.getfield 12, 3) := by decide +kernel
theorem dX4_count_52 : decode cX4_count 52 = .ok (.getfield 131, 3) := by decide +kernel
theorem dX4_count_55 : decode cX4_count 55 = .ok (.ireturn, 1) := by decide +kernel
theorem dX4_count_56 : decode cX4_count 56 = .ok (.aload_n 0, 1) := by decide +kernel
theorem dX4_count_57 : decode cX4_count 57 = .ok (.getfield 12, 3) := by decide +kernel
theorem dX4_count_60 : decode cX4_count 60 = .ok (.getfield 85, 3) := by decide +kernel
theorem dX4_count_63 : decode cX4_count 63 = .ok (.ireturn, 1) := by decide +kernel
theorem dX4_count_64 : decode cX4_count 64 = .ok (.aload_n 0, 1) := by decide +kernel
theorem dX4_count_65 : decode cX4_count 65 = .ok (.getfield 12, 3) := by decide +kernel
theorem dX4_count_68 : decode cX4_count 68 = .ok (.invokevirtual 145, 3) := by decide +kernel
theorem dX4_count_71 : decode cX4_count 71 = .ok (.invokestatic 178, 3) := by decide +kernel
theorem dX4_count_74 : decode cX4_count 74 = .ok (.ireturn, 1) := by decide +kernel
theorem dX4_count_75 : decode cX4_count 75 = .ok (.aload_n 0, 1) := by decide +kernel
theorem dX4_count_76 : decode cX4_count 76 = .ok (.getfield 12, 3) := by decide +kernel
theorem dX4_count_79 : decode cX4_count 79 = .ok (.invokevirtual 138, 3) := by decide +kernel
theorem dX4_count_82 : decode cX4_count 82 = .ok (.ireturn, 1) := by decide +kernel
theorem dX4_count_83 : decode cX4_count 83 = .ok (.aload_n 0, 1) := by decide +kernel
theorem dX4_count_84 : decode cX4_count 84 = .ok (.getfield 12, 3) := by decide +kernel
theorem dX4_count_87 : decode cX4_count 87 = .ok (.invokevirtual 142, 3) := by decide +kernel
theorem dX4_count_90 : decode cX4_count 90 = .ok (.ireturn, 1) := by decide +kernel
theorem dX4_count_91 : decode cX4_count 91 = .ok (.aload_n 0, 1) := by decide +kernel
theorem dX4_count_92 : decode cX4_count 92 = .ok (.getfield 29, 3) := by decide +kernel
theorem dX4_count_95 : decode cX4_count 95 = .ok (.getfield 199, 3) := by decide +kernel
theorem dX4_count_98 : decode cX4_count 98 = .ok (.ireturn, 1) := by decide +kernel
theorem dX4_count_99 : decode cX4_count 99 = .ok (.aload_n 0, 1) := by decide +kernel
theorem dX4_count_100 : decode cX4_count 100 = .ok (.getfield 12, 3) := by decide +kernel
theorem dX4_count_103 : decode cX4_count 103 = .ok (.getfield 196, 3) := by decide +kernel
theorem dX4_count_106 : decode cX4_count 106 = .ok (.ireturn, 1) := by decide +kernel
theorem dX4_count_107 : decode cX4_count 107 = .ok (.aload_n 0, 1) := by decide +kernel
theorem dX4_count_108 : decode cX4_count 108 = .ok (.getfield 12, 3) := by decide +kernel
theorem dX4_count_111 : decode cX4_count 111 = .ok (.invokevirtual 247, 3) := by decide +kernel
theorem dX4_count_114 : decode cX4_count 114 = .ok (.ireturn, 1) := by decide +kernel
theorem dX4_count_115 : decode cX4_count 115 = .ok (.aload_n 0, 1) := by decide +kernel
theorem dX4_count_116 : decode cX4_count 116 = .ok (.iconst 0, 1) := by decide +kernel
theorem dX4_count_117 : decode cX4_count 117 = .ok (.invokevirtual 59, 3) := by decide +kernel
theorem dX4_count_120 : decode cX4_count 120 = .ok (.ireturn, 1) := by decide +kernel
theorem dX4_status_0 : decode cX4_status 0 = .ok (.iload_n 1, 1) := by decide +kernel
theorem dX4_status_1 : decode cX4_status 1 = .ok (.iconst (-1), 1) := by decide +kernel
theorem dX4_status_2 : decode cX4_status 2 = .ok (.bipush 6, 2) := by decide +kernel
theorem dX4_status_4 : decode cX4_status 4 = .ok (.invokestatic 55, 3) := by decide +kernel
theorem dX4_status_7 : decode cX4_status 7 = .ok (.ifCond .ne 9, 3) := by decide +kernel
theorem dX4_status_10 : decode cX4_status 10 = .ok (.aload_n 0, 1) := by decide +kernel
theorem dX4_status_11 : decode cX4_status 11 = .ok (.iconst 0, 1) := by decide +kernel
theorem dX4_status_12 : decode cX4_status 12 = .ok (.invokevirtual 59, 3) := by decide +kernel
theorem dX4_status_15 : decode cX4_status 15 = .ok (.ireturn, 1) := by decide +kernel
theorem dX4_status_16 : decode cX4_status 16 = .ok (.iload_n 1, 1) := by decide +kernel
theorem dX4_status_17 : decode cX4_status 17 = .ok (.iconst (-1), 1) := by decide +kernel
theorem dX4_status_18 : decode cX4_status 18 = .ok (.if_icmp .ne 13, 3) := by decide +kernel
theorem dX4_status_21 : decode cX4_status 21 = .ok (.aload_n 0, 1) := by decide +kernel
theorem dX4_status_22 : decode cX4_status 22 = .ok (.getfield 47, 3) := by decide +kernel
theorem dX4_status_25 : decode cX4_status 25 = .ok (.invokestatic 250, 3) := by decide +kernel
theorem dX4_status_28 : decode cX4_status 28 = .ok (.goto 9, 3) := by decide +kernel
theorem dX4_status_31 : decode cX4_status 31 = .ok (.aload_n 0, 1) := by decide +kernel
theorem dX4_status_32 : decode cX4_status 32 = .ok (.getfield 47, 3) := by decide +kernel
theorem dX4_status_35 : decode cX4_status 35 = .ok (.iload_n 1, 1) := by decide +kernel
theorem dX4_status_36 : decode cX4_status 36 = .ok (.iaload, 1) := by decide +kernel
theorem dX4_status_37 : decode cX4_status 37 = .ok (.ireturn, 1) := by decide +kernel
theorem dX4_finding_0 : decode cX4_finding 0 = .ok (.aload_n 0, 1) := by decide +kernel
theorem dX4_finding_1 : decode cX4_finding 1 = .ok (.getfield 47, 3) := by decide +kernel
theorem dX4_finding_4 : decode cX4_finding 4 = .ok (.iload_n 1, 1) := by decide +kernel
theorem dX4_finding_5 : decode cX4_finding 5 = .ok (.dup2, 1) := by decide +kernel
theorem dX4_finding_6 : decode cX4_finding 6 = .ok (.iaload, 1) := by decide +kernel
theorem dX4_finding_7 : decode cX4_finding 7 = .ok (.iconst 1, 1) := by decide +kernel
theorem dX4_finding_8 : decode cX4_finding 8 = .ok (.iadd, 1) := by decide +kernel
theorem dX4_finding_9 : decode cX4_finding 9 = .ok (.iastore, 1) := by decide +kernel
theorem dX4_finding_10 : decode cX4_finding 10 = .ok (.ldc 254, 2) := by decide +kernel
theorem dX4_finding_12 : decode cX4_finding 12 = .ok (.iload_n 1, 1) := by decide +kernel
theorem dX4_finding_13 : decode cX4_finding 13 = .ok (.isub, 1) := by decide +kernel
theorem dX4_finding_14 : decode cX4_finding 14 = .ok (.ireturn, 1) := by decide +kernel
theorem dX4_isWithin_0 : decode cX4_isWithin 0 = .ok (.iload_n 0, 1) := by decide +kernel
theorem dX4_isWithin_1 : decode cX4_isWithin 1 = .ok (.iload_n 1, 1) := by decide +kernel
theorem dX4_isWithin_2 : decode cX4_isWithin 2 = .ok (.if_icmp .lt 12, 3) := by decide +kernel
theorem dX4_isWithin_5 : decode cX4_isWithin 5 = .ok (.iload_n 0, 1) := by decide +kernel
theorem dX4_isWithin_6 : decode cX4_isWithin 6 = .ok (.iload_n 2, 1) := by decide +kernel
theorem dX4_isWithin_7 : decode cX4_isWithin 7 = .ok (.if_icmp .gt 7, 3) := by decide +kernel
theorem dX4_isWithin_10 : decode cX4_isWithin 10 = .ok (.iconst 1, 1) := by decide +kernel
theorem dX4_isWithin_11 : decode cX4_isWithin 11 = .ok (.goto 4, 3) := by decide +kernel
theorem dX4_isWithin_14 : decode cX4_isWithin 14 = .ok (.iconst 0, 1) := by decide +kernel
theorem dX4_isWithin_15 : decode cX4_isWithin 15 = .ok (.ireturn, 1) := by decide +kernel
theorem dX4_isSurface_0 : decode cX4_isSurface 0 = .ok (.iload_n 0, 1) := by decide +kernel
theorem dX4_isSurface_1 : decode cX4_isSurface 1 = .ok (.ifCond .lt 13, 3) := by decide +kernel
theorem dX4_isSurface_4 : decode cX4_isSurface 4 = .ok (.iload_n 0, 1) := by decide +kernel
theorem dX4_isSurface_5 : decode cX4_isSurface 5 = .ok (.bipush 12, 2) := by decide +kernel
theorem dX4_isSurface_7 : decode cX4_isSurface 7 = .ok (.if_icmp .ge 7, 3) := by decide +kernel
theorem dX4_isSurface_10 : decode cX4_isSurface 10 = .ok (.iconst 1, 1) := by decide +kernel
theorem dX4_isSurface_11 : decode cX4_isSurface 11 = .ok (.goto 4, 3) := by decide +kernel
theorem dX4_isSurface_14 : decode cX4_isSurface 14 = .ok (.iconst 0, 1) := by decide +kernel
theorem dX4_isSurface_15 : decode cX4_isSurface 15 = .ok (.ireturn, 1) := by decide +kernel
theorem dX4_isKind_0 : decode cX4_isKind 0 = .ok (.iload_n 0, 1) := by decide +kernel
theorem dX4_isKind_1 : decode cX4_isKind 1 = .ok (.ifCond .lt 13, 3) := by decide +kernel
theorem dX4_isKind_4 : decode cX4_isKind 4 = .ok (.iload_n 0, 1) := by decide +kernel
theorem dX4_isKind_5 : decode cX4_isKind 5 = .ok (.bipush 7, 2) := by decide +kernel
theorem dX4_isKind_7 : decode cX4_isKind 7 = .ok (.if_icmp .ge 7, 3) := by decide +kernel
theorem dX4_isKind_10 : decode cX4_isKind 10 = .ok (.iconst 1, 1) := by decide +kernel
theorem dX4_isKind_11 : decode cX4_isKind 11 = .ok (.goto 4, 3) := by decide +kernel
theorem dX4_isKind_14 : decode cX4_isKind 14 = .ok (.iconst 0, 1) := by decide +kernel
theorem dX4_isKind_15 : decode cX4_isKind 15 = .ok (.ireturn, 1) := by decide +kernel
theorem dX4_isSpot_0 : decode cX4_isSpot 0 = .ok (.iload_n 0, 1) := by decide +kernel
theorem dX4_isSpot_1 : decode cX4_isSpot 1 = .ok (.ifCond .lt 13, 3) := by decide +kernel
theorem dX4_isSpot_4 : decode cX4_isSpot 4 = .ok (.iload_n 0, 1) := by decide +kernel
theorem dX4_isSpot_5 : decode cX4_isSpot 5 = .ok (.bipush 10, 2) := by decide +kernel
theorem dX4_isSpot_7 : decode cX4_isSpot 7 = .ok (.if_icmp .ge 7, 3) := by decide +kernel
theorem dX4_isSpot_10 : decode cX4_isSpot 10 = .ok (.iconst 1, 1) := by decide +kernel
theorem dX4_isSpot_11 : decode cX4_isSpot 11 = .ok (.goto 4, 3) := by decide +kernel
theorem dX4_isSpot_14 : decode cX4_isSpot 14 = .ok (.iconst 0, 1) := by decide +kernel
theorem dX4_isSpot_15 : decode cX4_isSpot 15 = .ok (.ireturn, 1) := by decide +kernel
theorem dX4_isSheet_0 : decode cX4_isSheet 0 = .ok (.iload_n 0, 1) := by decide +kernel
theorem dX4_isSheet_1 : decode cX4_isSheet 1 = .ok (.ifCond .lt 12, 3) := by decide +kernel
theorem dX4_isSheet_4 : decode cX4_isSheet 4 = .ok (.iload_n 0, 1) := by decide +kernel
theorem dX4_isSheet_5 : decode cX4_isSheet 5 = .ok (.iconst 4, 1) := by decide +kernel
theorem dX4_isSheet_6 : decode cX4_isSheet 6 = .ok (.if_icmp .ge 7, 3) := by decide +kernel
theorem dX4_isSheet_9 : decode cX4_isSheet 9 = .ok (.iconst 1, 1) := by decide +kernel
theorem dX4_isSheet_10 : decode cX4_isSheet 10 = .ok (.goto 4, 3) := by decide +kernel
theorem dX4_isSheet_13 : decode cX4_isSheet 13 = .ok (.iconst 0, 1) := by decide +kernel
theorem dX4_isSheet_14 : decode cX4_isSheet 14 = .ok (.ireturn, 1) := by decide +kernel
theorem dX4_isTenant_0 : decode cX4_isTenant 0 = .ok (.iload_n 1, 1) := by decide +kernel
theorem dX4_isTenant_1 : decode cX4_isTenant 1 = .ok (.ifCond .lt 18, 3) := by decide +kernel
theorem dX4_isTenant_4 : decode cX4_isTenant 4 = .ok (.iload_n 1, 1) := by decide +kernel
theorem dX4_isTenant_5 : decode cX4_isTenant 5 = .ok (.aload_n 0, 1) := by decide +kernel
theorem dX4_isTenant_6 : decode cX4_isTenant 6 = .ok (.getfield 12, 3) := by decide +kernel
theorem dX4_isTenant_9 : decode cX4_isTenant 9 = .ok (.getfield 85, 3) := by decide +kernel
theorem dX4_isTenant_12 : decode cX4_isTenant 12 = .ok (.if_icmp .ge 7, 3) := by decide +kernel
theorem dX4_isTenant_15 : decode cX4_isTenant 15 = .ok (.iconst 1, 1) := by decide +kernel
theorem dX4_isTenant_16 : decode cX4_isTenant 16 = .ok (.goto 4, 3) := by decide +kernel
theorem dX4_isTenant_19 : decode cX4_isTenant 19 = .ok (.iconst 0, 1) := by decide +kernel
theorem dX4_isTenant_20 : decode cX4_isTenant 20 = .ok (.ireturn, 1) := by decide +kernel
theorem dX4_put_0 : decode cX4_put 0 = .ok (.aload_n 0, 1) := by decide +kernel
theorem dX4_put_1 : decode cX4_put 1 = .ok (.iload_n 1, 1) := by decide +kernel
theorem dX4_put_2 : decode cX4_put 2 = .ok (.iaload, 1) := by decide +kernel
theorem dX4_put_3 : decode cX4_put 3 = .ok (.istore_n 3, 1) := by decide +kernel
theorem dX4_put_4 : decode cX4_put 4 = .ok (.aload_n 0, 1) := by decide +kernel
theorem dX4_put_5 : decode cX4_put 5 = .ok (.iload_n 1, 1) := by decide +kernel
theorem dX4_put_6 : decode cX4_put 6 = .ok (.iload_n 2, 1) := by decide +kernel
theorem dX4_put_7 : decode cX4_put 7 = .ok (.iastore, 1) := by decide +kernel
theorem dX4_put_8 : decode cX4_put 8 = .ok (.iload_n 3, 1) := by decide +kernel
theorem dX4_put_9 : decode cX4_put 9 = .ok (.ireturn, 1) := by decide +kernel
theorem dX4_sumOf_0 : decode cX4_sumOf 0 = .ok (.iconst 0, 1) := by decide +kernel
theorem dX4_sumOf_1 : decode cX4_sumOf 1 = .ok (.istore_n 1, 1) := by decide +kernel
theorem dX4_sumOf_2 : decode cX4_sumOf 2 = .ok (.aload_n 0, 1) := by decide +kernel
theorem dX4_sumOf_3 : decode cX4_sumOf 3 = .ok (.astore_n 2, 1) := by decide +kernel
theorem dX4_sumOf_4 : decode cX4_sumOf 4 = .ok (.aload_n 2, 1) := by decide +kernel
theorem dX4_sumOf_5 : decode cX4_sumOf 5 = .ok (.arraylength, 1) := by decide +kernel
theorem dX4_sumOf_6 : decode cX4_sumOf 6 = .ok (.istore_n 3, 1) := by decide +kernel
theorem dX4_sumOf_7 : decode cX4_sumOf 7 = .ok (.iconst 0, 1) := by decide +kernel
theorem dX4_sumOf_8 : decode cX4_sumOf 8 = .ok (.istore 4, 2) := by decide +kernel
theorem dX4_sumOf_10 : decode cX4_sumOf 10 = .ok (.iload 4, 2) := by decide +kernel
theorem dX4_sumOf_12 : decode cX4_sumOf 12 = .ok (.iload_n 3, 1) := by decide +kernel
theorem dX4_sumOf_13 : decode cX4_sumOf 13 = .ok (.if_icmp .ge 20, 3) := by decide +kernel
theorem dX4_sumOf_16 : decode cX4_sumOf 16 = .ok (.aload_n 2, 1) := by decide +kernel
theorem dX4_sumOf_17 : decode cX4_sumOf 17 = .ok (.iload 4, 2) := by decide +kernel
theorem dX4_sumOf_19 : decode cX4_sumOf 19 = .ok (.iaload, 1) := by decide +kernel
theorem dX4_sumOf_20 : decode cX4_sumOf 20 = .ok (.istore 5, 2) := by decide +kernel
theorem dX4_sumOf_22 : decode cX4_sumOf 22 = .ok (.iload_n 1, 1) := by decide +kernel
theorem dX4_sumOf_23 : decode cX4_sumOf 23 = .ok (.iload 5, 2) := by decide +kernel
theorem dX4_sumOf_25 : decode cX4_sumOf 25 = .ok (.iadd, 1) := by decide +kernel
theorem dX4_sumOf_26 : decode cX4_sumOf 26 = .ok (.istore_n 1, 1) := by decide +kernel
theorem dX4_sumOf_27 : decode cX4_sumOf 27 = .ok (.iinc 4 1, 3) := by decide +kernel
theorem dX4_sumOf_30 : decode cX4_sumOf 30 = .ok (.goto (-20), 3) := by decide +kernel
theorem dX4_sumOf_33 : decode cX4_sumOf 33 = .ok (.iload_n 1, 1) := by decide +kernel
theorem dX4_sumOf_34 : decode cX4_sumOf 34 = .ok (.ireturn, 1) := by decide +kernel
theorem dX4_isOfKind_0 : decode cX4_isOfKind 0 = .ok (.iload_n 0, 1) := by decide +kernel
theorem dX4_isOfKind_1 : decode cX4_isOfKind 1 = .ok (.istore_n 2, 1) := by decide +kernel
theorem dX4_isOfKind_2 : decode cX4_isOfKind 2 = .ok (.iconst 0, 1) := by decide +kernel
theorem dX4_isOfKind_3 : decode cX4_isOfKind 3 = .ok (.istore_n 3, 1) := by decide +kernel
theorem dX4_isOfKind_4 : decode cX4_isOfKind 4 = .ok (.iload_n 3, 1) := by decide +kernel
theorem dX4_isOfKind_5 : decode cX4_isOfKind 5 = .ok (.bipush 7, 2) := by decide +kernel
theorem dX4_isOfKind_7 : decode cX4_isOfKind 7 = .ok (.if_icmp .ge 29, 3) := by decide +kernel
theorem dX4_isOfKind_10 : decode cX4_isOfKind 10 = .ok (.iload_n 2, 1) := by decide +kernel
theorem dX4_isOfKind_11 : decode cX4_isOfKind 11 = .ok (.invokestatic 82, 3) := by decide +kernel
theorem dX4_isOfKind_14 : decode cX4_isOfKind 14 = .ok (.ifCond .eq 22, 3) := by decide +kernel
theorem dX4_isOfKind_17 : decode cX4_isOfKind 17 = .ok (.iload_n 2, 1) := by decide +kernel
theorem dX4_isOfKind_18 : decode cX4_isOfKind 18 = .ok (.iload_n 1, 1) := by decide +kernel
theorem dX4_isOfKind_19 : decode cX4_isOfKind 19 = .ok (.if_icmp .ne 5, 3) := by decide +kernel
theorem dX4_isOfKind_22 : decode cX4_isOfKind 22 = .ok (.iconst 1, 1) := by decide +kernel
theorem dX4_isOfKind_23 : decode cX4_isOfKind 23 = .ok (.ireturn, 1) := by decide +kernel
theorem dX4_isOfKind_24 : decode cX4_isOfKind 24 = .ok (.getstatic 255, 3) := by decide +kernel
theorem dX4_isOfKind_27 : decode cX4_isOfKind 27 = .ok (.iload_n 2, 1) := by decide +kernel
theorem dX4_isOfKind_28 : decode cX4_isOfKind 28 = .ok (.iaload, 1) := by decide +kernel
theorem dX4_isOfKind_29 : decode cX4_isOfKind 29 = .ok (.istore_n 2, 1) := by decide +kernel
theorem dX4_isOfKind_30 : decode cX4_isOfKind 30 = .ok (.iinc 3 1, 3) := by decide +kernel
theorem dX4_isOfKind_33 : decode cX4_isOfKind 33 = .ok (.goto (-29), 3) := by decide +kernel
theorem dX4_isOfKind_36 : decode cX4_isOfKind 36 = .ok (.iconst 0, 1) := by decide +kernel
theorem dX4_isOfKind_37 : decode cX4_isOfKind 37 = .ok (.ireturn, 1) := by decide +kernel
theorem dX4_greatestDivisor_0 : decode cX4_greatestDivisor 0 = .ok (.iload_n 1, 1) := by decide +kernel
theorem dX4_greatestDivisor_1 : decode cX4_greatestDivisor 1 = .ok (.istore_n 2, 1) := by decide +kernel
theorem dX4_greatestDivisor_2 : decode cX4_greatestDivisor 2 = .ok (.iload_n 2, 1) := by decide +kernel
theorem dX4_greatestDivisor_3 : decode cX4_greatestDivisor 3 = .ok (.iconst 1, 1) := by decide +kernel
theorem dX4_greatestDivisor_4 : decode cX4_greatestDivisor 4 = .ok (.if_icmp .le 21, 3) := by decide +kernel
theorem dX4_greatestDivisor_7 : decode cX4_greatestDivisor 7 = .ok (.iload_n 0, 1) := by decide +kernel
theorem dX4_greatestDivisor_8 : decode cX4_greatestDivisor 8 = .ok (.iload_n 2, 1) := by decide +kernel
theorem dX4_greatestDivisor_9 : decode cX4_greatestDivisor 9 = .ok (.irem, 1) := by decide +kernel
theorem dX4_greatestDivisor_10 : decode cX4_greatestDivisor 10 = .ok (.ifCond .ne 9, 3) := by decide +kernel
theorem dX4_greatestDivisor_13 : decode cX4_greatestDivisor 13 = .ok (.iload_n 1, 1) := by decide +kernel
theorem dX4_greatestDivisor_14 : decode cX4_greatestDivisor 14 = .ok (.iload_n 2, 1) := by decide +kernel
theorem dX4_greatestDivisor_15 : decode cX4_greatestDivisor 15 = .ok (.irem, 1) := by decide +kernel
theorem dX4_greatestDivisor_16 : decode cX4_greatestDivisor 16 = .ok (.ifCond .eq 9, 3) := by decide +kernel
theorem dX4_greatestDivisor_19 : decode cX4_greatestDivisor 19 = .ok (.iinc 2 (-1), 3) := by decide +kernel
theorem dX4_greatestDivisor_22 : decode cX4_greatestDivisor 22 = .ok (.goto (-20), 3) := by decide +kernel
theorem dX4_greatestDivisor_25 : decode cX4_greatestDivisor 25 = .ok (.iload_n 2, 1) := by decide +kernel
theorem dX4_greatestDivisor_26 : decode cX4_greatestDivisor 26 = .ok (.ireturn, 1) := by decide +kernel
theorem dX4_tryOut_0 : decode cX4_tryOut 0 = .ok (.aload_n 0, 1) := by decide +kernel
theorem dX4_tryOut_1 : decode cX4_tryOut 1 = .ok (.getfield 16, 3) := by decide +kernel
theorem dX4_tryOut_4 : decode cX4_tryOut 4 = .ok (.aload_n 0, 1) := by decide +kernel
theorem dX4_tryOut_5 : decode cX4_tryOut 5 = .ok (.getfield 12, 3) := by decide +kernel
theorem dX4_tryOut_8 : decode cX4_tryOut 8 = .ok (.invokevirtual 154, 3) := by decide +kernel
theorem dX4_tryOut_11 : decode cX4_tryOut 11 = .ok (.iload_n 2, 1) := by decide +kernel
theorem dX4_tryOut_12 : decode cX4_tryOut 12 = .ok (.tableswitch 65 0 2 #[28, 41, 54], 28) := by decide +kernel
theorem dX4_tryOut_40 : decode cX4_tryOut 40 = .ok (.aload_n 0, 1) := by decide +kernel
theorem dX4_tryOut_41 : decode cX4_tryOut 41 = .ok (.getfield 16, 3) := by decide +kernel
theorem dX4_tryOut_44 : decode cX4_tryOut 44 = .ok (.getfield 98, 3) := by decide +kernel
theorem dX4_tryOut_47 : decode cX4_tryOut 47 = .ok (.iload_n 1, 1) := by decide +kernel
theorem dX4_tryOut_48 : decode cX4_tryOut 48 = .ok (.iload_n 3, 1) := by decide +kernel
theorem dX4_tryOut_49 : decode cX4_tryOut 49 = .ok (.iastore, 1) := by decide +kernel
theorem dX4_tryOut_50 : decode cX4_tryOut 50 = .ok (.goto 36, 3) := by decide +kernel
theorem dX4_tryOut_53 : decode cX4_tryOut 53 = .ok (.aload_n 0, 1) := by decide +kernel
theorem dX4_tryOut_54 : decode cX4_tryOut 54 = .ok (.getfield 16, 3) := by decide +kernel
theorem dX4_tryOut_57 : decode cX4_tryOut 57 = .ok (.getfield 95, 3) := by decide +kernel
theorem dX4_tryOut_60 : decode cX4_tryOut 60 = .ok (.iload_n 1, 1) := by decide +kernel
theorem dX4_tryOut_61 : decode cX4_tryOut 61 = .ok (.iload_n 3, 1) := by decide +kernel
theorem dX4_tryOut_62 : decode cX4_tryOut 62 = .ok (.iastore, 1) := by decide +kernel
theorem dX4_tryOut_63 : decode cX4_tryOut 63 = .ok (.goto 23, 3) := by decide +kernel
theorem dX4_tryOut_66 : decode cX4_tryOut 66 = .ok (.aload_n 0, 1) := by decide +kernel
theorem dX4_tryOut_67 : decode cX4_tryOut 67 = .ok (.getfield 16, 3) := by decide +kernel
theorem dX4_tryOut_70 : decode cX4_tryOut 70 = .ok (.iload_n 3, 1) := by decide +kernel
theorem dX4_tryOut_71 : decode cX4_tryOut 71 = .ok (.putfield 79, 3) := by decide +kernel
theorem dX4_tryOut_74 : decode cX4_tryOut 74 = .ok (.goto 12, 3) := by decide +kernel
theorem dX4_tryOut_77 : decode cX4_tryOut 77 = .ok (.aload_n 0, 1) := by decide +kernel
theorem dX4_tryOut_78 : decode cX4_tryOut 78 = .ok (.getfield 16, 3) := by decide +kernel
theorem dX4_tryOut_81 : decode cX4_tryOut 81 = .ok (.iload_n 1, 1) := by decide +kernel
theorem dX4_tryOut_82 : decode cX4_tryOut 82 = .ok (.iload_n 3, 1) := by decide +kernel
theorem dX4_tryOut_83 : decode cX4_tryOut 83 = .ok (.invokevirtual 124, 3) := by decide +kernel
theorem dX4_tryOut_86 : decode cX4_tryOut 86 = .ok (.return_, 1) := by decide +kernel
theorem dX4_bestFor_0 : decode cX4_bestFor 0 = .ok (.iload 4, 2) := by decide +kernel
theorem dX4_bestFor_2 : decode cX4_bestFor 2 = .ok (.istore 6, 2) := by decide +kernel
theorem dX4_bestFor_4 : decode cX4_bestFor 4 = .ok (.iconst (-1), 1) := by decide +kernel
theorem dX4_bestFor_5 : decode cX4_bestFor 5 = .ok (.istore 7, 2) := by decide +kernel
theorem dX4_bestFor_7 : decode cX4_bestFor 7 = .ok (.iload 4, 2) := by decide +kernel
theorem dX4_bestFor_9 : decode cX4_bestFor 9 = .ok (.istore 8, 2) := by decide +kernel
theorem dX4_bestFor_11 : decode cX4_bestFor 11 = .ok (.iload 8, 2) := by decide +kernel
theorem dX4_bestFor_13 : decode cX4_bestFor 13 = .ok (.iload 5, 2) := by decide +kernel
theorem dX4_bestFor_15 : decode cX4_bestFor 15 = .ok (.if_icmp .gt 68, 3) := by decide +kernel
theorem dX4_bestFor_18 : decode cX4_bestFor 18 = .ok (.iload_n 3, 1) := by decide +kernel
theorem dX4_bestFor_19 : decode cX4_bestFor 19 = .ok (.iconst 3, 1) := by decide +kernel
theorem dX4_bestFor_20 : decode cX4_bestFor 20 = .ok (.if_icmp .ne 12, 3) := by decide +kernel
theorem dX4_bestFor_23 : decode cX4_bestFor 23 = .ok (.iload 8, 2) := by decide +kernel
theorem dX4_bestFor_25 : decode cX4_bestFor 25 = .ok (.iload_n 1, 1) := by decide +kernel
theorem dX4_bestFor_26 : decode cX4_bestFor 26 = .ok (.if_icmp .ne 6, 3) := by decide +kernel
theorem dX4_bestFor_29 : decode cX4_bestFor 29 = .ok (.goto 48, 3) := by decide +kernel
theorem dX4_bestFor_32 : decode cX4_bestFor 32 = .ok (.aload_n 0, 1) := by decide +kernel
theorem dX4_bestFor_33 : decode cX4_bestFor 33 = .ok (.iload_n 1, 1) := by decide +kernel
theorem dX4_bestFor_34 : decode cX4_bestFor 34 = .ok (.iload_n 3, 1) := by decide +kernel
theorem dX4_bestFor_35 : decode cX4_bestFor 35 = .ok (.iload 8, 2) := by decide +kernel
theorem dX4_bestFor_37 : decode cX4_bestFor 37 = .ok (.invokevirtual 258, 3) := by decide +kernel
theorem dX4_bestFor_40 : decode cX4_bestFor 40 = .ok (.aload_n 0, 1) := by decide +kernel
theorem dX4_bestFor_41 : decode cX4_bestFor 41 = .ok (.getfield 16, 3) := by decide +kernel
theorem dX4_bestFor_44 : decode cX4_bestFor 44 = .ok (.iload_n 2, 1) := by decide +kernel
theorem dX4_bestFor_45 : decode cX4_bestFor 45 = .ok (.invokevirtual 134, 3) := by decide +kernel
theorem dX4_bestFor_48 : decode cX4_bestFor 48 = .ok (.aload_n 0, 1) := by decide +kernel
theorem dX4_bestFor_49 : decode cX4_bestFor 49 = .ok (.getfield 16, 3) := by decide +kernel
theorem dX4_bestFor_52 : decode cX4_bestFor 52 = .ok (.getfield 101, 3) := by decide +kernel
theorem dX4_bestFor_55 : decode cX4_bestFor 55 = .ok (.iload_n 1, 1) := by decide +kernel
theorem dX4_bestFor_56 : decode cX4_bestFor 56 = .ok (.iaload, 1) := by decide +kernel
theorem dX4_bestFor_57 : decode cX4_bestFor 57 = .ok (.iload 7, 2) := by decide +kernel
theorem dX4_bestFor_59 : decode cX4_bestFor 59 = .ok (.if_icmp .le 18, 3) := by decide +kernel
theorem dX4_bestFor_62 : decode cX4_bestFor 62 = .ok (.aload_n 0, 1) := by decide +kernel
theorem dX4_bestFor_63 : decode cX4_bestFor 63 = .ok (.getfield 16, 3) := by decide +kernel
theorem dX4_bestFor_66 : decode cX4_bestFor 66 = .ok (.getfield 101, 3) := by decide +kernel
theorem dX4_bestFor_69 : decode cX4_bestFor 69 = .ok (.iload_n 1, 1) := by decide +kernel
theorem dX4_bestFor_70 : decode cX4_bestFor 70 = .ok (.iaload, 1) := by decide +kernel
theorem dX4_bestFor_71 : decode cX4_bestFor 71 = .ok (.istore 7, 2) := by decide +kernel
theorem dX4_bestFor_73 : decode cX4_bestFor 73 = .ok (.iload 8, 2) := by decide +kernel
theorem dX4_bestFor_75 : decode cX4_bestFor 75 = .ok (.istore 6, 2) := by decide +kernel
theorem dX4_bestFor_77 : decode cX4_bestFor 77 = .ok (.iinc 8 1, 3) := by decide +kernel
theorem dX4_bestFor_80 : decode cX4_bestFor 80 = .ok (.goto (-69), 3) := by decide +kernel
theorem dX4_bestFor_83 : decode cX4_bestFor 83 = .ok (.iload 6, 2) := by decide +kernel
theorem dX4_bestFor_85 : decode cX4_bestFor 85 = .ok (.ireturn, 1) := by decide +kernel
theorem dX4_dustWithFall_0 : decode cX4_dustWithFall 0 = .ok (.aload_n 0, 1) := by decide +kernel
theorem dX4_dustWithFall_1 : decode cX4_dustWithFall 1 = .ok (.getfield 16, 3) := by decide +kernel
theorem dX4_dustWithFall_4 : decode cX4_dustWithFall 4 = .ok (.aload_n 0, 1) := by decide +kernel
theorem dX4_dustWithFall_5 : decode cX4_dustWithFall 5 = .ok (.getfield 12, 3) := by decide +kernel
theorem dX4_dustWithFall_8 : decode cX4_dustWithFall 8 = .ok (.invokevirtual 154, 3) := by decide +kernel
theorem dX4_dustWithFall_11 : decode cX4_dustWithFall 11 = .ok (.aload_n 0, 1) := by decide +kernel
theorem dX4_dustWithFall_12 : decode cX4_dustWithFall 12 = .ok (.getfield 16, 3) := by decide +kernel
theorem dX4_dustWithFall_15 : decode cX4_dustWithFall 15 = .ok (.iload_n 1, 1) := by decide +kernel
theorem dX4_dustWithFall_16 : decode cX4_dustWithFall 16 = .ok (.putfield 75, 3) := by decide +kernel
theorem dX4_dustWithFall_19 : decode cX4_dustWithFall 19 = .ok (.aload_n 0, 1) := by decide +kernel
theorem dX4_dustWithFall_20 : decode cX4_dustWithFall 20 = .ok (.getfield 16, 3) := by decide +kernel
theorem dX4_dustWithFall_23 : decode cX4_dustWithFall 23 = .ok (.iload_n 2, 1) := by decide +kernel
theorem dX4_dustWithFall_24 : decode cX4_dustWithFall 24 = .ok (.sipush 255, 3) := by decide +kernel
theorem dX4_dustWithFall_27 : decode cX4_dustWithFall 27 = .ok (.invokevirtual 158, 3) := by decide +kernel
theorem dX4_dustWithFall_30 : decode cX4_dustWithFall 30 = .ok (.aload_n 0, 1) := by decide +kernel
theorem dX4_dustWithFall_31 : decode cX4_dustWithFall 31 = .ok (.getfield 16, 3) := by decide +kernel
theorem dX4_dustWithFall_34 : decode cX4_dustWithFall 34 = .ok (.invokevirtual 138, 3) := by decide +kernel
theorem dX4_dustWithFall_37 : decode cX4_dustWithFall 37 = .ok (.ireturn, 1) := by decide +kernel
theorem dX4_dustSweptBy_0 : decode cX4_dustSweptBy 0 = .ok (.aload_n 0, 1) := by decide +kernel
theorem dX4_dustSweptBy_1 : decode cX4_dustSweptBy 1 = .ok (.getfield 16, 3) := by decide +kernel
theorem dX4_dustSweptBy_4 : decode cX4_dustSweptBy 4 = .ok (.aload_n 0, 1) := by decide +kernel
theorem dX4_dustSweptBy_5 : decode cX4_dustSweptBy 5 = .ok (.getfield 12, 3) := by decide +kernel
theorem dX4_dustSweptBy_8 : decode cX4_dustSweptBy 8 = .ok (.invokevirtual 154, 3) := by decide +kernel
theorem dX4_dustSweptBy_11 : decode cX4_dustSweptBy 11 = .ok (.aload_n 0, 1) := by decide +kernel
theorem dX4_dustSweptBy_12 : decode cX4_dustSweptBy 12 = .ok (.getfield 16, 3) := by decide +kernel
theorem dX4_dustSweptBy_15 : decode cX4_dustSweptBy 15 = .ok (.iload_n 2, 1) := by decide +kernel
theorem dX4_dustSweptBy_16 : decode cX4_dustSweptBy 16 = .ok (.iload_n 1, 1) := by decide +kernel
theorem dX4_dustSweptBy_17 : decode cX4_dustSweptBy 17 = .ok (.invokevirtual 158, 3) := by decide +kernel
theorem dX4_dustSweptBy_20 : decode cX4_dustSweptBy 20 = .ok (.aload_n 0, 1) := by decide +kernel
theorem dX4_dustSweptBy_21 : decode cX4_dustSweptBy 21 = .ok (.getfield 16, 3) := by decide +kernel
theorem dX4_dustSweptBy_24 : decode cX4_dustSweptBy 24 = .ok (.invokevirtual 138, 3) := by decide +kernel
theorem dX4_dustSweptBy_27 : decode cX4_dustSweptBy 27 = .ok (.ireturn, 1) := by decide +kernel
theorem dX4_refuseTold_0 : decode cX4_refuseTold 0 = .ok (.iload_n 1, 1) := by decide +kernel
theorem dX4_refuseTold_1 : decode cX4_refuseTold 1 = .ok (.invokestatic 223, 3) := by decide +kernel
theorem dX4_refuseTold_4 : decode cX4_refuseTold 4 = .ok (.ifCond .ne 9, 3) := by decide +kernel
theorem dX4_refuseTold_7 : decode cX4_refuseTold 7 = .ok (.aload_n 0, 1) := by decide +kernel
theorem dX4_refuseTold_8 : decode cX4_refuseTold 8 = .ok (.iconst 0, 1) := by decide +kernel
theorem dX4_refuseTold_9 : decode cX4_refuseTold 9 = .ok (.invokevirtual 59, 3) := by decide +kernel
theorem dX4_refuseTold_12 : decode cX4_refuseTold 12 = .ok (.ireturn, 1) := by decide +kernel
theorem dX4_refuseTold_13 : decode cX4_refuseTold 13 = .ok (.aload_n 0, 1) := by decide +kernel
theorem dX4_refuseTold_14 : decode cX4_refuseTold 14 = .ok (.getfield 42, 3) := by decide +kernel
theorem dX4_refuseTold_17 : decode cX4_refuseTold 17 = .ok (.iload_n 1, 1) := by decide +kernel
theorem dX4_refuseTold_18 : decode cX4_refuseTold 18 = .ok (.aaload, 1) := by decide +kernel
theorem dX4_refuseTold_19 : decode cX4_refuseTold 19 = .ok (.getfield 229, 3) := by decide +kernel
theorem dX4_refuseTold_22 : decode cX4_refuseTold 22 = .ok (.ifCond .ne 9, 3) := by decide +kernel
theorem dX4_refuseTold_25 : decode cX4_refuseTold 25 = .ok (.aload_n 0, 1) := by decide +kernel
theorem dX4_refuseTold_26 : decode cX4_refuseTold 26 = .ok (.iconst 5, 1) := by decide +kernel
theorem dX4_refuseTold_27 : decode cX4_refuseTold 27 = .ok (.invokevirtual 59, 3) := by decide +kernel
theorem dX4_refuseTold_30 : decode cX4_refuseTold 30 = .ok (.ireturn, 1) := by decide +kernel
theorem dX4_refuseTold_31 : decode cX4_refuseTold 31 = .ok (.aload_n 0, 1) := by decide +kernel
theorem dX4_refuseTold_32 : decode cX4_refuseTold 32 = .ok (.iload_n 2, 1) := by decide +kernel
theorem dX4_refuseTold_33 : decode cX4_refuseTold 33 = .ok (.invokevirtual 92, 3) := by decide +kernel
theorem dX4_refuseTold_36 : decode cX4_refuseTold 36 = .ok (.ifCond .eq 7, 3) := by decide +kernel
theorem dX4_refuseTold_39 : decode cX4_refuseTold 39 = .ok (.iconst 0, 1) := by decide +kernel
theorem dX4_refuseTold_40 : decode cX4_refuseTold 40 = .ok (.goto 8, 3) := by decide +kernel
theorem dX4_refuseTold_43 : decode cX4_refuseTold 43 = .ok (.aload_n 0, 1) := by decide +kernel
theorem dX4_refuseTold_44 : decode cX4_refuseTold 44 = .ok (.iconst 0, 1) := by decide +kernel
theorem dX4_refuseTold_45 : decode cX4_refuseTold 45 = .ok (.invokevirtual 59, 3) := by decide +kernel
theorem dX4_refuseTold_48 : decode cX4_refuseTold 48 = .ok (.ireturn, 1) := by decide +kernel
theorem dX4_allThatFit_0 : decode cX4_allThatFit 0 = .ok (.iconst 0, 1) := by decide +kernel
theorem dX4_allThatFit_1 : decode cX4_allThatFit 1 = .ok (.istore 5, 2) := by decide +kernel
theorem dX4_allThatFit_3 : decode cX4_allThatFit 3 = .ok (.iconst 0, 1) := by decide +kernel
theorem dX4_allThatFit_4 : decode cX4_allThatFit 4 = .ok (.istore 6, 2) := by decide +kernel
theorem dX4_allThatFit_6 : decode cX4_allThatFit 6 = .ok (.iload 6, 2) := by decide +kernel
theorem dX4_allThatFit_8 : decode cX4_allThatFit 8 = .ok (.iload 4, 2) := by decide +kernel
theorem dX4_allThatFit_10 : decode cX4_allThatFit 10 = .ok (.if_icmp .ge 40, 3) := by decide +kernel
theorem dX4_allThatFit_13 : decode cX4_allThatFit 13 = .ok (.aload_n 0, 1) := by decide +kernel
theorem dX4_allThatFit_14 : decode cX4_allThatFit 14 = .ok (.iload_n 2, 1) := by decide +kernel
theorem dX4_allThatFit_15 : decode cX4_allThatFit 15 = .ok (.iload_n 3, 1) := by decide +kernel
theorem dX4_allThatFit_16 : decode cX4_allThatFit 16 = .ok (.iload 6, 2) := by decide +kernel
theorem dX4_allThatFit_18 : decode cX4_allThatFit 18 = .ok (.invokevirtual 258, 3) := by decide +kernel
theorem dX4_allThatFit_21 : decode cX4_allThatFit 21 = .ok (.aload_n 0, 1) := by decide +kernel
theorem dX4_allThatFit_22 : decode cX4_allThatFit 22 = .ok (.iload_n 2, 1) := by decide +kernel
theorem dX4_allThatFit_23 : decode cX4_allThatFit 23 = .ok (.aload_n 0, 1) := by decide +kernel
theorem dX4_allThatFit_24 : decode cX4_allThatFit 24 = .ok (.getfield 42, 3) := by decide +kernel
theorem dX4_allThatFit_27 : decode cX4_allThatFit 27 = .ok (.iload_n 1, 1) := by decide +kernel
theorem dX4_allThatFit_28 : decode cX4_allThatFit 28 = .ok (.aaload, 1) := by decide +kernel
theorem dX4_allThatFit_29 : decode cX4_allThatFit 29 = .ok (.invokevirtual 262, 3) := by decide +kernel
theorem dX4_allThatFit_32 : decode cX4_allThatFit 32 = .ok (.ifCond .eq 12, 3) := by decide +kernel
theorem dX4_allThatFit_35 : decode cX4_allThatFit 35 = .ok (.iload 5, 2) := by decide +kernel
theorem dX4_allThatFit_37 : decode cX4_allThatFit 37 = .ok (.iconst 1, 1) := by decide +kernel
theorem dX4_allThatFit_38 : decode cX4_allThatFit 38 = .ok (.iload 6, 2) := by decide +kernel
theorem dX4_allThatFit_40 : decode cX4_allThatFit 40 = .ok (.ishl, 1) := by decide +kernel
theorem dX4_allThatFit_41 : decode cX4_allThatFit 41 = .ok (.ior, 1) := by decide +kernel
theorem dX4_allThatFit_42 : decode cX4_allThatFit 42 = .ok (.istore 5, 2) := by decide +kernel
theorem dX4_allThatFit_44 : decode cX4_allThatFit 44 = .ok (.iinc 6 1, 3) := by decide +kernel
theorem dX4_allThatFit_47 : decode cX4_allThatFit 47 = .ok (.goto (-41), 3) := by decide +kernel
theorem dX4_allThatFit_50 : decode cX4_allThatFit 50 = .ok (.iload 5, 2) := by decide +kernel
theorem dX4_allThatFit_52 : decode cX4_allThatFit 52 = .ok (.ireturn, 1) := by decide +kernel
theorem dX4_hasGoodsAsTold_0 : decode cX4_hasGoodsAsTold 0 = .ok (.iconst 0, 1) := by decide +kernel
theorem dX4_hasGoodsAsTold_1 : decode cX4_hasGoodsAsTold 1 = .ok (.istore_n 3, 1) := by decide +kernel
theorem dX4_hasGoodsAsTold_2 : decode cX4_hasGoodsAsTold 2 = .ok (.iload_n 3, 1) := by decide +kernel
theorem dX4_hasGoodsAsTold_3 : decode cX4_hasGoodsAsTold 3 = .ok (.aload_n 2, 1) := by decide +kernel
theorem dX4_hasGoodsAsTold_4 : decode cX4_hasGoodsAsTold 4 = .ok (.getfield 232, 3) := by decide +kernel
theorem dX4_hasGoodsAsTold_7 : decode cX4_hasGoodsAsTold 7 = .ok (.if_icmp .ge 50, 3) := by decide +kernel
theorem dX4_hasGoodsAsTold_10 : decode cX4_hasGoodsAsTold 10 = .ok (.iload_n 3, 1) := by decide +kernel
theorem dX4_hasGoodsAsTold_11 : decode cX4_hasGoodsAsTold 11 = .ok (.ifCond .le 10, 3) := by decide +kernel
theorem dX4_hasGoodsAsTold_14 : decode cX4_hasGoodsAsTold 14 = .ok (.aload_n 0, 1) := by decide +kernel
theorem dX4_hasGoodsAsTold_15 : decode cX4_hasGoodsAsTold 15 = .ok (.getfield 16, 3) := by decide +kernel
theorem dX4_hasGoodsAsTold_18 : decode cX4_hasGoodsAsTold 18 = .ok (.invokevirtual 161, 3) := by decide +kernel
theorem dX4_hasGoodsAsTold_21 : decode cX4_hasGoodsAsTold 21 = .ok (.aload_n 2, 1) := by decide +kernel
theorem dX4_hasGoodsAsTold_22 : decode cX4_hasGoodsAsTold 22 = .ok (.getfield 238, 3) := by decide +kernel
theorem dX4_hasGoodsAsTold_25 : decode cX4_hasGoodsAsTold 25 = .ok (.iload_n 3, 1) := by decide +kernel
theorem dX4_hasGoodsAsTold_26 : decode cX4_hasGoodsAsTold 26 = .ok (.iaload, 1) := by decide +kernel
theorem dX4_hasGoodsAsTold_27 : decode cX4_hasGoodsAsTold 27 = .ok (.istore 4, 2) := by decide +kernel
theorem dX4_hasGoodsAsTold_29 : decode cX4_hasGoodsAsTold 29 = .ok (.iload 4, 2) := by decide +kernel
theorem dX4_hasGoodsAsTold_31 : decode cX4_hasGoodsAsTold 31 = .ok (.iconst (-1), 1) := by decide +kernel
theorem dX4_hasGoodsAsTold_32 : decode cX4_hasGoodsAsTold 32 = .ok (.if_icmp .eq 19, 3) := by decide +kernel
theorem dX4_hasGoodsAsTold_35 : decode cX4_hasGoodsAsTold 35 = .ok (.iload 4, 2) := by decide +kernel
theorem dX4_hasGoodsAsTold_37 : decode cX4_hasGoodsAsTold 37 = .ok (.aload_n 0, 1) := by decide +kernel
theorem dX4_hasGoodsAsTold_38 : decode cX4_hasGoodsAsTold 38 = .ok (.getfield 16, 3) := by decide +kernel
theorem dX4_hasGoodsAsTold_41 : decode cX4_hasGoodsAsTold 41 = .ok (.getfield 101, 3) := by decide +kernel
theorem dX4_hasGoodsAsTold_44 : decode cX4_hasGoodsAsTold 44 = .ok (.iload_n 1, 1) := by decide +kernel
theorem dX4_hasGoodsAsTold_45 : decode cX4_hasGoodsAsTold 45 = .ok (.iaload, 1) := by decide +kernel
theorem dX4_hasGoodsAsTold_46 : decode cX4_hasGoodsAsTold 46 = .ok (.if_icmp .eq 5, 3) := by decide +kernel
theorem dX4_hasGoodsAsTold_49 : decode cX4_hasGoodsAsTold 49 = .ok (.iconst 0, 1) := by decide +kernel
theorem dX4_hasGoodsAsTold_50 : decode cX4_hasGoodsAsTold 50 = .ok (.ireturn, 1) := by decide +kernel
theorem dX4_hasGoodsAsTold_51 : decode cX4_hasGoodsAsTold 51 = .ok (.iinc 3 1, 3) := by decide +kernel
theorem dX4_hasGoodsAsTold_54 : decode cX4_hasGoodsAsTold 54 = .ok (.goto (-52), 3) := by decide +kernel
theorem dX4_hasGoodsAsTold_57 : decode cX4_hasGoodsAsTold 57 = .ok (.iconst 1, 1) := by decide +kernel
theorem dX4_hasGoodsAsTold_58 : decode cX4_hasGoodsAsTold 58 = .ok (.ireturn, 1) := by decide +kernel
