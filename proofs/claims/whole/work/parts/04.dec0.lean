theorem dX0_init_0 : decode cX0_init 0 = .ok (.aload_n 0, 1) := by decide +kernel
theorem dX0_init_1 : decode cX0_init 1 = .ok (.invokespecial 3, 3) := by decide +kernel
theorem dX0_init_4 : decode cX0_init 4 = .ok (.aload_n 0, 1) := by decide +kernel
theorem dX0_init_5 : decode cX0_init 5 = .ok (.bipush 12, 2) := by decide +kernel
theorem dX0_init_7 : decode cX0_init 7 = .ok (.newarray .int, 2) := by decide +kernel
theorem dX0_init_9 : decode cX0_init 9 = .ok (.putfield 9, 3) := by decide +kernel
theorem dX0_init_12 : decode cX0_init 12 = .ok (.aload_n 0, 1) := by decide +kernel
theorem dX0_init_13 : decode cX0_init 13 = .ok (.bipush 12, 2) := by decide +kernel
theorem dX0_init_15 : decode cX0_init 15 = .ok (.newarray .int, 2) := by decide +kernel
theorem dX0_init_17 : decode cX0_init 17 = .ok (.putfield 15, 3) := by decide +kernel
theorem dX0_init_20 : decode cX0_init 20 = .ok (.aload_n 0, 1) := by decide +kernel
theorem dX0_init_21 : decode cX0_init 21 = .ok (.bipush 8, 2) := by decide +kernel
theorem dX0_init_23 : decode cX0_init 23 = .ok (.newarray .int, 2) := by decide +kernel
theorem dX0_init_25 : decode cX0_init 25 = .ok (.putfield 18, 3) := by decide +kernel
theorem dX0_init_28 : decode cX0_init 28 = .ok (.aload_n 0, 1) := by decide +kernel
theorem dX0_init_29 : decode cX0_init 29 = .ok (.bipush 8, 2) := by decide +kernel
theorem dX0_init_31 : decode cX0_init 31 = .ok (.newarray .int, 2) := by decide +kernel
theorem dX0_init_33 : decode cX0_init 33 = .ok (.putfield 21, 3) := by decide +kernel
theorem dX0_init_36 : decode cX0_init 36 = .ok (.aload_n 0, 1) := by decide +kernel
theorem dX0_init_37 : decode cX0_init 37 = .ok (.bipush 8, 2) := by decide +kernel
theorem dX0_init_39 : decode cX0_init 39 = .ok (.newarray .int, 2) := by decide +kernel
theorem dX0_init_41 : decode cX0_init 41 = .ok (.putfield 24, 3) := by decide +kernel
theorem dX0_init_44 : decode cX0_init 44 = .ok (.aload_n 0, 1) := by decide +kernel
theorem dX0_init_45 : decode cX0_init 45 = .ok (.bipush 96, 2) := by decide +kernel
theorem dX0_init_47 : decode cX0_init 47 = .ok (.newarray .int, 2) := by decide +kernel
theorem dX0_init_49 : decode cX0_init 49 = .ok (.putfield 27, 3) := by decide +kernel
theorem dX0_init_52 : decode cX0_init 52 = .ok (.aload_n 0, 1) := by decide +kernel
theorem dX0_init_53 : decode cX0_init 53 = .ok (.bipush 10, 2) := by decide +kernel
theorem dX0_init_55 : decode cX0_init 55 = .ok (.newarray .int, 2) := by decide +kernel
theorem dX0_init_57 : decode cX0_init 57 = .ok (.putfield 30, 3) := by decide +kernel
theorem dX0_init_60 : decode cX0_init 60 = .ok (.iconst 0, 1) := by decide +kernel
theorem dX0_init_61 : decode cX0_init 61 = .ok (.istore_n 1, 1) := by decide +kernel
theorem dX0_init_62 : decode cX0_init 62 = .ok (.iload_n 1, 1) := by decide +kernel
theorem dX0_init_63 : decode cX0_init 63 = .ok (.bipush 10, 2) := by decide +kernel
theorem dX0_init_65 : decode cX0_init 65 = .ok (.if_icmp .ge 16, 3) := by decide +kernel
theorem dX0_init_68 : decode cX0_init 68 = .ok (.aload_n 0, 1) := by decide +kernel
theorem dX0_init_69 : decode cX0_init 69 = .ok (.getfield 30, 3) := by decide +kernel
theorem dX0_init_72 : decode cX0_init 72 = .ok (.iload_n 1, 1) := by decide +kernel
theorem dX0_init_73 : decode cX0_init 73 = .ok (.iconst (-1), 1) := by decide +kernel
theorem dX0_init_74 : decode cX0_init 74 = .ok (.iastore, 1) := by decide +kernel
theorem dX0_init_75 : decode cX0_init 75 = .ok (.iinc 1 1, 3) := by decide +kernel
theorem dX0_init_78 : decode cX0_init 78 = .ok (.goto (-16), 3) := by decide +kernel
theorem dX0_init_81 : decode cX0_init 81 = .ok (.aload_n 0, 1) := by decide +kernel
theorem dX0_init_82 : decode cX0_init 82 = .ok (.iconst 3, 1) := by decide +kernel
theorem dX0_init_83 : decode cX0_init 83 = .ok (.putfield 33, 3) := by decide +kernel
theorem dX0_init_86 : decode cX0_init 86 = .ok (.aload_n 0, 1) := by decide +kernel
theorem dX0_init_87 : decode cX0_init 87 = .ok (.iconst 1, 1) := by decide +kernel
theorem dX0_init_88 : decode cX0_init 88 = .ok (.putfield 37, 3) := by decide +kernel
theorem dX0_init_91 : decode cX0_init 91 = .ok (.return_, 1) := by decide +kernel
theorem dX0_become_0 : decode cX0_become 0 = .ok (.aload_n 1, 1) := by decide +kernel
theorem dX0_become_1 : decode cX0_become 1 = .ok (.getfield 9, 3) := by decide +kernel
theorem dX0_become_4 : decode cX0_become 4 = .ok (.iconst 0, 1) := by decide +kernel
theorem dX0_become_5 : decode cX0_become 5 = .ok (.aload_n 0, 1) := by decide +kernel
theorem dX0_become_6 : decode cX0_become 6 = .ok (.getfield 9, 3) := by decide +kernel
theorem dX0_become_9 : decode cX0_become 9 = .ok (.iconst 0, 1) := by decide +kernel
theorem dX0_become_10 : decode cX0_become 10 = .ok (.bipush 12, 2) := by decide +kernel
theorem dX0_become_12 : decode cX0_become 12 = .ok (.invokestatic 40, 3) := by decide +kernel
theorem dX0_become_15 : decode cX0_become 15 = .ok (.aload_n 1, 1) := by decide +kernel
theorem dX0_become_16 : decode cX0_become 16 = .ok (.getfield 18, 3) := by decide +kernel
theorem dX0_become_19 : decode cX0_become 19 = .ok (.iconst 0, 1) := by decide +kernel
theorem dX0_become_20 : decode cX0_become 20 = .ok (.aload_n 0, 1) := by decide +kernel
theorem dX0_become_21 : decode cX0_become 21 = .ok (.getfield 18, 3) := by decide +kernel
theorem dX0_become_24 : decode cX0_become 24 = .ok (.iconst 0, 1) := by decide +kernel
theorem dX0_become_25 : decode cX0_become 25 = .ok (.bipush 8, 2) := by decide +kernel
theorem dX0_become_27 : decode cX0_become 27 = .ok (.invokestatic 40, 3) := by decide +kernel
theorem dX0_become_30 : decode cX0_become 30 = .ok (.aload_n 1, 1) := by decide +kernel
theorem dX0_become_31 : decode cX0_become 31 = .ok (.getfield 21, 3) := by decide +kernel
theorem dX0_become_34 : decode cX0_become 34 = .ok (.iconst 0, 1) := by decide +kernel
theorem dX0_become_35 : decode cX0_become 35 = .ok (.aload_n 0, 1) := by decide +kernel
theorem dX0_become_36 : decode cX0_become 36 = .ok (.getfield 21, 3) := by decide +kernel
theorem dX0_become_39 : decode cX0_become 39 = .ok (.iconst 0, 1) := by decide +kernel
theorem dX0_become_40 : decode cX0_become 40 = .ok (.bipush 8, 2) := by decide +kernel
theorem dX0_become_42 : decode cX0_become 42 = .ok (.invokestatic 40, 3) := by decide +kernel
theorem dX0_become_45 : decode cX0_become 45 = .ok (.aload_n 1, 1) := by decide +kernel
theorem dX0_become_46 : decode cX0_become 46 = .ok (.getfield 24, 3) := by decide +kernel
theorem dX0_become_49 : decode cX0_become 49 = .ok (.iconst 0, 1) := by decide +kernel
theorem dX0_become_50 : decode cX0_become 50 = .ok (.aload_n 0, 1) := by decide +kernel
theorem dX0_become_51 : decode cX0_become 51 = .ok (.getfield 24, 3) := by decide +kernel
theorem dX0_become_54 : decode cX0_become 54 = .ok (.iconst 0, 1) := by decide +kernel
theorem dX0_become_55 : decode cX0_become 55 = .ok (.bipush 8, 2) := by decide +kernel
theorem dX0_become_57 : decode cX0_become 57 = .ok (.invokestatic 40, 3) := by decide +kernel
theorem dX0_become_60 : decode cX0_become 60 = .ok (.aload_n 1, 1) := by decide +kernel
theorem dX0_become_61 : decode cX0_become 61 = .ok (.getfield 27, 3) := by decide +kernel
theorem dX0_become_64 : decode cX0_become 64 = .ok (.iconst 0, 1) := by decide +kernel
theorem dX0_become_65 : decode cX0_become 65 = .ok (.aload_n 0, 1) := by decide +kernel
theorem dX0_become_66 : decode cX0_become 66 = .ok (.getfield 27, 3) := by decide +kernel
theorem dX0_become_69 : decode cX0_become 69 = .ok (.iconst 0, 1) := by decide +kernel
theorem dX0_become_70 : decode cX0_become 70 = .ok (.bipush 96, 2) := by decide +kernel
theorem dX0_become_72 : decode cX0_become 72 = .ok (.invokestatic 40, 3) := by decide +kernel
theorem dX0_become_75 : decode cX0_become 75 = .ok (.aload_n 1, 1) := by decide +kernel
theorem dX0_become_76 : decode cX0_become 76 = .ok (.getfield 30, 3) := by decide +kernel
theorem dX0_become_79 : decode cX0_become 79 = .ok (.iconst 0, 1) := by decide +kernel
theorem dX0_become_80 : decode cX0_become 80 = .ok (.aload_n 0, 1) := by decide +kernel
theorem dX0_become_81 : decode cX0_become 81 = .ok (.getfield 30, 3) := by decide +kernel
theorem dX0_become_84 : decode cX0_become 84 = .ok (.iconst 0, 1) := by decide +kernel
theorem dX0_become_85 : decode cX0_become 85 = .ok (.bipush 10, 2) := by decide +kernel
theorem dX0_become_87 : decode cX0_become 87 = .ok (.invokestatic 40, 3) := by decide +kernel
theorem dX0_become_90 : decode cX0_become 90 = .ok (.aload_n 0, 1) := by decide +kernel
theorem dX0_become_91 : decode cX0_become 91 = .ok (.aload_n 1, 1) := by decide +kernel
theorem dX0_become_92 : decode cX0_become 92 = .ok (.getfield 46, 3) := by decide +kernel
theorem dX0_become_95 : decode cX0_become 95 = .ok (.putfield 46, 3) := by decide +kernel
theorem dX0_become_98 : decode cX0_become 98 = .ok (.aload_n 0, 1) := by decide +kernel
theorem dX0_become_99 : decode cX0_become 99 = .ok (.aload_n 1, 1) := by decide +kernel
theorem dX0_become_100 : decode cX0_become 100 = .ok (.getfield 33, 3) := by decide +kernel
theorem dX0_become_103 : decode cX0_become 103 = .ok (.putfield 33, 3) := by decide +kernel
theorem dX0_become_106 : decode cX0_become 106 = .ok (.aload_n 0, 1) := by decide +kernel
theorem dX0_become_107 : decode cX0_become 107 = .ok (.aload_n 1, 1) := by decide +kernel
theorem dX0_become_108 : decode cX0_become 108 = .ok (.getfield 49, 3) := by decide +kernel
theorem dX0_become_111 : decode cX0_become 111 = .ok (.putfield 49, 3) := by decide +kernel
theorem dX0_become_114 : decode cX0_become 114 = .ok (.aload_n 0, 1) := by decide +kernel
theorem dX0_become_115 : decode cX0_become 115 = .ok (.aload_n 1, 1) := by decide +kernel
theorem dX0_become_116 : decode cX0_become 116 = .ok (.getfield 52, 3) := by decide +kernel
theorem dX0_become_119 : decode cX0_become 119 = .ok (.putfield 52, 3) := by decide +kernel
theorem dX0_become_122 : decode cX0_become 122 = .ok (.aload_n 0, 1) := by decide +kernel
theorem dX0_become_123 : decode cX0_become 123 = .ok (.aload_n 1, 1) := by decide +kernel
theorem dX0_become_124 : decode cX0_become 124 = .ok (.getfield 37, 3) := by decide +kernel
theorem dX0_become_127 : decode cX0_become 127 = .ok (.putfield 37, 3) := by decide +kernel
theorem dX0_become_130 : decode cX0_become 130 = .ok (.return_, 1) := by decide +kernel
theorem dX0_addTenant_0 : decode cX0_addTenant 0 = .ok (.aload_n 0, 1) := by decide +kernel
theorem dX0_addTenant_1 : decode cX0_addTenant 1 = .ok (.getfield 46, 3) := by decide +kernel
theorem dX0_addTenant_4 : decode cX0_addTenant 4 = .ok (.istore_n 3, 1) := by decide +kernel
theorem dX0_addTenant_5 : decode cX0_addTenant 5 = .ok (.aload_n 0, 1) := by decide +kernel
theorem dX0_addTenant_6 : decode cX0_addTenant 6 = .ok (.getfield 18, 3) := by decide +kernel
theorem dX0_addTenant_9 : decode cX0_addTenant 9 = .ok (.iload_n 3, 1) := by decide +kernel
theorem dX0_addTenant_10 : decode cX0_addTenant 10 = .ok (.iload_n 1, 1) := by decide +kernel
theorem dX0_addTenant_11 : decode cX0_addTenant 11 = .ok (.iastore, 1) := by decide +kernel
theorem dX0_addTenant_12 : decode cX0_addTenant 12 = .ok (.aload_n 0, 1) := by decide +kernel
theorem dX0_addTenant_13 : decode cX0_addTenant 13 = .ok (.getfield 21, 3) := by decide +kernel
theorem dX0_addTenant_16 : decode cX0_addTenant 16 = .ok (.iload_n 3, 1) := by decide +kernel
theorem dX0_addTenant_17 : decode cX0_addTenant 17 = .ok (.iload_n 2, 1) := by decide +kernel
theorem dX0_addTenant_18 : decode cX0_addTenant 18 = .ok (.iastore, 1) := by decide +kernel
theorem dX0_addTenant_19 : decode cX0_addTenant 19 = .ok (.aload_n 0, 1) := by decide +kernel
theorem dX0_addTenant_20 : decode cX0_addTenant 20 = .ok (.getfield 24, 3) := by decide +kernel
theorem dX0_addTenant_23 : decode cX0_addTenant 23 = .ok (.iload_n 3, 1) := by decide +kernel
theorem dX0_addTenant_24 : decode cX0_addTenant 24 = .ok (.iconst 0, 1) := by decide +kernel
theorem dX0_addTenant_25 : decode cX0_addTenant 25 = .ok (.iastore, 1) := by decide +kernel
theorem dX0_addTenant_26 : decode cX0_addTenant 26 = .ok (.iconst 0, 1) := by decide +kernel
theorem dX0_addTenant_27 : decode cX0_addTenant 27 = .ok (.istore 4, 2) := by decide +kernel
theorem dX0_addTenant_29 : decode cX0_addTenant 29 = .ok (.iload 4, 2) := by decide +kernel
theorem dX0_addTenant_31 : decode cX0_addTenant 31 = .ok (.bipush 12, 2) := by decide +kernel
theorem dX0_addTenant_33 : decode cX0_addTenant 33 = .ok (.if_icmp .ge 22, 3) := by decide +kernel
theorem dX0_addTenant_36 : decode cX0_addTenant 36 = .ok (.aload_n 0, 1) := by decide +kernel
theorem dX0_addTenant_37 : decode cX0_addTenant 37 = .ok (.getfield 27, 3) := by decide +kernel
theorem dX0_addTenant_40 : decode cX0_addTenant 40 = .ok (.iload_n 3, 1) := by decide +kernel
theorem dX0_addTenant_41 : decode cX0_addTenant 41 = .ok (.bipush 12, 2) := by decide +kernel
theorem dX0_addTenant_43 : decode cX0_addTenant 43 = .ok (.imul, 1) := by decide +kernel
theorem dX0_addTenant_44 : decode cX0_addTenant 44 = .ok (.iload 4, 2) := by decide +kernel
theorem dX0_addTenant_46 : decode cX0_addTenant 46 = .ok (.iadd, 1) := by decide +kernel
theorem dX0_addTenant_47 : decode cX0_addTenant 47 = .ok (.iconst 0, 1) := by decide +kernel
theorem dX0_addTenant_48 : decode cX0_addTenant 48 = .ok (.iastore, 1) := by decide +kernel
theorem dX0_addTenant_49 : decode cX0_addTenant 49 = .ok (.iinc 4 1, 3) := by decide +kernel
theorem dX0_addTenant_52 : decode cX0_addTenant 52 = .ok (.goto (-23), 3) := by decide +kernel
theorem dX0_addTenant_55 : decode cX0_addTenant 55 = .ok (.aload_n 0, 1) := by decide +kernel
theorem dX0_addTenant_56 : decode cX0_addTenant 56 = .ok (.dup, 1) := by decide +kernel
theorem dX0_addTenant_57 : decode cX0_addTenant 57 = .ok (.getfield 46, 3) := by decide +kernel
theorem dX0_addTenant_60 : decode cX0_addTenant 60 = .ok (.iconst 1, 1) := by decide +kernel
theorem dX0_addTenant_61 : decode cX0_addTenant 61 = .ok (.iadd, 1) := by decide +kernel
theorem dX0_addTenant_62 : decode cX0_addTenant 62 = .ok (.putfield 46, 3) := by decide +kernel
theorem dX0_addTenant_65 : decode cX0_addTenant 65 = .ok (.iload_n 3, 1) := by decide +kernel
theorem dX0_addTenant_66 : decode cX0_addTenant 66 = .ok (.ireturn, 1) := by decide +kernel
theorem dX0_changePlaces_0 : decode cX0_changePlaces 0 = .ok (.aload_n 0, 1) := by decide +kernel
theorem dX0_changePlaces_1 : decode cX0_changePlaces 1 = .ok (.getfield 21, 3) := by decide +kernel
theorem dX0_changePlaces_4 : decode cX0_changePlaces 4 = .ok (.iload_n 1, 1) := by decide +kernel
theorem dX0_changePlaces_5 : decode cX0_changePlaces 5 = .ok (.iaload, 1) := by decide +kernel
theorem dX0_changePlaces_6 : decode cX0_changePlaces 6 = .ok (.istore_n 3, 1) := by decide +kernel
theorem dX0_changePlaces_7 : decode cX0_changePlaces 7 = .ok (.aload_n 0, 1) := by decide +kernel
theorem dX0_changePlaces_8 : decode cX0_changePlaces 8 = .ok (.getfield 21, 3) := by decide +kernel
theorem dX0_changePlaces_11 : decode cX0_changePlaces 11 = .ok (.iload_n 1, 1) := by decide +kernel
theorem dX0_changePlaces_12 : decode cX0_changePlaces 12 = .ok (.aload_n 0, 1) := by decide +kernel
theorem dX0_changePlaces_13 : decode cX0_changePlaces 13 = .ok (.getfield 21, 3) := by decide +kernel
theorem dX0_changePlaces_16 : decode cX0_changePlaces 16 = .ok (.iload_n 2, 1) := by decide +kernel
theorem dX0_changePlaces_17 : decode cX0_changePlaces 17 = .ok (.iaload, 1) := by decide +kernel
theorem dX0_changePlaces_18 : decode cX0_changePlaces 18 = .ok (.iastore, 1) := by decide +kernel
theorem dX0_changePlaces_19 : decode cX0_changePlaces 19 = .ok (.aload_n 0, 1) := by decide +kernel
theorem dX0_changePlaces_20 : decode cX0_changePlaces 20 = .ok (.getfield 21, 3) := by decide +kernel
theorem dX0_changePlaces_23 : decode cX0_changePlaces 23 = .ok (.iload_n 2, 1) := by decide +kernel
theorem dX0_changePlaces_24 : decode cX0_changePlaces 24 = .ok (.iload_n 3, 1) := by decide +kernel
theorem dX0_changePlaces_25 : decode cX0_changePlaces 25 = .ok (.iastore, 1) := by decide +kernel
theorem dX0_changePlaces_26 : decode cX0_changePlaces 26 = .ok (.return_, 1) := by decide +kernel
theorem dX0_blowAway_0 : decode cX0_blowAway 0 = .ok (.aload_n 0, 1) := by decide +kernel
theorem dX0_blowAway_1 : decode cX0_blowAway 1 = .ok (.getfield 9, 3) := by decide +kernel
theorem dX0_blowAway_4 : decode cX0_blowAway 4 = .ok (.iload_n 1, 1) := by decide +kernel
theorem dX0_blowAway_5 : decode cX0_blowAway 5 = .ok (.iaload, 1) := by decide +kernel
theorem dX0_blowAway_6 : decode cX0_blowAway 6 = .ok (.istore_n 3, 1) := by decide +kernel
theorem dX0_blowAway_7 : decode cX0_blowAway 7 = .ok (.iload_n 1, 1) := by decide +kernel
theorem dX0_blowAway_8 : decode cX0_blowAway 8 = .ok (.iload_n 2, 1) := by decide +kernel
theorem dX0_blowAway_9 : decode cX0_blowAway 9 = .ok (.iadd, 1) := by decide +kernel
theorem dX0_blowAway_10 : decode cX0_blowAway 10 = .ok (.bipush 12, 2) := by decide +kernel
theorem dX0_blowAway_12 : decode cX0_blowAway 12 = .ok (.invokestatic 55, 3) := by decide +kernel
theorem dX0_blowAway_15 : decode cX0_blowAway 15 = .ok (.istore 4, 2) := by decide +kernel
theorem dX0_blowAway_17 : decode cX0_blowAway 17 = .ok (.aload_n 0, 1) := by decide +kernel
theorem dX0_blowAway_18 : decode cX0_blowAway 18 = .ok (.getfield 9, 3) := by decide +kernel
theorem dX0_blowAway_21 : decode cX0_blowAway 21 = .ok (.iload_n 1, 1) := by decide +kernel
theorem dX0_blowAway_22 : decode cX0_blowAway 22 = .ok (.iconst 0, 1) := by decide +kernel
theorem dX0_blowAway_23 : decode cX0_blowAway 23 = .ok (.iastore, 1) := by decide +kernel
theorem dX0_blowAway_24 : decode cX0_blowAway 24 = .ok (.aload_n 0, 1) := by decide +kernel
theorem dX0_blowAway_25 : decode cX0_blowAway 25 = .ok (.getfield 9, 3) := by decide +kernel
theorem dX0_blowAway_28 : decode cX0_blowAway 28 = .ok (.iload 4, 2) := by decide +kernel
theorem dX0_blowAway_30 : decode cX0_blowAway 30 = .ok (.sipush 9999, 3) := by decide +kernel
theorem dX0_blowAway_33 : decode cX0_blowAway 33 = .ok (.aload_n 0, 1) := by decide +kernel
theorem dX0_blowAway_34 : decode cX0_blowAway 34 = .ok (.getfield 9, 3) := by decide +kernel
theorem dX0_blowAway_37 : decode cX0_blowAway 37 = .ok (.iload 4, 2) := by decide +kernel
theorem dX0_blowAway_39 : decode cX0_blowAway 39 = .ok (.iaload, 1) := by decide +kernel
theorem dX0_blowAway_40 : decode cX0_blowAway 40 = .ok (.iload_n 3, 1) := by decide +kernel
theorem dX0_blowAway_41 : decode cX0_blowAway 41 = .ok (.iadd, 1) := by decide +kernel
theorem dX0_blowAway_42 : decode cX0_blowAway 42 = .ok (.invokestatic 61, 3) := by decide +kernel
theorem dX0_blowAway_45 : decode cX0_blowAway 45 = .ok (.iastore, 1) := by decide +kernel
theorem dX0_blowAway_46 : decode cX0_blowAway 46 = .ok (.iload_n 3, 1) := by decide +kernel
theorem dX0_blowAway_47 : decode cX0_blowAway 47 = .ok (.ireturn, 1) := by decide +kernel
theorem dX0_draw_0 : decode cX0_draw 0 = .ok (.aload_n 0, 1) := by decide +kernel
theorem dX0_draw_1 : decode cX0_draw 1 = .ok (.aload_n 0, 1) := by decide +kernel
theorem dX0_draw_2 : decode cX0_draw 2 = .ok (.getfield 37, 3) := by decide +kernel
theorem dX0_draw_5 : decode cX0_draw 5 = .ok (.ldc 64, 2) := by decide +kernel
theorem dX0_draw_7 : decode cX0_draw 7 = .ok (.imul, 1) := by decide +kernel
theorem dX0_draw_8 : decode cX0_draw 8 = .ok (.sipush 12345, 3) := by decide +kernel
theorem dX0_draw_11 : decode cX0_draw 11 = .ok (.iadd, 1) := by decide +kernel
theorem dX0_draw_12 : decode cX0_draw 12 = .ok (.putfield 37, 3) := by decide +kernel
theorem dX0_draw_15 : decode cX0_draw 15 = .ok (.aload_n 0, 1) := by decide +kernel
theorem dX0_draw_16 : decode cX0_draw 16 = .ok (.getfield 37, 3) := by decide +kernel
theorem dX0_draw_19 : decode cX0_draw 19 = .ok (.bipush 8, 2) := by decide +kernel
theorem dX0_draw_21 : decode cX0_draw 21 = .ok (.iushr, 1) := by decide +kernel
theorem dX0_draw_22 : decode cX0_draw 22 = .ok (.ireturn, 1) := by decide +kernel
theorem dX0_holderOf_0 : decode cX0_holderOf 0 = .ok (.iconst (-1), 1) := by decide +kernel
theorem dX0_holderOf_1 : decode cX0_holderOf 1 = .ok (.istore_n 2, 1) := by decide +kernel
theorem dX0_holderOf_2 : decode cX0_holderOf 2 = .ok (.iconst 0, 1) := by decide +kernel
theorem dX0_holderOf_3 : decode cX0_holderOf 3 = .ok (.istore_n 3, 1) := by decide +kernel
theorem dX0_holderOf_4 : decode cX0_holderOf 4 = .ok (.iconst 0, 1) := by decide +kernel
theorem dX0_holderOf_5 : decode cX0_holderOf 5 = .ok (.istore 4, 2) := by decide +kernel
theorem dX0_holderOf_7 : decode cX0_holderOf 7 = .ok (.iload 4, 2) := by decide +kernel
theorem dX0_holderOf_9 : decode cX0_holderOf 9 = .ok (.aload_n 0, 1) := by decide +kernel
theorem dX0_holderOf_10 : decode cX0_holderOf 10 = .ok (.getfield 46, 3) := by decide +kernel
theorem dX0_holderOf_13 : decode cX0_holderOf 13 = .ok (.if_icmp .ge 35, 3) := by decide +kernel
theorem dX0_holderOf_16 : decode cX0_holderOf 16 = .ok (.aload_n 0, 1) := by decide +kernel
theorem dX0_holderOf_17 : decode cX0_holderOf 17 = .ok (.getfield 27, 3) := by decide +kernel
theorem dX0_holderOf_20 : decode cX0_holderOf 20 = .ok (.iload 4, 2) := by decide +kernel
theorem dX0_holderOf_22 : decode cX0_holderOf 22 = .ok (.bipush 12, 2) := by decide +kernel
theorem dX0_holderOf_24 : decode cX0_holderOf 24 = .ok (.imul, 1) := by decide +kernel
theorem dX0_holderOf_25 : decode cX0_holderOf 25 = .ok (.iload_n 1, 1) := by decide +kernel
theorem dX0_holderOf_26 : decode cX0_holderOf 26 = .ok (.iadd, 1) := by decide +kernel
theorem dX0_holderOf_27 : decode cX0_holderOf 27 = .ok (.iaload, 1) := by decide +kernel
theorem dX0_holderOf_28 : decode cX0_holderOf 28 = .ok (.istore 5, 2) := by decide +kernel
theorem dX0_holderOf_30 : decode cX0_holderOf 30 = .ok (.iload 5, 2) := by decide +kernel
theorem dX0_holderOf_32 : decode cX0_holderOf 32 = .ok (.iload_n 3, 1) := by decide +kernel
theorem dX0_holderOf_33 : decode cX0_holderOf 33 = .ok (.if_icmp .le 9, 3) := by decide +kernel
theorem dX0_holderOf_36 : decode cX0_holderOf 36 = .ok (.iload 5, 2) := by decide +kernel
theorem dX0_holderOf_38 : decode cX0_holderOf 38 = .ok (.istore_n 3, 1) := by decide +kernel
theorem dX0_holderOf_39 : decode cX0_holderOf 39 = .ok (.iload 4, 2) := by decide +kernel
theorem dX0_holderOf_41 : decode cX0_holderOf 41 = .ok (.istore_n 2, 1) := by decide +kernel
theorem dX0_holderOf_42 : decode cX0_holderOf 42 = .ok (.iinc 4 1, 3) := by decide +kernel
theorem dX0_holderOf_45 : decode cX0_holderOf 45 = .ok (.goto (-38), 3) := by decide +kernel
theorem dX0_holderOf_48 : decode cX0_holderOf 48 = .ok (.iload_n 2, 1) := by decide +kernel
theorem dX0_holderOf_49 : decode cX0_holderOf 49 = .ok (.ireturn, 1) := by decide +kernel
theorem dX0_greatestMark_0 : decode cX0_greatestMark 0 = .ok (.aload_n 0, 1) := by decide +kernel
theorem dX0_greatestMark_1 : decode cX0_greatestMark 1 = .ok (.iload_n 1, 1) := by decide +kernel
theorem dX0_greatestMark_2 : decode cX0_greatestMark 2 = .ok (.invokevirtual 65, 3) := by decide +kernel
theorem dX0_greatestMark_5 : decode cX0_greatestMark 5 = .ok (.istore_n 2, 1) := by decide +kernel
theorem dX0_greatestMark_6 : decode cX0_greatestMark 6 = .ok (.iload_n 2, 1) := by decide +kernel
theorem dX0_greatestMark_7 : decode cX0_greatestMark 7 = .ok (.iconst (-1), 1) := by decide +kernel
theorem dX0_greatestMark_8 : decode cX0_greatestMark 8 = .ok (.if_icmp .ne 7, 3) := by decide +kernel
theorem dX0_greatestMark_11 : decode cX0_greatestMark 11 = .ok (.iconst 0, 1) := by decide +kernel
theorem dX0_greatestMark_12 : decode cX0_greatestMark 12 = .ok (.goto 14, 3) := by decide +kernel
theorem dX0_greatestMark_15 : decode cX0_greatestMark 15 = .ok (.aload_n 0, 1) := by decide +kernel
theorem dX0_greatestMark_16 : decode cX0_greatestMark 16 = .ok (.getfield 27, 3) := by decide +kernel
theorem dX0_greatestMark_19 : decode cX0_greatestMark 19 = .ok (.iload_n 2, 1) := by decide +kernel
theorem dX0_greatestMark_20 : decode cX0_greatestMark 20 = .ok (.bipush 12, 2) := by decide +kernel
theorem dX0_greatestMark_22 : decode cX0_greatestMark 22 = .ok (.imul, 1) := by decide +kernel
theorem dX0_greatestMark_23 : decode cX0_greatestMark 23 = .ok (.iload_n 1, 1) := by decide +kernel
theorem dX0_greatestMark_24 : decode cX0_greatestMark 24 = .ok (.iadd, 1) := by decide +kernel
theorem dX0_greatestMark_25 : decode cX0_greatestMark 25 = .ok (.iaload, 1) := by decide +kernel
theorem dX0_greatestMark_26 : decode cX0_greatestMark 26 = .ok (.ireturn, 1) := by decide +kernel
theorem dX0_sittersAt_0 : decode cX0_sittersAt 0 = .ok (.iconst 0, 1) := by decide +kernel
theorem dX0_sittersAt_1 : decode cX0_sittersAt 1 = .ok (.istore_n 2, 1) := by decide +kernel
theorem dX0_sittersAt_2 : decode cX0_sittersAt 2 = .ok (.iconst 0, 1) := by decide +kernel
theorem dX0_sittersAt_3 : decode cX0_sittersAt 3 = .ok (.istore_n 3, 1) := by decide +kernel
theorem dX0_sittersAt_4 : decode cX0_sittersAt 4 = .ok (.iload_n 3, 1) := by decide +kernel
theorem dX0_sittersAt_5 : decode cX0_sittersAt 5 = .ok (.aload_n 0, 1) := by decide +kernel
theorem dX0_sittersAt_6 : decode cX0_sittersAt 6 = .ok (.getfield 46, 3) := by decide +kernel
theorem dX0_sittersAt_9 : decode cX0_sittersAt 9 = .ok (.if_icmp .ge 25, 3) := by decide +kernel
theorem dX0_sittersAt_12 : decode cX0_sittersAt 12 = .ok (.aload_n 0, 1) := by decide +kernel
theorem dX0_sittersAt_13 : decode cX0_sittersAt 13 = .ok (.getfield 21, 3) := by decide +kernel
theorem dX0_sittersAt_16 : decode cX0_sittersAt 16 = .ok (.iload_n 3, 1) := by decide +kernel
theorem dX0_sittersAt_17 : decode cX0_sittersAt 17 = .ok (.iaload, 1) := by decide +kernel
theorem dX0_sittersAt_18 : decode cX0_sittersAt 18 = .ok (.iload_n 1, 1) := by decide +kernel
theorem dX0_sittersAt_19 : decode cX0_sittersAt 19 = .ok (.if_icmp .ne 9, 3) := by decide +kernel
theorem dX0_sittersAt_22 : decode cX0_sittersAt 22 = .ok (.iload_n 2, 1) := by decide +kernel
theorem dX0_sittersAt_23 : decode cX0_sittersAt 23 = .ok (.iconst 1, 1) := by decide +kernel
theorem dX0_sittersAt_24 : decode cX0_sittersAt 24 = .ok (.iload_n 3, 1) := by decide +kernel
theorem dX0_sittersAt_25 : decode cX0_sittersAt 25 = .ok (.ishl, 1) := by decide +kernel
theorem dX0_sittersAt_26 : decode cX0_sittersAt 26 = .ok (.ior, 1) := by decide +kernel
theorem dX0_sittersAt_27 : decode cX0_sittersAt 27 = .ok (.istore_n 2, 1) := by decide +kernel
theorem dX0_sittersAt_28 : decode cX0_sittersAt 28 = .ok (.iinc 3 1, 3) := by decide +kernel
theorem dX0_sittersAt_31 : decode cX0_sittersAt 31 = .ok (.goto (-27), 3) := by decide +kernel
theorem dX0_sittersAt_34 : decode cX0_sittersAt 34 = .ok (.iload_n 2, 1) := by decide +kernel
theorem dX0_sittersAt_35 : decode cX0_sittersAt 35 = .ok (.ireturn, 1) := by decide +kernel
theorem dX0_heldBy_0 : decode cX0_heldBy 0 = .ok (.iconst 0, 1) := by decide +kernel
theorem dX0_heldBy_1 : decode cX0_heldBy 1 = .ok (.istore_n 2, 1) := by decide +kernel
theorem dX0_heldBy_2 : decode cX0_heldBy 2 = .ok (.iconst 0, 1) := by decide +kernel
theorem dX0_heldBy_3 : decode cX0_heldBy 3 = .ok (.istore_n 3, 1) := by decide +kernel
theorem dX0_heldBy_4 : decode cX0_heldBy 4 = .ok (.iload_n 3, 1) := by decide +kernel
theorem dX0_heldBy_5 : decode cX0_heldBy 5 = .ok (.bipush 12, 2) := by decide +kernel
theorem dX0_heldBy_7 : decode cX0_heldBy 7 = .ok (.if_icmp .ge 24, 3) := by decide +kernel
theorem dX0_heldBy_10 : decode cX0_heldBy 10 = .ok (.aload_n 0, 1) := by decide +kernel
theorem dX0_heldBy_11 : decode cX0_heldBy 11 = .ok (.iload_n 3, 1) := by decide +kernel
theorem dX0_heldBy_12 : decode cX0_heldBy 12 = .ok (.invokevirtual 65, 3) := by decide +kernel
theorem dX0_heldBy_15 : decode cX0_heldBy 15 = .ok (.iload_n 1, 1) := by decide +kernel
theorem dX0_heldBy_16 : decode cX0_heldBy 16 = .ok (.if_icmp .ne 9, 3) := by decide +kernel
theorem dX0_heldBy_19 : decode cX0_heldBy 19 = .ok (.iload_n 2, 1) := by decide +kernel
theorem dX0_heldBy_20 : decode cX0_heldBy 20 = .ok (.iconst 1, 1) := by decide +kernel
theorem dX0_heldBy_21 : decode cX0_heldBy 21 = .ok (.iload_n 3, 1) := by decide +kernel
theorem dX0_heldBy_22 : decode cX0_heldBy 22 = .ok (.ishl, 1) := by decide +kernel
theorem dX0_heldBy_23 : decode cX0_heldBy 23 = .ok (.ior, 1) := by decide +kernel
theorem dX0_heldBy_24 : decode cX0_heldBy 24 = .ok (.istore_n 2, 1) := by decide +kernel
theorem dX0_heldBy_25 : decode cX0_heldBy 25 = .ok (.iinc 3 1, 3) := by decide +kernel
theorem dX0_heldBy_28 : decode cX0_heldBy 28 = .ok (.goto (-24), 3) := by decide +kernel
theorem dX0_heldBy_31 : decode cX0_heldBy 31 = .ok (.iload_n 2, 1) := by decide +kernel
theorem dX0_heldBy_32 : decode cX0_heldBy 32 = .ok (.ireturn, 1) := by decide +kernel
theorem dX0_heldSurfaces_0 : decode cX0_heldSurfaces 0 = .ok (.sipush 4095, 3) := by decide +kernel
theorem dX0_heldSurfaces_3 : decode cX0_heldSurfaces 3 = .ok (.aload_n 0, 1) := by decide +kernel
theorem dX0_heldSurfaces_4 : decode cX0_heldSurfaces 4 = .ok (.iconst (-1), 1) := by decide +kernel
theorem dX0_heldSurfaces_5 : decode cX0_heldSurfaces 5 = .ok (.invokevirtual 69, 3) := by decide +kernel
theorem dX0_heldSurfaces_8 : decode cX0_heldSurfaces 8 = .ok (.iconst (-1), 1) := by decide +kernel
theorem dX0_heldSurfaces_9 : decode cX0_heldSurfaces 9 = .ok (.ixor, 1) := by decide +kernel
theorem dX0_heldSurfaces_10 : decode cX0_heldSurfaces 10 = .ok (.iand, 1) := by decide +kernel
theorem dX0_heldSurfaces_11 : decode cX0_heldSurfaces 11 = .ok (.ireturn, 1) := by decide +kernel
theorem dX0_landless_0 : decode cX0_landless 0 = .ok (.iconst 1, 1) := by decide +kernel
theorem dX0_landless_1 : decode cX0_landless 1 = .ok (.aload_n 0, 1) := by decide +kernel
theorem dX0_landless_2 : decode cX0_landless 2 = .ok (.getfield 46, 3) := by decide +kernel
theorem dX0_landless_5 : decode cX0_landless 5 = .ok (.ishl, 1) := by decide +kernel
theorem dX0_landless_6 : decode cX0_landless 6 = .ok (.iconst 1, 1) := by decide +kernel
theorem dX0_landless_7 : decode cX0_landless 7 = .ok (.isub, 1) := by decide +kernel
theorem dX0_landless_8 : decode cX0_landless 8 = .ok (.istore_n 1, 1) := by decide +kernel
theorem dX0_landless_9 : decode cX0_landless 9 = .ok (.iconst 0, 1) := by decide +kernel
theorem dX0_landless_10 : decode cX0_landless 10 = .ok (.istore_n 2, 1) := by decide +kernel
theorem dX0_landless_11 : decode cX0_landless 11 = .ok (.iload_n 2, 1) := by decide +kernel
theorem dX0_landless_12 : decode cX0_landless 12 = .ok (.bipush 12, 2) := by decide +kernel
theorem dX0_landless_14 : decode cX0_landless 14 = .ok (.if_icmp .ge 28, 3) := by decide +kernel
theorem dX0_landless_17 : decode cX0_landless 17 = .ok (.aload_n 0, 1) := by decide +kernel
theorem dX0_landless_18 : decode cX0_landless 18 = .ok (.iload_n 2, 1) := by decide +kernel
theorem dX0_landless_19 : decode cX0_landless 19 = .ok (.invokevirtual 65, 3) := by decide +kernel
theorem dX0_landless_22 : decode cX0_landless 22 = .ok (.istore_n 3, 1) := by decide +kernel
theorem dX0_landless_23 : decode cX0_landless 23 = .ok (.iload_n 3, 1) := by decide +kernel
theorem dX0_landless_24 : decode cX0_landless 24 = .ok (.iconst (-1), 1) := by decide +kernel
theorem dX0_landless_25 : decode cX0_landless 25 = .ok (.if_icmp .eq 11, 3) := by decide +kernel
theorem dX0_landless_28 : decode cX0_landless 28 = .ok (.iload_n 1, 1) := by decide +kernel
theorem dX0_landless_29 : decode cX0_landless 29 = .ok (.iconst 1, 1) := by decide +kernel
theorem dX0_landless_30 : decode cX0_landless 30 = .ok (.iload_n 3, 1) := by decide +kernel
theorem dX0_landless_31 : decode cX0_landless 31 = .ok (.ishl, 1) := by decide +kernel
theorem dX0_landless_32 : decode cX0_landless 32 = .ok (.iconst (-1), 1) := by decide +kernel
theorem dX0_landless_33 : decode cX0_landless 33 = .ok (.ixor, 1) := by decide +kernel
theorem dX0_landless_34 : decode cX0_landless 34 = .ok (.iand, 1) := by decide +kernel
theorem dX0_landless_35 : decode cX0_landless 35 = .ok (.istore_n 1, 1) := by decide +kernel
theorem dX0_landless_36 : decode cX0_landless 36 = .ok (.iinc 2 1, 3) := by decide +kernel
theorem dX0_landless_39 : decode cX0_landless 39 = .ok (.goto (-28), 3) := by decide +kernel
theorem dX0_landless_42 : decode cX0_landless 42 = .ok (.iload_n 1, 1) := by decide +kernel
theorem dX0_landless_43 : decode cX0_landless 43 = .ok (.ireturn, 1) := by decide +kernel
theorem dX0_isHeldLike_0 : decode cX0_isHeldLike 0 = .ok (.iconst 0, 1) := by decide +kernel
theorem dX0_isHeldLike_1 : decode cX0_isHeldLike 1 = .ok (.istore_n 2, 1) := by decide +kernel
theorem dX0_isHeldLike_2 : decode cX0_isHeldLike 2 = .ok (.iload_n 2, 1) := by decide +kernel
theorem dX0_isHeldLike_3 : decode cX0_isHeldLike 3 = .ok (.bipush 12, 2) := by decide +kernel
theorem dX0_isHeldLike_5 : decode cX0_isHeldLike 5 = .ok (.if_icmp .ge 24, 3) := by decide +kernel
theorem dX0_isHeldLike_8 : decode cX0_isHeldLike 8 = .ok (.aload_n 0, 1) := by decide +kernel
theorem dX0_isHeldLike_9 : decode cX0_isHeldLike 9 = .ok (.iload_n 2, 1) := by decide +kernel
theorem dX0_isHeldLike_10 : decode cX0_isHeldLike 10 = .ok (.invokevirtual 65, 3) := by decide +kernel
theorem dX0_isHeldLike_13 : decode cX0_isHeldLike 13 = .ok (.aload_n 1, 1) := by decide +kernel
theorem dX0_isHeldLike_14 : decode cX0_isHeldLike 14 = .ok (.iload_n 2, 1) := by decide +kernel
theorem dX0_isHeldLike_15 : decode cX0_isHeldLike 15 = .ok (.invokevirtual 65, 3) := by decide +kernel
theorem dX0_isHeldLike_18 : decode cX0_isHeldLike 18 = .ok (.if_icmp .eq 5, 3) := by decide +kernel
theorem dX0_isHeldLike_21 : decode cX0_isHeldLike 21 = .ok (.iconst 0, 1) := by decide +kernel
theorem dX0_isHeldLike_22 : decode cX0_isHeldLike 22 = .ok (.ireturn, 1) := by decide +kernel
theorem dX0_isHeldLike_23 : decode cX0_isHeldLike 23 = .ok (.iinc 2 1, 3) := by decide +kernel
theorem dX0_isHeldLike_26 : decode cX0_isHeldLike 26 = .ok (.goto (-24), 3) := by decide +kernel
theorem dX0_isHeldLike_29 : decode cX0_isHeldLike 29 = .ok (.iconst 1, 1) := by decide +kernel
theorem dX0_isHeldLike_30 : decode cX0_isHeldLike 30 = .ok (.ireturn, 1) := by decide +kernel
theorem dX0_marksOf_0 : decode cX0_marksOf 0 = .ok (.iconst 0, 1) := by decide +kernel
theorem dX0_marksOf_1 : decode cX0_marksOf 1 = .ok (.istore_n 2, 1) := by decide +kernel
theorem dX0_marksOf_2 : decode cX0_marksOf 2 = .ok (.iconst 0, 1) := by decide +kernel
theorem dX0_marksOf_3 : decode cX0_marksOf 3 = .ok (.istore_n 3, 1) := by decide +kernel
theorem dX0_marksOf_4 : decode cX0_marksOf 4 = .ok (.iload_n 3, 1) := by decide +kernel
theorem dX0_marksOf_5 : decode cX0_marksOf 5 = .ok (.bipush 12, 2) := by decide +kernel
theorem dX0_marksOf_7 : decode cX0_marksOf 7 = .ok (.if_icmp .ge 23, 3) := by decide +kernel
theorem dX0_marksOf_10 : decode cX0_marksOf 10 = .ok (.iload_n 2, 1) := by decide +kernel
theorem dX0_marksOf_11 : decode cX0_marksOf 11 = .ok (.aload_n 0, 1) := by decide +kernel
theorem dX0_marksOf_12 : decode cX0_marksOf 12 = .ok (.getfield 27, 3) := by decide +kernel
theorem dX0_marksOf_15 : decode cX0_marksOf 15 = .ok (.iload_n 1, 1) := by decide +kernel
theorem dX0_marksOf_16 : decode cX0_marksOf 16 = .ok (.bipush 12, 2) := by decide +kernel
theorem dX0_marksOf_18 : decode cX0_marksOf 18 = .ok (.imul, 1) := by decide +kernel
theorem dX0_marksOf_19 : decode cX0_marksOf 19 = .ok (.iload_n 3, 1) := by decide +kernel
theorem dX0_marksOf_20 : decode cX0_marksOf 20 = .ok (.iadd, 1) := by decide +kernel
theorem dX0_marksOf_21 : decode cX0_marksOf 21 = .ok (.iaload, 1) := by decide +kernel
theorem dX0_marksOf_22 : decode cX0_marksOf 22 = .ok (.iadd, 1) := by decide +kernel
theorem dX0_marksOf_23 : decode cX0_marksOf 23 = .ok (.istore_n 2, 1) := by decide +kernel
theorem dX0_marksOf_24 : decode cX0_marksOf 24 = .ok (.iinc 3 1, 3) := by decide +kernel
theorem dX0_marksOf_27 : decode cX0_marksOf 27 = .ok (.goto (-23), 3) := by decide +kernel
theorem dX0_marksOf_30 : decode cX0_marksOf 30 = .ok (.iload_n 2, 1) := by decide +kernel
theorem dX0_marksOf_31 : decode cX0_marksOf 31 = .ok (.ireturn, 1) := by decide +kernel
theorem dX0_richest_0 : decode cX0_richest 0 = .ok (.iconst (-1), 1) := by decide +kernel
theorem dX0_richest_1 : decode cX0_richest 1 = .ok (.istore_n 1, 1) := by decide +kernel
theorem dX0_richest_2 : decode cX0_richest 2 = .ok (.iconst 0, 1) := by decide +kernel
theorem dX0_richest_3 : decode cX0_richest 3 = .ok (.istore_n 2, 1) := by decide +kernel
theorem dX0_richest_4 : decode cX0_richest 4 = .ok (.iload_n 2, 1) := by decide +kernel
theorem dX0_richest_5 : decode cX0_richest 5 = .ok (.aload_n 0, 1) := by decide +kernel
theorem dX0_richest_6 : decode cX0_richest 6 = .ok (.getfield 46, 3) := by decide +kernel
theorem dX0_richest_9 : decode cX0_richest 9 = .ok (.if_icmp .ge 31, 3) := by decide +kernel
theorem dX0_richest_12 : decode cX0_richest 12 = .ok (.iload_n 1, 1) := by decide +kernel
theorem dX0_richest_13 : decode cX0_richest 13 = .ok (.iconst (-1), 1) := by decide +kernel
theorem dX0_richest_14 : decode cX0_richest 14 = .ok (.if_icmp .eq 18, 3) := by decide +kernel
theorem dX0_richest_17 : decode cX0_richest 17 = .ok (.aload_n 0, 1) := by decide +kernel
theorem dX0_richest_18 : decode cX0_richest 18 = .ok (.getfield 24, 3) := by decide +kernel
theorem dX0_richest_21 : decode cX0_richest 21 = .ok (.iload_n 2, 1) := by decide +kernel
theorem dX0_richest_22 : decode cX0_richest 22 = .ok (.iaload, 1) := by decide +kernel
theorem dX0_richest_23 : decode cX0_richest 23 = .ok (.aload_n 0, 1) := by decide +kernel
theorem dX0_richest_24 : decode cX0_richest 24 = .ok (.getfield 24, 3) := by decide +kernel
theorem dX0_richest_27 : decode cX0_richest 27 = .ok (.iload_n 1, 1) := by decide +kernel
theorem dX0_richest_28 : decode cX0_richest 28 = .ok (.iaload, 1) := by decide +kernel
theorem dX0_richest_29 : decode cX0_richest 29 = .ok (.if_icmp .le 5, 3) := by decide +kernel
theorem dX0_richest_32 : decode cX0_richest 32 = .ok (.iload_n 2, 1) := by decide +kernel
theorem dX0_richest_33 : decode cX0_richest 33 = .ok (.istore_n 1, 1) := by decide +kernel
theorem dX0_richest_34 : decode cX0_richest 34 = .ok (.iinc 2 1, 3) := by decide +kernel
theorem dX0_richest_37 : decode cX0_richest 37 = .ok (.goto (-33), 3) := by decide +kernel
theorem dX0_richest_40 : decode cX0_richest 40 = .ok (.iload_n 1, 1) := by decide +kernel
theorem dX0_richest_41 : decode cX0_richest 41 = .ok (.ireturn, 1) := by decide +kernel
theorem dX0_allDust_0 : decode cX0_allDust 0 = .ok (.aload_n 0, 1) := by decide +kernel
theorem dX0_allDust_1 : decode cX0_allDust 1 = .ok (.getfield 9, 3) := by decide +kernel
theorem dX0_allDust_4 : decode cX0_allDust 4 = .ok (.invokestatic 72, 3) := by decide +kernel
theorem dX0_allDust_7 : decode cX0_allDust 7 = .ok (.ireturn, 1) := by decide +kernel
theorem dX0_allGoods_0 : decode cX0_allGoods 0 = .ok (.iconst 0, 1) := by decide +kernel
theorem dX0_allGoods_1 : decode cX0_allGoods 1 = .ok (.istore_n 1, 1) := by decide +kernel
theorem dX0_allGoods_2 : decode cX0_allGoods 2 = .ok (.iconst 0, 1) := by decide +kernel
theorem dX0_allGoods_3 : decode cX0_allGoods 3 = .ok (.istore_n 2, 1) := by decide +kernel
theorem dX0_allGoods_4 : decode cX0_allGoods 4 = .ok (.iload_n 2, 1) := by decide +kernel
theorem dX0_allGoods_5 : decode cX0_allGoods 5 = .ok (.aload_n 0, 1) := by decide +kernel
theorem dX0_allGoods_6 : decode cX0_allGoods 6 = .ok (.getfield 46, 3) := by decide +kernel
theorem dX0_allGoods_9 : decode cX0_allGoods 9 = .ok (.if_icmp .ge 18, 3) := by decide +kernel
theorem dX0_allGoods_12 : decode cX0_allGoods 12 = .ok (.iload_n 1, 1) := by decide +kernel
theorem dX0_allGoods_13 : decode cX0_allGoods 13 = .ok (.aload_n 0, 1) := by decide +kernel
theorem dX0_allGoods_14 : decode cX0_allGoods 14 = .ok (.getfield 24, 3) := by decide +kernel
theorem dX0_allGoods_17 : decode cX0_allGoods 17 = .ok (.iload_n 2, 1) := by decide +kernel
theorem dX0_allGoods_18 : decode cX0_allGoods 18 = .ok (.iaload, 1) := by decide +kernel
theorem dX0_allGoods_19 : decode cX0_allGoods 19 = .ok (.iadd, 1) := by decide +kernel
theorem dX0_allGoods_20 : decode cX0_allGoods 20 = .ok (.istore_n 1, 1) := by decide +kernel
theorem dX0_allGoods_21 : decode cX0_allGoods 21 = .ok (.iinc 2 1, 3) := by decide +kernel
theorem dX0_allGoods_24 : decode cX0_allGoods 24 = .ok (.goto (-20), 3) := by decide +kernel
theorem dX0_allGoods_27 : decode cX0_allGoods 27 = .ok (.iload_n 1, 1) := by decide +kernel
theorem dX0_allGoods_28 : decode cX0_allGoods 28 = .ok (.ireturn, 1) := by decide +kernel
theorem dX0_usedSpots_0 : decode cX0_usedSpots 0 = .ok (.iconst 0, 1) := by decide +kernel
theorem dX0_usedSpots_1 : decode cX0_usedSpots 1 = .ok (.istore_n 1, 1) := by decide +kernel
theorem dX0_usedSpots_2 : decode cX0_usedSpots 2 = .ok (.aload_n 0, 1) := by decide +kernel
theorem dX0_usedSpots_3 : decode cX0_usedSpots 3 = .ok (.getfield 30, 3) := by decide +kernel
theorem dX0_usedSpots_6 : decode cX0_usedSpots 6 = .ok (.astore_n 2, 1) := by decide +kernel
theorem dX0_usedSpots_7 : decode cX0_usedSpots 7 = .ok (.aload_n 2, 1) := by decide +kernel
theorem dX0_usedSpots_8 : decode cX0_usedSpots 8 = .ok (.arraylength, 1) := by decide +kernel
theorem dX0_usedSpots_9 : decode cX0_usedSpots 9 = .ok (.istore_n 3, 1) := by decide +kernel
theorem dX0_usedSpots_10 : decode cX0_usedSpots 10 = .ok (.iconst 0, 1) := by decide +kernel
theorem dX0_usedSpots_11 : decode cX0_usedSpots 11 = .ok (.istore 4, 2) := by decide +kernel
theorem dX0_usedSpots_13 : decode cX0_usedSpots 13 = .ok (.iload 4, 2) := by decide +kernel
theorem dX0_usedSpots_15 : decode cX0_usedSpots 15 = .ok (.iload_n 3, 1) := by decide +kernel
theorem dX0_usedSpots_16 : decode cX0_usedSpots 16 = .ok (.if_icmp .ge 24, 3) := by decide +kernel
theorem dX0_usedSpots_19 : decode cX0_usedSpots 19 = .ok (.aload_n 2, 1) := by decide +kernel
theorem dX0_usedSpots_20 : decode cX0_usedSpots 20 = .ok (.iload 4, 2) := by decide +kernel
theorem dX0_usedSpots_22 : decode cX0_usedSpots 22 = .ok (.iaload, 1) := by decide +kernel
theorem dX0_usedSpots_23 : decode cX0_usedSpots 23 = .ok (.istore 5, 2) := by decide +kernel
theorem dX0_usedSpots_25 : decode cX0_usedSpots 25 = .ok (.iload 5, 2) := by decide +kernel
theorem dX0_usedSpots_27 : decode cX0_usedSpots 27 = .ok (.iconst (-1), 1) := by decide +kernel
theorem dX0_usedSpots_28 : decode cX0_usedSpots 28 = .ok (.if_icmp .eq 6, 3) := by decide +kernel
theorem dX0_usedSpots_31 : decode cX0_usedSpots 31 = .ok (.iinc 1 1, 3) := by decide +kernel
theorem dX0_usedSpots_34 : decode cX0_usedSpots 34 = .ok (.iinc 4 1, 3) := by decide +kernel
theorem dX0_usedSpots_37 : decode cX0_usedSpots 37 = .ok (.goto (-24), 3) := by decide +kernel
theorem dX0_usedSpots_40 : decode cX0_usedSpots 40 = .ok (.iload_n 1, 1) := by decide +kernel
theorem dX0_usedSpots_41 : decode cX0_usedSpots 41 = .ok (.ireturn, 1) := by decide +kernel
theorem dX0_leavesOf_0 : decode cX0_leavesOf 0 = .ok (.aload_n 0, 1) := by decide +kernel
theorem dX0_leavesOf_1 : decode cX0_leavesOf 1 = .ok (.getfield 18, 3) := by decide +kernel
theorem dX0_leavesOf_4 : decode cX0_leavesOf 4 = .ok (.iload_n 1, 1) := by decide +kernel
theorem dX0_leavesOf_5 : decode cX0_leavesOf 5 = .ok (.iaload, 1) := by decide +kernel
theorem dX0_leavesOf_6 : decode cX0_leavesOf 6 = .ok (.istore_n 2, 1) := by decide +kernel
theorem dX0_leavesOf_7 : decode cX0_leavesOf 7 = .ok (.getstatic 76, 3) := by decide +kernel
theorem dX0_leavesOf_10 : decode cX0_leavesOf 10 = .ok (.iload_n 2, 1) := by decide +kernel
theorem dX0_leavesOf_11 : decode cX0_leavesOf 11 = .ok (.iaload, 1) := by decide +kernel
theorem dX0_leavesOf_12 : decode cX0_leavesOf 12 = .ok (.istore_n 3, 1) := by decide +kernel
theorem dX0_leavesOf_13 : decode cX0_leavesOf 13 = .ok (.iload_n 2, 1) := by decide +kernel
theorem dX0_leavesOf_14 : decode cX0_leavesOf 14 = .ok (.iconst 3, 1) := by decide +kernel
theorem dX0_leavesOf_15 : decode cX0_leavesOf 15 = .ok (.if_icmp .eq 8, 3) := by decide +kernel
theorem dX0_leavesOf_18 : decode cX0_leavesOf 18 = .ok (.iload_n 2, 1) := by decide +kernel
theorem dX0_leavesOf_19 : decode cX0_leavesOf 19 = .ok (.iconst 4, 1) := by decide +kernel
theorem dX0_leavesOf_20 : decode cX0_leavesOf 20 = .ok (.if_icmp .ne 22, 3) := by decide +kernel
theorem dX0_leavesOf_23 : decode cX0_leavesOf 23 = .ok (.aload_n 0, 1) := by decide +kernel
theorem dX0_leavesOf_24 : decode cX0_leavesOf 24 = .ok (.getfield 9, 3) := by decide +kernel
theorem dX0_leavesOf_27 : decode cX0_leavesOf 27 = .ok (.aload_n 0, 1) := by decide +kernel
theorem dX0_leavesOf_28 : decode cX0_leavesOf 28 = .ok (.getfield 21, 3) := by decide +kernel
theorem dX0_leavesOf_31 : decode cX0_leavesOf 31 = .ok (.iload_n 1, 1) := by decide +kernel
theorem dX0_leavesOf_32 : decode cX0_leavesOf 32 = .ok (.iaload, 1) := by decide +kernel
theorem dX0_leavesOf_33 : decode cX0_leavesOf 33 = .ok (.iaload, 1) := by decide +kernel
theorem dX0_leavesOf_34 : decode cX0_leavesOf 34 = .ok (.bipush 100, 2) := by decide +kernel
theorem dX0_leavesOf_36 : decode cX0_leavesOf 36 = .ok (.if_icmp .lt 6, 3) := by decide +kernel
theorem dX0_leavesOf_39 : decode cX0_leavesOf 39 = .ok (.iinc 3 4, 3) := by decide +kernel
theorem dX0_leavesOf_42 : decode cX0_leavesOf 42 = .ok (.iload_n 2, 1) := by decide +kernel
theorem dX0_leavesOf_43 : decode cX0_leavesOf 43 = .ok (.iconst 4, 1) := by decide +kernel
theorem dX0_leavesOf_44 : decode cX0_leavesOf 44 = .ok (.if_icmp .ne 16, 3) := by decide +kernel
theorem dX0_leavesOf_47 : decode cX0_leavesOf 47 = .ok (.iload_n 3, 1) := by decide +kernel
theorem dX0_leavesOf_48 : decode cX0_leavesOf 48 = .ok (.aload_n 0, 1) := by decide +kernel
theorem dX0_leavesOf_49 : decode cX0_leavesOf 49 = .ok (.getfield 24, 3) := by decide +kernel
theorem dX0_leavesOf_52 : decode cX0_leavesOf 52 = .ok (.iload_n 1, 1) := by decide +kernel
theorem dX0_leavesOf_53 : decode cX0_leavesOf 53 = .ok (.iaload, 1) := by decide +kernel
theorem dX0_leavesOf_54 : decode cX0_leavesOf 54 = .ok (.sipush 1000, 3) := by decide +kernel
theorem dX0_leavesOf_57 : decode cX0_leavesOf 57 = .ok (.idiv, 1) := by decide +kernel
theorem dX0_leavesOf_58 : decode cX0_leavesOf 58 = .ok (.iadd, 1) := by decide +kernel
theorem dX0_leavesOf_59 : decode cX0_leavesOf 59 = .ok (.istore_n 3, 1) := by decide +kernel
theorem dX0_leavesOf_60 : decode cX0_leavesOf 60 = .ok (.iload_n 3, 1) := by decide +kernel
theorem dX0_leavesOf_61 : decode cX0_leavesOf 61 = .ok (.ireturn, 1) := by decide +kernel
theorem dX0_passDays_0 : decode cX0_passDays 0 = .ok (.iconst 0, 1) := by decide +kernel
theorem dX0_passDays_1 : decode cX0_passDays 1 = .ok (.istore_n 2, 1) := by decide +kernel
theorem dX0_passDays_2 : decode cX0_passDays 2 = .ok (.iload_n 2, 1) := by decide +kernel
theorem dX0_passDays_3 : decode cX0_passDays 3 = .ok (.iload_n 1, 1) := by decide +kernel
theorem dX0_passDays_4 : decode cX0_passDays 4 = .ok (.if_icmp .ge 13, 3) := by decide +kernel
theorem dX0_passDays_7 : decode cX0_passDays 7 = .ok (.aload_n 0, 1) := by decide +kernel
theorem dX0_passDays_8 : decode cX0_passDays 8 = .ok (.invokevirtual 79, 3) := by decide +kernel
theorem dX0_passDays_11 : decode cX0_passDays 11 = .ok (.iinc 2 1, 3) := by decide +kernel
theorem dX0_passDays_14 : decode cX0_passDays 14 = .ok (.goto (-12), 3) := by decide +kernel
theorem dX0_passDays_17 : decode cX0_passDays 17 = .ok (.return_, 1) := by decide +kernel
theorem dX0_passDay_0 : decode cX0_passDay 0 = .ok (.aload_n 0, 1) := by decide +kernel
theorem dX0_passDay_1 : decode cX0_passDay 1 = .ok (.sipush 255, 3) := by decide +kernel
theorem dX0_passDay_4 : decode cX0_passDay 4 = .ok (.invokevirtual 82, 3) := by decide +kernel
theorem dX0_passDay_7 : decode cX0_passDay 7 = .ok (.aload_n 0, 1) := by decide +kernel
theorem dX0_passDay_8 : decode cX0_passDay 8 = .ok (.invokevirtual 86, 3) := by decide +kernel
theorem dX0_passDay_11 : decode cX0_passDay 11 = .ok (.aload_n 0, 1) := by decide +kernel
theorem dX0_passDay_12 : decode cX0_passDay 12 = .ok (.invokevirtual 89, 3) := by decide +kernel
theorem dX0_passDay_15 : decode cX0_passDay 15 = .ok (.aload_n 0, 1) := by decide +kernel
theorem dX0_passDay_16 : decode cX0_passDay 16 = .ok (.ldc 92, 2) := by decide +kernel
theorem dX0_passDay_18 : decode cX0_passDay 18 = .ok (.aload_n 0, 1) := by decide +kernel
theorem dX0_passDay_19 : decode cX0_passDay 19 = .ok (.getfield 52, 3) := by decide +kernel
theorem dX0_passDay_22 : decode cX0_passDay 22 = .ok (.iconst 1, 1) := by decide +kernel
theorem dX0_passDay_23 : decode cX0_passDay 23 = .ok (.iadd, 1) := by decide +kernel
theorem dX0_passDay_24 : decode cX0_passDay 24 = .ok (.invokestatic 61, 3) := by decide +kernel
theorem dX0_passDay_27 : decode cX0_passDay 27 = .ok (.putfield 52, 3) := by decide +kernel
theorem dX0_passDay_30 : decode cX0_passDay 30 = .ok (.return_, 1) := by decide +kernel
theorem dX0_settleDays_0 : decode cX0_settleDays 0 = .ok (.iconst 0, 1) := by decide +kernel
theorem dX0_settleDays_1 : decode cX0_settleDays 1 = .ok (.istore_n 3, 1) := by decide +kernel
theorem dX0_settleDays_2 : decode cX0_settleDays 2 = .ok (.iload_n 3, 1) := by decide +kernel
theorem dX0_settleDays_3 : decode cX0_settleDays 3 = .ok (.iload_n 1, 1) := by decide +kernel
theorem dX0_settleDays_4 : decode cX0_settleDays 4 = .ok (.if_icmp .ge 14, 3) := by decide +kernel
theorem dX0_settleDays_7 : decode cX0_settleDays 7 = .ok (.aload_n 0, 1) := by decide +kernel
theorem dX0_settleDays_8 : decode cX0_settleDays 8 = .ok (.iload_n 2, 1) := by decide +kernel
theorem dX0_settleDays_9 : decode cX0_settleDays 9 = .ok (.invokevirtual 82, 3) := by decide +kernel
theorem dX0_settleDays_12 : decode cX0_settleDays 12 = .ok (.iinc 3 1, 3) := by decide +kernel
theorem dX0_settleDays_15 : decode cX0_settleDays 15 = .ok (.goto (-13), 3) := by decide +kernel
theorem dX0_settleDays_18 : decode cX0_settleDays 18 = .ok (.return_, 1) := by decide +kernel
theorem dX0_settle_0 : decode cX0_settle 0 = .ok (.aload_n 0, 1) := by decide +kernel
theorem dX0_settle_1 : decode cX0_settle 1 = .ok (.invokevirtual 93, 3) := by decide +kernel
theorem dX0_settle_4 : decode cX0_settle 4 = .ok (.iconst 0, 1) := by decide +kernel
theorem dX0_settle_5 : decode cX0_settle 5 = .ok (.istore_n 2, 1) := by decide +kernel
theorem dX0_settle_6 : decode cX0_settle 6 = .ok (.iload_n 2, 1) := by decide +kernel
theorem dX0_settle_7 : decode cX0_settle 7 = .ok (.bipush 12, 2) := by decide +kernel
theorem dX0_settle_9 : decode cX0_settle 9 = .ok (.if_icmp .ge 32, 3) := by decide +kernel
theorem dX0_settle_12 : decode cX0_settle 12 = .ok (.aload_n 0, 1) := by decide +kernel
theorem dX0_settle_13 : decode cX0_settle 13 = .ok (.getfield 9, 3) := by decide +kernel
theorem dX0_settle_16 : decode cX0_settle 16 = .ok (.iload_n 2, 1) := by decide +kernel
theorem dX0_settle_17 : decode cX0_settle 17 = .ok (.sipush 9999, 3) := by decide +kernel
theorem dX0_settle_20 : decode cX0_settle 20 = .ok (.aload_n 0, 1) := by decide +kernel
theorem dX0_settle_21 : decode cX0_settle 21 = .ok (.getfield 9, 3) := by decide +kernel
theorem dX0_settle_24 : decode cX0_settle 24 = .ok (.iload_n 2, 1) := by decide +kernel
theorem dX0_settle_25 : decode cX0_settle 25 = .ok (.iaload, 1) := by decide +kernel
theorem dX0_settle_26 : decode cX0_settle 26 = .ok (.aload_n 0, 1) := by decide +kernel
theorem dX0_settle_27 : decode cX0_settle 27 = .ok (.getfield 33, 3) := by decide +kernel
theorem dX0_settle_30 : decode cX0_settle 30 = .ok (.iadd, 1) := by decide +kernel
theorem dX0_settle_31 : decode cX0_settle 31 = .ok (.invokestatic 61, 3) := by decide +kernel
theorem dX0_settle_34 : decode cX0_settle 34 = .ok (.iastore, 1) := by decide +kernel
theorem dX0_settle_35 : decode cX0_settle 35 = .ok (.iinc 2 1, 3) := by decide +kernel
theorem dX0_settle_38 : decode cX0_settle 38 = .ok (.goto (-32), 3) := by decide +kernel
theorem dX0_settle_41 : decode cX0_settle 41 = .ok (.iconst 0, 1) := by decide +kernel
theorem dX0_settle_42 : decode cX0_settle 42 = .ok (.istore_n 2, 1) := by decide +kernel
theorem dX0_settle_43 : decode cX0_settle 43 = .ok (.iload_n 2, 1) := by decide +kernel
theorem dX0_settle_44 : decode cX0_settle 44 = .ok (.aload_n 0, 1) := by decide +kernel
theorem dX0_settle_45 : decode cX0_settle 45 = .ok (.getfield 46, 3) := by decide +kernel
theorem dX0_settle_48 : decode cX0_settle 48 = .ok (.if_icmp .ge 23, 3) := by decide +kernel
theorem dX0_settle_51 : decode cX0_settle 51 = .ok (.iload_n 1, 1) := by decide +kernel
theorem dX0_settle_52 : decode cX0_settle 52 = .ok (.iload_n 2, 1) := by decide +kernel
theorem dX0_settle_53 : decode cX0_settle 53 = .ok (.ishr, 1) := by decide +kernel
theorem dX0_settle_54 : decode cX0_settle 54 = .ok (.iconst 1, 1) := by decide +kernel
theorem dX0_settle_55 : decode cX0_settle 55 = .ok (.iand, 1) := by decide +kernel
theorem dX0_settle_56 : decode cX0_settle 56 = .ok (.iconst 1, 1) := by decide +kernel
theorem dX0_settle_57 : decode cX0_settle 57 = .ok (.if_icmp .ne 8, 3) := by decide +kernel
theorem dX0_settle_60 : decode cX0_settle 60 = .ok (.aload_n 0, 1) := by decide +kernel
theorem dX0_settle_61 : decode cX0_settle 61 = .ok (.iload_n 2, 1) := by decide +kernel
theorem dX0_settle_62 : decode cX0_settle 62 = .ok (.invokevirtual 96, 3) := by decide +kernel
theorem dX0_settle_65 : decode cX0_settle 65 = .ok (.iinc 2 1, 3) := by decide +kernel
theorem dX0_settle_68 : decode cX0_settle 68 = .ok (.goto (-25), 3) := by decide +kernel
theorem dX0_settle_71 : decode cX0_settle 71 = .ok (.return_, 1) := by decide +kernel
theorem dX0_blow_0 : decode cX0_blow 0 = .ok (.iconst 0, 1) := by decide +kernel
theorem dX0_blow_1 : decode cX0_blow 1 = .ok (.istore_n 1, 1) := by decide +kernel
theorem dX0_blow_2 : decode cX0_blow 2 = .ok (.iload_n 1, 1) := by decide +kernel
theorem dX0_blow_3 : decode cX0_blow 3 = .ok (.bipush 12, 2) := by decide +kernel
theorem dX0_blow_5 : decode cX0_blow 5 = .ok (.if_icmp .ge 34, 3) := by decide +kernel
theorem dX0_blow_8 : decode cX0_blow 8 = .ok (.aload_n 0, 1) := by decide +kernel
theorem dX0_blow_9 : decode cX0_blow 9 = .ok (.getfield 15, 3) := by decide +kernel
theorem dX0_blow_12 : decode cX0_blow 12 = .ok (.iload_n 1, 1) := by decide +kernel
theorem dX0_blow_13 : decode cX0_blow 13 = .ok (.aload_n 0, 1) := by decide +kernel
theorem dX0_blow_14 : decode cX0_blow 14 = .ok (.getfield 49, 3) := by decide +kernel
theorem dX0_blow_17 : decode cX0_blow 17 = .ok (.iadd, 1) := by decide +kernel
theorem dX0_blow_18 : decode cX0_blow 18 = .ok (.bipush 12, 2) := by decide +kernel
theorem dX0_blow_20 : decode cX0_blow 20 = .ok (.invokestatic 55, 3) := by decide +kernel
theorem dX0_blow_23 : decode cX0_blow 23 = .ok (.aload_n 0, 1) := by decide +kernel
theorem dX0_blow_24 : decode cX0_blow 24 = .ok (.getfield 9, 3) := by decide +kernel
theorem dX0_blow_27 : decode cX0_blow 27 = .ok (.iload_n 1, 1) := by decide +kernel
theorem dX0_blow_28 : decode cX0_blow 28 = .ok (.iaload, 1) := by decide +kernel
theorem dX0_blow_29 : decode cX0_blow 29 = .ok (.bipush 10, 2) := by decide +kernel
theorem dX0_blow_31 : decode cX0_blow 31 = .ok (.idiv, 1) := by decide +kernel
theorem dX0_blow_32 : decode cX0_blow 32 = .ok (.iastore, 1) := by decide +kernel
theorem dX0_blow_33 : decode cX0_blow 33 = .ok (.iinc 1 1, 3) := by decide +kernel
theorem dX0_blow_36 : decode cX0_blow 36 = .ok (.goto (-34), 3) := by decide +kernel
theorem dX0_blow_39 : decode cX0_blow 39 = .ok (.iconst 0, 1) := by decide +kernel
theorem dX0_blow_40 : decode cX0_blow 40 = .ok (.istore_n 1, 1) := by decide +kernel
theorem dX0_blow_41 : decode cX0_blow 41 = .ok (.iload_n 1, 1) := by decide +kernel
theorem dX0_blow_42 : decode cX0_blow 42 = .ok (.bipush 12, 2) := by decide +kernel
theorem dX0_blow_44 : decode cX0_blow 44 = .ok (.if_icmp .ge 38, 3) := by decide +kernel
theorem dX0_blow_47 : decode cX0_blow 47 = .ok (.aload_n 0, 1) := by decide +kernel
theorem dX0_blow_48 : decode cX0_blow 48 = .ok (.getfield 9, 3) := by decide +kernel
theorem dX0_blow_51 : decode cX0_blow 51 = .ok (.iload_n 1, 1) := by decide +kernel
theorem dX0_blow_52 : decode cX0_blow 52 = .ok (.aload_n 0, 1) := by decide +kernel
theorem dX0_blow_53 : decode cX0_blow 53 = .ok (.getfield 9, 3) := by decide +kernel
theorem dX0_blow_56 : decode cX0_blow 56 = .ok (.iload_n 1, 1) := by decide +kernel
theorem dX0_blow_57 : decode cX0_blow 57 = .ok (.iaload, 1) := by decide +kernel
theorem dX0_blow_58 : decode cX0_blow 58 = .ok (.aload_n 0, 1) := by decide +kernel
theorem dX0_blow_59 : decode cX0_blow 59 = .ok (.getfield 9, 3) := by decide +kernel
theorem dX0_blow_62 : decode cX0_blow 62 = .ok (.iload_n 1, 1) := by decide +kernel
theorem dX0_blow_63 : decode cX0_blow 63 = .ok (.iaload, 1) := by decide +kernel
theorem dX0_blow_64 : decode cX0_blow 64 = .ok (.bipush 10, 2) := by decide +kernel
theorem dX0_blow_66 : decode cX0_blow 66 = .ok (.idiv, 1) := by decide +kernel
theorem dX0_blow_67 : decode cX0_blow 67 = .ok (.isub, 1) := by decide +kernel
theorem dX0_blow_68 : decode cX0_blow 68 = .ok (.aload_n 0, 1) := by decide +kernel
theorem dX0_blow_69 : decode cX0_blow 69 = .ok (.getfield 15, 3) := by decide +kernel
theorem dX0_blow_72 : decode cX0_blow 72 = .ok (.iload_n 1, 1) := by decide +kernel
theorem dX0_blow_73 : decode cX0_blow 73 = .ok (.iaload, 1) := by decide +kernel
theorem dX0_blow_74 : decode cX0_blow 74 = .ok (.iadd, 1) := by decide +kernel
theorem dX0_blow_75 : decode cX0_blow 75 = .ok (.iastore, 1) := by decide +kernel
theorem dX0_blow_76 : decode cX0_blow 76 = .ok (.iinc 1 1, 3) := by decide +kernel
theorem dX0_blow_79 : decode cX0_blow 79 = .ok (.goto (-38), 3) := by decide +kernel
theorem dX0_blow_82 : decode cX0_blow 82 = .ok (.return_, 1) := by decide +kernel
theorem dX0_sweep_0 : decode cX0_sweep 0 = .ok (.aload_n 0, 1) := by decide +kernel
theorem dX0_sweep_1 : decode cX0_sweep 1 = .ok (.getfield 21, 3) := by decide +kernel
theorem dX0_sweep_4 : decode cX0_sweep 4 = .ok (.iload_n 1, 1) := by decide +kernel
theorem dX0_sweep_5 : decode cX0_sweep 5 = .ok (.iaload, 1) := by decide +kernel
theorem dX0_sweep_6 : decode cX0_sweep 6 = .ok (.istore_n 2, 1) := by decide +kernel
theorem dX0_sweep_7 : decode cX0_sweep 7 = .ok (.getstatic 99, 3) := by decide +kernel
theorem dX0_sweep_10 : decode cX0_sweep 10 = .ok (.aload_n 0, 1) := by decide +kernel
theorem dX0_sweep_11 : decode cX0_sweep 11 = .ok (.getfield 18, 3) := by decide +kernel
theorem dX0_sweep_14 : decode cX0_sweep 14 = .ok (.iload_n 1, 1) := by decide +kernel
theorem dX0_sweep_15 : decode cX0_sweep 15 = .ok (.iaload, 1) := by decide +kernel
theorem dX0_sweep_16 : decode cX0_sweep 16 = .ok (.iaload, 1) := by decide +kernel
theorem dX0_sweep_17 : decode cX0_sweep 17 = .ok (.aload_n 0, 1) := by decide +kernel
theorem dX0_sweep_18 : decode cX0_sweep 18 = .ok (.getfield 9, 3) := by decide +kernel
theorem dX0_sweep_21 : decode cX0_sweep 21 = .ok (.iload_n 2, 1) := by decide +kernel
theorem dX0_sweep_22 : decode cX0_sweep 22 = .ok (.iaload, 1) := by decide +kernel
theorem dX0_sweep_23 : decode cX0_sweep 23 = .ok (.invokestatic 61, 3) := by decide +kernel
theorem dX0_sweep_26 : decode cX0_sweep 26 = .ok (.istore_n 3, 1) := by decide +kernel
theorem dX0_sweep_27 : decode cX0_sweep 27 = .ok (.aload_n 0, 1) := by decide +kernel
theorem dX0_sweep_28 : decode cX0_sweep 28 = .ok (.getfield 9, 3) := by decide +kernel
theorem dX0_sweep_31 : decode cX0_sweep 31 = .ok (.iload_n 2, 1) := by decide +kernel
theorem dX0_sweep_32 : decode cX0_sweep 32 = .ok (.dup2, 1) := by decide +kernel
theorem dX0_sweep_33 : decode cX0_sweep 33 = .ok (.iaload, 1) := by decide +kernel
theorem dX0_sweep_34 : decode cX0_sweep 34 = .ok (.iload_n 3, 1) := by decide +kernel
theorem dX0_sweep_35 : decode cX0_sweep 35 = .ok (.isub, 1) := by decide +kernel
theorem dX0_sweep_36 : decode cX0_sweep 36 = .ok (.iastore, 1) := by decide +kernel
theorem dX0_sweep_37 : decode cX0_sweep 37 = .ok (.aload_n 0, 1) := by decide +kernel
theorem dX0_sweep_38 : decode cX0_sweep 38 = .ok (.getfield 18, 3) := by decide +kernel
theorem dX0_sweep_41 : decode cX0_sweep 41 = .ok (.iload_n 1, 1) := by decide +kernel
theorem dX0_sweep_42 : decode cX0_sweep 42 = .ok (.iaload, 1) := by decide +kernel
theorem dX0_sweep_43 : decode cX0_sweep 43 = .ok (.iconst 4, 1) := by decide +kernel
theorem dX0_sweep_44 : decode cX0_sweep 44 = .ok (.if_icmp .ne 12, 3) := by decide +kernel
theorem dX0_sweep_47 : decode cX0_sweep 47 = .ok (.aload_n 0, 1) := by decide +kernel
theorem dX0_sweep_48 : decode cX0_sweep 48 = .ok (.iload_n 1, 1) := by decide +kernel
theorem dX0_sweep_49 : decode cX0_sweep 49 = .ok (.iload_n 3, 1) := by decide +kernel
theorem dX0_sweep_50 : decode cX0_sweep 50 = .ok (.invokevirtual 102, 3) := by decide +kernel
theorem dX0_sweep_53 : decode cX0_sweep 53 = .ok (.goto 21, 3) := by decide +kernel
theorem dX0_sweep_56 : decode cX0_sweep 56 = .ok (.aload_n 0, 1) := by decide +kernel
theorem dX0_sweep_57 : decode cX0_sweep 57 = .ok (.getfield 18, 3) := by decide +kernel
theorem dX0_sweep_60 : decode cX0_sweep 60 = .ok (.iload_n 1, 1) := by decide +kernel
theorem dX0_sweep_61 : decode cX0_sweep 61 = .ok (.iaload, 1) := by decide +kernel
theorem dX0_sweep_62 : decode cX0_sweep 62 = .ok (.iconst 3, 1) := by decide +kernel
theorem dX0_sweep_63 : decode cX0_sweep 63 = .ok (.if_icmp .ne 11, 3) := by decide +kernel
theorem dX0_sweep_66 : decode cX0_sweep 66 = .ok (.aload_n 0, 1) := by decide +kernel
theorem dX0_sweep_67 : decode cX0_sweep 67 = .ok (.iload_n 1, 1) := by decide +kernel
theorem dX0_sweep_68 : decode cX0_sweep 68 = .ok (.iload_n 3, 1) := by decide +kernel
theorem dX0_sweep_69 : decode cX0_sweep 69 = .ok (.iconst 2, 1) := by decide +kernel
theorem dX0_sweep_70 : decode cX0_sweep 70 = .ok (.idiv, 1) := by decide +kernel
theorem dX0_sweep_71 : decode cX0_sweep 71 = .ok (.invokevirtual 102, 3) := by decide +kernel
theorem dX0_sweep_74 : decode cX0_sweep 74 = .ok (.return_, 1) := by decide +kernel
theorem dX0_leaveMarks_0 : decode cX0_leaveMarks 0 = .ok (.iconst 0, 1) := by decide +kernel
theorem dX0_leaveMarks_1 : decode cX0_leaveMarks 1 = .ok (.istore_n 1, 1) := by decide +kernel
theorem dX0_leaveMarks_2 : decode cX0_leaveMarks 2 = .ok (.iload_n 1, 1) := by decide +kernel
theorem dX0_leaveMarks_3 : decode cX0_leaveMarks 3 = .ok (.aload_n 0, 1) := by decide +kernel
theorem dX0_leaveMarks_4 : decode cX0_leaveMarks 4 = .ok (.getfield 46, 3) := by decide +kernel
theorem dX0_leaveMarks_7 : decode cX0_leaveMarks 7 = .ok (.if_icmp .ge 94, 3) := by decide +kernel
theorem dX0_leaveMarks_10 : decode cX0_leaveMarks 10 = .ok (.aload_n 0, 1) := by decide +kernel
theorem dX0_leaveMarks_11 : decode cX0_leaveMarks 11 = .ok (.getfield 21, 3) := by decide +kernel
theorem dX0_leaveMarks_14 : decode cX0_leaveMarks 14 = .ok (.iload_n 1, 1) := by decide +kernel
theorem dX0_leaveMarks_15 : decode cX0_leaveMarks 15 = .ok (.iaload, 1) := by decide +kernel
theorem dX0_leaveMarks_16 : decode cX0_leaveMarks 16 = .ok (.istore_n 2, 1) := by decide +kernel
theorem dX0_leaveMarks_17 : decode cX0_leaveMarks 17 = .ok (.iconst 0, 1) := by decide +kernel
theorem dX0_leaveMarks_18 : decode cX0_leaveMarks 18 = .ok (.istore_n 3, 1) := by decide +kernel
theorem dX0_leaveMarks_19 : decode cX0_leaveMarks 19 = .ok (.iload_n 3, 1) := by decide +kernel
theorem dX0_leaveMarks_20 : decode cX0_leaveMarks 20 = .ok (.aload_n 0, 1) := by decide +kernel
theorem dX0_leaveMarks_21 : decode cX0_leaveMarks 21 = .ok (.getfield 46, 3) := by decide +kernel
theorem dX0_leaveMarks_24 : decode cX0_leaveMarks 24 = .ok (.if_icmp .ge 71, 3) := by decide +kernel
theorem dX0_leaveMarks_27 : decode cX0_leaveMarks 27 = .ok (.iload_n 3, 1) := by decide +kernel
theorem dX0_leaveMarks_28 : decode cX0_leaveMarks 28 = .ok (.bipush 12, 2) := by decide +kernel
theorem dX0_leaveMarks_30 : decode cX0_leaveMarks 30 = .ok (.imul, 1) := by decide +kernel
theorem dX0_leaveMarks_31 : decode cX0_leaveMarks 31 = .ok (.iload_n 2, 1) := by decide +kernel
theorem dX0_leaveMarks_32 : decode cX0_leaveMarks 32 = .ok (.iadd, 1) := by decide +kernel
theorem dX0_leaveMarks_33 : decode cX0_leaveMarks 33 = .ok (.istore 4, 2) := by decide +kernel
theorem dX0_leaveMarks_35 : decode cX0_leaveMarks 35 = .ok (.iload_n 3, 1) := by decide +kernel
theorem dX0_leaveMarks_36 : decode cX0_leaveMarks 36 = .ok (.iload_n 1, 1) := by decide +kernel
theorem dX0_leaveMarks_37 : decode cX0_leaveMarks 37 = .ok (.if_icmp .ne 31, 3) := by decide +kernel
theorem dX0_leaveMarks_40 : decode cX0_leaveMarks 40 = .ok (.aload_n 0, 1) := by decide +kernel
theorem dX0_leaveMarks_41 : decode cX0_leaveMarks 41 = .ok (.getfield 27, 3) := by decide +kernel
theorem dX0_leaveMarks_44 : decode cX0_leaveMarks 44 = .ok (.iload 4, 2) := by decide +kernel
theorem dX0_leaveMarks_46 : decode cX0_leaveMarks 46 = .ok (.bipush 99, 2) := by decide +kernel
theorem dX0_leaveMarks_48 : decode cX0_leaveMarks 48 = .ok (.aload_n 0, 1) := by decide +kernel
theorem dX0_leaveMarks_49 : decode cX0_leaveMarks 49 = .ok (.getfield 27, 3) := by decide +kernel
theorem dX0_leaveMarks_52 : decode cX0_leaveMarks 52 = .ok (.iload 4, 2) := by decide +kernel
theorem dX0_leaveMarks_54 : decode cX0_leaveMarks 54 = .ok (.iaload, 1) := by decide +kernel
theorem dX0_leaveMarks_55 : decode cX0_leaveMarks 55 = .ok (.aload_n 0, 1) := by decide +kernel
theorem dX0_leaveMarks_56 : decode cX0_leaveMarks 56 = .ok (.iload_n 1, 1) := by decide +kernel
theorem dX0_leaveMarks_57 : decode cX0_leaveMarks 57 = .ok (.invokevirtual 106, 3) := by decide +kernel
theorem dX0_leaveMarks_60 : decode cX0_leaveMarks 60 = .ok (.iadd, 1) := by decide +kernel
theorem dX0_leaveMarks_61 : decode cX0_leaveMarks 61 = .ok (.invokestatic 61, 3) := by decide +kernel
theorem dX0_leaveMarks_64 : decode cX0_leaveMarks 64 = .ok (.iastore, 1) := by decide +kernel
theorem dX0_leaveMarks_65 : decode cX0_leaveMarks 65 = .ok (.goto 24, 3) := by decide +kernel
theorem dX0_leaveMarks_68 : decode cX0_leaveMarks 68 = .ok (.aload_n 0, 1) := by decide +kernel
theorem dX0_leaveMarks_69 : decode cX0_leaveMarks 69 = .ok (.getfield 27, 3) := by decide +kernel
theorem dX0_leaveMarks_72 : decode cX0_leaveMarks 72 = .ok (.iload 4, 2) := by decide +kernel
theorem dX0_leaveMarks_74 : decode cX0_leaveMarks 74 = .ok (.iaload, 1) := by decide +kernel
theorem dX0_leaveMarks_75 : decode cX0_leaveMarks 75 = .ok (.ifCond .le 14, 3) := by decide +kernel
theorem dX0_leaveMarks_78 : decode cX0_leaveMarks 78 = .ok (.aload_n 0, 1) := by decide +kernel
theorem dX0_leaveMarks_79 : decode cX0_leaveMarks 79 = .ok (.getfield 27, 3) := by decide +kernel
theorem dX0_leaveMarks_82 : decode cX0_leaveMarks 82 = .ok (.iload 4, 2) := by decide +kernel
theorem dX0_leaveMarks_84 : decode cX0_leaveMarks 84 = .ok (.dup2, 1) := by decide +kernel
theorem dX0_leaveMarks_85 : decode cX0_leaveMarks 85 = .ok (.iaload, 1) := by decide +kernel
theorem dX0_leaveMarks_86 : decode cX0_leaveMarks 86 = .ok (.iconst 1, 1) := by decide +kernel
theorem dX0_leaveMarks_87 : decode cX0_leaveMarks 87 = .ok (.isub, 1) := by decide +kernel
theorem dX0_leaveMarks_88 : decode cX0_leaveMarks 88 = .ok (.iastore, 1) := by decide +kernel
theorem dX0_leaveMarks_89 : decode cX0_leaveMarks 89 = .ok (.iinc 3 1, 3) := by decide +kernel
theorem dX0_leaveMarks_92 : decode cX0_leaveMarks 92 = .ok (.goto (-73), 3) := by decide +kernel
theorem dX0_leaveMarks_95 : decode cX0_leaveMarks 95 = .ok (.iinc 1 1, 3) := by decide +kernel
theorem dX0_leaveMarks_98 : decode cX0_leaveMarks 98 = .ok (.goto (-96), 3) := by decide +kernel
theorem dX0_leaveMarks_101 : decode cX0_leaveMarks 101 = .ok (.return_, 1) := by decide +kernel
theorem dX0_payRents_0 : decode cX0_payRents 0 = .ok (.iconst 0, 1) := by decide +kernel
theorem dX0_payRents_1 : decode cX0_payRents 1 = .ok (.istore_n 1, 1) := by decide +kernel
theorem dX0_payRents_2 : decode cX0_payRents 2 = .ok (.iload_n 1, 1) := by decide +kernel
theorem dX0_payRents_3 : decode cX0_payRents 3 = .ok (.bipush 12, 2) := by decide +kernel
theorem dX0_payRents_5 : decode cX0_payRents 5 = .ok (.if_icmp .ge 34, 3) := by decide +kernel
theorem dX0_payRents_8 : decode cX0_payRents 8 = .ok (.aload_n 0, 1) := by decide +kernel
theorem dX0_payRents_9 : decode cX0_payRents 9 = .ok (.iload_n 1, 1) := by decide +kernel
theorem dX0_payRents_10 : decode cX0_payRents 10 = .ok (.invokevirtual 65, 3) := by decide +kernel
theorem dX0_payRents_13 : decode cX0_payRents 13 = .ok (.istore_n 2, 1) := by decide +kernel
theorem dX0_payRents_14 : decode cX0_payRents 14 = .ok (.iload_n 2, 1) := by decide +kernel
theorem dX0_payRents_15 : decode cX0_payRents 15 = .ok (.iconst (-1), 1) := by decide +kernel
theorem dX0_payRents_16 : decode cX0_payRents 16 = .ok (.if_icmp .eq 17, 3) := by decide +kernel
theorem dX0_payRents_19 : decode cX0_payRents 19 = .ok (.aload_n 0, 1) := by decide +kernel
theorem dX0_payRents_20 : decode cX0_payRents 20 = .ok (.iload_n 2, 1) := by decide +kernel
theorem dX0_payRents_21 : decode cX0_payRents 21 = .ok (.aload_n 0, 1) := by decide +kernel
theorem dX0_payRents_22 : decode cX0_payRents 22 = .ok (.getfield 9, 3) := by decide +kernel
theorem dX0_payRents_25 : decode cX0_payRents 25 = .ok (.iload_n 1, 1) := by decide +kernel
theorem dX0_payRents_26 : decode cX0_payRents 26 = .ok (.iaload, 1) := by decide +kernel
theorem dX0_payRents_27 : decode cX0_payRents 27 = .ok (.bipush 20, 2) := by decide +kernel
theorem dX0_payRents_29 : decode cX0_payRents 29 = .ok (.idiv, 1) := by decide +kernel
theorem dX0_payRents_30 : decode cX0_payRents 30 = .ok (.invokevirtual 102, 3) := by decide +kernel
theorem dX0_payRents_33 : decode cX0_payRents 33 = .ok (.iinc 1 1, 3) := by decide +kernel
theorem dX0_payRents_36 : decode cX0_payRents 36 = .ok (.goto (-34), 3) := by decide +kernel
theorem dX0_payRents_39 : decode cX0_payRents 39 = .ok (.return_, 1) := by decide +kernel
theorem dX0_gain_0 : decode cX0_gain 0 = .ok (.aload_n 0, 1) := by decide +kernel
theorem dX0_gain_1 : decode cX0_gain 1 = .ok (.getfield 24, 3) := by decide +kernel
theorem dX0_gain_4 : decode cX0_gain 4 = .ok (.iload_n 1, 1) := by decide +kernel
theorem dX0_gain_5 : decode cX0_gain 5 = .ok (.iaload, 1) := by decide +kernel
theorem dX0_gain_6 : decode cX0_gain 6 = .ok (.iload_n 2, 1) := by decide +kernel
theorem dX0_gain_7 : decode cX0_gain 7 = .ok (.iadd, 1) := by decide +kernel
theorem dX0_gain_8 : decode cX0_gain 8 = .ok (.istore_n 3, 1) := by decide +kernel
theorem dX0_gain_9 : decode cX0_gain 9 = .ok (.aload_n 0, 1) := by decide +kernel
theorem dX0_gain_10 : decode cX0_gain 10 = .ok (.getfield 24, 3) := by decide +kernel
theorem dX0_gain_13 : decode cX0_gain 13 = .ok (.iload_n 1, 1) := by decide +kernel
theorem dX0_gain_14 : decode cX0_gain 14 = .ok (.iload_n 3, 1) := by decide +kernel
theorem dX0_gain_15 : decode cX0_gain 15 = .ok (.ldc 92, 2) := by decide +kernel
theorem dX0_gain_17 : decode cX0_gain 17 = .ok (.if_icmp .le 8, 3) := by decide +kernel
theorem dX0_gain_20 : decode cX0_gain 20 = .ok (.ldc 92, 2) := by decide +kernel
theorem dX0_gain_22 : decode cX0_gain 22 = .ok (.goto 4, 3) := by decide +kernel
theorem dX0_gain_25 : decode cX0_gain 25 = .ok (.iload_n 3, 1) := by decide +kernel
theorem dX0_gain_26 : decode cX0_gain 26 = .ok (.iastore, 1) := by decide +kernel
theorem dX0_gain_27 : decode cX0_gain 27 = .ok (.return_, 1) := by decide +kernel
theorem dX1_init_0 : decode cX1_init 0 = .ok (.aload_n 0, 1) := by decide +kernel
theorem dX1_init_1 : decode cX1_init 1 = .ok (.invokespecial 3, 3) := by decide +kernel
theorem dX1_init_4 : decode cX1_init 4 = .ok (.aload_n 0, 1) := by decide +kernel
theorem dX1_init_5 : decode cX1_init 5 = .ok (.bipush 40, 2) := by decide +kernel
theorem dX1_init_7 : decode cX1_init 7 = .ok (.newarray .int, 2) := by decide +kernel
theorem dX1_init_9 : decode cX1_init 9 = .ok (.putfield 9, 3) := by decide +kernel
theorem dX1_init_12 : decode cX1_init 12 = .ok (.return_, 1) := by decide +kernel
theorem dX1_renew_0 : decode cX1_renew 0 = .ok (.aload_n 0, 1) := by decide +kernel
theorem dX1_renew_1 : decode cX1_renew 1 = .ok (.iload_n 1, 1) := by decide +kernel
theorem dX1_renew_2 : decode cX1_renew 2 = .ok (.putfield 15, 3) := by decide +kernel
theorem dX1_renew_5 : decode cX1_renew 5 = .ok (.aload_n 0, 1) := by decide +kernel
theorem dX1_renew_6 : decode cX1_renew 6 = .ok (.iload_n 1, 1) := by decide +kernel
theorem dX1_renew_7 : decode cX1_renew 7 = .ok (.ifCond .ne 7, 3) := by decide +kernel
theorem dX1_renew_10 : decode cX1_renew 10 = .ok (.iconst 0, 1) := by decide +kernel
theorem dX1_renew_11 : decode cX1_renew 11 = .ok (.goto 4, 3) := by decide +kernel
theorem dX1_renew_14 : decode cX1_renew 14 = .ok (.iload_n 2, 1) := by decide +kernel
theorem dX1_renew_15 : decode cX1_renew 15 = .ok (.putfield 19, 3) := by decide +kernel
theorem dX1_renew_18 : decode cX1_renew 18 = .ok (.iconst 0, 1) := by decide +kernel
theorem dX1_renew_19 : decode cX1_renew 19 = .ok (.istore_n 3, 1) := by decide +kernel
theorem dX1_renew_20 : decode cX1_renew 20 = .ok (.iload_n 3, 1) := by decide +kernel
theorem dX1_renew_21 : decode cX1_renew 21 = .ok (.bipush 40, 2) := by decide +kernel
theorem dX1_renew_23 : decode cX1_renew 23 = .ok (.if_icmp .ge 16, 3) := by decide +kernel
theorem dX1_renew_26 : decode cX1_renew 26 = .ok (.aload_n 0, 1) := by decide +kernel
theorem dX1_renew_27 : decode cX1_renew 27 = .ok (.getfield 9, 3) := by decide +kernel
theorem dX1_renew_30 : decode cX1_renew 30 = .ok (.iload_n 3, 1) := by decide +kernel
theorem dX1_renew_31 : decode cX1_renew 31 = .ok (.iconst 0, 1) := by decide +kernel
theorem dX1_renew_32 : decode cX1_renew 32 = .ok (.iastore, 1) := by decide +kernel
theorem dX1_renew_33 : decode cX1_renew 33 = .ok (.iinc 3 1, 3) := by decide +kernel
theorem dX1_renew_36 : decode cX1_renew 36 = .ok (.goto (-16), 3) := by decide +kernel
theorem dX1_renew_39 : decode cX1_renew 39 = .ok (.aload_n 0, 1) := by decide +kernel
theorem dX1_renew_40 : decode cX1_renew 40 = .ok (.getfield 19, 3) := by decide +kernel
theorem dX1_renew_43 : decode cX1_renew 43 = .ok (.ireturn, 1) := by decide +kernel
theorem dX1_put_0 : decode cX1_put 0 = .ok (.bipush 32, 2) := by decide +kernel
theorem dX1_put_2 : decode cX1_put 2 = .ok (.aload_n 0, 1) := by decide +kernel
theorem dX1_put_3 : decode cX1_put 3 = .ok (.getfield 15, 3) := by decide +kernel
theorem dX1_put_6 : decode cX1_put 6 = .ok (.isub, 1) := by decide +kernel
theorem dX1_put_7 : decode cX1_put 7 = .ok (.istore_n 3, 1) := by decide +kernel
theorem dX1_put_8 : decode cX1_put 8 = .ok (.aload_n 0, 1) := by decide +kernel
theorem dX1_put_9 : decode cX1_put 9 = .ok (.getfield 9, 3) := by decide +kernel
theorem dX1_put_12 : decode cX1_put 12 = .ok (.iload_n 1, 1) := by decide +kernel
theorem dX1_put_13 : decode cX1_put 13 = .ok (.iload_n 2, 1) := by decide +kernel
theorem dX1_put_14 : decode cX1_put 14 = .ok (.iload_n 3, 1) := by decide +kernel
theorem dX1_put_15 : decode cX1_put 15 = .ok (.ishl, 1) := by decide +kernel
theorem dX1_put_16 : decode cX1_put 16 = .ok (.iload_n 3, 1) := by decide +kernel
theorem dX1_put_17 : decode cX1_put 17 = .ok (.ishr, 1) := by decide +kernel
theorem dX1_put_18 : decode cX1_put 18 = .ok (.iastore, 1) := by decide +kernel
theorem dX1_put_19 : decode cX1_put 19 = .ok (.return_, 1) := by decide +kernel
theorem dX1_has_0 : decode cX1_has 0 = .ok (.iload_n 1, 1) := by decide +kernel
theorem dX1_has_1 : decode cX1_has 1 = .ok (.ifCond .lt 29, 3) := by decide +kernel
theorem dX1_has_4 : decode cX1_has 4 = .ok (.iload_n 2, 1) := by decide +kernel
theorem dX1_has_5 : decode cX1_has 5 = .ok (.ifCond .lt 25, 3) := by decide +kernel
theorem dX1_has_8 : decode cX1_has 8 = .ok (.iload_n 1, 1) := by decide +kernel
theorem dX1_has_9 : decode cX1_has 9 = .ok (.aload_n 0, 1) := by decide +kernel
theorem dX1_has_10 : decode cX1_has 10 = .ok (.getfield 19, 3) := by decide +kernel
theorem dX1_has_13 : decode cX1_has 13 = .ok (.if_icmp .gt 17, 3) := by decide +kernel
theorem dX1_has_16 : decode cX1_has 16 = .ok (.iload_n 2, 1) := by decide +kernel
theorem dX1_has_17 : decode cX1_has 17 = .ok (.aload_n 0, 1) := by decide +kernel
theorem dX1_has_18 : decode cX1_has 18 = .ok (.getfield 19, 3) := by decide +kernel
theorem dX1_has_21 : decode cX1_has 21 = .ok (.iload_n 1, 1) := by decide +kernel
theorem dX1_has_22 : decode cX1_has 22 = .ok (.isub, 1) := by decide +kernel
theorem dX1_has_23 : decode cX1_has 23 = .ok (.if_icmp .gt 7, 3) := by decide +kernel
theorem dX1_has_26 : decode cX1_has 26 = .ok (.iconst 1, 1) := by decide +kernel
theorem dX1_has_27 : decode cX1_has 27 = .ok (.goto 4, 3) := by decide +kernel
theorem dX1_has_30 : decode cX1_has 30 = .ok (.iconst 0, 1) := by decide +kernel
theorem dX1_has_31 : decode cX1_has 31 = .ok (.ireturn, 1) := by decide +kernel
theorem dX2_init_0 : decode cX2_init 0 = .ok (.aload_n 0, 1) := by decide +kernel
theorem dX2_init_1 : decode cX2_init 1 = .ok (.invokespecial 3, 3) := by decide +kernel
theorem dX2_init_4 : decode cX2_init 4 = .ok (.aload_n 0, 1) := by decide +kernel
theorem dX2_init_5 : decode cX2_init 5 = .ok (.bipush 120, 2) := by decide +kernel
theorem dX2_init_7 : decode cX2_init 7 = .ok (.newarray .int, 2) := by decide +kernel
theorem dX2_init_9 : decode cX2_init 9 = .ok (.putfield 9, 3) := by decide +kernel
theorem dX2_init_12 : decode cX2_init 12 = .ok (.return_, 1) := by decide +kernel
theorem dX2_append_0 : decode cX2_append 0 = .ok (.iload_n 2, 1) := by decide +kernel
theorem dX2_append_1 : decode cX2_append 1 = .ok (.iconst 1, 1) := by decide +kernel
theorem dX2_append_2 : decode cX2_append 2 = .ok (.isub, 1) := by decide +kernel
theorem dX2_append_3 : decode cX2_append 3 = .ok (.istore_n 3, 1) := by decide +kernel
theorem dX2_append_4 : decode cX2_append 4 = .ok (.iload_n 3, 1) := by decide +kernel
theorem dX2_append_5 : decode cX2_append 5 = .ok (.ifCond .lt 38, 3) := by decide +kernel
theorem dX2_append_8 : decode cX2_append 8 = .ok (.aload_n 0, 1) := by decide +kernel
theorem dX2_append_9 : decode cX2_append 9 = .ok (.getfield 9, 3) := by decide +kernel
theorem dX2_append_12 : decode cX2_append 12 = .ok (.aload_n 0, 1) := by decide +kernel
theorem dX2_append_13 : decode cX2_append 13 = .ok (.getfield 15, 3) := by decide +kernel
theorem dX2_append_16 : decode cX2_append 16 = .ok (.iload_n 1, 1) := by decide +kernel
theorem dX2_append_17 : decode cX2_append 17 = .ok (.bipush 8, 2) := by decide +kernel
theorem dX2_append_19 : decode cX2_append 19 = .ok (.iload_n 3, 1) := by decide +kernel
theorem dX2_append_20 : decode cX2_append 20 = .ok (.imul, 1) := by decide +kernel
theorem dX2_append_21 : decode cX2_append 21 = .ok (.iushr, 1) := by decide +kernel
theorem dX2_append_22 : decode cX2_append 22 = .ok (.sipush 255, 3) := by decide +kernel
theorem dX2_append_25 : decode cX2_append 25 = .ok (.iand, 1) := by decide +kernel
theorem dX2_append_26 : decode cX2_append 26 = .ok (.iastore, 1) := by decide +kernel
theorem dX2_append_27 : decode cX2_append 27 = .ok (.aload_n 0, 1) := by decide +kernel
theorem dX2_append_28 : decode cX2_append 28 = .ok (.dup, 1) := by decide +kernel
theorem dX2_append_29 : decode cX2_append 29 = .ok (.getfield 15, 3) := by decide +kernel
theorem dX2_append_32 : decode cX2_append 32 = .ok (.iconst 1, 1) := by decide +kernel
theorem dX2_append_33 : decode cX2_append 33 = .ok (.iadd, 1) := by decide +kernel
theorem dX2_append_34 : decode cX2_append 34 = .ok (.putfield 15, 3) := by decide +kernel
theorem dX2_append_37 : decode cX2_append 37 = .ok (.iinc 3 (-1), 3) := by decide +kernel
theorem dX2_append_40 : decode cX2_append 40 = .ok (.goto (-36), 3) := by decide +kernel
theorem dX2_append_43 : decode cX2_append 43 = .ok (.return_, 1) := by decide +kernel
theorem dX2_endOfRun_0 : decode cX2_endOfRun 0 = .ok (.aload_n 0, 1) := by decide +kernel
theorem dX2_endOfRun_1 : decode cX2_endOfRun 1 = .ok (.getfield 9, 3) := by decide +kernel
theorem dX2_endOfRun_4 : decode cX2_endOfRun 4 = .ok (.iload_n 1, 1) := by decide +kernel
theorem dX2_endOfRun_5 : decode cX2_endOfRun 5 = .ok (.iaload, 1) := by decide +kernel
theorem dX2_endOfRun_6 : decode cX2_endOfRun 6 = .ok (.invokestatic 19, 3) := by decide +kernel
theorem dX2_endOfRun_9 : decode cX2_endOfRun 9 = .ok (.istore_n 2, 1) := by decide +kernel
theorem dX2_endOfRun_10 : decode cX2_endOfRun 10 = .ok (.iload_n 1, 1) := by decide +kernel
theorem dX2_endOfRun_11 : decode cX2_endOfRun 11 = .ok (.iconst 1, 1) := by decide +kernel
theorem dX2_endOfRun_12 : decode cX2_endOfRun 12 = .ok (.iadd, 1) := by decide +kernel
theorem dX2_endOfRun_13 : decode cX2_endOfRun 13 = .ok (.istore_n 3, 1) := by decide +kernel
theorem dX2_endOfRun_14 : decode cX2_endOfRun 14 = .ok (.iload_n 3, 1) := by decide +kernel
theorem dX2_endOfRun_15 : decode cX2_endOfRun 15 = .ok (.aload_n 0, 1) := by decide +kernel
theorem dX2_endOfRun_16 : decode cX2_endOfRun 16 = .ok (.getfield 15, 3) := by decide +kernel
theorem dX2_endOfRun_19 : decode cX2_endOfRun 19 = .ok (.if_icmp .ge 22, 3) := by decide +kernel
theorem dX2_endOfRun_22 : decode cX2_endOfRun 22 = .ok (.aload_n 0, 1) := by decide +kernel
theorem dX2_endOfRun_23 : decode cX2_endOfRun 23 = .ok (.getfield 9, 3) := by decide +kernel
theorem dX2_endOfRun_26 : decode cX2_endOfRun 26 = .ok (.iload_n 3, 1) := by decide +kernel
theorem dX2_endOfRun_27 : decode cX2_endOfRun 27 = .ok (.iaload, 1) := by decide +kernel
theorem dX2_endOfRun_28 : decode cX2_endOfRun 28 = .ok (.invokestatic 19, 3) := by decide +kernel
theorem dX2_endOfRun_31 : decode cX2_endOfRun 31 = .ok (.iload_n 2, 1) := by decide +kernel
theorem dX2_endOfRun_32 : decode cX2_endOfRun 32 = .ok (.if_icmp .ne 9, 3) := by decide +kernel
theorem dX2_endOfRun_35 : decode cX2_endOfRun 35 = .ok (.iinc 3 1, 3) := by decide +kernel
theorem dX2_endOfRun_38 : decode cX2_endOfRun 38 = .ok (.goto (-24), 3) := by decide +kernel
theorem dX2_endOfRun_41 : decode cX2_endOfRun 41 = .ok (.iload_n 3, 1) := by decide +kernel
theorem dX2_endOfRun_42 : decode cX2_endOfRun 42 = .ok (.ireturn, 1) := by decide +kernel
theorem dX2_spells_0 : decode cX2_spells 0 = .ok (.aload_n 1, 1) := by decide +kernel
theorem dX2_spells_1 : decode cX2_spells 1 = .ok (.invokevirtual 25, 3) := by decide +kernel
theorem dX2_spells_4 : decode cX2_spells 4 = .ok (.iload_n 3, 1) := by decide +kernel
theorem dX2_spells_5 : decode cX2_spells 5 = .ok (.iload_n 2, 1) := by decide +kernel
theorem dX2_spells_6 : decode cX2_spells 6 = .ok (.isub, 1) := by decide +kernel
theorem dX2_spells_7 : decode cX2_spells 7 = .ok (.if_icmp .eq 5, 3) := by decide +kernel
theorem dX2_spells_10 : decode cX2_spells 10 = .ok (.iconst 0, 1) := by decide +kernel
theorem dX2_spells_11 : decode cX2_spells 11 = .ok (.ireturn, 1) := by decide +kernel
theorem dX2_spells_12 : decode cX2_spells 12 = .ok (.iload_n 2, 1) := by decide +kernel
theorem dX2_spells_13 : decode cX2_spells 13 = .ok (.istore 4, 2) := by decide +kernel
theorem dX2_spells_15 : decode cX2_spells 15 = .ok (.iload 4, 2) := by decide +kernel
theorem dX2_spells_17 : decode cX2_spells 17 = .ok (.iload_n 3, 1) := by decide +kernel
theorem dX2_spells_18 : decode cX2_spells 18 = .ok (.if_icmp .ge 29, 3) := by decide +kernel
theorem dX2_spells_21 : decode cX2_spells 21 = .ok (.aload_n 0, 1) := by decide +kernel
theorem dX2_spells_22 : decode cX2_spells 22 = .ok (.getfield 9, 3) := by decide +kernel
theorem dX2_spells_25 : decode cX2_spells 25 = .ok (.iload 4, 2) := by decide +kernel
theorem dX2_spells_27 : decode cX2_spells 27 = .ok (.iaload, 1) := by decide +kernel
theorem dX2_spells_28 : decode cX2_spells 28 = .ok (.aload_n 1, 1) := by decide +kernel
theorem dX2_spells_29 : decode cX2_spells 29 = .ok (.iload 4, 2) := by decide +kernel
theorem dX2_spells_31 : decode cX2_spells 31 = .ok (.iload_n 2, 1) := by decide +kernel
theorem dX2_spells_32 : decode cX2_spells 32 = .ok (.isub, 1) := by decide +kernel
theorem dX2_spells_33 : decode cX2_spells 33 = .ok (.invokevirtual 30, 3) := by decide +kernel
theorem dX2_spells_36 : decode cX2_spells 36 = .ok (.if_icmp .eq 5, 3) := by decide +kernel
theorem dX2_spells_39 : decode cX2_spells 39 = .ok (.iconst 0, 1) := by decide +kernel
theorem dX2_spells_40 : decode cX2_spells 40 = .ok (.ireturn, 1) := by decide +kernel
theorem dX2_spells_41 : decode cX2_spells 41 = .ok (.iinc 4 1, 3) := by decide +kernel
theorem dX2_spells_44 : decode cX2_spells 44 = .ok (.goto (-29), 3) := by decide +kernel
theorem dX2_spells_47 : decode cX2_spells 47 = .ok (.iconst 1, 1) := by decide +kernel
theorem dX2_spells_48 : decode cX2_spells 48 = .ok (.ireturn, 1) := by decide +kernel
theorem dX3_init_0 : decode cX3_init 0 = .ok (.aload_n 0, 1) := by decide +kernel
theorem dX3_init_1 : decode cX3_init 1 = .ok (.invokespecial 3, 3) := by decide +kernel
theorem dX3_init_4 : decode cX3_init 4 = .ok (.aload_n 0, 1) := by decide +kernel
theorem dX3_init_5 : decode cX3_init 5 = .ok (.bipush 121, 2) := by decide +kernel
theorem dX3_init_7 : decode cX3_init 7 = .ok (.newarray .int, 2) := by decide +kernel
theorem dX3_init_9 : decode cX3_init 9 = .ok (.putfield 9, 3) := by decide +kernel
theorem dX3_init_12 : decode cX3_init 12 = .ok (.aload_n 0, 1) := by decide +kernel
theorem dX3_init_13 : decode cX3_init 13 = .ok (.bipush 121, 2) := by decide +kernel
theorem dX3_init_15 : decode cX3_init 15 = .ok (.newarray .int, 2) := by decide +kernel
theorem dX3_init_17 : decode cX3_init 17 = .ok (.putfield 15, 3) := by decide +kernel
theorem dX3_init_20 : decode cX3_init 20 = .ok (.aload_n 0, 1) := by decide +kernel
theorem dX3_init_21 : decode cX3_init 21 = .ok (.bipush 121, 2) := by decide +kernel
theorem dX3_init_23 : decode cX3_init 23 = .ok (.newarray .int, 2) := by decide +kernel
theorem dX3_init_25 : decode cX3_init 25 = .ok (.putfield 18, 3) := by decide +kernel
theorem dX3_init_28 : decode cX3_init 28 = .ok (.return_, 1) := by decide +kernel
theorem dX3_split_0 : decode cX3_split 0 = .ok (.aload_n 0, 1) := by decide +kernel
theorem dX3_split_1 : decode cX3_split 1 = .ok (.iconst 0, 1) := by decide +kernel
theorem dX3_split_2 : decode cX3_split 2 = .ok (.putfield 21, 3) := by decide +kernel
theorem dX3_split_5 : decode cX3_split 5 = .ok (.aload_n 0, 1) := by decide +kernel
theorem dX3_split_6 : decode cX3_split 6 = .ok (.iconst 0, 1) := by decide +kernel
theorem dX3_split_7 : decode cX3_split 7 = .ok (.putfield 25, 3) := by decide +kernel
theorem dX3_split_10 : decode cX3_split 10 = .ok (.iconst 0, 1) := by decide +kernel
theorem dX3_split_11 : decode cX3_split 11 = .ok (.istore_n 2, 1) := by decide +kernel
theorem dX3_split_12 : decode cX3_split 12 = .ok (.iconst 0, 1) := by decide +kernel
theorem dX3_split_13 : decode cX3_split 13 = .ok (.istore_n 3, 1) := by decide +kernel
theorem dX3_split_14 : decode cX3_split 14 = .ok (.iload_n 3, 1) := by decide +kernel
theorem dX3_split_15 : decode cX3_split 15 = .ok (.aload_n 1, 1) := by decide +kernel
theorem dX3_split_16 : decode cX3_split 16 = .ok (.getfield 28, 3) := by decide +kernel
theorem dX3_split_19 : decode cX3_split 19 = .ok (.if_icmp .ge 72, 3) := by decide +kernel
theorem dX3_split_22 : decode cX3_split 22 = .ok (.aload_n 1, 1) := by decide +kernel
theorem dX3_split_23 : decode cX3_split 23 = .ok (.getfield 33, 3) := by decide +kernel
theorem dX3_split_26 : decode cX3_split 26 = .ok (.iload_n 3, 1) := by decide +kernel
theorem dX3_split_27 : decode cX3_split 27 = .ok (.iaload, 1) := by decide +kernel
theorem dX3_split_28 : decode cX3_split 28 = .ok (.invokestatic 36, 3) := by decide +kernel
theorem dX3_split_31 : decode cX3_split 31 = .ok (.istore 4, 2) := by decide +kernel
theorem dX3_split_33 : decode cX3_split 33 = .ok (.iload 4, 2) := by decide +kernel
theorem dX3_split_35 : decode cX3_split 35 = .ok (.iload_n 2, 1) := by decide +kernel
theorem dX3_split_36 : decode cX3_split 36 = .ok (.if_icmp .ne 19, 3) := by decide +kernel
theorem dX3_split_39 : decode cX3_split 39 = .ok (.iload 4, 2) := by decide +kernel
theorem dX3_split_41 : decode cX3_split 41 = .ok (.iconst 1, 1) := by decide +kernel
theorem dX3_split_42 : decode cX3_split 42 = .ok (.if_icmp .eq 9, 3) := by decide +kernel
theorem dX3_split_45 : decode cX3_split 45 = .ok (.iload 4, 2) := by decide +kernel
theorem dX3_split_47 : decode cX3_split 47 = .ok (.iconst 2, 1) := by decide +kernel
theorem dX3_split_48 : decode cX3_split 48 = .ok (.if_icmp .ne 7, 3) := by decide +kernel
theorem dX3_split_51 : decode cX3_split 51 = .ok (.iconst 1, 1) := by decide +kernel
theorem dX3_split_52 : decode cX3_split 52 = .ok (.goto 4, 3) := by decide +kernel
theorem dX3_split_55 : decode cX3_split 55 = .ok (.iconst 0, 1) := by decide +kernel
theorem dX3_split_56 : decode cX3_split 56 = .ok (.istore 5, 2) := by decide +kernel
theorem dX3_split_58 : decode cX3_split 58 = .ok (.iload 4, 2) := by decide +kernel
theorem dX3_split_60 : decode cX3_split 60 = .ok (.ifCond .eq 22, 3) := by decide +kernel
theorem dX3_split_63 : decode cX3_split 63 = .ok (.iload 5, 2) := by decide +kernel
theorem dX3_split_65 : decode cX3_split 65 = .ok (.ifCond .ne 17, 3) := by decide +kernel
theorem dX3_split_68 : decode cX3_split 68 = .ok (.aload_n 0, 1) := by decide +kernel
theorem dX3_split_69 : decode cX3_split 69 = .ok (.iload 4, 2) := by decide +kernel
theorem dX3_split_71 : decode cX3_split 71 = .ok (.iload_n 3, 1) := by decide +kernel
theorem dX3_split_72 : decode cX3_split 72 = .ok (.aload_n 1, 1) := by decide +kernel
theorem dX3_split_73 : decode cX3_split 73 = .ok (.iload 4, 2) := by decide +kernel
theorem dX3_split_75 : decode cX3_split 75 = .ok (.iload_n 3, 1) := by decide +kernel
theorem dX3_split_76 : decode cX3_split 76 = .ok (.invokestatic 40, 3) := by decide +kernel
theorem dX3_split_79 : decode cX3_split 79 = .ok (.invokevirtual 44, 3) := by decide +kernel
theorem dX3_split_82 : decode cX3_split 82 = .ok (.iload 4, 2) := by decide +kernel
theorem dX3_split_84 : decode cX3_split 84 = .ok (.istore_n 2, 1) := by decide +kernel
theorem dX3_split_85 : decode cX3_split 85 = .ok (.iinc 3 1, 3) := by decide +kernel
theorem dX3_split_88 : decode cX3_split 88 = .ok (.goto (-74), 3) := by decide +kernel
theorem dX3_split_91 : decode cX3_split 91 = .ok (.aload_n 0, 1) := by decide +kernel
theorem dX3_split_92 : decode cX3_split 92 = .ok (.bipush 6, 2) := by decide +kernel
theorem dX3_split_94 : decode cX3_split 94 = .ok (.aload_n 1, 1) := by decide +kernel
theorem dX3_split_95 : decode cX3_split 95 = .ok (.getfield 28, 3) := by decide +kernel
theorem dX3_split_98 : decode cX3_split 98 = .ok (.iconst 0, 1) := by decide +kernel
theorem dX3_split_99 : decode cX3_split 99 = .ok (.invokevirtual 44, 3) := by decide +kernel
theorem dX3_split_102 : decode cX3_split 102 = .ok (.return_, 1) := by decide +kernel
theorem dX3_add_0 : decode cX3_add 0 = .ok (.aload_n 0, 1) := by decide +kernel
theorem dX3_add_1 : decode cX3_add 1 = .ok (.getfield 9, 3) := by decide +kernel
theorem dX3_add_4 : decode cX3_add 4 = .ok (.aload_n 0, 1) := by decide +kernel
theorem dX3_add_5 : decode cX3_add 5 = .ok (.getfield 21, 3) := by decide +kernel
theorem dX3_add_8 : decode cX3_add 8 = .ok (.iload_n 1, 1) := by decide +kernel
theorem dX3_add_9 : decode cX3_add 9 = .ok (.iastore, 1) := by decide +kernel
theorem dX3_add_10 : decode cX3_add 10 = .ok (.aload_n 0, 1) := by decide +kernel
theorem dX3_add_11 : decode cX3_add 11 = .ok (.getfield 15, 3) := by decide +kernel
theorem dX3_add_14 : decode cX3_add 14 = .ok (.aload_n 0, 1) := by decide +kernel
theorem dX3_add_15 : decode cX3_add 15 = .ok (.getfield 21, 3) := by decide +kernel
theorem dX3_add_18 : decode cX3_add 18 = .ok (.iload_n 2, 1) := by decide +kernel
theorem dX3_add_19 : decode cX3_add 19 = .ok (.iastore, 1) := by decide +kernel
theorem dX3_add_20 : decode cX3_add 20 = .ok (.aload_n 0, 1) := by decide +kernel
theorem dX3_add_21 : decode cX3_add 21 = .ok (.getfield 18, 3) := by decide +kernel
theorem dX3_add_24 : decode cX3_add 24 = .ok (.aload_n 0, 1) := by decide +kernel
theorem dX3_add_25 : decode cX3_add 25 = .ok (.getfield 21, 3) := by decide +kernel
theorem dX3_add_28 : decode cX3_add 28 = .ok (.iload_n 3, 1) := by decide +kernel
theorem dX3_add_29 : decode cX3_add 29 = .ok (.iastore, 1) := by decide +kernel
theorem dX3_add_30 : decode cX3_add 30 = .ok (.aload_n 0, 1) := by decide +kernel
theorem dX3_add_31 : decode cX3_add 31 = .ok (.dup, 1) := by decide +kernel
theorem dX3_add_32 : decode cX3_add 32 = .ok (.getfield 21, 3) := by decide +kernel
theorem dX3_add_35 : decode cX3_add 35 = .ok (.iconst 1, 1) := by decide +kernel
theorem dX3_add_36 : decode cX3_add 36 = .ok (.iadd, 1) := by decide +kernel
theorem dX3_add_37 : decode cX3_add 37 = .ok (.putfield 21, 3) := by decide +kernel
theorem dX3_add_40 : decode cX3_add 40 = .ok (.return_, 1) := by decide +kernel
theorem dX3_typeOf_0 : decode cX3_typeOf 0 = .ok (.iload_n 0, 1) := by decide +kernel
theorem dX3_typeOf_1 : decode cX3_typeOf 1 = .ok (.bipush 97, 2) := by decide +kernel
theorem dX3_typeOf_3 : decode cX3_typeOf 3 = .ok (.if_icmp .lt 11, 3) := by decide +kernel
theorem dX3_typeOf_6 : decode cX3_typeOf 6 = .ok (.iload_n 0, 1) := by decide +kernel
theorem dX3_typeOf_7 : decode cX3_typeOf 7 = .ok (.bipush 122, 2) := by decide +kernel
theorem dX3_typeOf_9 : decode cX3_typeOf 9 = .ok (.if_icmp .gt 5, 3) := by decide +kernel
theorem dX3_typeOf_12 : decode cX3_typeOf 12 = .ok (.iconst 1, 1) := by decide +kernel
theorem dX3_typeOf_13 : decode cX3_typeOf 13 = .ok (.ireturn, 1) := by decide +kernel
theorem dX3_typeOf_14 : decode cX3_typeOf 14 = .ok (.iload_n 0, 1) := by decide +kernel
theorem dX3_typeOf_15 : decode cX3_typeOf 15 = .ok (.bipush 48, 2) := by decide +kernel
theorem dX3_typeOf_17 : decode cX3_typeOf 17 = .ok (.if_icmp .lt 11, 3) := by decide +kernel
theorem dX3_typeOf_20 : decode cX3_typeOf 20 = .ok (.iload_n 0, 1) := by decide +kernel
theorem dX3_typeOf_21 : decode cX3_typeOf 21 = .ok (.bipush 57, 2) := by decide +kernel
theorem dX3_typeOf_23 : decode cX3_typeOf 23 = .ok (.if_icmp .gt 5, 3) := by decide +kernel
theorem dX3_typeOf_26 : decode cX3_typeOf 26 = .ok (.iconst 2, 1) := by decide +kernel
theorem dX3_typeOf_27 : decode cX3_typeOf 27 = .ok (.ireturn, 1) := by decide +kernel
theorem dX3_typeOf_28 : decode cX3_typeOf 28 = .ok (.iload_n 0, 1) := by decide +kernel
theorem dX3_typeOf_29 : decode cX3_typeOf 29 = .ok (.lookupswitch 41 #[(32, 35), (45, 39), (59, 37)], 35) := by decide +kernel
theorem dX3_typeOf_64 : decode cX3_typeOf 64 = .ok (.iconst 0, 1) := by decide +kernel
theorem dX3_typeOf_65 : decode cX3_typeOf 65 = .ok (.ireturn, 1) := by decide +kernel
theorem dX3_typeOf_66 : decode cX3_typeOf 66 = .ok (.iconst 3, 1) := by decide +kernel
theorem dX3_typeOf_67 : decode cX3_typeOf 67 = .ok (.ireturn, 1) := by decide +kernel
theorem dX3_typeOf_68 : decode cX3_typeOf 68 = .ok (.iconst 4, 1) := by decide +kernel
theorem dX3_typeOf_69 : decode cX3_typeOf 69 = .ok (.ireturn, 1) := by decide +kernel
theorem dX3_typeOf_70 : decode cX3_typeOf 70 = .ok (.iconst 5, 1) := by decide +kernel
theorem dX3_typeOf_71 : decode cX3_typeOf 71 = .ok (.ireturn, 1) := by decide +kernel
theorem dX3_valueAt_0 : decode cX3_valueAt 0 = .ok (.iload_n 1, 1) := by decide +kernel
theorem dX3_valueAt_1 : decode cX3_valueAt 1 = .ok (.iconst 1, 1) := by decide +kernel
theorem dX3_valueAt_2 : decode cX3_valueAt 2 = .ok (.if_icmp .ne 9, 3) := by decide +kernel
theorem dX3_valueAt_5 : decode cX3_valueAt 5 = .ok (.aload_n 0, 1) := by decide +kernel
theorem dX3_valueAt_6 : decode cX3_valueAt 6 = .ok (.iload_n 2, 1) := by decide +kernel
theorem dX3_valueAt_7 : decode cX3_valueAt 7 = .ok (.invokestatic 48, 3) := by decide +kernel
theorem dX3_valueAt_10 : decode cX3_valueAt 10 = .ok (.ireturn, 1) := by decide +kernel
theorem dX3_valueAt_11 : decode cX3_valueAt 11 = .ok (.iload_n 1, 1) := by decide +kernel
theorem dX3_valueAt_12 : decode cX3_valueAt 12 = .ok (.iconst 2, 1) := by decide +kernel
theorem dX3_valueAt_13 : decode cX3_valueAt 13 = .ok (.if_icmp .ne 11, 3) := by decide +kernel
theorem dX3_valueAt_16 : decode cX3_valueAt 16 = .ok (.aload_n 0, 1) := by decide +kernel
theorem dX3_valueAt_17 : decode cX3_valueAt 17 = .ok (.iload_n 2, 1) := by decide +kernel
theorem dX3_valueAt_18 : decode cX3_valueAt 18 = .ok (.invokestatic 52, 3) := by decide +kernel
theorem dX3_valueAt_21 : decode cX3_valueAt 21 = .ok (.goto 4, 3) := by decide +kernel
theorem dX3_valueAt_24 : decode cX3_valueAt 24 = .ok (.iconst 0, 1) := by decide +kernel
theorem dX3_valueAt_25 : decode cX3_valueAt 25 = .ok (.ireturn, 1) := by decide +kernel
theorem dX3_wordAt_0 : decode cX3_wordAt 0 = .ok (.aload_n 0, 1) := by decide +kernel
theorem dX3_wordAt_1 : decode cX3_wordAt 1 = .ok (.iload_n 1, 1) := by decide +kernel
theorem dX3_wordAt_2 : decode cX3_wordAt 2 = .ok (.invokevirtual 55, 3) := by decide +kernel
theorem dX3_wordAt_5 : decode cX3_wordAt 5 = .ok (.istore_n 2, 1) := by decide +kernel
theorem dX3_wordAt_6 : decode cX3_wordAt 6 = .ok (.iconst 0, 1) := by decide +kernel
theorem dX3_wordAt_7 : decode cX3_wordAt 7 = .ok (.istore_n 3, 1) := by decide +kernel
theorem dX3_wordAt_8 : decode cX3_wordAt 8 = .ok (.iload_n 3, 1) := by decide +kernel
theorem dX3_wordAt_9 : decode cX3_wordAt 9 = .ok (.bipush 13, 2) := by decide +kernel
theorem dX3_wordAt_11 : decode cX3_wordAt 11 = .ok (.if_icmp .ge 24, 3) := by decide +kernel
theorem dX3_wordAt_14 : decode cX3_wordAt 14 = .ok (.aload_n 0, 1) := by decide +kernel
theorem dX3_wordAt_15 : decode cX3_wordAt 15 = .ok (.iload_n 3, 1) := by decide +kernel
theorem dX3_wordAt_16 : decode cX3_wordAt 16 = .ok (.invokestatic 58, 3) := by decide +kernel
theorem dX3_wordAt_19 : decode cX3_wordAt 19 = .ok (.iload_n 1, 1) := by decide +kernel
theorem dX3_wordAt_20 : decode cX3_wordAt 20 = .ok (.iload_n 2, 1) := by decide +kernel
theorem dX3_wordAt_21 : decode cX3_wordAt 21 = .ok (.invokevirtual 62, 3) := by decide +kernel
theorem dX3_wordAt_24 : decode cX3_wordAt 24 = .ok (.ifCond .eq 5, 3) := by decide +kernel
theorem dX3_wordAt_27 : decode cX3_wordAt 27 = .ok (.iload_n 3, 1) := by decide +kernel
theorem dX3_wordAt_28 : decode cX3_wordAt 28 = .ok (.ireturn, 1) := by decide +kernel
theorem dX3_wordAt_29 : decode cX3_wordAt 29 = .ok (.iinc 3 1, 3) := by decide +kernel
theorem dX3_wordAt_32 : decode cX3_wordAt 32 = .ok (.goto (-24), 3) := by decide +kernel
theorem dX3_wordAt_35 : decode cX3_wordAt 35 = .ok (.iconst (-1), 1) := by decide +kernel
theorem dX3_wordAt_36 : decode cX3_wordAt 36 = .ok (.ireturn, 1) := by decide +kernel
theorem dX3_numberAt_0 : decode cX3_numberAt 0 = .ok (.aload_n 0, 1) := by decide +kernel
theorem dX3_numberAt_1 : decode cX3_numberAt 1 = .ok (.iload_n 1, 1) := by decide +kernel
theorem dX3_numberAt_2 : decode cX3_numberAt 2 = .ok (.invokevirtual 55, 3) := by decide +kernel
theorem dX3_numberAt_5 : decode cX3_numberAt 5 = .ok (.istore_n 2, 1) := by decide +kernel
theorem dX3_numberAt_6 : decode cX3_numberAt 6 = .ok (.iconst 0, 1) := by decide +kernel
theorem dX3_numberAt_7 : decode cX3_numberAt 7 = .ok (.istore_n 3, 1) := by decide +kernel
theorem dX3_numberAt_8 : decode cX3_numberAt 8 = .ok (.iload_n 1, 1) := by decide +kernel
theorem dX3_numberAt_9 : decode cX3_numberAt 9 = .ok (.istore 4, 2) := by decide +kernel
theorem dX3_numberAt_11 : decode cX3_numberAt 11 = .ok (.iload 4, 2) := by decide +kernel
theorem dX3_numberAt_13 : decode cX3_numberAt 13 = .ok (.iload_n 2, 1) := by decide +kernel
theorem dX3_numberAt_14 : decode cX3_numberAt 14 = .ok (.if_icmp .ge 31, 3) := by decide +kernel
theorem dX3_numberAt_17 : decode cX3_numberAt 17 = .ok (.sipush 10000, 3) := by decide +kernel
theorem dX3_numberAt_20 : decode cX3_numberAt 20 = .ok (.iload_n 3, 1) := by decide +kernel
theorem dX3_numberAt_21 : decode cX3_numberAt 21 = .ok (.bipush 10, 2) := by decide +kernel
theorem dX3_numberAt_23 : decode cX3_numberAt 23 = .ok (.imul, 1) := by decide +kernel
theorem dX3_numberAt_24 : decode cX3_numberAt 24 = .ok (.aload_n 0, 1) := by decide +kernel
theorem dX3_numberAt_25 : decode cX3_numberAt 25 = .ok (.getfield 33, 3) := by decide +kernel
theorem dX3_numberAt_28 : decode cX3_numberAt 28 = .ok (.iload 4, 2) := by decide +kernel
theorem dX3_numberAt_30 : decode cX3_numberAt 30 = .ok (.iaload, 1) := by decide +kernel
theorem dX3_numberAt_31 : decode cX3_numberAt 31 = .ok (.iadd, 1) := by decide +kernel
theorem dX3_numberAt_32 : decode cX3_numberAt 32 = .ok (.bipush 48, 2) := by decide +kernel
theorem dX3_numberAt_34 : decode cX3_numberAt 34 = .ok (.isub, 1) := by decide +kernel
theorem dX3_numberAt_35 : decode cX3_numberAt 35 = .ok (.invokestatic 66, 3) := by decide +kernel
theorem dX3_numberAt_38 : decode cX3_numberAt 38 = .ok (.istore_n 3, 1) := by decide +kernel
theorem dX3_numberAt_39 : decode cX3_numberAt 39 = .ok (.iinc 4 1, 3) := by decide +kernel
theorem dX3_numberAt_42 : decode cX3_numberAt 42 = .ok (.goto (-31), 3) := by decide +kernel
theorem dX3_numberAt_45 : decode cX3_numberAt 45 = .ok (.iload_n 3, 1) := by decide +kernel
theorem dX3_numberAt_46 : decode cX3_numberAt 46 = .ok (.ireturn, 1) := by decide +kernel
theorem dX3_nameOf_0 : decode cX3_nameOf 0 = .ok (.iload_n 0, 1) := by decide +kernel
theorem dX3_nameOf_1 : decode cX3_nameOf 1 = .ok (.tableswitch 106 0 12 #[67, 70, 73, 76, 79, 82, 85, 88, 91, 94, 97, 100, 103], 67) := by decide +kernel
theorem dX3_nameOf_68 : decode cX3_nameOf 68 = .ok (.ldc 72, 2) := by decide +kernel
theorem dX3_nameOf_70 : decode cX3_nameOf 70 = .ok (.areturn, 1) := by decide +kernel
theorem dX3_nameOf_71 : decode cX3_nameOf 71 = .ok (.ldc 74, 2) := by decide +kernel
theorem dX3_nameOf_73 : decode cX3_nameOf 73 = .ok (.areturn, 1) := by decide +kernel
theorem dX3_nameOf_74 : decode cX3_nameOf 74 = .ok (.ldc 76, 2) := by decide +kernel
theorem dX3_nameOf_76 : decode cX3_nameOf 76 = .ok (.areturn, 1) := by decide +kernel
theorem dX3_nameOf_77 : decode cX3_nameOf 77 = .ok (.ldc 78, 2) := by decide +kernel
theorem dX3_nameOf_79 : decode cX3_nameOf 79 = .ok (.areturn, 1) := by decide +kernel
theorem dX3_nameOf_80 : decode cX3_nameOf 80 = .ok (.ldc 80, 2) := by decide +kernel
theorem dX3_nameOf_82 : decode cX3_nameOf 82 = .ok (.areturn, 1) := by decide +kernel
theorem dX3_nameOf_83 : decode cX3_nameOf 83 = .ok (.ldc 82, 2) := by decide +kernel
theorem dX3_nameOf_85 : decode cX3_nameOf 85 = .ok (.areturn, 1) := by decide +kernel
theorem dX3_nameOf_86 : decode cX3_nameOf 86 = .ok (.ldc 84, 2) := by decide +kernel
theorem dX3_nameOf_88 : decode cX3_nameOf 88 = .ok (.areturn, 1) := by decide +kernel
theorem dX3_nameOf_89 : decode cX3_nameOf 89 = .ok (.ldc 86, 2) := by decide +kernel
theorem dX3_nameOf_91 : decode cX3_nameOf 91 = .ok (.areturn, 1) := by decide +kernel
theorem dX3_nameOf_92 : decode cX3_nameOf 92 = .ok (.ldc 88, 2) := by decide +kernel
theorem dX3_nameOf_94 : decode cX3_nameOf 94 = .ok (.areturn, 1) := by decide +kernel
theorem dX3_nameOf_95 : decode cX3_nameOf 95 = .ok (.ldc 90, 2) := by decide +kernel
theorem dX3_nameOf_97 : decode cX3_nameOf 97 = .ok (.areturn, 1) := by decide +kernel
theorem dX3_nameOf_98 : decode cX3_nameOf 98 = .ok (.ldc 92, 2) := by decide +kernel
theorem dX3_nameOf_100 : decode cX3_nameOf 100 = .ok (.areturn, 1) := by decide +kernel
theorem dX3_nameOf_101 : decode cX3_nameOf 101 = .ok (.ldc 94, 2) := by decide +kernel
theorem dX3_nameOf_103 : decode cX3_nameOf 103 = .ok (.areturn, 1) := by decide +kernel
theorem dX3_nameOf_104 : decode cX3_nameOf 104 = .ok (.ldc 96, 2) := by decide +kernel
theorem dX3_nameOf_106 : decode cX3_nameOf 106 = .ok (.areturn, 1) := by decide +kernel
theorem dX3_nameOf_107 : decode cX3_nameOf 107 = .ok (.ldc 98, 2) := by decide +kernel
theorem dX3_nameOf_109 : decode cX3_nameOf 109 = .ok (.areturn, 1) := by decide +kernel
theorem dX3_readInto_0 : decode cX3_readInto 0 = .ok (.iconst 0, 1) := by decide +kernel
theorem dX3_readInto_1 : decode cX3_readInto 1 = .ok (.istore_n 2, 1) := by decide +kernel
theorem dX3_readInto_2 : decode cX3_readInto 2 = .ok (.iconst 1, 1) := by decide +kernel
theorem dX3_readInto_3 : decode cX3_readInto 3 = .ok (.istore_n 3, 1) := by decide +kernel
theorem dX3_readInto_4 : decode cX3_readInto 4 = .ok (.iload_n 3, 1) := by decide +kernel
theorem dX3_readInto_5 : decode cX3_readInto 5 = .ok (.ifCond .eq 43, 3) := by decide +kernel
theorem dX3_readInto_8 : decode cX3_readInto 8 = .ok (.iload_n 2, 1) := by decide +kernel
theorem dX3_readInto_9 : decode cX3_readInto 9 = .ok (.aload_n 0, 1) := by decide +kernel
theorem dX3_readInto_10 : decode cX3_readInto 10 = .ok (.getfield 21, 3) := by decide +kernel
theorem dX3_readInto_13 : decode cX3_readInto 13 = .ok (.if_icmp .ge 35, 3) := by decide +kernel
theorem dX3_readInto_16 : decode cX3_readInto 16 = .ok (.aload_n 0, 1) := by decide +kernel
theorem dX3_readInto_17 : decode cX3_readInto 17 = .ok (.aload_n 1, 1) := by decide +kernel
theorem dX3_readInto_18 : decode cX3_readInto 18 = .ok (.invokevirtual 100, 3) := by decide +kernel
theorem dX3_readInto_21 : decode cX3_readInto 21 = .ok (.ifCond .ne 15, 3) := by decide +kernel
theorem dX3_readInto_24 : decode cX3_readInto 24 = .ok (.iconst (-1), 1) := by decide +kernel
theorem dX3_readInto_25 : decode cX3_readInto 25 = .ok (.aload_n 0, 1) := by decide +kernel
theorem dX3_readInto_26 : decode cX3_readInto 26 = .ok (.getfield 15, 3) := by decide +kernel
theorem dX3_readInto_29 : decode cX3_readInto 29 = .ok (.aload_n 0, 1) := by decide +kernel
theorem dX3_readInto_30 : decode cX3_readInto 30 = .ok (.getfield 25, 3) := by decide +kernel
theorem dX3_readInto_33 : decode cX3_readInto 33 = .ok (.iaload, 1) := by decide +kernel
theorem dX3_readInto_34 : decode cX3_readInto 34 = .ok (.isub, 1) := by decide +kernel
theorem dX3_readInto_35 : decode cX3_readInto 35 = .ok (.ireturn, 1) := by decide +kernel
theorem dX3_readInto_36 : decode cX3_readInto 36 = .ok (.iinc 2 1, 3) := by decide +kernel
theorem dX3_readInto_39 : decode cX3_readInto 39 = .ok (.aload_n 0, 1) := by decide +kernel
theorem dX3_readInto_40 : decode cX3_readInto 40 = .ok (.iconst 3, 1) := by decide +kernel
theorem dX3_readInto_41 : decode cX3_readInto 41 = .ok (.invokevirtual 104, 3) := by decide +kernel
theorem dX3_readInto_44 : decode cX3_readInto 44 = .ok (.istore_n 3, 1) := by decide +kernel
theorem dX3_readInto_45 : decode cX3_readInto 45 = .ok (.goto (-41), 3) := by decide +kernel
theorem dX3_readInto_48 : decode cX3_readInto 48 = .ok (.aload_n 0, 1) := by decide +kernel
theorem dX3_readInto_49 : decode cX3_readInto 49 = .ok (.getfield 9, 3) := by decide +kernel
theorem dX3_readInto_52 : decode cX3_readInto 52 = .ok (.aload_n 0, 1) := by decide +kernel
theorem dX3_readInto_53 : decode cX3_readInto 53 = .ok (.getfield 25, 3) := by decide +kernel
theorem dX3_readInto_56 : decode cX3_readInto 56 = .ok (.iaload, 1) := by decide +kernel
theorem dX3_readInto_57 : decode cX3_readInto 57 = .ok (.bipush 6, 2) := by decide +kernel
theorem dX3_readInto_59 : decode cX3_readInto 59 = .ok (.if_icmp .ne 7, 3) := by decide +kernel
theorem dX3_readInto_62 : decode cX3_readInto 62 = .ok (.iload_n 2, 1) := by decide +kernel
theorem dX3_readInto_63 : decode cX3_readInto 63 = .ok (.goto 14, 3) := by decide +kernel
theorem dX3_readInto_66 : decode cX3_readInto 66 = .ok (.iconst (-1), 1) := by decide +kernel
theorem dX3_readInto_67 : decode cX3_readInto 67 = .ok (.aload_n 0, 1) := by decide +kernel
theorem dX3_readInto_68 : decode cX3_readInto 68 = .ok (.getfield 15, 3) := by decide +kernel
theorem dX3_readInto_71 : decode cX3_readInto 71 = .ok (.aload_n 0, 1) := by decide +kernel
theorem dX3_readInto_72 : decode cX3_readInto 72 = .ok (.getfield 25, 3) := by decide +kernel
theorem dX3_readInto_75 : decode cX3_readInto 75 = .ok (.iaload, 1) := by decide +kernel
theorem dX3_readInto_76 : decode cX3_readInto 76 = .ok (.isub, 1) := by decide +kernel
theorem dX3_readInto_77 : decode cX3_readInto 77 = .ok (.ireturn, 1) := by decide +kernel
theorem dX3_readItem_0 : decode cX3_readItem 0 = .ok (.aload_n 0, 1) := by decide +kernel
theorem dX3_readItem_1 : decode cX3_readItem 1 = .ok (.getfield 9, 3) := by decide +kernel
theorem dX3_readItem_4 : decode cX3_readItem 4 = .ok (.aload_n 0, 1) := by decide +kernel
theorem dX3_readItem_5 : decode cX3_readItem 5 = .ok (.getfield 25, 3) := by decide +kernel
theorem dX3_readItem_8 : decode cX3_readItem 8 = .ok (.iaload, 1) := by decide +kernel
theorem dX3_readItem_9 : decode cX3_readItem 9 = .ok (.iconst 1, 1) := by decide +kernel
theorem dX3_readItem_10 : decode cX3_readItem 10 = .ok (.if_icmp .ne 15, 3) := by decide +kernel
theorem dX3_readItem_13 : decode cX3_readItem 13 = .ok (.aload_n 0, 1) := by decide +kernel
theorem dX3_readItem_14 : decode cX3_readItem 14 = .ok (.getfield 18, 3) := by decide +kernel
theorem dX3_readItem_17 : decode cX3_readItem 17 = .ok (.aload_n 0, 1) := by decide +kernel
theorem dX3_readItem_18 : decode cX3_readItem 18 = .ok (.getfield 25, 3) := by decide +kernel
theorem dX3_readItem_21 : decode cX3_readItem 21 = .ok (.iaload, 1) := by decide +kernel
theorem dX3_readItem_22 : decode cX3_readItem 22 = .ok (.goto 4, 3) := by decide +kernel
theorem dX3_readItem_25 : decode cX3_readItem 25 = .ok (.iconst (-1), 1) := by decide +kernel
theorem dX3_readItem_26 : decode cX3_readItem 26 = .ok (.istore_n 2, 1) := by decide +kernel
theorem dX3_readItem_27 : decode cX3_readItem 27 = .ok (.iload_n 2, 1) := by decide +kernel
theorem dX3_readItem_28 : decode cX3_readItem 28 = .ok (.invokestatic 108, 3) := by decide +kernel
theorem dX3_readItem_31 : decode cX3_readItem 31 = .ok (.ifCond .eq 10, 3) := by decide +kernel
theorem dX3_readItem_34 : decode cX3_readItem 34 = .ok (.aload_n 0, 1) := by decide +kernel
theorem dX3_readItem_35 : decode cX3_readItem 35 = .ok (.aload_n 1, 1) := by decide +kernel
theorem dX3_readItem_36 : decode cX3_readItem 36 = .ok (.iload_n 2, 1) := by decide +kernel
theorem dX3_readItem_37 : decode cX3_readItem 37 = .ok (.invokevirtual 111, 3) := by decide +kernel
theorem dX3_readItem_40 : decode cX3_readItem 40 = .ok (.ireturn, 1) := by decide +kernel
theorem dX3_readItem_41 : decode cX3_readItem 41 = .ok (.iload_n 2, 1) := by decide +kernel
theorem dX3_readItem_42 : decode cX3_readItem 42 = .ok (.tableswitch 44 7 9 #[26, 32, 38], 26) := by decide +kernel
theorem dX3_readItem_68 : decode cX3_readItem 68 = .ok (.aload_n 0, 1) := by decide +kernel
theorem dX3_readItem_69 : decode cX3_readItem 69 = .ok (.aload_n 1, 1) := by decide +kernel
theorem dX3_readItem_70 : decode cX3_readItem 70 = .ok (.invokevirtual 115, 3) := by decide +kernel
theorem dX3_readItem_73 : decode cX3_readItem 73 = .ok (.ireturn, 1) := by decide +kernel
theorem dX3_readItem_74 : decode cX3_readItem 74 = .ok (.aload_n 0, 1) := by decide +kernel
theorem dX3_readItem_75 : decode cX3_readItem 75 = .ok (.aload_n 1, 1) := by decide +kernel
theorem dX3_readItem_76 : decode cX3_readItem 76 = .ok (.invokevirtual 118, 3) := by decide +kernel
theorem dX3_readItem_79 : decode cX3_readItem 79 = .ok (.ireturn, 1) := by decide +kernel
theorem dX3_readItem_80 : decode cX3_readItem 80 = .ok (.aload_n 0, 1) := by decide +kernel
theorem dX3_readItem_81 : decode cX3_readItem 81 = .ok (.aload_n 1, 1) := by decide +kernel
theorem dX3_readItem_82 : decode cX3_readItem 82 = .ok (.invokevirtual 121, 3) := by decide +kernel
theorem dX3_readItem_85 : decode cX3_readItem 85 = .ok (.ireturn, 1) := by decide +kernel
theorem dX3_readItem_86 : decode cX3_readItem 86 = .ok (.iconst 0, 1) := by decide +kernel
theorem dX3_readItem_87 : decode cX3_readItem 87 = .ok (.ireturn, 1) := by decide +kernel
theorem dX3_readTenant_0 : decode cX3_readTenant 0 = .ok (.aload_n 1, 1) := by decide +kernel
theorem dX3_readTenant_1 : decode cX3_readTenant 1 = .ok (.getfield 124, 3) := by decide +kernel
theorem dX3_readTenant_4 : decode cX3_readTenant 4 = .ok (.bipush 8, 2) := by decide +kernel
theorem dX3_readTenant_6 : decode cX3_readTenant 6 = .ok (.if_icmp .lt 5, 3) := by decide +kernel
theorem dX3_readTenant_9 : decode cX3_readTenant 9 = .ok (.iconst 0, 1) := by decide +kernel
theorem dX3_readTenant_10 : decode cX3_readTenant 10 = .ok (.ireturn, 1) := by decide +kernel
theorem dX3_readTenant_11 : decode cX3_readTenant 11 = .ok (.aload_n 0, 1) := by decide +kernel
theorem dX3_readTenant_12 : decode cX3_readTenant 12 = .ok (.dup, 1) := by decide +kernel
theorem dX3_readTenant_13 : decode cX3_readTenant 13 = .ok (.getfield 25, 3) := by decide +kernel
theorem dX3_readTenant_16 : decode cX3_readTenant 16 = .ok (.iconst 1, 1) := by decide +kernel
theorem dX3_readTenant_17 : decode cX3_readTenant 17 = .ok (.iadd, 1) := by decide +kernel
theorem dX3_readTenant_18 : decode cX3_readTenant 18 = .ok (.putfield 25, 3) := by decide +kernel
theorem dX3_readTenant_21 : decode cX3_readTenant 21 = .ok (.aload_n 0, 1) := by decide +kernel
theorem dX3_readTenant_22 : decode cX3_readTenant 22 = .ok (.bipush 10, 2) := by decide +kernel
theorem dX3_readTenant_24 : decode cX3_readTenant 24 = .ok (.bipush 11, 2) := by decide +kernel
theorem dX3_readTenant_26 : decode cX3_readTenant 26 = .ok (.invokevirtual 129, 3) := by decide +kernel
theorem dX3_readTenant_29 : decode cX3_readTenant 29 = .ok (.istore_n 3, 1) := by decide +kernel
theorem dX3_readTenant_30 : decode cX3_readTenant 30 = .ok (.iload_n 3, 1) := by decide +kernel
theorem dX3_readTenant_31 : decode cX3_readTenant 31 = .ok (.iconst (-1), 1) := by decide +kernel
theorem dX3_readTenant_32 : decode cX3_readTenant 32 = .ok (.if_icmp .ne 5, 3) := by decide +kernel
theorem dX3_readTenant_35 : decode cX3_readTenant 35 = .ok (.iconst 0, 1) := by decide +kernel
theorem dX3_readTenant_36 : decode cX3_readTenant 36 = .ok (.ireturn, 1) := by decide +kernel
theorem dX3_readTenant_37 : decode cX3_readTenant 37 = .ok (.aload_n 0, 1) := by decide +kernel
theorem dX3_readTenant_38 : decode cX3_readTenant 38 = .ok (.bipush 11, 2) := by decide +kernel
theorem dX3_readTenant_40 : decode cX3_readTenant 40 = .ok (.sipush 9999, 3) := by decide +kernel
theorem dX3_readTenant_43 : decode cX3_readTenant 43 = .ok (.invokevirtual 129, 3) := by decide +kernel
theorem dX3_readTenant_46 : decode cX3_readTenant 46 = .ok (.istore 4, 2) := by decide +kernel
theorem dX3_readTenant_48 : decode cX3_readTenant 48 = .ok (.iload 4, 2) := by decide +kernel
theorem dX3_readTenant_50 : decode cX3_readTenant 50 = .ok (.iconst (-1), 1) := by decide +kernel
theorem dX3_readTenant_51 : decode cX3_readTenant 51 = .ok (.if_icmp .ne 5, 3) := by decide +kernel
theorem dX3_readTenant_54 : decode cX3_readTenant 54 = .ok (.iconst 0, 1) := by decide +kernel
theorem dX3_readTenant_55 : decode cX3_readTenant 55 = .ok (.ireturn, 1) := by decide +kernel
theorem dX3_readTenant_56 : decode cX3_readTenant 56 = .ok (.aload_n 0, 1) := by decide +kernel
theorem dX3_readTenant_57 : decode cX3_readTenant 57 = .ok (.bipush 12, 2) := by decide +kernel
theorem dX3_readTenant_59 : decode cX3_readTenant 59 = .ok (.bipush 99, 2) := by decide +kernel
theorem dX3_readTenant_61 : decode cX3_readTenant 61 = .ok (.invokevirtual 129, 3) := by decide +kernel
theorem dX3_readTenant_64 : decode cX3_readTenant 64 = .ok (.istore 5, 2) := by decide +kernel
theorem dX3_readTenant_66 : decode cX3_readTenant 66 = .ok (.iload 5, 2) := by decide +kernel
theorem dX3_readTenant_68 : decode cX3_readTenant 68 = .ok (.iconst (-1), 1) := by decide +kernel
theorem dX3_readTenant_69 : decode cX3_readTenant 69 = .ok (.if_icmp .ne 5, 3) := by decide +kernel
theorem dX3_readTenant_72 : decode cX3_readTenant 72 = .ok (.iconst 0, 1) := by decide +kernel
theorem dX3_readTenant_73 : decode cX3_readTenant 73 = .ok (.ireturn, 1) := by decide +kernel
theorem dX3_readTenant_74 : decode cX3_readTenant 74 = .ok (.aload_n 1, 1) := by decide +kernel
theorem dX3_readTenant_75 : decode cX3_readTenant 75 = .ok (.iload_n 2, 1) := by decide +kernel
theorem dX3_readTenant_76 : decode cX3_readTenant 76 = .ok (.iload_n 3, 1) := by decide +kernel
theorem dX3_readTenant_77 : decode cX3_readTenant 77 = .ok (.invokevirtual 132, 3) := by decide +kernel
theorem dX3_readTenant_80 : decode cX3_readTenant 80 = .ok (.istore 6, 2) := by decide +kernel
theorem dX3_readTenant_82 : decode cX3_readTenant 82 = .ok (.aload_n 1, 1) := by decide +kernel
theorem dX3_readTenant_83 : decode cX3_readTenant 83 = .ok (.getfield 135, 3) := by decide +kernel
theorem dX3_readTenant_86 : decode cX3_readTenant 86 = .ok (.iload 6, 2) := by decide +kernel
theorem dX3_readTenant_88 : decode cX3_readTenant 88 = .ok (.iload 4, 2) := by decide +kernel
theorem dX3_readTenant_90 : decode cX3_readTenant 90 = .ok (.iastore, 1) := by decide +kernel
theorem dX3_readTenant_91 : decode cX3_readTenant 91 = .ok (.aload_n 1, 1) := by decide +kernel
theorem dX3_readTenant_92 : decode cX3_readTenant 92 = .ok (.getfield 137, 3) := by decide +kernel
theorem dX3_readTenant_95 : decode cX3_readTenant 95 = .ok (.iload 6, 2) := by decide +kernel
theorem dX3_readTenant_97 : decode cX3_readTenant 97 = .ok (.bipush 12, 2) := by decide +kernel
theorem dX3_readTenant_99 : decode cX3_readTenant 99 = .ok (.imul, 1) := by decide +kernel
theorem dX3_readTenant_100 : decode cX3_readTenant 100 = .ok (.iload_n 3, 1) := by decide +kernel
theorem dX3_readTenant_101 : decode cX3_readTenant 101 = .ok (.iadd, 1) := by decide +kernel
theorem dX3_readTenant_102 : decode cX3_readTenant 102 = .ok (.iload 5, 2) := by decide +kernel
theorem dX3_readTenant_104 : decode cX3_readTenant 104 = .ok (.iastore, 1) := by decide +kernel
theorem dX3_readTenant_105 : decode cX3_readTenant 105 = .ok (.iconst 1, 1) := by decide +kernel
theorem dX3_readTenant_106 : decode cX3_readTenant 106 = .ok (.ireturn, 1) := by decide +kernel
theorem dX3_readDust_0 : decode cX3_readDust 0 = .ok (.aload_n 0, 1) := by decide +kernel
theorem dX3_readDust_1 : decode cX3_readDust 1 = .ok (.dup, 1) := by decide +kernel
theorem dX3_readDust_2 : decode cX3_readDust 2 = .ok (.getfield 25, 3) := by decide +kernel
theorem dX3_readDust_5 : decode cX3_readDust 5 = .ok (.iconst 1, 1) := by decide +kernel
theorem dX3_readDust_6 : decode cX3_readDust 6 = .ok (.iadd, 1) := by decide +kernel
theorem dX3_readDust_7 : decode cX3_readDust 7 = .ok (.putfield 25, 3) := by decide +kernel
theorem dX3_readDust_10 : decode cX3_readDust 10 = .ok (.aload_n 0, 1) := by decide +kernel
theorem dX3_readDust_11 : decode cX3_readDust 11 = .ok (.bipush 11, 2) := by decide +kernel
theorem dX3_readDust_13 : decode cX3_readDust 13 = .ok (.invokevirtual 139, 3) := by decide +kernel
theorem dX3_readDust_16 : decode cX3_readDust 16 = .ok (.istore_n 2, 1) := by decide +kernel
theorem dX3_readDust_17 : decode cX3_readDust 17 = .ok (.iload_n 2, 1) := by decide +kernel
theorem dX3_readDust_18 : decode cX3_readDust 18 = .ok (.iconst (-1), 1) := by decide +kernel
theorem dX3_readDust_19 : decode cX3_readDust 19 = .ok (.if_icmp .ne 5, 3) := by decide +kernel
theorem dX3_readDust_22 : decode cX3_readDust 22 = .ok (.iconst 0, 1) := by decide +kernel
theorem dX3_readDust_23 : decode cX3_readDust 23 = .ok (.ireturn, 1) := by decide +kernel
theorem dX3_readDust_24 : decode cX3_readDust 24 = .ok (.aload_n 0, 1) := by decide +kernel
theorem dX3_readDust_25 : decode cX3_readDust 25 = .ok (.sipush 9999, 3) := by decide +kernel
theorem dX3_readDust_28 : decode cX3_readDust 28 = .ok (.invokevirtual 139, 3) := by decide +kernel
theorem dX3_readDust_31 : decode cX3_readDust 31 = .ok (.istore_n 3, 1) := by decide +kernel
theorem dX3_readDust_32 : decode cX3_readDust 32 = .ok (.iload_n 3, 1) := by decide +kernel
theorem dX3_readDust_33 : decode cX3_readDust 33 = .ok (.iconst (-1), 1) := by decide +kernel
theorem dX3_readDust_34 : decode cX3_readDust 34 = .ok (.if_icmp .ne 5, 3) := by decide +kernel
theorem dX3_readDust_37 : decode cX3_readDust 37 = .ok (.iconst 0, 1) := by decide +kernel
theorem dX3_readDust_38 : decode cX3_readDust 38 = .ok (.ireturn, 1) := by decide +kernel
theorem dX3_readDust_39 : decode cX3_readDust 39 = .ok (.aload_n 1, 1) := by decide +kernel
theorem dX3_readDust_40 : decode cX3_readDust 40 = .ok (.getfield 142, 3) := by decide +kernel
theorem dX3_readDust_43 : decode cX3_readDust 43 = .ok (.iload_n 2, 1) := by decide +kernel
theorem dX3_readDust_44 : decode cX3_readDust 44 = .ok (.iload_n 3, 1) := by decide +kernel
theorem dX3_readDust_45 : decode cX3_readDust 45 = .ok (.iastore, 1) := by decide +kernel
theorem dX3_readDust_46 : decode cX3_readDust 46 = .ok (.iconst 1, 1) := by decide +kernel
theorem dX3_readDust_47 : decode cX3_readDust 47 = .ok (.ireturn, 1) := by decide +kernel
theorem dX3_readFall_0 : decode cX3_readFall 0 = .ok (.aload_n 0, 1) := by decide +kernel
theorem dX3_readFall_1 : decode cX3_readFall 1 = .ok (.dup, 1) := by decide +kernel
theorem dX3_readFall_2 : decode cX3_readFall 2 = .ok (.getfield 25, 3) := by decide +kernel
theorem dX3_readFall_5 : decode cX3_readFall 5 = .ok (.iconst 1, 1) := by decide +kernel
theorem dX3_readFall_6 : decode cX3_readFall 6 = .ok (.iadd, 1) := by decide +kernel
theorem dX3_readFall_7 : decode cX3_readFall 7 = .ok (.putfield 25, 3) := by decide +kernel
theorem dX3_readFall_10 : decode cX3_readFall 10 = .ok (.aload_n 0, 1) := by decide +kernel
theorem dX3_readFall_11 : decode cX3_readFall 11 = .ok (.bipush 99, 2) := by decide +kernel
theorem dX3_readFall_13 : decode cX3_readFall 13 = .ok (.invokevirtual 139, 3) := by decide +kernel
theorem dX3_readFall_16 : decode cX3_readFall 16 = .ok (.istore_n 2, 1) := by decide +kernel
theorem dX3_readFall_17 : decode cX3_readFall 17 = .ok (.iload_n 2, 1) := by decide +kernel
theorem dX3_readFall_18 : decode cX3_readFall 18 = .ok (.iconst (-1), 1) := by decide +kernel
theorem dX3_readFall_19 : decode cX3_readFall 19 = .ok (.if_icmp .ne 5, 3) := by decide +kernel
theorem dX3_readFall_22 : decode cX3_readFall 22 = .ok (.iconst 0, 1) := by decide +kernel
theorem dX3_readFall_23 : decode cX3_readFall 23 = .ok (.ireturn, 1) := by decide +kernel
theorem dX3_readFall_24 : decode cX3_readFall 24 = .ok (.aload_n 1, 1) := by decide +kernel
theorem dX3_readFall_25 : decode cX3_readFall 25 = .ok (.iload_n 2, 1) := by decide +kernel
theorem dX3_readFall_26 : decode cX3_readFall 26 = .ok (.putfield 144, 3) := by decide +kernel
theorem dX3_readFall_29 : decode cX3_readFall 29 = .ok (.iconst 1, 1) := by decide +kernel
theorem dX3_readFall_30 : decode cX3_readFall 30 = .ok (.ireturn, 1) := by decide +kernel
theorem dX3_readDraught_0 : decode cX3_readDraught 0 = .ok (.aload_n 0, 1) := by decide +kernel
theorem dX3_readDraught_1 : decode cX3_readDraught 1 = .ok (.dup, 1) := by decide +kernel
theorem dX3_readDraught_2 : decode cX3_readDraught 2 = .ok (.getfield 25, 3) := by decide +kernel
theorem dX3_readDraught_5 : decode cX3_readDraught 5 = .ok (.iconst 1, 1) := by decide +kernel
theorem dX3_readDraught_6 : decode cX3_readDraught 6 = .ok (.iadd, 1) := by decide +kernel
theorem dX3_readDraught_7 : decode cX3_readDraught 7 = .ok (.putfield 25, 3) := by decide +kernel
theorem dX3_readDraught_10 : decode cX3_readDraught 10 = .ok (.aload_n 0, 1) := by decide +kernel
theorem dX3_readDraught_11 : decode cX3_readDraught 11 = .ok (.iconst 4, 1) := by decide +kernel
theorem dX3_readDraught_12 : decode cX3_readDraught 12 = .ok (.invokevirtual 104, 3) := by decide +kernel
theorem dX3_readDraught_15 : decode cX3_readDraught 15 = .ok (.istore_n 2, 1) := by decide +kernel
theorem dX3_readDraught_16 : decode cX3_readDraught 16 = .ok (.aload_n 0, 1) := by decide +kernel
theorem dX3_readDraught_17 : decode cX3_readDraught 17 = .ok (.iconst 3, 1) := by decide +kernel
theorem dX3_readDraught_18 : decode cX3_readDraught 18 = .ok (.invokevirtual 139, 3) := by decide +kernel
theorem dX3_readDraught_21 : decode cX3_readDraught 21 = .ok (.istore_n 3, 1) := by decide +kernel
theorem dX3_readDraught_22 : decode cX3_readDraught 22 = .ok (.iload_n 3, 1) := by decide +kernel
theorem dX3_readDraught_23 : decode cX3_readDraught 23 = .ok (.iconst (-1), 1) := by decide +kernel
theorem dX3_readDraught_24 : decode cX3_readDraught 24 = .ok (.if_icmp .ne 5, 3) := by decide +kernel
theorem dX3_readDraught_27 : decode cX3_readDraught 27 = .ok (.iconst 0, 1) := by decide +kernel
theorem dX3_readDraught_28 : decode cX3_readDraught 28 = .ok (.ireturn, 1) := by decide +kernel
theorem dX3_readDraught_29 : decode cX3_readDraught 29 = .ok (.aload_n 1, 1) := by decide +kernel
theorem dX3_readDraught_30 : decode cX3_readDraught 30 = .ok (.iload_n 2, 1) := by decide +kernel
theorem dX3_readDraught_31 : decode cX3_readDraught 31 = .ok (.ifCond .eq 8, 3) := by decide +kernel
theorem dX3_readDraught_34 : decode cX3_readDraught 34 = .ok (.iload_n 3, 1) := by decide +kernel
theorem dX3_readDraught_35 : decode cX3_readDraught 35 = .ok (.ineg, 1) := by decide +kernel
theorem dX3_readDraught_36 : decode cX3_readDraught 36 = .ok (.goto 4, 3) := by decide +kernel
theorem dX3_readDraught_39 : decode cX3_readDraught 39 = .ok (.iload_n 3, 1) := by decide +kernel
theorem dX3_readDraught_40 : decode cX3_readDraught 40 = .ok (.putfield 146, 3) := by decide +kernel
theorem dX3_readDraught_43 : decode cX3_readDraught 43 = .ok (.iconst 1, 1) := by decide +kernel
theorem dX3_readDraught_44 : decode cX3_readDraught 44 = .ok (.ireturn, 1) := by decide +kernel
theorem dX3_takes_0 : decode cX3_takes 0 = .ok (.aload_n 0, 1) := by decide +kernel
theorem dX3_takes_1 : decode cX3_takes 1 = .ok (.getfield 9, 3) := by decide +kernel
theorem dX3_takes_4 : decode cX3_takes 4 = .ok (.aload_n 0, 1) := by decide +kernel
theorem dX3_takes_5 : decode cX3_takes 5 = .ok (.getfield 25, 3) := by decide +kernel
theorem dX3_takes_8 : decode cX3_takes 8 = .ok (.iaload, 1) := by decide +kernel
theorem dX3_takes_9 : decode cX3_takes 9 = .ok (.iload_n 1, 1) := by decide +kernel
theorem dX3_takes_10 : decode cX3_takes 10 = .ok (.if_icmp .eq 5, 3) := by decide +kernel
theorem dX3_takes_13 : decode cX3_takes 13 = .ok (.iconst 0, 1) := by decide +kernel
theorem dX3_takes_14 : decode cX3_takes 14 = .ok (.ireturn, 1) := by decide +kernel
theorem dX3_takes_15 : decode cX3_takes 15 = .ok (.aload_n 0, 1) := by decide +kernel
theorem dX3_takes_16 : decode cX3_takes 16 = .ok (.dup, 1) := by decide +kernel
theorem dX3_takes_17 : decode cX3_takes 17 = .ok (.getfield 25, 3) := by decide +kernel
theorem dX3_takes_20 : decode cX3_takes 20 = .ok (.iconst 1, 1) := by decide +kernel
theorem dX3_takes_21 : decode cX3_takes 21 = .ok (.iadd, 1) := by decide +kernel
theorem dX3_takes_22 : decode cX3_takes 22 = .ok (.putfield 25, 3) := by decide +kernel
theorem dX3_takes_25 : decode cX3_takes 25 = .ok (.iconst 1, 1) := by decide +kernel
theorem dX3_takes_26 : decode cX3_takes 26 = .ok (.ireturn, 1) := by decide +kernel
theorem dX3_numberBehind_0 : decode cX3_numberBehind 0 = .ok (.aload_n 0, 1) := by decide +kernel
theorem dX3_numberBehind_1 : decode cX3_numberBehind 1 = .ok (.getfield 9, 3) := by decide +kernel
theorem dX3_numberBehind_4 : decode cX3_numberBehind 4 = .ok (.aload_n 0, 1) := by decide +kernel
theorem dX3_numberBehind_5 : decode cX3_numberBehind 5 = .ok (.getfield 25, 3) := by decide +kernel
theorem dX3_numberBehind_8 : decode cX3_numberBehind 8 = .ok (.iaload, 1) := by decide +kernel
theorem dX3_numberBehind_9 : decode cX3_numberBehind 9 = .ok (.iconst 1, 1) := by decide +kernel
theorem dX3_numberBehind_10 : decode cX3_numberBehind 10 = .ok (.if_icmp .ne 16, 3) := by decide +kernel
theorem dX3_numberBehind_13 : decode cX3_numberBehind 13 = .ok (.aload_n 0, 1) := by decide +kernel
theorem dX3_numberBehind_14 : decode cX3_numberBehind 14 = .ok (.getfield 18, 3) := by decide +kernel
theorem dX3_numberBehind_17 : decode cX3_numberBehind 17 = .ok (.aload_n 0, 1) := by decide +kernel
theorem dX3_numberBehind_18 : decode cX3_numberBehind 18 = .ok (.getfield 25, 3) := by decide +kernel
theorem dX3_numberBehind_21 : decode cX3_numberBehind 21 = .ok (.iaload, 1) := by decide +kernel
theorem dX3_numberBehind_22 : decode cX3_numberBehind 22 = .ok (.iload_n 1, 1) := by decide +kernel
theorem dX3_numberBehind_23 : decode cX3_numberBehind 23 = .ok (.if_icmp .eq 5, 3) := by decide +kernel
theorem dX3_numberBehind_26 : decode cX3_numberBehind 26 = .ok (.iconst 0, 1) := by decide +kernel
theorem dX3_numberBehind_27 : decode cX3_numberBehind 27 = .ok (.ireturn, 1) := by decide +kernel
theorem dX3_numberBehind_28 : decode cX3_numberBehind 28 = .ok (.aload_n 0, 1) := by decide +kernel
theorem dX3_numberBehind_29 : decode cX3_numberBehind 29 = .ok (.dup, 1) := by decide +kernel
theorem dX3_numberBehind_30 : decode cX3_numberBehind 30 = .ok (.getfield 25, 3) := by decide +kernel
theorem dX3_numberBehind_33 : decode cX3_numberBehind 33 = .ok (.iconst 1, 1) := by decide +kernel
theorem dX3_numberBehind_34 : decode cX3_numberBehind 34 = .ok (.iadd, 1) := by decide +kernel
theorem dX3_numberBehind_35 : decode cX3_numberBehind 35 = .ok (.putfield 25, 3) := by decide +kernel
theorem dX3_numberBehind_38 : decode cX3_numberBehind 38 = .ok (.aload_n 0, 1) := by decide +kernel
theorem dX3_numberBehind_39 : decode cX3_numberBehind 39 = .ok (.iload_n 2, 1) := by decide +kernel
theorem dX3_numberBehind_40 : decode cX3_numberBehind 40 = .ok (.invokevirtual 139, 3) := by decide +kernel
theorem dX3_numberBehind_43 : decode cX3_numberBehind 43 = .ok (.ireturn, 1) := by decide +kernel
theorem dX3_takeNumber_0 : decode cX3_takeNumber 0 = .ok (.aload_n 0, 1) := by decide +kernel
theorem dX3_takeNumber_1 : decode cX3_takeNumber 1 = .ok (.getfield 9, 3) := by decide +kernel
theorem dX3_takeNumber_4 : decode cX3_takeNumber 4 = .ok (.aload_n 0, 1) := by decide +kernel
theorem dX3_takeNumber_5 : decode cX3_takeNumber 5 = .ok (.getfield 25, 3) := by decide +kernel
theorem dX3_takeNumber_8 : decode cX3_takeNumber 8 = .ok (.iaload, 1) := by decide +kernel
theorem dX3_takeNumber_9 : decode cX3_takeNumber 9 = .ok (.iconst 2, 1) := by decide +kernel
theorem dX3_takeNumber_10 : decode cX3_takeNumber 10 = .ok (.if_icmp .ne 16, 3) := by decide +kernel
theorem dX3_takeNumber_13 : decode cX3_takeNumber 13 = .ok (.aload_n 0, 1) := by decide +kernel
theorem dX3_takeNumber_14 : decode cX3_takeNumber 14 = .ok (.getfield 18, 3) := by decide +kernel
theorem dX3_takeNumber_17 : decode cX3_takeNumber 17 = .ok (.aload_n 0, 1) := by decide +kernel
theorem dX3_takeNumber_18 : decode cX3_takeNumber 18 = .ok (.getfield 25, 3) := by decide +kernel
theorem dX3_takeNumber_21 : decode cX3_takeNumber 21 = .ok (.iaload, 1) := by decide +kernel
theorem dX3_takeNumber_22 : decode cX3_takeNumber 22 = .ok (.iload_n 1, 1) := by decide +kernel
theorem dX3_takeNumber_23 : decode cX3_takeNumber 23 = .ok (.if_icmp .le 5, 3) := by decide +kernel
theorem dX3_takeNumber_26 : decode cX3_takeNumber 26 = .ok (.iconst (-1), 1) := by decide +kernel
theorem dX3_takeNumber_27 : decode cX3_takeNumber 27 = .ok (.ireturn, 1) := by decide +kernel
theorem dX3_takeNumber_28 : decode cX3_takeNumber 28 = .ok (.aload_n 0, 1) := by decide +kernel
theorem dX3_takeNumber_29 : decode cX3_takeNumber 29 = .ok (.getfield 18, 3) := by decide +kernel
theorem dX3_takeNumber_32 : decode cX3_takeNumber 32 = .ok (.aload_n 0, 1) := by decide +kernel
theorem dX3_takeNumber_33 : decode cX3_takeNumber 33 = .ok (.getfield 25, 3) := by decide +kernel
theorem dX3_takeNumber_36 : decode cX3_takeNumber 36 = .ok (.iaload, 1) := by decide +kernel
theorem dX3_takeNumber_37 : decode cX3_takeNumber 37 = .ok (.istore_n 2, 1) := by decide +kernel
theorem dX3_takeNumber_38 : decode cX3_takeNumber 38 = .ok (.aload_n 0, 1) := by decide +kernel
theorem dX3_takeNumber_39 : decode cX3_takeNumber 39 = .ok (.dup, 1) := by decide +kernel
theorem dX3_takeNumber_40 : decode cX3_takeNumber 40 = .ok (.getfield 25, 3) := by decide +kernel
theorem dX3_takeNumber_43 : decode cX3_takeNumber 43 = .ok (.iconst 1, 1) := by decide +kernel
theorem dX3_takeNumber_44 : decode cX3_takeNumber 44 = .ok (.iadd, 1) := by decide +kernel
theorem dX3_takeNumber_45 : decode cX3_takeNumber 45 = .ok (.putfield 25, 3) := by decide +kernel
theorem dX3_takeNumber_48 : decode cX3_takeNumber 48 = .ok (.iload_n 2, 1) := by decide +kernel
theorem dX3_takeNumber_49 : decode cX3_takeNumber 49 = .ok (.ireturn, 1) := by decide +kernel
theorem dJ6_bitCount_0f7a4_0 : decode cJ6_bitCount_0f7a4 0 = .ok (.iload_n 0, 1) := by decide +kernel
theorem dJ6_bitCount_0f7a4_1 : decode cJ6_bitCount_0f7a4 1 = .ok (.iload_n 0, 1) := by decide +kernel
theorem dJ6_bitCount_0f7a4_2 : decode cJ6_bitCount_0f7a4 2 = .ok (.iconst 1, 1) := by decide +kernel
theorem dJ6_bitCount_0f7a4_3 : decode cJ6_bitCount_0f7a4 3 = .ok (.iushr, 1) := by decide +kernel
theorem dJ6_bitCount_0f7a4_4 : decode cJ6_bitCount_0f7a4 4 = .ok (.ldc_w 265, 3) := by decide +kernel
theorem dJ6_bitCount_0f7a4_7 : decode cJ6_bitCount_0f7a4 7 = .ok (.iand, 1) := by decide +kernel
theorem dJ6_bitCount_0f7a4_8 : decode cJ6_bitCount_0f7a4 8 = .ok (.isub, 1) := by decide +kernel
theorem dJ6_bitCount_0f7a4_9 : decode cJ6_bitCount_0f7a4 9 = .ok (.istore_n 0, 1) := by decide +kernel
theorem dJ6_bitCount_0f7a4_10 : decode cJ6_bitCount_0f7a4 10 = .ok (.iload_n 0, 1) := by decide +kernel
theorem dJ6_bitCount_0f7a4_11 : decode cJ6_bitCount_0f7a4 11 = .ok (.ldc_w 266, 3) := by decide +kernel
theorem dJ6_bitCount_0f7a4_14 : decode cJ6_bitCount_0f7a4 14 = .ok (.iand, 1) := by decide +kernel
theorem dJ6_bitCount_0f7a4_15 : decode cJ6_bitCount_0f7a4 15 = .ok (.iload_n 0, 1) := by decide +kernel
theorem dJ6_bitCount_0f7a4_16 : decode cJ6_bitCount_0f7a4 16 = .ok (.iconst 2, 1) := by decide +kernel
theorem dJ6_bitCount_0f7a4_17 : decode cJ6_bitCount_0f7a4 17 = .ok (.iushr, 1) := by decide +kernel
theorem dJ6_bitCount_0f7a4_18 : decode cJ6_bitCount_0f7a4 18 = .ok (.ldc_w 266, 3) := by decide +kernel
theorem dJ6_bitCount_0f7a4_21 : decode cJ6_bitCount_0f7a4 21 = .ok (.iand, 1) := by decide +kernel
theorem dJ6_bitCount_0f7a4_22 : decode cJ6_bitCount_0f7a4 22 = .ok (.iadd, 1) := by decide +kernel
theorem dJ6_bitCount_0f7a4_23 : decode cJ6_bitCount_0f7a4 23 = .ok (.istore_n 0, 1) := by decide +kernel
theorem dJ6_bitCount_0f7a4_24 : decode cJ6_bitCount_0f7a4 24 = .ok (.iload_n 0, 1) := by decide +kernel
theorem dJ6_bitCount_0f7a4_25 : decode cJ6_bitCount_0f7a4 25 = .ok (.iload_n 0, 1) := by decide +kernel
theorem dJ6_bitCount_0f7a4_26 : decode cJ6_bitCount_0f7a4 26 = .ok (.iconst 4, 1) := by decide +kernel
theorem dJ6_bitCount_0f7a4_27 : decode cJ6_bitCount_0f7a4 27 = .ok (.iushr, 1) := by decide +kernel
theorem dJ6_bitCount_0f7a4_28 : decode cJ6_bitCount_0f7a4 28 = .ok (.iadd, 1) := by decide +kernel
theorem dJ6_bitCount_0f7a4_29 : decode cJ6_bitCount_0f7a4 29 = .ok (.ldc_w 267, 3) := by decide +kernel
theorem dJ6_bitCount_0f7a4_32 : decode cJ6_bitCount_0f7a4 32 = .ok (.iand, 1) := by decide +kernel
theorem dJ6_bitCount_0f7a4_33 : decode cJ6_bitCount_0f7a4 33 = .ok (.istore_n 0, 1) := by decide +kernel
theorem dJ6_bitCount_0f7a4_34 : decode cJ6_bitCount_0f7a4 34 = .ok (.iload_n 0, 1) := by decide +kernel
theorem dJ6_bitCount_0f7a4_35 : decode cJ6_bitCount_0f7a4 35 = .ok (.iload_n 0, 1) := by decide +kernel
theorem dJ6_bitCount_0f7a4_36 : decode cJ6_bitCount_0f7a4 36 = .ok (.bipush 8, 2) := by decide +kernel
theorem dJ6_bitCount_0f7a4_38 : decode cJ6_bitCount_0f7a4 38 = .ok (.iushr, 1) := by decide +kernel
theorem dJ6_bitCount_0f7a4_39 : decode cJ6_bitCount_0f7a4 39 = .ok (.iadd, 1) := by decide +kernel
theorem dJ6_bitCount_0f7a4_40 : decode cJ6_bitCount_0f7a4 40 = .ok (.istore_n 0, 1) := by decide +kernel
theorem dJ6_bitCount_0f7a4_41 : decode cJ6_bitCount_0f7a4 41 = .ok (.iload_n 0, 1) := by decide +kernel
theorem dJ6_bitCount_0f7a4_42 : decode cJ6_bitCount_0f7a4 42 = .ok (.iload_n 0, 1) := by decide +kernel
theorem dJ6_bitCount_0f7a4_43 : decode cJ6_bitCount_0f7a4 43 = .ok (.bipush 16, 2) := by decide +kernel
theorem dJ6_bitCount_0f7a4_45 : decode cJ6_bitCount_0f7a4 45 = .ok (.iushr, 1) := by decide +kernel
theorem dJ6_bitCount_0f7a4_46 : decode cJ6_bitCount_0f7a4 46 = .ok (.iadd, 1) := by decide +kernel
theorem dJ6_bitCount_0f7a4_47 : decode cJ6_bitCount_0f7a4 47 = .ok (.istore_n 0, 1) := by decide +kernel
theorem dJ6_bitCount_0f7a4_48 : decode cJ6_bitCount_0f7a4 48 = .ok (.iload_n 0, 1) := by decide +kernel
theorem dJ6_bitCount_0f7a4_49 : decode cJ6_bitCount_0f7a4 49 = .ok (.bipush 63, 2) := by decide +kernel
theorem dJ6_bitCount_0f7a4_51 : decode cJ6_bitCount_0f7a4 51 = .ok (.iand, 1) := by decide +kernel
theorem dJ6_bitCount_0f7a4_52 : decode cJ6_bitCount_0f7a4 52 = .ok (.ireturn, 1) := by decide +kernel
theorem dJ9_floorMod_7cf53_0 : decode cJ9_floorMod_7cf53 0 = .ok (.iload_n 0, 1) := by decide +kernel
theorem dJ9_floorMod_7cf53_1 : decode cJ9_floorMod_7cf53 1 = .ok (.iload_n 1, 1) := by decide +kernel
theorem dJ9_floorMod_7cf53_2 : decode cJ9_floorMod_7cf53 2 = .ok (.irem, 1) := by decide +kernel
theorem dJ9_floorMod_7cf53_3 : decode cJ9_floorMod_7cf53 3 = .ok (.istore_n 2, 1) := by decide +kernel
theorem dJ9_floorMod_7cf53_4 : decode cJ9_floorMod_7cf53 4 = .ok (.iload_n 0, 1) := by decide +kernel
theorem dJ9_floorMod_7cf53_5 : decode cJ9_floorMod_7cf53 5 = .ok (.iload_n 1, 1) := by decide +kernel
theorem dJ9_floorMod_7cf53_6 : decode cJ9_floorMod_7cf53 6 = .ok (.ixor, 1) := by decide +kernel
theorem dJ9_floorMod_7cf53_7 : decode cJ9_floorMod_7cf53 7 = .ok (.ifCond .ge 11, 3) := by decide +kernel
theorem dJ9_floorMod_7cf53_10 : decode cJ9_floorMod_7cf53 10 = .ok (.iload_n 2, 1) := by decide +kernel
theorem dJ9_floorMod_7cf53_11 : decode cJ9_floorMod_7cf53 11 = .ok (.ifCond .eq 7, 3) := by decide +kernel
theorem dJ9_floorMod_7cf53_14 : decode cJ9_floorMod_7cf53 14 = .ok (.iload_n 2, 1) := by decide +kernel
theorem dJ9_floorMod_7cf53_15 : decode cJ9_floorMod_7cf53 15 = .ok (.iload_n 1, 1) := by decide +kernel
theorem dJ9_floorMod_7cf53_16 : decode cJ9_floorMod_7cf53 16 = .ok (.iadd, 1) := by decide +kernel
theorem dJ9_floorMod_7cf53_17 : decode cJ9_floorMod_7cf53 17 = .ok (.ireturn, 1) := by decide +kernel
theorem dJ9_floorMod_7cf53_18 : decode cJ9_floorMod_7cf53 18 = .ok (.iload_n 2, 1) := by decide +kernel
theorem dJ9_floorMod_7cf53_19 : decode cJ9_floorMod_7cf53 19 = .ok (.ireturn, 1) := by decide +kernel
theorem dJ9_min_7cf53_0 : decode cJ9_min_7cf53 0 = .ok (.iload_n 0, 1) := by decide +kernel
theorem dJ9_min_7cf53_1 : decode cJ9_min_7cf53 1 = .ok (.iload_n 1, 1) := by decide +kernel
theorem dJ9_min_7cf53_2 : decode cJ9_min_7cf53 2 = .ok (.if_icmp .gt 7, 3) := by decide +kernel
theorem dJ9_min_7cf53_5 : decode cJ9_min_7cf53 5 = .ok (.iload_n 0, 1) := by decide +kernel
theorem dJ9_min_7cf53_6 : decode cJ9_min_7cf53 6 = .ok (.goto 4, 3) := by decide +kernel
theorem dJ9_min_7cf53_9 : decode cJ9_min_7cf53 9 = .ok (.iload_n 1, 1) := by decide +kernel
theorem dJ9_min_7cf53_10 : decode cJ9_min_7cf53 10 = .ok (.ireturn, 1) := by decide +kernel
theorem dJ0_length_8abf5_0 : decode cJ0_length_8abf5 0 = .ok (.aload_n 0, 1) := by decide +kernel
theorem dJ0_length_8abf5_1 : decode cJ0_length_8abf5 1 = .ok (.getfield 9, 3) := by decide +kernel
theorem dJ0_length_8abf5_4 : decode cJ0_length_8abf5 4 = .ok (.arraylength, 1) := by decide +kernel
theorem dJ0_length_8abf5_5 : decode cJ0_length_8abf5 5 = .ok (.aload_n 0, 1) := by decide +kernel
theorem dJ0_length_8abf5_6 : decode cJ0_length_8abf5 6 = .ok (.invokevirtual 335, 3) := by decide +kernel
theorem dJ0_length_8abf5_9 : decode cJ0_length_8abf5 9 = .ok (.ishr, 1) := by decide +kernel
theorem dJ0_length_8abf5_10 : decode cJ0_length_8abf5 10 = .ok (.ireturn, 1) := by decide +kernel
theorem dJ0_charAt_5068e_0 : decode cJ0_charAt_5068e 0 = .ok (.aload_n 0, 1) := by decide +kernel
theorem dJ0_charAt_5068e_1 : decode cJ0_charAt_5068e 1 = .ok (.invokevirtual 492, 3) := by decide +kernel
theorem dJ0_charAt_5068e_4 : decode cJ0_charAt_5068e 4 = .ok (.ifCond .eq 12, 3) := by decide +kernel
theorem dJ0_charAt_5068e_7 : decode cJ0_charAt_5068e 7 = .ok (.aload_n 0, 1) := by decide +kernel
theorem dJ0_charAt_5068e_8 : decode cJ0_charAt_5068e 8 = .ok (.getfield 9, 3) := by decide +kernel
theorem dJ0_charAt_5068e_11 : decode cJ0_charAt_5068e 11 = .ok (.iload_n 1, 1) := by decide +kernel
theorem dJ0_charAt_5068e_12 : decode cJ0_charAt_5068e 12 = .ok (.invokestatic 495, 3) := by decide +kernel
theorem dJ0_charAt_5068e_15 : decode cJ0_charAt_5068e 15 = .ok (.ireturn, 1) := by decide +kernel
theorem dJ0_charAt_5068e_16 : decode cJ0_charAt_5068e 16 = .ok (.aload_n 0, 1) := by decide +kernel
theorem dJ0_charAt_5068e_17 : decode cJ0_charAt_5068e 17 = .ok (.getfield 9, 3) := by decide +kernel
theorem dJ0_charAt_5068e_20 : decode cJ0_charAt_5068e 20 = .ok (.iload_n 1, 1) := by decide +kernel
theorem dJ0_charAt_5068e_21 : decode cJ0_charAt_5068e 21 = .ok (.invokestatic 498, 3) := by decide +kernel
theorem dJ0_charAt_5068e_24 : decode cJ0_charAt_5068e 24 = .ok (.ireturn, 1) := by decide +kernel
theorem dJ0_coder_7d493_0 : decode cJ0_coder_7d493 0 = .ok (.getstatic 38, 3) := by decide +kernel
theorem dJ0_coder_7d493_3 : decode cJ0_coder_7d493 3 = .ok (.ifCond .eq 10, 3) := by decide +kernel
theorem dJ0_coder_7d493_6 : decode cJ0_coder_7d493 6 = .ok (.aload_n 0, 1) := by decide +kernel
theorem dJ0_coder_7d493_7 : decode cJ0_coder_7d493 7 = .ok (.getfield 15, 3) := by decide +kernel
theorem dJ0_coder_7d493_10 : decode cJ0_coder_7d493 10 = .ok (.goto 4, 3) := by decide +kernel
theorem dJ0_coder_7d493_13 : decode cJ0_coder_7d493 13 = .ok (.iconst 1, 1) := by decide +kernel
theorem dJ0_coder_7d493_14 : decode cJ0_coder_7d493 14 = .ok (.ireturn, 1) := by decide +kernel
theorem dJ0_isLatin1_aae02_0 : decode cJ0_isLatin1_aae02 0 = .ok (.getstatic 38, 3) := by decide +kernel
theorem dJ0_isLatin1_aae02_3 : decode cJ0_isLatin1_aae02 3 = .ok (.ifCond .eq 14, 3) := by decide +kernel
theorem dJ0_isLatin1_aae02_6 : decode cJ0_isLatin1_aae02 6 = .ok (.aload_n 0, 1) := by decide +kernel
theorem dJ0_isLatin1_aae02_7 : decode cJ0_isLatin1_aae02 7 = .ok (.getfield 15, 3) := by decide +kernel
theorem dJ0_isLatin1_aae02_10 : decode cJ0_isLatin1_aae02 10 = .ok (.ifCond .ne 7, 3) := by decide +kernel
theorem dJ0_isLatin1_aae02_13 : decode cJ0_isLatin1_aae02 13 = .ok (.iconst 1, 1) := by decide +kernel
theorem dJ0_isLatin1_aae02_14 : decode cJ0_isLatin1_aae02 14 = .ok (.goto 4, 3) := by decide +kernel
theorem dJ0_isLatin1_aae02_17 : decode cJ0_isLatin1_aae02 17 = .ok (.iconst 0, 1) := by decide +kernel
theorem dJ0_isLatin1_aae02_18 : decode cJ0_isLatin1_aae02 18 = .ok (.ireturn, 1) := by decide +kernel
theorem dJ0_checkIndex_df160_0 : decode cJ0_checkIndex_df160 0 = .ok (.iload_n 0, 1) := by decide +kernel
theorem dJ0_checkIndex_df160_1 : decode cJ0_checkIndex_df160 1 = .ok (.iload_n 1, 1) := by decide +kernel
theorem dJ0_checkIndex_df160_2 : decode cJ0_checkIndex_df160 2 = .ok (.getstatic 1053, 3) := by decide +kernel
theorem dJ0_checkIndex_df160_5 : decode cJ0_checkIndex_df160 5 = .ok (.invokestatic 1059, 3) := by decide +kernel
theorem dJ0_checkIndex_df160_8 : decode cJ0_checkIndex_df160 8 = .ok (.pop, 1) := by decide +kernel
theorem dJ0_checkIndex_df160_9 : decode cJ0_checkIndex_df160 9 = .ok (.return_, 1) := by decide +kernel
theorem dJ1_charAt_3b067_0 : decode cJ1_charAt_3b067 0 = .ok (.iload_n 1, 1) := by decide +kernel
theorem dJ1_charAt_3b067_1 : decode cJ1_charAt_3b067 1 = .ok (.aload_n 0, 1) := by decide +kernel
theorem dJ1_charAt_3b067_2 : decode cJ1_charAt_3b067 2 = .ok (.arraylength, 1) := by decide +kernel
theorem dJ1_charAt_3b067_3 : decode cJ1_charAt_3b067 3 = .ok (.invokestatic 9, 3) := by decide +kernel
theorem dJ1_charAt_3b067_6 : decode cJ1_charAt_3b067 6 = .ok (.aload_n 0, 1) := by decide +kernel
theorem dJ1_charAt_3b067_7 : decode cJ1_charAt_3b067 7 = .ok (.iload_n 1, 1) := by decide +kernel
theorem dJ1_charAt_3b067_8 : decode cJ1_charAt_3b067 8 = .ok (.baload, 1) := by decide +kernel
theorem dJ1_charAt_3b067_9 : decode cJ1_charAt_3b067 9 = .ok (.sipush 255, 3) := by decide +kernel
theorem dJ1_charAt_3b067_12 : decode cJ1_charAt_3b067 12 = .ok (.iand, 1) := by decide +kernel
theorem dJ1_charAt_3b067_13 : decode cJ1_charAt_3b067 13 = .ok (.i2c, 1) := by decide +kernel
theorem dJ1_charAt_3b067_14 : decode cJ1_charAt_3b067 14 = .ok (.ireturn, 1) := by decide +kernel
theorem dJ2_getChar_3b067_0 : decode cJ2_getChar_3b067 0 = .ok (.getstatic 44, 3) := by decide +kernel
theorem dJ2_getChar_3b067_3 : decode cJ2_getChar_3b067 3 = .ok (.ifCond .ne 25, 3) := by decide +kernel
theorem dJ2_getChar_3b067_6 : decode cJ2_getChar_3b067 6 = .ok (.iload_n 1, 1) := by decide +kernel
theorem dJ2_getChar_3b067_7 : decode cJ2_getChar_3b067 7 = .ok (.ifCond .lt 11, 3) := by decide +kernel
theorem dJ2_getChar_3b067_10 : decode cJ2_getChar_3b067 10 = .ok (.iload_n 1, 1) := by decide +kernel
theorem dJ2_getChar_3b067_11 : decode cJ2_getChar_3b067 11 = .ok (.aload_n 0, 1) := by decide +kernel
theorem dJ2_getChar_3b067_12 : decode cJ2_getChar_3b067 12 = .ok (.invokestatic 48, 3) := by decide +kernel
theorem dJ2_getChar_3b067_15 : decode cJ2_getChar_3b067 15 = .ok (.if_icmp .lt 13, 3) := by decide +kernel
theorem dJ2_getChar_3b067_18 : decode cJ2_getChar_3b067 18 = .ok (.new 52, 3) := by decide +kernel
theorem dJ2_getChar_3b067_21 : decode cJ2_getChar_3b067 21 = .ok (.dup, 1) := by decide +kernel
theorem dJ2_getChar_3b067_22 : decode cJ2_getChar_3b067 22 = .ok (.ldc 54, 2) := by decide +kernel
theorem dJ2_getChar_3b067_24 : decode cJ2_getChar_3b067 24 = .ok (.invokespecial 56, 3) := by decide +kernel
theorem dJ2_getChar_3b067_27 : decode cJ2_getChar_3b067 27 = .ok (.athrow, 1) := by decide +kernel
theorem dJ2_getChar_3b067_28 : decode cJ2_getChar_3b067 28 = .ok (.iload_n 1, 1) := by decide +kernel
theorem dJ2_getChar_3b067_29 : decode cJ2_getChar_3b067 29 = .ok (.iconst 1, 1) := by decide +kernel
theorem dJ2_getChar_3b067_30 : decode cJ2_getChar_3b067 30 = .ok (.ishl, 1) := by decide +kernel
theorem dJ2_getChar_3b067_31 : decode cJ2_getChar_3b067 31 = .ok (.istore_n 1, 1) := by decide +kernel
theorem dJ2_getChar_3b067_32 : decode cJ2_getChar_3b067 32 = .ok (.aload_n 0, 1) := by decide +kernel
theorem dJ2_getChar_3b067_33 : decode cJ2_getChar_3b067 33 = .ok (.iload_n 1, 1) := by decide +kernel
theorem dJ2_getChar_3b067_34 : decode cJ2_getChar_3b067 34 = .ok (.iinc 1 1, 3) := by decide +kernel
theorem dJ2_getChar_3b067_37 : decode cJ2_getChar_3b067 37 = .ok (.baload, 1) := by decide +kernel
theorem dJ2_getChar_3b067_38 : decode cJ2_getChar_3b067 38 = .ok (.sipush 255, 3) := by decide +kernel
theorem dJ2_getChar_3b067_41 : decode cJ2_getChar_3b067 41 = .ok (.iand, 1) := by decide +kernel
theorem dJ2_getChar_3b067_42 : decode cJ2_getChar_3b067 42 = .ok (.getstatic 59, 3) := by decide +kernel
theorem dJ2_getChar_3b067_45 : decode cJ2_getChar_3b067 45 = .ok (.ishl, 1) := by decide +kernel
theorem dJ2_getChar_3b067_46 : decode cJ2_getChar_3b067 46 = .ok (.aload_n 0, 1) := by decide +kernel
theorem dJ2_getChar_3b067_47 : decode cJ2_getChar_3b067 47 = .ok (.iload_n 1, 1) := by decide +kernel
theorem dJ2_getChar_3b067_48 : decode cJ2_getChar_3b067 48 = .ok (.baload, 1) := by decide +kernel
theorem dJ2_getChar_3b067_49 : decode cJ2_getChar_3b067 49 = .ok (.sipush 255, 3) := by decide +kernel
theorem dJ2_getChar_3b067_52 : decode cJ2_getChar_3b067 52 = .ok (.iand, 1) := by decide +kernel
theorem dJ2_getChar_3b067_53 : decode cJ2_getChar_3b067 53 = .ok (.getstatic 63, 3) := by decide +kernel
theorem dJ2_getChar_3b067_56 : decode cJ2_getChar_3b067 56 = .ok (.ishl, 1) := by decide +kernel
theorem dJ2_getChar_3b067_57 : decode cJ2_getChar_3b067 57 = .ok (.ior, 1) := by decide +kernel
theorem dJ2_getChar_3b067_58 : decode cJ2_getChar_3b067 58 = .ok (.i2c, 1) := by decide +kernel
theorem dJ2_getChar_3b067_59 : decode cJ2_getChar_3b067 59 = .ok (.ireturn, 1) := by decide +kernel
theorem dJ2_length_9d52b_0 : decode cJ2_length_9d52b 0 = .ok (.aload_n 0, 1) := by decide +kernel
theorem dJ2_length_9d52b_1 : decode cJ2_length_9d52b 1 = .ok (.arraylength, 1) := by decide +kernel
theorem dJ2_length_9d52b_2 : decode cJ2_length_9d52b 2 = .ok (.iconst 1, 1) := by decide +kernel
theorem dJ2_length_9d52b_3 : decode cJ2_length_9d52b 3 = .ok (.ishr, 1) := by decide +kernel
theorem dJ2_length_9d52b_4 : decode cJ2_length_9d52b 4 = .ok (.ireturn, 1) := by decide +kernel
theorem dJ2_charAt_3b067_0 : decode cJ2_charAt_3b067 0 = .ok (.iload_n 1, 1) := by decide +kernel
theorem dJ2_charAt_3b067_1 : decode cJ2_charAt_3b067 1 = .ok (.aload_n 0, 1) := by decide +kernel
theorem dJ2_charAt_3b067_2 : decode cJ2_charAt_3b067 2 = .ok (.invokestatic 67, 3) := by decide +kernel
theorem dJ2_charAt_3b067_5 : decode cJ2_charAt_3b067 5 = .ok (.aload_n 0, 1) := by decide +kernel
theorem dJ2_charAt_3b067_6 : decode cJ2_charAt_3b067 6 = .ok (.iload_n 1, 1) := by decide +kernel
theorem dJ2_charAt_3b067_7 : decode cJ2_charAt_3b067 7 = .ok (.invokestatic 71, 3) := by decide +kernel
theorem dJ2_charAt_3b067_10 : decode cJ2_charAt_3b067 10 = .ok (.ireturn, 1) := by decide +kernel
theorem dJ2_checkIndex_2214a_0 : decode cJ2_checkIndex_2214a 0 = .ok (.iload_n 0, 1) := by decide +kernel
theorem dJ2_checkIndex_2214a_1 : decode cJ2_checkIndex_2214a 1 = .ok (.aload_n 1, 1) := by decide +kernel
theorem dJ2_checkIndex_2214a_2 : decode cJ2_checkIndex_2214a 2 = .ok (.invokestatic 48, 3) := by decide +kernel
theorem dJ2_checkIndex_2214a_5 : decode cJ2_checkIndex_2214a 5 = .ok (.invokestatic 414, 3) := by decide +kernel
theorem dJ2_checkIndex_2214a_8 : decode cJ2_checkIndex_2214a 8 = .ok (.return_, 1) := by decide +kernel
theorem dJ3_checkIndex_8e157_0 : decode cJ3_checkIndex_8e157 0 = .ok (.iload_n 0, 1) := by decide +kernel
theorem dJ3_checkIndex_8e157_1 : decode cJ3_checkIndex_8e157 1 = .ok (.ifCond .lt 8, 3) := by decide +kernel
theorem dJ3_checkIndex_8e157_4 : decode cJ3_checkIndex_8e157 4 = .ok (.iload_n 0, 1) := by decide +kernel
theorem dJ3_checkIndex_8e157_5 : decode cJ3_checkIndex_8e157 5 = .ok (.iload_n 1, 1) := by decide +kernel
theorem dJ3_checkIndex_8e157_6 : decode cJ3_checkIndex_8e157 6 = .ok (.if_icmp .lt 10, 3) := by decide +kernel
theorem dJ3_checkIndex_8e157_9 : decode cJ3_checkIndex_8e157 9 = .ok (.aload_n 2, 1) := by decide +kernel
theorem dJ3_checkIndex_8e157_10 : decode cJ3_checkIndex_8e157 10 = .ok (.iload_n 0, 1) := by decide +kernel
theorem dJ3_checkIndex_8e157_11 : decode cJ3_checkIndex_8e157 11 = .ok (.iload_n 1, 1) := by decide +kernel
theorem dJ3_checkIndex_8e157_12 : decode cJ3_checkIndex_8e157 12 = .ok (.invokestatic 95, 3) := by decide +kernel
theorem dJ3_checkIndex_8e157_15 : decode cJ3_checkIndex_8e157 15 = .ok (.athrow, 1) := by decide +kernel
theorem dJ3_checkIndex_8e157_16 : decode cJ3_checkIndex_8e157 16 = .ok (.iload_n 0, 1) := by decide +kernel
theorem dJ3_checkIndex_8e157_17 : decode cJ3_checkIndex_8e157 17 = .ok (.ireturn, 1) := by decide +kernel
