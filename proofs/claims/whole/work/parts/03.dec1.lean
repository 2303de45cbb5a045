theorem dX11_init_0 : decode cX11_init 0 = .ok (.aload_n 0, 1) := by decide +kernel
theorem dX11_init_1 : decode cX11_init 1 = .ok (.invokespecial 1, 3) := by decide +kernel
theorem dX11_init_4 : decode cX11_init 4 = .ok (.aload_n 0, 1) := by decide +kernel
theorem dX11_init_5 : decode cX11_init 5 = .ok (.new 7, 3) := by decide +kernel
theorem dX11_init_8 : decode cX11_init 8 = .ok (.dup, 1) := by decide +kernel
theorem dX11_init_9 : decode cX11_init 9 = .ok (.invokespecial 9, 3) := by decide +kernel
theorem dX11_init_12 : decode cX11_init 12 = .ok (.putfield 10, 3) := by decide +kernel
theorem dX11_init_15 : decode cX11_init 15 = .ok (.aload_n 0, 1) := by decide +kernel
theorem dX11_init_16 : decode cX11_init 16 = .ok (.new 7, 3) := by decide +kernel
theorem dX11_init_19 : decode cX11_init 19 = .ok (.dup, 1) := by decide +kernel
theorem dX11_init_20 : decode cX11_init 20 = .ok (.invokespecial 9, 3) := by decide +kernel
theorem dX11_init_23 : decode cX11_init 23 = .ok (.putfield 16, 3) := by decide +kernel
theorem dX11_init_26 : decode cX11_init 26 = .ok (.aload_n 0, 1) := by decide +kernel
theorem dX11_init_27 : decode cX11_init 27 = .ok (.iconst 0, 1) := by decide +kernel
theorem dX11_init_28 : decode cX11_init 28 = .ok (.putfield 19, 3) := by decide +kernel
theorem dX11_init_31 : decode cX11_init 31 = .ok (.aload_n 0, 1) := by decide +kernel
theorem dX11_init_32 : decode cX11_init 32 = .ok (.new 23, 3) := by decide +kernel
theorem dX11_init_35 : decode cX11_init 35 = .ok (.dup, 1) := by decide +kernel
theorem dX11_init_36 : decode cX11_init 36 = .ok (.invokespecial 25, 3) := by decide +kernel
theorem dX11_init_39 : decode cX11_init 39 = .ok (.putfield 26, 3) := by decide +kernel
theorem dX11_init_42 : decode cX11_init 42 = .ok (.aload_n 0, 1) := by decide +kernel
theorem dX11_init_43 : decode cX11_init 43 = .ok (.new 23, 3) := by decide +kernel
theorem dX11_init_46 : decode cX11_init 46 = .ok (.dup, 1) := by decide +kernel
theorem dX11_init_47 : decode cX11_init 47 = .ok (.invokespecial 25, 3) := by decide +kernel
theorem dX11_init_50 : decode cX11_init 50 = .ok (.putfield 30, 3) := by decide +kernel
theorem dX11_init_53 : decode cX11_init 53 = .ok (.aload_n 0, 1) := by decide +kernel
theorem dX11_init_54 : decode cX11_init 54 = .ok (.iconst 4, 1) := by decide +kernel
theorem dX11_init_55 : decode cX11_init 55 = .ok (.anewarray 33, 3) := by decide +kernel
theorem dX11_init_58 : decode cX11_init 58 = .ok (.putfield 35, 3) := by decide +kernel
theorem dX11_init_61 : decode cX11_init 61 = .ok (.aload_n 0, 1) := by decide +kernel
theorem dX11_init_62 : decode cX11_init 62 = .ok (.new 33, 3) := by decide +kernel
theorem dX11_init_65 : decode cX11_init 65 = .ok (.dup, 1) := by decide +kernel
theorem dX11_init_66 : decode cX11_init 66 = .ok (.bipush 40, 2) := by decide +kernel
theorem dX11_init_68 : decode cX11_init 68 = .ok (.invokespecial 39, 3) := by decide +kernel
theorem dX11_init_71 : decode cX11_init 71 = .ok (.putfield 42, 3) := by decide +kernel
theorem dX11_init_74 : decode cX11_init 74 = .ok (.aload_n 0, 1) := by decide +kernel
theorem dX11_init_75 : decode cX11_init 75 = .ok (.bipush 6, 2) := by decide +kernel
theorem dX11_init_77 : decode cX11_init 77 = .ok (.newarray .int, 2) := by decide +kernel
theorem dX11_init_79 : decode cX11_init 79 = .ok (.putfield 46, 3) := by decide +kernel
theorem dX11_init_82 : decode cX11_init 82 = .ok (.iconst 0, 1) := by decide +kernel
theorem dX11_init_83 : decode cX11_init 83 = .ok (.istore_n 1, 1) := by decide +kernel
theorem dX11_init_84 : decode cX11_init 84 = .ok (.iload_n 1, 1) := by decide +kernel
theorem dX11_init_85 : decode cX11_init 85 = .ok (.aload_n 0, 1) := by decide +kernel
theorem dX11_init_86 : decode cX11_init 86 = .ok (.getfield 35, 3) := by decide +kernel
theorem dX11_init_89 : decode cX11_init 89 = .ok (.arraylength, 1) := by decide +kernel
theorem dX11_init_90 : decode cX11_init 90 = .ok (.if_icmp .ge 24, 3) := by decide +kernel
theorem dX11_init_93 : decode cX11_init 93 = .ok (.aload_n 0, 1) := by decide +kernel
theorem dX11_init_94 : decode cX11_init 94 = .ok (.getfield 35, 3) := by decide +kernel
theorem dX11_init_97 : decode cX11_init 97 = .ok (.iload_n 1, 1) := by decide +kernel
theorem dX11_init_98 : decode cX11_init 98 = .ok (.new 33, 3) := by decide +kernel
theorem dX11_init_101 : decode cX11_init 101 = .ok (.dup, 1) := by decide +kernel
theorem dX11_init_102 : decode cX11_init 102 = .ok (.bipush 40, 2) := by decide +kernel
theorem dX11_init_104 : decode cX11_init 104 = .ok (.invokespecial 39, 3) := by decide +kernel
theorem dX11_init_107 : decode cX11_init 107 = .ok (.aastore, 1) := by decide +kernel
theorem dX11_init_108 : decode cX11_init 108 = .ok (.iinc 1 1, 3) := by decide +kernel
theorem dX11_init_111 : decode cX11_init 111 = .ok (.goto (-27), 3) := by decide +kernel
theorem dX11_init_114 : decode cX11_init 114 = .ok (.return_, 1) := by decide +kernel
theorem dX11_village_0 : decode cX11_village 0 = .ok (.iload_n 1, 1) := by decide +kernel
theorem dX11_village_1 : decode cX11_village 1 = .ok (.iload_n 2, 1) := by decide +kernel
theorem dX11_village_2 : decode cX11_village 2 = .ok (.iload_n 3, 1) := by decide +kernel
theorem dX11_village_3 : decode cX11_village 3 = .ok (.iload 4, 2) := by decide +kernel
theorem dX11_village_5 : decode cX11_village 5 = .ok (.invokestatic 50, 3) := by decide +kernel
theorem dX11_village_8 : decode cX11_village 8 = .ok (.ifCond .ne 9, 3) := by decide +kernel
theorem dX11_village_11 : decode cX11_village 11 = .ok (.aload_n 0, 1) := by decide +kernel
theorem dX11_village_12 : decode cX11_village 12 = .ok (.iconst 1, 1) := by decide +kernel
theorem dX11_village_13 : decode cX11_village 13 = .ok (.invokevirtual 54, 3) := by decide +kernel
theorem dX11_village_16 : decode cX11_village 16 = .ok (.ireturn, 1) := by decide +kernel
theorem dX11_village_17 : decode cX11_village 17 = .ok (.aload_n 0, 1) := by decide +kernel
theorem dX11_village_18 : decode cX11_village 18 = .ok (.getfield 10, 3) := by decide +kernel
theorem dX11_village_21 : decode cX11_village 21 = .ok (.getfield 58, 3) := by decide +kernel
theorem dX11_village_24 : decode cX11_village 24 = .ok (.getfield 61, 3) := by decide +kernel
theorem dX11_village_27 : decode cX11_village 27 = .ok (.bipush 8, 2) := by decide +kernel
theorem dX11_village_29 : decode cX11_village 29 = .ok (.if_icmp .lt 9, 3) := by decide +kernel
theorem dX11_village_32 : decode cX11_village 32 = .ok (.aload_n 0, 1) := by decide +kernel
theorem dX11_village_33 : decode cX11_village 33 = .ok (.iconst 4, 1) := by decide +kernel
theorem dX11_village_34 : decode cX11_village 34 = .ok (.invokevirtual 54, 3) := by decide +kernel
theorem dX11_village_37 : decode cX11_village 37 = .ok (.ireturn, 1) := by decide +kernel
theorem dX11_village_38 : decode cX11_village 38 = .ok (.aload_n 0, 1) := by decide +kernel
theorem dX11_village_39 : decode cX11_village 39 = .ok (.getfield 10, 3) := by decide +kernel
theorem dX11_village_42 : decode cX11_village 42 = .ok (.getfield 58, 3) := by decide +kernel
theorem dX11_village_45 : decode cX11_village 45 = .ok (.iload_n 1, 1) := by decide +kernel
theorem dX11_village_46 : decode cX11_village 46 = .ok (.iload_n 2, 1) := by decide +kernel
theorem dX11_village_47 : decode cX11_village 47 = .ok (.iload_n 3, 1) := by decide +kernel
theorem dX11_village_48 : decode cX11_village 48 = .ok (.iload 4, 2) := by decide +kernel
theorem dX11_village_50 : decode cX11_village 50 = .ok (.invokevirtual 64, 3) := by decide +kernel
theorem dX11_village_53 : decode cX11_village 53 = .ok (.ireturn, 1) := by decide +kernel
theorem dX11_people_0 : decode cX11_people 0 = .ok (.aload_n 0, 1) := by decide +kernel
theorem dX11_people_1 : decode cX11_people 1 = .ok (.iload_n 1, 1) := by decide +kernel
theorem dX11_people_2 : decode cX11_people 2 = .ok (.invokevirtual 68, 3) := by decide +kernel
theorem dX11_people_5 : decode cX11_people 5 = .ok (.ifCond .eq 12, 3) := by decide +kernel
theorem dX11_people_8 : decode cX11_people 8 = .ok (.iload_n 2, 1) := by decide +kernel
theorem dX11_people_9 : decode cX11_people 9 = .ok (.iconst 0, 1) := by decide +kernel
theorem dX11_people_10 : decode cX11_people 10 = .ok (.iconst 4, 1) := by decide +kernel
theorem dX11_people_11 : decode cX11_people 11 = .ok (.invokestatic 72, 3) := by decide +kernel
theorem dX11_people_14 : decode cX11_people 14 = .ok (.ifCond .ne 9, 3) := by decide +kernel
theorem dX11_people_17 : decode cX11_people 17 = .ok (.aload_n 0, 1) := by decide +kernel
theorem dX11_people_18 : decode cX11_people 18 = .ok (.iconst 1, 1) := by decide +kernel
theorem dX11_people_19 : decode cX11_people 19 = .ok (.invokevirtual 54, 3) := by decide +kernel
theorem dX11_people_22 : decode cX11_people 22 = .ok (.ireturn, 1) := by decide +kernel
theorem dX11_people_23 : decode cX11_people 23 = .ok (.iload_n 2, 1) := by decide +kernel
theorem dX11_people_24 : decode cX11_people 24 = .ok (.iconst 4, 1) := by decide +kernel
theorem dX11_people_25 : decode cX11_people 25 = .ok (.if_icmp .ne 16, 3) := by decide +kernel
theorem dX11_people_28 : decode cX11_people 28 = .ok (.aload_n 0, 1) := by decide +kernel
theorem dX11_people_29 : decode cX11_people 29 = .ok (.getfield 10, 3) := by decide +kernel
theorem dX11_people_32 : decode cX11_people 32 = .ok (.getfield 58, 3) := by decide +kernel
theorem dX11_people_35 : decode cX11_people 35 = .ok (.getfield 76, 3) := by decide +kernel
theorem dX11_people_38 : decode cX11_people 38 = .ok (.iload_n 1, 1) := by decide +kernel
theorem dX11_people_39 : decode cX11_people 39 = .ok (.iaload, 1) := by decide +kernel
theorem dX11_people_40 : decode cX11_people 40 = .ok (.ireturn, 1) := by decide +kernel
theorem dX11_people_41 : decode cX11_people 41 = .ok (.aload_n 0, 1) := by decide +kernel
theorem dX11_people_42 : decode cX11_people 42 = .ok (.getfield 10, 3) := by decide +kernel
theorem dX11_people_45 : decode cX11_people 45 = .ok (.getfield 58, 3) := by decide +kernel
theorem dX11_people_48 : decode cX11_people 48 = .ok (.iload_n 1, 1) := by decide +kernel
theorem dX11_people_49 : decode cX11_people 49 = .ok (.iload_n 2, 1) := by decide +kernel
theorem dX11_people_50 : decode cX11_people 50 = .ok (.invokevirtual 79, 3) := by decide +kernel
theorem dX11_people_53 : decode cX11_people 53 = .ok (.ireturn, 1) := by decide +kernel
theorem dX11_become_0 : decode cX11_become 0 = .ok (.aload_n 0, 1) := by decide +kernel
theorem dX11_become_1 : decode cX11_become 1 = .ok (.iload_n 1, 1) := by decide +kernel
theorem dX11_become_2 : decode cX11_become 2 = .ok (.invokevirtual 68, 3) := by decide +kernel
theorem dX11_become_5 : decode cX11_become 5 = .ok (.ifCond .eq 22, 3) := by decide +kernel
theorem dX11_become_8 : decode cX11_become 8 = .ok (.iload_n 2, 1) := by decide +kernel
theorem dX11_become_9 : decode cX11_become 9 = .ok (.iconst 0, 1) := by decide +kernel
theorem dX11_become_10 : decode cX11_become 10 = .ok (.iconst 2, 1) := by decide +kernel
theorem dX11_become_11 : decode cX11_become 11 = .ok (.invokestatic 72, 3) := by decide +kernel
theorem dX11_become_14 : decode cX11_become 14 = .ok (.ifCond .eq 13, 3) := by decide +kernel
theorem dX11_become_17 : decode cX11_become 17 = .ok (.iload_n 3, 1) := by decide +kernel
theorem dX11_become_18 : decode cX11_become 18 = .ok (.iconst 0, 1) := by decide +kernel
theorem dX11_become_19 : decode cX11_become 19 = .ok (.ldc 83, 2) := by decide +kernel
theorem dX11_become_21 : decode cX11_become 21 = .ok (.invokestatic 72, 3) := by decide +kernel
theorem dX11_become_24 : decode cX11_become 24 = .ok (.ifCond .ne 9, 3) := by decide +kernel
theorem dX11_become_27 : decode cX11_become 27 = .ok (.aload_n 0, 1) := by decide +kernel
theorem dX11_become_28 : decode cX11_become 28 = .ok (.iconst 1, 1) := by decide +kernel
theorem dX11_become_29 : decode cX11_become 29 = .ok (.invokevirtual 54, 3) := by decide +kernel
theorem dX11_become_32 : decode cX11_become 32 = .ok (.ireturn, 1) := by decide +kernel
theorem dX11_become_33 : decode cX11_become 33 = .ok (.aload_n 0, 1) := by decide +kernel
theorem dX11_become_34 : decode cX11_become 34 = .ok (.getfield 10, 3) := by decide +kernel
theorem dX11_become_37 : decode cX11_become 37 = .ok (.getfield 58, 3) := by decide +kernel
theorem dX11_become_40 : decode cX11_become 40 = .ok (.iload_n 1, 1) := by decide +kernel
theorem dX11_become_41 : decode cX11_become 41 = .ok (.iload_n 2, 1) := by decide +kernel
theorem dX11_become_42 : decode cX11_become 42 = .ok (.invokevirtual 79, 3) := by decide +kernel
theorem dX11_become_45 : decode cX11_become 45 = .ok (.istore 4, 2) := by decide +kernel
theorem dX11_become_47 : decode cX11_become 47 = .ok (.aload_n 0, 1) := by decide +kernel
theorem dX11_become_48 : decode cX11_become 48 = .ok (.getfield 10, 3) := by decide +kernel
theorem dX11_become_51 : decode cX11_become 51 = .ok (.getfield 58, 3) := by decide +kernel
theorem dX11_become_54 : decode cX11_become 54 = .ok (.getfield 84, 3) := by decide +kernel
theorem dX11_become_57 : decode cX11_become 57 = .ok (.iconst 3, 1) := by decide +kernel
theorem dX11_become_58 : decode cX11_become 58 = .ok (.iload_n 1, 1) := by decide +kernel
theorem dX11_become_59 : decode cX11_become 59 = .ok (.imul, 1) := by decide +kernel
theorem dX11_become_60 : decode cX11_become 60 = .ok (.iload_n 2, 1) := by decide +kernel
theorem dX11_become_61 : decode cX11_become 61 = .ok (.iadd, 1) := by decide +kernel
theorem dX11_become_62 : decode cX11_become 62 = .ok (.iload_n 3, 1) := by decide +kernel
theorem dX11_become_63 : decode cX11_become 63 = .ok (.iastore, 1) := by decide +kernel
theorem dX11_become_64 : decode cX11_become 64 = .ok (.iload 4, 2) := by decide +kernel
theorem dX11_become_66 : decode cX11_become 66 = .ok (.ireturn, 1) := by decide +kernel
theorem dX11_villages_0 : decode cX11_villages 0 = .ok (.aload_n 0, 1) := by decide +kernel
theorem dX11_villages_1 : decode cX11_villages 1 = .ok (.iload_n 1, 1) := by decide +kernel
theorem dX11_villages_2 : decode cX11_villages 2 = .ok (.invokevirtual 87, 3) := by decide +kernel
theorem dX11_villages_5 : decode cX11_villages 5 = .ok (.ifCond .ne 9, 3) := by decide +kernel
theorem dX11_villages_8 : decode cX11_villages 8 = .ok (.aload_n 0, 1) := by decide +kernel
theorem dX11_villages_9 : decode cX11_villages 9 = .ok (.iconst 1, 1) := by decide +kernel
theorem dX11_villages_10 : decode cX11_villages 10 = .ok (.invokevirtual 54, 3) := by decide +kernel
theorem dX11_villages_13 : decode cX11_villages 13 = .ok (.ireturn, 1) := by decide +kernel
theorem dX11_villages_14 : decode cX11_villages 14 = .ok (.aload_n 0, 1) := by decide +kernel
theorem dX11_villages_15 : decode cX11_villages 15 = .ok (.getfield 35, 3) := by decide +kernel
theorem dX11_villages_18 : decode cX11_villages 18 = .ok (.iload_n 1, 1) := by decide +kernel
theorem dX11_villages_19 : decode cX11_villages 19 = .ok (.aaload, 1) := by decide +kernel
theorem dX11_villages_20 : decode cX11_villages 20 = .ok (.astore_n 2, 1) := by decide +kernel
theorem dX11_villages_21 : decode cX11_villages 21 = .ok (.aload_n 2, 1) := by decide +kernel
theorem dX11_villages_22 : decode cX11_villages 22 = .ok (.getfield 90, 3) := by decide +kernel
theorem dX11_villages_25 : decode cX11_villages 25 = .ok (.ifCond .ne 9, 3) := by decide +kernel
theorem dX11_villages_28 : decode cX11_villages 28 = .ok (.aload_n 0, 1) := by decide +kernel
theorem dX11_villages_29 : decode cX11_villages 29 = .ok (.iconst 2, 1) := by decide +kernel
theorem dX11_villages_30 : decode cX11_villages 30 = .ok (.invokevirtual 54, 3) := by decide +kernel
theorem dX11_villages_33 : decode cX11_villages 33 = .ok (.ireturn, 1) := by decide +kernel
theorem dX11_villages_34 : decode cX11_villages 34 = .ok (.iconst 0, 1) := by decide +kernel
theorem dX11_villages_35 : decode cX11_villages 35 = .ok (.istore_n 3, 1) := by decide +kernel
theorem dX11_villages_36 : decode cX11_villages 36 = .ok (.iconst 0, 1) := by decide +kernel
theorem dX11_villages_37 : decode cX11_villages 37 = .ok (.istore 4, 2) := by decide +kernel
theorem dX11_villages_39 : decode cX11_villages 39 = .ok (.iload 4, 2) := by decide +kernel
theorem dX11_villages_41 : decode cX11_villages 41 = .ok (.iconst 3, 1) := by decide +kernel
theorem dX11_villages_42 : decode cX11_villages 42 = .ok (.iadd, 1) := by decide +kernel
theorem dX11_villages_43 : decode cX11_villages 43 = .ok (.aload_n 2, 1) := by decide +kernel
theorem dX11_villages_44 : decode cX11_villages 44 = .ok (.getfield 93, 3) := by decide +kernel
theorem dX11_villages_47 : decode cX11_villages 47 = .ok (.if_icmp .ge 105, 3) := by decide +kernel
theorem dX11_villages_50 : decode cX11_villages 50 = .ok (.aload_n 0, 1) := by decide +kernel
theorem dX11_villages_51 : decode cX11_villages 51 = .ok (.getfield 10, 3) := by decide +kernel
theorem dX11_villages_54 : decode cX11_villages 54 = .ok (.getfield 58, 3) := by decide +kernel
theorem dX11_villages_57 : decode cX11_villages 57 = .ok (.getfield 61, 3) := by decide +kernel
theorem dX11_villages_60 : decode cX11_villages 60 = .ok (.bipush 8, 2) := by decide +kernel
theorem dX11_villages_62 : decode cX11_villages 62 = .ok (.if_icmp .ge 90, 3) := by decide +kernel
theorem dX11_villages_65 : decode cX11_villages 65 = .ok (.aload_n 2, 1) := by decide +kernel
theorem dX11_villages_66 : decode cX11_villages 66 = .ok (.getfield 96, 3) := by decide +kernel
theorem dX11_villages_69 : decode cX11_villages 69 = .ok (.astore 5, 2) := by decide +kernel
theorem dX11_villages_71 : decode cX11_villages 71 = .ok (.aload 5, 2) := by decide +kernel
theorem dX11_villages_73 : decode cX11_villages 73 = .ok (.iload 4, 2) := by decide +kernel
theorem dX11_villages_75 : decode cX11_villages 75 = .ok (.iaload, 1) := by decide +kernel
theorem dX11_villages_76 : decode cX11_villages 76 = .ok (.aload 5, 2) := by decide +kernel
theorem dX11_villages_78 : decode cX11_villages 78 = .ok (.iload 4, 2) := by decide +kernel
theorem dX11_villages_80 : decode cX11_villages 80 = .ok (.iconst 1, 1) := by decide +kernel
theorem dX11_villages_81 : decode cX11_villages 81 = .ok (.iadd, 1) := by decide +kernel
theorem dX11_villages_82 : decode cX11_villages 82 = .ok (.iaload, 1) := by decide +kernel
theorem dX11_villages_83 : decode cX11_villages 83 = .ok (.aload 5, 2) := by decide +kernel
theorem dX11_villages_85 : decode cX11_villages 85 = .ok (.iload 4, 2) := by decide +kernel
theorem dX11_villages_87 : decode cX11_villages 87 = .ok (.iconst 2, 1) := by decide +kernel
theorem dX11_villages_88 : decode cX11_villages 88 = .ok (.iadd, 1) := by decide +kernel
theorem dX11_villages_89 : decode cX11_villages 89 = .ok (.iaload, 1) := by decide +kernel
theorem dX11_villages_90 : decode cX11_villages 90 = .ok (.aload 5, 2) := by decide +kernel
theorem dX11_villages_92 : decode cX11_villages 92 = .ok (.iload 4, 2) := by decide +kernel
theorem dX11_villages_94 : decode cX11_villages 94 = .ok (.iconst 3, 1) := by decide +kernel
theorem dX11_villages_95 : decode cX11_villages 95 = .ok (.iadd, 1) := by decide +kernel
theorem dX11_villages_96 : decode cX11_villages 96 = .ok (.iaload, 1) := by decide +kernel
theorem dX11_villages_97 : decode cX11_villages 97 = .ok (.invokestatic 50, 3) := by decide +kernel
theorem dX11_villages_100 : decode cX11_villages 100 = .ok (.ifCond .ne 6, 3) := by decide +kernel
theorem dX11_villages_103 : decode cX11_villages 103 = .ok (.goto 49, 3) := by decide +kernel
theorem dX11_villages_106 : decode cX11_villages 106 = .ok (.aload_n 0, 1) := by decide +kernel
theorem dX11_villages_107 : decode cX11_villages 107 = .ok (.getfield 10, 3) := by decide +kernel
theorem dX11_villages_110 : decode cX11_villages 110 = .ok (.getfield 58, 3) := by decide +kernel
theorem dX11_villages_113 : decode cX11_villages 113 = .ok (.aload 5, 2) := by decide +kernel
theorem dX11_villages_115 : decode cX11_villages 115 = .ok (.iload 4, 2) := by decide +kernel
theorem dX11_villages_117 : decode cX11_villages 117 = .ok (.iaload, 1) := by decide +kernel
theorem dX11_villages_118 : decode cX11_villages 118 = .ok (.aload 5, 2) := by decide +kernel
theorem dX11_villages_120 : decode cX11_villages 120 = .ok (.iload 4, 2) := by decide +kernel
theorem dX11_villages_122 : decode cX11_villages 122 = .ok (.iconst 1, 1) := by decide +kernel
theorem dX11_villages_123 : decode cX11_villages 123 = .ok (.iadd, 1) := by decide +kernel
theorem dX11_villages_124 : decode cX11_villages 124 = .ok (.iaload, 1) := by decide +kernel
theorem dX11_villages_125 : decode cX11_villages 125 = .ok (.aload 5, 2) := by decide +kernel
theorem dX11_villages_127 : decode cX11_villages 127 = .ok (.iload 4, 2) := by decide +kernel
theorem dX11_villages_129 : decode cX11_villages 129 = .ok (.iconst 2, 1) := by decide +kernel
theorem dX11_villages_130 : decode cX11_villages 130 = .ok (.iadd, 1) := by decide +kernel
theorem dX11_villages_131 : decode cX11_villages 131 = .ok (.iaload, 1) := by decide +kernel
theorem dX11_villages_132 : decode cX11_villages 132 = .ok (.aload 5, 2) := by decide +kernel
theorem dX11_villages_134 : decode cX11_villages 134 = .ok (.iload 4, 2) := by decide +kernel
theorem dX11_villages_136 : decode cX11_villages 136 = .ok (.iconst 3, 1) := by decide +kernel
theorem dX11_villages_137 : decode cX11_villages 137 = .ok (.iadd, 1) := by decide +kernel
theorem dX11_villages_138 : decode cX11_villages 138 = .ok (.iaload, 1) := by decide +kernel
theorem dX11_villages_139 : decode cX11_villages 139 = .ok (.invokevirtual 64, 3) := by decide +kernel
theorem dX11_villages_142 : decode cX11_villages 142 = .ok (.pop, 1) := by decide +kernel
theorem dX11_villages_143 : decode cX11_villages 143 = .ok (.iinc 3 1, 3) := by decide +kernel
theorem dX11_villages_146 : decode cX11_villages 146 = .ok (.iinc 4 4, 3) := by decide +kernel
theorem dX11_villages_149 : decode cX11_villages 149 = .ok (.goto (-110), 3) := by decide +kernel
theorem dX11_villages_152 : decode cX11_villages 152 = .ok (.iload_n 3, 1) := by decide +kernel
theorem dX11_villages_153 : decode cX11_villages 153 = .ok (.ireturn, 1) := by decide +kernel
theorem dX11_made_0 : decode cX11_made 0 = .ok (.iload_n 1, 1) := by decide +kernel
theorem dX11_made_1 : decode cX11_made 1 = .ok (.iconst 1, 1) := by decide +kernel
theorem dX11_made_2 : decode cX11_made 2 = .ok (.bipush 8, 2) := by decide +kernel
theorem dX11_made_4 : decode cX11_made 4 = .ok (.invokestatic 72, 3) := by decide +kernel
theorem dX11_made_7 : decode cX11_made 7 = .ok (.ifCond .ne 9, 3) := by decide +kernel
theorem dX11_made_10 : decode cX11_made 10 = .ok (.aload_n 0, 1) := by decide +kernel
theorem dX11_made_11 : decode cX11_made 11 = .ok (.iconst 1, 1) := by decide +kernel
theorem dX11_made_12 : decode cX11_made 12 = .ok (.invokevirtual 54, 3) := by decide +kernel
theorem dX11_made_15 : decode cX11_made 15 = .ok (.ireturn, 1) := by decide +kernel
theorem dX11_made_16 : decode cX11_made 16 = .ok (.aload_n 0, 1) := by decide +kernel
theorem dX11_made_17 : decode cX11_made 17 = .ok (.getfield 10, 3) := by decide +kernel
theorem dX11_made_20 : decode cX11_made 20 = .ok (.getfield 58, 3) := by decide +kernel
theorem dX11_made_23 : decode cX11_made 23 = .ok (.getfield 61, 3) := by decide +kernel
theorem dX11_made_26 : decode cX11_made 26 = .ok (.iload_n 1, 1) := by decide +kernel
theorem dX11_made_27 : decode cX11_made 27 = .ok (.iadd, 1) := by decide +kernel
theorem dX11_made_28 : decode cX11_made 28 = .ok (.bipush 8, 2) := by decide +kernel
theorem dX11_made_30 : decode cX11_made 30 = .ok (.if_icmp .le 9, 3) := by decide +kernel
theorem dX11_made_33 : decode cX11_made 33 = .ok (.aload_n 0, 1) := by decide +kernel
theorem dX11_made_34 : decode cX11_made 34 = .ok (.iconst 4, 1) := by decide +kernel
theorem dX11_made_35 : decode cX11_made 35 = .ok (.invokevirtual 54, 3) := by decide +kernel
theorem dX11_made_38 : decode cX11_made 38 = .ok (.ireturn, 1) := by decide +kernel
theorem dX11_made_39 : decode cX11_made 39 = .ok (.iconst 0, 1) := by decide +kernel
theorem dX11_made_40 : decode cX11_made 40 = .ok (.istore_n 2, 1) := by decide +kernel
theorem dX11_made_41 : decode cX11_made 41 = .ok (.iload_n 2, 1) := by decide +kernel
theorem dX11_made_42 : decode cX11_made 42 = .ok (.iload_n 1, 1) := by decide +kernel
theorem dX11_made_43 : decode cX11_made 43 = .ok (.if_icmp .ge 94, 3) := by decide +kernel
theorem dX11_made_46 : decode cX11_made 46 = .ok (.aload_n 0, 1) := by decide +kernel
theorem dX11_made_47 : decode cX11_made 47 = .ok (.getfield 10, 3) := by decide +kernel
theorem dX11_made_50 : decode cX11_made 50 = .ok (.invokevirtual 99, 3) := by decide +kernel
theorem dX11_made_53 : decode cX11_made 53 = .ok (.bipush 31, 2) := by decide +kernel
theorem dX11_made_55 : decode cX11_made 55 = .ok (.irem, 1) := by decide +kernel
theorem dX11_made_56 : decode cX11_made 56 = .ok (.istore_n 3, 1) := by decide +kernel
theorem dX11_made_57 : decode cX11_made 57 = .ok (.aload_n 0, 1) := by decide +kernel
theorem dX11_made_58 : decode cX11_made 58 = .ok (.getfield 10, 3) := by decide +kernel
theorem dX11_made_61 : decode cX11_made 61 = .ok (.invokevirtual 99, 3) := by decide +kernel
theorem dX11_made_64 : decode cX11_made 64 = .ok (.bipush 31, 2) := by decide +kernel
theorem dX11_made_66 : decode cX11_made 66 = .ok (.irem, 1) := by decide +kernel
theorem dX11_made_67 : decode cX11_made 67 = .ok (.istore 4, 2) := by decide +kernel
theorem dX11_made_69 : decode cX11_made 69 = .ok (.aload_n 0, 1) := by decide +kernel
theorem dX11_made_70 : decode cX11_made 70 = .ok (.getfield 10, 3) := by decide +kernel
theorem dX11_made_73 : decode cX11_made 73 = .ok (.invokevirtual 99, 3) := by decide +kernel
theorem dX11_made_76 : decode cX11_made 76 = .ok (.bipush 100, 2) := by decide +kernel
theorem dX11_made_78 : decode cX11_made 78 = .ok (.irem, 1) := by decide +kernel
theorem dX11_made_79 : decode cX11_made 79 = .ok (.istore 5, 2) := by decide +kernel
theorem dX11_made_81 : decode cX11_made 81 = .ok (.aload_n 0, 1) := by decide +kernel
theorem dX11_made_82 : decode cX11_made 82 = .ok (.getfield 10, 3) := by decide +kernel
theorem dX11_made_85 : decode cX11_made 85 = .ok (.invokevirtual 99, 3) := by decide +kernel
theorem dX11_made_88 : decode cX11_made 88 = .ok (.sipush 300, 3) := by decide +kernel
theorem dX11_made_91 : decode cX11_made 91 = .ok (.irem, 1) := by decide +kernel
theorem dX11_made_92 : decode cX11_made 92 = .ok (.istore 6, 2) := by decide +kernel
theorem dX11_made_94 : decode cX11_made 94 = .ok (.aload_n 0, 1) := by decide +kernel
theorem dX11_made_95 : decode cX11_made 95 = .ok (.getfield 10, 3) := by decide +kernel
theorem dX11_made_98 : decode cX11_made 98 = .ok (.invokevirtual 99, 3) := by decide +kernel
theorem dX11_made_101 : decode cX11_made 101 = .ok (.sipush 200, 3) := by decide +kernel
theorem dX11_made_104 : decode cX11_made 104 = .ok (.irem, 1) := by decide +kernel
theorem dX11_made_105 : decode cX11_made 105 = .ok (.istore 7, 2) := by decide +kernel
theorem dX11_made_107 : decode cX11_made 107 = .ok (.aload_n 0, 1) := by decide +kernel
theorem dX11_made_108 : decode cX11_made 108 = .ok (.getfield 10, 3) := by decide +kernel
theorem dX11_made_111 : decode cX11_made 111 = .ok (.getfield 58, 3) := by decide +kernel
theorem dX11_made_114 : decode cX11_made 114 = .ok (.bipush 100, 2) := by decide +kernel
theorem dX11_made_116 : decode cX11_made 116 = .ok (.iload_n 3, 1) := by decide +kernel
theorem dX11_made_117 : decode cX11_made 117 = .ok (.imul, 1) := by decide +kernel
theorem dX11_made_118 : decode cX11_made 118 = .ok (.iload 4, 2) := by decide +kernel
theorem dX11_made_120 : decode cX11_made 120 = .ok (.iadd, 1) := by decide +kernel
theorem dX11_made_121 : decode cX11_made 121 = .ok (.iload 5, 2) := by decide +kernel
theorem dX11_made_123 : decode cX11_made 123 = .ok (.iload 6, 2) := by decide +kernel
theorem dX11_made_125 : decode cX11_made 125 = .ok (.iload 7, 2) := by decide +kernel
theorem dX11_made_127 : decode cX11_made 127 = .ok (.invokevirtual 64, 3) := by decide +kernel
theorem dX11_made_130 : decode cX11_made 130 = .ok (.pop, 1) := by decide +kernel
theorem dX11_made_131 : decode cX11_made 131 = .ok (.iinc 2 1, 3) := by decide +kernel
theorem dX11_made_134 : decode cX11_made 134 = .ok (.goto (-93), 3) := by decide +kernel
theorem dX11_made_137 : decode cX11_made 137 = .ok (.aload_n 0, 1) := by decide +kernel
theorem dX11_made_138 : decode cX11_made 138 = .ok (.getfield 10, 3) := by decide +kernel
theorem dX11_made_141 : decode cX11_made 141 = .ok (.getfield 58, 3) := by decide +kernel
theorem dX11_made_144 : decode cX11_made 144 = .ok (.getfield 61, 3) := by decide +kernel
theorem dX11_made_147 : decode cX11_made 147 = .ok (.ireturn, 1) := by decide +kernel
theorem dX11_pace_0 : decode cX11_pace 0 = .ok (.iload_n 1, 1) := by decide +kernel
theorem dX11_pace_1 : decode cX11_pace 1 = .ok (.iconst 1, 1) := by decide +kernel
theorem dX11_pace_2 : decode cX11_pace 2 = .ok (.bipush 9, 2) := by decide +kernel
theorem dX11_pace_4 : decode cX11_pace 4 = .ok (.invokestatic 72, 3) := by decide +kernel
theorem dX11_pace_7 : decode cX11_pace 7 = .ok (.ifCond .ne 9, 3) := by decide +kernel
theorem dX11_pace_10 : decode cX11_pace 10 = .ok (.aload_n 0, 1) := by decide +kernel
theorem dX11_pace_11 : decode cX11_pace 11 = .ok (.iconst 1, 1) := by decide +kernel
theorem dX11_pace_12 : decode cX11_pace 12 = .ok (.invokevirtual 54, 3) := by decide +kernel
theorem dX11_pace_15 : decode cX11_pace 15 = .ok (.ireturn, 1) := by decide +kernel
theorem dX11_pace_16 : decode cX11_pace 16 = .ok (.aload_n 0, 1) := by decide +kernel
theorem dX11_pace_17 : decode cX11_pace 17 = .ok (.getfield 10, 3) := by decide +kernel
theorem dX11_pace_20 : decode cX11_pace 20 = .ok (.getfield 58, 3) := by decide +kernel
theorem dX11_pace_23 : decode cX11_pace 23 = .ok (.getfield 103, 3) := by decide +kernel
theorem dX11_pace_26 : decode cX11_pace 26 = .ok (.istore_n 2, 1) := by decide +kernel
theorem dX11_pace_27 : decode cX11_pace 27 = .ok (.aload_n 0, 1) := by decide +kernel
theorem dX11_pace_28 : decode cX11_pace 28 = .ok (.getfield 10, 3) := by decide +kernel
theorem dX11_pace_31 : decode cX11_pace 31 = .ok (.getfield 58, 3) := by decide +kernel
theorem dX11_pace_34 : decode cX11_pace 34 = .ok (.iload_n 1, 1) := by decide +kernel
theorem dX11_pace_35 : decode cX11_pace 35 = .ok (.putfield 103, 3) := by decide +kernel
theorem dX11_pace_38 : decode cX11_pace 38 = .ok (.aload_n 0, 1) := by decide +kernel
theorem dX11_pace_39 : decode cX11_pace 39 = .ok (.getfield 10, 3) := by decide +kernel
theorem dX11_pace_42 : decode cX11_pace 42 = .ok (.getfield 58, 3) := by decide +kernel
theorem dX11_pace_45 : decode cX11_pace 45 = .ok (.invokevirtual 106, 3) := by decide +kernel
theorem dX11_pace_48 : decode cX11_pace 48 = .ok (.iload_n 2, 1) := by decide +kernel
theorem dX11_pace_49 : decode cX11_pace 49 = .ok (.ireturn, 1) := by decide +kernel
theorem dX11_way_0 : decode cX11_way 0 = .ok (.aload_n 0, 1) := by decide +kernel
theorem dX11_way_1 : decode cX11_way 1 = .ok (.iload_n 1, 1) := by decide +kernel
theorem dX11_way_2 : decode cX11_way 2 = .ok (.invokevirtual 68, 3) := by decide +kernel
theorem dX11_way_5 : decode cX11_way 5 = .ok (.ifCond .eq 11, 3) := by decide +kernel
theorem dX11_way_8 : decode cX11_way 8 = .ok (.aload_n 0, 1) := by decide +kernel
theorem dX11_way_9 : decode cX11_way 9 = .ok (.iload_n 2, 1) := by decide +kernel
theorem dX11_way_10 : decode cX11_way 10 = .ok (.invokevirtual 68, 3) := by decide +kernel
theorem dX11_way_13 : decode cX11_way 13 = .ok (.ifCond .ne 9, 3) := by decide +kernel
theorem dX11_way_16 : decode cX11_way 16 = .ok (.aload_n 0, 1) := by decide +kernel
theorem dX11_way_17 : decode cX11_way 17 = .ok (.iconst 1, 1) := by decide +kernel
theorem dX11_way_18 : decode cX11_way 18 = .ok (.invokevirtual 54, 3) := by decide +kernel
theorem dX11_way_21 : decode cX11_way 21 = .ok (.ireturn, 1) := by decide +kernel
theorem dX11_way_22 : decode cX11_way 22 = .ok (.aload_n 0, 1) := by decide +kernel
theorem dX11_way_23 : decode cX11_way 23 = .ok (.getfield 10, 3) := by decide +kernel
theorem dX11_way_26 : decode cX11_way 26 = .ok (.getfield 58, 3) := by decide +kernel
theorem dX11_way_29 : decode cX11_way 29 = .ok (.iload_n 1, 1) := by decide +kernel
theorem dX11_way_30 : decode cX11_way 30 = .ok (.iload_n 2, 1) := by decide +kernel
theorem dX11_way_31 : decode cX11_way 31 = .ok (.invokevirtual 109, 3) := by decide +kernel
theorem dX11_way_34 : decode cX11_way 34 = .ok (.ireturn, 1) := by decide +kernel
theorem dX11_mend_0 : decode cX11_mend 0 = .ok (.aload_n 0, 1) := by decide +kernel
theorem dX11_mend_1 : decode cX11_mend 1 = .ok (.iload_n 1, 1) := by decide +kernel
theorem dX11_mend_2 : decode cX11_mend 2 = .ok (.invokevirtual 68, 3) := by decide +kernel
theorem dX11_mend_5 : decode cX11_mend 5 = .ok (.ifCond .eq 25, 3) := by decide +kernel
theorem dX11_mend_8 : decode cX11_mend 8 = .ok (.aload_n 0, 1) := by decide +kernel
theorem dX11_mend_9 : decode cX11_mend 9 = .ok (.iload_n 2, 1) := by decide +kernel
theorem dX11_mend_10 : decode cX11_mend 10 = .ok (.invokevirtual 68, 3) := by decide +kernel
theorem dX11_mend_13 : decode cX11_mend 13 = .ok (.ifCond .eq 17, 3) := by decide +kernel
theorem dX11_mend_16 : decode cX11_mend 16 = .ok (.iload_n 1, 1) := by decide +kernel
theorem dX11_mend_17 : decode cX11_mend 17 = .ok (.iload_n 2, 1) := by decide +kernel
theorem dX11_mend_18 : decode cX11_mend 18 = .ok (.if_icmp .eq 12, 3) := by decide +kernel
theorem dX11_mend_21 : decode cX11_mend 21 = .ok (.iload_n 3, 1) := by decide +kernel
theorem dX11_mend_22 : decode cX11_mend 22 = .ok (.iconst 0, 1) := by decide +kernel
theorem dX11_mend_23 : decode cX11_mend 23 = .ok (.iconst 1, 1) := by decide +kernel
theorem dX11_mend_24 : decode cX11_mend 24 = .ok (.invokestatic 72, 3) := by decide +kernel
theorem dX11_mend_27 : decode cX11_mend 27 = .ok (.ifCond .ne 9, 3) := by decide +kernel
theorem dX11_mend_30 : decode cX11_mend 30 = .ok (.aload_n 0, 1) := by decide +kernel
theorem dX11_mend_31 : decode cX11_mend 31 = .ok (.iconst 1, 1) := by decide +kernel
theorem dX11_mend_32 : decode cX11_mend 32 = .ok (.invokevirtual 54, 3) := by decide +kernel
theorem dX11_mend_35 : decode cX11_mend 35 = .ok (.ireturn, 1) := by decide +kernel
theorem dX11_mend_36 : decode cX11_mend 36 = .ok (.aload_n 0, 1) := by decide +kernel
theorem dX11_mend_37 : decode cX11_mend 37 = .ok (.getfield 10, 3) := by decide +kernel
theorem dX11_mend_40 : decode cX11_mend 40 = .ok (.getfield 58, 3) := by decide +kernel
theorem dX11_mend_43 : decode cX11_mend 43 = .ok (.iload_n 1, 1) := by decide +kernel
theorem dX11_mend_44 : decode cX11_mend 44 = .ok (.iload_n 2, 1) := by decide +kernel
theorem dX11_mend_45 : decode cX11_mend 45 = .ok (.invokevirtual 112, 3) := by decide +kernel
theorem dX11_mend_48 : decode cX11_mend 48 = .ok (.ifCond .eq 7, 3) := by decide +kernel
theorem dX11_mend_51 : decode cX11_mend 51 = .ok (.iconst 1, 1) := by decide +kernel
theorem dX11_mend_52 : decode cX11_mend 52 = .ok (.goto 4, 3) := by decide +kernel
theorem dX11_mend_55 : decode cX11_mend 55 = .ok (.iconst 0, 1) := by decide +kernel
theorem dX11_mend_56 : decode cX11_mend 56 = .ok (.istore 4, 2) := by decide +kernel
theorem dX11_mend_58 : decode cX11_mend 58 = .ok (.aload_n 0, 1) := by decide +kernel
theorem dX11_mend_59 : decode cX11_mend 59 = .ok (.getfield 10, 3) := by decide +kernel
theorem dX11_mend_62 : decode cX11_mend 62 = .ok (.getfield 58, 3) := by decide +kernel
theorem dX11_mend_65 : decode cX11_mend 65 = .ok (.iload_n 1, 1) := by decide +kernel
theorem dX11_mend_66 : decode cX11_mend 66 = .ok (.iload_n 2, 1) := by decide +kernel
theorem dX11_mend_67 : decode cX11_mend 67 = .ok (.iload_n 3, 1) := by decide +kernel
theorem dX11_mend_68 : decode cX11_mend 68 = .ok (.iconst 1, 1) := by decide +kernel
theorem dX11_mend_69 : decode cX11_mend 69 = .ok (.if_icmp .ne 7, 3) := by decide +kernel
theorem dX11_mend_72 : decode cX11_mend 72 = .ok (.iconst 1, 1) := by decide +kernel
theorem dX11_mend_73 : decode cX11_mend 73 = .ok (.goto 4, 3) := by decide +kernel
theorem dX11_mend_76 : decode cX11_mend 76 = .ok (.iconst 0, 1) := by decide +kernel
theorem dX11_mend_77 : decode cX11_mend 77 = .ok (.invokevirtual 116, 3) := by decide +kernel
theorem dX11_mend_80 : decode cX11_mend 80 = .ok (.iload 4, 2) := by decide +kernel
theorem dX11_mend_82 : decode cX11_mend 82 = .ok (.ireturn, 1) := by decide +kernel
theorem dX11_thing_0 : decode cX11_thing 0 = .ok (.iload_n 1, 1) := by decide +kernel
theorem dX11_thing_1 : decode cX11_thing 1 = .ok (.ifCond .lt 27, 3) := by decide +kernel
theorem dX11_thing_4 : decode cX11_thing 4 = .ok (.iload_n 1, 1) := by decide +kernel
theorem dX11_thing_5 : decode cX11_thing 5 = .ok (.bipush 10, 2) := by decide +kernel
theorem dX11_thing_7 : decode cX11_thing 7 = .ok (.idiv, 1) := by decide +kernel
theorem dX11_thing_8 : decode cX11_thing 8 = .ok (.iconst 0, 1) := by decide +kernel
theorem dX11_thing_9 : decode cX11_thing 9 = .ok (.bipush 6, 2) := by decide +kernel
theorem dX11_thing_11 : decode cX11_thing 11 = .ok (.invokestatic 72, 3) := by decide +kernel
theorem dX11_thing_14 : decode cX11_thing 14 = .ok (.ifCond .eq 14, 3) := by decide +kernel
theorem dX11_thing_17 : decode cX11_thing 17 = .ok (.aload_n 0, 1) := by decide +kernel
theorem dX11_thing_18 : decode cX11_thing 18 = .ok (.iload_n 1, 1) := by decide +kernel
theorem dX11_thing_19 : decode cX11_thing 19 = .ok (.bipush 10, 2) := by decide +kernel
theorem dX11_thing_21 : decode cX11_thing 21 = .ok (.irem, 1) := by decide +kernel
theorem dX11_thing_22 : decode cX11_thing 22 = .ok (.invokevirtual 68, 3) := by decide +kernel
theorem dX11_thing_25 : decode cX11_thing 25 = .ok (.ifCond .ne 9, 3) := by decide +kernel
theorem dX11_thing_28 : decode cX11_thing 28 = .ok (.aload_n 0, 1) := by decide +kernel
theorem dX11_thing_29 : decode cX11_thing 29 = .ok (.iconst 1, 1) := by decide +kernel
theorem dX11_thing_30 : decode cX11_thing 30 = .ok (.invokevirtual 54, 3) := by decide +kernel
theorem dX11_thing_33 : decode cX11_thing 33 = .ok (.ireturn, 1) := by decide +kernel
theorem dX11_thing_34 : decode cX11_thing 34 = .ok (.iload_n 2, 1) := by decide +kernel
theorem dX11_thing_35 : decode cX11_thing 35 = .ok (.iconst 0, 1) := by decide +kernel
theorem dX11_thing_36 : decode cX11_thing 36 = .ok (.sipush 999, 3) := by decide +kernel
theorem dX11_thing_39 : decode cX11_thing 39 = .ok (.invokestatic 72, 3) := by decide +kernel
theorem dX11_thing_42 : decode cX11_thing 42 = .ok (.ifCond .eq 26, 3) := by decide +kernel
theorem dX11_thing_45 : decode cX11_thing 45 = .ok (.iload_n 3, 1) := by decide +kernel
theorem dX11_thing_46 : decode cX11_thing 46 = .ok (.iconst 0, 1) := by decide +kernel
theorem dX11_thing_47 : decode cX11_thing 47 = .ok (.sipush 9999, 3) := by decide +kernel
theorem dX11_thing_50 : decode cX11_thing 50 = .ok (.invokestatic 72, 3) := by decide +kernel
theorem dX11_thing_53 : decode cX11_thing 53 = .ok (.ifCond .eq 15, 3) := by decide +kernel
theorem dX11_thing_56 : decode cX11_thing 56 = .ok (.iload 4, 2) := by decide +kernel
theorem dX11_thing_58 : decode cX11_thing 58 = .ok (.iconst 0, 1) := by decide +kernel
theorem dX11_thing_59 : decode cX11_thing 59 = .ok (.sipush 300, 3) := by decide +kernel
theorem dX11_thing_62 : decode cX11_thing 62 = .ok (.invokestatic 72, 3) := by decide +kernel
theorem dX11_thing_65 : decode cX11_thing 65 = .ok (.ifCond .ne 9, 3) := by decide +kernel
theorem dX11_thing_68 : decode cX11_thing 68 = .ok (.aload_n 0, 1) := by decide +kernel
theorem dX11_thing_69 : decode cX11_thing 69 = .ok (.iconst 1, 1) := by decide +kernel
theorem dX11_thing_70 : decode cX11_thing 70 = .ok (.invokevirtual 54, 3) := by decide +kernel
theorem dX11_thing_73 : decode cX11_thing 73 = .ok (.ireturn, 1) := by decide +kernel
theorem dX11_thing_74 : decode cX11_thing 74 = .ok (.aload_n 0, 1) := by decide +kernel
theorem dX11_thing_75 : decode cX11_thing 75 = .ok (.getfield 10, 3) := by decide +kernel
theorem dX11_thing_78 : decode cX11_thing 78 = .ok (.getfield 58, 3) := by decide +kernel
theorem dX11_thing_81 : decode cX11_thing 81 = .ok (.getfield 120, 3) := by decide +kernel
theorem dX11_thing_84 : decode cX11_thing 84 = .ok (.bipush 10, 2) := by decide +kernel
theorem dX11_thing_86 : decode cX11_thing 86 = .ok (.if_icmp .lt 9, 3) := by decide +kernel
theorem dX11_thing_89 : decode cX11_thing 89 = .ok (.aload_n 0, 1) := by decide +kernel
theorem dX11_thing_90 : decode cX11_thing 90 = .ok (.iconst 4, 1) := by decide +kernel
theorem dX11_thing_91 : decode cX11_thing 91 = .ok (.invokevirtual 54, 3) := by decide +kernel
theorem dX11_thing_94 : decode cX11_thing 94 = .ok (.ireturn, 1) := by decide +kernel
theorem dX11_thing_95 : decode cX11_thing 95 = .ok (.aload_n 0, 1) := by decide +kernel
theorem dX11_thing_96 : decode cX11_thing 96 = .ok (.getfield 10, 3) := by decide +kernel
theorem dX11_thing_99 : decode cX11_thing 99 = .ok (.getfield 58, 3) := by decide +kernel
theorem dX11_thing_102 : decode cX11_thing 102 = .ok (.getfield 120, 3) := by decide +kernel
theorem dX11_thing_105 : decode cX11_thing 105 = .ok (.istore 5, 2) := by decide +kernel
theorem dX11_thing_107 : decode cX11_thing 107 = .ok (.aload_n 0, 1) := by decide +kernel
theorem dX11_thing_108 : decode cX11_thing 108 = .ok (.getfield 10, 3) := by decide +kernel
theorem dX11_thing_111 : decode cX11_thing 111 = .ok (.getfield 58, 3) := by decide +kernel
theorem dX11_thing_114 : decode cX11_thing 114 = .ok (.iload_n 1, 1) := by decide +kernel
theorem dX11_thing_115 : decode cX11_thing 115 = .ok (.bipush 10, 2) := by decide +kernel
theorem dX11_thing_117 : decode cX11_thing 117 = .ok (.idiv, 1) := by decide +kernel
theorem dX11_thing_118 : decode cX11_thing 118 = .ok (.iload 5, 2) := by decide +kernel
theorem dX11_thing_120 : decode cX11_thing 120 = .ok (.iload_n 1, 1) := by decide +kernel
theorem dX11_thing_121 : decode cX11_thing 121 = .ok (.bipush 10, 2) := by decide +kernel
theorem dX11_thing_123 : decode cX11_thing 123 = .ok (.irem, 1) := by decide +kernel
theorem dX11_thing_124 : decode cX11_thing 124 = .ok (.iload_n 2, 1) := by decide +kernel
theorem dX11_thing_125 : decode cX11_thing 125 = .ok (.iload_n 3, 1) := by decide +kernel
theorem dX11_thing_126 : decode cX11_thing 126 = .ok (.iload 4, 2) := by decide +kernel
theorem dX11_thing_128 : decode cX11_thing 128 = .ok (.invokestatic 123, 3) := by decide +kernel
theorem dX11_thing_131 : decode cX11_thing 131 = .ok (.invokevirtual 127, 3) := by decide +kernel
theorem dX11_thing_134 : decode cX11_thing 134 = .ok (.ireturn, 1) := by decide +kernel
theorem dX11_ofThing_0 : decode cX11_ofThing 0 = .ok (.aload_n 0, 1) := by decide +kernel
theorem dX11_ofThing_1 : decode cX11_ofThing 1 = .ok (.iload_n 1, 1) := by decide +kernel
theorem dX11_ofThing_2 : decode cX11_ofThing 2 = .ok (.invokevirtual 131, 3) := by decide +kernel
theorem dX11_ofThing_5 : decode cX11_ofThing 5 = .ok (.ifCond .eq 13, 3) := by decide +kernel
theorem dX11_ofThing_8 : decode cX11_ofThing 8 = .ok (.iload_n 2, 1) := by decide +kernel
theorem dX11_ofThing_9 : decode cX11_ofThing 9 = .ok (.iconst 0, 1) := by decide +kernel
theorem dX11_ofThing_10 : decode cX11_ofThing 10 = .ok (.bipush 9, 2) := by decide +kernel
theorem dX11_ofThing_12 : decode cX11_ofThing 12 = .ok (.invokestatic 72, 3) := by decide +kernel
theorem dX11_ofThing_15 : decode cX11_ofThing 15 = .ok (.ifCond .ne 9, 3) := by decide +kernel
theorem dX11_ofThing_18 : decode cX11_ofThing 18 = .ok (.aload_n 0, 1) := by decide +kernel
theorem dX11_ofThing_19 : decode cX11_ofThing 19 = .ok (.iconst 1, 1) := by decide +kernel
theorem dX11_ofThing_20 : decode cX11_ofThing 20 = .ok (.invokevirtual 54, 3) := by decide +kernel
theorem dX11_ofThing_23 : decode cX11_ofThing 23 = .ok (.ireturn, 1) := by decide +kernel
theorem dX11_ofThing_24 : decode cX11_ofThing 24 = .ok (.aload_n 0, 1) := by decide +kernel
theorem dX11_ofThing_25 : decode cX11_ofThing 25 = .ok (.getfield 10, 3) := by decide +kernel
theorem dX11_ofThing_28 : decode cX11_ofThing 28 = .ok (.getfield 58, 3) := by decide +kernel
theorem dX11_ofThing_31 : decode cX11_ofThing 31 = .ok (.astore_n 3, 1) := by decide +kernel
theorem dX11_ofThing_32 : decode cX11_ofThing 32 = .ok (.aload_n 3, 1) := by decide +kernel
theorem dX11_ofThing_33 : decode cX11_ofThing 33 = .ok (.getfield 134, 3) := by decide +kernel
theorem dX11_ofThing_36 : decode cX11_ofThing 36 = .ok (.iload_n 1, 1) := by decide +kernel
theorem dX11_ofThing_37 : decode cX11_ofThing 37 = .ok (.aaload, 1) := by decide +kernel
theorem dX11_ofThing_38 : decode cX11_ofThing 38 = .ok (.astore 4, 2) := by decide +kernel
theorem dX11_ofThing_40 : decode cX11_ofThing 40 = .ok (.iload_n 2, 1) := by decide +kernel
theorem dX11_ofThing_41 : decode cX11_ofThing 41 = .ok (.tableswitch 126 0 8 #[51, 57, 63, 69, 75, 81, 95, 102, 120], 51) := by decide +kernel
theorem dX11_ofThing_92 : decode cX11_ofThing 92 = .ok (.aload 4, 2) := by decide +kernel
theorem dX11_ofThing_94 : decode cX11_ofThing 94 = .ok (.invokevirtual 138, 3) := by decide +kernel
theorem dX11_ofThing_97 : decode cX11_ofThing 97 = .ok (.ireturn, 1) := by decide +kernel
theorem dX11_ofThing_98 : decode cX11_ofThing 98 = .ok (.aload 4, 2) := by decide +kernel
theorem dX11_ofThing_100 : decode cX11_ofThing 100 = .ok (.getfield 143, 3) := by decide +kernel
theorem dX11_ofThing_103 : decode cX11_ofThing 103 = .ok (.ireturn, 1) := by decide +kernel
theorem dX11_ofThing_104 : decode cX11_ofThing 104 = .ok (.aload 4, 2) := by decide +kernel
theorem dX11_ofThing_106 : decode cX11_ofThing 106 = .ok (.getfield 146, 3) := by decide +kernel
theorem dX11_ofThing_109 : decode cX11_ofThing 109 = .ok (.ireturn, 1) := by decide +kernel
theorem dX11_ofThing_110 : decode cX11_ofThing 110 = .ok (.aload 4, 2) := by decide +kernel
theorem dX11_ofThing_112 : decode cX11_ofThing 112 = .ok (.getfield 149, 3) := by decide +kernel
theorem dX11_ofThing_115 : decode cX11_ofThing 115 = .ok (.ireturn, 1) := by decide +kernel
theorem dX11_ofThing_116 : decode cX11_ofThing 116 = .ok (.aload 4, 2) := by decide +kernel
theorem dX11_ofThing_118 : decode cX11_ofThing 118 = .ok (.getfield 152, 3) := by decide +kernel
theorem dX11_ofThing_121 : decode cX11_ofThing 121 = .ok (.ireturn, 1) := by decide +kernel
theorem dX11_ofThing_122 : decode cX11_ofThing 122 = .ok (.aload_n 3, 1) := by decide +kernel
theorem dX11_ofThing_123 : decode cX11_ofThing 123 = .ok (.iload_n 1, 1) := by decide +kernel
theorem dX11_ofThing_124 : decode cX11_ofThing 124 = .ok (.invokevirtual 155, 3) := by decide +kernel
theorem dX11_ofThing_127 : decode cX11_ofThing 127 = .ok (.ifCond .eq 7, 3) := by decide +kernel
theorem dX11_ofThing_130 : decode cX11_ofThing 130 = .ok (.iconst 1, 1) := by decide +kernel
theorem dX11_ofThing_131 : decode cX11_ofThing 131 = .ok (.goto 4, 3) := by decide +kernel
theorem dX11_ofThing_134 : decode cX11_ofThing 134 = .ok (.iconst 0, 1) := by decide +kernel
theorem dX11_ofThing_135 : decode cX11_ofThing 135 = .ok (.ireturn, 1) := by decide +kernel
theorem dX11_ofThing_136 : decode cX11_ofThing 136 = .ok (.aload_n 3, 1) := by decide +kernel
theorem dX11_ofThing_137 : decode cX11_ofThing 137 = .ok (.getfield 158, 3) := by decide +kernel
theorem dX11_ofThing_140 : decode cX11_ofThing 140 = .ok (.iload_n 1, 1) := by decide +kernel
theorem dX11_ofThing_141 : decode cX11_ofThing 141 = .ok (.iaload, 1) := by decide +kernel
theorem dX11_ofThing_142 : decode cX11_ofThing 142 = .ok (.ireturn, 1) := by decide +kernel
theorem dX11_ofThing_143 : decode cX11_ofThing 143 = .ok (.aload 4, 2) := by decide +kernel
theorem dX11_ofThing_145 : decode cX11_ofThing 145 = .ok (.aload_n 3, 1) := by decide +kernel
theorem dX11_ofThing_146 : decode cX11_ofThing 146 = .ok (.aload 4, 2) := by decide +kernel
theorem dX11_ofThing_148 : decode cX11_ofThing 148 = .ok (.getfield 143, 3) := by decide +kernel
theorem dX11_ofThing_151 : decode cX11_ofThing 151 = .ok (.aload_n 3, 1) := by decide +kernel
theorem dX11_ofThing_152 : decode cX11_ofThing 152 = .ok (.getfield 161, 3) := by decide +kernel
theorem dX11_ofThing_155 : decode cX11_ofThing 155 = .ok (.iload_n 1, 1) := by decide +kernel
theorem dX11_ofThing_156 : decode cX11_ofThing 156 = .ok (.iaload, 1) := by decide +kernel
theorem dX11_ofThing_157 : decode cX11_ofThing 157 = .ok (.invokevirtual 164, 3) := by decide +kernel
theorem dX11_ofThing_160 : decode cX11_ofThing 160 = .ok (.ireturn, 1) := by decide +kernel
theorem dX11_ofThing_161 : decode cX11_ofThing 161 = .ok (.aload 4, 2) := by decide +kernel
theorem dX11_ofThing_163 : decode cX11_ofThing 163 = .ok (.invokevirtual 168, 3) := by decide +kernel
theorem dX11_ofThing_166 : decode cX11_ofThing 166 = .ok (.ireturn, 1) := by decide +kernel
theorem dX11_ofThing_167 : decode cX11_ofThing 167 = .ok (.aload_n 3, 1) := by decide +kernel
theorem dX11_ofThing_168 : decode cX11_ofThing 168 = .ok (.getfield 161, 3) := by decide +kernel
theorem dX11_ofThing_171 : decode cX11_ofThing 171 = .ok (.iload_n 1, 1) := by decide +kernel
theorem dX11_ofThing_172 : decode cX11_ofThing 172 = .ok (.iaload, 1) := by decide +kernel
theorem dX11_ofThing_173 : decode cX11_ofThing 173 = .ok (.ireturn, 1) := by decide +kernel
theorem dX11_as_0 : decode cX11_as 0 = .ok (.aload_n 0, 1) := by decide +kernel
theorem dX11_as_1 : decode cX11_as 1 = .ok (.iload_n 1, 1) := by decide +kernel
theorem dX11_as_2 : decode cX11_as 2 = .ok (.invokevirtual 131, 3) := by decide +kernel
theorem dX11_as_5 : decode cX11_as 5 = .ok (.ifCond .eq 13, 3) := by decide +kernel
theorem dX11_as_8 : decode cX11_as 8 = .ok (.iload_n 2, 1) := by decide +kernel
theorem dX11_as_9 : decode cX11_as 9 = .ok (.iconst 0, 1) := by decide +kernel
theorem dX11_as_10 : decode cX11_as 10 = .ok (.bipush 6, 2) := by decide +kernel
theorem dX11_as_12 : decode cX11_as 12 = .ok (.invokestatic 72, 3) := by decide +kernel
theorem dX11_as_15 : decode cX11_as 15 = .ok (.ifCond .ne 9, 3) := by decide +kernel
theorem dX11_as_18 : decode cX11_as 18 = .ok (.aload_n 0, 1) := by decide +kernel
theorem dX11_as_19 : decode cX11_as 19 = .ok (.iconst 1, 1) := by decide +kernel
theorem dX11_as_20 : decode cX11_as 20 = .ok (.invokevirtual 54, 3) := by decide +kernel
theorem dX11_as_23 : decode cX11_as 23 = .ok (.ireturn, 1) := by decide +kernel
theorem dX11_as_24 : decode cX11_as 24 = .ok (.aload_n 0, 1) := by decide +kernel
theorem dX11_as_25 : decode cX11_as 25 = .ok (.getfield 10, 3) := by decide +kernel
theorem dX11_as_28 : decode cX11_as 28 = .ok (.getfield 58, 3) := by decide +kernel
theorem dX11_as_31 : decode cX11_as 31 = .ok (.getfield 134, 3) := by decide +kernel
theorem dX11_as_34 : decode cX11_as 34 = .ok (.iload_n 1, 1) := by decide +kernel
theorem dX11_as_35 : decode cX11_as 35 = .ok (.aaload, 1) := by decide +kernel
theorem dX11_as_36 : decode cX11_as 36 = .ok (.astore_n 3, 1) := by decide +kernel
theorem dX11_as_37 : decode cX11_as 37 = .ok (.aload_n 3, 1) := by decide +kernel
theorem dX11_as_38 : decode cX11_as 38 = .ok (.iload_n 2, 1) := by decide +kernel
theorem dX11_as_39 : decode cX11_as 39 = .ok (.invokevirtual 171, 3) := by decide +kernel
theorem dX11_as_42 : decode cX11_as 42 = .ok (.ifCond .eq 10, 3) := by decide +kernel
theorem dX11_as_45 : decode cX11_as 45 = .ok (.aload_n 3, 1) := by decide +kernel
theorem dX11_as_46 : decode cX11_as 46 = .ok (.getfield 149, 3) := by decide +kernel
theorem dX11_as_49 : decode cX11_as 49 = .ok (.goto 8, 3) := by decide +kernel
theorem dX11_as_52 : decode cX11_as 52 = .ok (.aload_n 0, 1) := by decide +kernel
theorem dX11_as_53 : decode cX11_as 53 = .ok (.iconst 5, 1) := by decide +kernel
theorem dX11_as_54 : decode cX11_as 54 = .ok (.invokevirtual 54, 3) := by decide +kernel
theorem dX11_as_57 : decode cX11_as 57 = .ok (.ireturn, 1) := by decide +kernel
theorem dX11_open_0 : decode cX11_open 0 = .ok (.aload_n 0, 1) := by decide +kernel
theorem dX11_open_1 : decode cX11_open 1 = .ok (.iload_n 1, 1) := by decide +kernel
theorem dX11_open_2 : decode cX11_open 2 = .ok (.invokevirtual 131, 3) := by decide +kernel
theorem dX11_open_5 : decode cX11_open 5 = .ok (.ifCond .eq 12, 3) := by decide +kernel
theorem dX11_open_8 : decode cX11_open 8 = .ok (.iload_n 2, 1) := by decide +kernel
theorem dX11_open_9 : decode cX11_open 9 = .ok (.iconst 0, 1) := by decide +kernel
theorem dX11_open_10 : decode cX11_open 10 = .ok (.iconst 1, 1) := by decide +kernel
theorem dX11_open_11 : decode cX11_open 11 = .ok (.invokestatic 72, 3) := by decide +kernel
theorem dX11_open_14 : decode cX11_open 14 = .ok (.ifCond .ne 9, 3) := by decide +kernel
theorem dX11_open_17 : decode cX11_open 17 = .ok (.aload_n 0, 1) := by decide +kernel
theorem dX11_open_18 : decode cX11_open 18 = .ok (.iconst 1, 1) := by decide +kernel
theorem dX11_open_19 : decode cX11_open 19 = .ok (.invokevirtual 54, 3) := by decide +kernel
theorem dX11_open_22 : decode cX11_open 22 = .ok (.ireturn, 1) := by decide +kernel
theorem dX11_open_23 : decode cX11_open 23 = .ok (.aload_n 0, 1) := by decide +kernel
theorem dX11_open_24 : decode cX11_open 24 = .ok (.getfield 10, 3) := by decide +kernel
theorem dX11_open_27 : decode cX11_open 27 = .ok (.getfield 58, 3) := by decide +kernel
theorem dX11_open_30 : decode cX11_open 30 = .ok (.iload_n 1, 1) := by decide +kernel
theorem dX11_open_31 : decode cX11_open 31 = .ok (.invokevirtual 155, 3) := by decide +kernel
theorem dX11_open_34 : decode cX11_open 34 = .ok (.ifCond .eq 7, 3) := by decide +kernel
theorem dX11_open_37 : decode cX11_open 37 = .ok (.iconst 1, 1) := by decide +kernel
theorem dX11_open_38 : decode cX11_open 38 = .ok (.goto 4, 3) := by decide +kernel
theorem dX11_open_41 : decode cX11_open 41 = .ok (.iconst 0, 1) := by decide +kernel
theorem dX11_open_42 : decode cX11_open 42 = .ok (.istore_n 3, 1) := by decide +kernel
theorem dX11_open_43 : decode cX11_open 43 = .ok (.aload_n 0, 1) := by decide +kernel
theorem dX11_open_44 : decode cX11_open 44 = .ok (.getfield 10, 3) := by decide +kernel
theorem dX11_open_47 : decode cX11_open 47 = .ok (.getfield 58, 3) := by decide +kernel
theorem dX11_open_50 : decode cX11_open 50 = .ok (.iload_n 1, 1) := by decide +kernel
theorem dX11_open_51 : decode cX11_open 51 = .ok (.iload_n 2, 1) := by decide +kernel
theorem dX11_open_52 : decode cX11_open 52 = .ok (.iconst 1, 1) := by decide +kernel
theorem dX11_open_53 : decode cX11_open 53 = .ok (.if_icmp .ne 7, 3) := by decide +kernel
theorem dX11_open_56 : decode cX11_open 56 = .ok (.iconst 1, 1) := by decide +kernel
theorem dX11_open_57 : decode cX11_open 57 = .ok (.goto 4, 3) := by decide +kernel
theorem dX11_open_60 : decode cX11_open 60 = .ok (.iconst 0, 1) := by decide +kernel
theorem dX11_open_61 : decode cX11_open 61 = .ok (.invokevirtual 174, 3) := by decide +kernel
theorem dX11_open_64 : decode cX11_open 64 = .ok (.iload_n 3, 1) := by decide +kernel
theorem dX11_open_65 : decode cX11_open 65 = .ok (.ireturn, 1) := by decide +kernel
theorem dX11_promise_0 : decode cX11_promise 0 = .ok (.aload_n 0, 1) := by decide +kernel
theorem dX11_promise_1 : decode cX11_promise 1 = .ok (.iload_n 1, 1) := by decide +kernel
theorem dX11_promise_2 : decode cX11_promise 2 = .ok (.invokevirtual 131, 3) := by decide +kernel
theorem dX11_promise_5 : decode cX11_promise 5 = .ok (.ifCond .eq 14, 3) := by decide +kernel
theorem dX11_promise_8 : decode cX11_promise 8 = .ok (.iload_n 2, 1) := by decide +kernel
theorem dX11_promise_9 : decode cX11_promise 9 = .ok (.iconst (-1), 1) := by decide +kernel
theorem dX11_promise_10 : decode cX11_promise 10 = .ok (.sipush 199, 3) := by decide +kernel
theorem dX11_promise_13 : decode cX11_promise 13 = .ok (.invokestatic 72, 3) := by decide +kernel
theorem dX11_promise_16 : decode cX11_promise 16 = .ok (.ifCond .ne 9, 3) := by decide +kernel
theorem dX11_promise_19 : decode cX11_promise 19 = .ok (.aload_n 0, 1) := by decide +kernel
theorem dX11_promise_20 : decode cX11_promise 20 = .ok (.iconst 1, 1) := by decide +kernel
theorem dX11_promise_21 : decode cX11_promise 21 = .ok (.invokevirtual 54, 3) := by decide +kernel
theorem dX11_promise_24 : decode cX11_promise 24 = .ok (.ireturn, 1) := by decide +kernel
theorem dX11_promise_25 : decode cX11_promise 25 = .ok (.aload_n 0, 1) := by decide +kernel
theorem dX11_promise_26 : decode cX11_promise 26 = .ok (.getfield 10, 3) := by decide +kernel
theorem dX11_promise_29 : decode cX11_promise 29 = .ok (.getfield 58, 3) := by decide +kernel
theorem dX11_promise_32 : decode cX11_promise 32 = .ok (.getfield 158, 3) := by decide +kernel
theorem dX11_promise_35 : decode cX11_promise 35 = .ok (.iload_n 1, 1) := by decide +kernel
theorem dX11_promise_36 : decode cX11_promise 36 = .ok (.iaload, 1) := by decide +kernel
theorem dX11_promise_37 : decode cX11_promise 37 = .ok (.istore_n 3, 1) := by decide +kernel
theorem dX11_promise_38 : decode cX11_promise 38 = .ok (.aload_n 0, 1) := by decide +kernel
theorem dX11_promise_39 : decode cX11_promise 39 = .ok (.getfield 10, 3) := by decide +kernel
theorem dX11_promise_42 : decode cX11_promise 42 = .ok (.getfield 58, 3) := by decide +kernel
theorem dX11_promise_45 : decode cX11_promise 45 = .ok (.getfield 158, 3) := by decide +kernel
theorem dX11_promise_48 : decode cX11_promise 48 = .ok (.iload_n 1, 1) := by decide +kernel
theorem dX11_promise_49 : decode cX11_promise 49 = .ok (.iload_n 2, 1) := by decide +kernel
theorem dX11_promise_50 : decode cX11_promise 50 = .ok (.iastore, 1) := by decide +kernel
theorem dX11_promise_51 : decode cX11_promise 51 = .ok (.iload_n 3, 1) := by decide +kernel
theorem dX11_promise_52 : decode cX11_promise 52 = .ok (.ireturn, 1) := by decide +kernel
theorem dX11_comfort_0 : decode cX11_comfort 0 = .ok (.aload_n 0, 1) := by decide +kernel
theorem dX11_comfort_1 : decode cX11_comfort 1 = .ok (.iload_n 1, 1) := by decide +kernel
theorem dX11_comfort_2 : decode cX11_comfort 2 = .ok (.invokevirtual 68, 3) := by decide +kernel
theorem dX11_comfort_5 : decode cX11_comfort 5 = .ok (.ifCond .ne 9, 3) := by decide +kernel
theorem dX11_comfort_8 : decode cX11_comfort 8 = .ok (.aload_n 0, 1) := by decide +kernel
theorem dX11_comfort_9 : decode cX11_comfort 9 = .ok (.iconst 1, 1) := by decide +kernel
theorem dX11_comfort_10 : decode cX11_comfort 10 = .ok (.invokevirtual 54, 3) := by decide +kernel
theorem dX11_comfort_13 : decode cX11_comfort 13 = .ok (.ireturn, 1) := by decide +kernel
theorem dX11_comfort_14 : decode cX11_comfort 14 = .ok (.aload_n 0, 1) := by decide +kernel
theorem dX11_comfort_15 : decode cX11_comfort 15 = .ok (.getfield 10, 3) := by decide +kernel
theorem dX11_comfort_18 : decode cX11_comfort 18 = .ok (.getfield 58, 3) := by decide +kernel
theorem dX11_comfort_21 : decode cX11_comfort 21 = .ok (.iload_n 1, 1) := by decide +kernel
theorem dX11_comfort_22 : decode cX11_comfort 22 = .ok (.invokevirtual 178, 3) := by decide +kernel
theorem dX11_comfort_25 : decode cX11_comfort 25 = .ok (.ireturn, 1) := by decide +kernel
theorem dX11_haven_0 : decode cX11_haven 0 = .ok (.aload_n 0, 1) := by decide +kernel
theorem dX11_haven_1 : decode cX11_haven 1 = .ok (.getfield 10, 3) := by decide +kernel
theorem dX11_haven_4 : decode cX11_haven 4 = .ok (.getfield 58, 3) := by decide +kernel
theorem dX11_haven_7 : decode cX11_haven 7 = .ok (.getfield 61, 3) := by decide +kernel
theorem dX11_haven_10 : decode cX11_haven 10 = .ok (.ifCond .ne 9, 3) := by decide +kernel
theorem dX11_haven_13 : decode cX11_haven 13 = .ok (.aload_n 0, 1) := by decide +kernel
theorem dX11_haven_14 : decode cX11_haven 14 = .ok (.iconst 2, 1) := by decide +kernel
theorem dX11_haven_15 : decode cX11_haven 15 = .ok (.invokevirtual 54, 3) := by decide +kernel
theorem dX11_haven_18 : decode cX11_haven 18 = .ok (.ireturn, 1) := by decide +kernel
theorem dX11_haven_19 : decode cX11_haven 19 = .ok (.aload_n 0, 1) := by decide +kernel
theorem dX11_haven_20 : decode cX11_haven 20 = .ok (.getfield 10, 3) := by decide +kernel
theorem dX11_haven_23 : decode cX11_haven 23 = .ok (.getfield 58, 3) := by decide +kernel
theorem dX11_haven_26 : decode cX11_haven 26 = .ok (.invokevirtual 181, 3) := by decide +kernel
theorem dX11_haven_29 : decode cX11_haven 29 = .ok (.aload_n 0, 1) := by decide +kernel
theorem dX11_haven_30 : decode cX11_haven 30 = .ok (.getfield 10, 3) := by decide +kernel
theorem dX11_haven_33 : decode cX11_haven 33 = .ok (.getfield 58, 3) := by decide +kernel
theorem dX11_haven_36 : decode cX11_haven 36 = .ok (.invokevirtual 184, 3) := by decide +kernel
theorem dX11_haven_39 : decode cX11_haven 39 = .ok (.ireturn, 1) := by decide +kernel
theorem dX11_feed_0 : decode cX11_feed 0 = .ok (.iload_n 3, 1) := by decide +kernel
theorem dX11_feed_1 : decode cX11_feed 1 = .ok (.iconst 1, 1) := by decide +kernel
theorem dX11_feed_2 : decode cX11_feed 2 = .ok (.bipush 8, 2) := by decide +kernel
theorem dX11_feed_4 : decode cX11_feed 4 = .ok (.invokestatic 72, 3) := by decide +kernel
theorem dX11_feed_7 : decode cX11_feed 7 = .ok (.ifCond .ne 9, 3) := by decide +kernel
theorem dX11_feed_10 : decode cX11_feed 10 = .ok (.aload_n 0, 1) := by decide +kernel
theorem dX11_feed_11 : decode cX11_feed 11 = .ok (.iconst 1, 1) := by decide +kernel
theorem dX11_feed_12 : decode cX11_feed 12 = .ok (.invokevirtual 54, 3) := by decide +kernel
theorem dX11_feed_15 : decode cX11_feed 15 = .ok (.ireturn, 1) := by decide +kernel
theorem dX11_feed_16 : decode cX11_feed 16 = .ok (.aload_n 0, 1) := by decide +kernel
theorem dX11_feed_17 : decode cX11_feed 17 = .ok (.getfield 10, 3) := by decide +kernel
theorem dX11_feed_20 : decode cX11_feed 20 = .ok (.getfield 187, 3) := by decide +kernel
theorem dX11_feed_23 : decode cX11_feed 23 = .ok (.getfield 93, 3) := by decide +kernel
theorem dX11_feed_26 : decode cX11_feed 26 = .ok (.iload_n 3, 1) := by decide +kernel
theorem dX11_feed_27 : decode cX11_feed 27 = .ok (.iadd, 1) := by decide +kernel
theorem dX11_feed_28 : decode cX11_feed 28 = .ok (.bipush 50, 2) := by decide +kernel
theorem dX11_feed_30 : decode cX11_feed 30 = .ok (.if_icmp .le 9, 3) := by decide +kernel
theorem dX11_feed_33 : decode cX11_feed 33 = .ok (.aload_n 0, 1) := by decide +kernel
theorem dX11_feed_34 : decode cX11_feed 34 = .ok (.iconst 4, 1) := by decide +kernel
theorem dX11_feed_35 : decode cX11_feed 35 = .ok (.invokevirtual 54, 3) := by decide +kernel
theorem dX11_feed_38 : decode cX11_feed 38 = .ok (.ireturn, 1) := by decide +kernel
theorem dX11_feed_39 : decode cX11_feed 39 = .ok (.iconst 0, 1) := by decide +kernel
theorem dX11_feed_40 : decode cX11_feed 40 = .ok (.istore 4, 2) := by decide +kernel
theorem dX11_feed_42 : decode cX11_feed 42 = .ok (.iload 4, 2) := by decide +kernel
theorem dX11_feed_44 : decode cX11_feed 44 = .ok (.iload_n 3, 1) := by decide +kernel
theorem dX11_feed_45 : decode cX11_feed 45 = .ok (.if_icmp .ge 31, 3) := by decide +kernel
theorem dX11_feed_48 : decode cX11_feed 48 = .ok (.aload_n 0, 1) := by decide +kernel
theorem dX11_feed_49 : decode cX11_feed 49 = .ok (.getfield 10, 3) := by decide +kernel
theorem dX11_feed_52 : decode cX11_feed 52 = .ok (.getfield 187, 3) := by decide +kernel
theorem dX11_feed_55 : decode cX11_feed 55 = .ok (.lload_n 1, 1) := by decide +kernel
theorem dX11_feed_56 : decode cX11_feed 56 = .ok (.bipush 8, 2) := by decide +kernel
theorem dX11_feed_58 : decode cX11_feed 58 = .ok (.iload 4, 2) := by decide +kernel
theorem dX11_feed_60 : decode cX11_feed 60 = .ok (.imul, 1) := by decide +kernel
theorem dX11_feed_61 : decode cX11_feed 61 = .ok (.lushr, 1) := by decide +kernel
theorem dX11_feed_62 : decode cX11_feed 62 = .ok (.l2i, 1) := by decide +kernel
theorem dX11_feed_63 : decode cX11_feed 63 = .ok (.sipush 255, 3) := by decide +kernel
theorem dX11_feed_66 : decode cX11_feed 66 = .ok (.iand, 1) := by decide +kernel
theorem dX11_feed_67 : decode cX11_feed 67 = .ok (.invokevirtual 190, 3) := by decide +kernel
theorem dX11_feed_70 : decode cX11_feed 70 = .ok (.iinc 4 1, 3) := by decide +kernel
theorem dX11_feed_73 : decode cX11_feed 73 = .ok (.goto (-31), 3) := by decide +kernel
theorem dX11_feed_76 : decode cX11_feed 76 = .ok (.aload_n 0, 1) := by decide +kernel
theorem dX11_feed_77 : decode cX11_feed 77 = .ok (.getfield 10, 3) := by decide +kernel
theorem dX11_feed_80 : decode cX11_feed 80 = .ok (.getfield 187, 3) := by decide +kernel
theorem dX11_feed_83 : decode cX11_feed 83 = .ok (.getfield 93, 3) := by decide +kernel
theorem dX11_feed_86 : decode cX11_feed 86 = .ok (.ireturn, 1) := by decide +kernel
theorem dX11_text_0 : decode cX11_text 0 = .ok (.iload_n 1, 1) := by decide +kernel
theorem dX11_text_1 : decode cX11_text 1 = .ok (.iconst 0, 1) := by decide +kernel
theorem dX11_text_2 : decode cX11_text 2 = .ok (.iconst 2, 1) := by decide +kernel
theorem dX11_text_3 : decode cX11_text 3 = .ok (.invokestatic 72, 3) := by decide +kernel
theorem dX11_text_6 : decode cX11_text 6 = .ok (.ifCond .ne 9, 3) := by decide +kernel
theorem dX11_text_9 : decode cX11_text 9 = .ok (.aload_n 0, 1) := by decide +kernel
theorem dX11_text_10 : decode cX11_text 10 = .ok (.iconst 1, 1) := by decide +kernel
theorem dX11_text_11 : decode cX11_text 11 = .ok (.invokevirtual 54, 3) := by decide +kernel
theorem dX11_text_14 : decode cX11_text 14 = .ok (.ireturn, 1) := by decide +kernel
theorem dX11_text_15 : decode cX11_text 15 = .ok (.new 193, 3) := by decide +kernel
theorem dX11_text_18 : decode cX11_text 18 = .ok (.dup, 1) := by decide +kernel
theorem dX11_text_19 : decode cX11_text 19 = .ok (.iload_n 1, 1) := by decide +kernel
theorem dX11_text_20 : decode cX11_text 20 = .ok (.invokespecial 195, 3) := by decide +kernel
theorem dX11_text_23 : decode cX11_text 23 = .ok (.astore_n 2, 1) := by decide +kernel
theorem dX11_text_24 : decode cX11_text 24 = .ok (.aload_n 2, 1) := by decide +kernel
theorem dX11_text_25 : decode cX11_text 25 = .ok (.aload_n 0, 1) := by decide +kernel
theorem dX11_text_26 : decode cX11_text 26 = .ok (.getfield 10, 3) := by decide +kernel
theorem dX11_text_29 : decode cX11_text 29 = .ok (.getfield 187, 3) := by decide +kernel
theorem dX11_text_32 : decode cX11_text 32 = .ok (.invokevirtual 196, 3) := by decide +kernel
theorem dX11_text_35 : decode cX11_text 35 = .ok (.istore_n 3, 1) := by decide +kernel
theorem dX11_text_36 : decode cX11_text 36 = .ok (.aload_n 0, 1) := by decide +kernel
theorem dX11_text_37 : decode cX11_text 37 = .ok (.getfield 10, 3) := by decide +kernel
theorem dX11_text_40 : decode cX11_text 40 = .ok (.getfield 187, 3) := by decide +kernel
theorem dX11_text_43 : decode cX11_text 43 = .ok (.iconst 0, 1) := by decide +kernel
theorem dX11_text_44 : decode cX11_text 44 = .ok (.putfield 93, 3) := by decide +kernel
theorem dX11_text_47 : decode cX11_text 47 = .ok (.iload_n 3, 1) := by decide +kernel
theorem dX11_text_48 : decode cX11_text 48 = .ok (.ifCond .lt 8, 3) := by decide +kernel
theorem dX11_text_51 : decode cX11_text 51 = .ok (.bipush (-10), 2) := by decide +kernel
theorem dX11_text_53 : decode cX11_text 53 = .ok (.iload_n 3, 1) := by decide +kernel
theorem dX11_text_54 : decode cX11_text 54 = .ok (.isub, 1) := by decide +kernel
theorem dX11_text_55 : decode cX11_text 55 = .ok (.ireturn, 1) := by decide +kernel
theorem dX11_text_56 : decode cX11_text 56 = .ok (.aload_n 0, 1) := by decide +kernel
theorem dX11_text_57 : decode cX11_text 57 = .ok (.getfield 10, 3) := by decide +kernel
theorem dX11_text_60 : decode cX11_text 60 = .ok (.getfield 58, 3) := by decide +kernel
theorem dX11_text_63 : decode cX11_text 63 = .ok (.getfield 200, 3) := by decide +kernel
theorem dX11_text_66 : decode cX11_text 66 = .ok (.iload_n 1, 1) := by decide +kernel
theorem dX11_text_67 : decode cX11_text 67 = .ok (.aload_n 2, 1) := by decide +kernel
theorem dX11_text_68 : decode cX11_text 68 = .ok (.aastore, 1) := by decide +kernel
theorem dX11_text_69 : decode cX11_text 69 = .ok (.iconst 1, 1) := by decide +kernel
theorem dX11_text_70 : decode cX11_text 70 = .ok (.ireturn, 1) := by decide +kernel
theorem dX11_law_0 : decode cX11_law 0 = .ok (.iload_n 1, 1) := by decide +kernel
theorem dX11_law_1 : decode cX11_law 1 = .ok (.tableswitch 79 0 2 #[27, 51, 66], 27) := by decide +kernel
theorem dX11_law_28 : decode cX11_law 28 = .ok (.aload_n 0, 1) := by decide +kernel
theorem dX11_law_29 : decode cX11_law 29 = .ok (.getfield 10, 3) := by decide +kernel
theorem dX11_law_32 : decode cX11_law 32 = .ok (.getfield 58, 3) := by decide +kernel
theorem dX11_law_35 : decode cX11_law 35 = .ok (.iload_n 2, 1) := by decide +kernel
theorem dX11_law_36 : decode cX11_law 36 = .ok (.iload_n 3, 1) := by decide +kernel
theorem dX11_law_37 : decode cX11_law 37 = .ok (.iload 4, 2) := by decide +kernel
theorem dX11_law_39 : decode cX11_law 39 = .ok (.iconst 0, 1) := by decide +kernel
theorem dX11_law_40 : decode cX11_law 40 = .ok (.invokevirtual 204, 3) := by decide +kernel
theorem dX11_law_43 : decode cX11_law 43 = .ok (.ifCond .eq 7, 3) := by decide +kernel
theorem dX11_law_46 : decode cX11_law 46 = .ok (.iconst 1, 1) := by decide +kernel
theorem dX11_law_47 : decode cX11_law 47 = .ok (.goto 4, 3) := by decide +kernel
theorem dX11_law_50 : decode cX11_law 50 = .ok (.iconst 0, 1) := by decide +kernel
theorem dX11_law_51 : decode cX11_law 51 = .ok (.ireturn, 1) := by decide +kernel
theorem dX11_law_52 : decode cX11_law 52 = .ok (.aload_n 0, 1) := by decide +kernel
theorem dX11_law_53 : decode cX11_law 53 = .ok (.getfield 10, 3) := by decide +kernel
theorem dX11_law_56 : decode cX11_law 56 = .ok (.getfield 58, 3) := by decide +kernel
theorem dX11_law_59 : decode cX11_law 59 = .ok (.iload_n 2, 1) := by decide +kernel
theorem dX11_law_60 : decode cX11_law 60 = .ok (.iload_n 3, 1) := by decide +kernel
theorem dX11_law_61 : decode cX11_law 61 = .ok (.iload 4, 2) := by decide +kernel
theorem dX11_law_63 : decode cX11_law 63 = .ok (.invokevirtual 207, 3) := by decide +kernel
theorem dX11_law_66 : decode cX11_law 66 = .ok (.ireturn, 1) := by decide +kernel
theorem dX11_law_67 : decode cX11_law 67 = .ok (.aload_n 0, 1) := by decide +kernel
theorem dX11_law_68 : decode cX11_law 68 = .ok (.getfield 10, 3) := by decide +kernel
theorem dX11_law_71 : decode cX11_law 71 = .ok (.getfield 58, 3) := by decide +kernel
theorem dX11_law_74 : decode cX11_law 74 = .ok (.iload_n 2, 1) := by decide +kernel
theorem dX11_law_75 : decode cX11_law 75 = .ok (.iload_n 3, 1) := by decide +kernel
theorem dX11_law_76 : decode cX11_law 76 = .ok (.invokevirtual 211, 3) := by decide +kernel
theorem dX11_law_79 : decode cX11_law 79 = .ok (.ireturn, 1) := by decide +kernel
theorem dX11_law_80 : decode cX11_law 80 = .ok (.aload_n 0, 1) := by decide +kernel
theorem dX11_law_81 : decode cX11_law 81 = .ok (.iconst 1, 1) := by decide +kernel
theorem dX11_law_82 : decode cX11_law 82 = .ok (.invokevirtual 54, 3) := by decide +kernel
theorem dX11_law_85 : decode cX11_law 85 = .ok (.ireturn, 1) := by decide +kernel
theorem dX11_rate_0 : decode cX11_rate 0 = .ok (.iload_n 1, 1) := by decide +kernel
theorem dX11_rate_1 : decode cX11_rate 1 = .ok (.iconst 0, 1) := by decide +kernel
theorem dX11_rate_2 : decode cX11_rate 2 = .ok (.iconst 5, 1) := by decide +kernel
theorem dX11_rate_3 : decode cX11_rate 3 = .ok (.invokestatic 72, 3) := by decide +kernel
theorem dX11_rate_6 : decode cX11_rate 6 = .ok (.ifCond .eq 20, 3) := by decide +kernel
theorem dX11_rate_9 : decode cX11_rate 9 = .ok (.iload_n 2, 1) := by decide +kernel
theorem dX11_rate_10 : decode cX11_rate 10 = .ok (.getstatic 214, 3) := by decide +kernel
theorem dX11_rate_13 : decode cX11_rate 13 = .ok (.iload_n 1, 1) := by decide +kernel
theorem dX11_rate_14 : decode cX11_rate 14 = .ok (.iaload, 1) := by decide +kernel
theorem dX11_rate_15 : decode cX11_rate 15 = .ok (.getstatic 217, 3) := by decide +kernel
theorem dX11_rate_18 : decode cX11_rate 18 = .ok (.iload_n 1, 1) := by decide +kernel
theorem dX11_rate_19 : decode cX11_rate 19 = .ok (.iaload, 1) := by decide +kernel
theorem dX11_rate_20 : decode cX11_rate 20 = .ok (.invokestatic 72, 3) := by decide +kernel
theorem dX11_rate_23 : decode cX11_rate 23 = .ok (.ifCond .ne 9, 3) := by decide +kernel
theorem dX11_rate_26 : decode cX11_rate 26 = .ok (.aload_n 0, 1) := by decide +kernel
theorem dX11_rate_27 : decode cX11_rate 27 = .ok (.iconst 1, 1) := by decide +kernel
theorem dX11_rate_28 : decode cX11_rate 28 = .ok (.invokevirtual 54, 3) := by decide +kernel
theorem dX11_rate_31 : decode cX11_rate 31 = .ok (.ireturn, 1) := by decide +kernel
theorem dX11_rate_32 : decode cX11_rate 32 = .ok (.aload_n 0, 1) := by decide +kernel
theorem dX11_rate_33 : decode cX11_rate 33 = .ok (.getfield 10, 3) := by decide +kernel
theorem dX11_rate_36 : decode cX11_rate 36 = .ok (.getfield 58, 3) := by decide +kernel
theorem dX11_rate_39 : decode cX11_rate 39 = .ok (.getfield 220, 3) := by decide +kernel
theorem dX11_rate_42 : decode cX11_rate 42 = .ok (.iload_n 1, 1) := by decide +kernel
theorem dX11_rate_43 : decode cX11_rate 43 = .ok (.iaload, 1) := by decide +kernel
theorem dX11_rate_44 : decode cX11_rate 44 = .ok (.istore_n 3, 1) := by decide +kernel
theorem dX11_rate_45 : decode cX11_rate 45 = .ok (.aload_n 0, 1) := by decide +kernel
theorem dX11_rate_46 : decode cX11_rate 46 = .ok (.getfield 10, 3) := by decide +kernel
theorem dX11_rate_49 : decode cX11_rate 49 = .ok (.getfield 58, 3) := by decide +kernel
theorem dX11_rate_52 : decode cX11_rate 52 = .ok (.getfield 220, 3) := by decide +kernel
theorem dX11_rate_55 : decode cX11_rate 55 = .ok (.iload_n 1, 1) := by decide +kernel
theorem dX11_rate_56 : decode cX11_rate 56 = .ok (.iload_n 2, 1) := by decide +kernel
theorem dX11_rate_57 : decode cX11_rate 57 = .ok (.iastore, 1) := by decide +kernel
theorem dX11_rate_58 : decode cX11_rate 58 = .ok (.iload_n 3, 1) := by decide +kernel
theorem dX11_rate_59 : decode cX11_rate 59 = .ok (.ireturn, 1) := by decide +kernel
theorem dX11_years_0 : decode cX11_years 0 = .ok (.iload_n 1, 1) := by decide +kernel
theorem dX11_years_1 : decode cX11_years 1 = .ok (.iconst 1, 1) := by decide +kernel
theorem dX11_years_2 : decode cX11_years 2 = .ok (.bipush 50, 2) := by decide +kernel
theorem dX11_years_4 : decode cX11_years 4 = .ok (.invokestatic 72, 3) := by decide +kernel
theorem dX11_years_7 : decode cX11_years 7 = .ok (.ifCond .ne 9, 3) := by decide +kernel
theorem dX11_years_10 : decode cX11_years 10 = .ok (.aload_n 0, 1) := by decide +kernel
theorem dX11_years_11 : decode cX11_years 11 = .ok (.iconst 1, 1) := by decide +kernel
theorem dX11_years_12 : decode cX11_years 12 = .ok (.invokevirtual 54, 3) := by decide +kernel
theorem dX11_years_15 : decode cX11_years 15 = .ok (.ireturn, 1) := by decide +kernel
theorem dX11_years_16 : decode cX11_years 16 = .ok (.aload_n 0, 1) := by decide +kernel
theorem dX11_years_17 : decode cX11_years 17 = .ok (.getfield 10, 3) := by decide +kernel
theorem dX11_years_20 : decode cX11_years 20 = .ok (.getfield 58, 3) := by decide +kernel
theorem dX11_years_23 : decode cX11_years 23 = .ok (.getfield 223, 3) := by decide +kernel
theorem dX11_years_26 : decode cX11_years 26 = .ok (.iload_n 1, 1) := by decide +kernel
theorem dX11_years_27 : decode cX11_years 27 = .ok (.iadd, 1) := by decide +kernel
theorem dX11_years_28 : decode cX11_years 28 = .ok (.sipush 199, 3) := by decide +kernel
theorem dX11_years_31 : decode cX11_years 31 = .ok (.if_icmp .le 9, 3) := by decide +kernel
theorem dX11_years_34 : decode cX11_years 34 = .ok (.aload_n 0, 1) := by decide +kernel
theorem dX11_years_35 : decode cX11_years 35 = .ok (.iconst 3, 1) := by decide +kernel
theorem dX11_years_36 : decode cX11_years 36 = .ok (.invokevirtual 54, 3) := by decide +kernel
theorem dX11_years_39 : decode cX11_years 39 = .ok (.ireturn, 1) := by decide +kernel
theorem dX11_years_40 : decode cX11_years 40 = .ok (.aload_n 0, 1) := by decide +kernel
theorem dX11_years_41 : decode cX11_years 41 = .ok (.getfield 10, 3) := by decide +kernel
theorem dX11_years_44 : decode cX11_years 44 = .ok (.getfield 58, 3) := by decide +kernel
theorem dX11_years_47 : decode cX11_years 47 = .ok (.iload_n 1, 1) := by decide +kernel
theorem dX11_years_48 : decode cX11_years 48 = .ok (.invokevirtual 226, 3) := by decide +kernel
theorem dX11_years_51 : decode cX11_years 51 = .ok (.aload_n 0, 1) := by decide +kernel
theorem dX11_years_52 : decode cX11_years 52 = .ok (.getfield 10, 3) := by decide +kernel
theorem dX11_years_55 : decode cX11_years 55 = .ok (.getfield 58, 3) := by decide +kernel
theorem dX11_years_58 : decode cX11_years 58 = .ok (.getfield 223, 3) := by decide +kernel
theorem dX11_years_61 : decode cX11_years 61 = .ok (.ireturn, 1) := by decide +kernel
theorem dX11_left_0 : decode cX11_left 0 = .ok (.iload_n 1, 1) := by decide +kernel
theorem dX11_left_1 : decode cX11_left 1 = .ok (.invokestatic 229, 3) := by decide +kernel
theorem dX11_left_4 : decode cX11_left 4 = .ok (.ifCond .eq 12, 3) := by decide +kernel
theorem dX11_left_7 : decode cX11_left 7 = .ok (.iload_n 2, 1) := by decide +kernel
theorem dX11_left_8 : decode cX11_left 8 = .ok (.iconst 0, 1) := by decide +kernel
theorem dX11_left_9 : decode cX11_left 9 = .ok (.iconst 3, 1) := by decide +kernel
theorem dX11_left_10 : decode cX11_left 10 = .ok (.invokestatic 72, 3) := by decide +kernel
theorem dX11_left_13 : decode cX11_left 13 = .ok (.ifCond .ne 9, 3) := by decide +kernel
theorem dX11_left_16 : decode cX11_left 16 = .ok (.aload_n 0, 1) := by decide +kernel
theorem dX11_left_17 : decode cX11_left 17 = .ok (.iconst 1, 1) := by decide +kernel
theorem dX11_left_18 : decode cX11_left 18 = .ok (.invokevirtual 54, 3) := by decide +kernel
theorem dX11_left_21 : decode cX11_left 21 = .ok (.ireturn, 1) := by decide +kernel
theorem dX11_left_22 : decode cX11_left 22 = .ok (.aload_n 0, 1) := by decide +kernel
theorem dX11_left_23 : decode cX11_left 23 = .ok (.getfield 26, 3) := by decide +kernel
theorem dX11_left_26 : decode cX11_left 26 = .ok (.aload_n 0, 1) := by decide +kernel
theorem dX11_left_27 : decode cX11_left 27 = .ok (.getfield 10, 3) := by decide +kernel
theorem dX11_left_30 : decode cX11_left 30 = .ok (.getfield 58, 3) := by decide +kernel
theorem dX11_left_33 : decode cX11_left 33 = .ok (.invokevirtual 232, 3) := by decide +kernel
theorem dX11_left_36 : decode cX11_left 36 = .ok (.aload_n 0, 1) := by decide +kernel
theorem dX11_left_37 : decode cX11_left 37 = .ok (.getfield 26, 3) := by decide +kernel
theorem dX11_left_40 : decode cX11_left 40 = .ok (.iload_n 1, 1) := by decide +kernel
theorem dX11_left_41 : decode cX11_left 41 = .ok (.invokevirtual 226, 3) := by decide +kernel
theorem dX11_left_44 : decode cX11_left 44 = .ok (.iload_n 2, 1) := by decide +kernel
theorem dX11_left_45 : decode cX11_left 45 = .ok (.tableswitch 53 0 2 #[27, 35, 45], 27) := by decide +kernel
theorem dX11_left_72 : decode cX11_left 72 = .ok (.aload_n 0, 1) := by decide +kernel
theorem dX11_left_73 : decode cX11_left 73 = .ok (.getfield 26, 3) := by decide +kernel
theorem dX11_left_76 : decode cX11_left 76 = .ok (.invokevirtual 236, 3) := by decide +kernel
theorem dX11_left_79 : decode cX11_left 79 = .ok (.ireturn, 1) := by decide +kernel
theorem dX11_left_80 : decode cX11_left 80 = .ok (.aload_n 0, 1) := by decide +kernel
theorem dX11_left_81 : decode cX11_left 81 = .ok (.getfield 26, 3) := by decide +kernel
theorem dX11_left_84 : decode cX11_left 84 = .ok (.getfield 220, 3) := by decide +kernel
theorem dX11_left_87 : decode cX11_left 87 = .ok (.iconst 5, 1) := by decide +kernel
theorem dX11_left_88 : decode cX11_left 88 = .ok (.iaload, 1) := by decide +kernel
theorem dX11_left_89 : decode cX11_left 89 = .ok (.ireturn, 1) := by decide +kernel
theorem dX11_left_90 : decode cX11_left 90 = .ok (.aload_n 0, 1) := by decide +kernel
theorem dX11_left_91 : decode cX11_left 91 = .ok (.getfield 26, 3) := by decide +kernel
theorem dX11_left_94 : decode cX11_left 94 = .ok (.getfield 239, 3) := by decide +kernel
theorem dX11_left_97 : decode cX11_left 97 = .ok (.ireturn, 1) := by decide +kernel
theorem dX11_left_98 : decode cX11_left 98 = .ok (.aload_n 0, 1) := by decide +kernel
theorem dX11_left_99 : decode cX11_left 99 = .ok (.getfield 26, 3) := by decide +kernel
theorem dX11_left_102 : decode cX11_left 102 = .ok (.invokevirtual 242, 3) := by decide +kernel
theorem dX11_left_105 : decode cX11_left 105 = .ok (.ireturn, 1) := by decide +kernel
theorem dX11_then_0 : decode cX11_then 0 = .ok (.iload_n 1, 1) := by decide +kernel
theorem dX11_then_1 : decode cX11_then 1 = .ok (.invokestatic 229, 3) := by decide +kernel
theorem dX11_then_4 : decode cX11_then 4 = .ok (.ifCond .eq 20, 3) := by decide +kernel
theorem dX11_then_7 : decode cX11_then 7 = .ok (.aload_n 0, 1) := by decide +kernel
theorem dX11_then_8 : decode cX11_then 8 = .ok (.iload_n 2, 1) := by decide +kernel
theorem dX11_then_9 : decode cX11_then 9 = .ok (.invokevirtual 68, 3) := by decide +kernel
theorem dX11_then_12 : decode cX11_then 12 = .ok (.ifCond .eq 12, 3) := by decide +kernel
theorem dX11_then_15 : decode cX11_then 15 = .ok (.iload_n 3, 1) := by decide +kernel
theorem dX11_then_16 : decode cX11_then 16 = .ok (.iconst 0, 1) := by decide +kernel
theorem dX11_then_17 : decode cX11_then 17 = .ok (.iconst 3, 1) := by decide +kernel
theorem dX11_then_18 : decode cX11_then 18 = .ok (.invokestatic 72, 3) := by decide +kernel
theorem dX11_then_21 : decode cX11_then 21 = .ok (.ifCond .ne 9, 3) := by decide +kernel
theorem dX11_then_24 : decode cX11_then 24 = .ok (.aload_n 0, 1) := by decide +kernel
theorem dX11_then_25 : decode cX11_then 25 = .ok (.iconst 1, 1) := by decide +kernel
theorem dX11_then_26 : decode cX11_then 26 = .ok (.invokevirtual 54, 3) := by decide +kernel
theorem dX11_then_29 : decode cX11_then 29 = .ok (.ireturn, 1) := by decide +kernel
theorem dX11_then_30 : decode cX11_then 30 = .ok (.aload_n 0, 1) := by decide +kernel
theorem dX11_then_31 : decode cX11_then 31 = .ok (.getfield 26, 3) := by decide +kernel
theorem dX11_then_34 : decode cX11_then 34 = .ok (.aload_n 0, 1) := by decide +kernel
theorem dX11_then_35 : decode cX11_then 35 = .ok (.getfield 10, 3) := by decide +kernel
theorem dX11_then_38 : decode cX11_then 38 = .ok (.getfield 58, 3) := by decide +kernel
theorem dX11_then_41 : decode cX11_then 41 = .ok (.invokevirtual 232, 3) := by decide +kernel
theorem dX11_then_44 : decode cX11_then 44 = .ok (.aload_n 0, 1) := by decide +kernel
theorem dX11_then_45 : decode cX11_then 45 = .ok (.getfield 26, 3) := by decide +kernel
theorem dX11_then_48 : decode cX11_then 48 = .ok (.iload_n 1, 1) := by decide +kernel
theorem dX11_then_49 : decode cX11_then 49 = .ok (.invokevirtual 226, 3) := by decide +kernel
theorem dX11_then_52 : decode cX11_then 52 = .ok (.aload_n 0, 1) := by decide +kernel
theorem dX11_then_53 : decode cX11_then 53 = .ok (.getfield 26, 3) := by decide +kernel
theorem dX11_then_56 : decode cX11_then 56 = .ok (.iload_n 2, 1) := by decide +kernel
theorem dX11_then_57 : decode cX11_then 57 = .ok (.iload_n 3, 1) := by decide +kernel
theorem dX11_then_58 : decode cX11_then 58 = .ok (.invokevirtual 79, 3) := by decide +kernel
theorem dX11_then_61 : decode cX11_then 61 = .ok (.ireturn, 1) := by decide +kernel
theorem dX11_falls_0 : decode cX11_falls 0 = .ok (.aload_n 0, 1) := by decide +kernel
theorem dX11_falls_1 : decode cX11_falls 1 = .ok (.iload_n 1, 1) := by decide +kernel
theorem dX11_falls_2 : decode cX11_falls 2 = .ok (.invokevirtual 68, 3) := by decide +kernel
theorem dX11_falls_5 : decode cX11_falls 5 = .ok (.ifCond .eq 10, 3) := by decide +kernel
theorem dX11_falls_8 : decode cX11_falls 8 = .ok (.iload_n 2, 1) := by decide +kernel
theorem dX11_falls_9 : decode cX11_falls 9 = .ok (.invokestatic 229, 3) := by decide +kernel
theorem dX11_falls_12 : decode cX11_falls 12 = .ok (.ifCond .ne 9, 3) := by decide +kernel
theorem dX11_falls_15 : decode cX11_falls 15 = .ok (.aload_n 0, 1) := by decide +kernel
theorem dX11_falls_16 : decode cX11_falls 16 = .ok (.iconst 1, 1) := by decide +kernel
theorem dX11_falls_17 : decode cX11_falls 17 = .ok (.invokevirtual 54, 3) := by decide +kernel
theorem dX11_falls_20 : decode cX11_falls 20 = .ok (.ireturn, 1) := by decide +kernel
theorem dX11_falls_21 : decode cX11_falls 21 = .ok (.aload_n 0, 1) := by decide +kernel
theorem dX11_falls_22 : decode cX11_falls 22 = .ok (.getfield 26, 3) := by decide +kernel
theorem dX11_falls_25 : decode cX11_falls 25 = .ok (.aload_n 0, 1) := by decide +kernel
theorem dX11_falls_26 : decode cX11_falls 26 = .ok (.getfield 10, 3) := by decide +kernel
theorem dX11_falls_29 : decode cX11_falls 29 = .ok (.getfield 58, 3) := by decide +kernel
theorem dX11_falls_32 : decode cX11_falls 32 = .ok (.invokevirtual 232, 3) := by decide +kernel
theorem dX11_falls_35 : decode cX11_falls 35 = .ok (.iconst 0, 1) := by decide +kernel
theorem dX11_falls_36 : decode cX11_falls 36 = .ok (.istore_n 3, 1) := by decide +kernel
theorem dX11_falls_37 : decode cX11_falls 37 = .ok (.iload_n 3, 1) := by decide +kernel
theorem dX11_falls_38 : decode cX11_falls 38 = .ok (.iload_n 2, 1) := by decide +kernel
theorem dX11_falls_39 : decode cX11_falls 39 = .ok (.if_icmp .gt 29, 3) := by decide +kernel
theorem dX11_falls_42 : decode cX11_falls 42 = .ok (.aload_n 0, 1) := by decide +kernel
theorem dX11_falls_43 : decode cX11_falls 43 = .ok (.getfield 26, 3) := by decide +kernel
theorem dX11_falls_46 : decode cX11_falls 46 = .ok (.iload_n 1, 1) := by decide +kernel
theorem dX11_falls_47 : decode cX11_falls 47 = .ok (.invokevirtual 245, 3) := by decide +kernel
theorem dX11_falls_50 : decode cX11_falls 50 = .ok (.ifCond .ne 5, 3) := by decide +kernel
theorem dX11_falls_53 : decode cX11_falls 53 = .ok (.iload_n 3, 1) := by decide +kernel
theorem dX11_falls_54 : decode cX11_falls 54 = .ok (.ireturn, 1) := by decide +kernel
theorem dX11_falls_55 : decode cX11_falls 55 = .ok (.aload_n 0, 1) := by decide +kernel
theorem dX11_falls_56 : decode cX11_falls 56 = .ok (.getfield 26, 3) := by decide +kernel
theorem dX11_falls_59 : decode cX11_falls 59 = .ok (.invokevirtual 248, 3) := by decide +kernel
theorem dX11_falls_62 : decode cX11_falls 62 = .ok (.iinc 3 1, 3) := by decide +kernel
theorem dX11_falls_65 : decode cX11_falls 65 = .ok (.goto (-28), 3) := by decide +kernel
theorem dX11_falls_68 : decode cX11_falls 68 = .ok (.aload_n 0, 1) := by decide +kernel
theorem dX11_falls_69 : decode cX11_falls 69 = .ok (.iconst 2, 1) := by decide +kernel
theorem dX11_falls_70 : decode cX11_falls 70 = .ok (.invokevirtual 54, 3) := by decide +kernel
theorem dX11_falls_73 : decode cX11_falls 73 = .ok (.ireturn, 1) := by decide +kernel
theorem dX11_broke_0 : decode cX11_broke 0 = .ok (.iload_n 1, 1) := by decide +kernel
theorem dX11_broke_1 : decode cX11_broke 1 = .ok (.invokestatic 229, 3) := by decide +kernel
theorem dX11_broke_4 : decode cX11_broke 4 = .ok (.ifCond .ne 9, 3) := by decide +kernel
theorem dX11_broke_7 : decode cX11_broke 7 = .ok (.aload_n 0, 1) := by decide +kernel
theorem dX11_broke_8 : decode cX11_broke 8 = .ok (.iconst 1, 1) := by decide +kernel
theorem dX11_broke_9 : decode cX11_broke 9 = .ok (.invokevirtual 54, 3) := by decide +kernel
theorem dX11_broke_12 : decode cX11_broke 12 = .ok (.ireturn, 1) := by decide +kernel
theorem dX11_broke_13 : decode cX11_broke 13 = .ok (.aload_n 0, 1) := by decide +kernel
theorem dX11_broke_14 : decode cX11_broke 14 = .ok (.getfield 26, 3) := by decide +kernel
theorem dX11_broke_17 : decode cX11_broke 17 = .ok (.aload_n 0, 1) := by decide +kernel
theorem dX11_broke_18 : decode cX11_broke 18 = .ok (.getfield 10, 3) := by decide +kernel
theorem dX11_broke_21 : decode cX11_broke 21 = .ok (.getfield 58, 3) := by decide +kernel
theorem dX11_broke_24 : decode cX11_broke 24 = .ok (.invokevirtual 232, 3) := by decide +kernel
theorem dX11_broke_27 : decode cX11_broke 27 = .ok (.iconst 0, 1) := by decide +kernel
theorem dX11_broke_28 : decode cX11_broke 28 = .ok (.istore_n 2, 1) := by decide +kernel
theorem dX11_broke_29 : decode cX11_broke 29 = .ok (.iload_n 2, 1) := by decide +kernel
theorem dX11_broke_30 : decode cX11_broke 30 = .ok (.iload_n 1, 1) := by decide +kernel
theorem dX11_broke_31 : decode cX11_broke 31 = .ok (.if_icmp .gt 30, 3) := by decide +kernel
theorem dX11_broke_34 : decode cX11_broke 34 = .ok (.aload_n 0, 1) := by decide +kernel
theorem dX11_broke_35 : decode cX11_broke 35 = .ok (.getfield 26, 3) := by decide +kernel
theorem dX11_broke_38 : decode cX11_broke 38 = .ok (.getfield 220, 3) := by decide +kernel
theorem dX11_broke_41 : decode cX11_broke 41 = .ok (.iconst 5, 1) := by decide +kernel
theorem dX11_broke_42 : decode cX11_broke 42 = .ok (.iaload, 1) := by decide +kernel
theorem dX11_broke_43 : decode cX11_broke 43 = .ok (.ifCond .ge 5, 3) := by decide +kernel
theorem dX11_broke_46 : decode cX11_broke 46 = .ok (.iload_n 2, 1) := by decide +kernel
theorem dX11_broke_47 : decode cX11_broke 47 = .ok (.ireturn, 1) := by decide +kernel
theorem dX11_broke_48 : decode cX11_broke 48 = .ok (.aload_n 0, 1) := by decide +kernel
theorem dX11_broke_49 : decode cX11_broke 49 = .ok (.getfield 26, 3) := by decide +kernel
theorem dX11_broke_52 : decode cX11_broke 52 = .ok (.invokevirtual 248, 3) := by decide +kernel
theorem dX11_broke_55 : decode cX11_broke 55 = .ok (.iinc 2 1, 3) := by decide +kernel
theorem dX11_broke_58 : decode cX11_broke 58 = .ok (.goto (-29), 3) := by decide +kernel
theorem dX11_broke_61 : decode cX11_broke 61 = .ok (.aload_n 0, 1) := by decide +kernel
theorem dX11_broke_62 : decode cX11_broke 62 = .ok (.iconst 2, 1) := by decide +kernel
theorem dX11_broke_63 : decode cX11_broke 63 = .ok (.invokevirtual 54, 3) := by decide +kernel
theorem dX11_broke_66 : decode cX11_broke 66 = .ok (.ireturn, 1) := by decide +kernel
theorem dX11_rest_0 : decode cX11_rest 0 = .ok (.iload_n 1, 1) := by decide +kernel
theorem dX11_rest_1 : decode cX11_rest 1 = .ok (.iconst 1, 1) := by decide +kernel
theorem dX11_rest_2 : decode cX11_rest 2 = .ok (.bipush 40, 2) := by decide +kernel
theorem dX11_rest_4 : decode cX11_rest 4 = .ok (.invokestatic 72, 3) := by decide +kernel
theorem dX11_rest_7 : decode cX11_rest 7 = .ok (.ifCond .ne 9, 3) := by decide +kernel
theorem dX11_rest_10 : decode cX11_rest 10 = .ok (.aload_n 0, 1) := by decide +kernel
theorem dX11_rest_11 : decode cX11_rest 11 = .ok (.iconst 1, 1) := by decide +kernel
theorem dX11_rest_12 : decode cX11_rest 12 = .ok (.invokevirtual 54, 3) := by decide +kernel
theorem dX11_rest_15 : decode cX11_rest 15 = .ok (.ireturn, 1) := by decide +kernel
theorem dX11_rest_16 : decode cX11_rest 16 = .ok (.aload_n 0, 1) := by decide +kernel
theorem dX11_rest_17 : decode cX11_rest 17 = .ok (.getfield 26, 3) := by decide +kernel
theorem dX11_rest_20 : decode cX11_rest 20 = .ok (.aload_n 0, 1) := by decide +kernel
theorem dX11_rest_21 : decode cX11_rest 21 = .ok (.getfield 10, 3) := by decide +kernel
theorem dX11_rest_24 : decode cX11_rest 24 = .ok (.getfield 58, 3) := by decide +kernel
theorem dX11_rest_27 : decode cX11_rest 27 = .ok (.invokevirtual 232, 3) := by decide +kernel
theorem dX11_rest_30 : decode cX11_rest 30 = .ok (.aload_n 0, 1) := by decide +kernel
theorem dX11_rest_31 : decode cX11_rest 31 = .ok (.getfield 30, 3) := by decide +kernel
theorem dX11_rest_34 : decode cX11_rest 34 = .ok (.aload_n 0, 1) := by decide +kernel
theorem dX11_rest_35 : decode cX11_rest 35 = .ok (.getfield 10, 3) := by decide +kernel
theorem dX11_rest_38 : decode cX11_rest 38 = .ok (.getfield 58, 3) := by decide +kernel
theorem dX11_rest_41 : decode cX11_rest 41 = .ok (.invokevirtual 232, 3) := by decide +kernel
theorem dX11_rest_44 : decode cX11_rest 44 = .ok (.iconst 1, 1) := by decide +kernel
theorem dX11_rest_45 : decode cX11_rest 45 = .ok (.istore_n 2, 1) := by decide +kernel
theorem dX11_rest_46 : decode cX11_rest 46 = .ok (.iload_n 2, 1) := by decide +kernel
theorem dX11_rest_47 : decode cX11_rest 47 = .ok (.iload_n 1, 1) := by decide +kernel
theorem dX11_rest_48 : decode cX11_rest 48 = .ok (.if_icmp .gt 43, 3) := by decide +kernel
theorem dX11_rest_51 : decode cX11_rest 51 = .ok (.aload_n 0, 1) := by decide +kernel
theorem dX11_rest_52 : decode cX11_rest 52 = .ok (.getfield 26, 3) := by decide +kernel
theorem dX11_rest_55 : decode cX11_rest 55 = .ok (.invokevirtual 248, 3) := by decide +kernel
theorem dX11_rest_58 : decode cX11_rest 58 = .ok (.aload_n 0, 1) := by decide +kernel
theorem dX11_rest_59 : decode cX11_rest 59 = .ok (.getfield 26, 3) := by decide +kernel
theorem dX11_rest_62 : decode cX11_rest 62 = .ok (.aload_n 0, 1) := by decide +kernel
theorem dX11_rest_63 : decode cX11_rest 63 = .ok (.getfield 30, 3) := by decide +kernel
theorem dX11_rest_66 : decode cX11_rest 66 = .ok (.invokevirtual 251, 3) := by decide +kernel
theorem dX11_rest_69 : decode cX11_rest 69 = .ok (.ifCond .eq 5, 3) := by decide +kernel
theorem dX11_rest_72 : decode cX11_rest 72 = .ok (.iload_n 2, 1) := by decide +kernel
theorem dX11_rest_73 : decode cX11_rest 73 = .ok (.ireturn, 1) := by decide +kernel
theorem dX11_rest_74 : decode cX11_rest 74 = .ok (.aload_n 0, 1) := by decide +kernel
theorem dX11_rest_75 : decode cX11_rest 75 = .ok (.getfield 30, 3) := by decide +kernel
theorem dX11_rest_78 : decode cX11_rest 78 = .ok (.aload_n 0, 1) := by decide +kernel
theorem dX11_rest_79 : decode cX11_rest 79 = .ok (.getfield 26, 3) := by decide +kernel
theorem dX11_rest_82 : decode cX11_rest 82 = .ok (.invokevirtual 255, 3) := by decide +kernel
theorem dX11_rest_85 : decode cX11_rest 85 = .ok (.iinc 2 1, 3) := by decide +kernel
theorem dX11_rest_88 : decode cX11_rest 88 = .ok (.goto (-42), 3) := by decide +kernel
theorem dX11_rest_91 : decode cX11_rest 91 = .ok (.aload_n 0, 1) := by decide +kernel
theorem dX11_rest_92 : decode cX11_rest 92 = .ok (.iconst 2, 1) := by decide +kernel
theorem dX11_rest_93 : decode cX11_rest 93 = .ok (.invokevirtual 54, 3) := by decide +kernel
theorem dX11_rest_96 : decode cX11_rest 96 = .ok (.ireturn, 1) := by decide +kernel
theorem dX11_keep_0 : decode cX11_keep 0 = .ok (.iload_n 1, 1) := by decide +kernel
theorem dX11_keep_1 : decode cX11_keep 1 = .ok (.iconst 0, 1) := by decide +kernel
theorem dX11_keep_2 : decode cX11_keep 2 = .ok (.sipush 9999, 3) := by decide +kernel
theorem dX11_keep_5 : decode cX11_keep 5 = .ok (.invokestatic 72, 3) := by decide +kernel
theorem dX11_keep_8 : decode cX11_keep 8 = .ok (.ifCond .eq 19, 3) := by decide +kernel
theorem dX11_keep_11 : decode cX11_keep 11 = .ok (.iload_n 2, 1) := by decide +kernel
theorem dX11_keep_12 : decode cX11_keep 12 = .ok (.invokestatic 229, 3) := by decide +kernel
theorem dX11_keep_15 : decode cX11_keep 15 = .ok (.ifCond .eq 12, 3) := by decide +kernel
theorem dX11_keep_18 : decode cX11_keep 18 = .ok (.iload_n 3, 1) := by decide +kernel
theorem dX11_keep_19 : decode cX11_keep 19 = .ok (.iconst 0, 1) := by decide +kernel
theorem dX11_keep_20 : decode cX11_keep 20 = .ok (.iconst 1, 1) := by decide +kernel
theorem dX11_keep_21 : decode cX11_keep 21 = .ok (.invokestatic 72, 3) := by decide +kernel
theorem dX11_keep_24 : decode cX11_keep 24 = .ok (.ifCond .ne 9, 3) := by decide +kernel
theorem dX11_keep_27 : decode cX11_keep 27 = .ok (.aload_n 0, 1) := by decide +kernel
theorem dX11_keep_28 : decode cX11_keep 28 = .ok (.iconst 1, 1) := by decide +kernel
theorem dX11_keep_29 : decode cX11_keep 29 = .ok (.invokevirtual 54, 3) := by decide +kernel
theorem dX11_keep_32 : decode cX11_keep 32 = .ok (.ireturn, 1) := by decide +kernel
theorem dX11_keep_33 : decode cX11_keep 33 = .ok (.aload_n 0, 1) := by decide +kernel
theorem dX11_keep_34 : decode cX11_keep 34 = .ok (.getfield 10, 3) := by decide +kernel
theorem dX11_keep_37 : decode cX11_keep 37 = .ok (.getfield 58, 3) := by decide +kernel
theorem dX11_keep_40 : decode cX11_keep 40 = .ok (.bipush 6, 2) := by decide +kernel
theorem dX11_keep_42 : decode cX11_keep 42 = .ok (.invokevirtual 258, 3) := by decide +kernel
theorem dX11_keep_45 : decode cX11_keep 45 = .ok (.istore 4, 2) := by decide +kernel
theorem dX11_keep_47 : decode cX11_keep 47 = .ok (.iconst 0, 1) := by decide +kernel
theorem dX11_keep_48 : decode cX11_keep 48 = .ok (.istore 5, 2) := by decide +kernel
theorem dX11_keep_50 : decode cX11_keep 50 = .ok (.iconst 0, 1) := by decide +kernel
theorem dX11_keep_51 : decode cX11_keep 51 = .ok (.istore 6, 2) := by decide +kernel
theorem dX11_keep_53 : decode cX11_keep 53 = .ok (.iconst (-1), 1) := by decide +kernel
theorem dX11_keep_54 : decode cX11_keep 54 = .ok (.istore 7, 2) := by decide +kernel
theorem dX11_keep_56 : decode cX11_keep 56 = .ok (.iconst 0, 1) := by decide +kernel
theorem dX11_keep_57 : decode cX11_keep 57 = .ok (.istore 8, 2) := by decide +kernel
theorem dX11_keep_59 : decode cX11_keep 59 = .ok (.iload 8, 2) := by decide +kernel
theorem dX11_keep_61 : decode cX11_keep 61 = .ok (.iload 4, 2) := by decide +kernel
theorem dX11_keep_63 : decode cX11_keep 63 = .ok (.if_icmp .gt 104, 3) := by decide +kernel
theorem dX11_keep_66 : decode cX11_keep 66 = .ok (.iload 8, 2) := by decide +kernel
theorem dX11_keep_68 : decode cX11_keep 68 = .ok (.iload 4, 2) := by decide +kernel
theorem dX11_keep_70 : decode cX11_keep 70 = .ok (.iconst (-1), 1) := by decide +kernel
theorem dX11_keep_71 : decode cX11_keep 71 = .ok (.ixor, 1) := by decide +kernel
theorem dX11_keep_72 : decode cX11_keep 72 = .ok (.iand, 1) := by decide +kernel
theorem dX11_keep_73 : decode cX11_keep 73 = .ok (.ifCond .eq 6, 3) := by decide +kernel
theorem dX11_keep_76 : decode cX11_keep 76 = .ok (.goto 85, 3) := by decide +kernel
theorem dX11_keep_79 : decode cX11_keep 79 = .ok (.aload_n 0, 1) := by decide +kernel
theorem dX11_keep_80 : decode cX11_keep 80 = .ok (.getfield 10, 3) := by decide +kernel
theorem dX11_keep_83 : decode cX11_keep 83 = .ok (.getfield 58, 3) := by decide +kernel
theorem dX11_keep_86 : decode cX11_keep 86 = .ok (.iload 8, 2) := by decide +kernel
theorem dX11_keep_88 : decode cX11_keep 88 = .ok (.invokevirtual 261, 3) := by decide +kernel
theorem dX11_keep_91 : decode cX11_keep 91 = .ok (.istore 9, 2) := by decide +kernel
theorem dX11_keep_93 : decode cX11_keep 93 = .ok (.iload 9, 2) := by decide +kernel
theorem dX11_keep_95 : decode cX11_keep 95 = .ok (.iload_n 1, 1) := by decide +kernel
theorem dX11_keep_96 : decode cX11_keep 96 = .ok (.if_icmp .le 7, 3) := by decide +kernel
theorem dX11_keep_99 : decode cX11_keep 99 = .ok (.iconst (-1), 1) := by decide +kernel
theorem dX11_keep_100 : decode cX11_keep 100 = .ok (.goto 26, 3) := by decide +kernel
theorem dX11_keep_103 : decode cX11_keep 103 = .ok (.aload_n 0, 1) := by decide +kernel
theorem dX11_keep_104 : decode cX11_keep 104 = .ok (.aload_n 0, 1) := by decide +kernel
theorem dX11_keep_105 : decode cX11_keep 105 = .ok (.getfield 10, 3) := by decide +kernel
theorem dX11_keep_108 : decode cX11_keep 108 = .ok (.getfield 58, 3) := by decide +kernel
theorem dX11_keep_111 : decode cX11_keep 111 = .ok (.getfield 239, 3) := by decide +kernel
theorem dX11_keep_114 : decode cX11_keep 114 = .ok (.iload 4, 2) := by decide +kernel
theorem dX11_keep_116 : decode cX11_keep 116 = .ok (.iconst (-1), 1) := by decide +kernel
theorem dX11_keep_117 : decode cX11_keep 117 = .ok (.ixor, 1) := by decide +kernel
theorem dX11_keep_118 : decode cX11_keep 118 = .ok (.iand, 1) := by decide +kernel
theorem dX11_keep_119 : decode cX11_keep 119 = .ok (.iload 8, 2) := by decide +kernel
theorem dX11_keep_121 : decode cX11_keep 121 = .ok (.ior, 1) := by decide +kernel
theorem dX11_keep_122 : decode cX11_keep 122 = .ok (.iload_n 2, 1) := by decide +kernel
theorem dX11_keep_123 : decode cX11_keep 123 = .ok (.invokevirtual 264, 3) := by decide +kernel
theorem dX11_keep_126 : decode cX11_keep 126 = .ok (.istore 10, 2) := by decide +kernel
theorem dX11_keep_128 : decode cX11_keep 128 = .ok (.iload 10, 2) := by decide +kernel
theorem dX11_keep_130 : decode cX11_keep 130 = .ok (.iload 7, 2) := by decide +kernel
theorem dX11_keep_132 : decode cX11_keep 132 = .ok (.if_icmp .gt 17, 3) := by decide +kernel
theorem dX11_keep_135 : decode cX11_keep 135 = .ok (.iload 10, 2) := by decide +kernel
theorem dX11_keep_137 : decode cX11_keep 137 = .ok (.iload 7, 2) := by decide +kernel
theorem dX11_keep_139 : decode cX11_keep 139 = .ok (.if_icmp .ne 22, 3) := by decide +kernel
theorem dX11_keep_142 : decode cX11_keep 142 = .ok (.iload 9, 2) := by decide +kernel
theorem dX11_keep_144 : decode cX11_keep 144 = .ok (.iload 6, 2) := by decide +kernel
theorem dX11_keep_146 : decode cX11_keep 146 = .ok (.if_icmp .ge 15, 3) := by decide +kernel
theorem dX11_keep_149 : decode cX11_keep 149 = .ok (.iload 8, 2) := by decide +kernel
theorem dX11_keep_151 : decode cX11_keep 151 = .ok (.istore 5, 2) := by decide +kernel
theorem dX11_keep_153 : decode cX11_keep 153 = .ok (.iload 9, 2) := by decide +kernel
theorem dX11_keep_155 : decode cX11_keep 155 = .ok (.istore 6, 2) := by decide +kernel
theorem dX11_keep_157 : decode cX11_keep 157 = .ok (.iload 10, 2) := by decide +kernel
theorem dX11_keep_159 : decode cX11_keep 159 = .ok (.istore 7, 2) := by decide +kernel
theorem dX11_keep_161 : decode cX11_keep 161 = .ok (.iinc 8 1, 3) := by decide +kernel
theorem dX11_keep_164 : decode cX11_keep 164 = .ok (.goto (-105), 3) := by decide +kernel
theorem dX11_keep_167 : decode cX11_keep 167 = .ok (.iload_n 3, 1) := by decide +kernel
theorem dX11_keep_168 : decode cX11_keep 168 = .ok (.ifCond .ne 8, 3) := by decide +kernel
theorem dX11_keep_171 : decode cX11_keep 171 = .ok (.iload 5, 2) := by decide +kernel
theorem dX11_keep_173 : decode cX11_keep 173 = .ok (.goto 5, 3) := by decide +kernel
theorem dX11_keep_176 : decode cX11_keep 176 = .ok (.iload 7, 2) := by decide +kernel
theorem dX11_keep_178 : decode cX11_keep 178 = .ok (.ireturn, 1) := by decide +kernel
theorem dX11_when_0 : decode cX11_when 0 = .ok (.aload_n 0, 1) := by decide +kernel
theorem dX11_when_1 : decode cX11_when 1 = .ok (.iload_n 1, 1) := by decide +kernel
theorem dX11_when_2 : decode cX11_when 2 = .ok (.invokevirtual 131, 3) := by decide +kernel
theorem dX11_when_5 : decode cX11_when 5 = .ok (.ifCond .eq 10, 3) := by decide +kernel
theorem dX11_when_8 : decode cX11_when 8 = .ok (.iload_n 2, 1) := by decide +kernel
theorem dX11_when_9 : decode cX11_when 9 = .ok (.invokestatic 229, 3) := by decide +kernel
theorem dX11_when_12 : decode cX11_when 12 = .ok (.ifCond .ne 9, 3) := by decide +kernel
theorem dX11_when_15 : decode cX11_when 15 = .ok (.aload_n 0, 1) := by decide +kernel
theorem dX11_when_16 : decode cX11_when 16 = .ok (.iconst 1, 1) := by decide +kernel
theorem dX11_when_17 : decode cX11_when 17 = .ok (.invokevirtual 54, 3) := by decide +kernel
theorem dX11_when_20 : decode cX11_when 20 = .ok (.ireturn, 1) := by decide +kernel
theorem dX11_when_21 : decode cX11_when 21 = .ok (.aload_n 0, 1) := by decide +kernel
theorem dX11_when_22 : decode cX11_when 22 = .ok (.getfield 10, 3) := by decide +kernel
theorem dX11_when_25 : decode cX11_when 25 = .ok (.getfield 58, 3) := by decide +kernel
theorem dX11_when_28 : decode cX11_when 28 = .ok (.iload_n 1, 1) := by decide +kernel
theorem dX11_when_29 : decode cX11_when 29 = .ok (.invokevirtual 155, 3) := by decide +kernel
theorem dX11_when_32 : decode cX11_when 32 = .ok (.ifCond .ne 9, 3) := by decide +kernel
theorem dX11_when_35 : decode cX11_when 35 = .ok (.aload_n 0, 1) := by decide +kernel
theorem dX11_when_36 : decode cX11_when 36 = .ok (.iconst 3, 1) := by decide +kernel
theorem dX11_when_37 : decode cX11_when 37 = .ok (.invokevirtual 54, 3) := by decide +kernel
theorem dX11_when_40 : decode cX11_when 40 = .ok (.ireturn, 1) := by decide +kernel
theorem dX11_when_41 : decode cX11_when 41 = .ok (.aload_n 0, 1) := by decide +kernel
theorem dX11_when_42 : decode cX11_when 42 = .ok (.getfield 30, 3) := by decide +kernel
theorem dX11_when_45 : decode cX11_when 45 = .ok (.aload_n 0, 1) := by decide +kernel
theorem dX11_when_46 : decode cX11_when 46 = .ok (.getfield 10, 3) := by decide +kernel
theorem dX11_when_49 : decode cX11_when 49 = .ok (.getfield 58, 3) := by decide +kernel
theorem dX11_when_52 : decode cX11_when 52 = .ok (.invokevirtual 232, 3) := by decide +kernel
theorem dX11_when_55 : decode cX11_when 55 = .ok (.iconst 0, 1) := by decide +kernel
theorem dX11_when_56 : decode cX11_when 56 = .ok (.istore_n 3, 1) := by decide +kernel
theorem dX11_when_57 : decode cX11_when 57 = .ok (.iconst (-1), 1) := by decide +kernel
theorem dX11_when_58 : decode cX11_when 58 = .ok (.istore 4, 2) := by decide +kernel
theorem dX11_when_60 : decode cX11_when 60 = .ok (.iconst 0, 1) := by decide +kernel
theorem dX11_when_61 : decode cX11_when 61 = .ok (.istore 5, 2) := by decide +kernel
theorem dX11_when_63 : decode cX11_when 63 = .ok (.iload 5, 2) := by decide +kernel
theorem dX11_when_65 : decode cX11_when 65 = .ok (.iload_n 2, 1) := by decide +kernel
theorem dX11_when_66 : decode cX11_when 66 = .ok (.if_icmp .gt 76, 3) := by decide +kernel
theorem dX11_when_69 : decode cX11_when 69 = .ok (.aload_n 0, 1) := by decide +kernel
theorem dX11_when_70 : decode cX11_when 70 = .ok (.getfield 26, 3) := by decide +kernel
theorem dX11_when_73 : decode cX11_when 73 = .ok (.aload_n 0, 1) := by decide +kernel
theorem dX11_when_74 : decode cX11_when 74 = .ok (.getfield 30, 3) := by decide +kernel
theorem dX11_when_77 : decode cX11_when 77 = .ok (.invokevirtual 232, 3) := by decide +kernel
theorem dX11_when_80 : decode cX11_when 80 = .ok (.iload 5, 2) := by decide +kernel
theorem dX11_when_82 : decode cX11_when 82 = .ok (.iload_n 2, 1) := by decide +kernel
theorem dX11_when_83 : decode cX11_when 83 = .ok (.if_icmp .ge 12, 3) := by decide +kernel
theorem dX11_when_86 : decode cX11_when 86 = .ok (.aload_n 0, 1) := by decide +kernel
theorem dX11_when_87 : decode cX11_when 87 = .ok (.getfield 26, 3) := by decide +kernel
theorem dX11_when_90 : decode cX11_when 90 = .ok (.iload_n 1, 1) := by decide +kernel
theorem dX11_when_91 : decode cX11_when 91 = .ok (.iconst 0, 1) := by decide +kernel
theorem dX11_when_92 : decode cX11_when 92 = .ok (.invokevirtual 174, 3) := by decide +kernel
theorem dX11_when_95 : decode cX11_when 95 = .ok (.aload_n 0, 1) := by decide +kernel
theorem dX11_when_96 : decode cX11_when 96 = .ok (.getfield 26, 3) := by decide +kernel
theorem dX11_when_99 : decode cX11_when 99 = .ok (.iload_n 2, 1) := by decide +kernel
theorem dX11_when_100 : decode cX11_when 100 = .ok (.iload 5, 2) := by decide +kernel
theorem dX11_when_102 : decode cX11_when 102 = .ok (.isub, 1) := by decide +kernel
theorem dX11_when_103 : decode cX11_when 103 = .ok (.invokevirtual 226, 3) := by decide +kernel
theorem dX11_when_106 : decode cX11_when 106 = .ok (.aload_n 0, 1) := by decide +kernel
theorem dX11_when_107 : decode cX11_when 107 = .ok (.getfield 26, 3) := by decide +kernel
theorem dX11_when_110 : decode cX11_when 110 = .ok (.invokevirtual 236, 3) := by decide +kernel
theorem dX11_when_113 : decode cX11_when 113 = .ok (.istore 6, 2) := by decide +kernel
theorem dX11_when_115 : decode cX11_when 115 = .ok (.iload 6, 2) := by decide +kernel
theorem dX11_when_117 : decode cX11_when 117 = .ok (.iload 4, 2) := by decide +kernel
theorem dX11_when_119 : decode cX11_when 119 = .ok (.if_icmp .le 10, 3) := by decide +kernel
theorem dX11_when_122 : decode cX11_when 122 = .ok (.iload 5, 2) := by decide +kernel
theorem dX11_when_124 : decode cX11_when 124 = .ok (.istore_n 3, 1) := by decide +kernel
theorem dX11_when_125 : decode cX11_when 125 = .ok (.iload 6, 2) := by decide +kernel
theorem dX11_when_127 : decode cX11_when 127 = .ok (.istore 4, 2) := by decide +kernel
theorem dX11_when_129 : decode cX11_when 129 = .ok (.aload_n 0, 1) := by decide +kernel
theorem dX11_when_130 : decode cX11_when 130 = .ok (.getfield 30, 3) := by decide +kernel
theorem dX11_when_133 : decode cX11_when 133 = .ok (.invokevirtual 248, 3) := by decide +kernel
theorem dX11_when_136 : decode cX11_when 136 = .ok (.iinc 5 1, 3) := by decide +kernel
theorem dX11_when_139 : decode cX11_when 139 = .ok (.goto (-76), 3) := by decide +kernel
theorem dX11_when_142 : decode cX11_when 142 = .ok (.iload_n 3, 1) := by decide +kernel
theorem dX11_when_143 : decode cX11_when 143 = .ok (.ireturn, 1) := by decide +kernel
theorem dX11_worth_0 : decode cX11_worth 0 = .ok (.aload_n 0, 1) := by decide +kernel
theorem dX11_worth_1 : decode cX11_worth 1 = .ok (.iload_n 1, 1) := by decide +kernel
theorem dX11_worth_2 : decode cX11_worth 2 = .ok (.invokevirtual 131, 3) := by decide +kernel
theorem dX11_worth_5 : decode cX11_worth 5 = .ok (.ifCond .eq 10, 3) := by decide +kernel
theorem dX11_worth_8 : decode cX11_worth 8 = .ok (.iload_n 2, 1) := by decide +kernel
theorem dX11_worth_9 : decode cX11_worth 9 = .ok (.invokestatic 229, 3) := by decide +kernel
theorem dX11_worth_12 : decode cX11_worth 12 = .ok (.ifCond .ne 9, 3) := by decide +kernel
theorem dX11_worth_15 : decode cX11_worth 15 = .ok (.aload_n 0, 1) := by decide +kernel
theorem dX11_worth_16 : decode cX11_worth 16 = .ok (.iconst 1, 1) := by decide +kernel
theorem dX11_worth_17 : decode cX11_worth 17 = .ok (.invokevirtual 54, 3) := by decide +kernel
theorem dX11_worth_20 : decode cX11_worth 20 = .ok (.ireturn, 1) := by decide +kernel
theorem dX11_worth_21 : decode cX11_worth 21 = .ok (.aload_n 0, 1) := by decide +kernel
theorem dX11_worth_22 : decode cX11_worth 22 = .ok (.getfield 10, 3) := by decide +kernel
theorem dX11_worth_25 : decode cX11_worth 25 = .ok (.getfield 58, 3) := by decide +kernel
theorem dX11_worth_28 : decode cX11_worth 28 = .ok (.getfield 239, 3) := by decide +kernel
theorem dX11_worth_31 : decode cX11_worth 31 = .ok (.istore_n 3, 1) := by decide +kernel
theorem dX11_worth_32 : decode cX11_worth 32 = .ok (.aload_n 0, 1) := by decide +kernel
theorem dX11_worth_33 : decode cX11_worth 33 = .ok (.iload_n 3, 1) := by decide +kernel
theorem dX11_worth_34 : decode cX11_worth 34 = .ok (.iconst 1, 1) := by decide +kernel
theorem dX11_worth_35 : decode cX11_worth 35 = .ok (.iload_n 1, 1) := by decide +kernel
theorem dX11_worth_36 : decode cX11_worth 36 = .ok (.ishl, 1) := by decide +kernel
theorem dX11_worth_37 : decode cX11_worth 37 = .ok (.ior, 1) := by decide +kernel
theorem dX11_worth_38 : decode cX11_worth 38 = .ok (.iload_n 2, 1) := by decide +kernel
theorem dX11_worth_39 : decode cX11_worth 39 = .ok (.invokevirtual 264, 3) := by decide +kernel
theorem dX11_worth_42 : decode cX11_worth 42 = .ok (.aload_n 0, 1) := by decide +kernel
theorem dX11_worth_43 : decode cX11_worth 43 = .ok (.iload_n 3, 1) := by decide +kernel
theorem dX11_worth_44 : decode cX11_worth 44 = .ok (.iconst 1, 1) := by decide +kernel
theorem dX11_worth_45 : decode cX11_worth 45 = .ok (.iload_n 1, 1) := by decide +kernel
theorem dX11_worth_46 : decode cX11_worth 46 = .ok (.ishl, 1) := by decide +kernel
theorem dX11_worth_47 : decode cX11_worth 47 = .ok (.iconst (-1), 1) := by decide +kernel
theorem dX11_worth_48 : decode cX11_worth 48 = .ok (.ixor, 1) := by decide +kernel
theorem dX11_worth_49 : decode cX11_worth 49 = .ok (.iand, 1) := by decide +kernel
theorem dX11_worth_50 : decode cX11_worth 50 = .ok (.iload_n 2, 1) := by decide +kernel
theorem dX11_worth_51 : decode cX11_worth 51 = .ok (.invokevirtual 264, 3) := by decide +kernel
theorem dX11_worth_54 : decode cX11_worth 54 = .ok (.isub, 1) := by decide +kernel
theorem dX11_worth_55 : decode cX11_worth 55 = .ok (.ireturn, 1) := by decide +kernel
theorem dX11_promised_0 : decode cX11_promised 0 = .ok (.aload_n 0, 1) := by decide +kernel
theorem dX11_promised_1 : decode cX11_promised 1 = .ok (.iload_n 1, 1) := by decide +kernel
theorem dX11_promised_2 : decode cX11_promised 2 = .ok (.invokevirtual 131, 3) := by decide +kernel
theorem dX11_promised_5 : decode cX11_promised 5 = .ok (.ifCond .eq 21, 3) := by decide +kernel
theorem dX11_promised_8 : decode cX11_promised 8 = .ok (.iload_n 2, 1) := by decide +kernel
theorem dX11_promised_9 : decode cX11_promised 9 = .ok (.iconst 0, 1) := by decide +kernel
theorem dX11_promised_10 : decode cX11_promised 10 = .ok (.sipush 199, 3) := by decide +kernel
theorem dX11_promised_13 : decode cX11_promised 13 = .ok (.invokestatic 72, 3) := by decide +kernel
theorem dX11_promised_16 : decode cX11_promised 16 = .ok (.ifCond .eq 10, 3) := by decide +kernel
theorem dX11_promised_19 : decode cX11_promised 19 = .ok (.iload_n 3, 1) := by decide +kernel
theorem dX11_promised_20 : decode cX11_promised 20 = .ok (.invokestatic 229, 3) := by decide +kernel
theorem dX11_promised_23 : decode cX11_promised 23 = .ok (.ifCond .ne 9, 3) := by decide +kernel
theorem dX11_promised_26 : decode cX11_promised 26 = .ok (.aload_n 0, 1) := by decide +kernel
theorem dX11_promised_27 : decode cX11_promised 27 = .ok (.iconst 1, 1) := by decide +kernel
theorem dX11_promised_28 : decode cX11_promised 28 = .ok (.invokevirtual 54, 3) := by decide +kernel
theorem dX11_promised_31 : decode cX11_promised 31 = .ok (.ireturn, 1) := by decide +kernel
theorem dX11_promised_32 : decode cX11_promised 32 = .ok (.aload_n 0, 1) := by decide +kernel
theorem dX11_promised_33 : decode cX11_promised 33 = .ok (.iload_n 1, 1) := by decide +kernel
theorem dX11_promised_34 : decode cX11_promised 34 = .ok (.iload_n 2, 1) := by decide +kernel
theorem dX11_promised_35 : decode cX11_promised 35 = .ok (.iload_n 3, 1) := by decide +kernel
theorem dX11_promised_36 : decode cX11_promised 36 = .ok (.invokevirtual 267, 3) := by decide +kernel
theorem dX11_promised_39 : decode cX11_promised 39 = .ok (.aload_n 0, 1) := by decide +kernel
theorem dX11_promised_40 : decode cX11_promised 40 = .ok (.iload_n 1, 1) := by decide +kernel
theorem dX11_promised_41 : decode cX11_promised 41 = .ok (.iconst (-1), 1) := by decide +kernel
theorem dX11_promised_42 : decode cX11_promised 42 = .ok (.iload_n 3, 1) := by decide +kernel
theorem dX11_promised_43 : decode cX11_promised 43 = .ok (.invokevirtual 267, 3) := by decide +kernel
theorem dX11_promised_46 : decode cX11_promised 46 = .ok (.isub, 1) := by decide +kernel
theorem dX11_promised_47 : decode cX11_promised 47 = .ok (.ireturn, 1) := by decide +kernel
theorem dX11_edge_0 : decode cX11_edge 0 = .ok (.aload_n 0, 1) := by decide +kernel
theorem dX11_edge_1 : decode cX11_edge 1 = .ok (.iload_n 1, 1) := by decide +kernel
theorem dX11_edge_2 : decode cX11_edge 2 = .ok (.invokevirtual 131, 3) := by decide +kernel
theorem dX11_edge_5 : decode cX11_edge 5 = .ok (.ifCond .eq 10, 3) := by decide +kernel
theorem dX11_edge_8 : decode cX11_edge 8 = .ok (.iload_n 2, 1) := by decide +kernel
theorem dX11_edge_9 : decode cX11_edge 9 = .ok (.invokestatic 229, 3) := by decide +kernel
theorem dX11_edge_12 : decode cX11_edge 12 = .ok (.ifCond .ne 9, 3) := by decide +kernel
theorem dX11_edge_15 : decode cX11_edge 15 = .ok (.aload_n 0, 1) := by decide +kernel
theorem dX11_edge_16 : decode cX11_edge 16 = .ok (.iconst 1, 1) := by decide +kernel
theorem dX11_edge_17 : decode cX11_edge 17 = .ok (.invokevirtual 54, 3) := by decide +kernel
theorem dX11_edge_20 : decode cX11_edge 20 = .ok (.ireturn, 1) := by decide +kernel
theorem dX11_edge_21 : decode cX11_edge 21 = .ok (.aload_n 0, 1) := by decide +kernel
theorem dX11_edge_22 : decode cX11_edge 22 = .ok (.getfield 10, 3) := by decide +kernel
theorem dX11_edge_25 : decode cX11_edge 25 = .ok (.getfield 58, 3) := by decide +kernel
theorem dX11_edge_28 : decode cX11_edge 28 = .ok (.iload_n 1, 1) := by decide +kernel
theorem dX11_edge_29 : decode cX11_edge 29 = .ok (.invokevirtual 155, 3) := by decide +kernel
theorem dX11_edge_32 : decode cX11_edge 32 = .ok (.ifCond .ne 9, 3) := by decide +kernel
theorem dX11_edge_35 : decode cX11_edge 35 = .ok (.aload_n 0, 1) := by decide +kernel
theorem dX11_edge_36 : decode cX11_edge 36 = .ok (.iconst 2, 1) := by decide +kernel
theorem dX11_edge_37 : decode cX11_edge 37 = .ok (.invokevirtual 54, 3) := by decide +kernel
theorem dX11_edge_40 : decode cX11_edge 40 = .ok (.ireturn, 1) := by decide +kernel
theorem dX11_edge_41 : decode cX11_edge 41 = .ok (.iconst 0, 1) := by decide +kernel
theorem dX11_edge_42 : decode cX11_edge 42 = .ok (.istore_n 3, 1) := by decide +kernel
theorem dX11_edge_43 : decode cX11_edge 43 = .ok (.iload_n 3, 1) := by decide +kernel
theorem dX11_edge_44 : decode cX11_edge 44 = .ok (.sipush 400, 3) := by decide +kernel
theorem dX11_edge_47 : decode cX11_edge 47 = .ok (.if_icmp .gt 21, 3) := by decide +kernel
theorem dX11_edge_50 : decode cX11_edge 50 = .ok (.aload_n 0, 1) := by decide +kernel
theorem dX11_edge_51 : decode cX11_edge 51 = .ok (.iload_n 3, 1) := by decide +kernel
theorem dX11_edge_52 : decode cX11_edge 52 = .ok (.iload_n 1, 1) := by decide +kernel
theorem dX11_edge_53 : decode cX11_edge 53 = .ok (.iload_n 2, 1) := by decide +kernel
theorem dX11_edge_54 : decode cX11_edge 54 = .ok (.invokevirtual 270, 3) := by decide +kernel
theorem dX11_edge_57 : decode cX11_edge 57 = .ok (.ifCond .eq 5, 3) := by decide +kernel
theorem dX11_edge_60 : decode cX11_edge 60 = .ok (.iload_n 3, 1) := by decide +kernel
theorem dX11_edge_61 : decode cX11_edge 61 = .ok (.ireturn, 1) := by decide +kernel
theorem dX11_edge_62 : decode cX11_edge 62 = .ok (.iinc 3 1, 3) := by decide +kernel
theorem dX11_edge_65 : decode cX11_edge 65 = .ok (.goto (-22), 3) := by decide +kernel
theorem dX11_edge_68 : decode cX11_edge 68 = .ok (.aload_n 0, 1) := by decide +kernel
theorem dX11_edge_69 : decode cX11_edge 69 = .ok (.iconst 2, 1) := by decide +kernel
theorem dX11_edge_70 : decode cX11_edge 70 = .ok (.invokevirtual 54, 3) := by decide +kernel
theorem dX11_edge_73 : decode cX11_edge 73 = .ok (.ireturn, 1) := by decide +kernel
theorem dX11_site_0 : decode cX11_site 0 = .ok (.aload_n 0, 1) := by decide +kernel
theorem dX11_site_1 : decode cX11_site 1 = .ok (.iload_n 1, 1) := by decide +kernel
theorem dX11_site_2 : decode cX11_site 2 = .ok (.iload_n 2, 1) := by decide +kernel
theorem dX11_site_3 : decode cX11_site 3 = .ok (.invokevirtual 273, 3) := by decide +kernel
theorem dX11_site_6 : decode cX11_site 6 = .ok (.istore_n 3, 1) := by decide +kernel
theorem dX11_site_7 : decode cX11_site 7 = .ok (.iload_n 3, 1) := by decide +kernel
theorem dX11_site_8 : decode cX11_site 8 = .ok (.ifCond .ne 11, 3) := by decide +kernel
theorem dX11_site_11 : decode cX11_site 11 = .ok (.aload_n 0, 1) := by decide +kernel
theorem dX11_site_12 : decode cX11_site 12 = .ok (.iload_n 1, 1) := by decide +kernel
theorem dX11_site_13 : decode cX11_site 13 = .ok (.invokevirtual 276, 3) := by decide +kernel
theorem dX11_site_16 : decode cX11_site 16 = .ok (.goto 8, 3) := by decide +kernel
theorem dX11_site_19 : decode cX11_site 19 = .ok (.aload_n 0, 1) := by decide +kernel
theorem dX11_site_20 : decode cX11_site 20 = .ok (.iload_n 3, 1) := by decide +kernel
theorem dX11_site_21 : decode cX11_site 21 = .ok (.invokevirtual 54, 3) := by decide +kernel
theorem dX11_site_24 : decode cX11_site 24 = .ok (.ireturn, 1) := by decide +kernel
theorem dX11_join_0 : decode cX11_join 0 = .ok (.aload_n 0, 1) := by decide +kernel
theorem dX11_join_1 : decode cX11_join 1 = .ok (.iload_n 1, 1) := by decide +kernel
theorem dX11_join_2 : decode cX11_join 2 = .ok (.iload_n 2, 1) := by decide +kernel
theorem dX11_join_3 : decode cX11_join 3 = .ok (.invokevirtual 273, 3) := by decide +kernel
theorem dX11_join_6 : decode cX11_join 6 = .ok (.istore_n 3, 1) := by decide +kernel
theorem dX11_join_7 : decode cX11_join 7 = .ok (.iload_n 3, 1) := by decide +kernel
theorem dX11_join_8 : decode cX11_join 8 = .ok (.ifCond .eq 9, 3) := by decide +kernel
theorem dX11_join_11 : decode cX11_join 11 = .ok (.aload_n 0, 1) := by decide +kernel
theorem dX11_join_12 : decode cX11_join 12 = .ok (.iload_n 3, 1) := by decide +kernel
theorem dX11_join_13 : decode cX11_join 13 = .ok (.invokevirtual 54, 3) := by decide +kernel
theorem dX11_join_16 : decode cX11_join 16 = .ok (.ireturn, 1) := by decide +kernel
theorem dX11_join_17 : decode cX11_join 17 = .ok (.aload_n 0, 1) := by decide +kernel
theorem dX11_join_18 : decode cX11_join 18 = .ok (.getfield 10, 3) := by decide +kernel
theorem dX11_join_21 : decode cX11_join 21 = .ok (.getfield 58, 3) := by decide +kernel
theorem dX11_join_24 : decode cX11_join 24 = .ok (.astore 4, 2) := by decide +kernel
theorem dX11_join_26 : decode cX11_join 26 = .ok (.aload 4, 2) := by decide +kernel
theorem dX11_join_28 : decode cX11_join 28 = .ok (.getfield 120, 3) := by decide +kernel
theorem dX11_join_31 : decode cX11_join 31 = .ok (.bipush 10, 2) := by decide +kernel
theorem dX11_join_33 : decode cX11_join 33 = .ok (.if_icmp .lt 9, 3) := by decide +kernel
theorem dX11_join_36 : decode cX11_join 36 = .ok (.aload_n 0, 1) := by decide +kernel
theorem dX11_join_37 : decode cX11_join 37 = .ok (.iconst 4, 1) := by decide +kernel
theorem dX11_join_38 : decode cX11_join 38 = .ok (.invokevirtual 54, 3) := by decide +kernel
theorem dX11_join_41 : decode cX11_join 41 = .ok (.ireturn, 1) := by decide +kernel
theorem dX11_join_42 : decode cX11_join 42 = .ok (.aload 4, 2) := by decide +kernel
theorem dX11_join_44 : decode cX11_join 44 = .ok (.getfield 134, 3) := by decide +kernel
theorem dX11_join_47 : decode cX11_join 47 = .ok (.iload_n 1, 1) := by decide +kernel
theorem dX11_join_48 : decode cX11_join 48 = .ok (.aaload, 1) := by decide +kernel
theorem dX11_join_49 : decode cX11_join 49 = .ok (.astore 5, 2) := by decide +kernel
theorem dX11_join_51 : decode cX11_join 51 = .ok (.sipush 999, 3) := by decide +kernel
theorem dX11_join_54 : decode cX11_join 54 = .ok (.aload 5, 2) := by decide +kernel
theorem dX11_join_56 : decode cX11_join 56 = .ok (.getfield 146, 3) := by decide +kernel
theorem dX11_join_59 : decode cX11_join 59 = .ok (.aload 4, 2) := by decide +kernel
theorem dX11_join_61 : decode cX11_join 61 = .ok (.getfield 134, 3) := by decide +kernel
theorem dX11_join_64 : decode cX11_join 64 = .ok (.iload_n 2, 1) := by decide +kernel
theorem dX11_join_65 : decode cX11_join 65 = .ok (.aaload, 1) := by decide +kernel
theorem dX11_join_66 : decode cX11_join 66 = .ok (.getfield 146, 3) := by decide +kernel
theorem dX11_join_69 : decode cX11_join 69 = .ok (.iadd, 1) := by decide +kernel
theorem dX11_join_70 : decode cX11_join 70 = .ok (.invokestatic 279, 3) := by decide +kernel
theorem dX11_join_73 : decode cX11_join 73 = .ok (.istore 6, 2) := by decide +kernel
theorem dX11_join_75 : decode cX11_join 75 = .ok (.aload 5, 2) := by decide +kernel
theorem dX11_join_77 : decode cX11_join 77 = .ok (.invokevirtual 138, 3) := by decide +kernel
theorem dX11_join_80 : decode cX11_join 80 = .ok (.istore 7, 2) := by decide +kernel
theorem dX11_join_82 : decode cX11_join 82 = .ok (.aload 4, 2) := by decide +kernel
theorem dX11_join_84 : decode cX11_join 84 = .ok (.iload_n 1, 1) := by decide +kernel
theorem dX11_join_85 : decode cX11_join 85 = .ok (.iconst 0, 1) := by decide +kernel
theorem dX11_join_86 : decode cX11_join 86 = .ok (.invokevirtual 174, 3) := by decide +kernel
theorem dX11_join_89 : decode cX11_join 89 = .ok (.aload 4, 2) := by decide +kernel
theorem dX11_join_91 : decode cX11_join 91 = .ok (.iload_n 2, 1) := by decide +kernel
theorem dX11_join_92 : decode cX11_join 92 = .ok (.iconst 0, 1) := by decide +kernel
theorem dX11_join_93 : decode cX11_join 93 = .ok (.invokevirtual 174, 3) := by decide +kernel
theorem dX11_join_96 : decode cX11_join 96 = .ok (.aload 4, 2) := by decide +kernel
theorem dX11_join_98 : decode cX11_join 98 = .ok (.iload 7, 2) := by decide +kernel
theorem dX11_join_100 : decode cX11_join 100 = .ok (.aload 4, 2) := by decide +kernel
theorem dX11_join_102 : decode cX11_join 102 = .ok (.getfield 120, 3) := by decide +kernel
theorem dX11_join_105 : decode cX11_join 105 = .ok (.aload_n 0, 1) := by decide +kernel
theorem dX11_join_106 : decode cX11_join 106 = .ok (.iload_n 1, 1) := by decide +kernel
theorem dX11_join_107 : decode cX11_join 107 = .ok (.invokevirtual 276, 3) := by decide +kernel
theorem dX11_join_110 : decode cX11_join 110 = .ok (.iload 6, 2) := by decide +kernel
theorem dX11_join_112 : decode cX11_join 112 = .ok (.aload 5, 2) := by decide +kernel
theorem dX11_join_114 : decode cX11_join 114 = .ok (.getfield 149, 3) := by decide +kernel
theorem dX11_join_117 : decode cX11_join 117 = .ok (.aload 5, 2) := by decide +kernel
theorem dX11_join_119 : decode cX11_join 119 = .ok (.getfield 152, 3) := by decide +kernel
theorem dX11_join_122 : decode cX11_join 122 = .ok (.invokestatic 123, 3) := by decide +kernel
theorem dX11_join_125 : decode cX11_join 125 = .ok (.invokevirtual 127, 3) := by decide +kernel
theorem dX11_join_128 : decode cX11_join 128 = .ok (.ireturn, 1) := by decide +kernel
theorem dX11_road_0 : decode cX11_road 0 = .ok (.iload_n 1, 1) := by decide +kernel
theorem dX11_road_1 : decode cX11_road 1 = .ok (.invokestatic 229, 3) := by decide +kernel
theorem dX11_road_4 : decode cX11_road 4 = .ok (.ifCond .ne 9, 3) := by decide +kernel
theorem dX11_road_7 : decode cX11_road 7 = .ok (.aload_n 0, 1) := by decide +kernel
theorem dX11_road_8 : decode cX11_road 8 = .ok (.iconst 1, 1) := by decide +kernel
theorem dX11_road_9 : decode cX11_road 9 = .ok (.invokevirtual 54, 3) := by decide +kernel
theorem dX11_road_12 : decode cX11_road 12 = .ok (.ireturn, 1) := by decide +kernel
theorem dX11_road_13 : decode cX11_road 13 = .ok (.iconst (-1), 1) := by decide +kernel
theorem dX11_road_14 : decode cX11_road 14 = .ok (.istore_n 2, 1) := by decide +kernel
theorem dX11_road_15 : decode cX11_road 15 = .ok (.iconst (-1), 1) := by decide +kernel
theorem dX11_road_16 : decode cX11_road 16 = .ok (.istore_n 3, 1) := by decide +kernel
theorem dX11_road_17 : decode cX11_road 17 = .ok (.iconst 0, 1) := by decide +kernel
theorem dX11_road_18 : decode cX11_road 18 = .ok (.istore 4, 2) := by decide +kernel
theorem dX11_road_20 : decode cX11_road 20 = .ok (.iload 4, 2) := by decide +kernel
theorem dX11_road_22 : decode cX11_road 22 = .ok (.aload_n 0, 1) := by decide +kernel
theorem dX11_road_23 : decode cX11_road 23 = .ok (.getfield 10, 3) := by decide +kernel
theorem dX11_road_26 : decode cX11_road 26 = .ok (.getfield 58, 3) := by decide +kernel
theorem dX11_road_29 : decode cX11_road 29 = .ok (.getfield 61, 3) := by decide +kernel
theorem dX11_road_32 : decode cX11_road 32 = .ok (.if_icmp .ge 86, 3) := by decide +kernel
theorem dX11_road_35 : decode cX11_road 35 = .ok (.iload 4, 2) := by decide +kernel
theorem dX11_road_37 : decode cX11_road 37 = .ok (.iconst 1, 1) := by decide +kernel
theorem dX11_road_38 : decode cX11_road 38 = .ok (.iadd, 1) := by decide +kernel
theorem dX11_road_39 : decode cX11_road 39 = .ok (.istore 5, 2) := by decide +kernel
theorem dX11_road_41 : decode cX11_road 41 = .ok (.iload 5, 2) := by decide +kernel
theorem dX11_road_43 : decode cX11_road 43 = .ok (.aload_n 0, 1) := by decide +kernel
theorem dX11_road_44 : decode cX11_road 44 = .ok (.getfield 10, 3) := by decide +kernel
theorem dX11_road_47 : decode cX11_road 47 = .ok (.getfield 58, 3) := by decide +kernel
theorem dX11_road_50 : decode cX11_road 50 = .ok (.getfield 61, 3) := by decide +kernel
theorem dX11_road_53 : decode cX11_road 53 = .ok (.if_icmp .ge 59, 3) := by decide +kernel
theorem dX11_road_56 : decode cX11_road 56 = .ok (.aload_n 0, 1) := by decide +kernel
theorem dX11_road_57 : decode cX11_road 57 = .ok (.getfield 10, 3) := by decide +kernel
theorem dX11_road_60 : decode cX11_road 60 = .ok (.getfield 58, 3) := by decide +kernel
theorem dX11_road_63 : decode cX11_road 63 = .ok (.iload 4, 2) := by decide +kernel
theorem dX11_road_65 : decode cX11_road 65 = .ok (.iload 5, 2) := by decide +kernel
theorem dX11_road_67 : decode cX11_road 67 = .ok (.invokevirtual 112, 3) := by decide +kernel
theorem dX11_road_70 : decode cX11_road 70 = .ok (.ifCond .eq 7, 3) := by decide +kernel
theorem dX11_road_73 : decode cX11_road 73 = .ok (.iconst (-1), 1) := by decide +kernel
theorem dX11_road_74 : decode cX11_road 74 = .ok (.goto 12, 3) := by decide +kernel
theorem dX11_road_77 : decode cX11_road 77 = .ok (.aload_n 0, 1) := by decide +kernel
theorem dX11_road_78 : decode cX11_road 78 = .ok (.iload 4, 2) := by decide +kernel
theorem dX11_road_80 : decode cX11_road 80 = .ok (.iload 5, 2) := by decide +kernel
theorem dX11_road_82 : decode cX11_road 82 = .ok (.iload_n 1, 1) := by decide +kernel
theorem dX11_road_83 : decode cX11_road 83 = .ok (.invokevirtual 284, 3) := by decide +kernel
theorem dX11_road_86 : decode cX11_road 86 = .ok (.istore 6, 2) := by decide +kernel
theorem dX11_road_88 : decode cX11_road 88 = .ok (.iload 6, 2) := by decide +kernel
theorem dX11_road_90 : decode cX11_road 90 = .ok (.iload_n 3, 1) := by decide +kernel
theorem dX11_road_91 : decode cX11_road 91 = .ok (.if_icmp .le 15, 3) := by decide +kernel
theorem dX11_road_94 : decode cX11_road 94 = .ok (.bipush 10, 2) := by decide +kernel
theorem dX11_road_96 : decode cX11_road 96 = .ok (.iload 4, 2) := by decide +kernel
theorem dX11_road_98 : decode cX11_road 98 = .ok (.imul, 1) := by decide +kernel
theorem dX11_road_99 : decode cX11_road 99 = .ok (.iload 5, 2) := by decide +kernel
theorem dX11_road_101 : decode cX11_road 101 = .ok (.iadd, 1) := by decide +kernel
theorem dX11_road_102 : decode cX11_road 102 = .ok (.istore_n 2, 1) := by decide +kernel
theorem dX11_road_103 : decode cX11_road 103 = .ok (.iload 6, 2) := by decide +kernel
theorem dX11_road_105 : decode cX11_road 105 = .ok (.istore_n 3, 1) := by decide +kernel
theorem dX11_road_106 : decode cX11_road 106 = .ok (.iinc 5 1, 3) := by decide +kernel
theorem dX11_road_109 : decode cX11_road 109 = .ok (.goto (-68), 3) := by decide +kernel
theorem dX11_road_112 : decode cX11_road 112 = .ok (.iinc 4 1, 3) := by decide +kernel
theorem dX11_road_115 : decode cX11_road 115 = .ok (.goto (-95), 3) := by decide +kernel
theorem dX11_road_118 : decode cX11_road 118 = .ok (.iload_n 2, 1) := by decide +kernel
theorem dX11_road_119 : decode cX11_road 119 = .ok (.ifCond .ge 11, 3) := by decide +kernel
theorem dX11_road_122 : decode cX11_road 122 = .ok (.aload_n 0, 1) := by decide +kernel
theorem dX11_road_123 : decode cX11_road 123 = .ok (.iconst 2, 1) := by decide +kernel
theorem dX11_road_124 : decode cX11_road 124 = .ok (.invokevirtual 54, 3) := by decide +kernel
theorem dX11_road_127 : decode cX11_road 127 = .ok (.goto 4, 3) := by decide +kernel
theorem dX11_road_130 : decode cX11_road 130 = .ok (.iload_n 2, 1) := by decide +kernel
theorem dX11_road_131 : decode cX11_road 131 = .ok (.ireturn, 1) := by decide +kernel
theorem dX11_seed_0 : decode cX11_seed 0 = .ok (.aload_n 0, 1) := by decide +kernel
theorem dX11_seed_1 : decode cX11_seed 1 = .ok (.getfield 10, 3) := by decide +kernel
theorem dX11_seed_4 : decode cX11_seed 4 = .ok (.getfield 287, 3) := by decide +kernel
theorem dX11_seed_7 : decode cX11_seed 7 = .ok (.istore_n 2, 1) := by decide +kernel
theorem dX11_seed_8 : decode cX11_seed 8 = .ok (.aload_n 0, 1) := by decide +kernel
theorem dX11_seed_9 : decode cX11_seed 9 = .ok (.getfield 10, 3) := by decide +kernel
theorem dX11_seed_12 : decode cX11_seed 12 = .ok (.iload_n 1, 1) := by decide +kernel
theorem dX11_seed_13 : decode cX11_seed 13 = .ok (.putfield 287, 3) := by decide +kernel
theorem dX11_seed_16 : decode cX11_seed 16 = .ok (.iload_n 2, 1) := by decide +kernel
theorem dX11_seed_17 : decode cX11_seed 17 = .ok (.ireturn, 1) := by decide +kernel
theorem dX11_voice_0 : decode cX11_voice 0 = .ok (.aload_n 0, 1) := by decide +kernel
theorem dX11_voice_1 : decode cX11_voice 1 = .ok (.iload_n 1, 1) := by decide +kernel
theorem dX11_voice_2 : decode cX11_voice 2 = .ok (.invokevirtual 131, 3) := by decide +kernel
theorem dX11_voice_5 : decode cX11_voice 5 = .ok (.ifCond .eq 12, 3) := by decide +kernel
theorem dX11_voice_8 : decode cX11_voice 8 = .ok (.iload_n 2, 1) := by decide +kernel
theorem dX11_voice_9 : decode cX11_voice 9 = .ok (.iconst 0, 1) := by decide +kernel
theorem dX11_voice_10 : decode cX11_voice 10 = .ok (.iconst 3, 1) := by decide +kernel
theorem dX11_voice_11 : decode cX11_voice 11 = .ok (.invokestatic 72, 3) := by decide +kernel
theorem dX11_voice_14 : decode cX11_voice 14 = .ok (.ifCond .ne 9, 3) := by decide +kernel
theorem dX11_voice_17 : decode cX11_voice 17 = .ok (.aload_n 0, 1) := by decide +kernel
theorem dX11_voice_18 : decode cX11_voice 18 = .ok (.iconst 1, 1) := by decide +kernel
theorem dX11_voice_19 : decode cX11_voice 19 = .ok (.invokevirtual 54, 3) := by decide +kernel
theorem dX11_voice_22 : decode cX11_voice 22 = .ok (.ireturn, 1) := by decide +kernel
theorem dX11_voice_23 : decode cX11_voice 23 = .ok (.aload_n 0, 1) := by decide +kernel
theorem dX11_voice_24 : decode cX11_voice 24 = .ok (.getfield 10, 3) := by decide +kernel
theorem dX11_voice_27 : decode cX11_voice 27 = .ok (.getfield 58, 3) := by decide +kernel
theorem dX11_voice_30 : decode cX11_voice 30 = .ok (.getfield 134, 3) := by decide +kernel
theorem dX11_voice_33 : decode cX11_voice 33 = .ok (.iload_n 1, 1) := by decide +kernel
theorem dX11_voice_34 : decode cX11_voice 34 = .ok (.aaload, 1) := by decide +kernel
theorem dX11_voice_35 : decode cX11_voice 35 = .ok (.astore 4, 2) := by decide +kernel
theorem dX11_voice_37 : decode cX11_voice 37 = .ok (.aload_n 0, 1) := by decide +kernel
theorem dX11_voice_38 : decode cX11_voice 38 = .ok (.getfield 42, 3) := by decide +kernel
theorem dX11_voice_41 : decode cX11_voice 41 = .ok (.iconst 0, 1) := by decide +kernel
theorem dX11_voice_42 : decode cX11_voice 42 = .ok (.putfield 93, 3) := by decide +kernel
theorem dX11_voice_45 : decode cX11_voice 45 = .ok (.iload_n 2, 1) := by decide +kernel
theorem dX11_voice_46 : decode cX11_voice 46 = .ok (.tableswitch 59 0 2 #[26, 37, 48], 26) := by decide +kernel
theorem dX11_voice_72 : decode cX11_voice 72 = .ok (.aload 4, 2) := by decide +kernel
theorem dX11_voice_74 : decode cX11_voice 74 = .ok (.iload_n 3, 1) := by decide +kernel
theorem dX11_voice_75 : decode cX11_voice 75 = .ok (.aload_n 0, 1) := by decide +kernel
theorem dX11_voice_76 : decode cX11_voice 76 = .ok (.getfield 42, 3) := by decide +kernel
theorem dX11_voice_79 : decode cX11_voice 79 = .ok (.invokevirtual 290, 3) := by decide +kernel
theorem dX11_voice_82 : decode cX11_voice 82 = .ok (.ireturn, 1) := by decide +kernel
theorem dX11_voice_83 : decode cX11_voice 83 = .ok (.aload 4, 2) := by decide +kernel
theorem dX11_voice_85 : decode cX11_voice 85 = .ok (.iload_n 3, 1) := by decide +kernel
theorem dX11_voice_86 : decode cX11_voice 86 = .ok (.aload_n 0, 1) := by decide +kernel
theorem dX11_voice_87 : decode cX11_voice 87 = .ok (.getfield 42, 3) := by decide +kernel
theorem dX11_voice_90 : decode cX11_voice 90 = .ok (.invokevirtual 294, 3) := by decide +kernel
theorem dX11_voice_93 : decode cX11_voice 93 = .ok (.ireturn, 1) := by decide +kernel
theorem dX11_voice_94 : decode cX11_voice 94 = .ok (.aload 4, 2) := by decide +kernel
theorem dX11_voice_96 : decode cX11_voice 96 = .ok (.iload_n 3, 1) := by decide +kernel
theorem dX11_voice_97 : decode cX11_voice 97 = .ok (.aload_n 0, 1) := by decide +kernel
theorem dX11_voice_98 : decode cX11_voice 98 = .ok (.getfield 42, 3) := by decide +kernel
theorem dX11_voice_101 : decode cX11_voice 101 = .ok (.invokevirtual 297, 3) := by decide +kernel
theorem dX11_voice_104 : decode cX11_voice 104 = .ok (.ireturn, 1) := by decide +kernel
theorem dX11_voice_105 : decode cX11_voice 105 = .ok (.aload 4, 2) := by decide +kernel
theorem dX11_voice_107 : decode cX11_voice 107 = .ok (.iload_n 3, 1) := by decide +kernel
theorem dX11_voice_108 : decode cX11_voice 108 = .ok (.aload_n 0, 1) := by decide +kernel
theorem dX11_voice_109 : decode cX11_voice 109 = .ok (.getfield 42, 3) := by decide +kernel
theorem dX11_voice_112 : decode cX11_voice 112 = .ok (.invokevirtual 300, 3) := by decide +kernel
theorem dX11_voice_115 : decode cX11_voice 115 = .ok (.ireturn, 1) := by decide +kernel
theorem dX11_trace_0 : decode cX11_trace 0 = .ok (.aload_n 0, 1) := by decide +kernel
theorem dX11_trace_1 : decode cX11_trace 1 = .ok (.getfield 42, 3) := by decide +kernel
theorem dX11_trace_4 : decode cX11_trace 4 = .ok (.iload_n 1, 1) := by decide +kernel
theorem dX11_trace_5 : decode cX11_trace 5 = .ok (.invokevirtual 303, 3) := by decide +kernel
theorem dX11_trace_8 : decode cX11_trace 8 = .ok (.ifCond .eq 15, 3) := by decide +kernel
theorem dX11_trace_11 : decode cX11_trace 11 = .ok (.aload_n 0, 1) := by decide +kernel
theorem dX11_trace_12 : decode cX11_trace 12 = .ok (.getfield 42, 3) := by decide +kernel
theorem dX11_trace_15 : decode cX11_trace 15 = .ok (.getfield 96, 3) := by decide +kernel
theorem dX11_trace_18 : decode cX11_trace 18 = .ok (.iload_n 1, 1) := by decide +kernel
theorem dX11_trace_19 : decode cX11_trace 19 = .ok (.iaload, 1) := by decide +kernel
theorem dX11_trace_20 : decode cX11_trace 20 = .ok (.goto 8, 3) := by decide +kernel
theorem dX11_trace_23 : decode cX11_trace 23 = .ok (.aload_n 0, 1) := by decide +kernel
theorem dX11_trace_24 : decode cX11_trace 24 = .ok (.iconst 2, 1) := by decide +kernel
theorem dX11_trace_25 : decode cX11_trace 25 = .ok (.invokevirtual 54, 3) := by decide +kernel
theorem dX11_trace_28 : decode cX11_trace 28 = .ok (.ireturn, 1) := by decide +kernel
theorem dX11_sheet_0 : decode cX11_sheet 0 = .ok (.aload_n 0, 1) := by decide +kernel
theorem dX11_sheet_1 : decode cX11_sheet 1 = .ok (.iload_n 1, 1) := by decide +kernel
theorem dX11_sheet_2 : decode cX11_sheet 2 = .ok (.invokevirtual 87, 3) := by decide +kernel
theorem dX11_sheet_5 : decode cX11_sheet 5 = .ok (.ifCond .eq 25, 3) := by decide +kernel
theorem dX11_sheet_8 : decode cX11_sheet 8 = .ok (.iload_n 2, 1) := by decide +kernel
theorem dX11_sheet_9 : decode cX11_sheet 9 = .ok (.ifCond .eq 27, 3) := by decide +kernel
theorem dX11_sheet_12 : decode cX11_sheet 12 = .ok (.iload_n 2, 1) := by decide +kernel
theorem dX11_sheet_13 : decode cX11_sheet 13 = .ok (.bipush 8, 2) := by decide +kernel
theorem dX11_sheet_15 : decode cX11_sheet 15 = .ok (.if_icmp .eq 21, 3) := by decide +kernel
theorem dX11_sheet_18 : decode cX11_sheet 18 = .ok (.iload_n 2, 1) := by decide +kernel
theorem dX11_sheet_19 : decode cX11_sheet 19 = .ok (.bipush 16, 2) := by decide +kernel
theorem dX11_sheet_21 : decode cX11_sheet 21 = .ok (.if_icmp .eq 15, 3) := by decide +kernel
theorem dX11_sheet_24 : decode cX11_sheet 24 = .ok (.iload_n 2, 1) := by decide +kernel
theorem dX11_sheet_25 : decode cX11_sheet 25 = .ok (.bipush 32, 2) := by decide +kernel
theorem dX11_sheet_27 : decode cX11_sheet 27 = .ok (.if_icmp .eq 9, 3) := by decide +kernel
theorem dX11_sheet_30 : decode cX11_sheet 30 = .ok (.aload_n 0, 1) := by decide +kernel
theorem dX11_sheet_31 : decode cX11_sheet 31 = .ok (.iconst 1, 1) := by decide +kernel
theorem dX11_sheet_32 : decode cX11_sheet 32 = .ok (.invokevirtual 54, 3) := by decide +kernel
theorem dX11_sheet_35 : decode cX11_sheet 35 = .ok (.ireturn, 1) := by decide +kernel
theorem dX11_sheet_36 : decode cX11_sheet 36 = .ok (.iload_n 2, 1) := by decide +kernel
theorem dX11_sheet_37 : decode cX11_sheet 37 = .ok (.ifCond .ne 16, 3) := by decide +kernel
theorem dX11_sheet_40 : decode cX11_sheet 40 = .ok (.aload_n 0, 1) := by decide +kernel
theorem dX11_sheet_41 : decode cX11_sheet 41 = .ok (.getfield 35, 3) := by decide +kernel
theorem dX11_sheet_44 : decode cX11_sheet 44 = .ok (.iload_n 1, 1) := by decide +kernel
theorem dX11_sheet_45 : decode cX11_sheet 45 = .ok (.aaload, 1) := by decide +kernel
theorem dX11_sheet_46 : decode cX11_sheet 46 = .ok (.iconst 0, 1) := by decide +kernel
theorem dX11_sheet_47 : decode cX11_sheet 47 = .ok (.iconst 0, 1) := by decide +kernel
theorem dX11_sheet_48 : decode cX11_sheet 48 = .ok (.invokevirtual 306, 3) := by decide +kernel
theorem dX11_sheet_51 : decode cX11_sheet 51 = .ok (.iconst 1, 1) := by decide +kernel
theorem dX11_sheet_52 : decode cX11_sheet 52 = .ok (.ireturn, 1) := by decide +kernel
theorem dX11_sheet_53 : decode cX11_sheet 53 = .ok (.iload_n 3, 1) := by decide +kernel
theorem dX11_sheet_54 : decode cX11_sheet 54 = .ok (.ifCond .ge 9, 3) := by decide +kernel
theorem dX11_sheet_57 : decode cX11_sheet 57 = .ok (.aload_n 0, 1) := by decide +kernel
theorem dX11_sheet_58 : decode cX11_sheet 58 = .ok (.iconst 3, 1) := by decide +kernel
theorem dX11_sheet_59 : decode cX11_sheet 59 = .ok (.invokevirtual 54, 3) := by decide +kernel
theorem dX11_sheet_62 : decode cX11_sheet 62 = .ok (.ireturn, 1) := by decide +kernel
theorem dX11_sheet_63 : decode cX11_sheet 63 = .ok (.iload_n 3, 1) := by decide +kernel
theorem dX11_sheet_64 : decode cX11_sheet 64 = .ok (.bipush 40, 2) := by decide +kernel
theorem dX11_sheet_66 : decode cX11_sheet 66 = .ok (.if_icmp .le 9, 3) := by decide +kernel
theorem dX11_sheet_69 : decode cX11_sheet 69 = .ok (.aload_n 0, 1) := by decide +kernel
theorem dX11_sheet_70 : decode cX11_sheet 70 = .ok (.iconst 1, 1) := by decide +kernel
theorem dX11_sheet_71 : decode cX11_sheet 71 = .ok (.invokevirtual 54, 3) := by decide +kernel
theorem dX11_sheet_74 : decode cX11_sheet 74 = .ok (.ireturn, 1) := by decide +kernel
theorem dX11_sheet_75 : decode cX11_sheet 75 = .ok (.aload_n 0, 1) := by decide +kernel
theorem dX11_sheet_76 : decode cX11_sheet 76 = .ok (.getfield 35, 3) := by decide +kernel
theorem dX11_sheet_79 : decode cX11_sheet 79 = .ok (.iload_n 1, 1) := by decide +kernel
theorem dX11_sheet_80 : decode cX11_sheet 80 = .ok (.aaload, 1) := by decide +kernel
theorem dX11_sheet_81 : decode cX11_sheet 81 = .ok (.iload_n 2, 1) := by decide +kernel
theorem dX11_sheet_82 : decode cX11_sheet 82 = .ok (.iload_n 3, 1) := by decide +kernel
theorem dX11_sheet_83 : decode cX11_sheet 83 = .ok (.invokevirtual 306, 3) := by decide +kernel
theorem dX11_sheet_86 : decode cX11_sheet 86 = .ok (.iconst 1, 1) := by decide +kernel
theorem dX11_sheet_87 : decode cX11_sheet 87 = .ok (.ireturn, 1) := by decide +kernel
theorem dX11_put_0 : decode cX11_put 0 = .ok (.aload_n 0, 1) := by decide +kernel
theorem dX11_put_1 : decode cX11_put 1 = .ok (.iload_n 1, 1) := by decide +kernel
theorem dX11_put_2 : decode cX11_put 2 = .ok (.invokevirtual 87, 3) := by decide +kernel
theorem dX11_put_5 : decode cX11_put 5 = .ok (.ifCond .ne 9, 3) := by decide +kernel
theorem dX11_put_8 : decode cX11_put 8 = .ok (.aload_n 0, 1) := by decide +kernel
theorem dX11_put_9 : decode cX11_put 9 = .ok (.iconst 1, 1) := by decide +kernel
theorem dX11_put_10 : decode cX11_put 10 = .ok (.invokevirtual 54, 3) := by decide +kernel
theorem dX11_put_13 : decode cX11_put 13 = .ok (.ireturn, 1) := by decide +kernel
theorem dX11_put_14 : decode cX11_put 14 = .ok (.aload_n 0, 1) := by decide +kernel
theorem dX11_put_15 : decode cX11_put 15 = .ok (.getfield 35, 3) := by decide +kernel
theorem dX11_put_18 : decode cX11_put 18 = .ok (.iload_n 1, 1) := by decide +kernel
theorem dX11_put_19 : decode cX11_put 19 = .ok (.aaload, 1) := by decide +kernel
theorem dX11_put_20 : decode cX11_put 20 = .ok (.astore 4, 2) := by decide +kernel
theorem dX11_put_22 : decode cX11_put 22 = .ok (.aload 4, 2) := by decide +kernel
theorem dX11_put_24 : decode cX11_put 24 = .ok (.getfield 90, 3) := by decide +kernel
theorem dX11_put_27 : decode cX11_put 27 = .ok (.ifCond .ne 9, 3) := by decide +kernel
theorem dX11_put_30 : decode cX11_put 30 = .ok (.aload_n 0, 1) := by decide +kernel
theorem dX11_put_31 : decode cX11_put 31 = .ok (.iconst 2, 1) := by decide +kernel
theorem dX11_put_32 : decode cX11_put 32 = .ok (.invokevirtual 54, 3) := by decide +kernel
theorem dX11_put_35 : decode cX11_put 35 = .ok (.ireturn, 1) := by decide +kernel
theorem dX11_put_36 : decode cX11_put 36 = .ok (.aload 4, 2) := by decide +kernel
theorem dX11_put_38 : decode cX11_put 38 = .ok (.iload_n 2, 1) := by decide +kernel
theorem dX11_put_39 : decode cX11_put 39 = .ok (.invokevirtual 303, 3) := by decide +kernel
theorem dX11_put_42 : decode cX11_put 42 = .ok (.ifCond .ne 9, 3) := by decide +kernel
theorem dX11_put_45 : decode cX11_put 45 = .ok (.aload_n 0, 1) := by decide +kernel
theorem dX11_put_46 : decode cX11_put 46 = .ok (.iconst 1, 1) := by decide +kernel
theorem dX11_put_47 : decode cX11_put 47 = .ok (.invokevirtual 54, 3) := by decide +kernel
theorem dX11_put_50 : decode cX11_put 50 = .ok (.ireturn, 1) := by decide +kernel
theorem dX11_put_51 : decode cX11_put 51 = .ok (.aload 4, 2) := by decide +kernel
theorem dX11_put_53 : decode cX11_put 53 = .ok (.getfield 96, 3) := by decide +kernel
theorem dX11_put_56 : decode cX11_put 56 = .ok (.iload_n 2, 1) := by decide +kernel
theorem dX11_put_57 : decode cX11_put 57 = .ok (.aload 4, 2) := by decide +kernel
theorem dX11_put_59 : decode cX11_put 59 = .ok (.iload_n 3, 1) := by decide +kernel
theorem dX11_put_60 : decode cX11_put 60 = .ok (.invokevirtual 310, 3) := by decide +kernel
theorem dX11_put_63 : decode cX11_put 63 = .ok (.iastore, 1) := by decide +kernel
theorem dX11_put_64 : decode cX11_put 64 = .ok (.iconst 1, 1) := by decide +kernel
theorem dX11_put_65 : decode cX11_put 65 = .ok (.ireturn, 1) := by decide +kernel
theorem dX11_move_0 : decode cX11_move 0 = .ok (.aload_n 0, 1) := by decide +kernel
theorem dX11_move_1 : decode cX11_move 1 = .ok (.iload_n 1, 1) := by decide +kernel
theorem dX11_move_2 : decode cX11_move 2 = .ok (.invokevirtual 87, 3) := by decide +kernel
theorem dX11_move_5 : decode cX11_move 5 = .ok (.ifCond .eq 11, 3) := by decide +kernel
theorem dX11_move_8 : decode cX11_move 8 = .ok (.aload_n 0, 1) := by decide +kernel
theorem dX11_move_9 : decode cX11_move 9 = .ok (.iload_n 3, 1) := by decide +kernel
theorem dX11_move_10 : decode cX11_move 10 = .ok (.invokevirtual 87, 3) := by decide +kernel
theorem dX11_move_13 : decode cX11_move 13 = .ok (.ifCond .ne 9, 3) := by decide +kernel
theorem dX11_move_16 : decode cX11_move 16 = .ok (.aload_n 0, 1) := by decide +kernel
theorem dX11_move_17 : decode cX11_move 17 = .ok (.iconst 1, 1) := by decide +kernel
theorem dX11_move_18 : decode cX11_move 18 = .ok (.invokevirtual 54, 3) := by decide +kernel
theorem dX11_move_21 : decode cX11_move 21 = .ok (.ireturn, 1) := by decide +kernel
theorem dX11_move_22 : decode cX11_move 22 = .ok (.aload_n 0, 1) := by decide +kernel
theorem dX11_move_23 : decode cX11_move 23 = .ok (.getfield 35, 3) := by decide +kernel
theorem dX11_move_26 : decode cX11_move 26 = .ok (.iload_n 1, 1) := by decide +kernel
theorem dX11_move_27 : decode cX11_move 27 = .ok (.aaload, 1) := by decide +kernel
theorem dX11_move_28 : decode cX11_move 28 = .ok (.astore 6, 2) := by decide +kernel
theorem dX11_move_30 : decode cX11_move 30 = .ok (.aload_n 0, 1) := by decide +kernel
theorem dX11_move_31 : decode cX11_move 31 = .ok (.getfield 35, 3) := by decide +kernel
theorem dX11_move_34 : decode cX11_move 34 = .ok (.iload_n 3, 1) := by decide +kernel
theorem dX11_move_35 : decode cX11_move 35 = .ok (.aaload, 1) := by decide +kernel
theorem dX11_move_36 : decode cX11_move 36 = .ok (.astore 7, 2) := by decide +kernel
theorem dX11_move_38 : decode cX11_move 38 = .ok (.aload 6, 2) := by decide +kernel
theorem dX11_move_40 : decode cX11_move 40 = .ok (.getfield 90, 3) := by decide +kernel
theorem dX11_move_43 : decode cX11_move 43 = .ok (.ifCond .eq 11, 3) := by decide +kernel
theorem dX11_move_46 : decode cX11_move 46 = .ok (.aload 7, 2) := by decide +kernel
theorem dX11_move_48 : decode cX11_move 48 = .ok (.getfield 90, 3) := by decide +kernel
theorem dX11_move_51 : decode cX11_move 51 = .ok (.ifCond .ne 9, 3) := by decide +kernel
theorem dX11_move_54 : decode cX11_move 54 = .ok (.aload_n 0, 1) := by decide +kernel
theorem dX11_move_55 : decode cX11_move 55 = .ok (.iconst 2, 1) := by decide +kernel
theorem dX11_move_56 : decode cX11_move 56 = .ok (.invokevirtual 54, 3) := by decide +kernel
theorem dX11_move_59 : decode cX11_move 59 = .ok (.ireturn, 1) := by decide +kernel
theorem dX11_move_60 : decode cX11_move 60 = .ok (.aload 6, 2) := by decide +kernel
theorem dX11_move_62 : decode cX11_move 62 = .ok (.getfield 90, 3) := by decide +kernel
theorem dX11_move_65 : decode cX11_move 65 = .ok (.aload 7, 2) := by decide +kernel
theorem dX11_move_67 : decode cX11_move 67 = .ok (.getfield 90, 3) := by decide +kernel
theorem dX11_move_70 : decode cX11_move 70 = .ok (.if_icmp .eq 9, 3) := by decide +kernel
theorem dX11_move_73 : decode cX11_move 73 = .ok (.aload_n 0, 1) := by decide +kernel
theorem dX11_move_74 : decode cX11_move 74 = .ok (.iconst 5, 1) := by decide +kernel
theorem dX11_move_75 : decode cX11_move 75 = .ok (.invokevirtual 54, 3) := by decide +kernel
theorem dX11_move_78 : decode cX11_move 78 = .ok (.ireturn, 1) := by decide +kernel
theorem dX11_move_79 : decode cX11_move 79 = .ok (.aload 6, 2) := by decide +kernel
theorem dX11_move_81 : decode cX11_move 81 = .ok (.iload_n 2, 1) := by decide +kernel
theorem dX11_move_82 : decode cX11_move 82 = .ok (.iload 5, 2) := by decide +kernel
theorem dX11_move_84 : decode cX11_move 84 = .ok (.invokevirtual 313, 3) := by decide +kernel
theorem dX11_move_87 : decode cX11_move 87 = .ok (.ifCond .eq 15, 3) := by decide +kernel
theorem dX11_move_90 : decode cX11_move 90 = .ok (.aload 7, 2) := by decide +kernel
theorem dX11_move_92 : decode cX11_move 92 = .ok (.iload 4, 2) := by decide +kernel
theorem dX11_move_94 : decode cX11_move 94 = .ok (.iload 5, 2) := by decide +kernel
theorem dX11_move_96 : decode cX11_move 96 = .ok (.invokevirtual 313, 3) := by decide +kernel
theorem dX11_move_99 : decode cX11_move 99 = .ok (.ifCond .ne 9, 3) := by decide +kernel
theorem dX11_move_102 : decode cX11_move 102 = .ok (.aload_n 0, 1) := by decide +kernel
theorem dX11_move_103 : decode cX11_move 103 = .ok (.iconst 1, 1) := by decide +kernel
theorem dX11_move_104 : decode cX11_move 104 = .ok (.invokevirtual 54, 3) := by decide +kernel
theorem dX11_move_107 : decode cX11_move 107 = .ok (.ireturn, 1) := by decide +kernel
theorem dX11_move_108 : decode cX11_move 108 = .ok (.aload 6, 2) := by decide +kernel
theorem dX11_move_110 : decode cX11_move 110 = .ok (.getfield 96, 3) := by decide +kernel
theorem dX11_move_113 : decode cX11_move 113 = .ok (.iload_n 2, 1) := by decide +kernel
theorem dX11_move_114 : decode cX11_move 114 = .ok (.aload 7, 2) := by decide +kernel
theorem dX11_move_116 : decode cX11_move 116 = .ok (.getfield 96, 3) := by decide +kernel
theorem dX11_move_119 : decode cX11_move 119 = .ok (.iload 4, 2) := by decide +kernel
theorem dX11_move_121 : decode cX11_move 121 = .ok (.iload 5, 2) := by decide +kernel
theorem dX11_move_123 : decode cX11_move 123 = .ok (.invokestatic 316, 3) := by decide +kernel
theorem dX11_move_126 : decode cX11_move 126 = .ok (.iload 5, 2) := by decide +kernel
theorem dX11_move_128 : decode cX11_move 128 = .ok (.ireturn, 1) := by decide +kernel
theorem dX11_image_0 : decode cX11_image 0 = .ok (.aload_n 0, 1) := by decide +kernel
theorem dX11_image_1 : decode cX11_image 1 = .ok (.getfield 16, 3) := by decide +kernel
theorem dX11_image_4 : decode cX11_image 4 = .ok (.aload_n 0, 1) := by decide +kernel
theorem dX11_image_5 : decode cX11_image 5 = .ok (.getfield 10, 3) := by decide +kernel
theorem dX11_image_8 : decode cX11_image 8 = .ok (.invokevirtual 322, 3) := by decide +kernel
theorem dX11_image_11 : decode cX11_image 11 = .ok (.aload_n 0, 1) := by decide +kernel
theorem dX11_image_12 : decode cX11_image 12 = .ok (.dup, 1) := by decide +kernel
theorem dX11_image_13 : decode cX11_image 13 = .ok (.getfield 19, 3) := by decide +kernel
theorem dX11_image_16 : decode cX11_image 16 = .ok (.iconst 1, 1) := by decide +kernel
theorem dX11_image_17 : decode cX11_image 17 = .ok (.iadd, 1) := by decide +kernel
theorem dX11_image_18 : decode cX11_image 18 = .ok (.putfield 19, 3) := by decide +kernel
theorem dX11_image_21 : decode cX11_image 21 = .ok (.aload_n 0, 1) := by decide +kernel
theorem dX11_image_22 : decode cX11_image 22 = .ok (.getfield 19, 3) := by decide +kernel
theorem dX11_image_25 : decode cX11_image 25 = .ok (.ireturn, 1) := by decide +kernel
theorem dX11_restore_0 : decode cX11_restore 0 = .ok (.aload_n 0, 1) := by decide +kernel
theorem dX11_restore_1 : decode cX11_restore 1 = .ok (.getfield 19, 3) := by decide +kernel
theorem dX11_restore_4 : decode cX11_restore 4 = .ok (.ifCond .ne 9, 3) := by decide +kernel
theorem dX11_restore_7 : decode cX11_restore 7 = .ok (.aload_n 0, 1) := by decide +kernel
theorem dX11_restore_8 : decode cX11_restore 8 = .ok (.iconst 2, 1) := by decide +kernel
theorem dX11_restore_9 : decode cX11_restore 9 = .ok (.invokevirtual 54, 3) := by decide +kernel
theorem dX11_restore_12 : decode cX11_restore 12 = .ok (.ireturn, 1) := by decide +kernel
theorem dX11_restore_13 : decode cX11_restore 13 = .ok (.aload_n 0, 1) := by decide +kernel
theorem dX11_restore_14 : decode cX11_restore 14 = .ok (.getfield 10, 3) := by decide +kernel
theorem dX11_restore_17 : decode cX11_restore 17 = .ok (.aload_n 0, 1) := by decide +kernel
theorem dX11_restore_18 : decode cX11_restore 18 = .ok (.getfield 16, 3) := by decide +kernel
theorem dX11_restore_21 : decode cX11_restore 21 = .ok (.invokevirtual 322, 3) := by decide +kernel
theorem dX11_restore_24 : decode cX11_restore 24 = .ok (.aload_n 0, 1) := by decide +kernel
theorem dX11_restore_25 : decode cX11_restore 25 = .ok (.getfield 10, 3) := by decide +kernel
theorem dX11_restore_28 : decode cX11_restore 28 = .ok (.getfield 58, 3) := by decide +kernel
theorem dX11_restore_31 : decode cX11_restore 31 = .ok (.getfield 223, 3) := by decide +kernel
theorem dX11_restore_34 : decode cX11_restore 34 = .ok (.ireturn, 1) := by decide +kernel
theorem dX11_tell_0 : decode cX11_tell 0 = .ok (.aload_n 0, 1) := by decide +kernel
theorem dX11_tell_1 : decode cX11_tell 1 = .ok (.getfield 10, 3) := by decide +kernel
theorem dX11_tell_4 : decode cX11_tell 4 = .ok (.getfield 325, 3) := by decide +kernel
theorem dX11_tell_7 : decode cX11_tell 7 = .ok (.getfield 93, 3) := by decide +kernel
theorem dX11_tell_10 : decode cX11_tell 10 = .ok (.bipush 20, 2) := by decide +kernel
theorem dX11_tell_12 : decode cX11_tell 12 = .ok (.if_icmp .lt 9, 3) := by decide +kernel
theorem dX11_tell_15 : decode cX11_tell 15 = .ok (.aload_n 0, 1) := by decide +kernel
theorem dX11_tell_16 : decode cX11_tell 16 = .ok (.iconst 4, 1) := by decide +kernel
theorem dX11_tell_17 : decode cX11_tell 17 = .ok (.invokevirtual 54, 3) := by decide +kernel
theorem dX11_tell_20 : decode cX11_tell 20 = .ok (.ireturn, 1) := by decide +kernel
theorem dX11_tell_21 : decode cX11_tell 21 = .ok (.aload_n 0, 1) := by decide +kernel
theorem dX11_tell_22 : decode cX11_tell 22 = .ok (.getfield 10, 3) := by decide +kernel
theorem dX11_tell_25 : decode cX11_tell 25 = .ok (.getfield 325, 3) := by decide +kernel
theorem dX11_tell_28 : decode cX11_tell 28 = .ok (.iload_n 1, 1) := by decide +kernel
theorem dX11_tell_29 : decode cX11_tell 29 = .ok (.invokevirtual 190, 3) := by decide +kernel
theorem dX11_tell_32 : decode cX11_tell 32 = .ok (.aload_n 0, 1) := by decide +kernel
theorem dX11_tell_33 : decode cX11_tell 33 = .ok (.getfield 10, 3) := by decide +kernel
theorem dX11_tell_36 : decode cX11_tell 36 = .ok (.getfield 325, 3) := by decide +kernel
theorem dX11_tell_39 : decode cX11_tell 39 = .ok (.getfield 93, 3) := by decide +kernel
theorem dX11_tell_42 : decode cX11_tell 42 = .ok (.ireturn, 1) := by decide +kernel
theorem dX11_check_0 : decode cX11_check 0 = .ok (.aload_n 0, 1) := by decide +kernel
theorem dX11_check_1 : decode cX11_check 1 = .ok (.getfield 10, 3) := by decide +kernel
theorem dX11_check_4 : decode cX11_check 4 = .ok (.getfield 325, 3) := by decide +kernel
theorem dX11_check_7 : decode cX11_check 7 = .ok (.getfield 93, 3) := by decide +kernel
theorem dX11_check_10 : decode cX11_check 10 = .ok (.istore_n 2, 1) := by decide +kernel
theorem dX11_check_11 : decode cX11_check 11 = .ok (.aload_n 0, 1) := by decide +kernel
theorem dX11_check_12 : decode cX11_check 12 = .ok (.getfield 10, 3) := by decide +kernel
theorem dX11_check_15 : decode cX11_check 15 = .ok (.getfield 325, 3) := by decide +kernel
theorem dX11_check_18 : decode cX11_check 18 = .ok (.iconst 0, 1) := by decide +kernel
theorem dX11_check_19 : decode cX11_check 19 = .ok (.putfield 93, 3) := by decide +kernel
theorem dX11_check_22 : decode cX11_check 22 = .ok (.iload_n 1, 1) := by decide +kernel
theorem dX11_check_23 : decode cX11_check 23 = .ok (.invokestatic 229, 3) := by decide +kernel
theorem dX11_check_26 : decode cX11_check 26 = .ok (.ifCond .ne 9, 3) := by decide +kernel
theorem dX11_check_29 : decode cX11_check 29 = .ok (.aload_n 0, 1) := by decide +kernel
theorem dX11_check_30 : decode cX11_check 30 = .ok (.iconst 1, 1) := by decide +kernel
theorem dX11_check_31 : decode cX11_check 31 = .ok (.invokevirtual 54, 3) := by decide +kernel
theorem dX11_check_34 : decode cX11_check 34 = .ok (.ireturn, 1) := by decide +kernel
theorem dX11_check_35 : decode cX11_check 35 = .ok (.aload_n 0, 1) := by decide +kernel
theorem dX11_check_36 : decode cX11_check 36 = .ok (.getfield 26, 3) := by decide +kernel
theorem dX11_check_39 : decode cX11_check 39 = .ok (.aload_n 0, 1) := by decide +kernel
theorem dX11_check_40 : decode cX11_check 40 = .ok (.getfield 10, 3) := by decide +kernel
theorem dX11_check_43 : decode cX11_check 43 = .ok (.getfield 58, 3) := by decide +kernel
theorem dX11_check_46 : decode cX11_check 46 = .ok (.invokevirtual 232, 3) := by decide +kernel
theorem dX11_check_49 : decode cX11_check 49 = .ok (.aload_n 0, 1) := by decide +kernel
theorem dX11_check_50 : decode cX11_check 50 = .ok (.getfield 26, 3) := by decide +kernel
theorem dX11_check_53 : decode cX11_check 53 = .ok (.iload_n 1, 1) := by decide +kernel
theorem dX11_check_54 : decode cX11_check 54 = .ok (.invokevirtual 226, 3) := by decide +kernel
theorem dX11_check_57 : decode cX11_check 57 = .ok (.aload_n 0, 1) := by decide +kernel
theorem dX11_check_58 : decode cX11_check 58 = .ok (.getfield 26, 3) := by decide +kernel
theorem dX11_check_61 : decode cX11_check 61 = .ok (.getfield 61, 3) := by decide +kernel
theorem dX11_check_64 : decode cX11_check 64 = .ok (.istore_n 3, 1) := by decide +kernel
theorem dX11_check_65 : decode cX11_check 65 = .ok (.iconst 0, 1) := by decide +kernel
theorem dX11_check_66 : decode cX11_check 66 = .ok (.istore 4, 2) := by decide +kernel
theorem dX11_check_68 : decode cX11_check 68 = .ok (.iconst 0, 1) := by decide +kernel
theorem dX11_check_69 : decode cX11_check 69 = .ok (.istore 5, 2) := by decide +kernel
theorem dX11_check_71 : decode cX11_check 71 = .ok (.iload 5, 2) := by decide +kernel
theorem dX11_check_73 : decode cX11_check 73 = .ok (.iload_n 3, 1) := by decide +kernel
theorem dX11_check_74 : decode cX11_check 74 = .ok (.if_icmp .ge 58, 3) := by decide +kernel
theorem dX11_check_77 : decode cX11_check 77 = .ok (.aload_n 0, 1) := by decide +kernel
theorem dX11_check_78 : decode cX11_check 78 = .ok (.getfield 26, 3) := by decide +kernel
theorem dX11_check_81 : decode cX11_check 81 = .ok (.iload 4, 2) := by decide +kernel
theorem dX11_check_83 : decode cX11_check 83 = .ok (.invokevirtual 328, 3) := by decide +kernel
theorem dX11_check_86 : decode cX11_check 86 = .ok (.istore 6, 2) := by decide +kernel
theorem dX11_check_88 : decode cX11_check 88 = .ok (.iload 5, 2) := by decide +kernel
theorem dX11_check_90 : decode cX11_check 90 = .ok (.iload_n 2, 1) := by decide +kernel
theorem dX11_check_91 : decode cX11_check 91 = .ok (.if_icmp .ge 21, 3) := by decide +kernel
theorem dX11_check_94 : decode cX11_check 94 = .ok (.aload_n 0, 1) := by decide +kernel
theorem dX11_check_95 : decode cX11_check 95 = .ok (.getfield 10, 3) := by decide +kernel
theorem dX11_check_98 : decode cX11_check 98 = .ok (.getfield 325, 3) := by decide +kernel
theorem dX11_check_101 : decode cX11_check 101 = .ok (.getfield 96, 3) := by decide +kernel
theorem dX11_check_104 : decode cX11_check 104 = .ok (.iload 5, 2) := by decide +kernel
theorem dX11_check_106 : decode cX11_check 106 = .ok (.iaload, 1) := by decide +kernel
theorem dX11_check_107 : decode cX11_check 107 = .ok (.iload 6, 2) := by decide +kernel
theorem dX11_check_109 : decode cX11_check 109 = .ok (.if_icmp .eq 8, 3) := by decide +kernel
theorem dX11_check_112 : decode cX11_check 112 = .ok (.iconst 1, 1) := by decide +kernel
theorem dX11_check_113 : decode cX11_check 113 = .ok (.iload 5, 2) := by decide +kernel
theorem dX11_check_115 : decode cX11_check 115 = .ok (.iadd, 1) := by decide +kernel
theorem dX11_check_116 : decode cX11_check 116 = .ok (.ireturn, 1) := by decide +kernel
theorem dX11_check_117 : decode cX11_check 117 = .ok (.iload 4, 2) := by decide +kernel
theorem dX11_check_119 : decode cX11_check 119 = .ok (.iconst 1, 1) := by decide +kernel
theorem dX11_check_120 : decode cX11_check 120 = .ok (.iload 6, 2) := by decide +kernel
theorem dX11_check_122 : decode cX11_check 122 = .ok (.ishl, 1) := by decide +kernel
theorem dX11_check_123 : decode cX11_check 123 = .ok (.ior, 1) := by decide +kernel
theorem dX11_check_124 : decode cX11_check 124 = .ok (.istore 4, 2) := by decide +kernel
theorem dX11_check_126 : decode cX11_check 126 = .ok (.iinc 5 1, 3) := by decide +kernel
theorem dX11_check_129 : decode cX11_check 129 = .ok (.goto (-58), 3) := by decide +kernel
theorem dX11_check_132 : decode cX11_check 132 = .ok (.iload_n 2, 1) := by decide +kernel
theorem dX11_check_133 : decode cX11_check 133 = .ok (.iload_n 3, 1) := by decide +kernel
theorem dX11_check_134 : decode cX11_check 134 = .ok (.if_icmp .le 9, 3) := by decide +kernel
theorem dX11_check_137 : decode cX11_check 137 = .ok (.iconst 1, 1) := by decide +kernel
theorem dX11_check_138 : decode cX11_check 138 = .ok (.iload_n 3, 1) := by decide +kernel
theorem dX11_check_139 : decode cX11_check 139 = .ok (.iadd, 1) := by decide +kernel
theorem dX11_check_140 : decode cX11_check 140 = .ok (.goto 4, 3) := by decide +kernel
theorem dX11_check_143 : decode cX11_check 143 = .ok (.iconst 0, 1) := by decide +kernel
theorem dX11_check_144 : decode cX11_check 144 = .ok (.ireturn, 1) := by decide +kernel
theorem dX11_count_0 : decode cX11_count 0 = .ok (.iload_n 1, 1) := by decide +kernel
theorem dX11_count_1 : decode cX11_count 1 = .ok (.tableswitch 149 0 8 #[51, 62, 73, 84, 98, 111, 122, 133, 141], 51) := by decide +kernel
theorem dX11_count_52 : decode cX11_count 52 = .ok (.aload_n 0, 1) := by decide +kernel
theorem dX11_count_53 : decode cX11_count 53 = .ok (.getfield 10, 3) := by decide +kernel
theorem dX11_count_56 : decode cX11_count 56 = .ok (.getfield 58, 3) := by decide +kernel
theorem dX11_count_59 : decode cX11_count 59 = .ok (.getfield 223, 3) := by decide +kernel
theorem dX11_count_62 : decode cX11_count 62 = .ok (.ireturn, 1) := by decide +kernel
theorem dX11_count_63 : decode cX11_count 63 = .ok (.aload_n 0, 1) := by decide +kernel
theorem dX11_count_64 : decode cX11_count 64 = .ok (.getfield 10, 3) := by decide +kernel
theorem dX11_count_67 : decode cX11_count 67 = .ok (.getfield 58, 3) := by decide +kernel
theorem dX11_count_70 : decode cX11_count 70 = .ok (.getfield 61, 3) := by decide +kernel
theorem dX11_count_73 : decode cX11_count 73 = .ok (.ireturn, 1) := by decide +kernel
theorem dX11_count_74 : decode cX11_count 74 = .ok (.aload_n 0, 1) := by decide +kernel
theorem dX11_count_75 : decode cX11_count 75 = .ok (.getfield 10, 3) := by decide +kernel
theorem dX11_count_78 : decode cX11_count 78 = .ok (.getfield 58, 3) := by decide +kernel
theorem dX11_count_81 : decode cX11_count 81 = .ok (.getfield 120, 3) := by decide +kernel
theorem dX11_count_84 : decode cX11_count 84 = .ok (.ireturn, 1) := by decide +kernel
theorem dX11_count_85 : decode cX11_count 85 = .ok (.aload_n 0, 1) := by decide +kernel
theorem dX11_count_86 : decode cX11_count 86 = .ok (.getfield 10, 3) := by decide +kernel
theorem dX11_count_89 : decode cX11_count 89 = .ok (.getfield 58, 3) := by decide +kernel
theorem dX11_count_92 : decode cX11_count 92 = .ok (.getfield 239, 3) := by decide +kernel
theorem dX11_count_95 : decode cX11_count 95 = .ok (.invokestatic 331, 3) := by decide +kernel
theorem dX11_count_98 : decode cX11_count 98 = .ok (.ireturn, 1) := by decide +kernel
theorem dX11_count_99 : decode cX11_count 99 = .ok (.aload_n 0, 1) := by decide +kernel
theorem dX11_count_100 : decode cX11_count 100 = .ok (.getfield 10, 3) := by decide +kernel
theorem dX11_count_103 : decode cX11_count 103 = .ok (.getfield 58, 3) := by decide +kernel
theorem dX11_count_106 : decode cX11_count 106 = .ok (.getfield 220, 3) := by decide +kernel
theorem dX11_count_109 : decode cX11_count 109 = .ok (.iconst 5, 1) := by decide +kernel
theorem dX11_count_110 : decode cX11_count 110 = .ok (.iaload, 1) := by decide +kernel
theorem dX11_count_111 : decode cX11_count 111 = .ok (.ireturn, 1) := by decide +kernel
theorem dX11_count_112 : decode cX11_count 112 = .ok (.aload_n 0, 1) := by decide +kernel
theorem dX11_count_113 : decode cX11_count 113 = .ok (.getfield 10, 3) := by decide +kernel
theorem dX11_count_116 : decode cX11_count 116 = .ok (.getfield 187, 3) := by decide +kernel
theorem dX11_count_119 : decode cX11_count 119 = .ok (.getfield 93, 3) := by decide +kernel
theorem dX11_count_122 : decode cX11_count 122 = .ok (.ireturn, 1) := by decide +kernel
theorem dX11_count_123 : decode cX11_count 123 = .ok (.aload_n 0, 1) := by decide +kernel
theorem dX11_count_124 : decode cX11_count 124 = .ok (.getfield 10, 3) := by decide +kernel
theorem dX11_count_127 : decode cX11_count 127 = .ok (.getfield 325, 3) := by decide +kernel
theorem dX11_count_130 : decode cX11_count 130 = .ok (.getfield 93, 3) := by decide +kernel
theorem dX11_count_133 : decode cX11_count 133 = .ok (.ireturn, 1) := by decide +kernel
theorem dX11_count_134 : decode cX11_count 134 = .ok (.aload_n 0, 1) := by decide +kernel
theorem dX11_count_135 : decode cX11_count 135 = .ok (.getfield 42, 3) := by decide +kernel
theorem dX11_count_138 : decode cX11_count 138 = .ok (.getfield 93, 3) := by decide +kernel
theorem dX11_count_141 : decode cX11_count 141 = .ok (.ireturn, 1) := by decide +kernel
theorem dX11_count_142 : decode cX11_count 142 = .ok (.aload_n 0, 1) := by decide +kernel
theorem dX11_count_143 : decode cX11_count 143 = .ok (.getfield 10, 3) := by decide +kernel
theorem dX11_count_146 : decode cX11_count 146 = .ok (.getfield 287, 3) := by decide +kernel
theorem dX11_count_149 : decode cX11_count 149 = .ok (.ireturn, 1) := by decide +kernel
theorem dX11_count_150 : decode cX11_count 150 = .ok (.aload_n 0, 1) := by decide +kernel
theorem dX11_count_151 : decode cX11_count 151 = .ok (.iconst 1, 1) := by decide +kernel
theorem dX11_count_152 : decode cX11_count 152 = .ok (.invokevirtual 54, 3) := by decide +kernel
theorem dX11_count_155 : decode cX11_count 155 = .ok (.ireturn, 1) := by decide +kernel
theorem dX11_told_0 : decode cX11_told 0 = .ok (.iload_n 1, 1) := by decide +kernel
theorem dX11_told_1 : decode cX11_told 1 = .ok (.iconst 1, 1) := by decide +kernel
theorem dX11_told_2 : decode cX11_told 2 = .ok (.iconst 5, 1) := by decide +kernel
theorem dX11_told_3 : decode cX11_told 3 = .ok (.invokestatic 72, 3) := by decide +kernel
theorem dX11_told_6 : decode cX11_told 6 = .ok (.ifCond .eq 12, 3) := by decide +kernel
theorem dX11_told_9 : decode cX11_told 9 = .ok (.aload_n 0, 1) := by decide +kernel
theorem dX11_told_10 : decode cX11_told 10 = .ok (.getfield 46, 3) := by decide +kernel
theorem dX11_told_13 : decode cX11_told 13 = .ok (.iload_n 1, 1) := by decide +kernel
theorem dX11_told_14 : decode cX11_told 14 = .ok (.iaload, 1) := by decide +kernel
theorem dX11_told_15 : decode cX11_told 15 = .ok (.goto 8, 3) := by decide +kernel
theorem dX11_told_18 : decode cX11_told 18 = .ok (.aload_n 0, 1) := by decide +kernel
theorem dX11_told_19 : decode cX11_told 19 = .ok (.iconst 1, 1) := by decide +kernel
theorem dX11_told_20 : decode cX11_told 20 = .ok (.invokevirtual 54, 3) := by decide +kernel
theorem dX11_told_23 : decode cX11_told 23 = .ok (.ireturn, 1) := by decide +kernel
theorem dX11_error_0 : decode cX11_error 0 = .ok (.aload_n 0, 1) := by decide +kernel
theorem dX11_error_1 : decode cX11_error 1 = .ok (.getfield 46, 3) := by decide +kernel
theorem dX11_error_4 : decode cX11_error 4 = .ok (.iload_n 1, 1) := by decide +kernel
theorem dX11_error_5 : decode cX11_error 5 = .ok (.dup2, 1) := by decide +kernel
theorem dX11_error_6 : decode cX11_error 6 = .ok (.iaload, 1) := by decide +kernel
theorem dX11_error_7 : decode cX11_error 7 = .ok (.iconst 1, 1) := by decide +kernel
theorem dX11_error_8 : decode cX11_error 8 = .ok (.iadd, 1) := by decide +kernel
theorem dX11_error_9 : decode cX11_error 9 = .ok (.iastore, 1) := by decide +kernel
theorem dX11_error_10 : decode cX11_error 10 = .ok (.ldc_w 336, 3) := by decide +kernel
theorem dX11_error_13 : decode cX11_error 13 = .ok (.iload_n 1, 1) := by decide +kernel
theorem dX11_error_14 : decode cX11_error 14 = .ok (.isub, 1) := by decide +kernel
theorem dX11_error_15 : decode cX11_error 15 = .ok (.ireturn, 1) := by decide +kernel
theorem dX11_within_0 : decode cX11_within 0 = .ok (.iload_n 0, 1) := by decide +kernel
theorem dX11_within_1 : decode cX11_within 1 = .ok (.iload_n 1, 1) := by decide +kernel
theorem dX11_within_2 : decode cX11_within 2 = .ok (.if_icmp .lt 12, 3) := by decide +kernel
theorem dX11_within_5 : decode cX11_within 5 = .ok (.iload_n 0, 1) := by decide +kernel
theorem dX11_within_6 : decode cX11_within 6 = .ok (.iload_n 2, 1) := by decide +kernel
theorem dX11_within_7 : decode cX11_within 7 = .ok (.if_icmp .gt 7, 3) := by decide +kernel
theorem dX11_within_10 : decode cX11_within 10 = .ok (.iconst 1, 1) := by decide +kernel
theorem dX11_within_11 : decode cX11_within 11 = .ok (.goto 4, 3) := by decide +kernel
theorem dX11_within_14 : decode cX11_within 14 = .ok (.iconst 0, 1) := by decide +kernel
theorem dX11_within_15 : decode cX11_within 15 = .ok (.ireturn, 1) := by decide +kernel
theorem dX11_isAhead_0 : decode cX11_isAhead 0 = .ok (.iload_n 0, 1) := by decide +kernel
theorem dX11_isAhead_1 : decode cX11_isAhead 1 = .ok (.iconst 0, 1) := by decide +kernel
theorem dX11_isAhead_2 : decode cX11_isAhead 2 = .ok (.bipush 40, 2) := by decide +kernel
theorem dX11_isAhead_4 : decode cX11_isAhead 4 = .ok (.invokestatic 72, 3) := by decide +kernel
theorem dX11_isAhead_7 : decode cX11_isAhead 7 = .ok (.ireturn, 1) := by decide +kernel
theorem dX11_isVillage_0 : decode cX11_isVillage 0 = .ok (.iload_n 1, 1) := by decide +kernel
theorem dX11_isVillage_1 : decode cX11_isVillage 1 = .ok (.iconst 0, 1) := by decide +kernel
theorem dX11_isVillage_2 : decode cX11_isVillage 2 = .ok (.aload_n 0, 1) := by decide +kernel
theorem dX11_isVillage_3 : decode cX11_isVillage 3 = .ok (.getfield 10, 3) := by decide +kernel
theorem dX11_isVillage_6 : decode cX11_isVillage 6 = .ok (.getfield 58, 3) := by decide +kernel
theorem dX11_isVillage_9 : decode cX11_isVillage 9 = .ok (.getfield 61, 3) := by decide +kernel
theorem dX11_isVillage_12 : decode cX11_isVillage 12 = .ok (.iconst 1, 1) := by decide +kernel
theorem dX11_isVillage_13 : decode cX11_isVillage 13 = .ok (.isub, 1) := by decide +kernel
theorem dX11_isVillage_14 : decode cX11_isVillage 14 = .ok (.invokestatic 72, 3) := by decide +kernel
theorem dX11_isVillage_17 : decode cX11_isVillage 17 = .ok (.ireturn, 1) := by decide +kernel
theorem dX11_isThing_0 : decode cX11_isThing 0 = .ok (.iload_n 1, 1) := by decide +kernel
theorem dX11_isThing_1 : decode cX11_isThing 1 = .ok (.iconst 0, 1) := by decide +kernel
theorem dX11_isThing_2 : decode cX11_isThing 2 = .ok (.aload_n 0, 1) := by decide +kernel
theorem dX11_isThing_3 : decode cX11_isThing 3 = .ok (.getfield 10, 3) := by decide +kernel
theorem dX11_isThing_6 : decode cX11_isThing 6 = .ok (.getfield 58, 3) := by decide +kernel
theorem dX11_isThing_9 : decode cX11_isThing 9 = .ok (.getfield 120, 3) := by decide +kernel
theorem dX11_isThing_12 : decode cX11_isThing 12 = .ok (.iconst 1, 1) := by decide +kernel
theorem dX11_isThing_13 : decode cX11_isThing 13 = .ok (.isub, 1) := by decide +kernel
theorem dX11_isThing_14 : decode cX11_isThing 14 = .ok (.invokestatic 72, 3) := by decide +kernel
theorem dX11_isThing_17 : decode cX11_isThing 17 = .ok (.ireturn, 1) := by decide +kernel
theorem dX11_isSheet_0 : decode cX11_isSheet 0 = .ok (.iload_n 1, 1) := by decide +kernel
theorem dX11_isSheet_1 : decode cX11_isSheet 1 = .ok (.iconst 0, 1) := by decide +kernel
theorem dX11_isSheet_2 : decode cX11_isSheet 2 = .ok (.aload_n 0, 1) := by decide +kernel
theorem dX11_isSheet_3 : decode cX11_isSheet 3 = .ok (.getfield 35, 3) := by decide +kernel
theorem dX11_isSheet_6 : decode cX11_isSheet 6 = .ok (.arraylength, 1) := by decide +kernel
theorem dX11_isSheet_7 : decode cX11_isSheet 7 = .ok (.iconst 1, 1) := by decide +kernel
theorem dX11_isSheet_8 : decode cX11_isSheet 8 = .ok (.isub, 1) := by decide +kernel
theorem dX11_isSheet_9 : decode cX11_isSheet 9 = .ok (.invokestatic 72, 3) := by decide +kernel
theorem dX11_isSheet_12 : decode cX11_isSheet 12 = .ok (.ireturn, 1) := by decide +kernel
theorem dX11_isVillageAsTold_0 : decode cX11_isVillageAsTold 0 = .ok (.iload_n 0, 1) := by decide +kernel
theorem dX11_isVillageAsTold_1 : decode cX11_isVillageAsTold 1 = .ok (.ifCond .lt 55, 3) := by decide +kernel
theorem dX11_isVillageAsTold_4 : decode cX11_isVillageAsTold 4 = .ok (.iload_n 0, 1) := by decide +kernel
theorem dX11_isVillageAsTold_5 : decode cX11_isVillageAsTold 5 = .ok (.bipush 100, 2) := by decide +kernel
theorem dX11_isVillageAsTold_7 : decode cX11_isVillageAsTold 7 = .ok (.idiv, 1) := by decide +kernel
theorem dX11_isVillageAsTold_8 : decode cX11_isVillageAsTold 8 = .ok (.bipush 30, 2) := by decide +kernel
theorem dX11_isVillageAsTold_10 : decode cX11_isVillageAsTold 10 = .ok (.if_icmp .gt 46, 3) := by decide +kernel
theorem dX11_isVillageAsTold_13 : decode cX11_isVillageAsTold 13 = .ok (.iload_n 0, 1) := by decide +kernel
theorem dX11_isVillageAsTold_14 : decode cX11_isVillageAsTold 14 = .ok (.bipush 100, 2) := by decide +kernel
theorem dX11_isVillageAsTold_16 : decode cX11_isVillageAsTold 16 = .ok (.irem, 1) := by decide +kernel
theorem dX11_isVillageAsTold_17 : decode cX11_isVillageAsTold 17 = .ok (.bipush 30, 2) := by decide +kernel
theorem dX11_isVillageAsTold_19 : decode cX11_isVillageAsTold 19 = .ok (.if_icmp .gt 37, 3) := by decide +kernel
theorem dX11_isVillageAsTold_22 : decode cX11_isVillageAsTold 22 = .ok (.iload_n 1, 1) := by decide +kernel
theorem dX11_isVillageAsTold_23 : decode cX11_isVillageAsTold 23 = .ok (.iconst 0, 1) := by decide +kernel
theorem dX11_isVillageAsTold_24 : decode cX11_isVillageAsTold 24 = .ok (.ldc 83, 2) := by decide +kernel
theorem dX11_isVillageAsTold_26 : decode cX11_isVillageAsTold 26 = .ok (.invokestatic 72, 3) := by decide +kernel
theorem dX11_isVillageAsTold_29 : decode cX11_isVillageAsTold 29 = .ok (.ifCond .eq 27, 3) := by decide +kernel
theorem dX11_isVillageAsTold_32 : decode cX11_isVillageAsTold 32 = .ok (.iload_n 2, 1) := by decide +kernel
theorem dX11_isVillageAsTold_33 : decode cX11_isVillageAsTold 33 = .ok (.iconst 0, 1) := by decide +kernel
theorem dX11_isVillageAsTold_34 : decode cX11_isVillageAsTold 34 = .ok (.ldc 83, 2) := by decide +kernel
theorem dX11_isVillageAsTold_36 : decode cX11_isVillageAsTold 36 = .ok (.invokestatic 72, 3) := by decide +kernel
theorem dX11_isVillageAsTold_39 : decode cX11_isVillageAsTold 39 = .ok (.ifCond .eq 17, 3) := by decide +kernel
theorem dX11_isVillageAsTold_42 : decode cX11_isVillageAsTold 42 = .ok (.iload_n 3, 1) := by decide +kernel
theorem dX11_isVillageAsTold_43 : decode cX11_isVillageAsTold 43 = .ok (.iconst 0, 1) := by decide +kernel
theorem dX11_isVillageAsTold_44 : decode cX11_isVillageAsTold 44 = .ok (.ldc 83, 2) := by decide +kernel
theorem dX11_isVillageAsTold_46 : decode cX11_isVillageAsTold 46 = .ok (.invokestatic 72, 3) := by decide +kernel
theorem dX11_isVillageAsTold_49 : decode cX11_isVillageAsTold 49 = .ok (.ifCond .eq 7, 3) := by decide +kernel
theorem dX11_isVillageAsTold_52 : decode cX11_isVillageAsTold 52 = .ok (.iconst 1, 1) := by decide +kernel
theorem dX11_isVillageAsTold_53 : decode cX11_isVillageAsTold 53 = .ok (.goto 4, 3) := by decide +kernel
theorem dX11_isVillageAsTold_56 : decode cX11_isVillageAsTold 56 = .ok (.iconst 0, 1) := by decide +kernel
theorem dX11_isVillageAsTold_57 : decode cX11_isVillageAsTold 57 = .ok (.ireturn, 1) := by decide +kernel
theorem dX11_newThing_0 : decode cX11_newThing 0 = .ok (.iload_n 0, 1) := by decide +kernel
theorem dX11_newThing_1 : decode cX11_newThing 1 = .ok (.tableswitch 129 1 6 #[39, 54, 69, 84, 99, 114], 39) := by decide +kernel
theorem dX11_newThing_40 : decode cX11_newThing 40 = .ok (.new 337, 3) := by decide +kernel
theorem dX11_newThing_43 : decode cX11_newThing 43 = .ok (.dup, 1) := by decide +kernel
theorem dX11_newThing_44 : decode cX11_newThing 44 = .ok (.iload_n 1, 1) := by decide +kernel
theorem dX11_newThing_45 : decode cX11_newThing 45 = .ok (.iload_n 2, 1) := by decide +kernel
theorem dX11_newThing_46 : decode cX11_newThing 46 = .ok (.iload_n 3, 1) := by decide +kernel
theorem dX11_newThing_47 : decode cX11_newThing 47 = .ok (.iload 4, 2) := by decide +kernel
theorem dX11_newThing_49 : decode cX11_newThing 49 = .ok (.iload 5, 2) := by decide +kernel
theorem dX11_newThing_51 : decode cX11_newThing 51 = .ok (.invokespecial 339, 3) := by decide +kernel
theorem dX11_newThing_54 : decode cX11_newThing 54 = .ok (.areturn, 1) := by decide +kernel
theorem dX11_newThing_55 : decode cX11_newThing 55 = .ok (.new 342, 3) := by decide +kernel
theorem dX11_newThing_58 : decode cX11_newThing 58 = .ok (.dup, 1) := by decide +kernel
theorem dX11_newThing_59 : decode cX11_newThing 59 = .ok (.iload_n 1, 1) := by decide +kernel
theorem dX11_newThing_60 : decode cX11_newThing 60 = .ok (.iload_n 2, 1) := by decide +kernel
theorem dX11_newThing_61 : decode cX11_newThing 61 = .ok (.iload_n 3, 1) := by decide +kernel
theorem dX11_newThing_62 : decode cX11_newThing 62 = .ok (.iload 4, 2) := by decide +kernel
theorem dX11_newThing_64 : decode cX11_newThing 64 = .ok (.iload 5, 2) := by decide +kernel
theorem dX11_newThing_66 : decode cX11_newThing 66 = .ok (.invokespecial 344, 3) := by decide +kernel
theorem dX11_newThing_69 : decode cX11_newThing 69 = .ok (.areturn, 1) := by decide +kernel
theorem dX11_newThing_70 : decode cX11_newThing 70 = .ok (.new 345, 3) := by decide +kernel
theorem dX11_newThing_73 : decode cX11_newThing 73 = .ok (.dup, 1) := by decide +kernel
theorem dX11_newThing_74 : decode cX11_newThing 74 = .ok (.iload_n 1, 1) := by decide +kernel
theorem dX11_newThing_75 : decode cX11_newThing 75 = .ok (.iload_n 2, 1) := by decide +kernel
theorem dX11_newThing_76 : decode cX11_newThing 76 = .ok (.iload_n 3, 1) := by decide +kernel
theorem dX11_newThing_77 : decode cX11_newThing 77 = .ok (.iload 4, 2) := by decide +kernel
theorem dX11_newThing_79 : decode cX11_newThing 79 = .ok (.iload 5, 2) := by decide +kernel
theorem dX11_newThing_81 : decode cX11_newThing 81 = .ok (.invokespecial 347, 3) := by decide +kernel
theorem dX11_newThing_84 : decode cX11_newThing 84 = .ok (.areturn, 1) := by decide +kernel
theorem dX11_newThing_85 : decode cX11_newThing 85 = .ok (.new 348, 3) := by decide +kernel
theorem dX11_newThing_88 : decode cX11_newThing 88 = .ok (.dup, 1) := by decide +kernel
theorem dX11_newThing_89 : decode cX11_newThing 89 = .ok (.iload_n 1, 1) := by decide +kernel
theorem dX11_newThing_90 : decode cX11_newThing 90 = .ok (.iload_n 2, 1) := by decide +kernel
theorem dX11_newThing_91 : decode cX11_newThing 91 = .ok (.iload_n 3, 1) := by decide +kernel
theorem dX11_newThing_92 : decode cX11_newThing 92 = .ok (.iload 4, 2) := by decide +kernel
theorem dX11_newThing_94 : decode cX11_newThing 94 = .ok (.iload 5, 2) := by decide +kernel
theorem dX11_newThing_96 : decode cX11_newThing 96 = .ok (.invokespecial 350, 3) := by decide +kernel
theorem dX11_newThing_99 : decode cX11_newThing 99 = .ok (.areturn, 1) := by decide +kernel
theorem dX11_newThing_100 : decode cX11_newThing 100 = .ok (.new 351, 3) := by decide +kernel
theorem dX11_newThing_103 : decode cX11_newThing 103 = .ok (.dup, 1) := by decide +kernel
theorem dX11_newThing_104 : decode cX11_newThing 104 = .ok (.iload_n 1, 1) := by decide +kernel
theorem dX11_newThing_105 : decode cX11_newThing 105 = .ok (.iload_n 2, 1) := by decide +kernel
theorem dX11_newThing_106 : decode cX11_newThing 106 = .ok (.iload_n 3, 1) := by decide +kernel
theorem dX11_newThing_107 : decode cX11_newThing 107 = .ok (.iload 4, 2) := by decide +kernel
theorem dX11_newThing_109 : decode cX11_newThing 109 = .ok (.iload 5, 2) := by decide +kernel
theorem dX11_newThing_111 : decode cX11_newThing 111 = .ok (.invokespecial 353, 3) := by decide +kernel
theorem dX11_newThing_114 : decode cX11_newThing 114 = .ok (.areturn, 1) := by decide +kernel
theorem dX11_newThing_115 : decode cX11_newThing 115 = .ok (.new 354, 3) := by decide +kernel
theorem dX11_newThing_118 : decode cX11_newThing 118 = .ok (.dup, 1) := by decide +kernel
theorem dX11_newThing_119 : decode cX11_newThing 119 = .ok (.iload_n 1, 1) := by decide +kernel
theorem dX11_newThing_120 : decode cX11_newThing 120 = .ok (.iload_n 2, 1) := by decide +kernel
theorem dX11_newThing_121 : decode cX11_newThing 121 = .ok (.iload_n 3, 1) := by decide +kernel
theorem dX11_newThing_122 : decode cX11_newThing 122 = .ok (.iload 4, 2) := by decide +kernel
theorem dX11_newThing_124 : decode cX11_newThing 124 = .ok (.iload 5, 2) := by decide +kernel
theorem dX11_newThing_126 : decode cX11_newThing 126 = .ok (.invokespecial 356, 3) := by decide +kernel
theorem dX11_newThing_129 : decode cX11_newThing 129 = .ok (.areturn, 1) := by decide +kernel
theorem dX11_newThing_130 : decode cX11_newThing 130 = .ok (.new 139, 3) := by decide +kernel
theorem dX11_newThing_133 : decode cX11_newThing 133 = .ok (.dup, 1) := by decide +kernel
theorem dX11_newThing_134 : decode cX11_newThing 134 = .ok (.iload_n 1, 1) := by decide +kernel
theorem dX11_newThing_135 : decode cX11_newThing 135 = .ok (.iload_n 2, 1) := by decide +kernel
theorem dX11_newThing_136 : decode cX11_newThing 136 = .ok (.iload_n 3, 1) := by decide +kernel
theorem dX11_newThing_137 : decode cX11_newThing 137 = .ok (.iload 4, 2) := by decide +kernel
theorem dX11_newThing_139 : decode cX11_newThing 139 = .ok (.iload 5, 2) := by decide +kernel
theorem dX11_newThing_141 : decode cX11_newThing 141 = .ok (.invokespecial 357, 3) := by decide +kernel
theorem dX11_newThing_144 : decode cX11_newThing 144 = .ok (.areturn, 1) := by decide +kernel
theorem dX11_leftWithOpen_0 : decode cX11_leftWithOpen 0 = .ok (.aload_n 0, 1) := by decide +kernel
theorem dX11_leftWithOpen_1 : decode cX11_leftWithOpen 1 = .ok (.getfield 26, 3) := by decide +kernel
theorem dX11_leftWithOpen_4 : decode cX11_leftWithOpen 4 = .ok (.aload_n 0, 1) := by decide +kernel
theorem dX11_leftWithOpen_5 : decode cX11_leftWithOpen 5 = .ok (.getfield 10, 3) := by decide +kernel
theorem dX11_leftWithOpen_8 : decode cX11_leftWithOpen 8 = .ok (.getfield 58, 3) := by decide +kernel
theorem dX11_leftWithOpen_11 : decode cX11_leftWithOpen 11 = .ok (.invokevirtual 232, 3) := by decide +kernel
theorem dX11_leftWithOpen_14 : decode cX11_leftWithOpen 14 = .ok (.aload_n 0, 1) := by decide +kernel
theorem dX11_leftWithOpen_15 : decode cX11_leftWithOpen 15 = .ok (.getfield 26, 3) := by decide +kernel
theorem dX11_leftWithOpen_18 : decode cX11_leftWithOpen 18 = .ok (.iload_n 1, 1) := by decide +kernel
theorem dX11_leftWithOpen_19 : decode cX11_leftWithOpen 19 = .ok (.putfield 239, 3) := by decide +kernel
theorem dX11_leftWithOpen_22 : decode cX11_leftWithOpen 22 = .ok (.aload_n 0, 1) := by decide +kernel
theorem dX11_leftWithOpen_23 : decode cX11_leftWithOpen 23 = .ok (.getfield 26, 3) := by decide +kernel
theorem dX11_leftWithOpen_26 : decode cX11_leftWithOpen 26 = .ok (.iload_n 2, 1) := by decide +kernel
theorem dX11_leftWithOpen_27 : decode cX11_leftWithOpen 27 = .ok (.invokevirtual 226, 3) := by decide +kernel
theorem dX11_leftWithOpen_30 : decode cX11_leftWithOpen 30 = .ok (.aload_n 0, 1) := by decide +kernel
theorem dX11_leftWithOpen_31 : decode cX11_leftWithOpen 31 = .ok (.getfield 26, 3) := by decide +kernel
theorem dX11_leftWithOpen_34 : decode cX11_leftWithOpen 34 = .ok (.invokevirtual 236, 3) := by decide +kernel
theorem dX11_leftWithOpen_37 : decode cX11_leftWithOpen 37 = .ok (.ireturn, 1) := by decide +kernel
theorem dX11_leftWithPromise_0 : decode cX11_leftWithPromise 0 = .ok (.aload_n 0, 1) := by decide +kernel
theorem dX11_leftWithPromise_1 : decode cX11_leftWithPromise 1 = .ok (.getfield 26, 3) := by decide +kernel
theorem dX11_leftWithPromise_4 : decode cX11_leftWithPromise 4 = .ok (.aload_n 0, 1) := by decide +kernel
theorem dX11_leftWithPromise_5 : decode cX11_leftWithPromise 5 = .ok (.getfield 10, 3) := by decide +kernel
theorem dX11_leftWithPromise_8 : decode cX11_leftWithPromise 8 = .ok (.getfield 58, 3) := by decide +kernel
theorem dX11_leftWithPromise_11 : decode cX11_leftWithPromise 11 = .ok (.invokevirtual 232, 3) := by decide +kernel
theorem dX11_leftWithPromise_14 : decode cX11_leftWithPromise 14 = .ok (.aload_n 0, 1) := by decide +kernel
theorem dX11_leftWithPromise_15 : decode cX11_leftWithPromise 15 = .ok (.getfield 26, 3) := by decide +kernel
theorem dX11_leftWithPromise_18 : decode cX11_leftWithPromise 18 = .ok (.getfield 158, 3) := by decide +kernel
theorem dX11_leftWithPromise_21 : decode cX11_leftWithPromise 21 = .ok (.iload_n 1, 1) := by decide +kernel
theorem dX11_leftWithPromise_22 : decode cX11_leftWithPromise 22 = .ok (.iload_n 2, 1) := by decide +kernel
theorem dX11_leftWithPromise_23 : decode cX11_leftWithPromise 23 = .ok (.iastore, 1) := by decide +kernel
theorem dX11_leftWithPromise_24 : decode cX11_leftWithPromise 24 = .ok (.aload_n 0, 1) := by decide +kernel
theorem dX11_leftWithPromise_25 : decode cX11_leftWithPromise 25 = .ok (.getfield 26, 3) := by decide +kernel
theorem dX11_leftWithPromise_28 : decode cX11_leftWithPromise 28 = .ok (.iload_n 3, 1) := by decide +kernel
theorem dX11_leftWithPromise_29 : decode cX11_leftWithPromise 29 = .ok (.invokevirtual 226, 3) := by decide +kernel
theorem dX11_leftWithPromise_32 : decode cX11_leftWithPromise 32 = .ok (.aload_n 0, 1) := by decide +kernel
theorem dX11_leftWithPromise_33 : decode cX11_leftWithPromise 33 = .ok (.getfield 26, 3) := by decide +kernel
theorem dX11_leftWithPromise_36 : decode cX11_leftWithPromise 36 = .ok (.invokevirtual 236, 3) := by decide +kernel
theorem dX11_leftWithPromise_39 : decode cX11_leftWithPromise 39 = .ok (.ireturn, 1) := by decide +kernel
theorem dX11_leftWithRoad_0 : decode cX11_leftWithRoad 0 = .ok (.aload_n 0, 1) := by decide +kernel
theorem dX11_leftWithRoad_1 : decode cX11_leftWithRoad 1 = .ok (.getfield 26, 3) := by decide +kernel
theorem dX11_leftWithRoad_4 : decode cX11_leftWithRoad 4 = .ok (.aload_n 0, 1) := by decide +kernel
theorem dX11_leftWithRoad_5 : decode cX11_leftWithRoad 5 = .ok (.getfield 10, 3) := by decide +kernel
theorem dX11_leftWithRoad_8 : decode cX11_leftWithRoad 8 = .ok (.getfield 58, 3) := by decide +kernel
theorem dX11_leftWithRoad_11 : decode cX11_leftWithRoad 11 = .ok (.invokevirtual 232, 3) := by decide +kernel
theorem dX11_leftWithRoad_14 : decode cX11_leftWithRoad 14 = .ok (.aload_n 0, 1) := by decide +kernel
theorem dX11_leftWithRoad_15 : decode cX11_leftWithRoad 15 = .ok (.getfield 26, 3) := by decide +kernel
theorem dX11_leftWithRoad_18 : decode cX11_leftWithRoad 18 = .ok (.iload_n 1, 1) := by decide +kernel
theorem dX11_leftWithRoad_19 : decode cX11_leftWithRoad 19 = .ok (.iload_n 2, 1) := by decide +kernel
theorem dX11_leftWithRoad_20 : decode cX11_leftWithRoad 20 = .ok (.iconst 1, 1) := by decide +kernel
theorem dX11_leftWithRoad_21 : decode cX11_leftWithRoad 21 = .ok (.invokevirtual 116, 3) := by decide +kernel
theorem dX11_leftWithRoad_24 : decode cX11_leftWithRoad 24 = .ok (.aload_n 0, 1) := by decide +kernel
theorem dX11_leftWithRoad_25 : decode cX11_leftWithRoad 25 = .ok (.getfield 26, 3) := by decide +kernel
theorem dX11_leftWithRoad_28 : decode cX11_leftWithRoad 28 = .ok (.iload_n 3, 1) := by decide +kernel
theorem dX11_leftWithRoad_29 : decode cX11_leftWithRoad 29 = .ok (.invokevirtual 226, 3) := by decide +kernel
theorem dX11_leftWithRoad_32 : decode cX11_leftWithRoad 32 = .ok (.aload_n 0, 1) := by decide +kernel
theorem dX11_leftWithRoad_33 : decode cX11_leftWithRoad 33 = .ok (.getfield 26, 3) := by decide +kernel
theorem dX11_leftWithRoad_36 : decode cX11_leftWithRoad 36 = .ok (.invokevirtual 236, 3) := by decide +kernel
theorem dX11_leftWithRoad_39 : decode cX11_leftWithRoad 39 = .ok (.ireturn, 1) := by decide +kernel
theorem dX11_staysWith_0 : decode cX11_staysWith 0 = .ok (.aload_n 0, 1) := by decide +kernel
theorem dX11_staysWith_1 : decode cX11_staysWith 1 = .ok (.getfield 26, 3) := by decide +kernel
theorem dX11_staysWith_4 : decode cX11_staysWith 4 = .ok (.aload_n 0, 1) := by decide +kernel
theorem dX11_staysWith_5 : decode cX11_staysWith 5 = .ok (.getfield 10, 3) := by decide +kernel
theorem dX11_staysWith_8 : decode cX11_staysWith 8 = .ok (.getfield 58, 3) := by decide +kernel
theorem dX11_staysWith_11 : decode cX11_staysWith 11 = .ok (.invokevirtual 232, 3) := by decide +kernel
theorem dX11_staysWith_14 : decode cX11_staysWith 14 = .ok (.aload_n 0, 1) := by decide +kernel
theorem dX11_staysWith_15 : decode cX11_staysWith 15 = .ok (.getfield 26, 3) := by decide +kernel
theorem dX11_staysWith_18 : decode cX11_staysWith 18 = .ok (.getfield 84, 3) := by decide +kernel
theorem dX11_staysWith_21 : decode cX11_staysWith 21 = .ok (.iconst 3, 1) := by decide +kernel
theorem dX11_staysWith_22 : decode cX11_staysWith 22 = .ok (.aload_n 0, 1) := by decide +kernel
theorem dX11_staysWith_23 : decode cX11_staysWith 23 = .ok (.getfield 26, 3) := by decide +kernel
theorem dX11_staysWith_26 : decode cX11_staysWith 26 = .ok (.getfield 134, 3) := by decide +kernel
theorem dX11_staysWith_29 : decode cX11_staysWith 29 = .ok (.iload_n 2, 1) := by decide +kernel
theorem dX11_staysWith_30 : decode cX11_staysWith 30 = .ok (.aaload, 1) := by decide +kernel
theorem dX11_staysWith_31 : decode cX11_staysWith 31 = .ok (.getfield 143, 3) := by decide +kernel
theorem dX11_staysWith_34 : decode cX11_staysWith 34 = .ok (.imul, 1) := by decide +kernel
theorem dX11_staysWith_35 : decode cX11_staysWith 35 = .ok (.iconst 0, 1) := by decide +kernel
theorem dX11_staysWith_36 : decode cX11_staysWith 36 = .ok (.iadd, 1) := by decide +kernel
theorem dX11_staysWith_37 : decode cX11_staysWith 37 = .ok (.iload_n 1, 1) := by decide +kernel
theorem dX11_staysWith_38 : decode cX11_staysWith 38 = .ok (.iastore, 1) := by decide +kernel
theorem dX11_staysWith_39 : decode cX11_staysWith 39 = .ok (.iconst 0, 1) := by decide +kernel
theorem dX11_staysWith_40 : decode cX11_staysWith 40 = .ok (.istore 4, 2) := by decide +kernel
theorem dX11_staysWith_42 : decode cX11_staysWith 42 = .ok (.iload 4, 2) := by decide +kernel
theorem dX11_staysWith_44 : decode cX11_staysWith 44 = .ok (.iload_n 3, 1) := by decide +kernel
theorem dX11_staysWith_45 : decode cX11_staysWith 45 = .ok (.if_icmp .ge 27, 3) := by decide +kernel
theorem dX11_staysWith_48 : decode cX11_staysWith 48 = .ok (.aload_n 0, 1) := by decide +kernel
theorem dX11_staysWith_49 : decode cX11_staysWith 49 = .ok (.getfield 26, 3) := by decide +kernel
theorem dX11_staysWith_52 : decode cX11_staysWith 52 = .ok (.iload_n 2, 1) := by decide +kernel
theorem dX11_staysWith_53 : decode cX11_staysWith 53 = .ok (.invokevirtual 155, 3) := by decide +kernel
theorem dX11_staysWith_56 : decode cX11_staysWith 56 = .ok (.ifCond .eq 16, 3) := by decide +kernel
theorem dX11_staysWith_59 : decode cX11_staysWith 59 = .ok (.aload_n 0, 1) := by decide +kernel
theorem dX11_staysWith_60 : decode cX11_staysWith 60 = .ok (.getfield 26, 3) := by decide +kernel
theorem dX11_staysWith_63 : decode cX11_staysWith 63 = .ok (.invokevirtual 248, 3) := by decide +kernel
theorem dX11_staysWith_66 : decode cX11_staysWith 66 = .ok (.iinc 4 1, 3) := by decide +kernel
theorem dX11_staysWith_69 : decode cX11_staysWith 69 = .ok (.goto (-27), 3) := by decide +kernel
theorem dX11_staysWith_72 : decode cX11_staysWith 72 = .ok (.aload_n 0, 1) := by decide +kernel
theorem dX11_staysWith_73 : decode cX11_staysWith 73 = .ok (.getfield 26, 3) := by decide +kernel
theorem dX11_staysWith_76 : decode cX11_staysWith 76 = .ok (.iload_n 2, 1) := by decide +kernel
theorem dX11_staysWith_77 : decode cX11_staysWith 77 = .ok (.invokevirtual 155, 3) := by decide +kernel
theorem dX11_staysWith_80 : decode cX11_staysWith 80 = .ok (.ireturn, 1) := by decide +kernel
theorem dX11_errorOfTwo_0 : decode cX11_errorOfTwo 0 = .ok (.aload_n 0, 1) := by decide +kernel
theorem dX11_errorOfTwo_1 : decode cX11_errorOfTwo 1 = .ok (.iload_n 1, 1) := by decide +kernel
theorem dX11_errorOfTwo_2 : decode cX11_errorOfTwo 2 = .ok (.invokevirtual 131, 3) := by decide +kernel
theorem dX11_errorOfTwo_5 : decode cX11_errorOfTwo 5 = .ok (.ifCond .eq 16, 3) := by decide +kernel
theorem dX11_errorOfTwo_8 : decode cX11_errorOfTwo 8 = .ok (.aload_n 0, 1) := by decide +kernel
theorem dX11_errorOfTwo_9 : decode cX11_errorOfTwo 9 = .ok (.iload_n 2, 1) := by decide +kernel
theorem dX11_errorOfTwo_10 : decode cX11_errorOfTwo 10 = .ok (.invokevirtual 131, 3) := by decide +kernel
theorem dX11_errorOfTwo_13 : decode cX11_errorOfTwo 13 = .ok (.ifCond .eq 8, 3) := by decide +kernel
theorem dX11_errorOfTwo_16 : decode cX11_errorOfTwo 16 = .ok (.iload_n 1, 1) := by decide +kernel
theorem dX11_errorOfTwo_17 : decode cX11_errorOfTwo 17 = .ok (.iload_n 2, 1) := by decide +kernel
theorem dX11_errorOfTwo_18 : decode cX11_errorOfTwo 18 = .ok (.if_icmp .ne 5, 3) := by decide +kernel
theorem dX11_errorOfTwo_21 : decode cX11_errorOfTwo 21 = .ok (.iconst 1, 1) := by decide +kernel
theorem dX11_errorOfTwo_22 : decode cX11_errorOfTwo 22 = .ok (.ireturn, 1) := by decide +kernel
theorem dX11_errorOfTwo_23 : decode cX11_errorOfTwo 23 = .ok (.aload_n 0, 1) := by decide +kernel
theorem dX11_errorOfTwo_24 : decode cX11_errorOfTwo 24 = .ok (.getfield 10, 3) := by decide +kernel
theorem dX11_errorOfTwo_27 : decode cX11_errorOfTwo 27 = .ok (.getfield 58, 3) := by decide +kernel
theorem dX11_errorOfTwo_30 : decode cX11_errorOfTwo 30 = .ok (.getfield 134, 3) := by decide +kernel
theorem dX11_errorOfTwo_33 : decode cX11_errorOfTwo 33 = .ok (.iload_n 1, 1) := by decide +kernel
theorem dX11_errorOfTwo_34 : decode cX11_errorOfTwo 34 = .ok (.aaload, 1) := by decide +kernel
theorem dX11_errorOfTwo_35 : decode cX11_errorOfTwo 35 = .ok (.invokevirtual 138, 3) := by decide +kernel
theorem dX11_errorOfTwo_38 : decode cX11_errorOfTwo 38 = .ok (.aload_n 0, 1) := by decide +kernel
theorem dX11_errorOfTwo_39 : decode cX11_errorOfTwo 39 = .ok (.getfield 10, 3) := by decide +kernel
theorem dX11_errorOfTwo_42 : decode cX11_errorOfTwo 42 = .ok (.getfield 58, 3) := by decide +kernel
theorem dX11_errorOfTwo_45 : decode cX11_errorOfTwo 45 = .ok (.getfield 134, 3) := by decide +kernel
theorem dX11_errorOfTwo_48 : decode cX11_errorOfTwo 48 = .ok (.iload_n 2, 1) := by decide +kernel
theorem dX11_errorOfTwo_49 : decode cX11_errorOfTwo 49 = .ok (.aaload, 1) := by decide +kernel
theorem dX11_errorOfTwo_50 : decode cX11_errorOfTwo 50 = .ok (.invokevirtual 138, 3) := by decide +kernel
theorem dX11_errorOfTwo_53 : decode cX11_errorOfTwo 53 = .ok (.if_icmp .ne 7, 3) := by decide +kernel
theorem dX11_errorOfTwo_56 : decode cX11_errorOfTwo 56 = .ok (.iconst 0, 1) := by decide +kernel
theorem dX11_errorOfTwo_57 : decode cX11_errorOfTwo 57 = .ok (.goto 4, 3) := by decide +kernel
theorem dX11_errorOfTwo_60 : decode cX11_errorOfTwo 60 = .ok (.iconst 5, 1) := by decide +kernel
theorem dX11_errorOfTwo_61 : decode cX11_errorOfTwo 61 = .ok (.ireturn, 1) := by decide +kernel
theorem dX11_bestSite_0 : decode cX11_bestSite 0 = .ok (.aload_n 0, 1) := by decide +kernel
theorem dX11_bestSite_1 : decode cX11_bestSite 1 = .ok (.getfield 10, 3) := by decide +kernel
theorem dX11_bestSite_4 : decode cX11_bestSite 4 = .ok (.getfield 58, 3) := by decide +kernel
theorem dX11_bestSite_7 : decode cX11_bestSite 7 = .ok (.astore_n 2, 1) := by decide +kernel
theorem dX11_bestSite_8 : decode cX11_bestSite 8 = .ok (.aload_n 2, 1) := by decide +kernel
theorem dX11_bestSite_9 : decode cX11_bestSite 9 = .ok (.getfield 134, 3) := by decide +kernel
theorem dX11_bestSite_12 : decode cX11_bestSite 12 = .ok (.iload_n 1, 1) := by decide +kernel
theorem dX11_bestSite_13 : decode cX11_bestSite 13 = .ok (.aaload, 1) := by decide +kernel
theorem dX11_bestSite_14 : decode cX11_bestSite 14 = .ok (.astore_n 3, 1) := by decide +kernel
theorem dX11_bestSite_15 : decode cX11_bestSite 15 = .ok (.iconst 0, 1) := by decide +kernel
theorem dX11_bestSite_16 : decode cX11_bestSite 16 = .ok (.istore 4, 2) := by decide +kernel
theorem dX11_bestSite_18 : decode cX11_bestSite 18 = .ok (.iconst (-1), 1) := by decide +kernel
theorem dX11_bestSite_19 : decode cX11_bestSite 19 = .ok (.istore 5, 2) := by decide +kernel
theorem dX11_bestSite_21 : decode cX11_bestSite 21 = .ok (.iconst 0, 1) := by decide +kernel
theorem dX11_bestSite_22 : decode cX11_bestSite 22 = .ok (.istore 6, 2) := by decide +kernel
theorem dX11_bestSite_24 : decode cX11_bestSite 24 = .ok (.iload 6, 2) := by decide +kernel
theorem dX11_bestSite_26 : decode cX11_bestSite 26 = .ok (.aload_n 2, 1) := by decide +kernel
theorem dX11_bestSite_27 : decode cX11_bestSite 27 = .ok (.getfield 61, 3) := by decide +kernel
theorem dX11_bestSite_30 : decode cX11_bestSite 30 = .ok (.if_icmp .ge 43, 3) := by decide +kernel
theorem dX11_bestSite_33 : decode cX11_bestSite 33 = .ok (.aload_n 3, 1) := by decide +kernel
theorem dX11_bestSite_34 : decode cX11_bestSite 34 = .ok (.aload_n 2, 1) := by decide +kernel
theorem dX11_bestSite_35 : decode cX11_bestSite 35 = .ok (.iload 6, 2) := by decide +kernel
theorem dX11_bestSite_37 : decode cX11_bestSite 37 = .ok (.aload_n 2, 1) := by decide +kernel
theorem dX11_bestSite_38 : decode cX11_bestSite 38 = .ok (.iload 6, 2) := by decide +kernel
theorem dX11_bestSite_40 : decode cX11_bestSite 40 = .ok (.aload_n 3, 1) := by decide +kernel
theorem dX11_bestSite_41 : decode cX11_bestSite 41 = .ok (.invokevirtual 358, 3) := by decide +kernel
theorem dX11_bestSite_44 : decode cX11_bestSite 44 = .ok (.invokevirtual 361, 3) := by decide +kernel
theorem dX11_bestSite_47 : decode cX11_bestSite 47 = .ok (.invokevirtual 164, 3) := by decide +kernel
theorem dX11_bestSite_50 : decode cX11_bestSite 50 = .ok (.istore 7, 2) := by decide +kernel
theorem dX11_bestSite_52 : decode cX11_bestSite 52 = .ok (.iload 7, 2) := by decide +kernel
theorem dX11_bestSite_54 : decode cX11_bestSite 54 = .ok (.iload 5, 2) := by decide +kernel
theorem dX11_bestSite_56 : decode cX11_bestSite 56 = .ok (.if_icmp .le 11, 3) := by decide +kernel
theorem dX11_bestSite_59 : decode cX11_bestSite 59 = .ok (.iload 6, 2) := by decide +kernel
theorem dX11_bestSite_61 : decode cX11_bestSite 61 = .ok (.istore 4, 2) := by decide +kernel
theorem dX11_bestSite_63 : decode cX11_bestSite 63 = .ok (.iload 7, 2) := by decide +kernel
theorem dX11_bestSite_65 : decode cX11_bestSite 65 = .ok (.istore 5, 2) := by decide +kernel
theorem dX11_bestSite_67 : decode cX11_bestSite 67 = .ok (.iinc 6 1, 3) := by decide +kernel
theorem dX11_bestSite_70 : decode cX11_bestSite 70 = .ok (.goto (-46), 3) := by decide +kernel
theorem dX11_bestSite_73 : decode cX11_bestSite 73 = .ok (.iload 4, 2) := by decide +kernel
theorem dX11_bestSite_75 : decode cX11_bestSite 75 = .ok (.ireturn, 1) := by decide +kernel
