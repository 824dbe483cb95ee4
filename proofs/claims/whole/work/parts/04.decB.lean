theorem d_Ke_spawn_21 : decode b_Ke_spawn 21 = .ok (.if_icmp .ge 76, 3) := by decide +kernel
theorem d_Ke_spawn_24 : decode b_Ke_spawn 24 = .ok (.aload_n 0, 1) := by decide +kernel
theorem d_Ke_spawn_25 : decode b_Ke_spawn 25 = .ok (.getfield 25, 3) := by decide +kernel
theorem d_Ke_spawn_28 : decode b_Ke_spawn 28 = .ok (.iload 5, 2) := by decide +kernel
theorem d_Ke_spawn_30 : decode b_Ke_spawn 30 = .ok (.aaload, 1) := by decide +kernel
theorem d_Ke_spawn_31 : decode b_Ke_spawn 31 = .ok (.astore 6, 2) := by decide +kernel
theorem d_Ke_spawn_33 : decode b_Ke_spawn 33 = .ok (.aload 6, 2) := by decide +kernel
theorem d_Ke_spawn_35 : decode b_Ke_spawn 35 = .ok (.getfield 98, 3) := by decide +kernel
theorem d_Ke_spawn_38 : decode b_Ke_spawn 38 = .ok (.iconst (-1), 1) := by decide +kernel
theorem d_Ke_spawn_39 : decode b_Ke_spawn 39 = .ok (.if_icmp .ne 52, 3) := by decide +kernel
theorem d_Ke_spawn_42 : decode b_Ke_spawn 42 = .ok (.aload 6, 2) := by decide +kernel
theorem d_Ke_spawn_44 : decode b_Ke_spawn 44 = .ok (.iload 4, 2) := by decide +kernel
theorem d_Ke_spawn_46 : decode b_Ke_spawn 46 = .ok (.iload_n 3, 1) := by decide +kernel
theorem d_Ke_spawn_47 : decode b_Ke_spawn 47 = .ok (.aload_n 1, 1) := by decide +kernel
theorem d_Ke_spawn_48 : decode b_Ke_spawn 48 = .ok (.getfield 273, 3) := by decide +kernel
theorem d_Ke_spawn_51 : decode b_Ke_spawn 51 = .ok (.invokevirtual 53, 3) := by decide +kernel
theorem d_Ke_spawn_54 : decode b_Ke_spawn 54 = .ok (.aload 6, 2) := by decide +kernel
theorem d_Ke_spawn_56 : decode b_Ke_spawn 56 = .ok (.getfield 94, 3) := by decide +kernel
theorem d_Ke_spawn_59 : decode b_Ke_spawn 59 = .ok (.iconst 0, 1) := by decide +kernel
theorem d_Ke_spawn_60 : decode b_Ke_spawn 60 = .ok (.iload_n 2, 1) := by decide +kernel
theorem d_Ke_spawn_61 : decode b_Ke_spawn 61 = .ok (.iastore, 1) := by decide +kernel
theorem d_Ke_spawn_62 : decode b_Ke_spawn 62 = .ok (.aload_n 1, 1) := by decide +kernel
theorem d_Ke_spawn_63 : decode b_Ke_spawn 63 = .ok (.dup, 1) := by decide +kernel
theorem d_Ke_spawn_64 : decode b_Ke_spawn 64 = .ok (.getfield 113, 3) := by decide +kernel
theorem d_Ke_spawn_67 : decode b_Ke_spawn 67 = .ok (.iload_n 3, 1) := by decide +kernel
theorem d_Ke_spawn_68 : decode b_Ke_spawn 68 = .ok (.iadd, 1) := by decide +kernel
theorem d_Ke_spawn_69 : decode b_Ke_spawn 69 = .ok (.putfield 113, 3) := by decide +kernel
theorem d_Ke_spawn_72 : decode b_Ke_spawn 72 = .ok (.aload_n 0, 1) := by decide +kernel
theorem d_Ke_spawn_73 : decode b_Ke_spawn 73 = .ok (.aload 6, 2) := by decide +kernel
theorem d_Ke_spawn_75 : decode b_Ke_spawn 75 = .ok (.invokevirtual 57, 3) := by decide +kernel
theorem d_Ke_spawn_78 : decode b_Ke_spawn 78 = .ok (.aload_n 0, 1) := by decide +kernel
theorem d_Ke_spawn_79 : decode b_Ke_spawn 79 = .ok (.dup, 1) := by decide +kernel
theorem d_Ke_spawn_80 : decode b_Ke_spawn 80 = .ok (.getfield 158, 3) := by decide +kernel
theorem d_Ke_spawn_83 : decode b_Ke_spawn 83 = .ok (.iconst 1, 1) := by decide +kernel
theorem d_Ke_spawn_84 : decode b_Ke_spawn 84 = .ok (.iadd, 1) := by decide +kernel
theorem d_Ke_spawn_85 : decode b_Ke_spawn 85 = .ok (.putfield 158, 3) := by decide +kernel
theorem d_Ke_spawn_88 : decode b_Ke_spawn 88 = .ok (.iload 5, 2) := by decide +kernel
theorem d_Ke_spawn_90 : decode b_Ke_spawn 90 = .ok (.ireturn, 1) := by decide +kernel
theorem d_Ke_spawn_91 : decode b_Ke_spawn 91 = .ok (.iinc 5 1, 3) := by decide +kernel
theorem d_Ke_spawn_94 : decode b_Ke_spawn 94 = .ok (.goto (-77), 3) := by decide +kernel
theorem d_Ke_spawn_97 : decode b_Ke_spawn 97 = .ok (.iconst (-1), 1) := by decide +kernel
theorem d_Ke_spawn_98 : decode b_Ke_spawn 98 = .ok (.ireturn, 1) := by decide +kernel
theorem d_Ke_reap_0 : decode b_Ke_reap 0 = .ok (.iconst 0, 1) := by decide +kernel
theorem d_Ke_reap_1 : decode b_Ke_reap 1 = .ok (.istore 4, 2) := by decide +kernel
theorem d_Ke_reap_3 : decode b_Ke_reap 3 = .ok (.iload 4, 2) := by decide +kernel
theorem d_Ke_reap_5 : decode b_Ke_reap 5 = .ok (.bipush 6, 2) := by decide +kernel
theorem d_Ke_reap_7 : decode b_Ke_reap 7 = .ok (.if_icmp .ge 89, 3) := by decide +kernel
theorem d_Ke_reap_10 : decode b_Ke_reap 10 = .ok (.aload_n 0, 1) := by decide +kernel
theorem d_Ke_reap_11 : decode b_Ke_reap 11 = .ok (.getfield 25, 3) := by decide +kernel
theorem d_Ke_reap_14 : decode b_Ke_reap 14 = .ok (.iload 4, 2) := by decide +kernel
theorem d_Ke_reap_16 : decode b_Ke_reap 16 = .ok (.aaload, 1) := by decide +kernel
theorem d_Ke_reap_17 : decode b_Ke_reap 17 = .ok (.astore 5, 2) := by decide +kernel
theorem d_Ke_reap_19 : decode b_Ke_reap 19 = .ok (.aload 5, 2) := by decide +kernel
theorem d_Ke_reap_21 : decode b_Ke_reap 21 = .ok (.getfield 98, 3) := by decide +kernel
theorem d_Ke_reap_24 : decode b_Ke_reap 24 = .ok (.iconst 3, 1) := by decide +kernel
theorem d_Ke_reap_25 : decode b_Ke_reap 25 = .ok (.if_icmp .ne 65, 3) := by decide +kernel
theorem d_Ke_reap_28 : decode b_Ke_reap 28 = .ok (.aload 5, 2) := by decide +kernel
theorem d_Ke_reap_30 : decode b_Ke_reap 30 = .ok (.getfield 116, 3) := by decide +kernel
theorem d_Ke_reap_33 : decode b_Ke_reap 33 = .ok (.aload_n 1, 1) := by decide +kernel
theorem d_Ke_reap_34 : decode b_Ke_reap 34 = .ok (.getfield 273, 3) := by decide +kernel
theorem d_Ke_reap_37 : decode b_Ke_reap 37 = .ok (.if_icmp .ne 53, 3) := by decide +kernel
theorem d_Ke_reap_40 : decode b_Ke_reap 40 = .ok (.aload 5, 2) := by decide +kernel
theorem d_Ke_reap_42 : decode b_Ke_reap 42 = .ok (.iconst (-1), 1) := by decide +kernel
theorem d_Ke_reap_43 : decode b_Ke_reap 43 = .ok (.putfield 98, 3) := by decide +kernel
theorem d_Ke_reap_46 : decode b_Ke_reap 46 = .ok (.aload_n 1, 1) := by decide +kernel
theorem d_Ke_reap_47 : decode b_Ke_reap 47 = .ok (.dup, 1) := by decide +kernel
theorem d_Ke_reap_48 : decode b_Ke_reap 48 = .ok (.getfield 113, 3) := by decide +kernel
theorem d_Ke_reap_51 : decode b_Ke_reap 51 = .ok (.aload 5, 2) := by decide +kernel
theorem d_Ke_reap_53 : decode b_Ke_reap 53 = .ok (.getfield 107, 3) := by decide +kernel
theorem d_Ke_reap_56 : decode b_Ke_reap 56 = .ok (.isub, 1) := by decide +kernel
theorem d_Ke_reap_57 : decode b_Ke_reap 57 = .ok (.putfield 113, 3) := by decide +kernel
theorem d_Ke_reap_60 : decode b_Ke_reap 60 = .ok (.aload_n 1, 1) := by decide +kernel
theorem d_Ke_reap_61 : decode b_Ke_reap 61 = .ok (.getfield 94, 3) := by decide +kernel
theorem d_Ke_reap_64 : decode b_Ke_reap 64 = .ok (.iload_n 2, 1) := by decide +kernel
theorem d_Ke_reap_65 : decode b_Ke_reap 65 = .ok (.iload 4, 2) := by decide +kernel
theorem d_Ke_reap_67 : decode b_Ke_reap 67 = .ok (.iastore, 1) := by decide +kernel
theorem d_Ke_reap_68 : decode b_Ke_reap 68 = .ok (.aload_n 1, 1) := by decide +kernel
theorem d_Ke_reap_69 : decode b_Ke_reap 69 = .ok (.getfield 94, 3) := by decide +kernel
theorem d_Ke_reap_72 : decode b_Ke_reap 72 = .ok (.iload_n 3, 1) := by decide +kernel
theorem d_Ke_reap_73 : decode b_Ke_reap 73 = .ok (.aload 5, 2) := by decide +kernel
theorem d_Ke_reap_75 : decode b_Ke_reap 75 = .ok (.getfield 119, 3) := by decide +kernel
theorem d_Ke_reap_78 : decode b_Ke_reap 78 = .ok (.iastore, 1) := by decide +kernel
theorem d_Ke_reap_79 : decode b_Ke_reap 79 = .ok (.aload_n 0, 1) := by decide +kernel
theorem d_Ke_reap_80 : decode b_Ke_reap 80 = .ok (.dup, 1) := by decide +kernel
theorem d_Ke_reap_81 : decode b_Ke_reap 81 = .ok (.getfield 161, 3) := by decide +kernel
theorem d_Ke_reap_84 : decode b_Ke_reap 84 = .ok (.iconst 1, 1) := by decide +kernel
theorem d_Ke_reap_85 : decode b_Ke_reap 85 = .ok (.iadd, 1) := by decide +kernel
theorem d_Ke_reap_86 : decode b_Ke_reap 86 = .ok (.putfield 161, 3) := by decide +kernel
theorem d_Ke_reap_89 : decode b_Ke_reap 89 = .ok (.return_, 1) := by decide +kernel
theorem d_Ke_reap_90 : decode b_Ke_reap 90 = .ok (.iinc 4 1, 3) := by decide +kernel
theorem d_Ke_reap_93 : decode b_Ke_reap 93 = .ok (.goto (-90), 3) := by decide +kernel
theorem d_Ke_reap_96 : decode b_Ke_reap 96 = .ok (.aload_n 1, 1) := by decide +kernel
theorem d_Ke_reap_97 : decode b_Ke_reap 97 = .ok (.getfield 94, 3) := by decide +kernel
theorem d_Ke_reap_100 : decode b_Ke_reap 100 = .ok (.iload_n 2, 1) := by decide +kernel
theorem d_Ke_reap_101 : decode b_Ke_reap 101 = .ok (.iconst (-1), 1) := by decide +kernel
theorem d_Ke_reap_102 : decode b_Ke_reap 102 = .ok (.iastore, 1) := by decide +kernel
theorem d_Ke_reap_103 : decode b_Ke_reap 103 = .ok (.return_, 1) := by decide +kernel
theorem d_Ke_send_0 : decode b_Ke_send 0 = .ok (.iload_n 3, 1) := by decide +kernel
theorem d_Ke_send_1 : decode b_Ke_send 1 = .ok (.iconst 4, 1) := by decide +kernel
theorem d_Ke_send_2 : decode b_Ke_send 2 = .ok (.invokestatic 179, 3) := by decide +kernel
theorem d_Ke_send_5 : decode b_Ke_send 5 = .ok (.ifCond .eq 5, 3) := by decide +kernel
theorem d_Ke_send_8 : decode b_Ke_send 8 = .ok (.iconst 4, 1) := by decide +kernel
theorem d_Ke_send_9 : decode b_Ke_send 9 = .ok (.ireturn, 1) := by decide +kernel
theorem d_Ke_send_10 : decode b_Ke_send 10 = .ok (.aload_n 0, 1) := by decide +kernel
theorem d_Ke_send_11 : decode b_Ke_send 11 = .ok (.getfield 43, 3) := by decide +kernel
theorem d_Ke_send_14 : decode b_Ke_send 14 = .ok (.iload_n 3, 1) := by decide +kernel
theorem d_Ke_send_15 : decode b_Ke_send 15 = .ok (.aaload, 1) := by decide +kernel
theorem d_Ke_send_16 : decode b_Ke_send 16 = .ok (.astore 4, 2) := by decide +kernel
theorem d_Ke_send_18 : decode b_Ke_send 18 = .ok (.aload 4, 2) := by decide +kernel
theorem d_Ke_send_20 : decode b_Ke_send 20 = .ok (.invokevirtual 276, 3) := by decide +kernel
theorem d_Ke_send_23 : decode b_Ke_send 23 = .ok (.ifCond .eq 15, 3) := by decide +kernel
theorem d_Ke_send_26 : decode b_Ke_send 26 = .ok (.aload_n 1, 1) := by decide +kernel
theorem d_Ke_send_27 : decode b_Ke_send 27 = .ok (.iload_n 2, 1) := by decide +kernel
theorem d_Ke_send_28 : decode b_Ke_send 28 = .ok (.aload 4, 2) := by decide +kernel
theorem d_Ke_send_30 : decode b_Ke_send 30 = .ok (.getfield 145, 3) := by decide +kernel
theorem d_Ke_send_33 : decode b_Ke_send 33 = .ok (.invokestatic 279, 3) := by decide +kernel
theorem d_Ke_send_36 : decode b_Ke_send 36 = .ok (.iconst 0, 1) := by decide +kernel
theorem d_Ke_send_37 : decode b_Ke_send 37 = .ok (.ireturn, 1) := by decide +kernel
theorem d_Ke_send_38 : decode b_Ke_send 38 = .ok (.aload 4, 2) := by decide +kernel
theorem d_Ke_send_40 : decode b_Ke_send 40 = .ok (.getfield 148, 3) := by decide +kernel
theorem d_Ke_send_43 : decode b_Ke_send 43 = .ok (.invokevirtual 211, 3) := by decide +kernel
theorem d_Ke_send_46 : decode b_Ke_send 46 = .ok (.istore 5, 2) := by decide +kernel
theorem d_Ke_send_48 : decode b_Ke_send 48 = .ok (.iload 5, 2) := by decide +kernel
theorem d_Ke_send_50 : decode b_Ke_send 50 = .ok (.iconst (-1), 1) := by decide +kernel
theorem d_Ke_send_51 : decode b_Ke_send 51 = .ok (.if_icmp .ne 17, 3) := by decide +kernel
theorem d_Ke_send_54 : decode b_Ke_send 54 = .ok (.aload 4, 2) := by decide +kernel
theorem d_Ke_send_56 : decode b_Ke_send 56 = .ok (.aload_n 1, 1) := by decide +kernel
theorem d_Ke_send_57 : decode b_Ke_send 57 = .ok (.getfield 94, 3) := by decide +kernel
theorem d_Ke_send_60 : decode b_Ke_send 60 = .ok (.iload_n 2, 1) := by decide +kernel
theorem d_Ke_send_61 : decode b_Ke_send 61 = .ok (.iaload, 1) := by decide +kernel
theorem d_Ke_send_62 : decode b_Ke_send 62 = .ok (.invokevirtual 283, 3) := by decide +kernel
theorem d_Ke_send_65 : decode b_Ke_send 65 = .ok (.goto 41, 3) := by decide +kernel
theorem d_Ke_send_68 : decode b_Ke_send 68 = .ok (.aload_n 0, 1) := by decide +kernel
theorem d_Ke_send_69 : decode b_Ke_send 69 = .ok (.getfield 25, 3) := by decide +kernel
theorem d_Ke_send_72 : decode b_Ke_send 72 = .ok (.iload 5, 2) := by decide +kernel
theorem d_Ke_send_74 : decode b_Ke_send 74 = .ok (.aaload, 1) := by decide +kernel
theorem d_Ke_send_75 : decode b_Ke_send 75 = .ok (.getfield 94, 3) := by decide +kernel
theorem d_Ke_send_78 : decode b_Ke_send 78 = .ok (.aload_n 0, 1) := by decide +kernel
theorem d_Ke_send_79 : decode b_Ke_send 79 = .ok (.getfield 25, 3) := by decide +kernel
theorem d_Ke_send_82 : decode b_Ke_send 82 = .ok (.iload 5, 2) := by decide +kernel
theorem d_Ke_send_84 : decode b_Ke_send 84 = .ok (.aaload, 1) := by decide +kernel
theorem d_Ke_send_85 : decode b_Ke_send 85 = .ok (.getfield 286, 3) := by decide +kernel
theorem d_Ke_send_88 : decode b_Ke_send 88 = .ok (.aload_n 1, 1) := by decide +kernel
theorem d_Ke_send_89 : decode b_Ke_send 89 = .ok (.getfield 94, 3) := by decide +kernel
theorem d_Ke_send_92 : decode b_Ke_send 92 = .ok (.iload_n 2, 1) := by decide +kernel
theorem d_Ke_send_93 : decode b_Ke_send 93 = .ok (.iaload, 1) := by decide +kernel
theorem d_Ke_send_94 : decode b_Ke_send 94 = .ok (.iastore, 1) := by decide +kernel
theorem d_Ke_send_95 : decode b_Ke_send 95 = .ok (.aload_n 0, 1) := by decide +kernel
theorem d_Ke_send_96 : decode b_Ke_send 96 = .ok (.aload_n 0, 1) := by decide +kernel
theorem d_Ke_send_97 : decode b_Ke_send 97 = .ok (.getfield 25, 3) := by decide +kernel
theorem d_Ke_send_100 : decode b_Ke_send 100 = .ok (.iload 5, 2) := by decide +kernel
theorem d_Ke_send_102 : decode b_Ke_send 102 = .ok (.aaload, 1) := by decide +kernel
theorem d_Ke_send_103 : decode b_Ke_send 103 = .ok (.invokevirtual 57, 3) := by decide +kernel
theorem d_Ke_send_106 : decode b_Ke_send 106 = .ok (.iconst 0, 1) := by decide +kernel
theorem d_Ke_send_107 : decode b_Ke_send 107 = .ok (.ireturn, 1) := by decide +kernel
theorem d_Ke_receive_0 : decode b_Ke_receive 0 = .ok (.iload_n 3, 1) := by decide +kernel
theorem d_Ke_receive_1 : decode b_Ke_receive 1 = .ok (.iconst 4, 1) := by decide +kernel
theorem d_Ke_receive_2 : decode b_Ke_receive 2 = .ok (.invokestatic 179, 3) := by decide +kernel
theorem d_Ke_receive_5 : decode b_Ke_receive 5 = .ok (.ifCond .eq 5, 3) := by decide +kernel
theorem d_Ke_receive_8 : decode b_Ke_receive 8 = .ok (.iconst 4, 1) := by decide +kernel
theorem d_Ke_receive_9 : decode b_Ke_receive 9 = .ok (.ireturn, 1) := by decide +kernel
theorem d_Ke_receive_10 : decode b_Ke_receive 10 = .ok (.aload_n 0, 1) := by decide +kernel
theorem d_Ke_receive_11 : decode b_Ke_receive 11 = .ok (.getfield 43, 3) := by decide +kernel
theorem d_Ke_receive_14 : decode b_Ke_receive 14 = .ok (.iload_n 3, 1) := by decide +kernel
theorem d_Ke_receive_15 : decode b_Ke_receive 15 = .ok (.aaload, 1) := by decide +kernel
theorem d_Ke_receive_16 : decode b_Ke_receive 16 = .ok (.astore 4, 2) := by decide +kernel
theorem d_Ke_receive_18 : decode b_Ke_receive 18 = .ok (.aload 4, 2) := by decide +kernel
theorem d_Ke_receive_20 : decode b_Ke_receive 20 = .ok (.getfield 144, 3) := by decide +kernel
theorem d_Ke_receive_23 : decode b_Ke_receive 23 = .ok (.ifCond .ne 15, 3) := by decide +kernel
theorem d_Ke_receive_26 : decode b_Ke_receive 26 = .ok (.aload_n 1, 1) := by decide +kernel
theorem d_Ke_receive_27 : decode b_Ke_receive 27 = .ok (.iload_n 2, 1) := by decide +kernel
theorem d_Ke_receive_28 : decode b_Ke_receive 28 = .ok (.aload 4, 2) := by decide +kernel
theorem d_Ke_receive_30 : decode b_Ke_receive 30 = .ok (.getfield 148, 3) := by decide +kernel
theorem d_Ke_receive_33 : decode b_Ke_receive 33 = .ok (.invokestatic 279, 3) := by decide +kernel
theorem d_Ke_receive_36 : decode b_Ke_receive 36 = .ok (.iconst 0, 1) := by decide +kernel
theorem d_Ke_receive_37 : decode b_Ke_receive 37 = .ok (.ireturn, 1) := by decide +kernel
theorem d_Ke_receive_38 : decode b_Ke_receive 38 = .ok (.aload_n 1, 1) := by decide +kernel
theorem d_Ke_receive_39 : decode b_Ke_receive 39 = .ok (.getfield 94, 3) := by decide +kernel
theorem d_Ke_receive_42 : decode b_Ke_receive 42 = .ok (.iload_n 2, 1) := by decide +kernel
theorem d_Ke_receive_43 : decode b_Ke_receive 43 = .ok (.aload 4, 2) := by decide +kernel
theorem d_Ke_receive_45 : decode b_Ke_receive 45 = .ok (.invokevirtual 289, 3) := by decide +kernel
theorem d_Ke_receive_48 : decode b_Ke_receive 48 = .ok (.iastore, 1) := by decide +kernel
theorem d_Ke_receive_49 : decode b_Ke_receive 49 = .ok (.aload 4, 2) := by decide +kernel
theorem d_Ke_receive_51 : decode b_Ke_receive 51 = .ok (.getfield 145, 3) := by decide +kernel
theorem d_Ke_receive_54 : decode b_Ke_receive 54 = .ok (.invokevirtual 211, 3) := by decide +kernel
theorem d_Ke_receive_57 : decode b_Ke_receive 57 = .ok (.istore 5, 2) := by decide +kernel
theorem d_Ke_receive_59 : decode b_Ke_receive 59 = .ok (.iload 5, 2) := by decide +kernel
theorem d_Ke_receive_61 : decode b_Ke_receive 61 = .ok (.iconst (-1), 1) := by decide +kernel
theorem d_Ke_receive_62 : decode b_Ke_receive 62 = .ok (.if_icmp .eq 40, 3) := by decide +kernel
theorem d_Ke_receive_65 : decode b_Ke_receive 65 = .ok (.aload 4, 2) := by decide +kernel
theorem d_Ke_receive_67 : decode b_Ke_receive 67 = .ok (.aload_n 0, 1) := by decide +kernel
theorem d_Ke_receive_68 : decode b_Ke_receive 68 = .ok (.getfield 25, 3) := by decide +kernel
theorem d_Ke_receive_71 : decode b_Ke_receive 71 = .ok (.iload 5, 2) := by decide +kernel
theorem d_Ke_receive_73 : decode b_Ke_receive 73 = .ok (.aaload, 1) := by decide +kernel
theorem d_Ke_receive_74 : decode b_Ke_receive 74 = .ok (.getfield 94, 3) := by decide +kernel
theorem d_Ke_receive_77 : decode b_Ke_receive 77 = .ok (.aload_n 0, 1) := by decide +kernel
theorem d_Ke_receive_78 : decode b_Ke_receive 78 = .ok (.getfield 25, 3) := by decide +kernel
theorem d_Ke_receive_81 : decode b_Ke_receive 81 = .ok (.iload 5, 2) := by decide +kernel
theorem d_Ke_receive_83 : decode b_Ke_receive 83 = .ok (.aaload, 1) := by decide +kernel
theorem d_Ke_receive_84 : decode b_Ke_receive 84 = .ok (.getfield 286, 3) := by decide +kernel
theorem d_Ke_receive_87 : decode b_Ke_receive 87 = .ok (.iaload, 1) := by decide +kernel
theorem d_Ke_receive_88 : decode b_Ke_receive 88 = .ok (.invokevirtual 283, 3) := by decide +kernel
theorem d_Ke_receive_91 : decode b_Ke_receive 91 = .ok (.aload_n 0, 1) := by decide +kernel
theorem d_Ke_receive_92 : decode b_Ke_receive 92 = .ok (.aload_n 0, 1) := by decide +kernel
theorem d_Ke_receive_93 : decode b_Ke_receive 93 = .ok (.getfield 25, 3) := by decide +kernel
theorem d_Ke_receive_96 : decode b_Ke_receive 96 = .ok (.iload 5, 2) := by decide +kernel
theorem d_Ke_receive_98 : decode b_Ke_receive 98 = .ok (.aaload, 1) := by decide +kernel
theorem d_Ke_receive_99 : decode b_Ke_receive 99 = .ok (.invokevirtual 57, 3) := by decide +kernel
theorem d_Ke_receive_102 : decode b_Ke_receive 102 = .ok (.iconst 0, 1) := by decide +kernel
theorem d_Ke_receive_103 : decode b_Ke_receive 103 = .ok (.ireturn, 1) := by decide +kernel
theorem d_Ke_lock_0 : decode b_Ke_lock 0 = .ok (.iload_n 3, 1) := by decide +kernel
theorem d_Ke_lock_1 : decode b_Ke_lock 1 = .ok (.iconst 4, 1) := by decide +kernel
theorem d_Ke_lock_2 : decode b_Ke_lock 2 = .ok (.invokestatic 179, 3) := by decide +kernel
theorem d_Ke_lock_5 : decode b_Ke_lock 5 = .ok (.ifCond .eq 5, 3) := by decide +kernel
theorem d_Ke_lock_8 : decode b_Ke_lock 8 = .ok (.iconst 4, 1) := by decide +kernel
theorem d_Ke_lock_9 : decode b_Ke_lock 9 = .ok (.ireturn, 1) := by decide +kernel
theorem d_Ke_lock_10 : decode b_Ke_lock 10 = .ok (.aload_n 0, 1) := by decide +kernel
theorem d_Ke_lock_11 : decode b_Ke_lock 11 = .ok (.getfield 37, 3) := by decide +kernel
theorem d_Ke_lock_14 : decode b_Ke_lock 14 = .ok (.iload_n 3, 1) := by decide +kernel
theorem d_Ke_lock_15 : decode b_Ke_lock 15 = .ok (.aaload, 1) := by decide +kernel
theorem d_Ke_lock_16 : decode b_Ke_lock 16 = .ok (.getfield 132, 3) := by decide +kernel
theorem d_Ke_lock_19 : decode b_Ke_lock 19 = .ok (.iconst (-1), 1) := by decide +kernel
theorem d_Ke_lock_20 : decode b_Ke_lock 20 = .ok (.if_icmp .ne 19, 3) := by decide +kernel
theorem d_Ke_lock_23 : decode b_Ke_lock 23 = .ok (.aload_n 0, 1) := by decide +kernel
theorem d_Ke_lock_24 : decode b_Ke_lock 24 = .ok (.getfield 37, 3) := by decide +kernel
theorem d_Ke_lock_27 : decode b_Ke_lock 27 = .ok (.iload_n 3, 1) := by decide +kernel
theorem d_Ke_lock_28 : decode b_Ke_lock 28 = .ok (.aaload, 1) := by decide +kernel
theorem d_Ke_lock_29 : decode b_Ke_lock 29 = .ok (.aload_n 1, 1) := by decide +kernel
theorem d_Ke_lock_30 : decode b_Ke_lock 30 = .ok (.getfield 273, 3) := by decide +kernel
theorem d_Ke_lock_33 : decode b_Ke_lock 33 = .ok (.putfield 132, 3) := by decide +kernel
theorem d_Ke_lock_36 : decode b_Ke_lock 36 = .ok (.goto 17, 3) := by decide +kernel
theorem d_Ke_lock_39 : decode b_Ke_lock 39 = .ok (.aload_n 1, 1) := by decide +kernel
theorem d_Ke_lock_40 : decode b_Ke_lock 40 = .ok (.iload_n 2, 1) := by decide +kernel
theorem d_Ke_lock_41 : decode b_Ke_lock 41 = .ok (.aload_n 0, 1) := by decide +kernel
theorem d_Ke_lock_42 : decode b_Ke_lock 42 = .ok (.getfield 37, 3) := by decide +kernel
theorem d_Ke_lock_45 : decode b_Ke_lock 45 = .ok (.iload_n 3, 1) := by decide +kernel
theorem d_Ke_lock_46 : decode b_Ke_lock 46 = .ok (.aaload, 1) := by decide +kernel
theorem d_Ke_lock_47 : decode b_Ke_lock 47 = .ok (.getfield 135, 3) := by decide +kernel
theorem d_Ke_lock_50 : decode b_Ke_lock 50 = .ok (.invokestatic 279, 3) := by decide +kernel
theorem d_Ke_lock_53 : decode b_Ke_lock 53 = .ok (.iconst 0, 1) := by decide +kernel
theorem d_Ke_lock_54 : decode b_Ke_lock 54 = .ok (.ireturn, 1) := by decide +kernel
theorem d_Ke_unlock_0 : decode b_Ke_unlock 0 = .ok (.iload_n 2, 1) := by decide +kernel
theorem d_Ke_unlock_1 : decode b_Ke_unlock 1 = .ok (.iconst 4, 1) := by decide +kernel
theorem d_Ke_unlock_2 : decode b_Ke_unlock 2 = .ok (.invokestatic 179, 3) := by decide +kernel
theorem d_Ke_unlock_5 : decode b_Ke_unlock 5 = .ok (.ifCond .eq 5, 3) := by decide +kernel
theorem d_Ke_unlock_8 : decode b_Ke_unlock 8 = .ok (.iconst 4, 1) := by decide +kernel
theorem d_Ke_unlock_9 : decode b_Ke_unlock 9 = .ok (.ireturn, 1) := by decide +kernel
theorem d_Ke_unlock_10 : decode b_Ke_unlock 10 = .ok (.aload_n 0, 1) := by decide +kernel
theorem d_Ke_unlock_11 : decode b_Ke_unlock 11 = .ok (.getfield 37, 3) := by decide +kernel
theorem d_Ke_unlock_14 : decode b_Ke_unlock 14 = .ok (.iload_n 2, 1) := by decide +kernel
theorem d_Ke_unlock_15 : decode b_Ke_unlock 15 = .ok (.aaload, 1) := by decide +kernel
theorem d_Ke_unlock_16 : decode b_Ke_unlock 16 = .ok (.getfield 132, 3) := by decide +kernel
theorem d_Ke_unlock_19 : decode b_Ke_unlock 19 = .ok (.aload_n 1, 1) := by decide +kernel
theorem d_Ke_unlock_20 : decode b_Ke_unlock 20 = .ok (.getfield 273, 3) := by decide +kernel
theorem d_Ke_unlock_23 : decode b_Ke_unlock 23 = .ok (.if_icmp .eq 5, 3) := by decide +kernel
theorem d_Ke_unlock_26 : decode b_Ke_unlock 26 = .ok (.iconst 5, 1) := by decide +kernel
theorem d_Ke_unlock_27 : decode b_Ke_unlock 27 = .ok (.ireturn, 1) := by decide +kernel
theorem d_Ke_unlock_28 : decode b_Ke_unlock 28 = .ok (.aload_n 0, 1) := by decide +kernel
theorem d_Ke_unlock_29 : decode b_Ke_unlock 29 = .ok (.aload_n 0, 1) := by decide +kernel
theorem d_Ke_unlock_30 : decode b_Ke_unlock 30 = .ok (.getfield 37, 3) := by decide +kernel
theorem d_Ke_unlock_33 : decode b_Ke_unlock 33 = .ok (.iload_n 2, 1) := by decide +kernel
theorem d_Ke_unlock_34 : decode b_Ke_unlock 34 = .ok (.aaload, 1) := by decide +kernel
theorem d_Ke_unlock_35 : decode b_Ke_unlock 35 = .ok (.invokevirtual 290, 3) := by decide +kernel
theorem d_Ke_unlock_38 : decode b_Ke_unlock 38 = .ok (.iconst 0, 1) := by decide +kernel
theorem d_Ke_unlock_39 : decode b_Ke_unlock 39 = .ok (.ireturn, 1) := by decide +kernel
theorem d_Ke_passOn_0 : decode b_Ke_passOn 0 = .ok (.aload_n 1, 1) := by decide +kernel
theorem d_Ke_passOn_1 : decode b_Ke_passOn 1 = .ok (.aload_n 1, 1) := by decide +kernel
theorem d_Ke_passOn_2 : decode b_Ke_passOn 2 = .ok (.getfield 135, 3) := by decide +kernel
theorem d_Ke_passOn_5 : decode b_Ke_passOn 5 = .ok (.invokevirtual 211, 3) := by decide +kernel
theorem d_Ke_passOn_8 : decode b_Ke_passOn 8 = .ok (.putfield 132, 3) := by decide +kernel
theorem d_Ke_passOn_11 : decode b_Ke_passOn 11 = .ok (.aload_n 1, 1) := by decide +kernel
theorem d_Ke_passOn_12 : decode b_Ke_passOn 12 = .ok (.getfield 132, 3) := by decide +kernel
theorem d_Ke_passOn_15 : decode b_Ke_passOn 15 = .ok (.iconst (-1), 1) := by decide +kernel
theorem d_Ke_passOn_16 : decode b_Ke_passOn 16 = .ok (.if_icmp .eq 16, 3) := by decide +kernel
theorem d_Ke_passOn_19 : decode b_Ke_passOn 19 = .ok (.aload_n 0, 1) := by decide +kernel
theorem d_Ke_passOn_20 : decode b_Ke_passOn 20 = .ok (.aload_n 0, 1) := by decide +kernel
theorem d_Ke_passOn_21 : decode b_Ke_passOn 21 = .ok (.getfield 25, 3) := by decide +kernel
theorem d_Ke_passOn_24 : decode b_Ke_passOn 24 = .ok (.aload_n 1, 1) := by decide +kernel
theorem d_Ke_passOn_25 : decode b_Ke_passOn 25 = .ok (.getfield 132, 3) := by decide +kernel
theorem d_Ke_passOn_28 : decode b_Ke_passOn 28 = .ok (.aaload, 1) := by decide +kernel
theorem d_Ke_passOn_29 : decode b_Ke_passOn 29 = .ok (.invokevirtual 57, 3) := by decide +kernel
theorem d_Ke_passOn_32 : decode b_Ke_passOn 32 = .ok (.return_, 1) := by decide +kernel
theorem d_Ke_end_0 : decode b_Ke_end 0 = .ok (.aload_n 1, 1) := by decide +kernel
theorem d_Ke_end_1 : decode b_Ke_end 1 = .ok (.iconst 3, 1) := by decide +kernel
theorem d_Ke_end_2 : decode b_Ke_end 2 = .ok (.putfield 98, 3) := by decide +kernel
theorem d_Ke_end_5 : decode b_Ke_end 5 = .ok (.aload_n 1, 1) := by decide +kernel
theorem d_Ke_end_6 : decode b_Ke_end 6 = .ok (.iload_n 2, 1) := by decide +kernel
theorem d_Ke_end_7 : decode b_Ke_end 7 = .ok (.putfield 119, 3) := by decide +kernel
theorem d_Ke_end_10 : decode b_Ke_end 10 = .ok (.iconst 0, 1) := by decide +kernel
theorem d_Ke_end_11 : decode b_Ke_end 11 = .ok (.istore_n 3, 1) := by decide +kernel
theorem d_Ke_end_12 : decode b_Ke_end 12 = .ok (.iload_n 3, 1) := by decide +kernel
theorem d_Ke_end_13 : decode b_Ke_end 13 = .ok (.iconst 4, 1) := by decide +kernel
theorem d_Ke_end_14 : decode b_Ke_end 14 = .ok (.if_icmp .ge 16, 3) := by decide +kernel
theorem d_Ke_end_17 : decode b_Ke_end 17 = .ok (.aload_n 0, 1) := by decide +kernel
theorem d_Ke_end_18 : decode b_Ke_end 18 = .ok (.aload_n 1, 1) := by decide +kernel
theorem d_Ke_end_19 : decode b_Ke_end 19 = .ok (.iload_n 3, 1) := by decide +kernel
theorem d_Ke_end_20 : decode b_Ke_end 20 = .ok (.invokevirtual 266, 3) := by decide +kernel
theorem d_Ke_end_23 : decode b_Ke_end 23 = .ok (.pop, 1) := by decide +kernel
theorem d_Ke_end_24 : decode b_Ke_end 24 = .ok (.iinc 3 1, 3) := by decide +kernel
theorem d_Ke_end_27 : decode b_Ke_end 27 = .ok (.goto (-15), 3) := by decide +kernel
theorem d_Ke_end_30 : decode b_Ke_end 30 = .ok (.iconst 0, 1) := by decide +kernel
theorem d_Ke_end_31 : decode b_Ke_end 31 = .ok (.istore_n 3, 1) := by decide +kernel
theorem d_Ke_end_32 : decode b_Ke_end 32 = .ok (.iload_n 3, 1) := by decide +kernel
theorem d_Ke_end_33 : decode b_Ke_end 33 = .ok (.iconst 4, 1) := by decide +kernel
theorem d_Ke_end_34 : decode b_Ke_end 34 = .ok (.if_icmp .ge 35, 3) := by decide +kernel
theorem d_Ke_end_37 : decode b_Ke_end 37 = .ok (.aload_n 0, 1) := by decide +kernel
theorem d_Ke_end_38 : decode b_Ke_end 38 = .ok (.getfield 37, 3) := by decide +kernel
theorem d_Ke_end_41 : decode b_Ke_end 41 = .ok (.iload_n 3, 1) := by decide +kernel
theorem d_Ke_end_42 : decode b_Ke_end 42 = .ok (.aaload, 1) := by decide +kernel
theorem d_Ke_end_43 : decode b_Ke_end 43 = .ok (.getfield 132, 3) := by decide +kernel
theorem d_Ke_end_46 : decode b_Ke_end 46 = .ok (.aload_n 1, 1) := by decide +kernel
theorem d_Ke_end_47 : decode b_Ke_end 47 = .ok (.getfield 273, 3) := by decide +kernel
theorem d_Ke_end_50 : decode b_Ke_end 50 = .ok (.if_icmp .ne 13, 3) := by decide +kernel
theorem d_Ke_end_53 : decode b_Ke_end 53 = .ok (.aload_n 0, 1) := by decide +kernel
theorem d_Ke_end_54 : decode b_Ke_end 54 = .ok (.aload_n 0, 1) := by decide +kernel
theorem d_Ke_end_55 : decode b_Ke_end 55 = .ok (.getfield 37, 3) := by decide +kernel
theorem d_Ke_end_58 : decode b_Ke_end 58 = .ok (.iload_n 3, 1) := by decide +kernel
theorem d_Ke_end_59 : decode b_Ke_end 59 = .ok (.aaload, 1) := by decide +kernel
theorem d_Ke_end_60 : decode b_Ke_end 60 = .ok (.invokevirtual 290, 3) := by decide +kernel
theorem d_Ke_end_63 : decode b_Ke_end 63 = .ok (.iinc 3 1, 3) := by decide +kernel
theorem d_Ke_end_66 : decode b_Ke_end 66 = .ok (.goto (-34), 3) := by decide +kernel
theorem d_Ke_end_69 : decode b_Ke_end 69 = .ok (.aload_n 0, 1) := by decide +kernel
theorem d_Ke_end_70 : decode b_Ke_end 70 = .ok (.aload_n 1, 1) := by decide +kernel
theorem d_Ke_end_71 : decode b_Ke_end 71 = .ok (.invokevirtual 294, 3) := by decide +kernel
theorem d_Ke_end_74 : decode b_Ke_end 74 = .ok (.return_, 1) := by decide +kernel
theorem d_Ke_handOverChildren_0 : decode b_Ke_handOverChildren 0 = .ok (.iconst 0, 1) := by decide +kernel
theorem d_Ke_handOverChildren_1 : decode b_Ke_handOverChildren 1 = .ok (.istore_n 2, 1) := by decide +kernel
theorem d_Ke_handOverChildren_2 : decode b_Ke_handOverChildren 2 = .ok (.iload_n 2, 1) := by decide +kernel
theorem d_Ke_handOverChildren_3 : decode b_Ke_handOverChildren 3 = .ok (.bipush 6, 2) := by decide +kernel
theorem d_Ke_handOverChildren_5 : decode b_Ke_handOverChildren 5 = .ok (.if_icmp .ge 51, 3) := by decide +kernel
theorem d_Ke_handOverChildren_8 : decode b_Ke_handOverChildren 8 = .ok (.aload_n 0, 1) := by decide +kernel
theorem d_Ke_handOverChildren_9 : decode b_Ke_handOverChildren 9 = .ok (.getfield 25, 3) := by decide +kernel
theorem d_Ke_handOverChildren_12 : decode b_Ke_handOverChildren 12 = .ok (.iload_n 2, 1) := by decide +kernel
theorem d_Ke_handOverChildren_13 : decode b_Ke_handOverChildren 13 = .ok (.aaload, 1) := by decide +kernel
theorem d_Ke_handOverChildren_14 : decode b_Ke_handOverChildren 14 = .ok (.getfield 98, 3) := by decide +kernel
theorem d_Ke_handOverChildren_17 : decode b_Ke_handOverChildren 17 = .ok (.iconst (-1), 1) := by decide +kernel
theorem d_Ke_handOverChildren_18 : decode b_Ke_handOverChildren 18 = .ok (.if_icmp .eq 32, 3) := by decide +kernel
theorem d_Ke_handOverChildren_21 : decode b_Ke_handOverChildren 21 = .ok (.aload_n 0, 1) := by decide +kernel
theorem d_Ke_handOverChildren_22 : decode b_Ke_handOverChildren 22 = .ok (.getfield 25, 3) := by decide +kernel
theorem d_Ke_handOverChildren_25 : decode b_Ke_handOverChildren 25 = .ok (.iload_n 2, 1) := by decide +kernel
theorem d_Ke_handOverChildren_26 : decode b_Ke_handOverChildren 26 = .ok (.aaload, 1) := by decide +kernel
theorem d_Ke_handOverChildren_27 : decode b_Ke_handOverChildren 27 = .ok (.getfield 116, 3) := by decide +kernel
theorem d_Ke_handOverChildren_30 : decode b_Ke_handOverChildren 30 = .ok (.aload_n 1, 1) := by decide +kernel
theorem d_Ke_handOverChildren_31 : decode b_Ke_handOverChildren 31 = .ok (.getfield 273, 3) := by decide +kernel
theorem d_Ke_handOverChildren_34 : decode b_Ke_handOverChildren 34 = .ok (.if_icmp .ne 16, 3) := by decide +kernel
theorem d_Ke_handOverChildren_37 : decode b_Ke_handOverChildren 37 = .ok (.aload_n 0, 1) := by decide +kernel
theorem d_Ke_handOverChildren_38 : decode b_Ke_handOverChildren 38 = .ok (.getfield 25, 3) := by decide +kernel
theorem d_Ke_handOverChildren_41 : decode b_Ke_handOverChildren 41 = .ok (.iload_n 2, 1) := by decide +kernel
theorem d_Ke_handOverChildren_42 : decode b_Ke_handOverChildren 42 = .ok (.aaload, 1) := by decide +kernel
theorem d_Ke_handOverChildren_43 : decode b_Ke_handOverChildren 43 = .ok (.aload_n 1, 1) := by decide +kernel
theorem d_Ke_handOverChildren_44 : decode b_Ke_handOverChildren 44 = .ok (.getfield 116, 3) := by decide +kernel
theorem d_Ke_handOverChildren_47 : decode b_Ke_handOverChildren 47 = .ok (.putfield 116, 3) := by decide +kernel
theorem d_Ke_handOverChildren_50 : decode b_Ke_handOverChildren 50 = .ok (.iinc 2 1, 3) := by decide +kernel
theorem d_Ke_handOverChildren_53 : decode b_Ke_handOverChildren 53 = .ok (.goto (-51), 3) := by decide +kernel
theorem d_Ke_handOverChildren_56 : decode b_Ke_handOverChildren 56 = .ok (.aload_n 1, 1) := by decide +kernel
theorem d_Ke_handOverChildren_57 : decode b_Ke_handOverChildren 57 = .ok (.dup, 1) := by decide +kernel
theorem d_Ke_handOverChildren_58 : decode b_Ke_handOverChildren 58 = .ok (.getfield 107, 3) := by decide +kernel
theorem d_Ke_handOverChildren_61 : decode b_Ke_handOverChildren 61 = .ok (.aload_n 1, 1) := by decide +kernel
theorem d_Ke_handOverChildren_62 : decode b_Ke_handOverChildren 62 = .ok (.getfield 113, 3) := by decide +kernel
theorem d_Ke_handOverChildren_65 : decode b_Ke_handOverChildren 65 = .ok (.isub, 1) := by decide +kernel
theorem d_Ke_handOverChildren_66 : decode b_Ke_handOverChildren 66 = .ok (.putfield 107, 3) := by decide +kernel
theorem d_Ke_handOverChildren_69 : decode b_Ke_handOverChildren 69 = .ok (.aload_n 1, 1) := by decide +kernel
theorem d_Ke_handOverChildren_70 : decode b_Ke_handOverChildren 70 = .ok (.iconst 0, 1) := by decide +kernel
theorem d_Ke_handOverChildren_71 : decode b_Ke_handOverChildren 71 = .ok (.putfield 113, 3) := by decide +kernel
theorem d_Ke_handOverChildren_74 : decode b_Ke_handOverChildren 74 = .ok (.return_, 1) := by decide +kernel
theorem d_Ke_block_0 : decode b_Ke_block 0 = .ok (.aload_n 0, 1) := by decide +kernel
theorem d_Ke_block_1 : decode b_Ke_block 1 = .ok (.iconst 2, 1) := by decide +kernel
theorem d_Ke_block_2 : decode b_Ke_block 2 = .ok (.putfield 98, 3) := by decide +kernel
theorem d_Ke_block_5 : decode b_Ke_block 5 = .ok (.aload_n 0, 1) := by decide +kernel
theorem d_Ke_block_6 : decode b_Ke_block 6 = .ok (.iload_n 1, 1) := by decide +kernel
theorem d_Ke_block_7 : decode b_Ke_block 7 = .ok (.putfield 286, 3) := by decide +kernel
theorem d_Ke_block_10 : decode b_Ke_block 10 = .ok (.aload_n 2, 1) := by decide +kernel
theorem d_Ke_block_11 : decode b_Ke_block 11 = .ok (.aload_n 0, 1) := by decide +kernel
theorem d_Ke_block_12 : decode b_Ke_block 12 = .ok (.getfield 273, 3) := by decide +kernel
theorem d_Ke_block_15 : decode b_Ke_block 15 = .ok (.invokevirtual 297, 3) := by decide +kernel
theorem d_Ke_block_18 : decode b_Ke_block 18 = .ok (.return_, 1) := by decide +kernel
theorem d_Ke_makeReady_0 : decode b_Ke_makeReady 0 = .ok (.aload_n 1, 1) := by decide +kernel
theorem d_Ke_makeReady_1 : decode b_Ke_makeReady 1 = .ok (.iconst 0, 1) := by decide +kernel
theorem d_Ke_makeReady_2 : decode b_Ke_makeReady 2 = .ok (.putfield 98, 3) := by decide +kernel
theorem d_Ke_makeReady_5 : decode b_Ke_makeReady 5 = .ok (.aload_n 0, 1) := by decide +kernel
theorem d_Ke_makeReady_6 : decode b_Ke_makeReady 6 = .ok (.getfield 31, 3) := by decide +kernel
theorem d_Ke_makeReady_9 : decode b_Ke_makeReady 9 = .ok (.aload_n 1, 1) := by decide +kernel
theorem d_Ke_makeReady_10 : decode b_Ke_makeReady 10 = .ok (.getfield 273, 3) := by decide +kernel
theorem d_Ke_makeReady_13 : decode b_Ke_makeReady 13 = .ok (.iconst 2, 1) := by decide +kernel
theorem d_Ke_makeReady_14 : decode b_Ke_makeReady 14 = .ok (.irem, 1) := by decide +kernel
theorem d_Ke_makeReady_15 : decode b_Ke_makeReady 15 = .ok (.aaload, 1) := by decide +kernel
theorem d_Ke_makeReady_16 : decode b_Ke_makeReady 16 = .ok (.getfield 176, 3) := by decide +kernel
theorem d_Ke_makeReady_19 : decode b_Ke_makeReady 19 = .ok (.aload_n 1, 1) := by decide +kernel
theorem d_Ke_makeReady_20 : decode b_Ke_makeReady 20 = .ok (.getfield 273, 3) := by decide +kernel
theorem d_Ke_makeReady_23 : decode b_Ke_makeReady 23 = .ok (.invokevirtual 297, 3) := by decide +kernel
theorem d_Ke_makeReady_26 : decode b_Ke_makeReady 26 = .ok (.return_, 1) := by decide +kernel
theorem d_Ch_init_0 : decode b_Ch_init 0 = .ok (.aload_n 0, 1) := by decide +kernel
theorem d_Ch_init_1 : decode b_Ch_init 1 = .ok (.invokespecial 3, 3) := by decide +kernel
theorem d_Ch_init_4 : decode b_Ch_init 4 = .ok (.aload_n 0, 1) := by decide +kernel
theorem d_Ch_init_5 : decode b_Ch_init 5 = .ok (.new 9, 3) := by decide +kernel
theorem d_Ch_init_8 : decode b_Ch_init 8 = .ok (.dup, 1) := by decide +kernel
theorem d_Ch_init_9 : decode b_Ch_init 9 = .ok (.invokespecial 11, 3) := by decide +kernel
theorem d_Ch_init_12 : decode b_Ch_init 12 = .ok (.putfield 12, 3) := by decide +kernel
theorem d_Ch_init_15 : decode b_Ch_init 15 = .ok (.aload_n 0, 1) := by decide +kernel
theorem d_Ch_init_16 : decode b_Ch_init 16 = .ok (.new 9, 3) := by decide +kernel
theorem d_Ch_init_19 : decode b_Ch_init 19 = .ok (.dup, 1) := by decide +kernel
theorem d_Ch_init_20 : decode b_Ch_init 20 = .ok (.invokespecial 11, 3) := by decide +kernel
theorem d_Ch_init_23 : decode b_Ch_init 23 = .ok (.putfield 18, 3) := by decide +kernel
theorem d_Ch_init_26 : decode b_Ch_init 26 = .ok (.aload_n 0, 1) := by decide +kernel
theorem d_Ch_init_27 : decode b_Ch_init 27 = .ok (.iconst 2, 1) := by decide +kernel
theorem d_Ch_init_28 : decode b_Ch_init 28 = .ok (.newarray .int, 2) := by decide +kernel
theorem d_Ch_init_30 : decode b_Ch_init 30 = .ok (.putfield 21, 3) := by decide +kernel
theorem d_Ch_init_33 : decode b_Ch_init 33 = .ok (.return_, 1) := by decide +kernel
theorem d_Ch_isFull_0 : decode b_Ch_isFull 0 = .ok (.aload_n 0, 1) := by decide +kernel
theorem d_Ch_isFull_1 : decode b_Ch_isFull 1 = .ok (.getfield 25, 3) := by decide +kernel
theorem d_Ch_isFull_4 : decode b_Ch_isFull 4 = .ok (.iconst 2, 1) := by decide +kernel
theorem d_Ch_isFull_5 : decode b_Ch_isFull 5 = .ok (.if_icmp .lt 7, 3) := by decide +kernel
theorem d_Ch_isFull_8 : decode b_Ch_isFull 8 = .ok (.iconst 1, 1) := by decide +kernel
theorem d_Ch_isFull_9 : decode b_Ch_isFull 9 = .ok (.goto 4, 3) := by decide +kernel
theorem d_Ch_isFull_12 : decode b_Ch_isFull 12 = .ok (.iconst 0, 1) := by decide +kernel
theorem d_Ch_isFull_13 : decode b_Ch_isFull 13 = .ok (.ireturn, 1) := by decide +kernel
theorem d_Ch_put_0 : decode b_Ch_put 0 = .ok (.aload_n 0, 1) := by decide +kernel
theorem d_Ch_put_1 : decode b_Ch_put 1 = .ok (.invokevirtual 29, 3) := by decide +kernel
theorem d_Ch_put_4 : decode b_Ch_put 4 = .ok (.ifCond .ne 23, 3) := by decide +kernel
theorem d_Ch_put_7 : decode b_Ch_put 7 = .ok (.aload_n 0, 1) := by decide +kernel
theorem d_Ch_put_8 : decode b_Ch_put 8 = .ok (.getfield 21, 3) := by decide +kernel
theorem d_Ch_put_11 : decode b_Ch_put 11 = .ok (.aload_n 0, 1) := by decide +kernel
theorem d_Ch_put_12 : decode b_Ch_put 12 = .ok (.getfield 25, 3) := by decide +kernel
theorem d_Ch_put_15 : decode b_Ch_put 15 = .ok (.iload_n 1, 1) := by decide +kernel
theorem d_Ch_put_16 : decode b_Ch_put 16 = .ok (.iastore, 1) := by decide +kernel
theorem d_Ch_put_17 : decode b_Ch_put 17 = .ok (.aload_n 0, 1) := by decide +kernel
theorem d_Ch_put_18 : decode b_Ch_put 18 = .ok (.dup, 1) := by decide +kernel
theorem d_Ch_put_19 : decode b_Ch_put 19 = .ok (.getfield 25, 3) := by decide +kernel
theorem d_Ch_put_22 : decode b_Ch_put 22 = .ok (.iconst 1, 1) := by decide +kernel
theorem d_Ch_put_23 : decode b_Ch_put 23 = .ok (.iadd, 1) := by decide +kernel
theorem d_Ch_put_24 : decode b_Ch_put 24 = .ok (.putfield 25, 3) := by decide +kernel
theorem d_Ch_put_27 : decode b_Ch_put 27 = .ok (.return_, 1) := by decide +kernel
theorem d_Ch_takeFirst_0 : decode b_Ch_takeFirst 0 = .ok (.aload_n 0, 1) := by decide +kernel
theorem d_Ch_takeFirst_1 : decode b_Ch_takeFirst 1 = .ok (.getfield 21, 3) := by decide +kernel
theorem d_Ch_takeFirst_4 : decode b_Ch_takeFirst 4 = .ok (.iconst 0, 1) := by decide +kernel
theorem d_Ch_takeFirst_5 : decode b_Ch_takeFirst 5 = .ok (.iaload, 1) := by decide +kernel
theorem d_Ch_takeFirst_6 : decode b_Ch_takeFirst 6 = .ok (.istore_n 1, 1) := by decide +kernel
theorem d_Ch_takeFirst_7 : decode b_Ch_takeFirst 7 = .ok (.aload_n 0, 1) := by decide +kernel
theorem d_Ch_takeFirst_8 : decode b_Ch_takeFirst 8 = .ok (.getfield 25, 3) := by decide +kernel
theorem d_Ch_takeFirst_11 : decode b_Ch_takeFirst 11 = .ok (.ifCond .le 30, 3) := by decide +kernel
theorem d_Ch_takeFirst_14 : decode b_Ch_takeFirst 14 = .ok (.aload_n 0, 1) := by decide +kernel
theorem d_Ch_takeFirst_15 : decode b_Ch_takeFirst 15 = .ok (.dup, 1) := by decide +kernel
theorem d_Ch_takeFirst_16 : decode b_Ch_takeFirst 16 = .ok (.getfield 25, 3) := by decide +kernel
theorem d_Ch_takeFirst_19 : decode b_Ch_takeFirst 19 = .ok (.iconst 1, 1) := by decide +kernel
theorem d_Ch_takeFirst_20 : decode b_Ch_takeFirst 20 = .ok (.isub, 1) := by decide +kernel
theorem d_Ch_takeFirst_21 : decode b_Ch_takeFirst 21 = .ok (.putfield 25, 3) := by decide +kernel
theorem d_Ch_takeFirst_24 : decode b_Ch_takeFirst 24 = .ok (.aload_n 0, 1) := by decide +kernel
theorem d_Ch_takeFirst_25 : decode b_Ch_takeFirst 25 = .ok (.getfield 21, 3) := by decide +kernel
theorem d_Ch_takeFirst_28 : decode b_Ch_takeFirst 28 = .ok (.iconst 1, 1) := by decide +kernel
theorem d_Ch_takeFirst_29 : decode b_Ch_takeFirst 29 = .ok (.aload_n 0, 1) := by decide +kernel
theorem d_Ch_takeFirst_30 : decode b_Ch_takeFirst 30 = .ok (.getfield 21, 3) := by decide +kernel
theorem d_Ch_takeFirst_33 : decode b_Ch_takeFirst 33 = .ok (.iconst 0, 1) := by decide +kernel
theorem d_Ch_takeFirst_34 : decode b_Ch_takeFirst 34 = .ok (.aload_n 0, 1) := by decide +kernel
theorem d_Ch_takeFirst_35 : decode b_Ch_takeFirst 35 = .ok (.getfield 25, 3) := by decide +kernel
theorem d_Ch_takeFirst_38 : decode b_Ch_takeFirst 38 = .ok (.invokestatic 33, 3) := by decide +kernel
theorem d_Ch_takeFirst_41 : decode b_Ch_takeFirst 41 = .ok (.iload_n 1, 1) := by decide +kernel
theorem d_Ch_takeFirst_42 : decode b_Ch_takeFirst 42 = .ok (.ireturn, 1) := by decide +kernel
theorem d_Fr_init_0 : decode b_Fr_init 0 = .ok (.aload_n 0, 1) := by decide +kernel
theorem d_Fr_init_1 : decode b_Fr_init 1 = .ok (.invokespecial 3, 3) := by decide +kernel
theorem d_Fr_init_4 : decode b_Fr_init 4 = .ok (.aload_n 0, 1) := by decide +kernel
theorem d_Fr_init_5 : decode b_Fr_init 5 = .ok (.bipush 96, 2) := by decide +kernel
theorem d_Fr_init_7 : decode b_Fr_init 7 = .ok (.newarray .int, 2) := by decide +kernel
theorem d_Fr_init_9 : decode b_Fr_init 9 = .ok (.putfield 9, 3) := by decide +kernel
theorem d_Fr_init_12 : decode b_Fr_init 12 = .ok (.aload_n 0, 1) := by decide +kernel
theorem d_Fr_init_13 : decode b_Fr_init 13 = .ok (.bipush 12, 2) := by decide +kernel
theorem d_Fr_init_15 : decode b_Fr_init 15 = .ok (.newarray .boolean, 2) := by decide +kernel
theorem d_Fr_init_17 : decode b_Fr_init 17 = .ok (.putfield 15, 3) := by decide +kernel
theorem d_Fr_init_20 : decode b_Fr_init 20 = .ok (.aload_n 0, 1) := by decide +kernel
theorem d_Fr_init_21 : decode b_Fr_init 21 = .ok (.bipush 12, 2) := by decide +kernel
theorem d_Fr_init_23 : decode b_Fr_init 23 = .ok (.putfield 19, 3) := by decide +kernel
theorem d_Fr_init_26 : decode b_Fr_init 26 = .ok (.return_, 1) := by decide +kernel
theorem d_Fr_read_0 : decode b_Fr_read 0 = .ok (.aload_n 0, 1) := by decide +kernel
theorem d_Fr_read_1 : decode b_Fr_read 1 = .ok (.getfield 9, 3) := by decide +kernel
theorem d_Fr_read_4 : decode b_Fr_read 4 = .ok (.iload_n 1, 1) := by decide +kernel
theorem d_Fr_read_5 : decode b_Fr_read 5 = .ok (.bipush 8, 2) := by decide +kernel
theorem d_Fr_read_7 : decode b_Fr_read 7 = .ok (.imul, 1) := by decide +kernel
theorem d_Fr_read_8 : decode b_Fr_read 8 = .ok (.iload_n 2, 1) := by decide +kernel
theorem d_Fr_read_9 : decode b_Fr_read 9 = .ok (.iadd, 1) := by decide +kernel
theorem d_Fr_read_10 : decode b_Fr_read 10 = .ok (.iaload, 1) := by decide +kernel
theorem d_Fr_read_11 : decode b_Fr_read 11 = .ok (.ireturn, 1) := by decide +kernel
theorem d_Fr_write_0 : decode b_Fr_write 0 = .ok (.aload_n 0, 1) := by decide +kernel
theorem d_Fr_write_1 : decode b_Fr_write 1 = .ok (.getfield 9, 3) := by decide +kernel
theorem d_Fr_write_4 : decode b_Fr_write 4 = .ok (.iload_n 1, 1) := by decide +kernel
theorem d_Fr_write_5 : decode b_Fr_write 5 = .ok (.bipush 8, 2) := by decide +kernel
theorem d_Fr_write_7 : decode b_Fr_write 7 = .ok (.imul, 1) := by decide +kernel
theorem d_Fr_write_8 : decode b_Fr_write 8 = .ok (.iload_n 2, 1) := by decide +kernel
theorem d_Fr_write_9 : decode b_Fr_write 9 = .ok (.iadd, 1) := by decide +kernel
theorem d_Fr_write_10 : decode b_Fr_write 10 = .ok (.iload_n 3, 1) := by decide +kernel
theorem d_Fr_write_11 : decode b_Fr_write 11 = .ok (.iastore, 1) := by decide +kernel
theorem d_Fr_write_12 : decode b_Fr_write 12 = .ok (.return_, 1) := by decide +kernel
theorem d_Fr_takeLeast_0 : decode b_Fr_takeLeast 0 = .ok (.iconst 0, 1) := by decide +kernel
theorem d_Fr_takeLeast_1 : decode b_Fr_takeLeast 1 = .ok (.istore_n 1, 1) := by decide +kernel
theorem d_Fr_takeLeast_2 : decode b_Fr_takeLeast 2 = .ok (.iload_n 1, 1) := by decide +kernel
theorem d_Fr_takeLeast_3 : decode b_Fr_takeLeast 3 = .ok (.bipush 12, 2) := by decide +kernel
theorem d_Fr_takeLeast_5 : decode b_Fr_takeLeast 5 = .ok (.if_icmp .ge 42, 3) := by decide +kernel
theorem d_Fr_takeLeast_8 : decode b_Fr_takeLeast 8 = .ok (.aload_n 0, 1) := by decide +kernel
theorem d_Fr_takeLeast_9 : decode b_Fr_takeLeast 9 = .ok (.getfield 15, 3) := by decide +kernel
theorem d_Fr_takeLeast_12 : decode b_Fr_takeLeast 12 = .ok (.iload_n 1, 1) := by decide +kernel
theorem d_Fr_takeLeast_13 : decode b_Fr_takeLeast 13 = .ok (.baload, 1) := by decide +kernel
theorem d_Fr_takeLeast_14 : decode b_Fr_takeLeast 14 = .ok (.ifCond .ne 27, 3) := by decide +kernel
theorem d_Fr_takeLeast_17 : decode b_Fr_takeLeast 17 = .ok (.aload_n 0, 1) := by decide +kernel
theorem d_Fr_takeLeast_18 : decode b_Fr_takeLeast 18 = .ok (.getfield 15, 3) := by decide +kernel
theorem d_Fr_takeLeast_21 : decode b_Fr_takeLeast 21 = .ok (.iload_n 1, 1) := by decide +kernel
theorem d_Fr_takeLeast_22 : decode b_Fr_takeLeast 22 = .ok (.iconst 1, 1) := by decide +kernel
theorem d_Fr_takeLeast_23 : decode b_Fr_takeLeast 23 = .ok (.bastore, 1) := by decide +kernel
theorem d_Fr_takeLeast_24 : decode b_Fr_takeLeast 24 = .ok (.aload_n 0, 1) := by decide +kernel
theorem d_Fr_takeLeast_25 : decode b_Fr_takeLeast 25 = .ok (.dup, 1) := by decide +kernel
theorem d_Fr_takeLeast_26 : decode b_Fr_takeLeast 26 = .ok (.getfield 19, 3) := by decide +kernel
theorem d_Fr_takeLeast_29 : decode b_Fr_takeLeast 29 = .ok (.iconst 1, 1) := by decide +kernel
theorem d_Fr_takeLeast_30 : decode b_Fr_takeLeast 30 = .ok (.isub, 1) := by decide +kernel
theorem d_Fr_takeLeast_31 : decode b_Fr_takeLeast 31 = .ok (.putfield 19, 3) := by decide +kernel
theorem d_Fr_takeLeast_34 : decode b_Fr_takeLeast 34 = .ok (.aload_n 0, 1) := by decide +kernel
theorem d_Fr_takeLeast_35 : decode b_Fr_takeLeast 35 = .ok (.iload_n 1, 1) := by decide +kernel
theorem d_Fr_takeLeast_36 : decode b_Fr_takeLeast 36 = .ok (.invokevirtual 23, 3) := by decide +kernel
theorem d_Fr_takeLeast_39 : decode b_Fr_takeLeast 39 = .ok (.iload_n 1, 1) := by decide +kernel
theorem d_Fr_takeLeast_40 : decode b_Fr_takeLeast 40 = .ok (.ireturn, 1) := by decide +kernel
theorem d_Fr_takeLeast_41 : decode b_Fr_takeLeast 41 = .ok (.iinc 1 1, 3) := by decide +kernel
theorem d_Fr_takeLeast_44 : decode b_Fr_takeLeast 44 = .ok (.goto (-42), 3) := by decide +kernel
theorem d_Fr_takeLeast_47 : decode b_Fr_takeLeast 47 = .ok (.iconst (-1), 1) := by decide +kernel
theorem d_Fr_takeLeast_48 : decode b_Fr_takeLeast 48 = .ok (.ireturn, 1) := by decide +kernel
theorem d_Fr_clear_0 : decode b_Fr_clear 0 = .ok (.iconst 0, 1) := by decide +kernel
theorem d_Fr_clear_1 : decode b_Fr_clear 1 = .ok (.istore_n 2, 1) := by decide +kernel
theorem d_Fr_clear_2 : decode b_Fr_clear 2 = .ok (.iload_n 2, 1) := by decide +kernel
theorem d_Fr_clear_3 : decode b_Fr_clear 3 = .ok (.bipush 8, 2) := by decide +kernel
theorem d_Fr_clear_5 : decode b_Fr_clear 5 = .ok (.if_icmp .ge 16, 3) := by decide +kernel
theorem d_Fr_clear_8 : decode b_Fr_clear 8 = .ok (.aload_n 0, 1) := by decide +kernel
theorem d_Fr_clear_9 : decode b_Fr_clear 9 = .ok (.iload_n 1, 1) := by decide +kernel
theorem d_Fr_clear_10 : decode b_Fr_clear 10 = .ok (.iload_n 2, 1) := by decide +kernel
theorem d_Fr_clear_11 : decode b_Fr_clear 11 = .ok (.iconst 0, 1) := by decide +kernel
theorem d_Fr_clear_12 : decode b_Fr_clear 12 = .ok (.invokevirtual 27, 3) := by decide +kernel
theorem d_Fr_clear_15 : decode b_Fr_clear 15 = .ok (.iinc 2 1, 3) := by decide +kernel
theorem d_Fr_clear_18 : decode b_Fr_clear 18 = .ok (.goto (-16), 3) := by decide +kernel
theorem d_Fr_clear_21 : decode b_Fr_clear 21 = .ok (.return_, 1) := by decide +kernel
theorem d_Fr_giveBack_0 : decode b_Fr_giveBack 0 = .ok (.aload_n 0, 1) := by decide +kernel
theorem d_Fr_giveBack_1 : decode b_Fr_giveBack 1 = .ok (.getfield 15, 3) := by decide +kernel
theorem d_Fr_giveBack_4 : decode b_Fr_giveBack 4 = .ok (.iload_n 1, 1) := by decide +kernel
theorem d_Fr_giveBack_5 : decode b_Fr_giveBack 5 = .ok (.iconst 0, 1) := by decide +kernel
theorem d_Fr_giveBack_6 : decode b_Fr_giveBack 6 = .ok (.bastore, 1) := by decide +kernel
theorem d_Fr_giveBack_7 : decode b_Fr_giveBack 7 = .ok (.aload_n 0, 1) := by decide +kernel
theorem d_Fr_giveBack_8 : decode b_Fr_giveBack 8 = .ok (.dup, 1) := by decide +kernel
theorem d_Fr_giveBack_9 : decode b_Fr_giveBack 9 = .ok (.getfield 19, 3) := by decide +kernel
theorem d_Fr_giveBack_12 : decode b_Fr_giveBack 12 = .ok (.iconst 1, 1) := by decide +kernel
theorem d_Fr_giveBack_13 : decode b_Fr_giveBack 13 = .ok (.iadd, 1) := by decide +kernel
theorem d_Fr_giveBack_14 : decode b_Fr_giveBack 14 = .ok (.putfield 19, 3) := by decide +kernel
theorem d_Fr_giveBack_17 : decode b_Fr_giveBack 17 = .ok (.return_, 1) := by decide +kernel
theorem d_Gu_begin_0 : decode b_Gu_begin 0 = .ok (.aload_n 0, 1) := by decide +kernel
theorem d_Gu_begin_1 : decode b_Gu_begin 1 = .ok (.getfield 9, 3) := by decide +kernel
theorem d_Gu_begin_4 : decode b_Gu_begin 4 = .ok (.iconst 0, 1) := by decide +kernel
theorem d_Gu_begin_5 : decode b_Gu_begin 5 = .ok (.invokestatic 25, 3) := by decide +kernel
theorem d_Gu_begin_8 : decode b_Gu_begin 8 = .ok (.aload_n 0, 1) := by decide +kernel
theorem d_Gu_begin_9 : decode b_Gu_begin 9 = .ok (.getfield 15, 3) := by decide +kernel
theorem d_Gu_begin_12 : decode b_Gu_begin 12 = .ok (.iconst (-1), 1) := by decide +kernel
theorem d_Gu_begin_13 : decode b_Gu_begin 13 = .ok (.invokestatic 25, 3) := by decide +kernel
theorem d_Gu_begin_16 : decode b_Gu_begin 16 = .ok (.aload_n 0, 1) := by decide +kernel
theorem d_Gu_begin_17 : decode b_Gu_begin 17 = .ok (.iload_n 1, 1) := by decide +kernel
theorem d_Gu_begin_18 : decode b_Gu_begin 18 = .ok (.invokevirtual 31, 3) := by decide +kernel
theorem d_Gu_begin_21 : decode b_Gu_begin 21 = .ok (.aload_n 0, 1) := by decide +kernel
theorem d_Gu_begin_22 : decode b_Gu_begin 22 = .ok (.iconst (-1), 1) := by decide +kernel
theorem d_Gu_begin_23 : decode b_Gu_begin 23 = .ok (.putfield 35, 3) := by decide +kernel
theorem d_Gu_begin_26 : decode b_Gu_begin 26 = .ok (.aload_n 0, 1) := by decide +kernel
theorem d_Gu_begin_27 : decode b_Gu_begin 27 = .ok (.iload_n 2, 1) := by decide +kernel
theorem d_Gu_begin_28 : decode b_Gu_begin 28 = .ok (.putfield 38, 3) := by decide +kernel
theorem d_Gu_begin_31 : decode b_Gu_begin 31 = .ok (.aload_n 0, 1) := by decide +kernel
theorem d_Gu_begin_32 : decode b_Gu_begin 32 = .ok (.iconst 0, 1) := by decide +kernel
theorem d_Gu_begin_33 : decode b_Gu_begin 33 = .ok (.putfield 41, 3) := by decide +kernel
theorem d_Gu_begin_36 : decode b_Gu_begin 36 = .ok (.aload_n 0, 1) := by decide +kernel
theorem d_Gu_begin_37 : decode b_Gu_begin 37 = .ok (.iconst 0, 1) := by decide +kernel
theorem d_Gu_begin_38 : decode b_Gu_begin 38 = .ok (.putfield 44, 3) := by decide +kernel
theorem d_Gu_begin_41 : decode b_Gu_begin 41 = .ok (.aload_n 0, 1) := by decide +kernel
theorem d_Gu_begin_42 : decode b_Gu_begin 42 = .ok (.iload_n 3, 1) := by decide +kernel
theorem d_Gu_begin_43 : decode b_Gu_begin 43 = .ok (.putfield 47, 3) := by decide +kernel
theorem d_Gu_begin_46 : decode b_Gu_begin 46 = .ok (.aload_n 0, 1) := by decide +kernel
theorem d_Gu_begin_47 : decode b_Gu_begin 47 = .ok (.iconst 0, 1) := by decide +kernel
theorem d_Gu_begin_48 : decode b_Gu_begin 48 = .ok (.putfield 50, 3) := by decide +kernel
theorem d_Gu_begin_51 : decode b_Gu_begin 51 = .ok (.aload_n 0, 1) := by decide +kernel
theorem d_Gu_begin_52 : decode b_Gu_begin 52 = .ok (.iconst 0, 1) := by decide +kernel
theorem d_Gu_begin_53 : decode b_Gu_begin 53 = .ok (.putfield 53, 3) := by decide +kernel
theorem d_Gu_begin_56 : decode b_Gu_begin 56 = .ok (.return_, 1) := by decide +kernel
theorem d_Gu_goTo_0 : decode b_Gu_goTo 0 = .ok (.aload_n 0, 1) := by decide +kernel
theorem d_Gu_goTo_1 : decode b_Gu_goTo 1 = .ok (.iload_n 1, 1) := by decide +kernel
theorem d_Gu_goTo_2 : decode b_Gu_goTo 2 = .ok (.bipush 32, 2) := by decide +kernel
theorem d_Gu_goTo_4 : decode b_Gu_goTo 4 = .ok (.invokestatic 56, 3) := by decide +kernel
theorem d_Gu_goTo_7 : decode b_Gu_goTo 7 = .ok (.putfield 62, 3) := by decide +kernel
theorem d_Gu_goTo_10 : decode b_Gu_goTo 10 = .ok (.return_, 1) := by decide +kernel
theorem d_Gu_quotaLeft_0 : decode b_Gu_quotaLeft 0 = .ok (.aload_n 0, 1) := by decide +kernel
theorem d_Gu_quotaLeft_1 : decode b_Gu_quotaLeft 1 = .ok (.getfield 38, 3) := by decide +kernel
theorem d_Gu_quotaLeft_4 : decode b_Gu_quotaLeft 4 = .ok (.aload_n 0, 1) := by decide +kernel
theorem d_Gu_quotaLeft_5 : decode b_Gu_quotaLeft 5 = .ok (.getfield 41, 3) := by decide +kernel
theorem d_Gu_quotaLeft_8 : decode b_Gu_quotaLeft 8 = .ok (.isub, 1) := by decide +kernel
theorem d_Gu_quotaLeft_9 : decode b_Gu_quotaLeft 9 = .ok (.aload_n 0, 1) := by decide +kernel
theorem d_Gu_quotaLeft_10 : decode b_Gu_quotaLeft 10 = .ok (.getfield 44, 3) := by decide +kernel
theorem d_Gu_quotaLeft_13 : decode b_Gu_quotaLeft 13 = .ok (.isub, 1) := by decide +kernel
theorem d_Gu_quotaLeft_14 : decode b_Gu_quotaLeft 14 = .ok (.ireturn, 1) := by decide +kernel
theorem d_Gu_calculate_0 : decode b_Gu_calculate 0 = .ok (.iload_n 1, 1) := by decide +kernel
theorem d_Gu_calculate_1 : decode b_Gu_calculate 1 = .ok (.tableswitch 234 1 11 #[59, 70, 88, 106, 124, 142, 234, 234, 171, 195, 213], 59) := by decide +kernel
theorem d_Gu_calculate_60 : decode b_Gu_calculate 60 = .ok (.aload_n 0, 1) := by decide +kernel
theorem d_Gu_calculate_61 : decode b_Gu_calculate 61 = .ok (.getfield 9, 3) := by decide +kernel
theorem d_Gu_calculate_64 : decode b_Gu_calculate 64 = .ok (.iload_n 2, 1) := by decide +kernel
theorem d_Gu_calculate_65 : decode b_Gu_calculate 65 = .ok (.iload 4, 2) := by decide +kernel
theorem d_Gu_calculate_67 : decode b_Gu_calculate 67 = .ok (.iastore, 1) := by decide +kernel
theorem d_Gu_calculate_68 : decode b_Gu_calculate 68 = .ok (.goto 167, 3) := by decide +kernel
theorem d_Gu_calculate_71 : decode b_Gu_calculate 71 = .ok (.aload_n 0, 1) := by decide +kernel
theorem d_Gu_calculate_72 : decode b_Gu_calculate 72 = .ok (.getfield 9, 3) := by decide +kernel
theorem d_Gu_calculate_75 : decode b_Gu_calculate 75 = .ok (.iload_n 2, 1) := by decide +kernel
theorem d_Gu_calculate_76 : decode b_Gu_calculate 76 = .ok (.aload_n 0, 1) := by decide +kernel
theorem d_Gu_calculate_77 : decode b_Gu_calculate 77 = .ok (.getfield 9, 3) := by decide +kernel
theorem d_Gu_calculate_80 : decode b_Gu_calculate 80 = .ok (.iload_n 3, 1) := by decide +kernel
theorem d_Gu_calculate_81 : decode b_Gu_calculate 81 = .ok (.iaload, 1) := by decide +kernel
theorem d_Gu_calculate_82 : decode b_Gu_calculate 82 = .ok (.iload 4, 2) := by decide +kernel
theorem d_Gu_calculate_84 : decode b_Gu_calculate 84 = .ok (.iadd, 1) := by decide +kernel
theorem d_Gu_calculate_85 : decode b_Gu_calculate 85 = .ok (.iastore, 1) := by decide +kernel
theorem d_Gu_calculate_86 : decode b_Gu_calculate 86 = .ok (.goto 149, 3) := by decide +kernel
theorem d_Gu_calculate_89 : decode b_Gu_calculate 89 = .ok (.aload_n 0, 1) := by decide +kernel
theorem d_Gu_calculate_90 : decode b_Gu_calculate 90 = .ok (.getfield 9, 3) := by decide +kernel
theorem d_Gu_calculate_93 : decode b_Gu_calculate 93 = .ok (.iload_n 2, 1) := by decide +kernel
theorem d_Gu_calculate_94 : decode b_Gu_calculate 94 = .ok (.dup2, 1) := by decide +kernel
theorem d_Gu_calculate_95 : decode b_Gu_calculate 95 = .ok (.iaload, 1) := by decide +kernel
theorem d_Gu_calculate_96 : decode b_Gu_calculate 96 = .ok (.aload_n 0, 1) := by decide +kernel
theorem d_Gu_calculate_97 : decode b_Gu_calculate 97 = .ok (.getfield 9, 3) := by decide +kernel
theorem d_Gu_calculate_100 : decode b_Gu_calculate 100 = .ok (.iload_n 3, 1) := by decide +kernel
theorem d_Gu_calculate_101 : decode b_Gu_calculate 101 = .ok (.iaload, 1) := by decide +kernel
theorem d_Gu_calculate_102 : decode b_Gu_calculate 102 = .ok (.iadd, 1) := by decide +kernel
theorem d_Gu_calculate_103 : decode b_Gu_calculate 103 = .ok (.iastore, 1) := by decide +kernel
theorem d_Gu_calculate_104 : decode b_Gu_calculate 104 = .ok (.goto 131, 3) := by decide +kernel
theorem d_Gu_calculate_107 : decode b_Gu_calculate 107 = .ok (.aload_n 0, 1) := by decide +kernel
theorem d_Gu_calculate_108 : decode b_Gu_calculate 108 = .ok (.getfield 9, 3) := by decide +kernel
theorem d_Gu_calculate_111 : decode b_Gu_calculate 111 = .ok (.iload_n 2, 1) := by decide +kernel
theorem d_Gu_calculate_112 : decode b_Gu_calculate 112 = .ok (.dup2, 1) := by decide +kernel
theorem d_Gu_calculate_113 : decode b_Gu_calculate 113 = .ok (.iaload, 1) := by decide +kernel
theorem d_Gu_calculate_114 : decode b_Gu_calculate 114 = .ok (.aload_n 0, 1) := by decide +kernel
theorem d_Gu_calculate_115 : decode b_Gu_calculate 115 = .ok (.getfield 9, 3) := by decide +kernel
theorem d_Gu_calculate_118 : decode b_Gu_calculate 118 = .ok (.iload_n 3, 1) := by decide +kernel
theorem d_Gu_calculate_119 : decode b_Gu_calculate 119 = .ok (.iaload, 1) := by decide +kernel
theorem d_Gu_calculate_120 : decode b_Gu_calculate 120 = .ok (.isub, 1) := by decide +kernel
theorem d_Gu_calculate_121 : decode b_Gu_calculate 121 = .ok (.iastore, 1) := by decide +kernel
theorem d_Gu_calculate_122 : decode b_Gu_calculate 122 = .ok (.goto 113, 3) := by decide +kernel
theorem d_Gu_calculate_125 : decode b_Gu_calculate 125 = .ok (.aload_n 0, 1) := by decide +kernel
theorem d_Gu_calculate_126 : decode b_Gu_calculate 126 = .ok (.getfield 9, 3) := by decide +kernel
theorem d_Gu_calculate_129 : decode b_Gu_calculate 129 = .ok (.iload_n 2, 1) := by decide +kernel
theorem d_Gu_calculate_130 : decode b_Gu_calculate 130 = .ok (.dup2, 1) := by decide +kernel
theorem d_Gu_calculate_131 : decode b_Gu_calculate 131 = .ok (.iaload, 1) := by decide +kernel
theorem d_Gu_calculate_132 : decode b_Gu_calculate 132 = .ok (.aload_n 0, 1) := by decide +kernel
theorem d_Gu_calculate_133 : decode b_Gu_calculate 133 = .ok (.getfield 9, 3) := by decide +kernel
theorem d_Gu_calculate_136 : decode b_Gu_calculate 136 = .ok (.iload_n 3, 1) := by decide +kernel
theorem d_Gu_calculate_137 : decode b_Gu_calculate 137 = .ok (.iaload, 1) := by decide +kernel
theorem d_Gu_calculate_138 : decode b_Gu_calculate 138 = .ok (.imul, 1) := by decide +kernel
theorem d_Gu_calculate_139 : decode b_Gu_calculate 139 = .ok (.iastore, 1) := by decide +kernel
theorem d_Gu_calculate_140 : decode b_Gu_calculate 140 = .ok (.goto 95, 3) := by decide +kernel
theorem d_Gu_calculate_143 : decode b_Gu_calculate 143 = .ok (.aload_n 0, 1) := by decide +kernel
theorem d_Gu_calculate_144 : decode b_Gu_calculate 144 = .ok (.getfield 9, 3) := by decide +kernel
theorem d_Gu_calculate_147 : decode b_Gu_calculate 147 = .ok (.iload_n 3, 1) := by decide +kernel
theorem d_Gu_calculate_148 : decode b_Gu_calculate 148 = .ok (.iaload, 1) := by decide +kernel
theorem d_Gu_calculate_149 : decode b_Gu_calculate 149 = .ok (.ifCond .ne 5, 3) := by decide +kernel
theorem d_Gu_calculate_152 : decode b_Gu_calculate 152 = .ok (.iconst 1, 1) := by decide +kernel
theorem d_Gu_calculate_153 : decode b_Gu_calculate 153 = .ok (.ireturn, 1) := by decide +kernel
theorem d_Gu_calculate_154 : decode b_Gu_calculate 154 = .ok (.aload_n 0, 1) := by decide +kernel
theorem d_Gu_calculate_155 : decode b_Gu_calculate 155 = .ok (.getfield 9, 3) := by decide +kernel
theorem d_Gu_calculate_158 : decode b_Gu_calculate 158 = .ok (.iload_n 2, 1) := by decide +kernel
theorem d_Gu_calculate_159 : decode b_Gu_calculate 159 = .ok (.dup2, 1) := by decide +kernel
theorem d_Gu_calculate_160 : decode b_Gu_calculate 160 = .ok (.iaload, 1) := by decide +kernel
theorem d_Gu_calculate_161 : decode b_Gu_calculate 161 = .ok (.aload_n 0, 1) := by decide +kernel
theorem d_Gu_calculate_162 : decode b_Gu_calculate 162 = .ok (.getfield 9, 3) := by decide +kernel
theorem d_Gu_calculate_165 : decode b_Gu_calculate 165 = .ok (.iload_n 3, 1) := by decide +kernel
theorem d_Gu_calculate_166 : decode b_Gu_calculate 166 = .ok (.iaload, 1) := by decide +kernel
theorem d_Gu_calculate_167 : decode b_Gu_calculate 167 = .ok (.idiv, 1) := by decide +kernel
theorem d_Gu_calculate_168 : decode b_Gu_calculate 168 = .ok (.iastore, 1) := by decide +kernel
theorem d_Gu_calculate_169 : decode b_Gu_calculate 169 = .ok (.goto 66, 3) := by decide +kernel
theorem d_Gu_calculate_172 : decode b_Gu_calculate 172 = .ok (.aload_n 0, 1) := by decide +kernel
theorem d_Gu_calculate_173 : decode b_Gu_calculate 173 = .ok (.getfield 9, 3) := by decide +kernel
theorem d_Gu_calculate_176 : decode b_Gu_calculate 176 = .ok (.iload_n 2, 1) := by decide +kernel
theorem d_Gu_calculate_177 : decode b_Gu_calculate 177 = .ok (.iaload, 1) := by decide +kernel
theorem d_Gu_calculate_178 : decode b_Gu_calculate 178 = .ok (.aload_n 0, 1) := by decide +kernel
theorem d_Gu_calculate_179 : decode b_Gu_calculate 179 = .ok (.getfield 9, 3) := by decide +kernel
theorem d_Gu_calculate_182 : decode b_Gu_calculate 182 = .ok (.iload_n 3, 1) := by decide +kernel
theorem d_Gu_calculate_183 : decode b_Gu_calculate 183 = .ok (.iaload, 1) := by decide +kernel
theorem d_Gu_calculate_184 : decode b_Gu_calculate 184 = .ok (.if_icmp .ge 51, 3) := by decide +kernel
theorem d_Gu_calculate_187 : decode b_Gu_calculate 187 = .ok (.aload_n 0, 1) := by decide +kernel
theorem d_Gu_calculate_188 : decode b_Gu_calculate 188 = .ok (.iload 4, 2) := by decide +kernel
theorem d_Gu_calculate_190 : decode b_Gu_calculate 190 = .ok (.invokevirtual 31, 3) := by decide +kernel
theorem d_Gu_calculate_193 : decode b_Gu_calculate 193 = .ok (.goto 42, 3) := by decide +kernel
theorem d_Gu_calculate_196 : decode b_Gu_calculate 196 = .ok (.aload_n 0, 1) := by decide +kernel
theorem d_Gu_calculate_197 : decode b_Gu_calculate 197 = .ok (.getfield 9, 3) := by decide +kernel
theorem d_Gu_calculate_200 : decode b_Gu_calculate 200 = .ok (.iload_n 2, 1) := by decide +kernel
theorem d_Gu_calculate_201 : decode b_Gu_calculate 201 = .ok (.iaload, 1) := by decide +kernel
theorem d_Gu_calculate_202 : decode b_Gu_calculate 202 = .ok (.ifCond .ne 33, 3) := by decide +kernel
theorem d_Gu_calculate_205 : decode b_Gu_calculate 205 = .ok (.aload_n 0, 1) := by decide +kernel
theorem d_Gu_calculate_206 : decode b_Gu_calculate 206 = .ok (.iload 4, 2) := by decide +kernel
theorem d_Gu_calculate_208 : decode b_Gu_calculate 208 = .ok (.invokevirtual 31, 3) := by decide +kernel
theorem d_Gu_calculate_211 : decode b_Gu_calculate 211 = .ok (.goto 24, 3) := by decide +kernel
theorem d_Gu_calculate_214 : decode b_Gu_calculate 214 = .ok (.aload_n 0, 1) := by decide +kernel
theorem d_Gu_calculate_215 : decode b_Gu_calculate 215 = .ok (.iload 4, 2) := by decide +kernel
theorem d_Gu_calculate_217 : decode b_Gu_calculate 217 = .ok (.ifCond .ge 7, 3) := by decide +kernel
theorem d_Gu_calculate_220 : decode b_Gu_calculate 220 = .ok (.iconst (-1), 1) := by decide +kernel
theorem d_Gu_calculate_221 : decode b_Gu_calculate 221 = .ok (.goto 8, 3) := by decide +kernel
theorem d_Gu_calculate_224 : decode b_Gu_calculate 224 = .ok (.iload 4, 2) := by decide +kernel
theorem d_Gu_calculate_226 : decode b_Gu_calculate 226 = .ok (.bipush 32, 2) := by decide +kernel
theorem d_Gu_calculate_228 : decode b_Gu_calculate 228 = .ok (.irem, 1) := by decide +kernel
theorem d_Gu_calculate_229 : decode b_Gu_calculate 229 = .ok (.putfield 35, 3) := by decide +kernel
theorem d_Gu_calculate_232 : decode b_Gu_calculate 232 = .ok (.goto 3, 3) := by decide +kernel
theorem d_Gu_calculate_235 : decode b_Gu_calculate 235 = .ok (.iconst 0, 1) := by decide +kernel
theorem d_Gu_calculate_236 : decode b_Gu_calculate 236 = .ok (.ireturn, 1) := by decide +kernel
theorem d_Lo_init_0 : decode b_Lo_init 0 = .ok (.aload_n 0, 1) := by decide +kernel
theorem d_Lo_init_1 : decode b_Lo_init 1 = .ok (.invokespecial 3, 3) := by decide +kernel
theorem d_Lo_init_4 : decode b_Lo_init 4 = .ok (.aload_n 0, 1) := by decide +kernel
theorem d_Lo_init_5 : decode b_Lo_init 5 = .ok (.new 9, 3) := by decide +kernel
theorem d_Lo_init_8 : decode b_Lo_init 8 = .ok (.dup, 1) := by decide +kernel
theorem d_Lo_init_9 : decode b_Lo_init 9 = .ok (.invokespecial 11, 3) := by decide +kernel
theorem d_Lo_init_12 : decode b_Lo_init 12 = .ok (.putfield 12, 3) := by decide +kernel
theorem d_Lo_init_15 : decode b_Lo_init 15 = .ok (.aload_n 0, 1) := by decide +kernel
theorem d_Lo_init_16 : decode b_Lo_init 16 = .ok (.iconst (-1), 1) := by decide +kernel
theorem d_Lo_init_17 : decode b_Lo_init 17 = .ok (.putfield 18, 3) := by decide +kernel
theorem d_Lo_init_20 : decode b_Lo_init 20 = .ok (.return_, 1) := by decide +kernel
theorem d_Pr_init_0 : decode b_Pr_init 0 = .ok (.aload_n 0, 1) := by decide +kernel
theorem d_Pr_init_1 : decode b_Pr_init 1 = .ok (.invokespecial 3, 3) := by decide +kernel
theorem d_Pr_init_4 : decode b_Pr_init 4 = .ok (.aload_n 0, 1) := by decide +kernel
theorem d_Pr_init_5 : decode b_Pr_init 5 = .ok (.new 9, 3) := by decide +kernel
theorem d_Pr_init_8 : decode b_Pr_init 8 = .ok (.dup, 1) := by decide +kernel
theorem d_Pr_init_9 : decode b_Pr_init 9 = .ok (.invokespecial 11, 3) := by decide +kernel
theorem d_Pr_init_12 : decode b_Pr_init 12 = .ok (.putfield 12, 3) := by decide +kernel
theorem d_Pr_init_15 : decode b_Pr_init 15 = .ok (.aload_n 0, 1) := by decide +kernel
theorem d_Pr_init_16 : decode b_Pr_init 16 = .ok (.iconst (-1), 1) := by decide +kernel
theorem d_Pr_init_17 : decode b_Pr_init 17 = .ok (.putfield 18, 3) := by decide +kernel
theorem d_Pr_init_20 : decode b_Pr_init 20 = .ok (.return_, 1) := by decide +kernel
theorem d_Pr_isEmpty_0 : decode b_Pr_isEmpty 0 = .ok (.aload_n 0, 1) := by decide +kernel
theorem d_Pr_isEmpty_1 : decode b_Pr_isEmpty 1 = .ok (.getfield 18, 3) := by decide +kernel
theorem d_Pr_isEmpty_4 : decode b_Pr_isEmpty 4 = .ok (.iconst (-1), 1) := by decide +kernel
theorem d_Pr_isEmpty_5 : decode b_Pr_isEmpty 5 = .ok (.if_icmp .ne 17, 3) := by decide +kernel
theorem d_Pr_isEmpty_8 : decode b_Pr_isEmpty 8 = .ok (.aload_n 0, 1) := by decide +kernel
theorem d_Pr_isEmpty_9 : decode b_Pr_isEmpty 9 = .ok (.getfield 12, 3) := by decide +kernel
theorem d_Pr_isEmpty_12 : decode b_Pr_isEmpty 12 = .ok (.getfield 22, 3) := by decide +kernel
theorem d_Pr_isEmpty_15 : decode b_Pr_isEmpty 15 = .ok (.ifCond .ne 7, 3) := by decide +kernel
theorem d_Pr_isEmpty_18 : decode b_Pr_isEmpty 18 = .ok (.iconst 1, 1) := by decide +kernel
theorem d_Pr_isEmpty_19 : decode b_Pr_isEmpty 19 = .ok (.goto 4, 3) := by decide +kernel
theorem d_Pr_isEmpty_22 : decode b_Pr_isEmpty 22 = .ok (.iconst 0, 1) := by decide +kernel
theorem d_Pr_isEmpty_23 : decode b_Pr_isEmpty 23 = .ok (.ireturn, 1) := by decide +kernel
theorem d_Pg_init_0 : decode b_Pg_init 0 = .ok (.aload_n 0, 1) := by decide +kernel
theorem d_Pg_init_1 : decode b_Pg_init 1 = .ok (.invokespecial 3, 3) := by decide +kernel
theorem d_Pg_init_4 : decode b_Pg_init 4 = .ok (.aload_n 0, 1) := by decide +kernel
theorem d_Pg_init_5 : decode b_Pg_init 5 = .ok (.sipush 128, 3) := by decide +kernel
theorem d_Pg_init_8 : decode b_Pg_init 8 = .ok (.newarray .int, 2) := by decide +kernel
theorem d_Pg_init_10 : decode b_Pg_init 10 = .ok (.putfield 11, 3) := by decide +kernel
theorem d_Pg_init_13 : decode b_Pg_init 13 = .ok (.return_, 1) := by decide +kernel
theorem d_Pg_write_0 : decode b_Pg_write 0 = .ok (.iload_n 1, 1) := by decide +kernel
theorem d_Pg_write_1 : decode b_Pg_write 1 = .ok (.iconst 4, 1) := by decide +kernel
theorem d_Pg_write_2 : decode b_Pg_write 2 = .ok (.imul, 1) := by decide +kernel
theorem d_Pg_write_3 : decode b_Pg_write 3 = .ok (.istore 6, 2) := by decide +kernel
theorem d_Pg_write_5 : decode b_Pg_write 5 = .ok (.aload_n 0, 1) := by decide +kernel
theorem d_Pg_write_6 : decode b_Pg_write 6 = .ok (.getfield 11, 3) := by decide +kernel
theorem d_Pg_write_9 : decode b_Pg_write 9 = .ok (.iload 6, 2) := by decide +kernel
theorem d_Pg_write_11 : decode b_Pg_write 11 = .ok (.iconst 0, 1) := by decide +kernel
theorem d_Pg_write_12 : decode b_Pg_write 12 = .ok (.iadd, 1) := by decide +kernel
theorem d_Pg_write_13 : decode b_Pg_write 13 = .ok (.iload_n 2, 1) := by decide +kernel
theorem d_Pg_write_14 : decode b_Pg_write 14 = .ok (.iastore, 1) := by decide +kernel
theorem d_Pg_write_15 : decode b_Pg_write 15 = .ok (.aload_n 0, 1) := by decide +kernel
theorem d_Pg_write_16 : decode b_Pg_write 16 = .ok (.getfield 11, 3) := by decide +kernel
theorem d_Pg_write_19 : decode b_Pg_write 19 = .ok (.iload 6, 2) := by decide +kernel
theorem d_Pg_write_21 : decode b_Pg_write 21 = .ok (.iconst 1, 1) := by decide +kernel
theorem d_Pg_write_22 : decode b_Pg_write 22 = .ok (.iadd, 1) := by decide +kernel
theorem d_Pg_write_23 : decode b_Pg_write 23 = .ok (.iload_n 3, 1) := by decide +kernel
theorem d_Pg_write_24 : decode b_Pg_write 24 = .ok (.iastore, 1) := by decide +kernel
theorem d_Pg_write_25 : decode b_Pg_write 25 = .ok (.aload_n 0, 1) := by decide +kernel
theorem d_Pg_write_26 : decode b_Pg_write 26 = .ok (.getfield 11, 3) := by decide +kernel
theorem d_Pg_write_29 : decode b_Pg_write 29 = .ok (.iload 6, 2) := by decide +kernel
theorem d_Pg_write_31 : decode b_Pg_write 31 = .ok (.iconst 2, 1) := by decide +kernel
theorem d_Pg_write_32 : decode b_Pg_write 32 = .ok (.iadd, 1) := by decide +kernel
theorem d_Pg_write_33 : decode b_Pg_write 33 = .ok (.iload 4, 2) := by decide +kernel
theorem d_Pg_write_35 : decode b_Pg_write 35 = .ok (.iastore, 1) := by decide +kernel
theorem d_Pg_write_36 : decode b_Pg_write 36 = .ok (.aload_n 0, 1) := by decide +kernel
theorem d_Pg_write_37 : decode b_Pg_write 37 = .ok (.getfield 11, 3) := by decide +kernel
theorem d_Pg_write_40 : decode b_Pg_write 40 = .ok (.iload 6, 2) := by decide +kernel
theorem d_Pg_write_42 : decode b_Pg_write 42 = .ok (.iconst 3, 1) := by decide +kernel
theorem d_Pg_write_43 : decode b_Pg_write 43 = .ok (.iadd, 1) := by decide +kernel
theorem d_Pg_write_44 : decode b_Pg_write 44 = .ok (.iload 5, 2) := by decide +kernel
theorem d_Pg_write_46 : decode b_Pg_write 46 = .ok (.iastore, 1) := by decide +kernel
theorem d_Pg_write_47 : decode b_Pg_write 47 = .ok (.return_, 1) := by decide +kernel
theorem d_Pg_part_0 : decode b_Pg_part 0 = .ok (.aload_n 0, 1) := by decide +kernel
theorem d_Pg_part_1 : decode b_Pg_part 1 = .ok (.getfield 11, 3) := by decide +kernel
theorem d_Pg_part_4 : decode b_Pg_part 4 = .ok (.iload_n 1, 1) := by decide +kernel
theorem d_Pg_part_5 : decode b_Pg_part 5 = .ok (.iconst 4, 1) := by decide +kernel
theorem d_Pg_part_6 : decode b_Pg_part 6 = .ok (.imul, 1) := by decide +kernel
theorem d_Pg_part_7 : decode b_Pg_part 7 = .ok (.iload_n 2, 1) := by decide +kernel
theorem d_Pg_part_8 : decode b_Pg_part 8 = .ok (.iadd, 1) := by decide +kernel
theorem d_Pg_part_9 : decode b_Pg_part 9 = .ok (.iaload, 1) := by decide +kernel
theorem d_Pg_part_10 : decode b_Pg_part 10 = .ok (.ireturn, 1) := by decide +kernel
theorem d_Ro_init_0 : decode b_Ro_init 0 = .ok (.aload_n 0, 1) := by decide +kernel
theorem d_Ro_init_1 : decode b_Ro_init 1 = .ok (.invokespecial 3, 3) := by decide +kernel
theorem d_Ro_init_4 : decode b_Ro_init 4 = .ok (.aload_n 0, 1) := by decide +kernel
theorem d_Ro_init_5 : decode b_Ro_init 5 = .ok (.bipush 6, 2) := by decide +kernel
theorem d_Ro_init_7 : decode b_Ro_init 7 = .ok (.newarray .int, 2) := by decide +kernel
theorem d_Ro_init_9 : decode b_Ro_init 9 = .ok (.putfield 9, 3) := by decide +kernel
theorem d_Ro_init_12 : decode b_Ro_init 12 = .ok (.return_, 1) := by decide +kernel
theorem d_Ro_add_0 : decode b_Ro_add 0 = .ok (.aload_n 0, 1) := by decide +kernel
theorem d_Ro_add_1 : decode b_Ro_add 1 = .ok (.getfield 15, 3) := by decide +kernel
theorem d_Ro_add_4 : decode b_Ro_add 4 = .ok (.bipush 6, 2) := by decide +kernel
theorem d_Ro_add_6 : decode b_Ro_add 6 = .ok (.if_icmp .ge 31, 3) := by decide +kernel
theorem d_Ro_add_9 : decode b_Ro_add 9 = .ok (.aload_n 0, 1) := by decide +kernel
theorem d_Ro_add_10 : decode b_Ro_add 10 = .ok (.getfield 9, 3) := by decide +kernel
theorem d_Ro_add_13 : decode b_Ro_add 13 = .ok (.aload_n 0, 1) := by decide +kernel
theorem d_Ro_add_14 : decode b_Ro_add 14 = .ok (.getfield 19, 3) := by decide +kernel
theorem d_Ro_add_17 : decode b_Ro_add 17 = .ok (.aload_n 0, 1) := by decide +kernel
theorem d_Ro_add_18 : decode b_Ro_add 18 = .ok (.getfield 15, 3) := by decide +kernel
theorem d_Ro_add_21 : decode b_Ro_add 21 = .ok (.iadd, 1) := by decide +kernel
theorem d_Ro_add_22 : decode b_Ro_add 22 = .ok (.bipush 6, 2) := by decide +kernel
theorem d_Ro_add_24 : decode b_Ro_add 24 = .ok (.irem, 1) := by decide +kernel
theorem d_Ro_add_25 : decode b_Ro_add 25 = .ok (.iload_n 1, 1) := by decide +kernel
theorem d_Ro_add_26 : decode b_Ro_add 26 = .ok (.iastore, 1) := by decide +kernel
theorem d_Ro_add_27 : decode b_Ro_add 27 = .ok (.aload_n 0, 1) := by decide +kernel
theorem d_Ro_add_28 : decode b_Ro_add 28 = .ok (.dup, 1) := by decide +kernel
theorem d_Ro_add_29 : decode b_Ro_add 29 = .ok (.getfield 15, 3) := by decide +kernel
theorem d_Ro_add_32 : decode b_Ro_add 32 = .ok (.iconst 1, 1) := by decide +kernel
theorem d_Ro_add_33 : decode b_Ro_add 33 = .ok (.iadd, 1) := by decide +kernel
theorem d_Ro_add_34 : decode b_Ro_add 34 = .ok (.putfield 15, 3) := by decide +kernel
theorem d_Ro_add_37 : decode b_Ro_add 37 = .ok (.return_, 1) := by decide +kernel
theorem d_Ro_takeFirst_0 : decode b_Ro_takeFirst 0 = .ok (.aload_n 0, 1) := by decide +kernel
theorem d_Ro_takeFirst_1 : decode b_Ro_takeFirst 1 = .ok (.getfield 15, 3) := by decide +kernel
theorem d_Ro_takeFirst_4 : decode b_Ro_takeFirst 4 = .ok (.ifCond .ne 5, 3) := by decide +kernel
theorem d_Ro_takeFirst_7 : decode b_Ro_takeFirst 7 = .ok (.iconst (-1), 1) := by decide +kernel
theorem d_Ro_takeFirst_8 : decode b_Ro_takeFirst 8 = .ok (.ireturn, 1) := by decide +kernel
theorem d_Ro_takeFirst_9 : decode b_Ro_takeFirst 9 = .ok (.aload_n 0, 1) := by decide +kernel
theorem d_Ro_takeFirst_10 : decode b_Ro_takeFirst 10 = .ok (.getfield 9, 3) := by decide +kernel
theorem d_Ro_takeFirst_13 : decode b_Ro_takeFirst 13 = .ok (.aload_n 0, 1) := by decide +kernel
theorem d_Ro_takeFirst_14 : decode b_Ro_takeFirst 14 = .ok (.getfield 19, 3) := by decide +kernel
theorem d_Ro_takeFirst_17 : decode b_Ro_takeFirst 17 = .ok (.iaload, 1) := by decide +kernel
theorem d_Ro_takeFirst_18 : decode b_Ro_takeFirst 18 = .ok (.istore_n 1, 1) := by decide +kernel
theorem d_Ro_takeFirst_19 : decode b_Ro_takeFirst 19 = .ok (.aload_n 0, 1) := by decide +kernel
theorem d_Ro_takeFirst_20 : decode b_Ro_takeFirst 20 = .ok (.aload_n 0, 1) := by decide +kernel
theorem d_Ro_takeFirst_21 : decode b_Ro_takeFirst 21 = .ok (.getfield 19, 3) := by decide +kernel
theorem d_Ro_takeFirst_24 : decode b_Ro_takeFirst 24 = .ok (.iconst 1, 1) := by decide +kernel
theorem d_Ro_takeFirst_25 : decode b_Ro_takeFirst 25 = .ok (.iadd, 1) := by decide +kernel
theorem d_Ro_takeFirst_26 : decode b_Ro_takeFirst 26 = .ok (.bipush 6, 2) := by decide +kernel
theorem d_Ro_takeFirst_28 : decode b_Ro_takeFirst 28 = .ok (.irem, 1) := by decide +kernel
theorem d_Ro_takeFirst_29 : decode b_Ro_takeFirst 29 = .ok (.putfield 19, 3) := by decide +kernel
theorem d_Ro_takeFirst_32 : decode b_Ro_takeFirst 32 = .ok (.aload_n 0, 1) := by decide +kernel
theorem d_Ro_takeFirst_33 : decode b_Ro_takeFirst 33 = .ok (.dup, 1) := by decide +kernel
theorem d_Ro_takeFirst_34 : decode b_Ro_takeFirst 34 = .ok (.getfield 15, 3) := by decide +kernel
theorem d_Ro_takeFirst_37 : decode b_Ro_takeFirst 37 = .ok (.iconst 1, 1) := by decide +kernel
theorem d_Ro_takeFirst_38 : decode b_Ro_takeFirst 38 = .ok (.isub, 1) := by decide +kernel
theorem d_Ro_takeFirst_39 : decode b_Ro_takeFirst 39 = .ok (.putfield 15, 3) := by decide +kernel
theorem d_Ro_takeFirst_42 : decode b_Ro_takeFirst 42 = .ok (.iload_n 1, 1) := by decide +kernel
theorem d_Ro_takeFirst_43 : decode b_Ro_takeFirst 43 = .ok (.ireturn, 1) := by decide +kernel
