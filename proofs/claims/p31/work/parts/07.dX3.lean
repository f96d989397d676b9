theorem dX3_init_0 : decode cX3_init 0 = .ok (.aload_n 0, 1) := by decide +kernel
theorem dX3_init_1 : decode cX3_init 1 = .ok (.invokespecial 1, 3) := by decide +kernel
theorem dX3_init_4 : decode cX3_init 4 = .ok (.aload_n 0, 1) := by decide +kernel
theorem dX3_init_5 : decode cX3_init 5 = .ok (.iconst 3, 1) := by decide +kernel
theorem dX3_init_6 : decode cX3_init 6 = .ok (.putfield 7, 3) := by decide +kernel
theorem dX3_init_9 : decode cX3_init 9 = .ok (.aload_n 0, 1) := by decide +kernel
theorem dX3_init_10 : decode cX3_init 10 = .ok (.iconst 4, 1) := by decide +kernel
theorem dX3_init_11 : decode cX3_init 11 = .ok (.newarray .int, 2) := by decide +kernel
theorem dX3_init_13 : decode cX3_init 13 = .ok (.putfield 13, 3) := by decide +kernel
theorem dX3_init_16 : decode cX3_init 16 = .ok (.aload_n 0, 1) := by decide +kernel
theorem dX3_init_17 : decode cX3_init 17 = .ok (.bipush 31, 2) := by decide +kernel
theorem dX3_init_19 : decode cX3_init 19 = .ok (.newarray .int, 2) := by decide +kernel
theorem dX3_init_21 : decode cX3_init 21 = .ok (.putfield 17, 3) := by decide +kernel
theorem dX3_init_24 : decode cX3_init 24 = .ok (.iconst 3, 1) := by decide +kernel
theorem dX3_init_25 : decode cX3_init 25 = .ok (.istore_n 1, 1) := by decide +kernel
theorem dX3_init_26 : decode cX3_init 26 = .ok (.iload_n 1, 1) := by decide +kernel
theorem dX3_init_27 : decode cX3_init 27 = .ok (.bipush 31, 2) := by decide +kernel
theorem dX3_init_29 : decode cX3_init 29 = .ok (.if_icmp .ge 19, 3) := by decide +kernel
theorem dX3_init_32 : decode cX3_init 32 = .ok (.aload_n 0, 1) := by decide +kernel
theorem dX3_init_33 : decode cX3_init 33 = .ok (.getfield 17, 3) := by decide +kernel
theorem dX3_init_36 : decode cX3_init 36 = .ok (.iload_n 1, 1) := by decide +kernel
theorem dX3_init_37 : decode cX3_init 37 = .ok (.bipush 90, 2) := by decide +kernel
theorem dX3_init_39 : decode cX3_init 39 = .ok (.iload_n 1, 1) := by decide +kernel
theorem dX3_init_40 : decode cX3_init 40 = .ok (.idiv, 1) := by decide +kernel
theorem dX3_init_41 : decode cX3_init 41 = .ok (.iastore, 1) := by decide +kernel
theorem dX3_init_42 : decode cX3_init 42 = .ok (.iinc 1 1, 3) := by decide +kernel
theorem dX3_init_45 : decode cX3_init 45 = .ok (.goto (-19), 3) := by decide +kernel
theorem dX3_init_48 : decode cX3_init 48 = .ok (.return_, 1) := by decide +kernel
set_option maxRecDepth 20000 in
theorem ggX3_copy_X3_init : GoodIn wsX3_copy wsX3_init := goodIn_r _ [21, 22, 23, 24, 5, 25, 8, 15, 26, 27, 28, 29, 30, 31, 32, 33, 34] (by decide +kernel) (by decide +kernel)
set_option maxRecDepth 20000 in
theorem gX3_copy_X3_init : GoodIn wsX3_copy (wsX3_init) := ggX3_copy_X3_init
theorem dX3_copy_0 : decode cX3_copy 0 = .ok (.new 8, 3) := by decide +kernel
theorem dX3_copy_3 : decode cX3_copy 3 = .ok (.dup, 1) := by decide +kernel
theorem dX3_copy_4 : decode cX3_copy 4 = .ok (.invokespecial 20, 3) := by decide +kernel
theorem dX3_copy_7 : decode cX3_copy 7 = .ok (.astore_n 1, 1) := by decide +kernel
theorem dX3_copy_8 : decode cX3_copy 8 = .ok (.aload_n 1, 1) := by decide +kernel
theorem dX3_copy_9 : decode cX3_copy 9 = .ok (.aload_n 0, 1) := by decide +kernel
theorem dX3_copy_10 : decode cX3_copy 10 = .ok (.getfield 21, 3) := by decide +kernel
theorem dX3_copy_13 : decode cX3_copy 13 = .ok (.putfield 21, 3) := by decide +kernel
theorem dX3_copy_16 : decode cX3_copy 16 = .ok (.aload_n 1, 1) := by decide +kernel
theorem dX3_copy_17 : decode cX3_copy 17 = .ok (.aload_n 0, 1) := by decide +kernel
theorem dX3_copy_18 : decode cX3_copy 18 = .ok (.getfield 7, 3) := by decide +kernel
theorem dX3_copy_21 : decode cX3_copy 21 = .ok (.putfield 7, 3) := by decide +kernel
theorem dX3_copy_24 : decode cX3_copy 24 = .ok (.aload_n 1, 1) := by decide +kernel
theorem dX3_copy_25 : decode cX3_copy 25 = .ok (.aload_n 0, 1) := by decide +kernel
theorem dX3_copy_26 : decode cX3_copy 26 = .ok (.getfield 24, 3) := by decide +kernel
theorem dX3_copy_29 : decode cX3_copy 29 = .ok (.putfield 24, 3) := by decide +kernel
theorem dX3_copy_32 : decode cX3_copy 32 = .ok (.aload_n 1, 1) := by decide +kernel
theorem dX3_copy_33 : decode cX3_copy 33 = .ok (.aload_n 0, 1) := by decide +kernel
theorem dX3_copy_34 : decode cX3_copy 34 = .ok (.getfield 27, 3) := by decide +kernel
theorem dX3_copy_37 : decode cX3_copy 37 = .ok (.putfield 27, 3) := by decide +kernel
theorem dX3_copy_40 : decode cX3_copy 40 = .ok (.aload_n 1, 1) := by decide +kernel
theorem dX3_copy_41 : decode cX3_copy 41 = .ok (.aload_n 0, 1) := by decide +kernel
theorem dX3_copy_42 : decode cX3_copy 42 = .ok (.getfield 13, 3) := by decide +kernel
theorem dX3_copy_45 : decode cX3_copy 45 = .ok (.invokevirtual 30, 3) := by decide +kernel
theorem dX3_copy_48 : decode cX3_copy 48 = .ok (.checkcast 31, 3) := by decide +kernel
theorem dX3_copy_51 : decode cX3_copy 51 = .ok (.putfield 13, 3) := by decide +kernel
theorem dX3_copy_54 : decode cX3_copy 54 = .ok (.aload_n 1, 1) := by decide +kernel
theorem dX3_copy_55 : decode cX3_copy 55 = .ok (.aload_n 0, 1) := by decide +kernel
theorem dX3_copy_56 : decode cX3_copy 56 = .ok (.getfield 17, 3) := by decide +kernel
theorem dX3_copy_59 : decode cX3_copy 59 = .ok (.invokevirtual 30, 3) := by decide +kernel
theorem dX3_copy_62 : decode cX3_copy 62 = .ok (.checkcast 31, 3) := by decide +kernel
theorem dX3_copy_65 : decode cX3_copy 65 = .ok (.putfield 17, 3) := by decide +kernel
theorem dX3_copy_68 : decode cX3_copy 68 = .ok (.aload_n 1, 1) := by decide +kernel
theorem dX3_copy_69 : decode cX3_copy 69 = .ok (.aload_n 0, 1) := by decide +kernel
theorem dX3_copy_70 : decode cX3_copy 70 = .ok (.getfield 35, 3) := by decide +kernel
theorem dX3_copy_73 : decode cX3_copy 73 = .ok (.putfield 35, 3) := by decide +kernel
theorem dX3_copy_76 : decode cX3_copy 76 = .ok (.aload_n 1, 1) := by decide +kernel
theorem dX3_copy_77 : decode cX3_copy 77 = .ok (.aload_n 0, 1) := by decide +kernel
theorem dX3_copy_78 : decode cX3_copy 78 = .ok (.getfield 38, 3) := by decide +kernel
theorem dX3_copy_81 : decode cX3_copy 81 = .ok (.putfield 38, 3) := by decide +kernel
theorem dX3_copy_84 : decode cX3_copy 84 = .ok (.aload_n 1, 1) := by decide +kernel
theorem dX3_copy_85 : decode cX3_copy 85 = .ok (.aload_n 0, 1) := by decide +kernel
theorem dX3_copy_86 : decode cX3_copy 86 = .ok (.getfield 41, 3) := by decide +kernel
theorem dX3_copy_89 : decode cX3_copy 89 = .ok (.putfield 41, 3) := by decide +kernel
theorem dX3_copy_92 : decode cX3_copy 92 = .ok (.aload_n 1, 1) := by decide +kernel
theorem dX3_copy_93 : decode cX3_copy 93 = .ok (.areturn, 1) := by decide +kernel
theorem dX3_strain_0 : decode cX3_strain 0 = .ok (.bipush 8, 2) := by decide +kernel
theorem dX3_strain_2 : decode cX3_strain 2 = .ok (.newarray .int, 2) := by decide +kernel
theorem dX3_strain_4 : decode cX3_strain 4 = .ok (.dup, 1) := by decide +kernel
theorem dX3_strain_5 : decode cX3_strain 5 = .ok (.iconst 0, 1) := by decide +kernel
theorem dX3_strain_6 : decode cX3_strain 6 = .ok (.bipush 10, 2) := by decide +kernel
theorem dX3_strain_8 : decode cX3_strain 8 = .ok (.iastore, 1) := by decide +kernel
theorem dX3_strain_9 : decode cX3_strain 9 = .ok (.dup, 1) := by decide +kernel
theorem dX3_strain_10 : decode cX3_strain 10 = .ok (.iconst 1, 1) := by decide +kernel
theorem dX3_strain_11 : decode cX3_strain 11 = .ok (.bipush 7, 2) := by decide +kernel
theorem dX3_strain_13 : decode cX3_strain 13 = .ok (.iastore, 1) := by decide +kernel
theorem dX3_strain_14 : decode cX3_strain 14 = .ok (.dup, 1) := by decide +kernel
theorem dX3_strain_15 : decode cX3_strain 15 = .ok (.iconst 2, 1) := by decide +kernel
theorem dX3_strain_16 : decode cX3_strain 16 = .ok (.iconst 0, 1) := by decide +kernel
theorem dX3_strain_17 : decode cX3_strain 17 = .ok (.iastore, 1) := by decide +kernel
theorem dX3_strain_18 : decode cX3_strain 18 = .ok (.dup, 1) := by decide +kernel
theorem dX3_strain_19 : decode cX3_strain 19 = .ok (.iconst 3, 1) := by decide +kernel
theorem dX3_strain_20 : decode cX3_strain 20 = .ok (.bipush (-7), 2) := by decide +kernel
theorem dX3_strain_22 : decode cX3_strain 22 = .ok (.iastore, 1) := by decide +kernel
theorem dX3_strain_23 : decode cX3_strain 23 = .ok (.dup, 1) := by decide +kernel
theorem dX3_strain_24 : decode cX3_strain 24 = .ok (.iconst 4, 1) := by decide +kernel
theorem dX3_strain_25 : decode cX3_strain 25 = .ok (.bipush (-10), 2) := by decide +kernel
theorem dX3_strain_27 : decode cX3_strain 27 = .ok (.iastore, 1) := by decide +kernel
theorem dX3_strain_28 : decode cX3_strain 28 = .ok (.dup, 1) := by decide +kernel
theorem dX3_strain_29 : decode cX3_strain 29 = .ok (.iconst 5, 1) := by decide +kernel
theorem dX3_strain_30 : decode cX3_strain 30 = .ok (.bipush (-7), 2) := by decide +kernel
theorem dX3_strain_32 : decode cX3_strain 32 = .ok (.iastore, 1) := by decide +kernel
theorem dX3_strain_33 : decode cX3_strain 33 = .ok (.dup, 1) := by decide +kernel
theorem dX3_strain_34 : decode cX3_strain 34 = .ok (.bipush 6, 2) := by decide +kernel
theorem dX3_strain_36 : decode cX3_strain 36 = .ok (.iconst 0, 1) := by decide +kernel
theorem dX3_strain_37 : decode cX3_strain 37 = .ok (.iastore, 1) := by decide +kernel
theorem dX3_strain_38 : decode cX3_strain 38 = .ok (.dup, 1) := by decide +kernel
theorem dX3_strain_39 : decode cX3_strain 39 = .ok (.bipush 7, 2) := by decide +kernel
theorem dX3_strain_41 : decode cX3_strain 41 = .ok (.bipush 7, 2) := by decide +kernel
theorem dX3_strain_43 : decode cX3_strain 43 = .ok (.iastore, 1) := by decide +kernel
theorem dX3_strain_44 : decode cX3_strain 44 = .ok (.astore_n 2, 1) := by decide +kernel
theorem dX3_strain_45 : decode cX3_strain 45 = .ok (.aload_n 2, 1) := by decide +kernel
theorem dX3_strain_46 : decode cX3_strain 46 = .ok (.aload_n 0, 1) := by decide +kernel
theorem dX3_strain_47 : decode cX3_strain 47 = .ok (.getfield 21, 3) := by decide +kernel
theorem dX3_strain_50 : decode cX3_strain 50 = .ok (.bipush 8, 2) := by decide +kernel
theorem dX3_strain_52 : decode cX3_strain 52 = .ok (.iadd, 1) := by decide +kernel
theorem dX3_strain_53 : decode cX3_strain 53 = .ok (.iconst 2, 1) := by decide +kernel
theorem dX3_strain_54 : decode cX3_strain 54 = .ok (.iload_n 1, 1) := by decide +kernel
theorem dX3_strain_55 : decode cX3_strain 55 = .ok (.imul, 1) := by decide +kernel
theorem dX3_strain_56 : decode cX3_strain 56 = .ok (.isub, 1) := by decide +kernel
theorem dX3_strain_57 : decode cX3_strain 57 = .ok (.bipush 8, 2) := by decide +kernel
theorem dX3_strain_59 : decode cX3_strain 59 = .ok (.irem, 1) := by decide +kernel
theorem dX3_strain_60 : decode cX3_strain 60 = .ok (.iaload, 1) := by decide +kernel
theorem dX3_strain_61 : decode cX3_strain 61 = .ok (.istore_n 3, 1) := by decide +kernel
theorem dX3_strain_62 : decode cX3_strain 62 = .ok (.bipush 20, 2) := by decide +kernel
theorem dX3_strain_64 : decode cX3_strain 64 = .ok (.bipush 10, 2) := by decide +kernel
theorem dX3_strain_66 : decode cX3_strain 66 = .ok (.aload_n 0, 1) := by decide +kernel
theorem dX3_strain_67 : decode cX3_strain 67 = .ok (.getfield 13, 3) := by decide +kernel
theorem dX3_strain_70 : decode cX3_strain 70 = .ok (.iload_n 1, 1) := by decide +kernel
theorem dX3_strain_71 : decode cX3_strain 71 = .ok (.iaload, 1) := by decide +kernel
theorem dX3_strain_72 : decode cX3_strain 72 = .ok (.imul, 1) := by decide +kernel
theorem dX3_strain_73 : decode cX3_strain 73 = .ok (.iadd, 1) := by decide +kernel
theorem dX3_strain_74 : decode cX3_strain 74 = .ok (.istore 4, 2) := by decide +kernel
theorem dX3_strain_76 : decode cX3_strain 76 = .ok (.aload_n 0, 1) := by decide +kernel
theorem dX3_strain_77 : decode cX3_strain 77 = .ok (.getfield 24, 3) := by decide +kernel
theorem dX3_strain_80 : decode cX3_strain 80 = .ok (.aload_n 0, 1) := by decide +kernel
theorem dX3_strain_81 : decode cX3_strain 81 = .ok (.getfield 7, 3) := by decide +kernel
theorem dX3_strain_84 : decode cX3_strain 84 = .ok (.imul, 1) := by decide +kernel
theorem dX3_strain_85 : decode cX3_strain 85 = .ok (.iload_n 3, 1) := by decide +kernel
theorem dX3_strain_86 : decode cX3_strain 86 = .ok (.imul, 1) := by decide +kernel
theorem dX3_strain_87 : decode cX3_strain 87 = .ok (.aload_n 0, 1) := by decide +kernel
theorem dX3_strain_88 : decode cX3_strain 88 = .ok (.getfield 24, 3) := by decide +kernel
theorem dX3_strain_91 : decode cX3_strain 91 = .ok (.iload 4, 2) := by decide +kernel
theorem dX3_strain_93 : decode cX3_strain 93 = .ok (.imul, 1) := by decide +kernel
theorem dX3_strain_94 : decode cX3_strain 94 = .ok (.isub, 1) := by decide +kernel
theorem dX3_strain_95 : decode cX3_strain 95 = .ok (.bipush 8, 2) := by decide +kernel
theorem dX3_strain_97 : decode cX3_strain 97 = .ok (.aload_n 0, 1) := by decide +kernel
theorem dX3_strain_98 : decode cX3_strain 98 = .ok (.getfield 27, 3) := by decide +kernel
theorem dX3_strain_101 : decode cX3_strain 101 = .ok (.imul, 1) := by decide +kernel
theorem dX3_strain_102 : decode cX3_strain 102 = .ok (.iload_n 3, 1) := by decide +kernel
theorem dX3_strain_103 : decode cX3_strain 103 = .ok (.imul, 1) := by decide +kernel
theorem dX3_strain_104 : decode cX3_strain 104 = .ok (.isub, 1) := by decide +kernel
theorem dX3_strain_105 : decode cX3_strain 105 = .ok (.iconst 2, 1) := by decide +kernel
theorem dX3_strain_106 : decode cX3_strain 106 = .ok (.aload_n 0, 1) := by decide +kernel
theorem dX3_strain_107 : decode cX3_strain 107 = .ok (.getfield 27, 3) := by decide +kernel
theorem dX3_strain_110 : decode cX3_strain 110 = .ok (.imul, 1) := by decide +kernel
theorem dX3_strain_111 : decode cX3_strain 111 = .ok (.iload 4, 2) := by decide +kernel
theorem dX3_strain_113 : decode cX3_strain 113 = .ok (.imul, 1) := by decide +kernel
theorem dX3_strain_114 : decode cX3_strain 114 = .ok (.isub, 1) := by decide +kernel
theorem dX3_strain_115 : decode cX3_strain 115 = .ok (.bipush 20, 2) := by decide +kernel
theorem dX3_strain_117 : decode cX3_strain 117 = .ok (.iload 4, 2) := by decide +kernel
theorem dX3_strain_119 : decode cX3_strain 119 = .ok (.imul, 1) := by decide +kernel
theorem dX3_strain_120 : decode cX3_strain 120 = .ok (.isub, 1) := by decide +kernel
theorem dX3_strain_121 : decode cX3_strain 121 = .ok (.ireturn, 1) := by decide +kernel
set_option maxRecDepth 20000 in
theorem ggX3_isSafe_X3_strain : GoodIn wsX3_isSafe wsX3_strain := goodIn_r _ [8, 9, 10, 11, 1, 3, 12, 13, 14, 15, 16, 17, 18, 19, 20, 21] (by decide +kernel) (by decide +kernel)
set_option maxRecDepth 20000 in
theorem gX3_isSafe_X3_strain : GoodIn wsX3_isSafe (wsV RX3 44 RX3 yX3_strain wsX3_strain) := goodIn_app (goodIn_of _ (by decide +kernel)) ggX3_isSafe_X3_strain
theorem dX3_isSafe_0 : decode cX3_isSafe 0 = .ok (.aload_n 0, 1) := by decide +kernel
theorem dX3_isSafe_1 : decode cX3_isSafe 1 = .ok (.iconst 0, 1) := by decide +kernel
theorem dX3_isSafe_2 : decode cX3_isSafe 2 = .ok (.invokevirtual 44, 3) := by decide +kernel
theorem dX3_isSafe_5 : decode cX3_isSafe 5 = .ok (.ifCond .gt 47, 3) := by decide +kernel
theorem dX3_isSafe_8 : decode cX3_isSafe 8 = .ok (.aload_n 0, 1) := by decide +kernel
theorem dX3_isSafe_9 : decode cX3_isSafe 9 = .ok (.iconst 1, 1) := by decide +kernel
theorem dX3_isSafe_10 : decode cX3_isSafe 10 = .ok (.invokevirtual 44, 3) := by decide +kernel
theorem dX3_isSafe_13 : decode cX3_isSafe 13 = .ok (.ifCond .gt 39, 3) := by decide +kernel
theorem dX3_isSafe_16 : decode cX3_isSafe 16 = .ok (.aload_n 0, 1) := by decide +kernel
theorem dX3_isSafe_17 : decode cX3_isSafe 17 = .ok (.iconst 2, 1) := by decide +kernel
theorem dX3_isSafe_18 : decode cX3_isSafe 18 = .ok (.invokevirtual 44, 3) := by decide +kernel
theorem dX3_isSafe_21 : decode cX3_isSafe 21 = .ok (.ifCond .gt 31, 3) := by decide +kernel
theorem dX3_isSafe_24 : decode cX3_isSafe 24 = .ok (.aload_n 0, 1) := by decide +kernel
theorem dX3_isSafe_25 : decode cX3_isSafe 25 = .ok (.iconst 3, 1) := by decide +kernel
theorem dX3_isSafe_26 : decode cX3_isSafe 26 = .ok (.invokevirtual 44, 3) := by decide +kernel
theorem dX3_isSafe_29 : decode cX3_isSafe 29 = .ok (.ifCond .gt 23, 3) := by decide +kernel
theorem dX3_isSafe_32 : decode cX3_isSafe 32 = .ok (.aload_n 0, 1) := by decide +kernel
theorem dX3_isSafe_33 : decode cX3_isSafe 33 = .ok (.getfield 24, 3) := by decide +kernel
theorem dX3_isSafe_36 : decode cX3_isSafe 36 = .ok (.aload_n 0, 1) := by decide +kernel
theorem dX3_isSafe_37 : decode cX3_isSafe 37 = .ok (.getfield 17, 3) := by decide +kernel
theorem dX3_isSafe_40 : decode cX3_isSafe 40 = .ok (.aload_n 0, 1) := by decide +kernel
theorem dX3_isSafe_41 : decode cX3_isSafe 41 = .ok (.getfield 7, 3) := by decide +kernel
theorem dX3_isSafe_44 : decode cX3_isSafe 44 = .ok (.iaload, 1) := by decide +kernel
theorem dX3_isSafe_45 : decode cX3_isSafe 45 = .ok (.if_icmp .gt 7, 3) := by decide +kernel
theorem dX3_isSafe_48 : decode cX3_isSafe 48 = .ok (.iconst 1, 1) := by decide +kernel
theorem dX3_isSafe_49 : decode cX3_isSafe 49 = .ok (.goto 4, 3) := by decide +kernel
theorem dX3_isSafe_52 : decode cX3_isSafe 52 = .ok (.iconst 0, 1) := by decide +kernel
theorem dX3_isSafe_53 : decode cX3_isSafe 53 = .ok (.ireturn, 1) := by decide +kernel
set_option maxRecDepth 20000 in
theorem ggX3_isSafe__X3_isSafe : GoodIn wsX3_isSafe_ wsX3_isSafe := goodIn_r _ [9, 2, 10, 4, 11, 12, 13, 8, 14, 1, 3, 15, 16, 17, 18, 19, 20, 21, 22, 23, 24, 25] (by decide +kernel) (by decide +kernel)
set_option maxRecDepth 20000 in
theorem gX3_isSafe__X3_isSafe : GoodIn wsX3_isSafe_ (wsV RX3 48 RX3 yX3_isSafe wsX3_isSafe) := goodIn_app (goodIn_of _ (by decide +kernel)) ggX3_isSafe__X3_isSafe
theorem dX3_isSafe__0 : decode cX3_isSafe_ 0 = .ok (.iconst 3, 1) := by decide +kernel
theorem dX3_isSafe__1 : decode cX3_isSafe_ 1 = .ok (.newarray .int, 2) := by decide +kernel
theorem dX3_isSafe__3 : decode cX3_isSafe_ 3 = .ok (.dup, 1) := by decide +kernel
theorem dX3_isSafe__4 : decode cX3_isSafe_ 4 = .ok (.iconst 0, 1) := by decide +kernel
theorem dX3_isSafe__5 : decode cX3_isSafe_ 5 = .ok (.aload_n 0, 1) := by decide +kernel
theorem dX3_isSafe__6 : decode cX3_isSafe_ 6 = .ok (.getfield 24, 3) := by decide +kernel
theorem dX3_isSafe__9 : decode cX3_isSafe_ 9 = .ok (.iastore, 1) := by decide +kernel
theorem dX3_isSafe__10 : decode cX3_isSafe_ 10 = .ok (.dup, 1) := by decide +kernel
theorem dX3_isSafe__11 : decode cX3_isSafe_ 11 = .ok (.iconst 1, 1) := by decide +kernel
theorem dX3_isSafe__12 : decode cX3_isSafe_ 12 = .ok (.aload_n 0, 1) := by decide +kernel
theorem dX3_isSafe__13 : decode cX3_isSafe_ 13 = .ok (.getfield 21, 3) := by decide +kernel
theorem dX3_isSafe__16 : decode cX3_isSafe_ 16 = .ok (.iastore, 1) := by decide +kernel
theorem dX3_isSafe__17 : decode cX3_isSafe_ 17 = .ok (.dup, 1) := by decide +kernel
theorem dX3_isSafe__18 : decode cX3_isSafe_ 18 = .ok (.iconst 2, 1) := by decide +kernel
theorem dX3_isSafe__19 : decode cX3_isSafe_ 19 = .ok (.aload_n 0, 1) := by decide +kernel
theorem dX3_isSafe__20 : decode cX3_isSafe_ 20 = .ok (.getfield 7, 3) := by decide +kernel
theorem dX3_isSafe__23 : decode cX3_isSafe_ 23 = .ok (.iastore, 1) := by decide +kernel
theorem dX3_isSafe__24 : decode cX3_isSafe_ 24 = .ok (.astore 4, 2) := by decide +kernel
theorem dX3_isSafe__26 : decode cX3_isSafe_ 26 = .ok (.aload_n 0, 1) := by decide +kernel
theorem dX3_isSafe__27 : decode cX3_isSafe_ 27 = .ok (.iload_n 1, 1) := by decide +kernel
theorem dX3_isSafe__28 : decode cX3_isSafe_ 28 = .ok (.putfield 24, 3) := by decide +kernel
theorem dX3_isSafe__31 : decode cX3_isSafe_ 31 = .ok (.aload_n 0, 1) := by decide +kernel
theorem dX3_isSafe__32 : decode cX3_isSafe_ 32 = .ok (.iload_n 2, 1) := by decide +kernel
theorem dX3_isSafe__33 : decode cX3_isSafe_ 33 = .ok (.putfield 21, 3) := by decide +kernel
theorem dX3_isSafe__36 : decode cX3_isSafe_ 36 = .ok (.aload_n 0, 1) := by decide +kernel
theorem dX3_isSafe__37 : decode cX3_isSafe_ 37 = .ok (.iload_n 3, 1) := by decide +kernel
theorem dX3_isSafe__38 : decode cX3_isSafe_ 38 = .ok (.putfield 7, 3) := by decide +kernel
theorem dX3_isSafe__41 : decode cX3_isSafe_ 41 = .ok (.aload_n 0, 1) := by decide +kernel
theorem dX3_isSafe__42 : decode cX3_isSafe_ 42 = .ok (.invokevirtual 48, 3) := by decide +kernel
theorem dX3_isSafe__45 : decode cX3_isSafe_ 45 = .ok (.istore 5, 2) := by decide +kernel
theorem dX3_isSafe__47 : decode cX3_isSafe_ 47 = .ok (.aload_n 0, 1) := by decide +kernel
theorem dX3_isSafe__48 : decode cX3_isSafe_ 48 = .ok (.aload 4, 2) := by decide +kernel
theorem dX3_isSafe__50 : decode cX3_isSafe_ 50 = .ok (.iconst 0, 1) := by decide +kernel
theorem dX3_isSafe__51 : decode cX3_isSafe_ 51 = .ok (.iaload, 1) := by decide +kernel
theorem dX3_isSafe__52 : decode cX3_isSafe_ 52 = .ok (.putfield 24, 3) := by decide +kernel
theorem dX3_isSafe__55 : decode cX3_isSafe_ 55 = .ok (.aload_n 0, 1) := by decide +kernel
theorem dX3_isSafe__56 : decode cX3_isSafe_ 56 = .ok (.aload 4, 2) := by decide +kernel
theorem dX3_isSafe__58 : decode cX3_isSafe_ 58 = .ok (.iconst 1, 1) := by decide +kernel
theorem dX3_isSafe__59 : decode cX3_isSafe_ 59 = .ok (.iaload, 1) := by decide +kernel
theorem dX3_isSafe__60 : decode cX3_isSafe_ 60 = .ok (.putfield 21, 3) := by decide +kernel
theorem dX3_isSafe__63 : decode cX3_isSafe_ 63 = .ok (.aload_n 0, 1) := by decide +kernel
theorem dX3_isSafe__64 : decode cX3_isSafe_ 64 = .ok (.aload 4, 2) := by decide +kernel
theorem dX3_isSafe__66 : decode cX3_isSafe_ 66 = .ok (.iconst 2, 1) := by decide +kernel
theorem dX3_isSafe__67 : decode cX3_isSafe_ 67 = .ok (.iaload, 1) := by decide +kernel
theorem dX3_isSafe__68 : decode cX3_isSafe_ 68 = .ok (.putfield 7, 3) := by decide +kernel
theorem dX3_isSafe__71 : decode cX3_isSafe_ 71 = .ok (.iload 5, 2) := by decide +kernel
theorem dX3_isSafe__73 : decode cX3_isSafe_ 73 = .ok (.ireturn, 1) := by decide +kernel
set_option maxRecDepth 20000 in
theorem ggX3_with_X3_copy : GoodIn wsX3_with wsX3_copy := goodIn_r _ [8, 9, 10, 7, 2, 3, 1, 11, 12, 13, 14, 15, 16, 17, 18, 19, 20, 21, 22, 23, 24, 25, 26, 27, 28, 29, 30, 31, 32, 33, 34, 35, 36, 37, 38] (by decide +kernel) (by decide +kernel)
set_option maxRecDepth 20000 in
theorem gX3_with_X3_copy : GoodIn wsX3_with (wsV RX3 52 RX3 yX3_copy wsX3_copy) := goodIn_app (goodIn_of _ (by decide +kernel)) ggX3_with_X3_copy
theorem dX3_with_0 : decode cX3_with 0 = .ok (.aload_n 0, 1) := by decide +kernel
theorem dX3_with_1 : decode cX3_with 1 = .ok (.invokevirtual 52, 3) := by decide +kernel
theorem dX3_with_4 : decode cX3_with 4 = .ok (.astore 4, 2) := by decide +kernel
theorem dX3_with_6 : decode cX3_with 6 = .ok (.aload 4, 2) := by decide +kernel
theorem dX3_with_8 : decode cX3_with 8 = .ok (.iload_n 1, 1) := by decide +kernel
theorem dX3_with_9 : decode cX3_with 9 = .ok (.putfield 24, 3) := by decide +kernel
theorem dX3_with_12 : decode cX3_with 12 = .ok (.aload 4, 2) := by decide +kernel
theorem dX3_with_14 : decode cX3_with 14 = .ok (.iload_n 2, 1) := by decide +kernel
theorem dX3_with_15 : decode cX3_with 15 = .ok (.putfield 21, 3) := by decide +kernel
theorem dX3_with_18 : decode cX3_with 18 = .ok (.aload 4, 2) := by decide +kernel
theorem dX3_with_20 : decode cX3_with 20 = .ok (.iload_n 3, 1) := by decide +kernel
theorem dX3_with_21 : decode cX3_with 21 = .ok (.putfield 7, 3) := by decide +kernel
theorem dX3_with_24 : decode cX3_with 24 = .ok (.aload 4, 2) := by decide +kernel
theorem dX3_with_26 : decode cX3_with 26 = .ok (.areturn, 1) := by decide +kernel
set_option maxRecDepth 20000 in
theorem ggX3_greatest_X3_isSafe_ : GoodIn wsX3_greatest wsX3_isSafe_ := goodIn_r _ [7, 8, 9, 1, 2, 10, 11, 12, 6, 13, 14, 15, 16, 17, 18, 19, 20, 21, 22, 23, 24, 25, 26, 27, 28, 29] (by decide +kernel) (by decide +kernel)
set_option maxRecDepth 20000 in
theorem gX3_greatest_X3_isSafe_ : GoodIn wsX3_greatest (wsV RX3 58 RX3 yX3_isSafe_ wsX3_isSafe_) := goodIn_app (goodIn_of _ (by decide +kernel)) ggX3_greatest_X3_isSafe_
theorem dX3_greatest_0 : decode cX3_greatest 0 = .ok (.iconst (-1), 1) := by decide +kernel
theorem dX3_greatest_1 : decode cX3_greatest 1 = .ok (.istore_n 1, 1) := by decide +kernel
theorem dX3_greatest_2 : decode cX3_greatest 2 = .ok (.iconst 0, 1) := by decide +kernel
theorem dX3_greatest_3 : decode cX3_greatest 3 = .ok (.istore_n 2, 1) := by decide +kernel
theorem dX3_greatest_4 : decode cX3_greatest 4 = .ok (.iload_n 2, 1) := by decide +kernel
theorem dX3_greatest_5 : decode cX3_greatest 5 = .ok (.bipush 61, 2) := by decide +kernel
theorem dX3_greatest_7 : decode cX3_greatest 7 = .ok (.if_icmp .ge 27, 3) := by decide +kernel
theorem dX3_greatest_10 : decode cX3_greatest 10 = .ok (.aload_n 0, 1) := by decide +kernel
theorem dX3_greatest_11 : decode cX3_greatest 11 = .ok (.iload_n 2, 1) := by decide +kernel
theorem dX3_greatest_12 : decode cX3_greatest 12 = .ok (.aload_n 0, 1) := by decide +kernel
theorem dX3_greatest_13 : decode cX3_greatest 13 = .ok (.getfield 21, 3) := by decide +kernel
theorem dX3_greatest_16 : decode cX3_greatest 16 = .ok (.aload_n 0, 1) := by decide +kernel
theorem dX3_greatest_17 : decode cX3_greatest 17 = .ok (.getfield 7, 3) := by decide +kernel
theorem dX3_greatest_20 : decode cX3_greatest 20 = .ok (.invokevirtual 58, 3) := by decide +kernel
theorem dX3_greatest_23 : decode cX3_greatest 23 = .ok (.ifCond .eq 5, 3) := by decide +kernel
theorem dX3_greatest_26 : decode cX3_greatest 26 = .ok (.iload_n 2, 1) := by decide +kernel
theorem dX3_greatest_27 : decode cX3_greatest 27 = .ok (.istore_n 1, 1) := by decide +kernel
theorem dX3_greatest_28 : decode cX3_greatest 28 = .ok (.iinc 2 1, 3) := by decide +kernel
theorem dX3_greatest_31 : decode cX3_greatest 31 = .ok (.goto (-27), 3) := by decide +kernel
theorem dX3_greatest_34 : decode cX3_greatest 34 = .ok (.iload_n 1, 1) := by decide +kernel
theorem dX3_greatest_35 : decode cX3_greatest 35 = .ok (.ireturn, 1) := by decide +kernel
set_option maxRecDepth 20000 in
theorem ggX3_isSame_X2_outrigger : GoodIn wsX3_isSame wsX2_outrigger := goodIn_ca (goodIn_r _ [14, 15, 16, 17, 13, 18, 19, 20, 21, 22, 23, 24, 25, 26, 27, 28, 29, 140, 141, 142, 143, 144, 145, 146, 147, 148, 149, 150, 151] (by decide +kernel) (by decide +kernel)) (goodIn_sub (fun _ h => List.mem_cons_of_mem _ (List.mem_append_left _ (List.mem_append_right _ h))) (by decide +kernel))
set_option maxRecDepth 20000 in
theorem gX3_isSame_X2_outrigger : GoodIn wsX3_isSame (wsV RX3 71 RX2 yX2_outrigger wsX2_outrigger) := goodIn_app (goodIn_of _ (by decide +kernel)) ggX3_isSame_X2_outrigger
set_option maxRecDepth 20000 in
theorem ggX3_isSame_X2_strainOn : GoodIn wsX3_isSame wsX2_strainOn := goodIn_ca (goodIn_r _ [33, 15, 34, 35, 36, 16, 17, 13, 18, 19, 20, 21, 22, 23, 37, 38, 39, 27, 40, 41, 42, 25, 26, 28, 29, 43, 44, 45, 140, 141, 142, 143, 144, 145, 146, 147, 148, 149, 150, 151] (by decide +kernel) (by decide +kernel)) (goodIn_sub (fun _ h => List.mem_cons_of_mem _ (List.mem_append_left _ (List.mem_append_right _ h))) (by decide +kernel))
set_option maxRecDepth 20000 in
theorem gX3_isSame_X2_strainOn : GoodIn wsX3_isSame (wsV RX3 76 RX2 yX2_strainOn wsX2_strainOn) := goodIn_app (goodIn_of _ (by decide +kernel)) ggX3_isSame_X2_strainOn
set_option maxRecDepth 20000 in
theorem ggX3_isSame_X3_strain : GoodIn wsX3_isSame wsX3_strain := goodIn_r _ [50, 51, 3, 1, 5, 4, 6, 131, 132, 133, 134, 135, 136, 137, 138, 139] (by decide +kernel) (by decide +kernel)
set_option maxRecDepth 20000 in
theorem gX3_isSame_X3_strain : GoodIn wsX3_isSame (wsV RX3 44 RX3 yX3_strain wsX3_strain) := goodIn_app (goodIn_of _ (by decide +kernel)) ggX3_isSame_X3_strain
set_option maxRecDepth 20000 in
theorem ggX3_isSame_X2_limitAt : GoodIn wsX3_isSame wsX2_limitAt := goodIn_ca (goodIn_r _ [55, 15, 56, 57, 13, 58, 59, 60, 61, 62, 63, 21, 22, 23, 64, 65, 66, 27, 67, 68, 140, 141, 142, 143, 144, 145, 146, 147, 148, 149, 150, 151] (by decide +kernel) (by decide +kernel)) (goodIn_sub (fun _ h => List.mem_cons_of_mem _ (List.mem_append_right _ h)) (by decide +kernel))
set_option maxRecDepth 20000 in
theorem gX3_isSame_X2_limitAt : GoodIn wsX3_isSame (wsV RX3 79 RX2 yX2_limitAt wsX2_limitAt) := goodIn_app (goodIn_of _ (by decide +kernel)) ggX3_isSame_X2_limitAt
set_option maxRecDepth 20000 in
theorem ggX3_isSame_X2_direction : GoodIn wsX3_isSame wsX2_direction := goodIn_r _ [72, 35, 140, 141, 142, 143, 144, 145, 146, 147, 148] (by decide +kernel) (by decide +kernel)
set_option maxRecDepth 20000 in
theorem gX3_isSame_X2_direction : GoodIn wsX3_isSame (wsV RX3 82 RX2 yX2_direction wsX2_direction) := goodIn_app (goodIn_of _ (by decide +kernel)) ggX3_isSame_X2_direction
set_option maxRecDepth 20000 in
theorem ggX3_isSame_X2_reach : GoodIn wsX3_isSame wsX2_reach := goodIn_r _ [76, 36, 140, 141, 142, 143, 144, 145, 146, 147, 148] (by decide +kernel) (by decide +kernel)
set_option maxRecDepth 20000 in
theorem gX3_isSame_X2_reach : GoodIn wsX3_isSame (wsV RX3 85 RX2 yX2_reach wsX2_reach) := goodIn_app (goodIn_of _ (by decide +kernel)) ggX3_isSame_X2_reach
set_option maxRecDepth 20000 in
theorem ggX3_isSame_X2_load : GoodIn wsX3_isSame wsX2_load := goodIn_r _ [80, 34, 140, 141, 142, 143, 144, 145, 146, 147, 148] (by decide +kernel) (by decide +kernel)
set_option maxRecDepth 20000 in
theorem gX3_isSame_X2_load : GoodIn wsX3_isSame (wsV RX3 87 RX2 yX2_load wsX2_load) := goodIn_app (goodIn_of _ (by decide +kernel)) ggX3_isSame_X2_load
set_option maxRecDepth 20000 in
theorem ggX3_isSame_X2_plates : GoodIn wsX3_isSame wsX2_plates := goodIn_r _ [84, 15, 85, 140, 141, 142, 143, 144, 145, 146, 147, 148, 149, 150, 151] (by decide +kernel) (by decide +kernel)
set_option maxRecDepth 20000 in
theorem gX3_isSame_X2_plates : GoodIn wsX3_isSame (wsV RX3 89 RX2 yX2_plates wsX2_plates) := goodIn_app (goodIn_of _ (by decide +kernel)) ggX3_isSame_X2_plates
set_option maxRecDepth 20000 in
theorem ggX3_isSame_X2_weakestSide : GoodIn wsX3_isSame wsX2_weakestSide := goodIn_r _ [89, 15, 34, 35, 36, 37, 38, 39, 27, 40, 41, 42, 25, 26, 28, 29, 43, 44, 45, 140, 141, 142, 143, 144, 145, 146, 147, 148, 149, 150, 151] (by decide +kernel) (by decide +kernel)
set_option maxRecDepth 20000 in
theorem gX3_isSame_X2_weakestSide : GoodIn wsX3_isSame (wsV RX3 91 RX2 yX2_weakestSide wsX2_weakestSide) := goodIn_app (goodIn_of _ (by decide +kernel)) ggX3_isSame_X2_weakestSide
set_option maxRecDepth 20000 in
theorem ggX3_isSame_X2_lifts : GoodIn wsX3_isSame wsX2_lifts := goodIn_r _ [93, 94, 140, 141, 142, 143, 144, 145, 146, 147, 148] (by decide +kernel) (by decide +kernel)
set_option maxRecDepth 20000 in
theorem gX3_isSame_X2_lifts : GoodIn wsX3_isSame (wsV RX3 94 RX2 yX2_lifts wsX2_lifts) := goodIn_app (goodIn_of _ (by decide +kernel)) ggX3_isSame_X2_lifts
set_option maxRecDepth 20000 in
theorem ggX3_isSame_X2_tonsLifted : GoodIn wsX3_isSame wsX2_tonsLifted := goodIn_r _ [98, 99, 140, 141, 142, 143, 144, 145, 146, 147, 148] (by decide +kernel) (by decide +kernel)
set_option maxRecDepth 20000 in
theorem gX3_isSame_X2_tonsLifted : GoodIn wsX3_isSame (wsV RX3 96 RX2 yX2_tonsLifted wsX2_tonsLifted) := goodIn_app (goodIn_of _ (by decide +kernel)) ggX3_isSame_X2_tonsLifted
set_option maxRecDepth 20000 in
theorem ggX3_isSame_X2_movesWithLoad : GoodIn wsX3_isSame wsX2_movesWithLoad := goodIn_r _ [103, 104, 140, 141, 142, 143, 144, 145, 146, 147, 148] (by decide +kernel) (by decide +kernel)
set_option maxRecDepth 20000 in
theorem gX3_isSame_X2_movesWithLoad : GoodIn wsX3_isSame (wsV RX3 99 RX2 yX2_movesWithLoad wsX2_movesWithLoad) := goodIn_app (goodIn_of _ (by decide +kernel)) ggX3_isSame_X2_movesWithLoad
set_option maxRecDepth 20000 in
theorem ggX3_isSame_X2_greatestLoad : GoodIn wsX3_isSame wsX2_greatestLoad := goodIn_r _ [108, 15, 35, 36, 109, 110, 111, 27, 112, 113, 65, 66, 67, 68, 114, 38, 39, 40, 41, 42, 25, 26, 28, 29, 43, 44, 45, 140, 141, 142, 143, 144, 145, 146, 147, 148, 149, 150, 151] (by decide +kernel) (by decide +kernel)
set_option maxRecDepth 20000 in
theorem gX3_isSame_X2_greatestLoad : GoodIn wsX3_isSame (wsV RX3 102 RX2 yX2_greatestLoad wsX2_greatestLoad) := goodIn_app (goodIn_of _ (by decide +kernel)) ggX3_isSame_X2_greatestLoad
set_option maxRecDepth 20000 in
theorem ggX3_isSame_X3_greatest : GoodIn wsX3_isSame wsX3_greatest := goodIn_r _ [118, 3, 4, 119, 120, 121, 49, 122, 51, 5, 123, 124, 125, 126, 2, 46, 47, 48, 50, 1, 6, 131, 132, 133, 134, 135, 136, 137, 138, 139] (by decide +kernel) (by decide +kernel)
set_option maxRecDepth 20000 in
theorem gX3_isSame_X3_greatest : GoodIn wsX3_isSame (wsV RX3 105 RX3 yX3_greatest wsX3_greatest) := goodIn_app (goodIn_of _ (by decide +kernel)) ggX3_isSame_X3_greatest
set_option maxRecDepth 20000 in
theorem ggX3_isSame_X2_meanLoad : GoodIn wsX3_isSame wsX2_meanLoad := goodIn_r _ [130, 94, 99, 140, 141, 142, 143, 144, 145, 146, 147, 148] (by decide +kernel) (by decide +kernel)
set_option maxRecDepth 20000 in
theorem gX3_isSame_X2_meanLoad : GoodIn wsX3_isSame (wsV RX3 108 RX2 yX2_meanLoad wsX2_meanLoad) := goodIn_app (goodIn_of _ (by decide +kernel)) ggX3_isSame_X2_meanLoad
theorem dX3_isSame_0 : decode cX3_isSame 0 = .ok (.iconst 3, 1) := by decide +kernel
theorem dX3_isSame_1 : decode cX3_isSame 1 = .ok (.istore_n 2, 1) := by decide +kernel
theorem dX3_isSame_2 : decode cX3_isSame 2 = .ok (.iconst 3, 1) := by decide +kernel
theorem dX3_isSame_3 : decode cX3_isSame 3 = .ok (.istore_n 3, 1) := by decide +kernel
theorem dX3_isSame_4 : decode cX3_isSame 4 = .ok (.iload_n 3, 1) := by decide +kernel
theorem dX3_isSame_5 : decode cX3_isSame 5 = .ok (.ifCond .lt 53, 3) := by decide +kernel
theorem dX3_isSame_8 : decode cX3_isSame 8 = .ok (.aload_n 1, 1) := by decide +kernel
theorem dX3_isSame_9 : decode cX3_isSame 9 = .ok (.iload_n 3, 1) := by decide +kernel
theorem dX3_isSame_10 : decode cX3_isSame 10 = .ok (.invokevirtual 71, 3) := by decide +kernel
theorem dX3_isSame_13 : decode cX3_isSame 13 = .ok (.aload_n 0, 1) := by decide +kernel
theorem dX3_isSame_14 : decode cX3_isSame 14 = .ok (.getfield 13, 3) := by decide +kernel
theorem dX3_isSame_17 : decode cX3_isSame 17 = .ok (.iload_n 3, 1) := by decide +kernel
theorem dX3_isSame_18 : decode cX3_isSame 18 = .ok (.iaload, 1) := by decide +kernel
theorem dX3_isSame_19 : decode cX3_isSame 19 = .ok (.if_icmp .ne 16, 3) := by decide +kernel
theorem dX3_isSame_22 : decode cX3_isSame 22 = .ok (.aload_n 1, 1) := by decide +kernel
theorem dX3_isSame_23 : decode cX3_isSame 23 = .ok (.iload_n 3, 1) := by decide +kernel
theorem dX3_isSame_24 : decode cX3_isSame 24 = .ok (.invokevirtual 76, 3) := by decide +kernel
theorem dX3_isSame_27 : decode cX3_isSame 27 = .ok (.aload_n 0, 1) := by decide +kernel
theorem dX3_isSame_28 : decode cX3_isSame 28 = .ok (.iload_n 3, 1) := by decide +kernel
theorem dX3_isSame_29 : decode cX3_isSame 29 = .ok (.invokevirtual 44, 3) := by decide +kernel
theorem dX3_isSame_32 : decode cX3_isSame 32 = .ok (.if_icmp .eq 5, 3) := by decide +kernel
theorem dX3_isSame_35 : decode cX3_isSame 35 = .ok (.iconst 0, 1) := by decide +kernel
theorem dX3_isSame_36 : decode cX3_isSame 36 = .ok (.ireturn, 1) := by decide +kernel
theorem dX3_isSame_37 : decode cX3_isSame 37 = .ok (.aload_n 0, 1) := by decide +kernel
theorem dX3_isSame_38 : decode cX3_isSame 38 = .ok (.iload_n 3, 1) := by decide +kernel
theorem dX3_isSame_39 : decode cX3_isSame 39 = .ok (.invokevirtual 44, 3) := by decide +kernel
theorem dX3_isSame_42 : decode cX3_isSame 42 = .ok (.aload_n 0, 1) := by decide +kernel
theorem dX3_isSame_43 : decode cX3_isSame 43 = .ok (.iload_n 2, 1) := by decide +kernel
theorem dX3_isSame_44 : decode cX3_isSame 44 = .ok (.invokevirtual 44, 3) := by decide +kernel
theorem dX3_isSame_47 : decode cX3_isSame 47 = .ok (.if_icmp .lt 5, 3) := by decide +kernel
theorem dX3_isSame_50 : decode cX3_isSame 50 = .ok (.iload_n 3, 1) := by decide +kernel
theorem dX3_isSame_51 : decode cX3_isSame 51 = .ok (.istore_n 2, 1) := by decide +kernel
theorem dX3_isSame_52 : decode cX3_isSame 52 = .ok (.iinc 3 (-1), 3) := by decide +kernel
theorem dX3_isSame_55 : decode cX3_isSame 55 = .ok (.goto (-51), 3) := by decide +kernel
theorem dX3_isSame_58 : decode cX3_isSame 58 = .ok (.iconst 3, 1) := by decide +kernel
theorem dX3_isSame_59 : decode cX3_isSame 59 = .ok (.istore_n 3, 1) := by decide +kernel
theorem dX3_isSame_60 : decode cX3_isSame 60 = .ok (.iload_n 3, 1) := by decide +kernel
theorem dX3_isSame_61 : decode cX3_isSame 61 = .ok (.bipush 31, 2) := by decide +kernel
theorem dX3_isSame_63 : decode cX3_isSame 63 = .ok (.if_icmp .ge 25, 3) := by decide +kernel
theorem dX3_isSame_66 : decode cX3_isSame 66 = .ok (.aload_n 1, 1) := by decide +kernel
theorem dX3_isSame_67 : decode cX3_isSame 67 = .ok (.iload_n 3, 1) := by decide +kernel
theorem dX3_isSame_68 : decode cX3_isSame 68 = .ok (.invokevirtual 79, 3) := by decide +kernel
theorem dX3_isSame_71 : decode cX3_isSame 71 = .ok (.aload_n 0, 1) := by decide +kernel
theorem dX3_isSame_72 : decode cX3_isSame 72 = .ok (.getfield 17, 3) := by decide +kernel
theorem dX3_isSame_75 : decode cX3_isSame 75 = .ok (.iload_n 3, 1) := by decide +kernel
theorem dX3_isSame_76 : decode cX3_isSame 76 = .ok (.iaload, 1) := by decide +kernel
theorem dX3_isSame_77 : decode cX3_isSame 77 = .ok (.if_icmp .eq 5, 3) := by decide +kernel
theorem dX3_isSame_80 : decode cX3_isSame 80 = .ok (.iconst 0, 1) := by decide +kernel
theorem dX3_isSame_81 : decode cX3_isSame 81 = .ok (.ireturn, 1) := by decide +kernel
theorem dX3_isSame_82 : decode cX3_isSame 82 = .ok (.iinc 3 1, 3) := by decide +kernel
theorem dX3_isSame_85 : decode cX3_isSame 85 = .ok (.goto (-25), 3) := by decide +kernel
theorem dX3_isSame_88 : decode cX3_isSame 88 = .ok (.aload_n 1, 1) := by decide +kernel
theorem dX3_isSame_89 : decode cX3_isSame 89 = .ok (.invokevirtual 82, 3) := by decide +kernel
theorem dX3_isSame_92 : decode cX3_isSame 92 = .ok (.aload_n 0, 1) := by decide +kernel
theorem dX3_isSame_93 : decode cX3_isSame 93 = .ok (.getfield 21, 3) := by decide +kernel
theorem dX3_isSame_96 : decode cX3_isSame 96 = .ok (.if_icmp .ne 122, 3) := by decide +kernel
theorem dX3_isSame_99 : decode cX3_isSame 99 = .ok (.aload_n 1, 1) := by decide +kernel
theorem dX3_isSame_100 : decode cX3_isSame 100 = .ok (.invokevirtual 85, 3) := by decide +kernel
theorem dX3_isSame_103 : decode cX3_isSame 103 = .ok (.aload_n 0, 1) := by decide +kernel
theorem dX3_isSame_104 : decode cX3_isSame 104 = .ok (.getfield 7, 3) := by decide +kernel
theorem dX3_isSame_107 : decode cX3_isSame 107 = .ok (.if_icmp .ne 111, 3) := by decide +kernel
theorem dX3_isSame_110 : decode cX3_isSame 110 = .ok (.aload_n 1, 1) := by decide +kernel
theorem dX3_isSame_111 : decode cX3_isSame 111 = .ok (.invokevirtual 87, 3) := by decide +kernel
theorem dX3_isSame_114 : decode cX3_isSame 114 = .ok (.aload_n 0, 1) := by decide +kernel
theorem dX3_isSame_115 : decode cX3_isSame 115 = .ok (.getfield 24, 3) := by decide +kernel
theorem dX3_isSame_118 : decode cX3_isSame 118 = .ok (.if_icmp .ne 100, 3) := by decide +kernel
theorem dX3_isSame_121 : decode cX3_isSame 121 = .ok (.aload_n 1, 1) := by decide +kernel
theorem dX3_isSame_122 : decode cX3_isSame 122 = .ok (.invokevirtual 89, 3) := by decide +kernel
theorem dX3_isSame_125 : decode cX3_isSame 125 = .ok (.aload_n 0, 1) := by decide +kernel
theorem dX3_isSame_126 : decode cX3_isSame 126 = .ok (.getfield 27, 3) := by decide +kernel
theorem dX3_isSame_129 : decode cX3_isSame 129 = .ok (.if_icmp .ne 89, 3) := by decide +kernel
theorem dX3_isSame_132 : decode cX3_isSame 132 = .ok (.aload_n 1, 1) := by decide +kernel
theorem dX3_isSame_133 : decode cX3_isSame 133 = .ok (.invokevirtual 91, 3) := by decide +kernel
theorem dX3_isSame_136 : decode cX3_isSame 136 = .ok (.iload_n 2, 1) := by decide +kernel
theorem dX3_isSame_137 : decode cX3_isSame 137 = .ok (.if_icmp .ne 81, 3) := by decide +kernel
theorem dX3_isSame_140 : decode cX3_isSame 140 = .ok (.aload_n 1, 1) := by decide +kernel
theorem dX3_isSame_141 : decode cX3_isSame 141 = .ok (.invokevirtual 94, 3) := by decide +kernel
theorem dX3_isSame_144 : decode cX3_isSame 144 = .ok (.aload_n 0, 1) := by decide +kernel
theorem dX3_isSame_145 : decode cX3_isSame 145 = .ok (.getfield 35, 3) := by decide +kernel
theorem dX3_isSame_148 : decode cX3_isSame 148 = .ok (.if_icmp .ne 70, 3) := by decide +kernel
theorem dX3_isSame_151 : decode cX3_isSame 151 = .ok (.aload_n 1, 1) := by decide +kernel
theorem dX3_isSame_152 : decode cX3_isSame 152 = .ok (.invokevirtual 96, 3) := by decide +kernel
theorem dX3_isSame_155 : decode cX3_isSame 155 = .ok (.aload_n 0, 1) := by decide +kernel
theorem dX3_isSame_156 : decode cX3_isSame 156 = .ok (.getfield 38, 3) := by decide +kernel
theorem dX3_isSame_159 : decode cX3_isSame 159 = .ok (.if_icmp .ne 59, 3) := by decide +kernel
theorem dX3_isSame_162 : decode cX3_isSame 162 = .ok (.aload_n 1, 1) := by decide +kernel
theorem dX3_isSame_163 : decode cX3_isSame 163 = .ok (.invokevirtual 99, 3) := by decide +kernel
theorem dX3_isSame_166 : decode cX3_isSame 166 = .ok (.aload_n 0, 1) := by decide +kernel
theorem dX3_isSame_167 : decode cX3_isSame 167 = .ok (.getfield 41, 3) := by decide +kernel
theorem dX3_isSame_170 : decode cX3_isSame 170 = .ok (.if_icmp .ne 48, 3) := by decide +kernel
theorem dX3_isSame_173 : decode cX3_isSame 173 = .ok (.aload_n 1, 1) := by decide +kernel
theorem dX3_isSame_174 : decode cX3_isSame 174 = .ok (.invokevirtual 102, 3) := by decide +kernel
theorem dX3_isSame_177 : decode cX3_isSame 177 = .ok (.aload_n 0, 1) := by decide +kernel
theorem dX3_isSame_178 : decode cX3_isSame 178 = .ok (.invokevirtual 105, 3) := by decide +kernel
theorem dX3_isSame_181 : decode cX3_isSame 181 = .ok (.if_icmp .ne 37, 3) := by decide +kernel
theorem dX3_isSame_184 : decode cX3_isSame 184 = .ok (.aload_n 1, 1) := by decide +kernel
theorem dX3_isSame_185 : decode cX3_isSame 185 = .ok (.invokevirtual 108, 3) := by decide +kernel
theorem dX3_isSame_188 : decode cX3_isSame 188 = .ok (.aload_n 0, 1) := by decide +kernel
theorem dX3_isSame_189 : decode cX3_isSame 189 = .ok (.getfield 35, 3) := by decide +kernel
theorem dX3_isSame_192 : decode cX3_isSame 192 = .ok (.ifCond .ne 7, 3) := by decide +kernel
theorem dX3_isSame_195 : decode cX3_isSame 195 = .ok (.dconst 0, 1) := by decide +kernel
theorem dX3_isSame_196 : decode cX3_isSame 196 = .ok (.goto 14, 3) := by decide +kernel
theorem dX3_isSame_199 : decode cX3_isSame 199 = .ok (.aload_n 0, 1) := by decide +kernel
theorem dX3_isSame_200 : decode cX3_isSame 200 = .ok (.getfield 38, 3) := by decide +kernel
theorem dX3_isSame_203 : decode cX3_isSame 203 = .ok (.i2d, 1) := by decide +kernel
theorem dX3_isSame_204 : decode cX3_isSame 204 = .ok (.aload_n 0, 1) := by decide +kernel
theorem dX3_isSame_205 : decode cX3_isSame 205 = .ok (.getfield 35, 3) := by decide +kernel
theorem dX3_isSame_208 : decode cX3_isSame 208 = .ok (.i2d, 1) := by decide +kernel
theorem dX3_isSame_209 : decode cX3_isSame 209 = .ok (.ddiv, 1) := by decide +kernel
theorem dX3_isSame_210 : decode cX3_isSame 210 = .ok (.dcmp .l, 1) := by decide +kernel
theorem dX3_isSame_211 : decode cX3_isSame 211 = .ok (.ifCond .ne 7, 3) := by decide +kernel
theorem dX3_isSame_214 : decode cX3_isSame 214 = .ok (.iconst 1, 1) := by decide +kernel
theorem dX3_isSame_215 : decode cX3_isSame 215 = .ok (.goto 4, 3) := by decide +kernel
theorem dX3_isSame_218 : decode cX3_isSame 218 = .ok (.iconst 0, 1) := by decide +kernel
theorem dX3_isSame_219 : decode cX3_isSame 219 = .ok (.ireturn, 1) := by decide +kernel
set_option maxRecDepth 20000 in
theorem ggX3_move_X3_isSafe_ : GoodIn wsX3_move wsX3_isSafe_ := goodIn_r _ [9, 10, 3, 2, 1, 11, 12, 13, 8, 14, 15, 16, 17, 18, 19, 20, 21, 22, 23, 24, 25, 26, 27, 28, 29, 30] (by decide +kernel) (by decide +kernel)
set_option maxRecDepth 20000 in
theorem gX3_move_X3_isSafe_ : GoodIn wsX3_move (wsV RX3 58 RX3 yX3_isSafe_ wsX3_isSafe_) := goodIn_app (goodIn_of _ (by decide +kernel)) ggX3_move_X3_isSafe_
theorem dX3_move_0 : decode cX3_move 0 = .ok (.iconst 0, 1) := by decide +kernel
theorem dX3_move_1 : decode cX3_move 1 = .ok (.istore 4, 2) := by decide +kernel
theorem dX3_move_3 : decode cX3_move 3 = .ok (.iload 4, 2) := by decide +kernel
theorem dX3_move_5 : decode cX3_move 5 = .ok (.iload_n 1, 1) := by decide +kernel
theorem dX3_move_6 : decode cX3_move 6 = .ok (.if_icmp .ge 95, 3) := by decide +kernel
theorem dX3_move_9 : decode cX3_move 9 = .ok (.aload_n 0, 1) := by decide +kernel
theorem dX3_move_10 : decode cX3_move 10 = .ok (.getfield 7, 3) := by decide +kernel
theorem dX3_move_13 : decode cX3_move 13 = .ok (.iload_n 3, 1) := by decide +kernel
theorem dX3_move_14 : decode cX3_move 14 = .ok (.iadd, 1) := by decide +kernel
theorem dX3_move_15 : decode cX3_move 15 = .ok (.istore 5, 2) := by decide +kernel
theorem dX3_move_17 : decode cX3_move 17 = .ok (.aload_n 0, 1) := by decide +kernel
theorem dX3_move_18 : decode cX3_move 18 = .ok (.getfield 21, 3) := by decide +kernel
theorem dX3_move_21 : decode cX3_move 21 = .ok (.iload_n 2, 1) := by decide +kernel
theorem dX3_move_22 : decode cX3_move 22 = .ok (.iadd, 1) := by decide +kernel
theorem dX3_move_23 : decode cX3_move 23 = .ok (.bipush 8, 2) := by decide +kernel
theorem dX3_move_25 : decode cX3_move 25 = .ok (.iadd, 1) := by decide +kernel
theorem dX3_move_26 : decode cX3_move 26 = .ok (.bipush 8, 2) := by decide +kernel
theorem dX3_move_28 : decode cX3_move 28 = .ok (.irem, 1) := by decide +kernel
theorem dX3_move_29 : decode cX3_move 29 = .ok (.istore 6, 2) := by decide +kernel
theorem dX3_move_31 : decode cX3_move 31 = .ok (.iload 5, 2) := by decide +kernel
theorem dX3_move_33 : decode cX3_move 33 = .ok (.iconst 3, 1) := by decide +kernel
theorem dX3_move_34 : decode cX3_move 34 = .ok (.if_icmp .lt 25, 3) := by decide +kernel
theorem dX3_move_37 : decode cX3_move 37 = .ok (.iload 5, 2) := by decide +kernel
theorem dX3_move_39 : decode cX3_move 39 = .ok (.bipush 30, 2) := by decide +kernel
theorem dX3_move_41 : decode cX3_move 41 = .ok (.if_icmp .gt 18, 3) := by decide +kernel
theorem dX3_move_44 : decode cX3_move 44 = .ok (.aload_n 0, 1) := by decide +kernel
theorem dX3_move_45 : decode cX3_move 45 = .ok (.aload_n 0, 1) := by decide +kernel
theorem dX3_move_46 : decode cX3_move 46 = .ok (.getfield 24, 3) := by decide +kernel
theorem dX3_move_49 : decode cX3_move 49 = .ok (.iload 6, 2) := by decide +kernel
theorem dX3_move_51 : decode cX3_move 51 = .ok (.iload 5, 2) := by decide +kernel
theorem dX3_move_53 : decode cX3_move 53 = .ok (.invokevirtual 58, 3) := by decide +kernel
theorem dX3_move_56 : decode cX3_move 56 = .ok (.ifCond .ne 6, 3) := by decide +kernel
theorem dX3_move_59 : decode cX3_move 59 = .ok (.iload 4, 2) := by decide +kernel
theorem dX3_move_61 : decode cX3_move 61 = .ok (.ireturn, 1) := by decide +kernel
theorem dX3_move_62 : decode cX3_move 62 = .ok (.aload_n 0, 1) := by decide +kernel
theorem dX3_move_63 : decode cX3_move 63 = .ok (.iload 6, 2) := by decide +kernel
theorem dX3_move_65 : decode cX3_move 65 = .ok (.putfield 21, 3) := by decide +kernel
theorem dX3_move_68 : decode cX3_move 68 = .ok (.aload_n 0, 1) := by decide +kernel
theorem dX3_move_69 : decode cX3_move 69 = .ok (.iload 5, 2) := by decide +kernel
theorem dX3_move_71 : decode cX3_move 71 = .ok (.putfield 7, 3) := by decide +kernel
theorem dX3_move_74 : decode cX3_move 74 = .ok (.aload_n 0, 1) := by decide +kernel
theorem dX3_move_75 : decode cX3_move 75 = .ok (.dup, 1) := by decide +kernel
theorem dX3_move_76 : decode cX3_move 76 = .ok (.getfield 41, 3) := by decide +kernel
theorem dX3_move_79 : decode cX3_move 79 = .ok (.aload_n 0, 1) := by decide +kernel
theorem dX3_move_80 : decode cX3_move 80 = .ok (.getfield 24, 3) := by decide +kernel
theorem dX3_move_83 : decode cX3_move 83 = .ok (.ifCond .le 7, 3) := by decide +kernel
theorem dX3_move_86 : decode cX3_move 86 = .ok (.iconst 1, 1) := by decide +kernel
theorem dX3_move_87 : decode cX3_move 87 = .ok (.goto 4, 3) := by decide +kernel
theorem dX3_move_90 : decode cX3_move 90 = .ok (.iconst 0, 1) := by decide +kernel
theorem dX3_move_91 : decode cX3_move 91 = .ok (.iadd, 1) := by decide +kernel
theorem dX3_move_92 : decode cX3_move 92 = .ok (.putfield 41, 3) := by decide +kernel
theorem dX3_move_95 : decode cX3_move 95 = .ok (.iinc 4 1, 3) := by decide +kernel
theorem dX3_move_98 : decode cX3_move 98 = .ok (.goto (-95), 3) := by decide +kernel
theorem dX3_move_101 : decode cX3_move 101 = .ok (.iload_n 1, 1) := by decide +kernel
theorem dX3_move_102 : decode cX3_move 102 = .ok (.ireturn, 1) := by decide +kernel
