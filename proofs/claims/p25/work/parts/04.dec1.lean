theorem dX0_init_0 : decode cX0_init 0 = .ok (.aload_n 0, 1) := by decide +kernel
theorem dX0_init_1 : decode cX0_init 1 = .ok (.invokespecial 3, 3) := by decide +kernel
theorem dX0_init_4 : decode cX0_init 4 = .ok (.aload_n 0, 1) := by decide +kernel
theorem dX0_init_5 : decode cX0_init 5 = .ok (.bipush 64, 2) := by decide +kernel
theorem dX0_init_7 : decode cX0_init 7 = .ok (.newarray .int, 2) := by decide +kernel
theorem dX0_init_9 : decode cX0_init 9 = .ok (.putfield 9, 3) := by decide +kernel
theorem dX0_init_12 : decode cX0_init 12 = .ok (.aload_n 0, 1) := by decide +kernel
theorem dX0_init_13 : decode cX0_init 13 = .ok (.bipush 64, 2) := by decide +kernel
theorem dX0_init_15 : decode cX0_init 15 = .ok (.newarray .int, 2) := by decide +kernel
theorem dX0_init_17 : decode cX0_init 17 = .ok (.putfield 15, 3) := by decide +kernel
theorem dX0_init_20 : decode cX0_init 20 = .ok (.return_, 1) := by decide +kernel
theorem dX0_copyFrom_0 : decode cX0_copyFrom 0 = .ok (.aload_n 0, 1) := by decide +kernel
theorem dX0_copyFrom_1 : decode cX0_copyFrom 1 = .ok (.aload_n 1, 1) := by decide +kernel
theorem dX0_copyFrom_2 : decode cX0_copyFrom 2 = .ok (.getfield 18, 3) := by decide +kernel
theorem dX0_copyFrom_5 : decode cX0_copyFrom 5 = .ok (.putfield 18, 3) := by decide +kernel
theorem dX0_copyFrom_8 : decode cX0_copyFrom 8 = .ok (.aload_n 0, 1) := by decide +kernel
theorem dX0_copyFrom_9 : decode cX0_copyFrom 9 = .ok (.aload_n 1, 1) := by decide +kernel
theorem dX0_copyFrom_10 : decode cX0_copyFrom 10 = .ok (.getfield 22, 3) := by decide +kernel
theorem dX0_copyFrom_13 : decode cX0_copyFrom 13 = .ok (.putfield 22, 3) := by decide +kernel
theorem dX0_copyFrom_16 : decode cX0_copyFrom 16 = .ok (.aload_n 1, 1) := by decide +kernel
theorem dX0_copyFrom_17 : decode cX0_copyFrom 17 = .ok (.getfield 9, 3) := by decide +kernel
theorem dX0_copyFrom_20 : decode cX0_copyFrom 20 = .ok (.iconst 0, 1) := by decide +kernel
theorem dX0_copyFrom_21 : decode cX0_copyFrom 21 = .ok (.aload_n 0, 1) := by decide +kernel
theorem dX0_copyFrom_22 : decode cX0_copyFrom 22 = .ok (.getfield 9, 3) := by decide +kernel
theorem dX0_copyFrom_25 : decode cX0_copyFrom 25 = .ok (.iconst 0, 1) := by decide +kernel
theorem dX0_copyFrom_26 : decode cX0_copyFrom 26 = .ok (.bipush 64, 2) := by decide +kernel
theorem dX0_copyFrom_28 : decode cX0_copyFrom 28 = .ok (.invokestatic 25, 3) := by decide +kernel
theorem dX0_copyFrom_31 : decode cX0_copyFrom 31 = .ok (.aload_n 1, 1) := by decide +kernel
theorem dX0_copyFrom_32 : decode cX0_copyFrom 32 = .ok (.getfield 15, 3) := by decide +kernel
theorem dX0_copyFrom_35 : decode cX0_copyFrom 35 = .ok (.iconst 0, 1) := by decide +kernel
theorem dX0_copyFrom_36 : decode cX0_copyFrom 36 = .ok (.aload_n 0, 1) := by decide +kernel
theorem dX0_copyFrom_37 : decode cX0_copyFrom 37 = .ok (.getfield 15, 3) := by decide +kernel
theorem dX0_copyFrom_40 : decode cX0_copyFrom 40 = .ok (.iconst 0, 1) := by decide +kernel
theorem dX0_copyFrom_41 : decode cX0_copyFrom 41 = .ok (.bipush 64, 2) := by decide +kernel
theorem dX0_copyFrom_43 : decode cX0_copyFrom 43 = .ok (.invokestatic 25, 3) := by decide +kernel
theorem dX0_copyFrom_46 : decode cX0_copyFrom 46 = .ok (.return_, 1) := by decide +kernel
theorem dX0_insert_0 : decode cX0_insert 0 = .ok (.aload_n 0, 1) := by decide +kernel
theorem dX0_insert_1 : decode cX0_insert 1 = .ok (.getfield 22, 3) := by decide +kernel
theorem dX0_insert_4 : decode cX0_insert 4 = .ok (.bipush 64, 2) := by decide +kernel
theorem dX0_insert_6 : decode cX0_insert 6 = .ok (.if_icmp .lt 4, 3) := by decide +kernel
theorem dX0_insert_9 : decode cX0_insert 9 = .ok (.return_, 1) := by decide +kernel
theorem dX0_insert_10 : decode cX0_insert 10 = .ok (.aload_n 0, 1) := by decide +kernel
theorem dX0_insert_11 : decode cX0_insert 11 = .ok (.getfield 22, 3) := by decide +kernel
theorem dX0_insert_14 : decode cX0_insert 14 = .ok (.istore 5, 2) := by decide +kernel
theorem dX0_insert_16 : decode cX0_insert 16 = .ok (.iload 5, 2) := by decide +kernel
theorem dX0_insert_18 : decode cX0_insert 18 = .ok (.ifCond .le 84, 3) := by decide +kernel
theorem dX0_insert_21 : decode cX0_insert 21 = .ok (.aload_n 0, 1) := by decide +kernel
theorem dX0_insert_22 : decode cX0_insert 22 = .ok (.getfield 9, 3) := by decide +kernel
theorem dX0_insert_25 : decode cX0_insert 25 = .ok (.aload_n 0, 1) := by decide +kernel
theorem dX0_insert_26 : decode cX0_insert 26 = .ok (.getfield 18, 3) := by decide +kernel
theorem dX0_insert_29 : decode cX0_insert 29 = .ok (.iload 5, 2) := by decide +kernel
theorem dX0_insert_31 : decode cX0_insert 31 = .ok (.iadd, 1) := by decide +kernel
theorem dX0_insert_32 : decode cX0_insert 32 = .ok (.iconst 1, 1) := by decide +kernel
theorem dX0_insert_33 : decode cX0_insert 33 = .ok (.isub, 1) := by decide +kernel
theorem dX0_insert_34 : decode cX0_insert 34 = .ok (.bipush 64, 2) := by decide +kernel
theorem dX0_insert_36 : decode cX0_insert 36 = .ok (.irem, 1) := by decide +kernel
theorem dX0_insert_37 : decode cX0_insert 37 = .ok (.iaload, 1) := by decide +kernel
theorem dX0_insert_38 : decode cX0_insert 38 = .ok (.iload_n 1, 1) := by decide +kernel
theorem dX0_insert_39 : decode cX0_insert 39 = .ok (.if_icmp .le 63, 3) := by decide +kernel
theorem dX0_insert_42 : decode cX0_insert 42 = .ok (.aload_n 0, 1) := by decide +kernel
theorem dX0_insert_43 : decode cX0_insert 43 = .ok (.getfield 18, 3) := by decide +kernel
theorem dX0_insert_46 : decode cX0_insert 46 = .ok (.iload 5, 2) := by decide +kernel
theorem dX0_insert_48 : decode cX0_insert 48 = .ok (.iadd, 1) := by decide +kernel
theorem dX0_insert_49 : decode cX0_insert 49 = .ok (.iconst 1, 1) := by decide +kernel
theorem dX0_insert_50 : decode cX0_insert 50 = .ok (.isub, 1) := by decide +kernel
theorem dX0_insert_51 : decode cX0_insert 51 = .ok (.bipush 64, 2) := by decide +kernel
theorem dX0_insert_53 : decode cX0_insert 53 = .ok (.irem, 1) := by decide +kernel
theorem dX0_insert_54 : decode cX0_insert 54 = .ok (.istore 6, 2) := by decide +kernel
theorem dX0_insert_56 : decode cX0_insert 56 = .ok (.aload_n 0, 1) := by decide +kernel
theorem dX0_insert_57 : decode cX0_insert 57 = .ok (.getfield 18, 3) := by decide +kernel
theorem dX0_insert_60 : decode cX0_insert 60 = .ok (.iload 5, 2) := by decide +kernel
theorem dX0_insert_62 : decode cX0_insert 62 = .ok (.iadd, 1) := by decide +kernel
theorem dX0_insert_63 : decode cX0_insert 63 = .ok (.bipush 64, 2) := by decide +kernel
theorem dX0_insert_65 : decode cX0_insert 65 = .ok (.irem, 1) := by decide +kernel
theorem dX0_insert_66 : decode cX0_insert 66 = .ok (.istore 7, 2) := by decide +kernel
theorem dX0_insert_68 : decode cX0_insert 68 = .ok (.aload_n 0, 1) := by decide +kernel
theorem dX0_insert_69 : decode cX0_insert 69 = .ok (.getfield 9, 3) := by decide +kernel
theorem dX0_insert_72 : decode cX0_insert 72 = .ok (.iload 7, 2) := by decide +kernel
theorem dX0_insert_74 : decode cX0_insert 74 = .ok (.aload_n 0, 1) := by decide +kernel
theorem dX0_insert_75 : decode cX0_insert 75 = .ok (.getfield 9, 3) := by decide +kernel
theorem dX0_insert_78 : decode cX0_insert 78 = .ok (.iload 6, 2) := by decide +kernel
theorem dX0_insert_80 : decode cX0_insert 80 = .ok (.iaload, 1) := by decide +kernel
theorem dX0_insert_81 : decode cX0_insert 81 = .ok (.iastore, 1) := by decide +kernel
theorem dX0_insert_82 : decode cX0_insert 82 = .ok (.aload_n 0, 1) := by decide +kernel
theorem dX0_insert_83 : decode cX0_insert 83 = .ok (.getfield 15, 3) := by decide +kernel
theorem dX0_insert_86 : decode cX0_insert 86 = .ok (.iload 7, 2) := by decide +kernel
theorem dX0_insert_88 : decode cX0_insert 88 = .ok (.aload_n 0, 1) := by decide +kernel
theorem dX0_insert_89 : decode cX0_insert 89 = .ok (.getfield 15, 3) := by decide +kernel
theorem dX0_insert_92 : decode cX0_insert 92 = .ok (.iload 6, 2) := by decide +kernel
theorem dX0_insert_94 : decode cX0_insert 94 = .ok (.iaload, 1) := by decide +kernel
theorem dX0_insert_95 : decode cX0_insert 95 = .ok (.iastore, 1) := by decide +kernel
theorem dX0_insert_96 : decode cX0_insert 96 = .ok (.iinc 5 (-1), 3) := by decide +kernel
theorem dX0_insert_99 : decode cX0_insert 99 = .ok (.goto (-83), 3) := by decide +kernel
theorem dX0_insert_102 : decode cX0_insert 102 = .ok (.aload_n 0, 1) := by decide +kernel
theorem dX0_insert_103 : decode cX0_insert 103 = .ok (.getfield 18, 3) := by decide +kernel
theorem dX0_insert_106 : decode cX0_insert 106 = .ok (.iload 5, 2) := by decide +kernel
theorem dX0_insert_108 : decode cX0_insert 108 = .ok (.iadd, 1) := by decide +kernel
theorem dX0_insert_109 : decode cX0_insert 109 = .ok (.bipush 64, 2) := by decide +kernel
theorem dX0_insert_111 : decode cX0_insert 111 = .ok (.irem, 1) := by decide +kernel
theorem dX0_insert_112 : decode cX0_insert 112 = .ok (.istore 6, 2) := by decide +kernel
theorem dX0_insert_114 : decode cX0_insert 114 = .ok (.aload_n 0, 1) := by decide +kernel
theorem dX0_insert_115 : decode cX0_insert 115 = .ok (.getfield 9, 3) := by decide +kernel
theorem dX0_insert_118 : decode cX0_insert 118 = .ok (.iload 6, 2) := by decide +kernel
theorem dX0_insert_120 : decode cX0_insert 120 = .ok (.iload_n 1, 1) := by decide +kernel
theorem dX0_insert_121 : decode cX0_insert 121 = .ok (.iastore, 1) := by decide +kernel
theorem dX0_insert_122 : decode cX0_insert 122 = .ok (.aload_n 0, 1) := by decide +kernel
theorem dX0_insert_123 : decode cX0_insert 123 = .ok (.getfield 15, 3) := by decide +kernel
theorem dX0_insert_126 : decode cX0_insert 126 = .ok (.iload 6, 2) := by decide +kernel
theorem dX0_insert_128 : decode cX0_insert 128 = .ok (.iload_n 2, 1) := by decide +kernel
theorem dX0_insert_129 : decode cX0_insert 129 = .ok (.iconst 3, 1) := by decide +kernel
theorem dX0_insert_130 : decode cX0_insert 130 = .ok (.imul, 1) := by decide +kernel
theorem dX0_insert_131 : decode cX0_insert 131 = .ok (.iload_n 3, 1) := by decide +kernel
theorem dX0_insert_132 : decode cX0_insert 132 = .ok (.iadd, 1) := by decide +kernel
theorem dX0_insert_133 : decode cX0_insert 133 = .ok (.bipush 32, 2) := by decide +kernel
theorem dX0_insert_135 : decode cX0_insert 135 = .ok (.imul, 1) := by decide +kernel
theorem dX0_insert_136 : decode cX0_insert 136 = .ok (.iload 4, 2) := by decide +kernel
theorem dX0_insert_138 : decode cX0_insert 138 = .ok (.iadd, 1) := by decide +kernel
theorem dX0_insert_139 : decode cX0_insert 139 = .ok (.iastore, 1) := by decide +kernel
theorem dX0_insert_140 : decode cX0_insert 140 = .ok (.aload_n 0, 1) := by decide +kernel
theorem dX0_insert_141 : decode cX0_insert 141 = .ok (.dup, 1) := by decide +kernel
theorem dX0_insert_142 : decode cX0_insert 142 = .ok (.getfield 22, 3) := by decide +kernel
theorem dX0_insert_145 : decode cX0_insert 145 = .ok (.iconst 1, 1) := by decide +kernel
theorem dX0_insert_146 : decode cX0_insert 146 = .ok (.iadd, 1) := by decide +kernel
theorem dX0_insert_147 : decode cX0_insert 147 = .ok (.putfield 22, 3) := by decide +kernel
theorem dX0_insert_150 : decode cX0_insert 150 = .ok (.return_, 1) := by decide +kernel
theorem dX0_firstTime_0 : decode cX0_firstTime 0 = .ok (.aload_n 0, 1) := by decide +kernel
theorem dX0_firstTime_1 : decode cX0_firstTime 1 = .ok (.getfield 9, 3) := by decide +kernel
theorem dX0_firstTime_4 : decode cX0_firstTime 4 = .ok (.aload_n 0, 1) := by decide +kernel
theorem dX0_firstTime_5 : decode cX0_firstTime 5 = .ok (.getfield 18, 3) := by decide +kernel
theorem dX0_firstTime_8 : decode cX0_firstTime 8 = .ok (.iaload, 1) := by decide +kernel
theorem dX0_firstTime_9 : decode cX0_firstTime 9 = .ok (.ireturn, 1) := by decide +kernel
theorem dX0_firstLink_0 : decode cX0_firstLink 0 = .ok (.aload_n 0, 1) := by decide +kernel
theorem dX0_firstLink_1 : decode cX0_firstLink 1 = .ok (.getfield 15, 3) := by decide +kernel
theorem dX0_firstLink_4 : decode cX0_firstLink 4 = .ok (.aload_n 0, 1) := by decide +kernel
theorem dX0_firstLink_5 : decode cX0_firstLink 5 = .ok (.getfield 18, 3) := by decide +kernel
theorem dX0_firstLink_8 : decode cX0_firstLink 8 = .ok (.iaload, 1) := by decide +kernel
theorem dX0_firstLink_9 : decode cX0_firstLink 9 = .ok (.bipush 32, 2) := by decide +kernel
theorem dX0_firstLink_11 : decode cX0_firstLink 11 = .ok (.idiv, 1) := by decide +kernel
theorem dX0_firstLink_12 : decode cX0_firstLink 12 = .ok (.iconst 3, 1) := by decide +kernel
theorem dX0_firstLink_13 : decode cX0_firstLink 13 = .ok (.idiv, 1) := by decide +kernel
theorem dX0_firstLink_14 : decode cX0_firstLink 14 = .ok (.ireturn, 1) := by decide +kernel
theorem dX0_firstWire_0 : decode cX0_firstWire 0 = .ok (.aload_n 0, 1) := by decide +kernel
theorem dX0_firstWire_1 : decode cX0_firstWire 1 = .ok (.getfield 15, 3) := by decide +kernel
theorem dX0_firstWire_4 : decode cX0_firstWire 4 = .ok (.aload_n 0, 1) := by decide +kernel
theorem dX0_firstWire_5 : decode cX0_firstWire 5 = .ok (.getfield 18, 3) := by decide +kernel
theorem dX0_firstWire_8 : decode cX0_firstWire 8 = .ok (.iaload, 1) := by decide +kernel
theorem dX0_firstWire_9 : decode cX0_firstWire 9 = .ok (.bipush 32, 2) := by decide +kernel
theorem dX0_firstWire_11 : decode cX0_firstWire 11 = .ok (.idiv, 1) := by decide +kernel
theorem dX0_firstWire_12 : decode cX0_firstWire 12 = .ok (.iconst 3, 1) := by decide +kernel
theorem dX0_firstWire_13 : decode cX0_firstWire 13 = .ok (.irem, 1) := by decide +kernel
theorem dX0_firstWire_14 : decode cX0_firstWire 14 = .ok (.ireturn, 1) := by decide +kernel
theorem dX0_firstValue_0 : decode cX0_firstValue 0 = .ok (.aload_n 0, 1) := by decide +kernel
theorem dX0_firstValue_1 : decode cX0_firstValue 1 = .ok (.getfield 15, 3) := by decide +kernel
theorem dX0_firstValue_4 : decode cX0_firstValue 4 = .ok (.aload_n 0, 1) := by decide +kernel
theorem dX0_firstValue_5 : decode cX0_firstValue 5 = .ok (.getfield 18, 3) := by decide +kernel
theorem dX0_firstValue_8 : decode cX0_firstValue 8 = .ok (.iaload, 1) := by decide +kernel
theorem dX0_firstValue_9 : decode cX0_firstValue 9 = .ok (.bipush 32, 2) := by decide +kernel
theorem dX0_firstValue_11 : decode cX0_firstValue 11 = .ok (.irem, 1) := by decide +kernel
theorem dX0_firstValue_12 : decode cX0_firstValue 12 = .ok (.ireturn, 1) := by decide +kernel
theorem dX0_removeFirst_0 : decode cX0_removeFirst 0 = .ok (.aload_n 0, 1) := by decide +kernel
theorem dX0_removeFirst_1 : decode cX0_removeFirst 1 = .ok (.getfield 22, 3) := by decide +kernel
theorem dX0_removeFirst_4 : decode cX0_removeFirst 4 = .ok (.ifCond .le 26, 3) := by decide +kernel
theorem dX0_removeFirst_7 : decode cX0_removeFirst 7 = .ok (.aload_n 0, 1) := by decide +kernel
theorem dX0_removeFirst_8 : decode cX0_removeFirst 8 = .ok (.aload_n 0, 1) := by decide +kernel
theorem dX0_removeFirst_9 : decode cX0_removeFirst 9 = .ok (.getfield 18, 3) := by decide +kernel
theorem dX0_removeFirst_12 : decode cX0_removeFirst 12 = .ok (.iconst 1, 1) := by decide +kernel
theorem dX0_removeFirst_13 : decode cX0_removeFirst 13 = .ok (.iadd, 1) := by decide +kernel
theorem dX0_removeFirst_14 : decode cX0_removeFirst 14 = .ok (.bipush 64, 2) := by decide +kernel
theorem dX0_removeFirst_16 : decode cX0_removeFirst 16 = .ok (.irem, 1) := by decide +kernel
theorem dX0_removeFirst_17 : decode cX0_removeFirst 17 = .ok (.putfield 18, 3) := by decide +kernel
theorem dX0_removeFirst_20 : decode cX0_removeFirst 20 = .ok (.aload_n 0, 1) := by decide +kernel
theorem dX0_removeFirst_21 : decode cX0_removeFirst 21 = .ok (.dup, 1) := by decide +kernel
theorem dX0_removeFirst_22 : decode cX0_removeFirst 22 = .ok (.getfield 22, 3) := by decide +kernel
theorem dX0_removeFirst_25 : decode cX0_removeFirst 25 = .ok (.iconst 1, 1) := by decide +kernel
theorem dX0_removeFirst_26 : decode cX0_removeFirst 26 = .ok (.isub, 1) := by decide +kernel
theorem dX0_removeFirst_27 : decode cX0_removeFirst 27 = .ok (.putfield 22, 3) := by decide +kernel
theorem dX0_removeFirst_30 : decode cX0_removeFirst 30 = .ok (.return_, 1) := by decide +kernel
theorem dX1_init_0 : decode cX1_init 0 = .ok (.aload_n 0, 1) := by decide +kernel
theorem dX1_init_1 : decode cX1_init 1 = .ok (.invokespecial 3, 3) := by decide +kernel
theorem dX1_init_4 : decode cX1_init 4 = .ok (.aload_n 0, 1) := by decide +kernel
theorem dX1_init_5 : decode cX1_init 5 = .ok (.iconst 4, 1) := by decide +kernel
theorem dX1_init_6 : decode cX1_init 6 = .ok (.anewarray 9, 3) := by decide +kernel
theorem dX1_init_9 : decode cX1_init 9 = .ok (.putfield 11, 3) := by decide +kernel
theorem dX1_init_12 : decode cX1_init 12 = .ok (.iconst 0, 1) := by decide +kernel
theorem dX1_init_13 : decode cX1_init 13 = .ok (.istore_n 1, 1) := by decide +kernel
theorem dX1_init_14 : decode cX1_init 14 = .ok (.iload_n 1, 1) := by decide +kernel
theorem dX1_init_15 : decode cX1_init 15 = .ok (.iconst 4, 1) := by decide +kernel
theorem dX1_init_16 : decode cX1_init 16 = .ok (.if_icmp .ge 22, 3) := by decide +kernel
theorem dX1_init_19 : decode cX1_init 19 = .ok (.aload_n 0, 1) := by decide +kernel
theorem dX1_init_20 : decode cX1_init 20 = .ok (.getfield 11, 3) := by decide +kernel
theorem dX1_init_23 : decode cX1_init 23 = .ok (.iload_n 1, 1) := by decide +kernel
theorem dX1_init_24 : decode cX1_init 24 = .ok (.new 9, 3) := by decide +kernel
theorem dX1_init_27 : decode cX1_init 27 = .ok (.dup, 1) := by decide +kernel
theorem dX1_init_28 : decode cX1_init 28 = .ok (.invokespecial 17, 3) := by decide +kernel
theorem dX1_init_31 : decode cX1_init 31 = .ok (.aastore, 1) := by decide +kernel
theorem dX1_init_32 : decode cX1_init 32 = .ok (.iinc 1 1, 3) := by decide +kernel
theorem dX1_init_35 : decode cX1_init 35 = .ok (.goto (-21), 3) := by decide +kernel
theorem dX1_init_38 : decode cX1_init 38 = .ok (.return_, 1) := by decide +kernel
theorem dX1_record_0 : decode cX1_record 0 = .ok (.aload_n 0, 1) := by decide +kernel
theorem dX1_record_1 : decode cX1_record 1 = .ok (.getfield 18, 3) := by decide +kernel
theorem dX1_record_4 : decode cX1_record 4 = .ok (.iconst 4, 1) := by decide +kernel
theorem dX1_record_5 : decode cX1_record 5 = .ok (.if_icmp .lt 7, 3) := by decide +kernel
theorem dX1_record_8 : decode cX1_record 8 = .ok (.aload_n 0, 1) := by decide +kernel
theorem dX1_record_9 : decode cX1_record 9 = .ok (.invokevirtual 22, 3) := by decide +kernel
theorem dX1_record_12 : decode cX1_record 12 = .ok (.aload_n 0, 1) := by decide +kernel
theorem dX1_record_13 : decode cX1_record 13 = .ok (.getfield 11, 3) := by decide +kernel
theorem dX1_record_16 : decode cX1_record 16 = .ok (.aload_n 0, 1) := by decide +kernel
theorem dX1_record_17 : decode cX1_record 17 = .ok (.getfield 18, 3) := by decide +kernel
theorem dX1_record_20 : decode cX1_record 20 = .ok (.aaload, 1) := by decide +kernel
theorem dX1_record_21 : decode cX1_record 21 = .ok (.aload_n 1, 1) := by decide +kernel
theorem dX1_record_22 : decode cX1_record 22 = .ok (.invokevirtual 25, 3) := by decide +kernel
theorem dX1_record_25 : decode cX1_record 25 = .ok (.aload_n 0, 1) := by decide +kernel
theorem dX1_record_26 : decode cX1_record 26 = .ok (.dup, 1) := by decide +kernel
theorem dX1_record_27 : decode cX1_record 27 = .ok (.getfield 18, 3) := by decide +kernel
theorem dX1_record_30 : decode cX1_record 30 = .ok (.iconst 1, 1) := by decide +kernel
theorem dX1_record_31 : decode cX1_record 31 = .ok (.iadd, 1) := by decide +kernel
theorem dX1_record_32 : decode cX1_record 32 = .ok (.putfield 18, 3) := by decide +kernel
theorem dX1_record_35 : decode cX1_record 35 = .ok (.return_, 1) := by decide +kernel
theorem dX1_dropOldest_0 : decode cX1_dropOldest 0 = .ok (.aload_n 0, 1) := by decide +kernel
theorem dX1_dropOldest_1 : decode cX1_dropOldest 1 = .ok (.getfield 11, 3) := by decide +kernel
theorem dX1_dropOldest_4 : decode cX1_dropOldest 4 = .ok (.iconst 0, 1) := by decide +kernel
theorem dX1_dropOldest_5 : decode cX1_dropOldest 5 = .ok (.aaload, 1) := by decide +kernel
theorem dX1_dropOldest_6 : decode cX1_dropOldest 6 = .ok (.astore_n 1, 1) := by decide +kernel
theorem dX1_dropOldest_7 : decode cX1_dropOldest 7 = .ok (.iconst 1, 1) := by decide +kernel
theorem dX1_dropOldest_8 : decode cX1_dropOldest 8 = .ok (.istore_n 2, 1) := by decide +kernel
theorem dX1_dropOldest_9 : decode cX1_dropOldest 9 = .ok (.iload_n 2, 1) := by decide +kernel
theorem dX1_dropOldest_10 : decode cX1_dropOldest 10 = .ok (.iconst 4, 1) := by decide +kernel
theorem dX1_dropOldest_11 : decode cX1_dropOldest 11 = .ok (.if_icmp .ge 23, 3) := by decide +kernel
theorem dX1_dropOldest_14 : decode cX1_dropOldest 14 = .ok (.aload_n 0, 1) := by decide +kernel
theorem dX1_dropOldest_15 : decode cX1_dropOldest 15 = .ok (.getfield 11, 3) := by decide +kernel
theorem dX1_dropOldest_18 : decode cX1_dropOldest 18 = .ok (.iload_n 2, 1) := by decide +kernel
theorem dX1_dropOldest_19 : decode cX1_dropOldest 19 = .ok (.iconst 1, 1) := by decide +kernel
theorem dX1_dropOldest_20 : decode cX1_dropOldest 20 = .ok (.isub, 1) := by decide +kernel
theorem dX1_dropOldest_21 : decode cX1_dropOldest 21 = .ok (.aload_n 0, 1) := by decide +kernel
theorem dX1_dropOldest_22 : decode cX1_dropOldest 22 = .ok (.getfield 11, 3) := by decide +kernel
theorem dX1_dropOldest_25 : decode cX1_dropOldest 25 = .ok (.iload_n 2, 1) := by decide +kernel
theorem dX1_dropOldest_26 : decode cX1_dropOldest 26 = .ok (.aaload, 1) := by decide +kernel
theorem dX1_dropOldest_27 : decode cX1_dropOldest 27 = .ok (.aastore, 1) := by decide +kernel
theorem dX1_dropOldest_28 : decode cX1_dropOldest 28 = .ok (.iinc 2 1, 3) := by decide +kernel
theorem dX1_dropOldest_31 : decode cX1_dropOldest 31 = .ok (.goto (-22), 3) := by decide +kernel
theorem dX1_dropOldest_34 : decode cX1_dropOldest 34 = .ok (.aload_n 0, 1) := by decide +kernel
theorem dX1_dropOldest_35 : decode cX1_dropOldest 35 = .ok (.getfield 11, 3) := by decide +kernel
theorem dX1_dropOldest_38 : decode cX1_dropOldest 38 = .ok (.iconst 3, 1) := by decide +kernel
theorem dX1_dropOldest_39 : decode cX1_dropOldest 39 = .ok (.aload_n 1, 1) := by decide +kernel
theorem dX1_dropOldest_40 : decode cX1_dropOldest 40 = .ok (.aastore, 1) := by decide +kernel
theorem dX1_dropOldest_41 : decode cX1_dropOldest 41 = .ok (.aload_n 0, 1) := by decide +kernel
theorem dX1_dropOldest_42 : decode cX1_dropOldest 42 = .ok (.iconst 3, 1) := by decide +kernel
theorem dX1_dropOldest_43 : decode cX1_dropOldest 43 = .ok (.putfield 18, 3) := by decide +kernel
theorem dX1_dropOldest_46 : decode cX1_dropOldest 46 = .ok (.return_, 1) := by decide +kernel
theorem dX1_giveBack_0 : decode cX1_giveBack 0 = .ok (.aload_n 0, 1) := by decide +kernel
theorem dX1_giveBack_1 : decode cX1_giveBack 1 = .ok (.getfield 18, 3) := by decide +kernel
theorem dX1_giveBack_4 : decode cX1_giveBack 4 = .ok (.ifCond .gt 6, 3) := by decide +kernel
theorem dX1_giveBack_7 : decode cX1_giveBack 7 = .ok (.bipush (-5), 2) := by decide +kernel
theorem dX1_giveBack_9 : decode cX1_giveBack 9 = .ok (.ireturn, 1) := by decide +kernel
theorem dX1_giveBack_10 : decode cX1_giveBack 10 = .ok (.aload_n 0, 1) := by decide +kernel
theorem dX1_giveBack_11 : decode cX1_giveBack 11 = .ok (.dup, 1) := by decide +kernel
theorem dX1_giveBack_12 : decode cX1_giveBack 12 = .ok (.getfield 18, 3) := by decide +kernel
theorem dX1_giveBack_15 : decode cX1_giveBack 15 = .ok (.iconst 1, 1) := by decide +kernel
theorem dX1_giveBack_16 : decode cX1_giveBack 16 = .ok (.isub, 1) := by decide +kernel
theorem dX1_giveBack_17 : decode cX1_giveBack 17 = .ok (.putfield 18, 3) := by decide +kernel
theorem dX1_giveBack_20 : decode cX1_giveBack 20 = .ok (.aload_n 1, 1) := by decide +kernel
theorem dX1_giveBack_21 : decode cX1_giveBack 21 = .ok (.aload_n 0, 1) := by decide +kernel
theorem dX1_giveBack_22 : decode cX1_giveBack 22 = .ok (.getfield 11, 3) := by decide +kernel
theorem dX1_giveBack_25 : decode cX1_giveBack 25 = .ok (.aload_n 0, 1) := by decide +kernel
theorem dX1_giveBack_26 : decode cX1_giveBack 26 = .ok (.getfield 18, 3) := by decide +kernel
theorem dX1_giveBack_29 : decode cX1_giveBack 29 = .ok (.aaload, 1) := by decide +kernel
theorem dX1_giveBack_30 : decode cX1_giveBack 30 = .ok (.invokevirtual 25, 3) := by decide +kernel
theorem dX1_giveBack_33 : decode cX1_giveBack 33 = .ok (.aload_n 0, 1) := by decide +kernel
theorem dX1_giveBack_34 : decode cX1_giveBack 34 = .ok (.getfield 18, 3) := by decide +kernel
theorem dX1_giveBack_37 : decode cX1_giveBack 37 = .ok (.ireturn, 1) := by decide +kernel
theorem dX2_init_0 : decode cX2_init 0 = .ok (.aload_n 0, 1) := by decide +kernel
theorem dX2_init_1 : decode cX2_init 1 = .ok (.invokespecial 3, 3) := by decide +kernel
theorem dX2_init_4 : decode cX2_init 4 = .ok (.aload_n 0, 1) := by decide +kernel
theorem dX2_init_5 : decode cX2_init 5 = .ok (.iconst 3, 1) := by decide +kernel
theorem dX2_init_6 : decode cX2_init 6 = .ok (.newarray .int, 2) := by decide +kernel
theorem dX2_init_8 : decode cX2_init 8 = .ok (.putfield 9, 3) := by decide +kernel
theorem dX2_init_11 : decode cX2_init 11 = .ok (.aload_n 0, 1) := by decide +kernel
theorem dX2_init_12 : decode cX2_init 12 = .ok (.bipush 7, 2) := by decide +kernel
theorem dX2_init_14 : decode cX2_init 14 = .ok (.anewarray 15, 3) := by decide +kernel
theorem dX2_init_17 : decode cX2_init 17 = .ok (.putfield 17, 3) := by decide +kernel
theorem dX2_init_20 : decode cX2_init 20 = .ok (.aload_n 0, 1) := by decide +kernel
theorem dX2_init_21 : decode cX2_init 21 = .ok (.bipush 6, 2) := by decide +kernel
theorem dX2_init_23 : decode cX2_init 23 = .ok (.newarray .int, 2) := by decide +kernel
theorem dX2_init_25 : decode cX2_init 25 = .ok (.putfield 21, 3) := by decide +kernel
theorem dX2_init_28 : decode cX2_init 28 = .ok (.aload_n 0, 1) := by decide +kernel
theorem dX2_init_29 : decode cX2_init 29 = .ok (.iconst 2, 1) := by decide +kernel
theorem dX2_init_30 : decode cX2_init 30 = .ok (.anewarray 24, 3) := by decide +kernel
theorem dX2_init_33 : decode cX2_init 33 = .ok (.putfield 26, 3) := by decide +kernel
theorem dX2_init_36 : decode cX2_init 36 = .ok (.aload_n 0, 1) := by decide +kernel
theorem dX2_init_37 : decode cX2_init 37 = .ok (.new 30, 3) := by decide +kernel
theorem dX2_init_40 : decode cX2_init 40 = .ok (.dup, 1) := by decide +kernel
theorem dX2_init_41 : decode cX2_init 41 = .ok (.invokespecial 32, 3) := by decide +kernel
theorem dX2_init_44 : decode cX2_init 44 = .ok (.putfield 33, 3) := by decide +kernel
theorem dX2_init_47 : decode cX2_init 47 = .ok (.aload_n 0, 1) := by decide +kernel
theorem dX2_init_48 : decode cX2_init 48 = .ok (.new 37, 3) := by decide +kernel
theorem dX2_init_51 : decode cX2_init 51 = .ok (.dup, 1) := by decide +kernel
theorem dX2_init_52 : decode cX2_init 52 = .ok (.invokespecial 39, 3) := by decide +kernel
theorem dX2_init_55 : decode cX2_init 55 = .ok (.putfield 40, 3) := by decide +kernel
theorem dX2_init_58 : decode cX2_init 58 = .ok (.aload_n 0, 1) := by decide +kernel
theorem dX2_init_59 : decode cX2_init 59 = .ok (.bipush 8, 2) := by decide +kernel
theorem dX2_init_61 : decode cX2_init 61 = .ok (.newarray .int, 2) := by decide +kernel
theorem dX2_init_63 : decode cX2_init 63 = .ok (.putfield 44, 3) := by decide +kernel
theorem dX2_init_66 : decode cX2_init 66 = .ok (.iconst 0, 1) := by decide +kernel
theorem dX2_init_67 : decode cX2_init 67 = .ok (.istore_n 1, 1) := by decide +kernel
theorem dX2_init_68 : decode cX2_init 68 = .ok (.iload_n 1, 1) := by decide +kernel
theorem dX2_init_69 : decode cX2_init 69 = .ok (.bipush 7, 2) := by decide +kernel
theorem dX2_init_71 : decode cX2_init 71 = .ok (.if_icmp .ge 22, 3) := by decide +kernel
theorem dX2_init_74 : decode cX2_init 74 = .ok (.aload_n 0, 1) := by decide +kernel
theorem dX2_init_75 : decode cX2_init 75 = .ok (.getfield 17, 3) := by decide +kernel
theorem dX2_init_78 : decode cX2_init 78 = .ok (.iload_n 1, 1) := by decide +kernel
theorem dX2_init_79 : decode cX2_init 79 = .ok (.new 15, 3) := by decide +kernel
theorem dX2_init_82 : decode cX2_init 82 = .ok (.dup, 1) := by decide +kernel
theorem dX2_init_83 : decode cX2_init 83 = .ok (.invokespecial 47, 3) := by decide +kernel
theorem dX2_init_86 : decode cX2_init 86 = .ok (.aastore, 1) := by decide +kernel
theorem dX2_init_87 : decode cX2_init 87 = .ok (.iinc 1 1, 3) := by decide +kernel
theorem dX2_init_90 : decode cX2_init 90 = .ok (.goto (-22), 3) := by decide +kernel
theorem dX2_init_93 : decode cX2_init 93 = .ok (.iconst 0, 1) := by decide +kernel
theorem dX2_init_94 : decode cX2_init 94 = .ok (.istore_n 1, 1) := by decide +kernel
theorem dX2_init_95 : decode cX2_init 95 = .ok (.iload_n 1, 1) := by decide +kernel
theorem dX2_init_96 : decode cX2_init 96 = .ok (.iconst 2, 1) := by decide +kernel
theorem dX2_init_97 : decode cX2_init 97 = .ok (.if_icmp .ge 22, 3) := by decide +kernel
theorem dX2_init_100 : decode cX2_init 100 = .ok (.aload_n 0, 1) := by decide +kernel
theorem dX2_init_101 : decode cX2_init 101 = .ok (.getfield 26, 3) := by decide +kernel
theorem dX2_init_104 : decode cX2_init 104 = .ok (.iload_n 1, 1) := by decide +kernel
theorem dX2_init_105 : decode cX2_init 105 = .ok (.new 24, 3) := by decide +kernel
theorem dX2_init_108 : decode cX2_init 108 = .ok (.dup, 1) := by decide +kernel
theorem dX2_init_109 : decode cX2_init 109 = .ok (.invokespecial 48, 3) := by decide +kernel
theorem dX2_init_112 : decode cX2_init 112 = .ok (.aastore, 1) := by decide +kernel
theorem dX2_init_113 : decode cX2_init 113 = .ok (.iinc 1 1, 3) := by decide +kernel
theorem dX2_init_116 : decode cX2_init 116 = .ok (.goto (-21), 3) := by decide +kernel
theorem dX2_init_119 : decode cX2_init 119 = .ok (.aload_n 0, 1) := by decide +kernel
theorem dX2_init_120 : decode cX2_init 120 = .ok (.getfield 9, 3) := by decide +kernel
theorem dX2_init_123 : decode cX2_init 123 = .ok (.iconst 0, 1) := by decide +kernel
theorem dX2_init_124 : decode cX2_init 124 = .ok (.iconst 1, 1) := by decide +kernel
theorem dX2_init_125 : decode cX2_init 125 = .ok (.iastore, 1) := by decide +kernel
theorem dX2_init_126 : decode cX2_init 126 = .ok (.aload_n 0, 1) := by decide +kernel
theorem dX2_init_127 : decode cX2_init 127 = .ok (.iconst 3, 1) := by decide +kernel
theorem dX2_init_128 : decode cX2_init 128 = .ok (.invokevirtual 49, 3) := by decide +kernel
theorem dX2_init_131 : decode cX2_init 131 = .ok (.return_, 1) := by decide +kernel
theorem dX2_clearTo_0 : decode cX2_clearTo 0 = .ok (.aload_n 0, 1) := by decide +kernel
theorem dX2_clearTo_1 : decode cX2_clearTo 1 = .ok (.iload_n 1, 1) := by decide +kernel
theorem dX2_clearTo_2 : decode cX2_clearTo 2 = .ok (.putfield 53, 3) := by decide +kernel
theorem dX2_clearTo_5 : decode cX2_clearTo 5 = .ok (.aload_n 0, 1) := by decide +kernel
theorem dX2_clearTo_6 : decode cX2_clearTo 6 = .ok (.iconst 0, 1) := by decide +kernel
theorem dX2_clearTo_7 : decode cX2_clearTo 7 = .ok (.putfield 57, 3) := by decide +kernel
theorem dX2_clearTo_10 : decode cX2_clearTo 10 = .ok (.aload_n 0, 1) := by decide +kernel
theorem dX2_clearTo_11 : decode cX2_clearTo 11 = .ok (.bipush (-5), 2) := by decide +kernel
theorem dX2_clearTo_13 : decode cX2_clearTo 13 = .ok (.putfield 60, 3) := by decide +kernel
theorem dX2_clearTo_16 : decode cX2_clearTo 16 = .ok (.aload_n 0, 1) := by decide +kernel
theorem dX2_clearTo_17 : decode cX2_clearTo 17 = .ok (.iconst 0, 1) := by decide +kernel
theorem dX2_clearTo_18 : decode cX2_clearTo 18 = .ok (.putfield 63, 3) := by decide +kernel
theorem dX2_clearTo_21 : decode cX2_clearTo 21 = .ok (.aload_n 0, 1) := by decide +kernel
theorem dX2_clearTo_22 : decode cX2_clearTo 22 = .ok (.iconst 0, 1) := by decide +kernel
theorem dX2_clearTo_23 : decode cX2_clearTo 23 = .ok (.putfield 66, 3) := by decide +kernel
theorem dX2_clearTo_26 : decode cX2_clearTo 26 = .ok (.iconst 0, 1) := by decide +kernel
theorem dX2_clearTo_27 : decode cX2_clearTo 27 = .ok (.istore_n 2, 1) := by decide +kernel
theorem dX2_clearTo_28 : decode cX2_clearTo 28 = .ok (.iload_n 2, 1) := by decide +kernel
theorem dX2_clearTo_29 : decode cX2_clearTo 29 = .ok (.bipush 7, 2) := by decide +kernel
theorem dX2_clearTo_31 : decode cX2_clearTo 31 = .ok (.if_icmp .ge 18, 3) := by decide +kernel
theorem dX2_clearTo_34 : decode cX2_clearTo 34 = .ok (.aload_n 0, 1) := by decide +kernel
theorem dX2_clearTo_35 : decode cX2_clearTo 35 = .ok (.getfield 17, 3) := by decide +kernel
theorem dX2_clearTo_38 : decode cX2_clearTo 38 = .ok (.iload_n 2, 1) := by decide +kernel
theorem dX2_clearTo_39 : decode cX2_clearTo 39 = .ok (.aaload, 1) := by decide +kernel
theorem dX2_clearTo_40 : decode cX2_clearTo 40 = .ok (.invokevirtual 69, 3) := by decide +kernel
theorem dX2_clearTo_43 : decode cX2_clearTo 43 = .ok (.iinc 2 1, 3) := by decide +kernel
theorem dX2_clearTo_46 : decode cX2_clearTo 46 = .ok (.goto (-18), 3) := by decide +kernel
theorem dX2_clearTo_49 : decode cX2_clearTo 49 = .ok (.iconst 0, 1) := by decide +kernel
theorem dX2_clearTo_50 : decode cX2_clearTo 50 = .ok (.istore_n 2, 1) := by decide +kernel
theorem dX2_clearTo_51 : decode cX2_clearTo 51 = .ok (.iload_n 2, 1) := by decide +kernel
theorem dX2_clearTo_52 : decode cX2_clearTo 52 = .ok (.bipush 6, 2) := by decide +kernel
theorem dX2_clearTo_54 : decode cX2_clearTo 54 = .ok (.if_icmp .ge 16, 3) := by decide +kernel
theorem dX2_clearTo_57 : decode cX2_clearTo 57 = .ok (.aload_n 0, 1) := by decide +kernel
theorem dX2_clearTo_58 : decode cX2_clearTo 58 = .ok (.getfield 21, 3) := by decide +kernel
theorem dX2_clearTo_61 : decode cX2_clearTo 61 = .ok (.iload_n 2, 1) := by decide +kernel
theorem dX2_clearTo_62 : decode cX2_clearTo 62 = .ok (.iconst (-1), 1) := by decide +kernel
theorem dX2_clearTo_63 : decode cX2_clearTo 63 = .ok (.iastore, 1) := by decide +kernel
theorem dX2_clearTo_64 : decode cX2_clearTo 64 = .ok (.iinc 2 1, 3) := by decide +kernel
theorem dX2_clearTo_67 : decode cX2_clearTo 67 = .ok (.goto (-16), 3) := by decide +kernel
theorem dX2_clearTo_70 : decode cX2_clearTo 70 = .ok (.iconst 0, 1) := by decide +kernel
theorem dX2_clearTo_71 : decode cX2_clearTo 71 = .ok (.istore_n 2, 1) := by decide +kernel
theorem dX2_clearTo_72 : decode cX2_clearTo 72 = .ok (.iload_n 2, 1) := by decide +kernel
theorem dX2_clearTo_73 : decode cX2_clearTo 73 = .ok (.iconst 2, 1) := by decide +kernel
theorem dX2_clearTo_74 : decode cX2_clearTo 74 = .ok (.if_icmp .ge 19, 3) := by decide +kernel
theorem dX2_clearTo_77 : decode cX2_clearTo 77 = .ok (.aload_n 0, 1) := by decide +kernel
theorem dX2_clearTo_78 : decode cX2_clearTo 78 = .ok (.getfield 26, 3) := by decide +kernel
theorem dX2_clearTo_81 : decode cX2_clearTo 81 = .ok (.iload_n 2, 1) := by decide +kernel
theorem dX2_clearTo_82 : decode cX2_clearTo 82 = .ok (.aaload, 1) := by decide +kernel
theorem dX2_clearTo_83 : decode cX2_clearTo 83 = .ok (.iconst 0, 1) := by decide +kernel
theorem dX2_clearTo_84 : decode cX2_clearTo 84 = .ok (.putfield 72, 3) := by decide +kernel
theorem dX2_clearTo_87 : decode cX2_clearTo 87 = .ok (.iinc 2 1, 3) := by decide +kernel
theorem dX2_clearTo_90 : decode cX2_clearTo 90 = .ok (.goto (-18), 3) := by decide +kernel
theorem dX2_clearTo_93 : decode cX2_clearTo 93 = .ok (.aload_n 0, 1) := by decide +kernel
theorem dX2_clearTo_94 : decode cX2_clearTo 94 = .ok (.getfield 33, 3) := by decide +kernel
theorem dX2_clearTo_97 : decode cX2_clearTo 97 = .ok (.iconst 0, 1) := by decide +kernel
theorem dX2_clearTo_98 : decode cX2_clearTo 98 = .ok (.putfield 75, 3) := by decide +kernel
theorem dX2_clearTo_101 : decode cX2_clearTo 101 = .ok (.aload_n 0, 1) := by decide +kernel
theorem dX2_clearTo_102 : decode cX2_clearTo 102 = .ok (.getfield 40, 3) := by decide +kernel
theorem dX2_clearTo_105 : decode cX2_clearTo 105 = .ok (.invokevirtual 76, 3) := by decide +kernel
theorem dX2_clearTo_108 : decode cX2_clearTo 108 = .ok (.return_, 1) := by decide +kernel
theorem dX2_copyFrom_0 : decode cX2_copyFrom 0 = .ok (.aload_n 0, 1) := by decide +kernel
theorem dX2_copyFrom_1 : decode cX2_copyFrom 1 = .ok (.aload_n 1, 1) := by decide +kernel
theorem dX2_copyFrom_2 : decode cX2_copyFrom 2 = .ok (.getfield 53, 3) := by decide +kernel
theorem dX2_copyFrom_5 : decode cX2_copyFrom 5 = .ok (.putfield 53, 3) := by decide +kernel
theorem dX2_copyFrom_8 : decode cX2_copyFrom 8 = .ok (.aload_n 0, 1) := by decide +kernel
theorem dX2_copyFrom_9 : decode cX2_copyFrom 9 = .ok (.aload_n 1, 1) := by decide +kernel
theorem dX2_copyFrom_10 : decode cX2_copyFrom 10 = .ok (.getfield 57, 3) := by decide +kernel
theorem dX2_copyFrom_13 : decode cX2_copyFrom 13 = .ok (.putfield 57, 3) := by decide +kernel
theorem dX2_copyFrom_16 : decode cX2_copyFrom 16 = .ok (.aload_n 0, 1) := by decide +kernel
theorem dX2_copyFrom_17 : decode cX2_copyFrom 17 = .ok (.aload_n 1, 1) := by decide +kernel
theorem dX2_copyFrom_18 : decode cX2_copyFrom 18 = .ok (.getfield 60, 3) := by decide +kernel
theorem dX2_copyFrom_21 : decode cX2_copyFrom 21 = .ok (.putfield 60, 3) := by decide +kernel
theorem dX2_copyFrom_24 : decode cX2_copyFrom 24 = .ok (.aload_n 0, 1) := by decide +kernel
theorem dX2_copyFrom_25 : decode cX2_copyFrom 25 = .ok (.aload_n 1, 1) := by decide +kernel
theorem dX2_copyFrom_26 : decode cX2_copyFrom 26 = .ok (.getfield 63, 3) := by decide +kernel
theorem dX2_copyFrom_29 : decode cX2_copyFrom 29 = .ok (.putfield 63, 3) := by decide +kernel
theorem dX2_copyFrom_32 : decode cX2_copyFrom 32 = .ok (.aload_n 0, 1) := by decide +kernel
theorem dX2_copyFrom_33 : decode cX2_copyFrom 33 = .ok (.aload_n 1, 1) := by decide +kernel
theorem dX2_copyFrom_34 : decode cX2_copyFrom 34 = .ok (.getfield 66, 3) := by decide +kernel
theorem dX2_copyFrom_37 : decode cX2_copyFrom 37 = .ok (.putfield 66, 3) := by decide +kernel
theorem dX2_copyFrom_40 : decode cX2_copyFrom 40 = .ok (.aload_n 1, 1) := by decide +kernel
theorem dX2_copyFrom_41 : decode cX2_copyFrom 41 = .ok (.getfield 9, 3) := by decide +kernel
theorem dX2_copyFrom_44 : decode cX2_copyFrom 44 = .ok (.iconst 0, 1) := by decide +kernel
theorem dX2_copyFrom_45 : decode cX2_copyFrom 45 = .ok (.aload_n 0, 1) := by decide +kernel
theorem dX2_copyFrom_46 : decode cX2_copyFrom 46 = .ok (.getfield 9, 3) := by decide +kernel
theorem dX2_copyFrom_49 : decode cX2_copyFrom 49 = .ok (.iconst 0, 1) := by decide +kernel
theorem dX2_copyFrom_50 : decode cX2_copyFrom 50 = .ok (.iconst 3, 1) := by decide +kernel
theorem dX2_copyFrom_51 : decode cX2_copyFrom 51 = .ok (.invokestatic 77, 3) := by decide +kernel
theorem dX2_copyFrom_54 : decode cX2_copyFrom 54 = .ok (.iconst 0, 1) := by decide +kernel
theorem dX2_copyFrom_55 : decode cX2_copyFrom 55 = .ok (.istore_n 2, 1) := by decide +kernel
theorem dX2_copyFrom_56 : decode cX2_copyFrom 56 = .ok (.iload_n 2, 1) := by decide +kernel
theorem dX2_copyFrom_57 : decode cX2_copyFrom 57 = .ok (.bipush 7, 2) := by decide +kernel
theorem dX2_copyFrom_59 : decode cX2_copyFrom 59 = .ok (.if_icmp .ge 24, 3) := by decide +kernel
theorem dX2_copyFrom_62 : decode cX2_copyFrom 62 = .ok (.aload_n 0, 1) := by decide +kernel
theorem dX2_copyFrom_63 : decode cX2_copyFrom 63 = .ok (.getfield 17, 3) := by decide +kernel
theorem dX2_copyFrom_66 : decode cX2_copyFrom 66 = .ok (.iload_n 2, 1) := by decide +kernel
theorem dX2_copyFrom_67 : decode cX2_copyFrom 67 = .ok (.aaload, 1) := by decide +kernel
theorem dX2_copyFrom_68 : decode cX2_copyFrom 68 = .ok (.aload_n 1, 1) := by decide +kernel
theorem dX2_copyFrom_69 : decode cX2_copyFrom 69 = .ok (.getfield 17, 3) := by decide +kernel
theorem dX2_copyFrom_72 : decode cX2_copyFrom 72 = .ok (.iload_n 2, 1) := by decide +kernel
theorem dX2_copyFrom_73 : decode cX2_copyFrom 73 = .ok (.aaload, 1) := by decide +kernel
theorem dX2_copyFrom_74 : decode cX2_copyFrom 74 = .ok (.invokevirtual 83, 3) := by decide +kernel
theorem dX2_copyFrom_77 : decode cX2_copyFrom 77 = .ok (.iinc 2 1, 3) := by decide +kernel
theorem dX2_copyFrom_80 : decode cX2_copyFrom 80 = .ok (.goto (-24), 3) := by decide +kernel
theorem dX2_copyFrom_83 : decode cX2_copyFrom 83 = .ok (.aload_n 1, 1) := by decide +kernel
theorem dX2_copyFrom_84 : decode cX2_copyFrom 84 = .ok (.getfield 21, 3) := by decide +kernel
theorem dX2_copyFrom_87 : decode cX2_copyFrom 87 = .ok (.iconst 0, 1) := by decide +kernel
theorem dX2_copyFrom_88 : decode cX2_copyFrom 88 = .ok (.aload_n 0, 1) := by decide +kernel
theorem dX2_copyFrom_89 : decode cX2_copyFrom 89 = .ok (.getfield 21, 3) := by decide +kernel
theorem dX2_copyFrom_92 : decode cX2_copyFrom 92 = .ok (.iconst 0, 1) := by decide +kernel
theorem dX2_copyFrom_93 : decode cX2_copyFrom 93 = .ok (.bipush 6, 2) := by decide +kernel
theorem dX2_copyFrom_95 : decode cX2_copyFrom 95 = .ok (.invokestatic 77, 3) := by decide +kernel
theorem dX2_copyFrom_98 : decode cX2_copyFrom 98 = .ok (.iconst 0, 1) := by decide +kernel
theorem dX2_copyFrom_99 : decode cX2_copyFrom 99 = .ok (.istore_n 2, 1) := by decide +kernel
theorem dX2_copyFrom_100 : decode cX2_copyFrom 100 = .ok (.iload_n 2, 1) := by decide +kernel
theorem dX2_copyFrom_101 : decode cX2_copyFrom 101 = .ok (.iconst 2, 1) := by decide +kernel
theorem dX2_copyFrom_102 : decode cX2_copyFrom 102 = .ok (.if_icmp .ge 24, 3) := by decide +kernel
theorem dX2_copyFrom_105 : decode cX2_copyFrom 105 = .ok (.aload_n 0, 1) := by decide +kernel
theorem dX2_copyFrom_106 : decode cX2_copyFrom 106 = .ok (.getfield 26, 3) := by decide +kernel
theorem dX2_copyFrom_109 : decode cX2_copyFrom 109 = .ok (.iload_n 2, 1) := by decide +kernel
theorem dX2_copyFrom_110 : decode cX2_copyFrom 110 = .ok (.aaload, 1) := by decide +kernel
theorem dX2_copyFrom_111 : decode cX2_copyFrom 111 = .ok (.aload_n 1, 1) := by decide +kernel
theorem dX2_copyFrom_112 : decode cX2_copyFrom 112 = .ok (.getfield 26, 3) := by decide +kernel
theorem dX2_copyFrom_115 : decode cX2_copyFrom 115 = .ok (.iload_n 2, 1) := by decide +kernel
theorem dX2_copyFrom_116 : decode cX2_copyFrom 116 = .ok (.aaload, 1) := by decide +kernel
theorem dX2_copyFrom_117 : decode cX2_copyFrom 117 = .ok (.invokevirtual 87, 3) := by decide +kernel
theorem dX2_copyFrom_120 : decode cX2_copyFrom 120 = .ok (.iinc 2 1, 3) := by decide +kernel
theorem dX2_copyFrom_123 : decode cX2_copyFrom 123 = .ok (.goto (-23), 3) := by decide +kernel
theorem dX2_copyFrom_126 : decode cX2_copyFrom 126 = .ok (.aload_n 0, 1) := by decide +kernel
theorem dX2_copyFrom_127 : decode cX2_copyFrom 127 = .ok (.getfield 33, 3) := by decide +kernel
theorem dX2_copyFrom_130 : decode cX2_copyFrom 130 = .ok (.aload_n 1, 1) := by decide +kernel
theorem dX2_copyFrom_131 : decode cX2_copyFrom 131 = .ok (.getfield 33, 3) := by decide +kernel
theorem dX2_copyFrom_134 : decode cX2_copyFrom 134 = .ok (.invokevirtual 90, 3) := by decide +kernel
theorem dX2_copyFrom_137 : decode cX2_copyFrom 137 = .ok (.aload_n 0, 1) := by decide +kernel
theorem dX2_copyFrom_138 : decode cX2_copyFrom 138 = .ok (.getfield 40, 3) := by decide +kernel
theorem dX2_copyFrom_141 : decode cX2_copyFrom 141 = .ok (.aload_n 1, 1) := by decide +kernel
theorem dX2_copyFrom_142 : decode cX2_copyFrom 142 = .ok (.getfield 40, 3) := by decide +kernel
theorem dX2_copyFrom_145 : decode cX2_copyFrom 145 = .ok (.invokevirtual 93, 3) := by decide +kernel
theorem dX2_copyFrom_148 : decode cX2_copyFrom 148 = .ok (.aload_n 1, 1) := by decide +kernel
theorem dX2_copyFrom_149 : decode cX2_copyFrom 149 = .ok (.getfield 44, 3) := by decide +kernel
theorem dX2_copyFrom_152 : decode cX2_copyFrom 152 = .ok (.iconst 0, 1) := by decide +kernel
theorem dX2_copyFrom_153 : decode cX2_copyFrom 153 = .ok (.aload_n 0, 1) := by decide +kernel
theorem dX2_copyFrom_154 : decode cX2_copyFrom 154 = .ok (.getfield 44, 3) := by decide +kernel
theorem dX2_copyFrom_157 : decode cX2_copyFrom 157 = .ok (.iconst 0, 1) := by decide +kernel
theorem dX2_copyFrom_158 : decode cX2_copyFrom 158 = .ok (.bipush 8, 2) := by decide +kernel
theorem dX2_copyFrom_160 : decode cX2_copyFrom 160 = .ok (.invokestatic 77, 3) := by decide +kernel
theorem dX2_copyFrom_163 : decode cX2_copyFrom 163 = .ok (.return_, 1) := by decide +kernel
theorem dX2_hasLink_0 : decode cX2_hasLink 0 = .ok (.iload_n 1, 1) := by decide +kernel
theorem dX2_hasLink_1 : decode cX2_hasLink 1 = .ok (.ifCond .lt 15, 3) := by decide +kernel
theorem dX2_hasLink_4 : decode cX2_hasLink 4 = .ok (.iload_n 1, 1) := by decide +kernel
theorem dX2_hasLink_5 : decode cX2_hasLink 5 = .ok (.aload_n 0, 1) := by decide +kernel
theorem dX2_hasLink_6 : decode cX2_hasLink 6 = .ok (.getfield 53, 3) := by decide +kernel
theorem dX2_hasLink_9 : decode cX2_hasLink 9 = .ok (.if_icmp .gt 7, 3) := by decide +kernel
theorem dX2_hasLink_12 : decode cX2_hasLink 12 = .ok (.iconst 1, 1) := by decide +kernel
theorem dX2_hasLink_13 : decode cX2_hasLink 13 = .ok (.goto 4, 3) := by decide +kernel
theorem dX2_hasLink_16 : decode cX2_hasLink 16 = .ok (.iconst 0, 1) := by decide +kernel
theorem dX2_hasLink_17 : decode cX2_hasLink 17 = .ok (.ireturn, 1) := by decide +kernel
theorem dX2_isQuiet_0 : decode cX2_isQuiet 0 = .ok (.aload_n 0, 1) := by decide +kernel
theorem dX2_isQuiet_1 : decode cX2_isQuiet 1 = .ok (.getfield 33, 3) := by decide +kernel
theorem dX2_isQuiet_4 : decode cX2_isQuiet 4 = .ok (.getfield 75, 3) := by decide +kernel
theorem dX2_isQuiet_7 : decode cX2_isQuiet 7 = .ok (.ifCond .ne 7, 3) := by decide +kernel
theorem dX2_isQuiet_10 : decode cX2_isQuiet 10 = .ok (.iconst 1, 1) := by decide +kernel
theorem dX2_isQuiet_11 : decode cX2_isQuiet 11 = .ok (.goto 4, 3) := by decide +kernel
theorem dX2_isQuiet_14 : decode cX2_isQuiet 14 = .ok (.iconst 0, 1) := by decide +kernel
theorem dX2_isQuiet_15 : decode cX2_isQuiet 15 = .ok (.ireturn, 1) := by decide +kernel
theorem dX2_fullStages_0 : decode cX2_fullStages 0 = .ok (.iconst 0, 1) := by decide +kernel
theorem dX2_fullStages_1 : decode cX2_fullStages 1 = .ok (.istore_n 1, 1) := by decide +kernel
theorem dX2_fullStages_2 : decode cX2_fullStages 2 = .ok (.iconst 0, 1) := by decide +kernel
theorem dX2_fullStages_3 : decode cX2_fullStages 3 = .ok (.istore_n 2, 1) := by decide +kernel
theorem dX2_fullStages_4 : decode cX2_fullStages 4 = .ok (.iload_n 2, 1) := by decide +kernel
theorem dX2_fullStages_5 : decode cX2_fullStages 5 = .ok (.aload_n 0, 1) := by decide +kernel
theorem dX2_fullStages_6 : decode cX2_fullStages 6 = .ok (.getfield 53, 3) := by decide +kernel
theorem dX2_fullStages_9 : decode cX2_fullStages 9 = .ok (.if_icmp .ge 22, 3) := by decide +kernel
theorem dX2_fullStages_12 : decode cX2_fullStages 12 = .ok (.aload_n 0, 1) := by decide +kernel
theorem dX2_fullStages_13 : decode cX2_fullStages 13 = .ok (.getfield 21, 3) := by decide +kernel
theorem dX2_fullStages_16 : decode cX2_fullStages 16 = .ok (.iload_n 2, 1) := by decide +kernel
theorem dX2_fullStages_17 : decode cX2_fullStages 17 = .ok (.iaload, 1) := by decide +kernel
theorem dX2_fullStages_18 : decode cX2_fullStages 18 = .ok (.iconst (-1), 1) := by decide +kernel
theorem dX2_fullStages_19 : decode cX2_fullStages 19 = .ok (.if_icmp .eq 6, 3) := by decide +kernel
theorem dX2_fullStages_22 : decode cX2_fullStages 22 = .ok (.iinc 1 1, 3) := by decide +kernel
theorem dX2_fullStages_25 : decode cX2_fullStages 25 = .ok (.iinc 2 1, 3) := by decide +kernel
theorem dX2_fullStages_28 : decode cX2_fullStages 28 = .ok (.goto (-24), 3) := by decide +kernel
theorem dX2_fullStages_31 : decode cX2_fullStages 31 = .ok (.iload_n 1, 1) := by decide +kernel
theorem dX2_fullStages_32 : decode cX2_fullStages 32 = .ok (.ireturn, 1) := by decide +kernel
theorem dX2_waitingWords_0 : decode cX2_waitingWords 0 = .ok (.aload_n 0, 1) := by decide +kernel
theorem dX2_waitingWords_1 : decode cX2_waitingWords 1 = .ok (.getfield 26, 3) := by decide +kernel
theorem dX2_waitingWords_4 : decode cX2_waitingWords 4 = .ok (.iconst 0, 1) := by decide +kernel
theorem dX2_waitingWords_5 : decode cX2_waitingWords 5 = .ok (.aaload, 1) := by decide +kernel
theorem dX2_waitingWords_6 : decode cX2_waitingWords 6 = .ok (.getfield 72, 3) := by decide +kernel
theorem dX2_waitingWords_9 : decode cX2_waitingWords 9 = .ok (.aload_n 0, 1) := by decide +kernel
theorem dX2_waitingWords_10 : decode cX2_waitingWords 10 = .ok (.getfield 26, 3) := by decide +kernel
theorem dX2_waitingWords_13 : decode cX2_waitingWords 13 = .ok (.iconst 1, 1) := by decide +kernel
theorem dX2_waitingWords_14 : decode cX2_waitingWords 14 = .ok (.aaload, 1) := by decide +kernel
theorem dX2_waitingWords_15 : decode cX2_waitingWords 15 = .ok (.getfield 72, 3) := by decide +kernel
theorem dX2_waitingWords_18 : decode cX2_waitingWords 18 = .ok (.iadd, 1) := by decide +kernel
theorem dX2_waitingWords_19 : decode cX2_waitingWords 19 = .ok (.ireturn, 1) := by decide +kernel
theorem dX2_addWord_0 : decode cX2_addWord 0 = .ok (.iload_n 1, 1) := by decide +kernel
theorem dX2_addWord_1 : decode cX2_addWord 1 = .ok (.ifCond .lt 8, 3) := by decide +kernel
theorem dX2_addWord_4 : decode cX2_addWord 4 = .ok (.iload_n 1, 1) := by decide +kernel
theorem dX2_addWord_5 : decode cX2_addWord 5 = .ok (.iconst 2, 1) := by decide +kernel
theorem dX2_addWord_6 : decode cX2_addWord 6 = .ok (.if_icmp .lt 5, 3) := by decide +kernel
theorem dX2_addWord_9 : decode cX2_addWord 9 = .ok (.iconst (-1), 1) := by decide +kernel
theorem dX2_addWord_10 : decode cX2_addWord 10 = .ok (.ireturn, 1) := by decide +kernel
theorem dX2_addWord_11 : decode cX2_addWord 11 = .ok (.iload_n 2, 1) := by decide +kernel
theorem dX2_addWord_12 : decode cX2_addWord 12 = .ok (.ifCond .lt 9, 3) := by decide +kernel
theorem dX2_addWord_15 : decode cX2_addWord 15 = .ok (.iload_n 2, 1) := by decide +kernel
theorem dX2_addWord_16 : decode cX2_addWord 16 = .ok (.bipush 15, 2) := by decide +kernel
theorem dX2_addWord_18 : decode cX2_addWord 18 = .ok (.if_icmp .le 6, 3) := by decide +kernel
theorem dX2_addWord_21 : decode cX2_addWord 21 = .ok (.bipush (-2), 2) := by decide +kernel
theorem dX2_addWord_23 : decode cX2_addWord 23 = .ok (.ireturn, 1) := by decide +kernel
theorem dX2_addWord_24 : decode cX2_addWord 24 = .ok (.aload_n 0, 1) := by decide +kernel
theorem dX2_addWord_25 : decode cX2_addWord 25 = .ok (.getfield 26, 3) := by decide +kernel
theorem dX2_addWord_28 : decode cX2_addWord 28 = .ok (.iload_n 1, 1) := by decide +kernel
theorem dX2_addWord_29 : decode cX2_addWord 29 = .ok (.aaload, 1) := by decide +kernel
theorem dX2_addWord_30 : decode cX2_addWord 30 = .ok (.astore_n 3, 1) := by decide +kernel
theorem dX2_addWord_31 : decode cX2_addWord 31 = .ok (.aload_n 3, 1) := by decide +kernel
theorem dX2_addWord_32 : decode cX2_addWord 32 = .ok (.getfield 72, 3) := by decide +kernel
theorem dX2_addWord_35 : decode cX2_addWord 35 = .ok (.bipush 20, 2) := by decide +kernel
theorem dX2_addWord_37 : decode cX2_addWord 37 = .ok (.if_icmp .lt 6, 3) := by decide +kernel
theorem dX2_addWord_40 : decode cX2_addWord 40 = .ok (.bipush (-3), 2) := by decide +kernel
theorem dX2_addWord_42 : decode cX2_addWord 42 = .ok (.ireturn, 1) := by decide +kernel
theorem dX2_addWord_43 : decode cX2_addWord 43 = .ok (.aload_n 3, 1) := by decide +kernel
theorem dX2_addWord_44 : decode cX2_addWord 44 = .ok (.iload_n 2, 1) := by decide +kernel
theorem dX2_addWord_45 : decode cX2_addWord 45 = .ok (.invokevirtual 96, 3) := by decide +kernel
theorem dX2_addWord_48 : decode cX2_addWord 48 = .ok (.aload_n 0, 1) := by decide +kernel
theorem dX2_addWord_49 : decode cX2_addWord 49 = .ok (.getfield 17, 3) := by decide +kernel
theorem dX2_addWord_52 : decode cX2_addWord 52 = .ok (.iconst 0, 1) := by decide +kernel
theorem dX2_addWord_53 : decode cX2_addWord 53 = .ok (.aaload, 1) := by decide +kernel
theorem dX2_addWord_54 : decode cX2_addWord 54 = .ok (.getfield 99, 3) := by decide +kernel
theorem dX2_addWord_57 : decode cX2_addWord 57 = .ok (.ifCond .eq 12, 3) := by decide +kernel
theorem dX2_addWord_60 : decode cX2_addWord 60 = .ok (.aload_n 0, 1) := by decide +kernel
theorem dX2_addWord_61 : decode cX2_addWord 61 = .ok (.iconst 0, 1) := by decide +kernel
theorem dX2_addWord_62 : decode cX2_addWord 62 = .ok (.aload_n 0, 1) := by decide +kernel
theorem dX2_addWord_63 : decode cX2_addWord 63 = .ok (.invokevirtual 103, 3) := by decide +kernel
theorem dX2_addWord_66 : decode cX2_addWord 66 = .ok (.invokevirtual 107, 3) := by decide +kernel
theorem dX2_addWord_69 : decode cX2_addWord 69 = .ok (.aload_n 3, 1) := by decide +kernel
theorem dX2_addWord_70 : decode cX2_addWord 70 = .ok (.getfield 72, 3) := by decide +kernel
theorem dX2_addWord_73 : decode cX2_addWord 73 = .ok (.ireturn, 1) := by decide +kernel
theorem dX2_changeDelay_0 : decode cX2_changeDelay 0 = .ok (.aload_n 0, 1) := by decide +kernel
theorem dX2_changeDelay_1 : decode cX2_changeDelay 1 = .ok (.iload_n 1, 1) := by decide +kernel
theorem dX2_changeDelay_2 : decode cX2_changeDelay 2 = .ok (.invokevirtual 111, 3) := by decide +kernel
theorem dX2_changeDelay_5 : decode cX2_changeDelay 5 = .ok (.ifCond .eq 12, 3) := by decide +kernel
theorem dX2_changeDelay_8 : decode cX2_changeDelay 8 = .ok (.iload_n 2, 1) := by decide +kernel
theorem dX2_changeDelay_9 : decode cX2_changeDelay 9 = .ok (.ifCond .lt 8, 3) := by decide +kernel
theorem dX2_changeDelay_12 : decode cX2_changeDelay 12 = .ok (.iload_n 2, 1) := by decide +kernel
theorem dX2_changeDelay_13 : decode cX2_changeDelay 13 = .ok (.iconst 3, 1) := by decide +kernel
theorem dX2_changeDelay_14 : decode cX2_changeDelay 14 = .ok (.if_icmp .lt 5, 3) := by decide +kernel
theorem dX2_changeDelay_17 : decode cX2_changeDelay 17 = .ok (.iconst (-1), 1) := by decide +kernel
theorem dX2_changeDelay_18 : decode cX2_changeDelay 18 = .ok (.ireturn, 1) := by decide +kernel
theorem dX2_changeDelay_19 : decode cX2_changeDelay 19 = .ok (.iload_n 3, 1) := by decide +kernel
theorem dX2_changeDelay_20 : decode cX2_changeDelay 20 = .ok (.iconst 1, 1) := by decide +kernel
theorem dX2_changeDelay_21 : decode cX2_changeDelay 21 = .ok (.if_icmp .lt 9, 3) := by decide +kernel
theorem dX2_changeDelay_24 : decode cX2_changeDelay 24 = .ok (.iload_n 3, 1) := by decide +kernel
theorem dX2_changeDelay_25 : decode cX2_changeDelay 25 = .ok (.bipush 20, 2) := by decide +kernel
theorem dX2_changeDelay_27 : decode cX2_changeDelay 27 = .ok (.if_icmp .le 6, 3) := by decide +kernel
theorem dX2_changeDelay_30 : decode cX2_changeDelay 30 = .ok (.bipush (-2), 2) := by decide +kernel
theorem dX2_changeDelay_32 : decode cX2_changeDelay 32 = .ok (.ireturn, 1) := by decide +kernel
theorem dX2_changeDelay_33 : decode cX2_changeDelay 33 = .ok (.aload_n 0, 1) := by decide +kernel
theorem dX2_changeDelay_34 : decode cX2_changeDelay 34 = .ok (.getfield 17, 3) := by decide +kernel
theorem dX2_changeDelay_37 : decode cX2_changeDelay 37 = .ok (.iload_n 1, 1) := by decide +kernel
theorem dX2_changeDelay_38 : decode cX2_changeDelay 38 = .ok (.aaload, 1) := by decide +kernel
theorem dX2_changeDelay_39 : decode cX2_changeDelay 39 = .ok (.getfield 115, 3) := by decide +kernel
theorem dX2_changeDelay_42 : decode cX2_changeDelay 42 = .ok (.iload_n 2, 1) := by decide +kernel
theorem dX2_changeDelay_43 : decode cX2_changeDelay 43 = .ok (.iaload, 1) := by decide +kernel
theorem dX2_changeDelay_44 : decode cX2_changeDelay 44 = .ok (.istore 4, 2) := by decide +kernel
theorem dX2_changeDelay_46 : decode cX2_changeDelay 46 = .ok (.iload 4, 2) := by decide +kernel
theorem dX2_changeDelay_48 : decode cX2_changeDelay 48 = .ok (.iload_n 3, 1) := by decide +kernel
theorem dX2_changeDelay_49 : decode cX2_changeDelay 49 = .ok (.if_icmp .ne 6, 3) := by decide +kernel
theorem dX2_changeDelay_52 : decode cX2_changeDelay 52 = .ok (.bipush (-5), 2) := by decide +kernel
theorem dX2_changeDelay_54 : decode cX2_changeDelay 54 = .ok (.ireturn, 1) := by decide +kernel
theorem dX2_changeDelay_55 : decode cX2_changeDelay 55 = .ok (.aload_n 0, 1) := by decide +kernel
theorem dX2_changeDelay_56 : decode cX2_changeDelay 56 = .ok (.getfield 17, 3) := by decide +kernel
theorem dX2_changeDelay_59 : decode cX2_changeDelay 59 = .ok (.iload_n 1, 1) := by decide +kernel
theorem dX2_changeDelay_60 : decode cX2_changeDelay 60 = .ok (.aaload, 1) := by decide +kernel
theorem dX2_changeDelay_61 : decode cX2_changeDelay 61 = .ok (.getfield 115, 3) := by decide +kernel
theorem dX2_changeDelay_64 : decode cX2_changeDelay 64 = .ok (.iload_n 2, 1) := by decide +kernel
theorem dX2_changeDelay_65 : decode cX2_changeDelay 65 = .ok (.iload_n 3, 1) := by decide +kernel
theorem dX2_changeDelay_66 : decode cX2_changeDelay 66 = .ok (.iastore, 1) := by decide +kernel
theorem dX2_changeDelay_67 : decode cX2_changeDelay 67 = .ok (.iload 4, 2) := by decide +kernel
theorem dX2_changeDelay_69 : decode cX2_changeDelay 69 = .ok (.ireturn, 1) := by decide +kernel
theorem dX2_passTicks_0 : decode cX2_passTicks 0 = .ok (.iload_n 1, 1) := by decide +kernel
theorem dX2_passTicks_1 : decode cX2_passTicks 1 = .ok (.iconst 1, 1) := by decide +kernel
theorem dX2_passTicks_2 : decode cX2_passTicks 2 = .ok (.if_icmp .lt 10, 3) := by decide +kernel
theorem dX2_passTicks_5 : decode cX2_passTicks 5 = .ok (.iload_n 1, 1) := by decide +kernel
theorem dX2_passTicks_6 : decode cX2_passTicks 6 = .ok (.sipush 1000, 3) := by decide +kernel
theorem dX2_passTicks_9 : decode cX2_passTicks 9 = .ok (.if_icmp .le 6, 3) := by decide +kernel
theorem dX2_passTicks_12 : decode cX2_passTicks 12 = .ok (.bipush (-2), 2) := by decide +kernel
theorem dX2_passTicks_14 : decode cX2_passTicks 14 = .ok (.ireturn, 1) := by decide +kernel
theorem dX2_passTicks_15 : decode cX2_passTicks 15 = .ok (.aload_n 0, 1) := by decide +kernel
theorem dX2_passTicks_16 : decode cX2_passTicks 16 = .ok (.getfield 57, 3) := by decide +kernel
theorem dX2_passTicks_19 : decode cX2_passTicks 19 = .ok (.iload_n 1, 1) := by decide +kernel
theorem dX2_passTicks_20 : decode cX2_passTicks 20 = .ok (.iadd, 1) := by decide +kernel
theorem dX2_passTicks_21 : decode cX2_passTicks 21 = .ok (.istore_n 2, 1) := by decide +kernel
theorem dX2_passTicks_22 : decode cX2_passTicks 22 = .ok (.iload_n 2, 1) := by decide +kernel
theorem dX2_passTicks_23 : decode cX2_passTicks 23 = .ok (.ldc 118, 2) := by decide +kernel
theorem dX2_passTicks_25 : decode cX2_passTicks 25 = .ok (.if_icmp .le 6, 3) := by decide +kernel
theorem dX2_passTicks_28 : decode cX2_passTicks 28 = .ok (.bipush (-3), 2) := by decide +kernel
theorem dX2_passTicks_30 : decode cX2_passTicks 30 = .ok (.ireturn, 1) := by decide +kernel
theorem dX2_passTicks_31 : decode cX2_passTicks 31 = .ok (.aload_n 0, 1) := by decide +kernel
theorem dX2_passTicks_32 : decode cX2_passTicks 32 = .ok (.getfield 40, 3) := by decide +kernel
theorem dX2_passTicks_35 : decode cX2_passTicks 35 = .ok (.getfield 119, 3) := by decide +kernel
theorem dX2_passTicks_38 : decode cX2_passTicks 38 = .ok (.istore_n 3, 1) := by decide +kernel
theorem dX2_passTicks_39 : decode cX2_passTicks 39 = .ok (.aload_n 0, 1) := by decide +kernel
theorem dX2_passTicks_40 : decode cX2_passTicks 40 = .ok (.iload_n 2, 1) := by decide +kernel
theorem dX2_passTicks_41 : decode cX2_passTicks 41 = .ok (.invokevirtual 120, 3) := by decide +kernel
theorem dX2_passTicks_44 : decode cX2_passTicks 44 = .ok (.aload_n 0, 1) := by decide +kernel
theorem dX2_passTicks_45 : decode cX2_passTicks 45 = .ok (.iload_n 2, 1) := by decide +kernel
theorem dX2_passTicks_46 : decode cX2_passTicks 46 = .ok (.putfield 57, 3) := by decide +kernel
theorem dX2_passTicks_49 : decode cX2_passTicks 49 = .ok (.aload_n 0, 1) := by decide +kernel
theorem dX2_passTicks_50 : decode cX2_passTicks 50 = .ok (.getfield 40, 3) := by decide +kernel
theorem dX2_passTicks_53 : decode cX2_passTicks 53 = .ok (.getfield 119, 3) := by decide +kernel
theorem dX2_passTicks_56 : decode cX2_passTicks 56 = .ok (.iload_n 3, 1) := by decide +kernel
theorem dX2_passTicks_57 : decode cX2_passTicks 57 = .ok (.isub, 1) := by decide +kernel
theorem dX2_passTicks_58 : decode cX2_passTicks 58 = .ok (.ireturn, 1) := by decide +kernel
theorem dX2_letArriveUpTo_0 : decode cX2_letArriveUpTo 0 = .ok (.iconst 0, 1) := by decide +kernel
theorem dX2_letArriveUpTo_1 : decode cX2_letArriveUpTo 1 = .ok (.istore_n 2, 1) := by decide +kernel
theorem dX2_letArriveUpTo_2 : decode cX2_letArriveUpTo 2 = .ok (.iload_n 2, 1) := by decide +kernel
theorem dX2_letArriveUpTo_3 : decode cX2_letArriveUpTo 3 = .ok (.ldc 118, 2) := by decide +kernel
theorem dX2_letArriveUpTo_5 : decode cX2_letArriveUpTo 5 = .ok (.if_icmp .ge 134, 3) := by decide +kernel
theorem dX2_letArriveUpTo_8 : decode cX2_letArriveUpTo 8 = .ok (.aload_n 0, 1) := by decide +kernel
theorem dX2_letArriveUpTo_9 : decode cX2_letArriveUpTo 9 = .ok (.invokevirtual 123, 3) := by decide +kernel
theorem dX2_letArriveUpTo_12 : decode cX2_letArriveUpTo 12 = .ok (.ifCond .ne 127, 3) := by decide +kernel
theorem dX2_letArriveUpTo_15 : decode cX2_letArriveUpTo 15 = .ok (.aload_n 0, 1) := by decide +kernel
theorem dX2_letArriveUpTo_16 : decode cX2_letArriveUpTo 16 = .ok (.getfield 33, 3) := by decide +kernel
theorem dX2_letArriveUpTo_19 : decode cX2_letArriveUpTo 19 = .ok (.invokevirtual 127, 3) := by decide +kernel
theorem dX2_letArriveUpTo_22 : decode cX2_letArriveUpTo 22 = .ok (.iload_n 1, 1) := by decide +kernel
theorem dX2_letArriveUpTo_23 : decode cX2_letArriveUpTo 23 = .ok (.if_icmp .gt 116, 3) := by decide +kernel
theorem dX2_letArriveUpTo_26 : decode cX2_letArriveUpTo 26 = .ok (.aload_n 0, 1) := by decide +kernel
theorem dX2_letArriveUpTo_27 : decode cX2_letArriveUpTo 27 = .ok (.aload_n 0, 1) := by decide +kernel
theorem dX2_letArriveUpTo_28 : decode cX2_letArriveUpTo 28 = .ok (.getfield 33, 3) := by decide +kernel
theorem dX2_letArriveUpTo_31 : decode cX2_letArriveUpTo 31 = .ok (.invokevirtual 127, 3) := by decide +kernel
theorem dX2_letArriveUpTo_34 : decode cX2_letArriveUpTo 34 = .ok (.putfield 57, 3) := by decide +kernel
theorem dX2_letArriveUpTo_37 : decode cX2_letArriveUpTo 37 = .ok (.aload_n 0, 1) := by decide +kernel
theorem dX2_letArriveUpTo_38 : decode cX2_letArriveUpTo 38 = .ok (.getfield 33, 3) := by decide +kernel
theorem dX2_letArriveUpTo_41 : decode cX2_letArriveUpTo 41 = .ok (.invokevirtual 130, 3) := by decide +kernel
theorem dX2_letArriveUpTo_44 : decode cX2_letArriveUpTo 44 = .ok (.istore_n 3, 1) := by decide +kernel
theorem dX2_letArriveUpTo_45 : decode cX2_letArriveUpTo 45 = .ok (.aload_n 0, 1) := by decide +kernel
theorem dX2_letArriveUpTo_46 : decode cX2_letArriveUpTo 46 = .ok (.getfield 33, 3) := by decide +kernel
theorem dX2_letArriveUpTo_49 : decode cX2_letArriveUpTo 49 = .ok (.invokevirtual 133, 3) := by decide +kernel
theorem dX2_letArriveUpTo_52 : decode cX2_letArriveUpTo 52 = .ok (.istore 4, 2) := by decide +kernel
theorem dX2_letArriveUpTo_54 : decode cX2_letArriveUpTo 54 = .ok (.aload_n 0, 1) := by decide +kernel
theorem dX2_letArriveUpTo_55 : decode cX2_letArriveUpTo 55 = .ok (.getfield 33, 3) := by decide +kernel
theorem dX2_letArriveUpTo_58 : decode cX2_letArriveUpTo 58 = .ok (.invokevirtual 136, 3) := by decide +kernel
theorem dX2_letArriveUpTo_61 : decode cX2_letArriveUpTo 61 = .ok (.istore 5, 2) := by decide +kernel
theorem dX2_letArriveUpTo_63 : decode cX2_letArriveUpTo 63 = .ok (.aload_n 0, 1) := by decide +kernel
theorem dX2_letArriveUpTo_64 : decode cX2_letArriveUpTo 64 = .ok (.getfield 33, 3) := by decide +kernel
theorem dX2_letArriveUpTo_67 : decode cX2_letArriveUpTo 67 = .ok (.invokevirtual 139, 3) := by decide +kernel
theorem dX2_letArriveUpTo_70 : decode cX2_letArriveUpTo 70 = .ok (.aload_n 0, 1) := by decide +kernel
theorem dX2_letArriveUpTo_71 : decode cX2_letArriveUpTo 71 = .ok (.dup, 1) := by decide +kernel
theorem dX2_letArriveUpTo_72 : decode cX2_letArriveUpTo 72 = .ok (.getfield 66, 3) := by decide +kernel
theorem dX2_letArriveUpTo_75 : decode cX2_letArriveUpTo 75 = .ok (.iconst 1, 1) := by decide +kernel
theorem dX2_letArriveUpTo_76 : decode cX2_letArriveUpTo 76 = .ok (.iadd, 1) := by decide +kernel
theorem dX2_letArriveUpTo_77 : decode cX2_letArriveUpTo 77 = .ok (.putfield 66, 3) := by decide +kernel
theorem dX2_letArriveUpTo_80 : decode cX2_letArriveUpTo 80 = .ok (.aload_n 0, 1) := by decide +kernel
theorem dX2_letArriveUpTo_81 : decode cX2_letArriveUpTo 81 = .ok (.iload_n 3, 1) := by decide +kernel
theorem dX2_letArriveUpTo_82 : decode cX2_letArriveUpTo 82 = .ok (.invokevirtual 111, 3) := by decide +kernel
theorem dX2_letArriveUpTo_85 : decode cX2_letArriveUpTo 85 = .ok (.ifCond .ne 6, 3) := by decide +kernel
theorem dX2_letArriveUpTo_88 : decode cX2_letArriveUpTo 88 = .ok (.goto 45, 3) := by decide +kernel
theorem dX2_letArriveUpTo_91 : decode cX2_letArriveUpTo 91 = .ok (.iload 4, 2) := by decide +kernel
theorem dX2_letArriveUpTo_93 : decode cX2_letArriveUpTo 93 = .ok (.ifCond .ne 13, 3) := by decide +kernel
theorem dX2_letArriveUpTo_96 : decode cX2_letArriveUpTo 96 = .ok (.aload_n 0, 1) := by decide +kernel
theorem dX2_letArriveUpTo_97 : decode cX2_letArriveUpTo 97 = .ok (.iload_n 3, 1) := by decide +kernel
theorem dX2_letArriveUpTo_98 : decode cX2_letArriveUpTo 98 = .ok (.iload 5, 2) := by decide +kernel
theorem dX2_letArriveUpTo_100 : decode cX2_letArriveUpTo 100 = .ok (.invokevirtual 142, 3) := by decide +kernel
theorem dX2_letArriveUpTo_103 : decode cX2_letArriveUpTo 103 = .ok (.goto 30, 3) := by decide +kernel
theorem dX2_letArriveUpTo_106 : decode cX2_letArriveUpTo 106 = .ok (.iload 4, 2) := by decide +kernel
theorem dX2_letArriveUpTo_108 : decode cX2_letArriveUpTo 108 = .ok (.iconst 1, 1) := by decide +kernel
theorem dX2_letArriveUpTo_109 : decode cX2_letArriveUpTo 109 = .ok (.if_icmp .ne 13, 3) := by decide +kernel
theorem dX2_letArriveUpTo_112 : decode cX2_letArriveUpTo 112 = .ok (.aload_n 0, 1) := by decide +kernel
theorem dX2_letArriveUpTo_113 : decode cX2_letArriveUpTo 113 = .ok (.iload_n 3, 1) := by decide +kernel
theorem dX2_letArriveUpTo_114 : decode cX2_letArriveUpTo 114 = .ok (.iload 5, 2) := by decide +kernel
theorem dX2_letArriveUpTo_116 : decode cX2_letArriveUpTo 116 = .ok (.invokevirtual 145, 3) := by decide +kernel
theorem dX2_letArriveUpTo_119 : decode cX2_letArriveUpTo 119 = .ok (.goto 14, 3) := by decide +kernel
theorem dX2_letArriveUpTo_122 : decode cX2_letArriveUpTo 122 = .ok (.aload_n 0, 1) := by decide +kernel
theorem dX2_letArriveUpTo_123 : decode cX2_letArriveUpTo 123 = .ok (.getfield 17, 3) := by decide +kernel
theorem dX2_letArriveUpTo_126 : decode cX2_letArriveUpTo 126 = .ok (.iload_n 3, 1) := by decide +kernel
theorem dX2_letArriveUpTo_127 : decode cX2_letArriveUpTo 127 = .ok (.aaload, 1) := by decide +kernel
theorem dX2_letArriveUpTo_128 : decode cX2_letArriveUpTo 128 = .ok (.iload 5, 2) := by decide +kernel
theorem dX2_letArriveUpTo_130 : decode cX2_letArriveUpTo 130 = .ok (.putfield 148, 3) := by decide +kernel
theorem dX2_letArriveUpTo_133 : decode cX2_letArriveUpTo 133 = .ok (.iinc 2 1, 3) := by decide +kernel
theorem dX2_letArriveUpTo_136 : decode cX2_letArriveUpTo 136 = .ok (.goto (-134), 3) := by decide +kernel
theorem dX2_letArriveUpTo_139 : decode cX2_letArriveUpTo 139 = .ok (.return_, 1) := by decide +kernel
theorem dX2_letRequestArrive_0 : decode cX2_letRequestArrive 0 = .ok (.aload_n 0, 1) := by decide +kernel
theorem dX2_letRequestArrive_1 : decode cX2_letRequestArrive 1 = .ok (.getfield 17, 3) := by decide +kernel
theorem dX2_letRequestArrive_4 : decode cX2_letRequestArrive 4 = .ok (.iload_n 1, 1) := by decide +kernel
theorem dX2_letRequestArrive_5 : decode cX2_letRequestArrive 5 = .ok (.aaload, 1) := by decide +kernel
theorem dX2_letRequestArrive_6 : decode cX2_letRequestArrive 6 = .ok (.iload_n 2, 1) := by decide +kernel
theorem dX2_letRequestArrive_7 : decode cX2_letRequestArrive 7 = .ok (.putfield 151, 3) := by decide +kernel
theorem dX2_letRequestArrive_10 : decode cX2_letRequestArrive 10 = .ok (.iload_n 2, 1) := by decide +kernel
theorem dX2_letRequestArrive_11 : decode cX2_letRequestArrive 11 = .ok (.ifCond .ne 13, 3) := by decide +kernel
theorem dX2_letRequestArrive_14 : decode cX2_letRequestArrive 14 = .ok (.aload_n 0, 1) := by decide +kernel
theorem dX2_letRequestArrive_15 : decode cX2_letRequestArrive 15 = .ok (.iload_n 1, 1) := by decide +kernel
theorem dX2_letRequestArrive_16 : decode cX2_letRequestArrive 16 = .ok (.iconst 0, 1) := by decide +kernel
theorem dX2_letRequestArrive_17 : decode cX2_letRequestArrive 17 = .ok (.iconst 0, 1) := by decide +kernel
theorem dX2_letRequestArrive_18 : decode cX2_letRequestArrive 18 = .ok (.invokevirtual 154, 3) := by decide +kernel
theorem dX2_letRequestArrive_21 : decode cX2_letRequestArrive 21 = .ok (.goto 94, 3) := by decide +kernel
theorem dX2_letRequestArrive_24 : decode cX2_letRequestArrive 24 = .ok (.iload_n 1, 1) := by decide +kernel
theorem dX2_letRequestArrive_25 : decode cX2_letRequestArrive 25 = .ok (.aload_n 0, 1) := by decide +kernel
theorem dX2_letRequestArrive_26 : decode cX2_letRequestArrive 26 = .ok (.getfield 53, 3) := by decide +kernel
theorem dX2_letRequestArrive_29 : decode cX2_letRequestArrive 29 = .ok (.if_icmp .ne 31, 3) := by decide +kernel
theorem dX2_letRequestArrive_32 : decode cX2_letRequestArrive 32 = .ok (.aload_n 0, 1) := by decide +kernel
theorem dX2_letRequestArrive_33 : decode cX2_letRequestArrive 33 = .ok (.aload_n 0, 1) := by decide +kernel
theorem dX2_letRequestArrive_34 : decode cX2_letRequestArrive 34 = .ok (.getfield 17, 3) := by decide +kernel
theorem dX2_letRequestArrive_37 : decode cX2_letRequestArrive 37 = .ok (.iload_n 1, 1) := by decide +kernel
theorem dX2_letRequestArrive_38 : decode cX2_letRequestArrive 38 = .ok (.aaload, 1) := by decide +kernel
theorem dX2_letRequestArrive_39 : decode cX2_letRequestArrive 39 = .ok (.getfield 148, 3) := by decide +kernel
theorem dX2_letRequestArrive_42 : decode cX2_letRequestArrive 42 = .ok (.invokevirtual 158, 3) := by decide +kernel
theorem dX2_letRequestArrive_45 : decode cX2_letRequestArrive 45 = .ok (.aload_n 0, 1) := by decide +kernel
theorem dX2_letRequestArrive_46 : decode cX2_letRequestArrive 46 = .ok (.iload_n 1, 1) := by decide +kernel
theorem dX2_letRequestArrive_47 : decode cX2_letRequestArrive 47 = .ok (.iconst 1, 1) := by decide +kernel
theorem dX2_letRequestArrive_48 : decode cX2_letRequestArrive 48 = .ok (.aload_n 0, 1) := by decide +kernel
theorem dX2_letRequestArrive_49 : decode cX2_letRequestArrive 49 = .ok (.getfield 9, 3) := by decide +kernel
theorem dX2_letRequestArrive_52 : decode cX2_letRequestArrive 52 = .ok (.iconst 1, 1) := by decide +kernel
theorem dX2_letRequestArrive_53 : decode cX2_letRequestArrive 53 = .ok (.iaload, 1) := by decide +kernel
theorem dX2_letRequestArrive_54 : decode cX2_letRequestArrive 54 = .ok (.invokevirtual 154, 3) := by decide +kernel
theorem dX2_letRequestArrive_57 : decode cX2_letRequestArrive 57 = .ok (.goto 58, 3) := by decide +kernel
theorem dX2_letRequestArrive_60 : decode cX2_letRequestArrive 60 = .ok (.aload_n 0, 1) := by decide +kernel
theorem dX2_letRequestArrive_61 : decode cX2_letRequestArrive 61 = .ok (.getfield 21, 3) := by decide +kernel
theorem dX2_letRequestArrive_64 : decode cX2_letRequestArrive 64 = .ok (.iload_n 1, 1) := by decide +kernel
theorem dX2_letRequestArrive_65 : decode cX2_letRequestArrive 65 = .ok (.iaload, 1) := by decide +kernel
theorem dX2_letRequestArrive_66 : decode cX2_letRequestArrive 66 = .ok (.iconst (-1), 1) := by decide +kernel
theorem dX2_letRequestArrive_67 : decode cX2_letRequestArrive 67 = .ok (.if_icmp .eq 16, 3) := by decide +kernel
theorem dX2_letRequestArrive_70 : decode cX2_letRequestArrive 70 = .ok (.aload_n 0, 1) := by decide +kernel
theorem dX2_letRequestArrive_71 : decode cX2_letRequestArrive 71 = .ok (.getfield 17, 3) := by decide +kernel
theorem dX2_letRequestArrive_74 : decode cX2_letRequestArrive 74 = .ok (.iload_n 1, 1) := by decide +kernel
theorem dX2_letRequestArrive_75 : decode cX2_letRequestArrive 75 = .ok (.aaload, 1) := by decide +kernel
theorem dX2_letRequestArrive_76 : decode cX2_letRequestArrive 76 = .ok (.iconst 1, 1) := by decide +kernel
theorem dX2_letRequestArrive_77 : decode cX2_letRequestArrive 77 = .ok (.putfield 161, 3) := by decide +kernel
theorem dX2_letRequestArrive_80 : decode cX2_letRequestArrive 80 = .ok (.goto 35, 3) := by decide +kernel
theorem dX2_letRequestArrive_83 : decode cX2_letRequestArrive 83 = .ok (.aload_n 0, 1) := by decide +kernel
theorem dX2_letRequestArrive_84 : decode cX2_letRequestArrive 84 = .ok (.iload_n 1, 1) := by decide +kernel
theorem dX2_letRequestArrive_85 : decode cX2_letRequestArrive 85 = .ok (.invokevirtual 164, 3) := by decide +kernel
theorem dX2_letRequestArrive_88 : decode cX2_letRequestArrive 88 = .ok (.aload_n 0, 1) := by decide +kernel
theorem dX2_letRequestArrive_89 : decode cX2_letRequestArrive 89 = .ok (.getfield 17, 3) := by decide +kernel
theorem dX2_letRequestArrive_92 : decode cX2_letRequestArrive 92 = .ok (.iload_n 1, 1) := by decide +kernel
theorem dX2_letRequestArrive_93 : decode cX2_letRequestArrive 93 = .ok (.iconst 1, 1) := by decide +kernel
theorem dX2_letRequestArrive_94 : decode cX2_letRequestArrive 94 = .ok (.iadd, 1) := by decide +kernel
theorem dX2_letRequestArrive_95 : decode cX2_letRequestArrive 95 = .ok (.aaload, 1) := by decide +kernel
theorem dX2_letRequestArrive_96 : decode cX2_letRequestArrive 96 = .ok (.getfield 99, 3) := by decide +kernel
theorem dX2_letRequestArrive_99 : decode cX2_letRequestArrive 99 = .ok (.ifCond .eq 16, 3) := by decide +kernel
theorem dX2_letRequestArrive_102 : decode cX2_letRequestArrive 102 = .ok (.aload_n 0, 1) := by decide +kernel
theorem dX2_letRequestArrive_103 : decode cX2_letRequestArrive 103 = .ok (.iload_n 1, 1) := by decide +kernel
theorem dX2_letRequestArrive_104 : decode cX2_letRequestArrive 104 = .ok (.iconst 1, 1) := by decide +kernel
theorem dX2_letRequestArrive_105 : decode cX2_letRequestArrive 105 = .ok (.iadd, 1) := by decide +kernel
theorem dX2_letRequestArrive_106 : decode cX2_letRequestArrive 106 = .ok (.aload_n 0, 1) := by decide +kernel
theorem dX2_letRequestArrive_107 : decode cX2_letRequestArrive 107 = .ok (.getfield 21, 3) := by decide +kernel
theorem dX2_letRequestArrive_110 : decode cX2_letRequestArrive 110 = .ok (.iload_n 1, 1) := by decide +kernel
theorem dX2_letRequestArrive_111 : decode cX2_letRequestArrive 111 = .ok (.iaload, 1) := by decide +kernel
theorem dX2_letRequestArrive_112 : decode cX2_letRequestArrive 112 = .ok (.invokevirtual 107, 3) := by decide +kernel
theorem dX2_letRequestArrive_115 : decode cX2_letRequestArrive 115 = .ok (.return_, 1) := by decide +kernel
theorem dX2_letAnswerArrive_0 : decode cX2_letAnswerArrive 0 = .ok (.aload_n 0, 1) := by decide +kernel
theorem dX2_letAnswerArrive_1 : decode cX2_letAnswerArrive 1 = .ok (.getfield 17, 3) := by decide +kernel
theorem dX2_letAnswerArrive_4 : decode cX2_letAnswerArrive 4 = .ok (.iload_n 1, 1) := by decide +kernel
theorem dX2_letAnswerArrive_5 : decode cX2_letAnswerArrive 5 = .ok (.aaload, 1) := by decide +kernel
theorem dX2_letAnswerArrive_6 : decode cX2_letAnswerArrive 6 = .ok (.iload_n 2, 1) := by decide +kernel
theorem dX2_letAnswerArrive_7 : decode cX2_letAnswerArrive 7 = .ok (.putfield 167, 3) := by decide +kernel
theorem dX2_letAnswerArrive_10 : decode cX2_letAnswerArrive 10 = .ok (.iload_n 2, 1) := by decide +kernel
theorem dX2_letAnswerArrive_11 : decode cX2_letAnswerArrive 11 = .ok (.ifCond .ne 45, 3) := by decide +kernel
theorem dX2_letAnswerArrive_14 : decode cX2_letAnswerArrive 14 = .ok (.aload_n 0, 1) := by decide +kernel
theorem dX2_letAnswerArrive_15 : decode cX2_letAnswerArrive 15 = .ok (.getfield 17, 3) := by decide +kernel
theorem dX2_letAnswerArrive_18 : decode cX2_letAnswerArrive 18 = .ok (.iload_n 1, 1) := by decide +kernel
theorem dX2_letAnswerArrive_19 : decode cX2_letAnswerArrive 19 = .ok (.aaload, 1) := by decide +kernel
theorem dX2_letAnswerArrive_20 : decode cX2_letAnswerArrive 20 = .ok (.iconst 1, 1) := by decide +kernel
theorem dX2_letAnswerArrive_21 : decode cX2_letAnswerArrive 21 = .ok (.putfield 99, 3) := by decide +kernel
theorem dX2_letAnswerArrive_24 : decode cX2_letAnswerArrive 24 = .ok (.iload_n 1, 1) := by decide +kernel
theorem dX2_letAnswerArrive_25 : decode cX2_letAnswerArrive 25 = .ok (.ifCond .ne 10, 3) := by decide +kernel
theorem dX2_letAnswerArrive_28 : decode cX2_letAnswerArrive 28 = .ok (.aload_n 0, 1) := by decide +kernel
theorem dX2_letAnswerArrive_29 : decode cX2_letAnswerArrive 29 = .ok (.invokevirtual 103, 3) := by decide +kernel
theorem dX2_letAnswerArrive_32 : decode cX2_letAnswerArrive 32 = .ok (.goto 11, 3) := by decide +kernel
theorem dX2_letAnswerArrive_35 : decode cX2_letAnswerArrive 35 = .ok (.aload_n 0, 1) := by decide +kernel
theorem dX2_letAnswerArrive_36 : decode cX2_letAnswerArrive 36 = .ok (.getfield 21, 3) := by decide +kernel
theorem dX2_letAnswerArrive_39 : decode cX2_letAnswerArrive 39 = .ok (.iload_n 1, 1) := by decide +kernel
theorem dX2_letAnswerArrive_40 : decode cX2_letAnswerArrive 40 = .ok (.iconst 1, 1) := by decide +kernel
theorem dX2_letAnswerArrive_41 : decode cX2_letAnswerArrive 41 = .ok (.isub, 1) := by decide +kernel
theorem dX2_letAnswerArrive_42 : decode cX2_letAnswerArrive 42 = .ok (.iaload, 1) := by decide +kernel
theorem dX2_letAnswerArrive_43 : decode cX2_letAnswerArrive 43 = .ok (.istore_n 3, 1) := by decide +kernel
theorem dX2_letAnswerArrive_44 : decode cX2_letAnswerArrive 44 = .ok (.iload_n 3, 1) := by decide +kernel
theorem dX2_letAnswerArrive_45 : decode cX2_letAnswerArrive 45 = .ok (.iconst (-1), 1) := by decide +kernel
theorem dX2_letAnswerArrive_46 : decode cX2_letAnswerArrive 46 = .ok (.if_icmp .eq 9, 3) := by decide +kernel
theorem dX2_letAnswerArrive_49 : decode cX2_letAnswerArrive 49 = .ok (.aload_n 0, 1) := by decide +kernel
theorem dX2_letAnswerArrive_50 : decode cX2_letAnswerArrive 50 = .ok (.iload_n 1, 1) := by decide +kernel
theorem dX2_letAnswerArrive_51 : decode cX2_letAnswerArrive 51 = .ok (.iload_n 3, 1) := by decide +kernel
theorem dX2_letAnswerArrive_52 : decode cX2_letAnswerArrive 52 = .ok (.invokevirtual 107, 3) := by decide +kernel
theorem dX2_letAnswerArrive_55 : decode cX2_letAnswerArrive 55 = .ok (.return_, 1) := by decide +kernel
theorem dX2_letAnswerArrive_56 : decode cX2_letAnswerArrive 56 = .ok (.aload_n 0, 1) := by decide +kernel
theorem dX2_letAnswerArrive_57 : decode cX2_letAnswerArrive 57 = .ok (.iload_n 1, 1) := by decide +kernel
theorem dX2_letAnswerArrive_58 : decode cX2_letAnswerArrive 58 = .ok (.iconst 0, 1) := by decide +kernel
theorem dX2_letAnswerArrive_59 : decode cX2_letAnswerArrive 59 = .ok (.iconst 0, 1) := by decide +kernel
theorem dX2_letAnswerArrive_60 : decode cX2_letAnswerArrive 60 = .ok (.invokevirtual 170, 3) := by decide +kernel
theorem dX2_letAnswerArrive_63 : decode cX2_letAnswerArrive 63 = .ok (.iload_n 1, 1) := by decide +kernel
theorem dX2_letAnswerArrive_64 : decode cX2_letAnswerArrive 64 = .ok (.ifCond .le 33, 3) := by decide +kernel
theorem dX2_letAnswerArrive_67 : decode cX2_letAnswerArrive 67 = .ok (.aload_n 0, 1) := by decide +kernel
theorem dX2_letAnswerArrive_68 : decode cX2_letAnswerArrive 68 = .ok (.getfield 21, 3) := by decide +kernel
theorem dX2_letAnswerArrive_71 : decode cX2_letAnswerArrive 71 = .ok (.iload_n 1, 1) := by decide +kernel
theorem dX2_letAnswerArrive_72 : decode cX2_letAnswerArrive 72 = .ok (.iconst 1, 1) := by decide +kernel
theorem dX2_letAnswerArrive_73 : decode cX2_letAnswerArrive 73 = .ok (.isub, 1) := by decide +kernel
theorem dX2_letAnswerArrive_74 : decode cX2_letAnswerArrive 74 = .ok (.iconst (-1), 1) := by decide +kernel
theorem dX2_letAnswerArrive_75 : decode cX2_letAnswerArrive 75 = .ok (.iastore, 1) := by decide +kernel
theorem dX2_letAnswerArrive_76 : decode cX2_letAnswerArrive 76 = .ok (.aload_n 0, 1) := by decide +kernel
theorem dX2_letAnswerArrive_77 : decode cX2_letAnswerArrive 77 = .ok (.getfield 17, 3) := by decide +kernel
theorem dX2_letAnswerArrive_80 : decode cX2_letAnswerArrive 80 = .ok (.iload_n 1, 1) := by decide +kernel
theorem dX2_letAnswerArrive_81 : decode cX2_letAnswerArrive 81 = .ok (.iconst 1, 1) := by decide +kernel
theorem dX2_letAnswerArrive_82 : decode cX2_letAnswerArrive 82 = .ok (.isub, 1) := by decide +kernel
theorem dX2_letAnswerArrive_83 : decode cX2_letAnswerArrive 83 = .ok (.aaload, 1) := by decide +kernel
theorem dX2_letAnswerArrive_84 : decode cX2_letAnswerArrive 84 = .ok (.getfield 161, 3) := by decide +kernel
theorem dX2_letAnswerArrive_87 : decode cX2_letAnswerArrive 87 = .ok (.ifCond .eq 10, 3) := by decide +kernel
theorem dX2_letAnswerArrive_90 : decode cX2_letAnswerArrive 90 = .ok (.aload_n 0, 1) := by decide +kernel
theorem dX2_letAnswerArrive_91 : decode cX2_letAnswerArrive 91 = .ok (.iload_n 1, 1) := by decide +kernel
theorem dX2_letAnswerArrive_92 : decode cX2_letAnswerArrive 92 = .ok (.iconst 1, 1) := by decide +kernel
theorem dX2_letAnswerArrive_93 : decode cX2_letAnswerArrive 93 = .ok (.isub, 1) := by decide +kernel
theorem dX2_letAnswerArrive_94 : decode cX2_letAnswerArrive 94 = .ok (.invokevirtual 164, 3) := by decide +kernel
theorem dX2_letAnswerArrive_97 : decode cX2_letAnswerArrive 97 = .ok (.return_, 1) := by decide +kernel
theorem dX2_takeWord_0 : decode cX2_takeWord 0 = .ok (.aload_n 0, 1) := by decide +kernel
theorem dX2_takeWord_1 : decode cX2_takeWord 1 = .ok (.getfield 17, 3) := by decide +kernel
theorem dX2_takeWord_4 : decode cX2_takeWord 4 = .ok (.iload_n 1, 1) := by decide +kernel
theorem dX2_takeWord_5 : decode cX2_takeWord 5 = .ok (.aaload, 1) := by decide +kernel
theorem dX2_takeWord_6 : decode cX2_takeWord 6 = .ok (.iconst 0, 1) := by decide +kernel
theorem dX2_takeWord_7 : decode cX2_takeWord 7 = .ok (.putfield 161, 3) := by decide +kernel
theorem dX2_takeWord_10 : decode cX2_takeWord 10 = .ok (.aload_n 0, 1) := by decide +kernel
theorem dX2_takeWord_11 : decode cX2_takeWord 11 = .ok (.getfield 21, 3) := by decide +kernel
theorem dX2_takeWord_14 : decode cX2_takeWord 14 = .ok (.iload_n 1, 1) := by decide +kernel
theorem dX2_takeWord_15 : decode cX2_takeWord 15 = .ok (.aload_n 0, 1) := by decide +kernel
theorem dX2_takeWord_16 : decode cX2_takeWord 16 = .ok (.getfield 17, 3) := by decide +kernel
theorem dX2_takeWord_19 : decode cX2_takeWord 19 = .ok (.iload_n 1, 1) := by decide +kernel
theorem dX2_takeWord_20 : decode cX2_takeWord 20 = .ok (.aaload, 1) := by decide +kernel
theorem dX2_takeWord_21 : decode cX2_takeWord 21 = .ok (.getfield 148, 3) := by decide +kernel
theorem dX2_takeWord_24 : decode cX2_takeWord 24 = .ok (.iastore, 1) := by decide +kernel
theorem dX2_takeWord_25 : decode cX2_takeWord 25 = .ok (.aload_n 0, 1) := by decide +kernel
theorem dX2_takeWord_26 : decode cX2_takeWord 26 = .ok (.iload_n 1, 1) := by decide +kernel
theorem dX2_takeWord_27 : decode cX2_takeWord 27 = .ok (.iconst 1, 1) := by decide +kernel
theorem dX2_takeWord_28 : decode cX2_takeWord 28 = .ok (.iconst 0, 1) := by decide +kernel
theorem dX2_takeWord_29 : decode cX2_takeWord 29 = .ok (.invokevirtual 154, 3) := by decide +kernel
theorem dX2_takeWord_32 : decode cX2_takeWord 32 = .ok (.return_, 1) := by decide +kernel
theorem dX2_letOneGo_0 : decode cX2_letOneGo 0 = .ok (.aload_n 0, 1) := by decide +kernel
theorem dX2_letOneGo_1 : decode cX2_letOneGo 1 = .ok (.invokevirtual 173, 3) := by decide +kernel
theorem dX2_letOneGo_4 : decode cX2_letOneGo 4 = .ok (.istore_n 1, 1) := by decide +kernel
theorem dX2_letOneGo_5 : decode cX2_letOneGo 5 = .ok (.aload_n 0, 1) := by decide +kernel
theorem dX2_letOneGo_6 : decode cX2_letOneGo 6 = .ok (.getfield 26, 3) := by decide +kernel
theorem dX2_letOneGo_9 : decode cX2_letOneGo 9 = .ok (.iload_n 1, 1) := by decide +kernel
theorem dX2_letOneGo_10 : decode cX2_letOneGo 10 = .ok (.aaload, 1) := by decide +kernel
theorem dX2_letOneGo_11 : decode cX2_letOneGo 11 = .ok (.invokevirtual 176, 3) := by decide +kernel
theorem dX2_letOneGo_14 : decode cX2_letOneGo 14 = .ok (.istore_n 2, 1) := by decide +kernel
theorem dX2_letOneGo_15 : decode cX2_letOneGo 15 = .ok (.iload_n 2, 1) := by decide +kernel
theorem dX2_letOneGo_16 : decode cX2_letOneGo 16 = .ok (.iconst (-1), 1) := by decide +kernel
theorem dX2_letOneGo_17 : decode cX2_letOneGo 17 = .ok (.if_icmp .ne 5, 3) := by decide +kernel
theorem dX2_letOneGo_20 : decode cX2_letOneGo 20 = .ok (.iconst (-1), 1) := by decide +kernel
theorem dX2_letOneGo_21 : decode cX2_letOneGo 21 = .ok (.ireturn, 1) := by decide +kernel
theorem dX2_letOneGo_22 : decode cX2_letOneGo 22 = .ok (.iload_n 1, 1) := by decide +kernel
theorem dX2_letOneGo_23 : decode cX2_letOneGo 23 = .ok (.bipush 16, 2) := by decide +kernel
theorem dX2_letOneGo_25 : decode cX2_letOneGo 25 = .ok (.imul, 1) := by decide +kernel
theorem dX2_letOneGo_26 : decode cX2_letOneGo 26 = .ok (.iload_n 2, 1) := by decide +kernel
theorem dX2_letOneGo_27 : decode cX2_letOneGo 27 = .ok (.iadd, 1) := by decide +kernel
theorem dX2_letOneGo_28 : decode cX2_letOneGo 28 = .ok (.istore_n 3, 1) := by decide +kernel
theorem dX2_letOneGo_29 : decode cX2_letOneGo 29 = .ok (.aload_n 0, 1) := by decide +kernel
theorem dX2_letOneGo_30 : decode cX2_letOneGo 30 = .ok (.iload_n 1, 1) := by decide +kernel
theorem dX2_letOneGo_31 : decode cX2_letOneGo 31 = .ok (.putfield 60, 3) := by decide +kernel
theorem dX2_letOneGo_34 : decode cX2_letOneGo 34 = .ok (.aload_n 0, 1) := by decide +kernel
theorem dX2_letOneGo_35 : decode cX2_letOneGo 35 = .ok (.getfield 44, 3) := by decide +kernel
theorem dX2_letOneGo_38 : decode cX2_letOneGo 38 = .ok (.aload_n 0, 1) := by decide +kernel
theorem dX2_letOneGo_39 : decode cX2_letOneGo 39 = .ok (.getfield 63, 3) := by decide +kernel
theorem dX2_letOneGo_42 : decode cX2_letOneGo 42 = .ok (.bipush 8, 2) := by decide +kernel
