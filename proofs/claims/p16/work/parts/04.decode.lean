theorem dX0_init_0 : decode cX0_init 0 = .ok (.aload_n 0, 1) := by decide +kernel
theorem dX0_init_1 : decode cX0_init 1 = .ok (.invokespecial 3, 3) := by decide +kernel
theorem dX0_init_4 : decode cX0_init 4 = .ok (.aload_n 0, 1) := by decide +kernel
theorem dX0_init_5 : decode cX0_init 5 = .ok (.bipush 12, 2) := by decide +kernel
theorem dX0_init_7 : decode cX0_init 7 = .ok (.anewarray 9, 3) := by decide +kernel
theorem dX0_init_10 : decode cX0_init 10 = .ok (.putfield 11, 3) := by decide +kernel
theorem dX0_init_13 : decode cX0_init 13 = .ok (.aload_n 0, 1) := by decide +kernel
theorem dX0_init_14 : decode cX0_init 14 = .ok (.iconst 0, 1) := by decide +kernel
theorem dX0_init_15 : decode cX0_init 15 = .ok (.putfield 17, 3) := by decide +kernel
theorem dX0_init_18 : decode cX0_init 18 = .ok (.aload_n 0, 1) := by decide +kernel
theorem dX0_init_19 : decode cX0_init 19 = .ok (.bipush 12, 2) := by decide +kernel
theorem dX0_init_21 : decode cX0_init 21 = .ok (.anewarray 21, 3) := by decide +kernel
theorem dX0_init_24 : decode cX0_init 24 = .ok (.putfield 23, 3) := by decide +kernel
theorem dX0_init_27 : decode cX0_init 27 = .ok (.aload_n 0, 1) := by decide +kernel
theorem dX0_init_28 : decode cX0_init 28 = .ok (.iconst 0, 1) := by decide +kernel
theorem dX0_init_29 : decode cX0_init 29 = .ok (.putfield 27, 3) := by decide +kernel
theorem dX0_init_32 : decode cX0_init 32 = .ok (.return_, 1) := by decide +kernel
theorem dX0_fileCount_0 : decode cX0_fileCount 0 = .ok (.aload_n 0, 1) := by decide +kernel
theorem dX0_fileCount_1 : decode cX0_fileCount 1 = .ok (.getfield 17, 3) := by decide +kernel
theorem dX0_fileCount_4 : decode cX0_fileCount 4 = .ok (.ireturn, 1) := by decide +kernel
theorem dX0_lineCount_0 : decode cX0_lineCount 0 = .ok (.aload_n 0, 1) := by decide +kernel
theorem dX0_lineCount_1 : decode cX0_lineCount 1 = .ok (.getfield 27, 3) := by decide +kernel
theorem dX0_lineCount_4 : decode cX0_lineCount 4 = .ok (.ireturn, 1) := by decide +kernel
theorem dX0_clear_0 : decode cX0_clear 0 = .ok (.aload_n 0, 1) := by decide +kernel
theorem dX0_clear_1 : decode cX0_clear 1 = .ok (.iconst 0, 1) := by decide +kernel
theorem dX0_clear_2 : decode cX0_clear 2 = .ok (.putfield 17, 3) := by decide +kernel
theorem dX0_clear_5 : decode cX0_clear 5 = .ok (.aload_n 0, 1) := by decide +kernel
theorem dX0_clear_6 : decode cX0_clear 6 = .ok (.iconst 0, 1) := by decide +kernel
theorem dX0_clear_7 : decode cX0_clear 7 = .ok (.putfield 27, 3) := by decide +kernel
theorem dX0_clear_10 : decode cX0_clear 10 = .ok (.return_, 1) := by decide +kernel
theorem dX0_takeFile_0 : decode cX0_takeFile 0 = .ok (.aload_n 1, 1) := by decide +kernel
theorem dX0_takeFile_1 : decode cX0_takeFile 1 = .ok (.invokestatic 30, 3) := by decide +kernel
theorem dX0_takeFile_4 : decode cX0_takeFile 4 = .ok (.ifCond .ne 6, 3) := by decide +kernel
theorem dX0_takeFile_7 : decode cX0_takeFile 7 = .ok (.bipush (-2), 2) := by decide +kernel
theorem dX0_takeFile_9 : decode cX0_takeFile 9 = .ok (.ireturn, 1) := by decide +kernel
theorem dX0_takeFile_10 : decode cX0_takeFile 10 = .ok (.aload_n 0, 1) := by decide +kernel
theorem dX0_takeFile_11 : decode cX0_takeFile 11 = .ok (.getfield 17, 3) := by decide +kernel
theorem dX0_takeFile_14 : decode cX0_takeFile 14 = .ok (.aload_n 0, 1) := by decide +kernel
theorem dX0_takeFile_15 : decode cX0_takeFile 15 = .ok (.getfield 11, 3) := by decide +kernel
theorem dX0_takeFile_18 : decode cX0_takeFile 18 = .ok (.arraylength, 1) := by decide +kernel
theorem dX0_takeFile_19 : decode cX0_takeFile 19 = .ok (.if_icmp .lt 6, 3) := by decide +kernel
theorem dX0_takeFile_22 : decode cX0_takeFile 22 = .ok (.bipush (-4), 2) := by decide +kernel
theorem dX0_takeFile_24 : decode cX0_takeFile 24 = .ok (.ireturn, 1) := by decide +kernel
theorem dX0_takeFile_25 : decode cX0_takeFile 25 = .ok (.aload_n 0, 1) := by decide +kernel
theorem dX0_takeFile_26 : decode cX0_takeFile 26 = .ok (.getfield 11, 3) := by decide +kernel
theorem dX0_takeFile_29 : decode cX0_takeFile 29 = .ok (.aload_n 0, 1) := by decide +kernel
theorem dX0_takeFile_30 : decode cX0_takeFile 30 = .ok (.getfield 17, 3) := by decide +kernel
theorem dX0_takeFile_33 : decode cX0_takeFile 33 = .ok (.new 9, 3) := by decide +kernel
theorem dX0_takeFile_36 : decode cX0_takeFile 36 = .ok (.dup, 1) := by decide +kernel
theorem dX0_takeFile_37 : decode cX0_takeFile 37 = .ok (.aload_n 1, 1) := by decide +kernel
theorem dX0_takeFile_38 : decode cX0_takeFile 38 = .ok (.invokevirtual 36, 3) := by decide +kernel
theorem dX0_takeFile_41 : decode cX0_takeFile 41 = .ok (.aload_n 2, 1) := by decide +kernel
theorem dX0_takeFile_42 : decode cX0_takeFile 42 = .ok (.invokevirtual 36, 3) := by decide +kernel
theorem dX0_takeFile_45 : decode cX0_takeFile 45 = .ok (.invokespecial 42, 3) := by decide +kernel
theorem dX0_takeFile_48 : decode cX0_takeFile 48 = .ok (.aastore, 1) := by decide +kernel
theorem dX0_takeFile_49 : decode cX0_takeFile 49 = .ok (.aload_n 0, 1) := by decide +kernel
theorem dX0_takeFile_50 : decode cX0_takeFile 50 = .ok (.dup, 1) := by decide +kernel
theorem dX0_takeFile_51 : decode cX0_takeFile 51 = .ok (.getfield 17, 3) := by decide +kernel
theorem dX0_takeFile_54 : decode cX0_takeFile 54 = .ok (.iconst 1, 1) := by decide +kernel
theorem dX0_takeFile_55 : decode cX0_takeFile 55 = .ok (.iadd, 1) := by decide +kernel
theorem dX0_takeFile_56 : decode cX0_takeFile 56 = .ok (.putfield 17, 3) := by decide +kernel
theorem dX0_takeFile_59 : decode cX0_takeFile 59 = .ok (.aload_n 0, 1) := by decide +kernel
theorem dX0_takeFile_60 : decode cX0_takeFile 60 = .ok (.getfield 17, 3) := by decide +kernel
theorem dX0_takeFile_63 : decode cX0_takeFile 63 = .ok (.ireturn, 1) := by decide +kernel
theorem dX0_takeLine_0 : decode cX0_takeLine 0 = .ok (.iload_n 2, 1) := by decide +kernel
theorem dX0_takeLine_1 : decode cX0_takeLine 1 = .ok (.ifCond .lt 16, 3) := by decide +kernel
theorem dX0_takeLine_4 : decode cX0_takeLine 4 = .ok (.iload_n 2, 1) := by decide +kernel
theorem dX0_takeLine_5 : decode cX0_takeLine 5 = .ok (.bipush 40, 2) := by decide +kernel
theorem dX0_takeLine_7 : decode cX0_takeLine 7 = .ok (.if_icmp .gt 10, 3) := by decide +kernel
theorem dX0_takeLine_10 : decode cX0_takeLine 10 = .ok (.aload_n 1, 1) := by decide +kernel
theorem dX0_takeLine_11 : decode cX0_takeLine 11 = .ok (.invokestatic 30, 3) := by decide +kernel
theorem dX0_takeLine_14 : decode cX0_takeLine 14 = .ok (.ifCond .ne 6, 3) := by decide +kernel
theorem dX0_takeLine_17 : decode cX0_takeLine 17 = .ok (.bipush (-2), 2) := by decide +kernel
theorem dX0_takeLine_19 : decode cX0_takeLine 19 = .ok (.ireturn, 1) := by decide +kernel
theorem dX0_takeLine_20 : decode cX0_takeLine 20 = .ok (.aload_n 0, 1) := by decide +kernel
theorem dX0_takeLine_21 : decode cX0_takeLine 21 = .ok (.getfield 27, 3) := by decide +kernel
theorem dX0_takeLine_24 : decode cX0_takeLine 24 = .ok (.aload_n 0, 1) := by decide +kernel
theorem dX0_takeLine_25 : decode cX0_takeLine 25 = .ok (.getfield 23, 3) := by decide +kernel
theorem dX0_takeLine_28 : decode cX0_takeLine 28 = .ok (.arraylength, 1) := by decide +kernel
theorem dX0_takeLine_29 : decode cX0_takeLine 29 = .ok (.if_icmp .lt 6, 3) := by decide +kernel
theorem dX0_takeLine_32 : decode cX0_takeLine 32 = .ok (.bipush (-4), 2) := by decide +kernel
theorem dX0_takeLine_34 : decode cX0_takeLine 34 = .ok (.ireturn, 1) := by decide +kernel
theorem dX0_takeLine_35 : decode cX0_takeLine 35 = .ok (.aload_n 0, 1) := by decide +kernel
theorem dX0_takeLine_36 : decode cX0_takeLine 36 = .ok (.getfield 23, 3) := by decide +kernel
theorem dX0_takeLine_39 : decode cX0_takeLine 39 = .ok (.aload_n 0, 1) := by decide +kernel
theorem dX0_takeLine_40 : decode cX0_takeLine 40 = .ok (.getfield 27, 3) := by decide +kernel
theorem dX0_takeLine_43 : decode cX0_takeLine 43 = .ok (.new 21, 3) := by decide +kernel
theorem dX0_takeLine_46 : decode cX0_takeLine 46 = .ok (.dup, 1) := by decide +kernel
theorem dX0_takeLine_47 : decode cX0_takeLine 47 = .ok (.aload_n 1, 1) := by decide +kernel
theorem dX0_takeLine_48 : decode cX0_takeLine 48 = .ok (.invokevirtual 36, 3) := by decide +kernel
theorem dX0_takeLine_51 : decode cX0_takeLine 51 = .ok (.iload_n 2, 1) := by decide +kernel
theorem dX0_takeLine_52 : decode cX0_takeLine 52 = .ok (.iload_n 3, 1) := by decide +kernel
theorem dX0_takeLine_53 : decode cX0_takeLine 53 = .ok (.invokespecial 45, 3) := by decide +kernel
theorem dX0_takeLine_56 : decode cX0_takeLine 56 = .ok (.aastore, 1) := by decide +kernel
theorem dX0_takeLine_57 : decode cX0_takeLine 57 = .ok (.aload_n 0, 1) := by decide +kernel
theorem dX0_takeLine_58 : decode cX0_takeLine 58 = .ok (.dup, 1) := by decide +kernel
theorem dX0_takeLine_59 : decode cX0_takeLine 59 = .ok (.getfield 27, 3) := by decide +kernel
theorem dX0_takeLine_62 : decode cX0_takeLine 62 = .ok (.iconst 1, 1) := by decide +kernel
theorem dX0_takeLine_63 : decode cX0_takeLine 63 = .ok (.iadd, 1) := by decide +kernel
theorem dX0_takeLine_64 : decode cX0_takeLine 64 = .ok (.putfield 27, 3) := by decide +kernel
theorem dX0_takeLine_67 : decode cX0_takeLine 67 = .ok (.aload_n 0, 1) := by decide +kernel
theorem dX0_takeLine_68 : decode cX0_takeLine 68 = .ok (.getfield 27, 3) := by decide +kernel
theorem dX0_takeLine_71 : decode cX0_takeLine 71 = .ok (.ireturn, 1) := by decide +kernel
theorem dX0_tellFaults_0 : decode cX0_tellFaults 0 = .ok (.aload_n 1, 1) := by decide +kernel
theorem dX0_tellFaults_1 : decode cX0_tellFaults 1 = .ok (.invokevirtual 48, 3) := by decide +kernel
theorem dX0_tellFaults_4 : decode cX0_tellFaults 4 = .ok (.iconst 0, 1) := by decide +kernel
theorem dX0_tellFaults_5 : decode cX0_tellFaults 5 = .ok (.istore_n 2, 1) := by decide +kernel
theorem dX0_tellFaults_6 : decode cX0_tellFaults 6 = .ok (.iload_n 2, 1) := by decide +kernel
theorem dX0_tellFaults_7 : decode cX0_tellFaults 7 = .ok (.aload_n 0, 1) := by decide +kernel
theorem dX0_tellFaults_8 : decode cX0_tellFaults 8 = .ok (.getfield 27, 3) := by decide +kernel
theorem dX0_tellFaults_11 : decode cX0_tellFaults 11 = .ok (.if_icmp .ge 19, 3) := by decide +kernel
theorem dX0_tellFaults_14 : decode cX0_tellFaults 14 = .ok (.aload_n 1, 1) := by decide +kernel
theorem dX0_tellFaults_15 : decode cX0_tellFaults 15 = .ok (.aload_n 0, 1) := by decide +kernel
theorem dX0_tellFaults_16 : decode cX0_tellFaults 16 = .ok (.iload_n 2, 1) := by decide +kernel
theorem dX0_tellFaults_17 : decode cX0_tellFaults 17 = .ok (.invokevirtual 53, 3) := by decide +kernel
theorem dX0_tellFaults_20 : decode cX0_tellFaults 20 = .ok (.iload_n 2, 1) := by decide +kernel
theorem dX0_tellFaults_21 : decode cX0_tellFaults 21 = .ok (.invokevirtual 57, 3) := by decide +kernel
theorem dX0_tellFaults_24 : decode cX0_tellFaults 24 = .ok (.iinc 2 1, 3) := by decide +kernel
theorem dX0_tellFaults_27 : decode cX0_tellFaults 27 = .ok (.goto (-21), 3) := by decide +kernel
theorem dX0_tellFaults_30 : decode cX0_tellFaults 30 = .ok (.iconst 0, 1) := by decide +kernel
theorem dX0_tellFaults_31 : decode cX0_tellFaults 31 = .ok (.istore_n 2, 1) := by decide +kernel
theorem dX0_tellFaults_32 : decode cX0_tellFaults 32 = .ok (.iload_n 2, 1) := by decide +kernel
theorem dX0_tellFaults_33 : decode cX0_tellFaults 33 = .ok (.aload_n 0, 1) := by decide +kernel
theorem dX0_tellFaults_34 : decode cX0_tellFaults 34 = .ok (.getfield 17, 3) := by decide +kernel
theorem dX0_tellFaults_37 : decode cX0_tellFaults 37 = .ok (.if_icmp .ge 19, 3) := by decide +kernel
theorem dX0_tellFaults_40 : decode cX0_tellFaults 40 = .ok (.aload_n 1, 1) := by decide +kernel
theorem dX0_tellFaults_41 : decode cX0_tellFaults 41 = .ok (.aload_n 0, 1) := by decide +kernel
theorem dX0_tellFaults_42 : decode cX0_tellFaults 42 = .ok (.iload_n 2, 1) := by decide +kernel
theorem dX0_tellFaults_43 : decode cX0_tellFaults 43 = .ok (.invokevirtual 61, 3) := by decide +kernel
theorem dX0_tellFaults_46 : decode cX0_tellFaults 46 = .ok (.iload_n 2, 1) := by decide +kernel
theorem dX0_tellFaults_47 : decode cX0_tellFaults 47 = .ok (.invokevirtual 57, 3) := by decide +kernel
theorem dX0_tellFaults_50 : decode cX0_tellFaults 50 = .ok (.iinc 2 1, 3) := by decide +kernel
theorem dX0_tellFaults_53 : decode cX0_tellFaults 53 = .ok (.goto (-21), 3) := by decide +kernel
theorem dX0_tellFaults_56 : decode cX0_tellFaults 56 = .ok (.return_, 1) := by decide +kernel
theorem dX0_faultOfLine_0 : decode cX0_faultOfLine 0 = .ok (.aload_n 0, 1) := by decide +kernel
theorem dX0_faultOfLine_1 : decode cX0_faultOfLine 1 = .ok (.getfield 23, 3) := by decide +kernel
theorem dX0_faultOfLine_4 : decode cX0_faultOfLine 4 = .ok (.iload_n 1, 1) := by decide +kernel
theorem dX0_faultOfLine_5 : decode cX0_faultOfLine 5 = .ok (.aaload, 1) := by decide +kernel
theorem dX0_faultOfLine_6 : decode cX0_faultOfLine 6 = .ok (.astore_n 2, 1) := by decide +kernel
theorem dX0_faultOfLine_7 : decode cX0_faultOfLine 7 = .ok (.aload_n 0, 1) := by decide +kernel
theorem dX0_faultOfLine_8 : decode cX0_faultOfLine 8 = .ok (.aload_n 2, 1) := by decide +kernel
theorem dX0_faultOfLine_9 : decode cX0_faultOfLine 9 = .ok (.getfield 64, 3) := by decide +kernel
theorem dX0_faultOfLine_12 : decode cX0_faultOfLine 12 = .ok (.invokevirtual 68, 3) := by decide +kernel
theorem dX0_faultOfLine_15 : decode cX0_faultOfLine 15 = .ok (.iload_n 1, 1) := by decide +kernel
theorem dX0_faultOfLine_16 : decode cX0_faultOfLine 16 = .ok (.if_icmp .ge 5, 3) := by decide +kernel
theorem dX0_faultOfLine_19 : decode cX0_faultOfLine 19 = .ok (.iconst 1, 1) := by decide +kernel
theorem dX0_faultOfLine_20 : decode cX0_faultOfLine 20 = .ok (.ireturn, 1) := by decide +kernel
theorem dX0_faultOfLine_21 : decode cX0_faultOfLine 21 = .ok (.aload_n 0, 1) := by decide +kernel
theorem dX0_faultOfLine_22 : decode cX0_faultOfLine 22 = .ok (.aload_n 2, 1) := by decide +kernel
theorem dX0_faultOfLine_23 : decode cX0_faultOfLine 23 = .ok (.getfield 64, 3) := by decide +kernel
theorem dX0_faultOfLine_26 : decode cX0_faultOfLine 26 = .ok (.invokevirtual 72, 3) := by decide +kernel
theorem dX0_faultOfLine_29 : decode cX0_faultOfLine 29 = .ok (.istore_n 3, 1) := by decide +kernel
theorem dX0_faultOfLine_30 : decode cX0_faultOfLine 30 = .ok (.iload_n 3, 1) := by decide +kernel
theorem dX0_faultOfLine_31 : decode cX0_faultOfLine 31 = .ok (.aload_n 0, 1) := by decide +kernel
theorem dX0_faultOfLine_32 : decode cX0_faultOfLine 32 = .ok (.getfield 17, 3) := by decide +kernel
theorem dX0_faultOfLine_35 : decode cX0_faultOfLine 35 = .ok (.if_icmp .lt 5, 3) := by decide +kernel
theorem dX0_faultOfLine_38 : decode cX0_faultOfLine 38 = .ok (.iconst 2, 1) := by decide +kernel
theorem dX0_faultOfLine_39 : decode cX0_faultOfLine 39 = .ok (.ireturn, 1) := by decide +kernel
theorem dX0_faultOfLine_40 : decode cX0_faultOfLine 40 = .ok (.aload_n 0, 1) := by decide +kernel
theorem dX0_faultOfLine_41 : decode cX0_faultOfLine 41 = .ok (.getfield 11, 3) := by decide +kernel
theorem dX0_faultOfLine_44 : decode cX0_faultOfLine 44 = .ok (.iload_n 3, 1) := by decide +kernel
theorem dX0_faultOfLine_45 : decode cX0_faultOfLine 45 = .ok (.aaload, 1) := by decide +kernel
theorem dX0_faultOfLine_46 : decode cX0_faultOfLine 46 = .ok (.astore 4, 2) := by decide +kernel
theorem dX0_faultOfLine_48 : decode cX0_faultOfLine 48 = .ok (.aload 4, 2) := by decide +kernel
theorem dX0_faultOfLine_50 : decode cX0_faultOfLine 50 = .ok (.getfield 75, 3) := by decide +kernel
theorem dX0_faultOfLine_53 : decode cX0_faultOfLine 53 = .ok (.invokevirtual 78, 3) := by decide +kernel
theorem dX0_faultOfLine_56 : decode cX0_faultOfLine 56 = .ok (.aload_n 2, 1) := by decide +kernel
theorem dX0_faultOfLine_57 : decode cX0_faultOfLine 57 = .ok (.getfield 82, 3) := by decide +kernel
theorem dX0_faultOfLine_60 : decode cX0_faultOfLine 60 = .ok (.if_icmp .eq 5, 3) := by decide +kernel
theorem dX0_faultOfLine_63 : decode cX0_faultOfLine 63 = .ok (.iconst 3, 1) := by decide +kernel
theorem dX0_faultOfLine_64 : decode cX0_faultOfLine 64 = .ok (.ireturn, 1) := by decide +kernel
theorem dX0_faultOfLine_65 : decode cX0_faultOfLine 65 = .ok (.aload 4, 2) := by decide +kernel
theorem dX0_faultOfLine_67 : decode cX0_faultOfLine 67 = .ok (.getfield 85, 3) := by decide +kernel
theorem dX0_faultOfLine_70 : decode cX0_faultOfLine 70 = .ok (.aload_n 2, 1) := by decide +kernel
theorem dX0_faultOfLine_71 : decode cX0_faultOfLine 71 = .ok (.getfield 88, 3) := by decide +kernel
theorem dX0_faultOfLine_74 : decode cX0_faultOfLine 74 = .ok (.if_icmp .eq 7, 3) := by decide +kernel
theorem dX0_faultOfLine_77 : decode cX0_faultOfLine 77 = .ok (.iconst 4, 1) := by decide +kernel
theorem dX0_faultOfLine_78 : decode cX0_faultOfLine 78 = .ok (.goto 4, 3) := by decide +kernel
theorem dX0_faultOfLine_81 : decode cX0_faultOfLine 81 = .ok (.iconst 0, 1) := by decide +kernel
theorem dX0_faultOfLine_82 : decode cX0_faultOfLine 82 = .ok (.ireturn, 1) := by decide +kernel
theorem dX0_faultOfFile_0 : decode cX0_faultOfFile 0 = .ok (.aload_n 0, 1) := by decide +kernel
theorem dX0_faultOfFile_1 : decode cX0_faultOfFile 1 = .ok (.getfield 11, 3) := by decide +kernel
theorem dX0_faultOfFile_4 : decode cX0_faultOfFile 4 = .ok (.iload_n 1, 1) := by decide +kernel
theorem dX0_faultOfFile_5 : decode cX0_faultOfFile 5 = .ok (.aaload, 1) := by decide +kernel
theorem dX0_faultOfFile_6 : decode cX0_faultOfFile 6 = .ok (.getfield 91, 3) := by decide +kernel
theorem dX0_faultOfFile_9 : decode cX0_faultOfFile 9 = .ok (.astore_n 2, 1) := by decide +kernel
theorem dX0_faultOfFile_10 : decode cX0_faultOfFile 10 = .ok (.aload_n 0, 1) := by decide +kernel
theorem dX0_faultOfFile_11 : decode cX0_faultOfFile 11 = .ok (.aload_n 2, 1) := by decide +kernel
theorem dX0_faultOfFile_12 : decode cX0_faultOfFile 12 = .ok (.invokevirtual 72, 3) := by decide +kernel
theorem dX0_faultOfFile_15 : decode cX0_faultOfFile 15 = .ok (.iload_n 1, 1) := by decide +kernel
theorem dX0_faultOfFile_16 : decode cX0_faultOfFile 16 = .ok (.if_icmp .ge 5, 3) := by decide +kernel
theorem dX0_faultOfFile_19 : decode cX0_faultOfFile 19 = .ok (.iconst 5, 1) := by decide +kernel
theorem dX0_faultOfFile_20 : decode cX0_faultOfFile 20 = .ok (.ireturn, 1) := by decide +kernel
theorem dX0_faultOfFile_21 : decode cX0_faultOfFile 21 = .ok (.aload_n 0, 1) := by decide +kernel
theorem dX0_faultOfFile_22 : decode cX0_faultOfFile 22 = .ok (.aload_n 2, 1) := by decide +kernel
theorem dX0_faultOfFile_23 : decode cX0_faultOfFile 23 = .ok (.invokevirtual 68, 3) := by decide +kernel
theorem dX0_faultOfFile_26 : decode cX0_faultOfFile 26 = .ok (.aload_n 0, 1) := by decide +kernel
theorem dX0_faultOfFile_27 : decode cX0_faultOfFile 27 = .ok (.getfield 27, 3) := by decide +kernel
theorem dX0_faultOfFile_30 : decode cX0_faultOfFile 30 = .ok (.if_icmp .lt 8, 3) := by decide +kernel
theorem dX0_faultOfFile_33 : decode cX0_faultOfFile 33 = .ok (.bipush 6, 2) := by decide +kernel
theorem dX0_faultOfFile_35 : decode cX0_faultOfFile 35 = .ok (.goto 4, 3) := by decide +kernel
theorem dX0_faultOfFile_38 : decode cX0_faultOfFile 38 = .ok (.iconst 0, 1) := by decide +kernel
theorem dX0_faultOfFile_39 : decode cX0_faultOfFile 39 = .ok (.ireturn, 1) := by decide +kernel
theorem dX0_firstLine_0 : decode cX0_firstLine 0 = .ok (.iconst 0, 1) := by decide +kernel
theorem dX0_firstLine_1 : decode cX0_firstLine 1 = .ok (.istore_n 2, 1) := by decide +kernel
theorem dX0_firstLine_2 : decode cX0_firstLine 2 = .ok (.iload_n 2, 1) := by decide +kernel
theorem dX0_firstLine_3 : decode cX0_firstLine 3 = .ok (.aload_n 0, 1) := by decide +kernel
theorem dX0_firstLine_4 : decode cX0_firstLine 4 = .ok (.getfield 27, 3) := by decide +kernel
theorem dX0_firstLine_7 : decode cX0_firstLine 7 = .ok (.if_icmp .ge 25, 3) := by decide +kernel
theorem dX0_firstLine_10 : decode cX0_firstLine 10 = .ok (.aload_n 0, 1) := by decide +kernel
theorem dX0_firstLine_11 : decode cX0_firstLine 11 = .ok (.getfield 23, 3) := by decide +kernel
theorem dX0_firstLine_14 : decode cX0_firstLine 14 = .ok (.iload_n 2, 1) := by decide +kernel
theorem dX0_firstLine_15 : decode cX0_firstLine 15 = .ok (.aaload, 1) := by decide +kernel
theorem dX0_firstLine_16 : decode cX0_firstLine 16 = .ok (.getfield 64, 3) := by decide +kernel
theorem dX0_firstLine_19 : decode cX0_firstLine 19 = .ok (.aload_n 1, 1) := by decide +kernel
theorem dX0_firstLine_20 : decode cX0_firstLine 20 = .ok (.invokevirtual 92, 3) := by decide +kernel
theorem dX0_firstLine_23 : decode cX0_firstLine 23 = .ok (.ifCond .ne 9, 3) := by decide +kernel
theorem dX0_firstLine_26 : decode cX0_firstLine 26 = .ok (.iinc 2 1, 3) := by decide +kernel
theorem dX0_firstLine_29 : decode cX0_firstLine 29 = .ok (.goto (-27), 3) := by decide +kernel
theorem dX0_firstLine_32 : decode cX0_firstLine 32 = .ok (.iload_n 2, 1) := by decide +kernel
theorem dX0_firstLine_33 : decode cX0_firstLine 33 = .ok (.ireturn, 1) := by decide +kernel
theorem dX0_firstFile_0 : decode cX0_firstFile 0 = .ok (.iconst 0, 1) := by decide +kernel
theorem dX0_firstFile_1 : decode cX0_firstFile 1 = .ok (.istore_n 2, 1) := by decide +kernel
theorem dX0_firstFile_2 : decode cX0_firstFile 2 = .ok (.iload_n 2, 1) := by decide +kernel
theorem dX0_firstFile_3 : decode cX0_firstFile 3 = .ok (.aload_n 0, 1) := by decide +kernel
theorem dX0_firstFile_4 : decode cX0_firstFile 4 = .ok (.getfield 17, 3) := by decide +kernel
theorem dX0_firstFile_7 : decode cX0_firstFile 7 = .ok (.if_icmp .ge 25, 3) := by decide +kernel
theorem dX0_firstFile_10 : decode cX0_firstFile 10 = .ok (.aload_n 0, 1) := by decide +kernel
theorem dX0_firstFile_11 : decode cX0_firstFile 11 = .ok (.getfield 11, 3) := by decide +kernel
theorem dX0_firstFile_14 : decode cX0_firstFile 14 = .ok (.iload_n 2, 1) := by decide +kernel
theorem dX0_firstFile_15 : decode cX0_firstFile 15 = .ok (.aaload, 1) := by decide +kernel
theorem dX0_firstFile_16 : decode cX0_firstFile 16 = .ok (.getfield 91, 3) := by decide +kernel
theorem dX0_firstFile_19 : decode cX0_firstFile 19 = .ok (.aload_n 1, 1) := by decide +kernel
theorem dX0_firstFile_20 : decode cX0_firstFile 20 = .ok (.invokevirtual 92, 3) := by decide +kernel
theorem dX0_firstFile_23 : decode cX0_firstFile 23 = .ok (.ifCond .ne 9, 3) := by decide +kernel
theorem dX0_firstFile_26 : decode cX0_firstFile 26 = .ok (.iinc 2 1, 3) := by decide +kernel
theorem dX0_firstFile_29 : decode cX0_firstFile 29 = .ok (.goto (-27), 3) := by decide +kernel
theorem dX0_firstFile_32 : decode cX0_firstFile 32 = .ok (.iload_n 2, 1) := by decide +kernel
theorem dX0_firstFile_33 : decode cX0_firstFile 33 = .ok (.ireturn, 1) := by decide +kernel
theorem dX0_toVersion_0 : decode cX0_toVersion 0 = .ok (.new 95, 3) := by decide +kernel
theorem dX0_toVersion_3 : decode cX0_toVersion 3 = .ok (.dup, 1) := by decide +kernel
theorem dX0_toVersion_4 : decode cX0_toVersion 4 = .ok (.invokespecial 97, 3) := by decide +kernel
theorem dX0_toVersion_7 : decode cX0_toVersion 7 = .ok (.astore_n 3, 1) := by decide +kernel
theorem dX0_toVersion_8 : decode cX0_toVersion 8 = .ok (.iconst 0, 1) := by decide +kernel
theorem dX0_toVersion_9 : decode cX0_toVersion 9 = .ok (.istore 4, 2) := by decide +kernel
theorem dX0_toVersion_11 : decode cX0_toVersion 11 = .ok (.iload 4, 2) := by decide +kernel
theorem dX0_toVersion_13 : decode cX0_toVersion 13 = .ok (.aload_n 0, 1) := by decide +kernel
theorem dX0_toVersion_14 : decode cX0_toVersion 14 = .ok (.getfield 17, 3) := by decide +kernel
theorem dX0_toVersion_17 : decode cX0_toVersion 17 = .ok (.if_icmp .ge 25, 3) := by decide +kernel
theorem dX0_toVersion_20 : decode cX0_toVersion 20 = .ok (.aload_n 3, 1) := by decide +kernel
theorem dX0_toVersion_21 : decode cX0_toVersion 21 = .ok (.aload_n 0, 1) := by decide +kernel
theorem dX0_toVersion_22 : decode cX0_toVersion 22 = .ok (.getfield 11, 3) := by decide +kernel
theorem dX0_toVersion_25 : decode cX0_toVersion 25 = .ok (.iload 4, 2) := by decide +kernel
theorem dX0_toVersion_27 : decode cX0_toVersion 27 = .ok (.aaload, 1) := by decide +kernel
theorem dX0_toVersion_28 : decode cX0_toVersion 28 = .ok (.iload_n 1, 1) := by decide +kernel
theorem dX0_toVersion_29 : decode cX0_toVersion 29 = .ok (.aload_n 2, 1) := by decide +kernel
theorem dX0_toVersion_30 : decode cX0_toVersion 30 = .ok (.invokestatic 98, 3) := by decide +kernel
theorem dX0_toVersion_33 : decode cX0_toVersion 33 = .ok (.invokevirtual 102, 3) := by decide +kernel
theorem dX0_toVersion_36 : decode cX0_toVersion 36 = .ok (.iinc 4 1, 3) := by decide +kernel
theorem dX0_toVersion_39 : decode cX0_toVersion 39 = .ok (.goto (-28), 3) := by decide +kernel
theorem dX0_toVersion_42 : decode cX0_toVersion 42 = .ok (.aload_n 3, 1) := by decide +kernel
theorem dX0_toVersion_43 : decode cX0_toVersion 43 = .ok (.areturn, 1) := by decide +kernel
theorem dX0_sharedOrNew_0 : decode cX0_sharedOrNew 0 = .ok (.aload_n 2, 1) := by decide +kernel
theorem dX0_sharedOrNew_1 : decode cX0_sharedOrNew 1 = .ok (.ifnonnull 7, 3) := by decide +kernel
theorem dX0_sharedOrNew_4 : decode cX0_sharedOrNew 4 = .ok (.aconst_null, 1) := by decide +kernel
theorem dX0_sharedOrNew_5 : decode cX0_sharedOrNew 5 = .ok (.goto 11, 3) := by decide +kernel
theorem dX0_sharedOrNew_8 : decode cX0_sharedOrNew 8 = .ok (.aload_n 2, 1) := by decide +kernel
theorem dX0_sharedOrNew_9 : decode cX0_sharedOrNew 9 = .ok (.aload_n 0, 1) := by decide +kernel
theorem dX0_sharedOrNew_10 : decode cX0_sharedOrNew 10 = .ok (.getfield 91, 3) := by decide +kernel
theorem dX0_sharedOrNew_13 : decode cX0_sharedOrNew 13 = .ok (.invokevirtual 106, 3) := by decide +kernel
theorem dX0_sharedOrNew_16 : decode cX0_sharedOrNew 16 = .ok (.astore_n 3, 1) := by decide +kernel
theorem dX0_sharedOrNew_17 : decode cX0_sharedOrNew 17 = .ok (.aload_n 3, 1) := by decide +kernel
theorem dX0_sharedOrNew_18 : decode cX0_sharedOrNew 18 = .ok (.ifnull 19, 3) := by decide +kernel
theorem dX0_sharedOrNew_21 : decode cX0_sharedOrNew 21 = .ok (.aload_n 3, 1) := by decide +kernel
theorem dX0_sharedOrNew_22 : decode cX0_sharedOrNew 22 = .ok (.getfield 75, 3) := by decide +kernel
theorem dX0_sharedOrNew_25 : decode cX0_sharedOrNew 25 = .ok (.aload_n 0, 1) := by decide +kernel
theorem dX0_sharedOrNew_26 : decode cX0_sharedOrNew 26 = .ok (.getfield 75, 3) := by decide +kernel
theorem dX0_sharedOrNew_29 : decode cX0_sharedOrNew 29 = .ok (.invokevirtual 92, 3) := by decide +kernel
theorem dX0_sharedOrNew_32 : decode cX0_sharedOrNew 32 = .ok (.ifCond .eq 5, 3) := by decide +kernel
theorem dX0_sharedOrNew_35 : decode cX0_sharedOrNew 35 = .ok (.aload_n 3, 1) := by decide +kernel
theorem dX0_sharedOrNew_36 : decode cX0_sharedOrNew 36 = .ok (.areturn, 1) := by decide +kernel
theorem dX0_sharedOrNew_37 : decode cX0_sharedOrNew 37 = .ok (.aload_n 0, 1) := by decide +kernel
theorem dX0_sharedOrNew_38 : decode cX0_sharedOrNew 38 = .ok (.iload_n 1, 1) := by decide +kernel
theorem dX0_sharedOrNew_39 : decode cX0_sharedOrNew 39 = .ok (.putfield 110, 3) := by decide +kernel
theorem dX0_sharedOrNew_42 : decode cX0_sharedOrNew 42 = .ok (.aload_n 0, 1) := by decide +kernel
theorem dX0_sharedOrNew_43 : decode cX0_sharedOrNew 43 = .ok (.areturn, 1) := by decide +kernel
theorem dX1_init_0 : decode cX1_init 0 = .ok (.aload_n 0, 1) := by decide +kernel
theorem dX1_init_1 : decode cX1_init 1 = .ok (.invokespecial 3, 3) := by decide +kernel
theorem dX1_init_4 : decode cX1_init 4 = .ok (.aload_n 0, 1) := by decide +kernel
theorem dX1_init_5 : decode cX1_init 5 = .ok (.aload_n 1, 1) := by decide +kernel
theorem dX1_init_6 : decode cX1_init 6 = .ok (.putfield 9, 3) := by decide +kernel
theorem dX1_init_9 : decode cX1_init 9 = .ok (.aload_n 0, 1) := by decide +kernel
theorem dX1_init_10 : decode cX1_init 10 = .ok (.aload_n 2, 1) := by decide +kernel
theorem dX1_init_11 : decode cX1_init 11 = .ok (.putfield 15, 3) := by decide +kernel
theorem dX1_init_14 : decode cX1_init 14 = .ok (.aload_n 0, 1) := by decide +kernel
theorem dX1_init_15 : decode cX1_init 15 = .ok (.aload_n 2, 1) := by decide +kernel
theorem dX1_init_16 : decode cX1_init 16 = .ok (.invokevirtual 18, 3) := by decide +kernel
theorem dX1_init_19 : decode cX1_init 19 = .ok (.putfield 24, 3) := by decide +kernel
theorem dX1_init_22 : decode cX1_init 22 = .ok (.aload_n 0, 1) := by decide +kernel
theorem dX1_init_23 : decode cX1_init 23 = .ok (.iconst (-1), 1) := by decide +kernel
theorem dX1_init_24 : decode cX1_init 24 = .ok (.putfield 28, 3) := by decide +kernel
theorem dX1_init_27 : decode cX1_init 27 = .ok (.return_, 1) := by decide +kernel
theorem dX2_init_0 : decode cX2_init 0 = .ok (.aload_n 0, 1) := by decide +kernel
theorem dX2_init_1 : decode cX2_init 1 = .ok (.invokespecial 3, 3) := by decide +kernel
theorem dX2_init_4 : decode cX2_init 4 = .ok (.aload_n 0, 1) := by decide +kernel
theorem dX2_init_5 : decode cX2_init 5 = .ok (.bipush 24, 2) := by decide +kernel
theorem dX2_init_7 : decode cX2_init 7 = .ok (.newarray .int, 2) := by decide +kernel
theorem dX2_init_9 : decode cX2_init 9 = .ok (.putfield 9, 3) := by decide +kernel
theorem dX2_init_12 : decode cX2_init 12 = .ok (.aload_n 0, 1) := by decide +kernel
theorem dX2_init_13 : decode cX2_init 13 = .ok (.bipush 24, 2) := by decide +kernel
theorem dX2_init_15 : decode cX2_init 15 = .ok (.newarray .int, 2) := by decide +kernel
theorem dX2_init_17 : decode cX2_init 17 = .ok (.putfield 15, 3) := by decide +kernel
theorem dX2_init_20 : decode cX2_init 20 = .ok (.aload_n 0, 1) := by decide +kernel
theorem dX2_init_21 : decode cX2_init 21 = .ok (.iconst 0, 1) := by decide +kernel
theorem dX2_init_22 : decode cX2_init 22 = .ok (.putfield 18, 3) := by decide +kernel
theorem dX2_init_25 : decode cX2_init 25 = .ok (.return_, 1) := by decide +kernel
theorem dX2_clear_0 : decode cX2_clear 0 = .ok (.aload_n 0, 1) := by decide +kernel
theorem dX2_clear_1 : decode cX2_clear 1 = .ok (.iconst 0, 1) := by decide +kernel
theorem dX2_clear_2 : decode cX2_clear 2 = .ok (.putfield 18, 3) := by decide +kernel
theorem dX2_clear_5 : decode cX2_clear 5 = .ok (.return_, 1) := by decide +kernel
theorem dX2_note_0 : decode cX2_note 0 = .ok (.iload_n 1, 1) := by decide +kernel
theorem dX2_note_1 : decode cX2_note 1 = .ok (.ifCond .eq 45, 3) := by decide +kernel
theorem dX2_note_4 : decode cX2_note 4 = .ok (.aload_n 0, 1) := by decide +kernel
theorem dX2_note_5 : decode cX2_note 5 = .ok (.getfield 18, 3) := by decide +kernel
theorem dX2_note_8 : decode cX2_note 8 = .ok (.aload_n 0, 1) := by decide +kernel
theorem dX2_note_9 : decode cX2_note 9 = .ok (.getfield 9, 3) := by decide +kernel
theorem dX2_note_12 : decode cX2_note 12 = .ok (.arraylength, 1) := by decide +kernel
theorem dX2_note_13 : decode cX2_note 13 = .ok (.if_icmp .ge 33, 3) := by decide +kernel
theorem dX2_note_16 : decode cX2_note 16 = .ok (.aload_n 0, 1) := by decide +kernel
theorem dX2_note_17 : decode cX2_note 17 = .ok (.getfield 9, 3) := by decide +kernel
theorem dX2_note_20 : decode cX2_note 20 = .ok (.aload_n 0, 1) := by decide +kernel
theorem dX2_note_21 : decode cX2_note 21 = .ok (.getfield 18, 3) := by decide +kernel
theorem dX2_note_24 : decode cX2_note 24 = .ok (.iload_n 1, 1) := by decide +kernel
theorem dX2_note_25 : decode cX2_note 25 = .ok (.iastore, 1) := by decide +kernel
theorem dX2_note_26 : decode cX2_note 26 = .ok (.aload_n 0, 1) := by decide +kernel
theorem dX2_note_27 : decode cX2_note 27 = .ok (.getfield 15, 3) := by decide +kernel
theorem dX2_note_30 : decode cX2_note 30 = .ok (.aload_n 0, 1) := by decide +kernel
theorem dX2_note_31 : decode cX2_note 31 = .ok (.getfield 18, 3) := by decide +kernel
theorem dX2_note_34 : decode cX2_note 34 = .ok (.iload_n 2, 1) := by decide +kernel
theorem dX2_note_35 : decode cX2_note 35 = .ok (.iastore, 1) := by decide +kernel
theorem dX2_note_36 : decode cX2_note 36 = .ok (.aload_n 0, 1) := by decide +kernel
theorem dX2_note_37 : decode cX2_note 37 = .ok (.dup, 1) := by decide +kernel
theorem dX2_note_38 : decode cX2_note 38 = .ok (.getfield 18, 3) := by decide +kernel
theorem dX2_note_41 : decode cX2_note 41 = .ok (.iconst 1, 1) := by decide +kernel
theorem dX2_note_42 : decode cX2_note 42 = .ok (.iadd, 1) := by decide +kernel
theorem dX2_note_43 : decode cX2_note 43 = .ok (.putfield 18, 3) := by decide +kernel
theorem dX2_note_46 : decode cX2_note 46 = .ok (.return_, 1) := by decide +kernel
theorem dX2_size_0 : decode cX2_size 0 = .ok (.aload_n 0, 1) := by decide +kernel
theorem dX2_size_1 : decode cX2_size 1 = .ok (.getfield 18, 3) := by decide +kernel
theorem dX2_size_4 : decode cX2_size 4 = .ok (.ireturn, 1) := by decide +kernel
theorem dX2_has_0 : decode cX2_has 0 = .ok (.iload_n 1, 1) := by decide +kernel
theorem dX2_has_1 : decode cX2_has 1 = .ok (.ifCond .lt 15, 3) := by decide +kernel
theorem dX2_has_4 : decode cX2_has 4 = .ok (.iload_n 1, 1) := by decide +kernel
theorem dX2_has_5 : decode cX2_has 5 = .ok (.aload_n 0, 1) := by decide +kernel
theorem dX2_has_6 : decode cX2_has 6 = .ok (.getfield 18, 3) := by decide +kernel
theorem dX2_has_9 : decode cX2_has 9 = .ok (.if_icmp .ge 7, 3) := by decide +kernel
theorem dX2_has_12 : decode cX2_has 12 = .ok (.iconst 1, 1) := by decide +kernel
theorem dX2_has_13 : decode cX2_has 13 = .ok (.goto 4, 3) := by decide +kernel
theorem dX2_has_16 : decode cX2_has 16 = .ok (.iconst 0, 1) := by decide +kernel
theorem dX2_has_17 : decode cX2_has 17 = .ok (.ireturn, 1) := by decide +kernel
theorem dX2_kindOf_0 : decode cX2_kindOf 0 = .ok (.aload_n 0, 1) := by decide +kernel
theorem dX2_kindOf_1 : decode cX2_kindOf 1 = .ok (.iload_n 1, 1) := by decide +kernel
theorem dX2_kindOf_2 : decode cX2_kindOf 2 = .ok (.invokevirtual 22, 3) := by decide +kernel
theorem dX2_kindOf_5 : decode cX2_kindOf 5 = .ok (.ifCond .eq 12, 3) := by decide +kernel
theorem dX2_kindOf_8 : decode cX2_kindOf 8 = .ok (.aload_n 0, 1) := by decide +kernel
theorem dX2_kindOf_9 : decode cX2_kindOf 9 = .ok (.getfield 9, 3) := by decide +kernel
theorem dX2_kindOf_12 : decode cX2_kindOf 12 = .ok (.iload_n 1, 1) := by decide +kernel
theorem dX2_kindOf_13 : decode cX2_kindOf 13 = .ok (.iaload, 1) := by decide +kernel
theorem dX2_kindOf_14 : decode cX2_kindOf 14 = .ok (.goto 4, 3) := by decide +kernel
theorem dX2_kindOf_17 : decode cX2_kindOf 17 = .ok (.iconst (-1), 1) := by decide +kernel
theorem dX2_kindOf_18 : decode cX2_kindOf 18 = .ok (.ireturn, 1) := by decide +kernel
theorem dX2_numberOf_0 : decode cX2_numberOf 0 = .ok (.aload_n 0, 1) := by decide +kernel
theorem dX2_numberOf_1 : decode cX2_numberOf 1 = .ok (.iload_n 1, 1) := by decide +kernel
theorem dX2_numberOf_2 : decode cX2_numberOf 2 = .ok (.invokevirtual 22, 3) := by decide +kernel
theorem dX2_numberOf_5 : decode cX2_numberOf 5 = .ok (.ifCond .eq 12, 3) := by decide +kernel
theorem dX2_numberOf_8 : decode cX2_numberOf 8 = .ok (.aload_n 0, 1) := by decide +kernel
theorem dX2_numberOf_9 : decode cX2_numberOf 9 = .ok (.getfield 15, 3) := by decide +kernel
theorem dX2_numberOf_12 : decode cX2_numberOf 12 = .ok (.iload_n 1, 1) := by decide +kernel
theorem dX2_numberOf_13 : decode cX2_numberOf 13 = .ok (.iaload, 1) := by decide +kernel
theorem dX2_numberOf_14 : decode cX2_numberOf 14 = .ok (.goto 4, 3) := by decide +kernel
theorem dX2_numberOf_17 : decode cX2_numberOf 17 = .ok (.iconst (-1), 1) := by decide +kernel
theorem dX2_numberOf_18 : decode cX2_numberOf 18 = .ok (.ireturn, 1) := by decide +kernel
theorem dX3_init_0 : decode cX3_init 0 = .ok (.aload_n 0, 1) := by decide +kernel
theorem dX3_init_1 : decode cX3_init 1 = .ok (.invokespecial 1, 3) := by decide +kernel
theorem dX3_init_4 : decode cX3_init 4 = .ok (.aload_n 0, 1) := by decide +kernel
theorem dX3_init_5 : decode cX3_init 5 = .ok (.aload_n 1, 1) := by decide +kernel
theorem dX3_init_6 : decode cX3_init 6 = .ok (.putfield 7, 3) := by decide +kernel
theorem dX3_init_9 : decode cX3_init 9 = .ok (.aload_n 0, 1) := by decide +kernel
theorem dX3_init_10 : decode cX3_init 10 = .ok (.iload_n 2, 1) := by decide +kernel
theorem dX3_init_11 : decode cX3_init 11 = .ok (.putfield 13, 3) := by decide +kernel
theorem dX3_init_14 : decode cX3_init 14 = .ok (.aload_n 0, 1) := by decide +kernel
theorem dX3_init_15 : decode cX3_init 15 = .ok (.iload_n 3, 1) := by decide +kernel
theorem dX3_init_16 : decode cX3_init 16 = .ok (.putfield 17, 3) := by decide +kernel
theorem dX3_init_19 : decode cX3_init 19 = .ok (.return_, 1) := by decide +kernel
theorem dX4_allow_0 : decode cX4_allow 0 = .ok (.aload_n 0, 1) := by decide +kernel
theorem dX4_allow_1 : decode cX4_allow 1 = .ok (.invokevirtual 9, 3) := by decide +kernel
theorem dX4_allow_4 : decode cX4_allow 4 = .ok (.istore_n 1, 1) := by decide +kernel
theorem dX4_allow_5 : decode cX4_allow 5 = .ok (.iload_n 1, 1) := by decide +kernel
theorem dX4_allow_6 : decode cX4_allow 6 = .ok (.iconst 1, 1) := by decide +kernel
theorem dX4_allow_7 : decode cX4_allow 7 = .ok (.if_icmp .lt 9, 3) := by decide +kernel
theorem dX4_allow_10 : decode cX4_allow 10 = .ok (.iload_n 1, 1) := by decide +kernel
theorem dX4_allow_11 : decode cX4_allow 11 = .ok (.bipush 24, 2) := by decide +kernel
theorem dX4_allow_13 : decode cX4_allow 13 = .ok (.if_icmp .le 5, 3) := by decide +kernel
theorem dX4_allow_16 : decode cX4_allow 16 = .ok (.iconst 0, 1) := by decide +kernel
theorem dX4_allow_17 : decode cX4_allow 17 = .ok (.ireturn, 1) := by decide +kernel
theorem dX4_allow_18 : decode cX4_allow 18 = .ok (.iconst 0, 1) := by decide +kernel
theorem dX4_allow_19 : decode cX4_allow 19 = .ok (.istore_n 2, 1) := by decide +kernel
theorem dX4_allow_20 : decode cX4_allow 20 = .ok (.iconst 0, 1) := by decide +kernel
theorem dX4_allow_21 : decode cX4_allow 21 = .ok (.istore_n 3, 1) := by decide +kernel
theorem dX4_allow_22 : decode cX4_allow 22 = .ok (.iload_n 3, 1) := by decide +kernel
theorem dX4_allow_23 : decode cX4_allow 23 = .ok (.iload_n 1, 1) := by decide +kernel
theorem dX4_allow_24 : decode cX4_allow 24 = .ok (.if_icmp .ge 51, 3) := by decide +kernel
theorem dX4_allow_27 : decode cX4_allow 27 = .ok (.aload_n 0, 1) := by decide +kernel
theorem dX4_allow_28 : decode cX4_allow 28 = .ok (.iload_n 3, 1) := by decide +kernel
theorem dX4_allow_29 : decode cX4_allow 29 = .ok (.invokevirtual 15, 3) := by decide +kernel
theorem dX4_allow_32 : decode cX4_allow 32 = .ok (.istore 4, 2) := by decide +kernel
theorem dX4_allow_34 : decode cX4_allow 34 = .ok (.iload 4, 2) := by decide +kernel
theorem dX4_allow_36 : decode cX4_allow 36 = .ok (.bipush 47, 2) := by decide +kernel
theorem dX4_allow_38 : decode cX4_allow 38 = .ok (.if_icmp .ne 21, 3) := by decide +kernel
theorem dX4_allow_41 : decode cX4_allow 41 = .ok (.aload_n 0, 1) := by decide +kernel
theorem dX4_allow_42 : decode cX4_allow 42 = .ok (.iload_n 2, 1) := by decide +kernel
theorem dX4_allow_43 : decode cX4_allow 43 = .ok (.iload_n 3, 1) := by decide +kernel
theorem dX4_allow_44 : decode cX4_allow 44 = .ok (.invokestatic 19, 3) := by decide +kernel
theorem dX4_allow_47 : decode cX4_allow 47 = .ok (.ifCond .ne 5, 3) := by decide +kernel
theorem dX4_allow_50 : decode cX4_allow 50 = .ok (.iconst 0, 1) := by decide +kernel
theorem dX4_allow_51 : decode cX4_allow 51 = .ok (.ireturn, 1) := by decide +kernel
theorem dX4_allow_52 : decode cX4_allow 52 = .ok (.iload_n 3, 1) := by decide +kernel
theorem dX4_allow_53 : decode cX4_allow 53 = .ok (.iconst 1, 1) := by decide +kernel
theorem dX4_allow_54 : decode cX4_allow 54 = .ok (.iadd, 1) := by decide +kernel
theorem dX4_allow_55 : decode cX4_allow 55 = .ok (.istore_n 2, 1) := by decide +kernel
theorem dX4_allow_56 : decode cX4_allow 56 = .ok (.goto 13, 3) := by decide +kernel
theorem dX4_allow_59 : decode cX4_allow 59 = .ok (.iload 4, 2) := by decide +kernel
theorem dX4_allow_61 : decode cX4_allow 61 = .ok (.invokestatic 25, 3) := by decide +kernel
theorem dX4_allow_64 : decode cX4_allow 64 = .ok (.ifCond .ne 5, 3) := by decide +kernel
theorem dX4_allow_67 : decode cX4_allow 67 = .ok (.iconst 0, 1) := by decide +kernel
theorem dX4_allow_68 : decode cX4_allow 68 = .ok (.ireturn, 1) := by decide +kernel
theorem dX4_allow_69 : decode cX4_allow 69 = .ok (.iinc 3 1, 3) := by decide +kernel
theorem dX4_allow_72 : decode cX4_allow 72 = .ok (.goto (-50), 3) := by decide +kernel
theorem dX4_allow_75 : decode cX4_allow 75 = .ok (.aload_n 0, 1) := by decide +kernel
theorem dX4_allow_76 : decode cX4_allow 76 = .ok (.iload_n 2, 1) := by decide +kernel
theorem dX4_allow_77 : decode cX4_allow 77 = .ok (.iload_n 1, 1) := by decide +kernel
theorem dX4_allow_78 : decode cX4_allow 78 = .ok (.invokestatic 19, 3) := by decide +kernel
theorem dX4_allow_81 : decode cX4_allow 81 = .ok (.ireturn, 1) := by decide +kernel
theorem dX4_allowInPart_0 : decode cX4_allowInPart 0 = .ok (.iload_n 0, 1) := by decide +kernel
theorem dX4_allowInPart_1 : decode cX4_allowInPart 1 = .ok (.bipush 97, 2) := by decide +kernel
theorem dX4_allowInPart_3 : decode cX4_allowInPart 3 = .ok (.if_icmp .lt 9, 3) := by decide +kernel
theorem dX4_allowInPart_6 : decode cX4_allowInPart 6 = .ok (.iload_n 0, 1) := by decide +kernel
theorem dX4_allowInPart_7 : decode cX4_allowInPart 7 = .ok (.bipush 122, 2) := by decide +kernel
theorem dX4_allowInPart_9 : decode cX4_allowInPart 9 = .ok (.if_icmp .le 21, 3) := by decide +kernel
theorem dX4_allowInPart_12 : decode cX4_allowInPart 12 = .ok (.iload_n 0, 1) := by decide +kernel
theorem dX4_allowInPart_13 : decode cX4_allowInPart 13 = .ok (.bipush 48, 2) := by decide +kernel
theorem dX4_allowInPart_15 : decode cX4_allowInPart 15 = .ok (.if_icmp .lt 9, 3) := by decide +kernel
theorem dX4_allowInPart_18 : decode cX4_allowInPart 18 = .ok (.iload_n 0, 1) := by decide +kernel
theorem dX4_allowInPart_19 : decode cX4_allowInPart 19 = .ok (.bipush 57, 2) := by decide +kernel
theorem dX4_allowInPart_21 : decode cX4_allowInPart 21 = .ok (.if_icmp .le 9, 3) := by decide +kernel
theorem dX4_allowInPart_24 : decode cX4_allowInPart 24 = .ok (.iload_n 0, 1) := by decide +kernel
theorem dX4_allowInPart_25 : decode cX4_allowInPart 25 = .ok (.bipush 46, 2) := by decide +kernel
theorem dX4_allowInPart_27 : decode cX4_allowInPart 27 = .ok (.if_icmp .ne 7, 3) := by decide +kernel
theorem dX4_allowInPart_30 : decode cX4_allowInPart 30 = .ok (.iconst 1, 1) := by decide +kernel
theorem dX4_allowInPart_31 : decode cX4_allowInPart 31 = .ok (.goto 4, 3) := by decide +kernel
theorem dX4_allowInPart_34 : decode cX4_allowInPart 34 = .ok (.iconst 0, 1) := by decide +kernel
theorem dX4_allowInPart_35 : decode cX4_allowInPart 35 = .ok (.ireturn, 1) := by decide +kernel
theorem dX4_allowPart_0 : decode cX4_allowPart 0 = .ok (.iload_n 2, 1) := by decide +kernel
theorem dX4_allowPart_1 : decode cX4_allowPart 1 = .ok (.iload_n 1, 1) := by decide +kernel
theorem dX4_allowPart_2 : decode cX4_allowPart 2 = .ok (.isub, 1) := by decide +kernel
theorem dX4_allowPart_3 : decode cX4_allowPart 3 = .ok (.istore_n 3, 1) := by decide +kernel
theorem dX4_allowPart_4 : decode cX4_allowPart 4 = .ok (.iload_n 3, 1) := by decide +kernel
theorem dX4_allowPart_5 : decode cX4_allowPart 5 = .ok (.iconst 1, 1) := by decide +kernel
theorem dX4_allowPart_6 : decode cX4_allowPart 6 = .ok (.if_icmp .ne 19, 3) := by decide +kernel
theorem dX4_allowPart_9 : decode cX4_allowPart 9 = .ok (.aload_n 0, 1) := by decide +kernel
theorem dX4_allowPart_10 : decode cX4_allowPart 10 = .ok (.iload_n 1, 1) := by decide +kernel
theorem dX4_allowPart_11 : decode cX4_allowPart 11 = .ok (.invokevirtual 15, 3) := by decide +kernel
theorem dX4_allowPart_14 : decode cX4_allowPart 14 = .ok (.bipush 46, 2) := by decide +kernel
theorem dX4_allowPart_16 : decode cX4_allowPart 16 = .ok (.if_icmp .eq 7, 3) := by decide +kernel
theorem dX4_allowPart_19 : decode cX4_allowPart 19 = .ok (.iconst 1, 1) := by decide +kernel
theorem dX4_allowPart_20 : decode cX4_allowPart 20 = .ok (.goto 4, 3) := by decide +kernel
theorem dX4_allowPart_23 : decode cX4_allowPart 23 = .ok (.iconst 0, 1) := by decide +kernel
theorem dX4_allowPart_24 : decode cX4_allowPart 24 = .ok (.ireturn, 1) := by decide +kernel
theorem dX4_allowPart_25 : decode cX4_allowPart 25 = .ok (.iload_n 3, 1) := by decide +kernel
theorem dX4_allowPart_26 : decode cX4_allowPart 26 = .ok (.iconst 2, 1) := by decide +kernel
theorem dX4_allowPart_27 : decode cX4_allowPart 27 = .ok (.if_icmp .ne 31, 3) := by decide +kernel
theorem dX4_allowPart_30 : decode cX4_allowPart 30 = .ok (.aload_n 0, 1) := by decide +kernel
theorem dX4_allowPart_31 : decode cX4_allowPart 31 = .ok (.iload_n 1, 1) := by decide +kernel
theorem dX4_allowPart_32 : decode cX4_allowPart 32 = .ok (.invokevirtual 15, 3) := by decide +kernel
theorem dX4_allowPart_35 : decode cX4_allowPart 35 = .ok (.bipush 46, 2) := by decide +kernel
theorem dX4_allowPart_37 : decode cX4_allowPart 37 = .ok (.if_icmp .ne 15, 3) := by decide +kernel
theorem dX4_allowPart_40 : decode cX4_allowPart 40 = .ok (.aload_n 0, 1) := by decide +kernel
theorem dX4_allowPart_41 : decode cX4_allowPart 41 = .ok (.iload_n 1, 1) := by decide +kernel
theorem dX4_allowPart_42 : decode cX4_allowPart 42 = .ok (.iconst 1, 1) := by decide +kernel
theorem dX4_allowPart_43 : decode cX4_allowPart 43 = .ok (.iadd, 1) := by decide +kernel
theorem dX4_allowPart_44 : decode cX4_allowPart 44 = .ok (.invokevirtual 15, 3) := by decide +kernel
theorem dX4_allowPart_47 : decode cX4_allowPart 47 = .ok (.bipush 46, 2) := by decide +kernel
theorem dX4_allowPart_49 : decode cX4_allowPart 49 = .ok (.if_icmp .eq 7, 3) := by decide +kernel
theorem dX4_allowPart_52 : decode cX4_allowPart 52 = .ok (.iconst 1, 1) := by decide +kernel
theorem dX4_allowPart_53 : decode cX4_allowPart 53 = .ok (.goto 4, 3) := by decide +kernel
theorem dX4_allowPart_56 : decode cX4_allowPart 56 = .ok (.iconst 0, 1) := by decide +kernel
theorem dX4_allowPart_57 : decode cX4_allowPart 57 = .ok (.ireturn, 1) := by decide +kernel
theorem dX4_allowPart_58 : decode cX4_allowPart 58 = .ok (.iload_n 3, 1) := by decide +kernel
theorem dX4_allowPart_59 : decode cX4_allowPart 59 = .ok (.ifCond .le 7, 3) := by decide +kernel
theorem dX4_allowPart_62 : decode cX4_allowPart 62 = .ok (.iconst 1, 1) := by decide +kernel
theorem dX4_allowPart_63 : decode cX4_allowPart 63 = .ok (.goto 4, 3) := by decide +kernel
theorem dX4_allowPart_66 : decode cX4_allowPart 66 = .ok (.iconst 0, 1) := by decide +kernel
theorem dX4_allowPart_67 : decode cX4_allowPart 67 = .ok (.ireturn, 1) := by decide +kernel
theorem dX5_init_0 : decode cX5_init 0 = .ok (.aload_n 0, 1) := by decide +kernel
theorem dX5_init_1 : decode cX5_init 1 = .ok (.invokespecial 3, 3) := by decide +kernel
theorem dX5_init_4 : decode cX5_init 4 = .ok (.aload_n 0, 1) := by decide +kernel
theorem dX5_init_5 : decode cX5_init 5 = .ok (.iconst 0, 1) := by decide +kernel
theorem dX5_init_6 : decode cX5_init 6 = .ok (.iload_n 1, 1) := by decide +kernel
theorem dX5_init_7 : decode cX5_init 7 = .ok (.invokestatic 9, 3) := by decide +kernel
theorem dX5_init_10 : decode cX5_init 10 = .ok (.newarray .int, 2) := by decide +kernel
theorem dX5_init_12 : decode cX5_init 12 = .ok (.putfield 15, 3) := by decide +kernel
theorem dX5_init_15 : decode cX5_init 15 = .ok (.aload_n 0, 1) := by decide +kernel
theorem dX5_init_16 : decode cX5_init 16 = .ok (.iconst 0, 1) := by decide +kernel
theorem dX5_init_17 : decode cX5_init 17 = .ok (.putfield 21, 3) := by decide +kernel
theorem dX5_init_20 : decode cX5_init 20 = .ok (.return_, 1) := by decide +kernel
theorem dX5_append_0 : decode cX5_append 0 = .ok (.aload_n 0, 1) := by decide +kernel
theorem dX5_append_1 : decode cX5_append 1 = .ok (.getfield 21, 3) := by decide +kernel
theorem dX5_append_4 : decode cX5_append 4 = .ok (.aload_n 0, 1) := by decide +kernel
theorem dX5_append_5 : decode cX5_append 5 = .ok (.getfield 15, 3) := by decide +kernel
theorem dX5_append_8 : decode cX5_append 8 = .ok (.arraylength, 1) := by decide +kernel
theorem dX5_append_9 : decode cX5_append 9 = .ok (.if_icmp .ge 23, 3) := by decide +kernel
theorem dX5_append_12 : decode cX5_append 12 = .ok (.aload_n 0, 1) := by decide +kernel
theorem dX5_append_13 : decode cX5_append 13 = .ok (.getfield 15, 3) := by decide +kernel
theorem dX5_append_16 : decode cX5_append 16 = .ok (.aload_n 0, 1) := by decide +kernel
theorem dX5_append_17 : decode cX5_append 17 = .ok (.getfield 21, 3) := by decide +kernel
theorem dX5_append_20 : decode cX5_append 20 = .ok (.iload_n 1, 1) := by decide +kernel
theorem dX5_append_21 : decode cX5_append 21 = .ok (.iastore, 1) := by decide +kernel
theorem dX5_append_22 : decode cX5_append 22 = .ok (.aload_n 0, 1) := by decide +kernel
theorem dX5_append_23 : decode cX5_append 23 = .ok (.dup, 1) := by decide +kernel
theorem dX5_append_24 : decode cX5_append 24 = .ok (.getfield 21, 3) := by decide +kernel
theorem dX5_append_27 : decode cX5_append 27 = .ok (.iconst 1, 1) := by decide +kernel
theorem dX5_append_28 : decode cX5_append 28 = .ok (.iadd, 1) := by decide +kernel
theorem dX5_append_29 : decode cX5_append 29 = .ok (.putfield 21, 3) := by decide +kernel
theorem dX5_append_32 : decode cX5_append 32 = .ok (.return_, 1) := by decide +kernel
theorem dX5_clear_0 : decode cX5_clear 0 = .ok (.aload_n 0, 1) := by decide +kernel
theorem dX5_clear_1 : decode cX5_clear 1 = .ok (.iconst 0, 1) := by decide +kernel
theorem dX5_clear_2 : decode cX5_clear 2 = .ok (.putfield 21, 3) := by decide +kernel
theorem dX5_clear_5 : decode cX5_clear 5 = .ok (.return_, 1) := by decide +kernel
theorem dX5_size_0 : decode cX5_size 0 = .ok (.aload_n 0, 1) := by decide +kernel
theorem dX5_size_1 : decode cX5_size 1 = .ok (.getfield 21, 3) := by decide +kernel
theorem dX5_size_4 : decode cX5_size 4 = .ok (.ireturn, 1) := by decide +kernel
theorem dX5_has_0 : decode cX5_has 0 = .ok (.iload_n 1, 1) := by decide +kernel
theorem dX5_has_1 : decode cX5_has 1 = .ok (.ifCond .lt 15, 3) := by decide +kernel
theorem dX5_has_4 : decode cX5_has 4 = .ok (.iload_n 1, 1) := by decide +kernel
theorem dX5_has_5 : decode cX5_has 5 = .ok (.aload_n 0, 1) := by decide +kernel
theorem dX5_has_6 : decode cX5_has 6 = .ok (.getfield 21, 3) := by decide +kernel
theorem dX5_has_9 : decode cX5_has 9 = .ok (.if_icmp .ge 7, 3) := by decide +kernel
theorem dX5_has_12 : decode cX5_has 12 = .ok (.iconst 1, 1) := by decide +kernel
theorem dX5_has_13 : decode cX5_has 13 = .ok (.goto 4, 3) := by decide +kernel
theorem dX5_has_16 : decode cX5_has 16 = .ok (.iconst 0, 1) := by decide +kernel
theorem dX5_has_17 : decode cX5_has 17 = .ok (.ireturn, 1) := by decide +kernel
theorem dX5_cell_0 : decode cX5_cell 0 = .ok (.aload_n 0, 1) := by decide +kernel
theorem dX5_cell_1 : decode cX5_cell 1 = .ok (.iload_n 1, 1) := by decide +kernel
theorem dX5_cell_2 : decode cX5_cell 2 = .ok (.invokevirtual 25, 3) := by decide +kernel
theorem dX5_cell_5 : decode cX5_cell 5 = .ok (.ifCond .eq 12, 3) := by decide +kernel
theorem dX5_cell_8 : decode cX5_cell 8 = .ok (.aload_n 0, 1) := by decide +kernel
theorem dX5_cell_9 : decode cX5_cell 9 = .ok (.getfield 15, 3) := by decide +kernel
theorem dX5_cell_12 : decode cX5_cell 12 = .ok (.iload_n 1, 1) := by decide +kernel
theorem dX5_cell_13 : decode cX5_cell 13 = .ok (.iaload, 1) := by decide +kernel
theorem dX5_cell_14 : decode cX5_cell 14 = .ok (.goto 4, 3) := by decide +kernel
theorem dX5_cell_17 : decode cX5_cell 17 = .ok (.iconst (-1), 1) := by decide +kernel
theorem dX5_cell_18 : decode cX5_cell 18 = .ok (.ireturn, 1) := by decide +kernel
theorem dX5_copy_0 : decode cX5_copy 0 = .ok (.new 16, 3) := by decide +kernel
theorem dX5_copy_3 : decode cX5_copy 3 = .ok (.dup, 1) := by decide +kernel
theorem dX5_copy_4 : decode cX5_copy 4 = .ok (.aload_n 0, 1) := by decide +kernel
theorem dX5_copy_5 : decode cX5_copy 5 = .ok (.getfield 21, 3) := by decide +kernel
theorem dX5_copy_8 : decode cX5_copy 8 = .ok (.invokespecial 29, 3) := by decide +kernel
theorem dX5_copy_11 : decode cX5_copy 11 = .ok (.astore_n 1, 1) := by decide +kernel
theorem dX5_copy_12 : decode cX5_copy 12 = .ok (.iconst 0, 1) := by decide +kernel
theorem dX5_copy_13 : decode cX5_copy 13 = .ok (.istore_n 2, 1) := by decide +kernel
theorem dX5_copy_14 : decode cX5_copy 14 = .ok (.iload_n 2, 1) := by decide +kernel
theorem dX5_copy_15 : decode cX5_copy 15 = .ok (.aload_n 0, 1) := by decide +kernel
theorem dX5_copy_16 : decode cX5_copy 16 = .ok (.getfield 21, 3) := by decide +kernel
theorem dX5_copy_19 : decode cX5_copy 19 = .ok (.if_icmp .ge 19, 3) := by decide +kernel
theorem dX5_copy_22 : decode cX5_copy 22 = .ok (.aload_n 1, 1) := by decide +kernel
theorem dX5_copy_23 : decode cX5_copy 23 = .ok (.aload_n 0, 1) := by decide +kernel
theorem dX5_copy_24 : decode cX5_copy 24 = .ok (.getfield 15, 3) := by decide +kernel
theorem dX5_copy_27 : decode cX5_copy 27 = .ok (.iload_n 2, 1) := by decide +kernel
theorem dX5_copy_28 : decode cX5_copy 28 = .ok (.iaload, 1) := by decide +kernel
theorem dX5_copy_29 : decode cX5_copy 29 = .ok (.invokevirtual 32, 3) := by decide +kernel
theorem dX5_copy_32 : decode cX5_copy 32 = .ok (.iinc 2 1, 3) := by decide +kernel
theorem dX5_copy_35 : decode cX5_copy 35 = .ok (.goto (-21), 3) := by decide +kernel
theorem dX5_copy_38 : decode cX5_copy 38 = .ok (.aload_n 1, 1) := by decide +kernel
theorem dX5_copy_39 : decode cX5_copy 39 = .ok (.areturn, 1) := by decide +kernel
theorem dX5_sumOfBytes_0 : decode cX5_sumOfBytes 0 = .ok (.iconst 1, 1) := by decide +kernel
theorem dX5_sumOfBytes_1 : decode cX5_sumOfBytes 1 = .ok (.istore_n 1, 1) := by decide +kernel
theorem dX5_sumOfBytes_2 : decode cX5_sumOfBytes 2 = .ok (.iconst 0, 1) := by decide +kernel
theorem dX5_sumOfBytes_3 : decode cX5_sumOfBytes 3 = .ok (.istore_n 2, 1) := by decide +kernel
theorem dX5_sumOfBytes_4 : decode cX5_sumOfBytes 4 = .ok (.iload_n 2, 1) := by decide +kernel
theorem dX5_sumOfBytes_5 : decode cX5_sumOfBytes 5 = .ok (.aload_n 0, 1) := by decide +kernel
theorem dX5_sumOfBytes_6 : decode cX5_sumOfBytes 6 = .ok (.getfield 21, 3) := by decide +kernel
theorem dX5_sumOfBytes_9 : decode cX5_sumOfBytes 9 = .ok (.if_icmp .ge 21, 3) := by decide +kernel
theorem dX5_sumOfBytes_12 : decode cX5_sumOfBytes 12 = .ok (.ldc 35, 2) := by decide +kernel
theorem dX5_sumOfBytes_14 : decode cX5_sumOfBytes 14 = .ok (.iload_n 1, 1) := by decide +kernel
theorem dX5_sumOfBytes_15 : decode cX5_sumOfBytes 15 = .ok (.imul, 1) := by decide +kernel
theorem dX5_sumOfBytes_16 : decode cX5_sumOfBytes 16 = .ok (.aload_n 0, 1) := by decide +kernel
theorem dX5_sumOfBytes_17 : decode cX5_sumOfBytes 17 = .ok (.getfield 15, 3) := by decide +kernel
theorem dX5_sumOfBytes_20 : decode cX5_sumOfBytes 20 = .ok (.iload_n 2, 1) := by decide +kernel
theorem dX5_sumOfBytes_21 : decode cX5_sumOfBytes 21 = .ok (.iaload, 1) := by decide +kernel
theorem dX5_sumOfBytes_22 : decode cX5_sumOfBytes 22 = .ok (.iadd, 1) := by decide +kernel
theorem dX5_sumOfBytes_23 : decode cX5_sumOfBytes 23 = .ok (.istore_n 1, 1) := by decide +kernel
theorem dX5_sumOfBytes_24 : decode cX5_sumOfBytes 24 = .ok (.iinc 2 1, 3) := by decide +kernel
theorem dX5_sumOfBytes_27 : decode cX5_sumOfBytes 27 = .ok (.goto (-23), 3) := by decide +kernel
theorem dX5_sumOfBytes_30 : decode cX5_sumOfBytes 30 = .ok (.iload_n 1, 1) := by decide +kernel
theorem dX5_sumOfBytes_31 : decode cX5_sumOfBytes 31 = .ok (.ireturn, 1) := by decide +kernel
theorem dX5_order_0 : decode cX5_order 0 = .ok (.iconst 0, 1) := by decide +kernel
theorem dX5_order_1 : decode cX5_order 1 = .ok (.istore_n 2, 1) := by decide +kernel
theorem dX5_order_2 : decode cX5_order 2 = .ok (.iload_n 2, 1) := by decide +kernel
theorem dX5_order_3 : decode cX5_order 3 = .ok (.aload_n 0, 1) := by decide +kernel
theorem dX5_order_4 : decode cX5_order 4 = .ok (.getfield 21, 3) := by decide +kernel
theorem dX5_order_7 : decode cX5_order 7 = .ok (.if_icmp .ge 46, 3) := by decide +kernel
theorem dX5_order_10 : decode cX5_order 10 = .ok (.iload_n 2, 1) := by decide +kernel
theorem dX5_order_11 : decode cX5_order 11 = .ok (.aload_n 1, 1) := by decide +kernel
theorem dX5_order_12 : decode cX5_order 12 = .ok (.getfield 21, 3) := by decide +kernel
theorem dX5_order_15 : decode cX5_order 15 = .ok (.if_icmp .ge 38, 3) := by decide +kernel
theorem dX5_order_18 : decode cX5_order 18 = .ok (.aload_n 0, 1) := by decide +kernel
theorem dX5_order_19 : decode cX5_order 19 = .ok (.getfield 15, 3) := by decide +kernel
theorem dX5_order_22 : decode cX5_order 22 = .ok (.iload_n 2, 1) := by decide +kernel
theorem dX5_order_23 : decode cX5_order 23 = .ok (.iaload, 1) := by decide +kernel
theorem dX5_order_24 : decode cX5_order 24 = .ok (.aload_n 1, 1) := by decide +kernel
theorem dX5_order_25 : decode cX5_order 25 = .ok (.getfield 15, 3) := by decide +kernel
theorem dX5_order_28 : decode cX5_order 28 = .ok (.iload_n 2, 1) := by decide +kernel
theorem dX5_order_29 : decode cX5_order 29 = .ok (.iaload, 1) := by decide +kernel
theorem dX5_order_30 : decode cX5_order 30 = .ok (.if_icmp .eq 17, 3) := by decide +kernel
theorem dX5_order_33 : decode cX5_order 33 = .ok (.aload_n 0, 1) := by decide +kernel
theorem dX5_order_34 : decode cX5_order 34 = .ok (.getfield 15, 3) := by decide +kernel
theorem dX5_order_37 : decode cX5_order 37 = .ok (.iload_n 2, 1) := by decide +kernel
theorem dX5_order_38 : decode cX5_order 38 = .ok (.iaload, 1) := by decide +kernel
theorem dX5_order_39 : decode cX5_order 39 = .ok (.aload_n 1, 1) := by decide +kernel
theorem dX5_order_40 : decode cX5_order 40 = .ok (.getfield 15, 3) := by decide +kernel
theorem dX5_order_43 : decode cX5_order 43 = .ok (.iload_n 2, 1) := by decide +kernel
theorem dX5_order_44 : decode cX5_order 44 = .ok (.iaload, 1) := by decide +kernel
theorem dX5_order_45 : decode cX5_order 45 = .ok (.isub, 1) := by decide +kernel
theorem dX5_order_46 : decode cX5_order 46 = .ok (.ireturn, 1) := by decide +kernel
theorem dX5_order_47 : decode cX5_order 47 = .ok (.iinc 2 1, 3) := by decide +kernel
theorem dX5_order_50 : decode cX5_order 50 = .ok (.goto (-48), 3) := by decide +kernel
theorem dX5_order_53 : decode cX5_order 53 = .ok (.aload_n 0, 1) := by decide +kernel
theorem dX5_order_54 : decode cX5_order 54 = .ok (.getfield 21, 3) := by decide +kernel
theorem dX5_order_57 : decode cX5_order 57 = .ok (.aload_n 1, 1) := by decide +kernel
theorem dX5_order_58 : decode cX5_order 58 = .ok (.getfield 21, 3) := by decide +kernel
theorem dX5_order_61 : decode cX5_order 61 = .ok (.isub, 1) := by decide +kernel
theorem dX5_order_62 : decode cX5_order 62 = .ok (.ireturn, 1) := by decide +kernel
theorem dX5_alike_0 : decode cX5_alike 0 = .ok (.aload_n 0, 1) := by decide +kernel
theorem dX5_alike_1 : decode cX5_alike 1 = .ok (.getfield 21, 3) := by decide +kernel
theorem dX5_alike_4 : decode cX5_alike 4 = .ok (.aload_n 1, 1) := by decide +kernel
theorem dX5_alike_5 : decode cX5_alike 5 = .ok (.getfield 21, 3) := by decide +kernel
theorem dX5_alike_8 : decode cX5_alike 8 = .ok (.if_icmp .ne 15, 3) := by decide +kernel
theorem dX5_alike_11 : decode cX5_alike 11 = .ok (.aload_n 0, 1) := by decide +kernel
theorem dX5_alike_12 : decode cX5_alike 12 = .ok (.aload_n 1, 1) := by decide +kernel
theorem dX5_alike_13 : decode cX5_alike 13 = .ok (.invokevirtual 36, 3) := by decide +kernel
theorem dX5_alike_16 : decode cX5_alike 16 = .ok (.ifCond .ne 7, 3) := by decide +kernel
theorem dX5_alike_19 : decode cX5_alike 19 = .ok (.iconst 1, 1) := by decide +kernel
theorem dX5_alike_20 : decode cX5_alike 20 = .ok (.goto 4, 3) := by decide +kernel
theorem dX5_alike_23 : decode cX5_alike 23 = .ok (.iconst 0, 1) := by decide +kernel
theorem dX5_alike_24 : decode cX5_alike 24 = .ok (.ireturn, 1) := by decide +kernel
theorem dX6_init_0 : decode cX6_init 0 = .ok (.aload_n 0, 1) := by decide +kernel
theorem dX6_init_1 : decode cX6_init 1 = .ok (.invokespecial 3, 3) := by decide +kernel
theorem dX6_init_4 : decode cX6_init 4 = .ok (.aload_n 0, 1) := by decide +kernel
theorem dX6_init_5 : decode cX6_init 5 = .ok (.aconst_null, 1) := by decide +kernel
theorem dX6_init_6 : decode cX6_init 6 = .ok (.putfield 9, 3) := by decide +kernel
theorem dX6_init_9 : decode cX6_init 9 = .ok (.aload_n 0, 1) := by decide +kernel
theorem dX6_init_10 : decode cX6_init 10 = .ok (.sipush 320, 3) := by decide +kernel
theorem dX6_init_13 : decode cX6_init 13 = .ok (.newarray .boolean, 2) := by decide +kernel
theorem dX6_init_15 : decode cX6_init 15 = .ok (.putfield 15, 3) := by decide +kernel
theorem dX6_init_18 : decode cX6_init 18 = .ok (.aload_n 0, 1) := by decide +kernel
theorem dX6_init_19 : decode cX6_init 19 = .ok (.iconst 0, 1) := by decide +kernel
theorem dX6_init_20 : decode cX6_init 20 = .ok (.putfield 19, 3) := by decide +kernel
theorem dX6_init_23 : decode cX6_init 23 = .ok (.aload_n 0, 1) := by decide +kernel
theorem dX6_init_24 : decode cX6_init 24 = .ok (.iconst 0, 1) := by decide +kernel
theorem dX6_init_25 : decode cX6_init 25 = .ok (.putfield 23, 3) := by decide +kernel
theorem dX6_init_28 : decode cX6_init 28 = .ok (.return_, 1) := by decide +kernel
theorem dX6_begin_0 : decode cX6_begin 0 = .ok (.iload_n 2, 1) := by decide +kernel
theorem dX6_begin_1 : decode cX6_begin 1 = .ok (.iconst 1, 1) := by decide +kernel
theorem dX6_begin_2 : decode cX6_begin 2 = .ok (.if_icmp .lt 9, 3) := by decide +kernel
theorem dX6_begin_5 : decode cX6_begin 5 = .ok (.iload_n 2, 1) := by decide +kernel
theorem dX6_begin_6 : decode cX6_begin 6 = .ok (.bipush 100, 2) := by decide +kernel
theorem dX6_begin_8 : decode cX6_begin 8 = .ok (.if_icmp .le 6, 3) := by decide +kernel
theorem dX6_begin_11 : decode cX6_begin 11 = .ok (.bipush (-2), 2) := by decide +kernel
theorem dX6_begin_13 : decode cX6_begin 13 = .ok (.ireturn, 1) := by decide +kernel
theorem dX6_begin_14 : decode cX6_begin 14 = .ok (.aload_n 0, 1) := by decide +kernel
theorem dX6_begin_15 : decode cX6_begin 15 = .ok (.aload_n 1, 1) := by decide +kernel
theorem dX6_begin_16 : decode cX6_begin 16 = .ok (.putfield 9, 3) := by decide +kernel
theorem dX6_begin_19 : decode cX6_begin 19 = .ok (.aload_n 0, 1) := by decide +kernel
theorem dX6_begin_20 : decode cX6_begin 20 = .ok (.aload_n 0, 1) := by decide +kernel
theorem dX6_begin_21 : decode cX6_begin 21 = .ok (.getfield 15, 3) := by decide +kernel
theorem dX6_begin_24 : decode cX6_begin 24 = .ok (.arraylength, 1) := by decide +kernel
theorem dX6_begin_25 : decode cX6_begin 25 = .ok (.aload_n 1, 1) := by decide +kernel
theorem dX6_begin_26 : decode cX6_begin 26 = .ok (.invokevirtual 26, 3) := by decide +kernel
theorem dX6_begin_29 : decode cX6_begin 29 = .ok (.iload_n 2, 1) := by decide +kernel
theorem dX6_begin_30 : decode cX6_begin 30 = .ok (.iadd, 1) := by decide +kernel
theorem dX6_begin_31 : decode cX6_begin 31 = .ok (.iconst 1, 1) := by decide +kernel
theorem dX6_begin_32 : decode cX6_begin 32 = .ok (.isub, 1) := by decide +kernel
theorem dX6_begin_33 : decode cX6_begin 33 = .ok (.iload_n 2, 1) := by decide +kernel
theorem dX6_begin_34 : decode cX6_begin 34 = .ok (.idiv, 1) := by decide +kernel
theorem dX6_begin_35 : decode cX6_begin 35 = .ok (.invokestatic 32, 3) := by decide +kernel
theorem dX6_begin_38 : decode cX6_begin 38 = .ok (.putfield 19, 3) := by decide +kernel
theorem dX6_begin_41 : decode cX6_begin 41 = .ok (.aload_n 0, 1) := by decide +kernel
theorem dX6_begin_42 : decode cX6_begin 42 = .ok (.aload_n 0, 1) := by decide +kernel
theorem dX6_begin_43 : decode cX6_begin 43 = .ok (.getfield 19, 3) := by decide +kernel
theorem dX6_begin_46 : decode cX6_begin 46 = .ok (.putfield 23, 3) := by decide +kernel
theorem dX6_begin_49 : decode cX6_begin 49 = .ok (.iconst 0, 1) := by decide +kernel
theorem dX6_begin_50 : decode cX6_begin 50 = .ok (.istore_n 3, 1) := by decide +kernel
theorem dX6_begin_51 : decode cX6_begin 51 = .ok (.iload_n 3, 1) := by decide +kernel
theorem dX6_begin_52 : decode cX6_begin 52 = .ok (.aload_n 0, 1) := by decide +kernel
theorem dX6_begin_53 : decode cX6_begin 53 = .ok (.getfield 19, 3) := by decide +kernel
theorem dX6_begin_56 : decode cX6_begin 56 = .ok (.if_icmp .ge 16, 3) := by decide +kernel
theorem dX6_begin_59 : decode cX6_begin 59 = .ok (.aload_n 0, 1) := by decide +kernel
theorem dX6_begin_60 : decode cX6_begin 60 = .ok (.getfield 15, 3) := by decide +kernel
theorem dX6_begin_63 : decode cX6_begin 63 = .ok (.iload_n 3, 1) := by decide +kernel
theorem dX6_begin_64 : decode cX6_begin 64 = .ok (.iconst 0, 1) := by decide +kernel
theorem dX6_begin_65 : decode cX6_begin 65 = .ok (.bastore, 1) := by decide +kernel
theorem dX6_begin_66 : decode cX6_begin 66 = .ok (.iinc 3 1, 3) := by decide +kernel
theorem dX6_begin_69 : decode cX6_begin 69 = .ok (.goto (-18), 3) := by decide +kernel
theorem dX6_begin_72 : decode cX6_begin 72 = .ok (.aload_n 0, 1) := by decide +kernel
theorem dX6_begin_73 : decode cX6_begin 73 = .ok (.getfield 19, 3) := by decide +kernel
theorem dX6_begin_76 : decode cX6_begin 76 = .ok (.ireturn, 1) := by decide +kernel
theorem dX6_take_0 : decode cX6_take 0 = .ok (.iload_n 1, 1) := by decide +kernel
theorem dX6_take_1 : decode cX6_take 1 = .ok (.ifCond .lt 11, 3) := by decide +kernel
theorem dX6_take_4 : decode cX6_take 4 = .ok (.iload_n 1, 1) := by decide +kernel
theorem dX6_take_5 : decode cX6_take 5 = .ok (.aload_n 0, 1) := by decide +kernel
theorem dX6_take_6 : decode cX6_take 6 = .ok (.getfield 19, 3) := by decide +kernel
theorem dX6_take_9 : decode cX6_take 9 = .ok (.if_icmp .lt 6, 3) := by decide +kernel
theorem dX6_take_12 : decode cX6_take 12 = .ok (.bipush (-2), 2) := by decide +kernel
theorem dX6_take_14 : decode cX6_take 14 = .ok (.ireturn, 1) := by decide +kernel
theorem dX6_take_15 : decode cX6_take 15 = .ok (.iload_n 2, 1) := by decide +kernel
theorem dX6_take_16 : decode cX6_take 16 = .ok (.ifCond .eq 29, 3) := by decide +kernel
theorem dX6_take_19 : decode cX6_take 19 = .ok (.aload_n 0, 1) := by decide +kernel
theorem dX6_take_20 : decode cX6_take 20 = .ok (.getfield 15, 3) := by decide +kernel
theorem dX6_take_23 : decode cX6_take 23 = .ok (.iload_n 1, 1) := by decide +kernel
theorem dX6_take_24 : decode cX6_take 24 = .ok (.baload, 1) := by decide +kernel
theorem dX6_take_25 : decode cX6_take 25 = .ok (.ifCond .ne 20, 3) := by decide +kernel
theorem dX6_take_28 : decode cX6_take 28 = .ok (.aload_n 0, 1) := by decide +kernel
theorem dX6_take_29 : decode cX6_take 29 = .ok (.getfield 15, 3) := by decide +kernel
theorem dX6_take_32 : decode cX6_take 32 = .ok (.iload_n 1, 1) := by decide +kernel
theorem dX6_take_33 : decode cX6_take 33 = .ok (.iconst 1, 1) := by decide +kernel
theorem dX6_take_34 : decode cX6_take 34 = .ok (.bastore, 1) := by decide +kernel
theorem dX6_take_35 : decode cX6_take 35 = .ok (.aload_n 0, 1) := by decide +kernel
theorem dX6_take_36 : decode cX6_take 36 = .ok (.dup, 1) := by decide +kernel
theorem dX6_take_37 : decode cX6_take 37 = .ok (.getfield 23, 3) := by decide +kernel
theorem dX6_take_40 : decode cX6_take 40 = .ok (.iconst 1, 1) := by decide +kernel
theorem dX6_take_41 : decode cX6_take 41 = .ok (.isub, 1) := by decide +kernel
theorem dX6_take_42 : decode cX6_take 42 = .ok (.putfield 23, 3) := by decide +kernel
theorem dX6_take_45 : decode cX6_take 45 = .ok (.aload_n 0, 1) := by decide +kernel
theorem dX6_take_46 : decode cX6_take 46 = .ok (.getfield 23, 3) := by decide +kernel
theorem dX6_take_49 : decode cX6_take 49 = .ok (.ireturn, 1) := by decide +kernel
theorem dX6_firstMissing_0 : decode cX6_firstMissing 0 = .ok (.iconst 0, 1) := by decide +kernel
theorem dX6_firstMissing_1 : decode cX6_firstMissing 1 = .ok (.istore_n 1, 1) := by decide +kernel
theorem dX6_firstMissing_2 : decode cX6_firstMissing 2 = .ok (.iload_n 1, 1) := by decide +kernel
theorem dX6_firstMissing_3 : decode cX6_firstMissing 3 = .ok (.aload_n 0, 1) := by decide +kernel
theorem dX6_firstMissing_4 : decode cX6_firstMissing 4 = .ok (.getfield 19, 3) := by decide +kernel
theorem dX6_firstMissing_7 : decode cX6_firstMissing 7 = .ok (.if_icmp .ge 20, 3) := by decide +kernel
theorem dX6_firstMissing_10 : decode cX6_firstMissing 10 = .ok (.aload_n 0, 1) := by decide +kernel
theorem dX6_firstMissing_11 : decode cX6_firstMissing 11 = .ok (.getfield 15, 3) := by decide +kernel
theorem dX6_firstMissing_14 : decode cX6_firstMissing 14 = .ok (.iload_n 1, 1) := by decide +kernel
theorem dX6_firstMissing_15 : decode cX6_firstMissing 15 = .ok (.baload, 1) := by decide +kernel
theorem dX6_firstMissing_16 : decode cX6_firstMissing 16 = .ok (.ifCond .ne 5, 3) := by decide +kernel
theorem dX6_firstMissing_19 : decode cX6_firstMissing 19 = .ok (.iload_n 1, 1) := by decide +kernel
theorem dX6_firstMissing_20 : decode cX6_firstMissing 20 = .ok (.ireturn, 1) := by decide +kernel
theorem dX6_firstMissing_21 : decode cX6_firstMissing 21 = .ok (.iinc 1 1, 3) := by decide +kernel
theorem dX6_firstMissing_24 : decode cX6_firstMissing 24 = .ok (.goto (-22), 3) := by decide +kernel
theorem dX6_firstMissing_27 : decode cX6_firstMissing 27 = .ok (.iconst (-1), 1) := by decide +kernel
theorem dX6_firstMissing_28 : decode cX6_firstMissing 28 = .ok (.ireturn, 1) := by decide +kernel
theorem dX6_joinedByte_0 : decode cX6_joinedByte 0 = .ok (.aload_n 0, 1) := by decide +kernel
theorem dX6_joinedByte_1 : decode cX6_joinedByte 1 = .ok (.getfield 9, 3) := by decide +kernel
theorem dX6_joinedByte_4 : decode cX6_joinedByte 4 = .ok (.ifnull 10, 3) := by decide +kernel
theorem dX6_joinedByte_7 : decode cX6_joinedByte 7 = .ok (.aload_n 0, 1) := by decide +kernel
theorem dX6_joinedByte_8 : decode cX6_joinedByte 8 = .ok (.getfield 23, 3) := by decide +kernel
theorem dX6_joinedByte_11 : decode cX6_joinedByte 11 = .ok (.ifCond .le 6, 3) := by decide +kernel
theorem dX6_joinedByte_14 : decode cX6_joinedByte 14 = .ok (.bipush (-3), 2) := by decide +kernel
theorem dX6_joinedByte_16 : decode cX6_joinedByte 16 = .ok (.ireturn, 1) := by decide +kernel
theorem dX6_joinedByte_17 : decode cX6_joinedByte 17 = .ok (.aload_n 0, 1) := by decide +kernel
theorem dX6_joinedByte_18 : decode cX6_joinedByte 18 = .ok (.getfield 9, 3) := by decide +kernel
theorem dX6_joinedByte_21 : decode cX6_joinedByte 21 = .ok (.iload_n 1, 1) := by decide +kernel
theorem dX6_joinedByte_22 : decode cX6_joinedByte 22 = .ok (.invokevirtual 38, 3) := by decide +kernel
theorem dX6_joinedByte_25 : decode cX6_joinedByte 25 = .ok (.ireturn, 1) := by decide +kernel
theorem dX7_init_0 : decode cX7_init 0 = .ok (.aload_n 0, 1) := by decide +kernel
theorem dX7_init_1 : decode cX7_init 1 = .ok (.invokespecial 3, 3) := by decide +kernel
theorem dX7_init_4 : decode cX7_init 4 = .ok (.aload_n 0, 1) := by decide +kernel
theorem dX7_init_5 : decode cX7_init 5 = .ok (.bipush 8, 2) := by decide +kernel
theorem dX7_init_7 : decode cX7_init 7 = .ok (.anewarray 9, 3) := by decide +kernel
theorem dX7_init_10 : decode cX7_init 10 = .ok (.putfield 11, 3) := by decide +kernel
theorem dX7_init_13 : decode cX7_init 13 = .ok (.aload_n 0, 1) := by decide +kernel
theorem dX7_init_14 : decode cX7_init 14 = .ok (.iconst 0, 1) := by decide +kernel
theorem dX7_init_15 : decode cX7_init 15 = .ok (.putfield 17, 3) := by decide +kernel
theorem dX7_init_18 : decode cX7_init 18 = .ok (.return_, 1) := by decide +kernel
theorem dX7_size_0 : decode cX7_size 0 = .ok (.aload_n 0, 1) := by decide +kernel
theorem dX7_size_1 : decode cX7_size 1 = .ok (.getfield 17, 3) := by decide +kernel
theorem dX7_size_4 : decode cX7_size 4 = .ok (.ireturn, 1) := by decide +kernel
theorem dX7_entryOrNull_0 : decode cX7_entryOrNull 0 = .ok (.iload_n 1, 1) := by decide +kernel
theorem dX7_entryOrNull_1 : decode cX7_entryOrNull 1 = .ok (.ifCond .lt 11, 3) := by decide +kernel
theorem dX7_entryOrNull_4 : decode cX7_entryOrNull 4 = .ok (.iload_n 1, 1) := by decide +kernel
theorem dX7_entryOrNull_5 : decode cX7_entryOrNull 5 = .ok (.aload_n 0, 1) := by decide +kernel
theorem dX7_entryOrNull_6 : decode cX7_entryOrNull 6 = .ok (.getfield 17, 3) := by decide +kernel
theorem dX7_entryOrNull_9 : decode cX7_entryOrNull 9 = .ok (.if_icmp .lt 7, 3) := by decide +kernel
theorem dX7_entryOrNull_12 : decode cX7_entryOrNull 12 = .ok (.aconst_null, 1) := by decide +kernel
theorem dX7_entryOrNull_13 : decode cX7_entryOrNull 13 = .ok (.goto 9, 3) := by decide +kernel
theorem dX7_entryOrNull_16 : decode cX7_entryOrNull 16 = .ok (.aload_n 0, 1) := by decide +kernel
theorem dX7_entryOrNull_17 : decode cX7_entryOrNull 17 = .ok (.getfield 11, 3) := by decide +kernel
theorem dX7_entryOrNull_20 : decode cX7_entryOrNull 20 = .ok (.iload_n 1, 1) := by decide +kernel
theorem dX7_entryOrNull_21 : decode cX7_entryOrNull 21 = .ok (.aaload, 1) := by decide +kernel
theorem dX7_entryOrNull_22 : decode cX7_entryOrNull 22 = .ok (.areturn, 1) := by decide +kernel
theorem dX7_insert_0 : decode cX7_insert 0 = .ok (.aload_n 0, 1) := by decide +kernel
theorem dX7_insert_1 : decode cX7_insert 1 = .ok (.getfield 17, 3) := by decide +kernel
theorem dX7_insert_4 : decode cX7_insert 4 = .ok (.aload_n 0, 1) := by decide +kernel
theorem dX7_insert_5 : decode cX7_insert 5 = .ok (.getfield 11, 3) := by decide +kernel
theorem dX7_insert_8 : decode cX7_insert 8 = .ok (.arraylength, 1) := by decide +kernel
theorem dX7_insert_9 : decode cX7_insert 9 = .ok (.if_icmp .lt 4, 3) := by decide +kernel
theorem dX7_insert_12 : decode cX7_insert 12 = .ok (.return_, 1) := by decide +kernel
theorem dX7_insert_13 : decode cX7_insert 13 = .ok (.aload_n 0, 1) := by decide +kernel
theorem dX7_insert_14 : decode cX7_insert 14 = .ok (.getfield 17, 3) := by decide +kernel
theorem dX7_insert_17 : decode cX7_insert 17 = .ok (.istore_n 2, 1) := by decide +kernel
theorem dX7_insert_18 : decode cX7_insert 18 = .ok (.iload_n 2, 1) := by decide +kernel
theorem dX7_insert_19 : decode cX7_insert 19 = .ok (.ifCond .le 44, 3) := by decide +kernel
theorem dX7_insert_22 : decode cX7_insert 22 = .ok (.aload_n 1, 1) := by decide +kernel
theorem dX7_insert_23 : decode cX7_insert 23 = .ok (.getfield 21, 3) := by decide +kernel
theorem dX7_insert_26 : decode cX7_insert 26 = .ok (.aload_n 0, 1) := by decide +kernel
theorem dX7_insert_27 : decode cX7_insert 27 = .ok (.getfield 11, 3) := by decide +kernel
theorem dX7_insert_30 : decode cX7_insert 30 = .ok (.iload_n 2, 1) := by decide +kernel
theorem dX7_insert_31 : decode cX7_insert 31 = .ok (.iconst 1, 1) := by decide +kernel
theorem dX7_insert_32 : decode cX7_insert 32 = .ok (.isub, 1) := by decide +kernel
theorem dX7_insert_33 : decode cX7_insert 33 = .ok (.aaload, 1) := by decide +kernel
theorem dX7_insert_34 : decode cX7_insert 34 = .ok (.getfield 21, 3) := by decide +kernel
theorem dX7_insert_37 : decode cX7_insert 37 = .ok (.invokevirtual 25, 3) := by decide +kernel
theorem dX7_insert_40 : decode cX7_insert 40 = .ok (.ifCond .ge 23, 3) := by decide +kernel
theorem dX7_insert_43 : decode cX7_insert 43 = .ok (.aload_n 0, 1) := by decide +kernel
theorem dX7_insert_44 : decode cX7_insert 44 = .ok (.getfield 11, 3) := by decide +kernel
theorem dX7_insert_47 : decode cX7_insert 47 = .ok (.iload_n 2, 1) := by decide +kernel
theorem dX7_insert_48 : decode cX7_insert 48 = .ok (.aload_n 0, 1) := by decide +kernel
theorem dX7_insert_49 : decode cX7_insert 49 = .ok (.getfield 11, 3) := by decide +kernel
theorem dX7_insert_52 : decode cX7_insert 52 = .ok (.iload_n 2, 1) := by decide +kernel
theorem dX7_insert_53 : decode cX7_insert 53 = .ok (.iconst 1, 1) := by decide +kernel
theorem dX7_insert_54 : decode cX7_insert 54 = .ok (.isub, 1) := by decide +kernel
theorem dX7_insert_55 : decode cX7_insert 55 = .ok (.aaload, 1) := by decide +kernel
theorem dX7_insert_56 : decode cX7_insert 56 = .ok (.aastore, 1) := by decide +kernel
theorem dX7_insert_57 : decode cX7_insert 57 = .ok (.iinc 2 (-1), 3) := by decide +kernel
theorem dX7_insert_60 : decode cX7_insert 60 = .ok (.goto (-42), 3) := by decide +kernel
theorem dX7_insert_63 : decode cX7_insert 63 = .ok (.aload_n 0, 1) := by decide +kernel
theorem dX7_insert_64 : decode cX7_insert 64 = .ok (.getfield 11, 3) := by decide +kernel
theorem dX7_insert_67 : decode cX7_insert 67 = .ok (.iload_n 2, 1) := by decide +kernel
theorem dX7_insert_68 : decode cX7_insert 68 = .ok (.aload_n 1, 1) := by decide +kernel
theorem dX7_insert_69 : decode cX7_insert 69 = .ok (.aastore, 1) := by decide +kernel
theorem dX7_insert_70 : decode cX7_insert 70 = .ok (.aload_n 0, 1) := by decide +kernel
theorem dX7_insert_71 : decode cX7_insert 71 = .ok (.dup, 1) := by decide +kernel
theorem dX7_insert_72 : decode cX7_insert 72 = .ok (.getfield 17, 3) := by decide +kernel
theorem dX7_insert_75 : decode cX7_insert 75 = .ok (.iconst 1, 1) := by decide +kernel
theorem dX7_insert_76 : decode cX7_insert 76 = .ok (.iadd, 1) := by decide +kernel
theorem dX7_insert_77 : decode cX7_insert 77 = .ok (.putfield 17, 3) := by decide +kernel
theorem dX7_insert_80 : decode cX7_insert 80 = .ok (.return_, 1) := by decide +kernel
theorem dX7_placeOf_0 : decode cX7_placeOf 0 = .ok (.iconst 0, 1) := by decide +kernel
theorem dX7_placeOf_1 : decode cX7_placeOf 1 = .ok (.istore_n 2, 1) := by decide +kernel
theorem dX7_placeOf_2 : decode cX7_placeOf 2 = .ok (.iload_n 2, 1) := by decide +kernel
theorem dX7_placeOf_3 : decode cX7_placeOf 3 = .ok (.aload_n 0, 1) := by decide +kernel
theorem dX7_placeOf_4 : decode cX7_placeOf 4 = .ok (.getfield 17, 3) := by decide +kernel
theorem dX7_placeOf_7 : decode cX7_placeOf 7 = .ok (.if_icmp .ge 27, 3) := by decide +kernel
theorem dX7_placeOf_10 : decode cX7_placeOf 10 = .ok (.aload_n 0, 1) := by decide +kernel
theorem dX7_placeOf_11 : decode cX7_placeOf 11 = .ok (.getfield 11, 3) := by decide +kernel
theorem dX7_placeOf_14 : decode cX7_placeOf 14 = .ok (.iload_n 2, 1) := by decide +kernel
theorem dX7_placeOf_15 : decode cX7_placeOf 15 = .ok (.aaload, 1) := by decide +kernel
theorem dX7_placeOf_16 : decode cX7_placeOf 16 = .ok (.getfield 21, 3) := by decide +kernel
theorem dX7_placeOf_19 : decode cX7_placeOf 19 = .ok (.aload_n 1, 1) := by decide +kernel
theorem dX7_placeOf_20 : decode cX7_placeOf 20 = .ok (.invokevirtual 31, 3) := by decide +kernel
theorem dX7_placeOf_23 : decode cX7_placeOf 23 = .ok (.ifCond .eq 5, 3) := by decide +kernel
theorem dX7_placeOf_26 : decode cX7_placeOf 26 = .ok (.iload_n 2, 1) := by decide +kernel
theorem dX7_placeOf_27 : decode cX7_placeOf 27 = .ok (.ireturn, 1) := by decide +kernel
theorem dX7_placeOf_28 : decode cX7_placeOf 28 = .ok (.iinc 2 1, 3) := by decide +kernel
theorem dX7_placeOf_31 : decode cX7_placeOf 31 = .ok (.goto (-29), 3) := by decide +kernel
theorem dX7_placeOf_34 : decode cX7_placeOf 34 = .ok (.iconst (-1), 1) := by decide +kernel
theorem dX7_placeOf_35 : decode cX7_placeOf 35 = .ok (.ireturn, 1) := by decide +kernel
theorem dX7_entryOfPath_0 : decode cX7_entryOfPath 0 = .ok (.aload_n 0, 1) := by decide +kernel
theorem dX7_entryOfPath_1 : decode cX7_entryOfPath 1 = .ok (.aload_n 0, 1) := by decide +kernel
theorem dX7_entryOfPath_2 : decode cX7_entryOfPath 2 = .ok (.aload_n 1, 1) := by decide +kernel
theorem dX7_entryOfPath_3 : decode cX7_entryOfPath 3 = .ok (.invokevirtual 35, 3) := by decide +kernel
theorem dX7_entryOfPath_6 : decode cX7_entryOfPath 6 = .ok (.invokevirtual 38, 3) := by decide +kernel
theorem dX7_entryOfPath_9 : decode cX7_entryOfPath 9 = .ok (.areturn, 1) := by decide +kernel
theorem dX7_countAlike_0 : decode cX7_countAlike 0 = .ok (.iconst 0, 1) := by decide +kernel
theorem dX7_countAlike_1 : decode cX7_countAlike 1 = .ok (.istore_n 2, 1) := by decide +kernel
theorem dX7_countAlike_2 : decode cX7_countAlike 2 = .ok (.iconst 0, 1) := by decide +kernel
theorem dX7_countAlike_3 : decode cX7_countAlike 3 = .ok (.istore_n 3, 1) := by decide +kernel
theorem dX7_countAlike_4 : decode cX7_countAlike 4 = .ok (.iload_n 3, 1) := by decide +kernel
theorem dX7_countAlike_5 : decode cX7_countAlike 5 = .ok (.aload_n 0, 1) := by decide +kernel
theorem dX7_countAlike_6 : decode cX7_countAlike 6 = .ok (.getfield 17, 3) := by decide +kernel
theorem dX7_countAlike_9 : decode cX7_countAlike 9 = .ok (.if_icmp .ge 52, 3) := by decide +kernel
theorem dX7_countAlike_12 : decode cX7_countAlike 12 = .ok (.aload_n 1, 1) := by decide +kernel
theorem dX7_countAlike_13 : decode cX7_countAlike 13 = .ok (.aload_n 0, 1) := by decide +kernel
theorem dX7_countAlike_14 : decode cX7_countAlike 14 = .ok (.getfield 11, 3) := by decide +kernel
theorem dX7_countAlike_17 : decode cX7_countAlike 17 = .ok (.iload_n 3, 1) := by decide +kernel
theorem dX7_countAlike_18 : decode cX7_countAlike 18 = .ok (.aaload, 1) := by decide +kernel
theorem dX7_countAlike_19 : decode cX7_countAlike 19 = .ok (.getfield 21, 3) := by decide +kernel
theorem dX7_countAlike_22 : decode cX7_countAlike 22 = .ok (.invokevirtual 42, 3) := by decide +kernel
theorem dX7_countAlike_25 : decode cX7_countAlike 25 = .ok (.astore 4, 2) := by decide +kernel
theorem dX7_countAlike_27 : decode cX7_countAlike 27 = .ok (.aload 4, 2) := by decide +kernel
theorem dX7_countAlike_29 : decode cX7_countAlike 29 = .ok (.ifnull 26, 3) := by decide +kernel
theorem dX7_countAlike_32 : decode cX7_countAlike 32 = .ok (.aload 4, 2) := by decide +kernel
theorem dX7_countAlike_34 : decode cX7_countAlike 34 = .ok (.getfield 46, 3) := by decide +kernel
theorem dX7_countAlike_37 : decode cX7_countAlike 37 = .ok (.aload_n 0, 1) := by decide +kernel
theorem dX7_countAlike_38 : decode cX7_countAlike 38 = .ok (.getfield 11, 3) := by decide +kernel
theorem dX7_countAlike_41 : decode cX7_countAlike 41 = .ok (.iload_n 3, 1) := by decide +kernel
theorem dX7_countAlike_42 : decode cX7_countAlike 42 = .ok (.aaload, 1) := by decide +kernel
theorem dX7_countAlike_43 : decode cX7_countAlike 43 = .ok (.getfield 46, 3) := by decide +kernel
theorem dX7_countAlike_46 : decode cX7_countAlike 46 = .ok (.invokevirtual 31, 3) := by decide +kernel
theorem dX7_countAlike_49 : decode cX7_countAlike 49 = .ok (.ifCond .eq 6, 3) := by decide +kernel
theorem dX7_countAlike_52 : decode cX7_countAlike 52 = .ok (.iinc 2 1, 3) := by decide +kernel
theorem dX7_countAlike_55 : decode cX7_countAlike 55 = .ok (.iinc 3 1, 3) := by decide +kernel
theorem dX7_countAlike_58 : decode cX7_countAlike 58 = .ok (.goto (-54), 3) := by decide +kernel
theorem dX7_countAlike_61 : decode cX7_countAlike 61 = .ok (.iload_n 2, 1) := by decide +kernel
theorem dX7_countAlike_62 : decode cX7_countAlike 62 = .ok (.ireturn, 1) := by decide +kernel
theorem dX7_byteCount_0 : decode cX7_byteCount 0 = .ok (.iconst 0, 1) := by decide +kernel
theorem dX7_byteCount_1 : decode cX7_byteCount 1 = .ok (.istore_n 1, 1) := by decide +kernel
theorem dX7_byteCount_2 : decode cX7_byteCount 2 = .ok (.iconst 0, 1) := by decide +kernel
theorem dX7_byteCount_3 : decode cX7_byteCount 3 = .ok (.istore_n 2, 1) := by decide +kernel
theorem dX7_byteCount_4 : decode cX7_byteCount 4 = .ok (.iload_n 2, 1) := by decide +kernel
theorem dX7_byteCount_5 : decode cX7_byteCount 5 = .ok (.aload_n 0, 1) := by decide +kernel
theorem dX7_byteCount_6 : decode cX7_byteCount 6 = .ok (.getfield 17, 3) := by decide +kernel
theorem dX7_byteCount_9 : decode cX7_byteCount 9 = .ok (.if_icmp .ge 24, 3) := by decide +kernel
theorem dX7_byteCount_12 : decode cX7_byteCount 12 = .ok (.iload_n 1, 1) := by decide +kernel
theorem dX7_byteCount_13 : decode cX7_byteCount 13 = .ok (.aload_n 0, 1) := by decide +kernel
theorem dX7_byteCount_14 : decode cX7_byteCount 14 = .ok (.getfield 11, 3) := by decide +kernel
theorem dX7_byteCount_17 : decode cX7_byteCount 17 = .ok (.iload_n 2, 1) := by decide +kernel
theorem dX7_byteCount_18 : decode cX7_byteCount 18 = .ok (.aaload, 1) := by decide +kernel
theorem dX7_byteCount_19 : decode cX7_byteCount 19 = .ok (.getfield 46, 3) := by decide +kernel
theorem dX7_byteCount_22 : decode cX7_byteCount 22 = .ok (.invokevirtual 49, 3) := by decide +kernel
theorem dX7_byteCount_25 : decode cX7_byteCount 25 = .ok (.iadd, 1) := by decide +kernel
theorem dX7_byteCount_26 : decode cX7_byteCount 26 = .ok (.istore_n 1, 1) := by decide +kernel
theorem dX7_byteCount_27 : decode cX7_byteCount 27 = .ok (.iinc 2 1, 3) := by decide +kernel
theorem dX7_byteCount_30 : decode cX7_byteCount 30 = .ok (.goto (-26), 3) := by decide +kernel
theorem dX7_byteCount_33 : decode cX7_byteCount 33 = .ok (.iload_n 1, 1) := by decide +kernel
theorem dX7_byteCount_34 : decode cX7_byteCount 34 = .ok (.ireturn, 1) := by decide +kernel
theorem dX7_byteInAll_0 : decode cX7_byteInAll 0 = .ok (.iload_n 1, 1) := by decide +kernel
theorem dX7_byteInAll_1 : decode cX7_byteInAll 1 = .ok (.istore_n 2, 1) := by decide +kernel
theorem dX7_byteInAll_2 : decode cX7_byteInAll 2 = .ok (.iconst 0, 1) := by decide +kernel
theorem dX7_byteInAll_3 : decode cX7_byteInAll 3 = .ok (.istore_n 3, 1) := by decide +kernel
theorem dX7_byteInAll_4 : decode cX7_byteInAll 4 = .ok (.iload_n 3, 1) := by decide +kernel
theorem dX7_byteInAll_5 : decode cX7_byteInAll 5 = .ok (.aload_n 0, 1) := by decide +kernel
theorem dX7_byteInAll_6 : decode cX7_byteInAll 6 = .ok (.getfield 17, 3) := by decide +kernel
theorem dX7_byteInAll_9 : decode cX7_byteInAll 9 = .ok (.if_icmp .ge 44, 3) := by decide +kernel
theorem dX7_byteInAll_12 : decode cX7_byteInAll 12 = .ok (.aload_n 0, 1) := by decide +kernel
theorem dX7_byteInAll_13 : decode cX7_byteInAll 13 = .ok (.getfield 11, 3) := by decide +kernel
theorem dX7_byteInAll_16 : decode cX7_byteInAll 16 = .ok (.iload_n 3, 1) := by decide +kernel
theorem dX7_byteInAll_17 : decode cX7_byteInAll 17 = .ok (.aaload, 1) := by decide +kernel
theorem dX7_byteInAll_18 : decode cX7_byteInAll 18 = .ok (.getfield 46, 3) := by decide +kernel
theorem dX7_byteInAll_21 : decode cX7_byteInAll 21 = .ok (.astore 4, 2) := by decide +kernel
theorem dX7_byteInAll_23 : decode cX7_byteInAll 23 = .ok (.iload_n 2, 1) := by decide +kernel
theorem dX7_byteInAll_24 : decode cX7_byteInAll 24 = .ok (.aload 4, 2) := by decide +kernel
theorem dX7_byteInAll_26 : decode cX7_byteInAll 26 = .ok (.invokevirtual 49, 3) := by decide +kernel
theorem dX7_byteInAll_29 : decode cX7_byteInAll 29 = .ok (.if_icmp .ge 10, 3) := by decide +kernel
theorem dX7_byteInAll_32 : decode cX7_byteInAll 32 = .ok (.aload 4, 2) := by decide +kernel
theorem dX7_byteInAll_34 : decode cX7_byteInAll 34 = .ok (.iload_n 2, 1) := by decide +kernel
theorem dX7_byteInAll_35 : decode cX7_byteInAll 35 = .ok (.invokevirtual 53, 3) := by decide +kernel
theorem dX7_byteInAll_38 : decode cX7_byteInAll 38 = .ok (.ireturn, 1) := by decide +kernel
theorem dX7_byteInAll_39 : decode cX7_byteInAll 39 = .ok (.iload_n 2, 1) := by decide +kernel
theorem dX7_byteInAll_40 : decode cX7_byteInAll 40 = .ok (.aload 4, 2) := by decide +kernel
theorem dX7_byteInAll_42 : decode cX7_byteInAll 42 = .ok (.invokevirtual 49, 3) := by decide +kernel
theorem dX7_byteInAll_45 : decode cX7_byteInAll 45 = .ok (.isub, 1) := by decide +kernel
theorem dX7_byteInAll_46 : decode cX7_byteInAll 46 = .ok (.istore_n 2, 1) := by decide +kernel
theorem dX7_byteInAll_47 : decode cX7_byteInAll 47 = .ok (.iinc 3 1, 3) := by decide +kernel
theorem dX7_byteInAll_50 : decode cX7_byteInAll 50 = .ok (.goto (-46), 3) := by decide +kernel
theorem dX7_byteInAll_53 : decode cX7_byteInAll 53 = .ok (.iconst (-1), 1) := by decide +kernel
theorem dX7_byteInAll_54 : decode cX7_byteInAll 54 = .ok (.ireturn, 1) := by decide +kernel
theorem dX8_init_0 : decode cX8_init 0 = .ok (.aload_n 0, 1) := by decide +kernel
theorem dX8_init_1 : decode cX8_init 1 = .ok (.invokespecial 1, 3) := by decide +kernel
theorem dX8_init_4 : decode cX8_init 4 = .ok (.aload_n 0, 1) := by decide +kernel
theorem dX8_init_5 : decode cX8_init 5 = .ok (.new 7, 3) := by decide +kernel
theorem dX8_init_8 : decode cX8_init 8 = .ok (.dup, 1) := by decide +kernel
theorem dX8_init_9 : decode cX8_init 9 = .ok (.bipush 30, 2) := by decide +kernel
theorem dX8_init_11 : decode cX8_init 11 = .ok (.invokespecial 11, 3) := by decide +kernel
theorem dX8_init_14 : decode cX8_init 14 = .ok (.putfield 14, 3) := by decide +kernel
theorem dX8_init_17 : decode cX8_init 17 = .ok (.aload_n 0, 1) := by decide +kernel
theorem dX8_init_18 : decode cX8_init 18 = .ok (.new 7, 3) := by decide +kernel
theorem dX8_init_21 : decode cX8_init 21 = .ok (.dup, 1) := by decide +kernel
theorem dX8_init_22 : decode cX8_init 22 = .ok (.bipush 40, 2) := by decide +kernel
theorem dX8_init_24 : decode cX8_init 24 = .ok (.invokespecial 11, 3) := by decide +kernel
theorem dX8_init_27 : decode cX8_init 27 = .ok (.putfield 18, 3) := by decide +kernel
theorem dX8_init_30 : decode cX8_init 30 = .ok (.aload_n 0, 1) := by decide +kernel
theorem dX8_init_31 : decode cX8_init 31 = .ok (.new 21, 3) := by decide +kernel
theorem dX8_init_34 : decode cX8_init 34 = .ok (.dup, 1) := by decide +kernel
theorem dX8_init_35 : decode cX8_init 35 = .ok (.invokespecial 23, 3) := by decide +kernel
theorem dX8_init_38 : decode cX8_init 38 = .ok (.putfield 24, 3) := by decide +kernel
theorem dX8_init_41 : decode cX8_init 41 = .ok (.aload_n 0, 1) := by decide +kernel
theorem dX8_init_42 : decode cX8_init 42 = .ok (.new 28, 3) := by decide +kernel
theorem dX8_init_45 : decode cX8_init 45 = .ok (.dup, 1) := by decide +kernel
theorem dX8_init_46 : decode cX8_init 46 = .ok (.invokespecial 30, 3) := by decide +kernel
theorem dX8_init_49 : decode cX8_init 49 = .ok (.putfield 31, 3) := by decide +kernel
theorem dX8_init_52 : decode cX8_init 52 = .ok (.aload_n 0, 1) := by decide +kernel
theorem dX8_init_53 : decode cX8_init 53 = .ok (.bipush 12, 2) := by decide +kernel
theorem dX8_init_55 : decode cX8_init 55 = .ok (.anewarray 35, 3) := by decide +kernel
theorem dX8_init_58 : decode cX8_init 58 = .ok (.putfield 37, 3) := by decide +kernel
theorem dX8_init_61 : decode cX8_init 61 = .ok (.aload_n 0, 1) := by decide +kernel
theorem dX8_init_62 : decode cX8_init 62 = .ok (.iconst 0, 1) := by decide +kernel
theorem dX8_init_63 : decode cX8_init 63 = .ok (.putfield 41, 3) := by decide +kernel
theorem dX8_init_66 : decode cX8_init 66 = .ok (.aload_n 0, 1) := by decide +kernel
theorem dX8_init_67 : decode cX8_init 67 = .ok (.new 45, 3) := by decide +kernel
theorem dX8_init_70 : decode cX8_init 70 = .ok (.dup, 1) := by decide +kernel
theorem dX8_init_71 : decode cX8_init 71 = .ok (.invokespecial 47, 3) := by decide +kernel
theorem dX8_init_74 : decode cX8_init 74 = .ok (.putfield 48, 3) := by decide +kernel
theorem dX8_init_77 : decode cX8_init 77 = .ok (.return_, 1) := by decide +kernel
theorem dX8_path_0 : decode cX8_path 0 = .ok (.aload_n 0, 1) := by decide +kernel
theorem dX8_path_1 : decode cX8_path 1 = .ok (.getfield 14, 3) := by decide +kernel
theorem dX8_path_4 : decode cX8_path 4 = .ok (.iload_n 1, 1) := by decide +kernel
theorem dX8_path_5 : decode cX8_path 5 = .ok (.sipush 255, 3) := by decide +kernel
theorem dX8_path_8 : decode cX8_path 8 = .ok (.iand, 1) := by decide +kernel
theorem dX8_path_9 : decode cX8_path 9 = .ok (.invokevirtual 52, 3) := by decide +kernel
theorem dX8_path_12 : decode cX8_path 12 = .ok (.return_, 1) := by decide +kernel
theorem dX8_octet_0 : decode cX8_octet 0 = .ok (.aload_n 0, 1) := by decide +kernel
theorem dX8_octet_1 : decode cX8_octet 1 = .ok (.getfield 18, 3) := by decide +kernel
theorem dX8_octet_4 : decode cX8_octet 4 = .ok (.iload_n 1, 1) := by decide +kernel
theorem dX8_octet_5 : decode cX8_octet 5 = .ok (.sipush 255, 3) := by decide +kernel
theorem dX8_octet_8 : decode cX8_octet 8 = .ok (.iand, 1) := by decide +kernel
theorem dX8_octet_9 : decode cX8_octet 9 = .ok (.invokevirtual 52, 3) := by decide +kernel
theorem dX8_octet_12 : decode cX8_octet 12 = .ok (.return_, 1) := by decide +kernel
theorem dX8_file_0 : decode cX8_file 0 = .ok (.aload_n 0, 1) := by decide +kernel
theorem dX8_file_1 : decode cX8_file 1 = .ok (.getfield 24, 3) := by decide +kernel
theorem dX8_file_4 : decode cX8_file 4 = .ok (.aload_n 0, 1) := by decide +kernel
theorem dX8_file_5 : decode cX8_file 5 = .ok (.getfield 14, 3) := by decide +kernel
theorem dX8_file_8 : decode cX8_file 8 = .ok (.aload_n 0, 1) := by decide +kernel
theorem dX8_file_9 : decode cX8_file 9 = .ok (.getfield 18, 3) := by decide +kernel
theorem dX8_file_12 : decode cX8_file 12 = .ok (.invokevirtual 55, 3) := by decide +kernel
theorem dX8_file_15 : decode cX8_file 15 = .ok (.istore_n 1, 1) := by decide +kernel
theorem dX8_file_16 : decode cX8_file 16 = .ok (.aload_n 0, 1) := by decide +kernel
theorem dX8_file_17 : decode cX8_file 17 = .ok (.getfield 14, 3) := by decide +kernel
theorem dX8_file_20 : decode cX8_file 20 = .ok (.invokevirtual 59, 3) := by decide +kernel
theorem dX8_file_23 : decode cX8_file 23 = .ok (.aload_n 0, 1) := by decide +kernel
theorem dX8_file_24 : decode cX8_file 24 = .ok (.getfield 18, 3) := by decide +kernel
theorem dX8_file_27 : decode cX8_file 27 = .ok (.invokevirtual 59, 3) := by decide +kernel
theorem dX8_file_30 : decode cX8_file 30 = .ok (.iload_n 1, 1) := by decide +kernel
theorem dX8_file_31 : decode cX8_file 31 = .ok (.ireturn, 1) := by decide +kernel
theorem dX8_line_0 : decode cX8_line 0 = .ok (.aload_n 0, 1) := by decide +kernel
theorem dX8_line_1 : decode cX8_line 1 = .ok (.getfield 24, 3) := by decide +kernel
theorem dX8_line_4 : decode cX8_line 4 = .ok (.aload_n 0, 1) := by decide +kernel
theorem dX8_line_5 : decode cX8_line 5 = .ok (.getfield 14, 3) := by decide +kernel
theorem dX8_line_8 : decode cX8_line 8 = .ok (.iload_n 1, 1) := by decide +kernel
theorem dX8_line_9 : decode cX8_line 9 = .ok (.iload_n 2, 1) := by decide +kernel
theorem dX8_line_10 : decode cX8_line 10 = .ok (.invokevirtual 62, 3) := by decide +kernel
theorem dX8_line_13 : decode cX8_line 13 = .ok (.istore_n 3, 1) := by decide +kernel
theorem dX8_line_14 : decode cX8_line 14 = .ok (.aload_n 0, 1) := by decide +kernel
theorem dX8_line_15 : decode cX8_line 15 = .ok (.getfield 14, 3) := by decide +kernel
theorem dX8_line_18 : decode cX8_line 18 = .ok (.invokevirtual 59, 3) := by decide +kernel
theorem dX8_line_21 : decode cX8_line 21 = .ok (.iload_n 3, 1) := by decide +kernel
theorem dX8_line_22 : decode cX8_line 22 = .ok (.ireturn, 1) := by decide +kernel
theorem dX8_sum_0 : decode cX8_sum 0 = .ok (.aload_n 0, 1) := by decide +kernel
theorem dX8_sum_1 : decode cX8_sum 1 = .ok (.getfield 18, 3) := by decide +kernel
theorem dX8_sum_4 : decode cX8_sum 4 = .ok (.invokevirtual 66, 3) := by decide +kernel
theorem dX8_sum_7 : decode cX8_sum 7 = .ok (.ireturn, 1) := by decide +kernel
theorem dX8_check_0 : decode cX8_check 0 = .ok (.aload_n 0, 1) := by decide +kernel
theorem dX8_check_1 : decode cX8_check 1 = .ok (.getfield 24, 3) := by decide +kernel
theorem dX8_check_4 : decode cX8_check 4 = .ok (.aload_n 0, 1) := by decide +kernel
theorem dX8_check_5 : decode cX8_check 5 = .ok (.getfield 31, 3) := by decide +kernel
theorem dX8_check_8 : decode cX8_check 8 = .ok (.invokevirtual 70, 3) := by decide +kernel
theorem dX8_check_11 : decode cX8_check 11 = .ok (.aload_n 0, 1) := by decide +kernel
theorem dX8_check_12 : decode cX8_check 12 = .ok (.getfield 31, 3) := by decide +kernel
theorem dX8_check_15 : decode cX8_check 15 = .ok (.invokevirtual 74, 3) := by decide +kernel
theorem dX8_check_18 : decode cX8_check 18 = .ok (.ireturn, 1) := by decide +kernel
theorem dX8_fault_0 : decode cX8_fault 0 = .ok (.iload_n 2, 1) := by decide +kernel
theorem dX8_fault_1 : decode cX8_fault 1 = .ok (.ifCond .eq 10, 3) := by decide +kernel
theorem dX8_fault_4 : decode cX8_fault 4 = .ok (.iload_n 2, 1) := by decide +kernel
theorem dX8_fault_5 : decode cX8_fault 5 = .ok (.iconst 1, 1) := by decide +kernel
theorem dX8_fault_6 : decode cX8_fault 6 = .ok (.if_icmp .eq 5, 3) := by decide +kernel
theorem dX8_fault_9 : decode cX8_fault 9 = .ok (.iconst (-1), 1) := by decide +kernel
theorem dX8_fault_10 : decode cX8_fault 10 = .ok (.ireturn, 1) := by decide +kernel
theorem dX8_fault_11 : decode cX8_fault 11 = .ok (.aload_n 0, 1) := by decide +kernel
theorem dX8_fault_12 : decode cX8_fault 12 = .ok (.getfield 31, 3) := by decide +kernel
theorem dX8_fault_15 : decode cX8_fault 15 = .ok (.iload_n 1, 1) := by decide +kernel
theorem dX8_fault_16 : decode cX8_fault 16 = .ok (.invokevirtual 77, 3) := by decide +kernel
theorem dX8_fault_19 : decode cX8_fault 19 = .ok (.ifCond .ne 11, 3) := by decide +kernel
theorem dX8_fault_22 : decode cX8_fault 22 = .ok (.new 81, 3) := by decide +kernel
theorem dX8_fault_25 : decode cX8_fault 25 = .ok (.dup, 1) := by decide +kernel
theorem dX8_fault_26 : decode cX8_fault 26 = .ok (.invokespecial 83, 3) := by decide +kernel
theorem dX8_fault_29 : decode cX8_fault 29 = .ok (.athrow, 1) := by decide +kernel
theorem dX8_fault_30 : decode cX8_fault 30 = .ok (.iload_n 2, 1) := by decide +kernel
theorem dX8_fault_31 : decode cX8_fault 31 = .ok (.ifCond .ne 14, 3) := by decide +kernel
theorem dX8_fault_34 : decode cX8_fault 34 = .ok (.aload_n 0, 1) := by decide +kernel
theorem dX8_fault_35 : decode cX8_fault 35 = .ok (.getfield 31, 3) := by decide +kernel
theorem dX8_fault_38 : decode cX8_fault 38 = .ok (.iload_n 1, 1) := by decide +kernel
theorem dX8_fault_39 : decode cX8_fault 39 = .ok (.invokevirtual 84, 3) := by decide +kernel
theorem dX8_fault_42 : decode cX8_fault 42 = .ok (.goto 11, 3) := by decide +kernel
theorem dX8_fault_45 : decode cX8_fault 45 = .ok (.aload_n 0, 1) := by decide +kernel
theorem dX8_fault_46 : decode cX8_fault 46 = .ok (.getfield 31, 3) := by decide +kernel
theorem dX8_fault_49 : decode cX8_fault 49 = .ok (.iload_n 1, 1) := by decide +kernel
theorem dX8_fault_50 : decode cX8_fault 50 = .ok (.invokevirtual 88, 3) := by decide +kernel
theorem dX8_fault_53 : decode cX8_fault 53 = .ok (.ireturn, 1) := by decide +kernel
theorem dX8_accept_0 : decode cX8_accept 0 = .ok (.aload_n 0, 1) := by decide +kernel
theorem dX8_accept_1 : decode cX8_accept 1 = .ok (.getfield 24, 3) := by decide +kernel
theorem dX8_accept_4 : decode cX8_accept 4 = .ok (.aload_n 0, 1) := by decide +kernel
theorem dX8_accept_5 : decode cX8_accept 5 = .ok (.getfield 31, 3) := by decide +kernel
theorem dX8_accept_8 : decode cX8_accept 8 = .ok (.invokevirtual 70, 3) := by decide +kernel
theorem dX8_accept_11 : decode cX8_accept 11 = .ok (.aload_n 0, 1) := by decide +kernel
theorem dX8_accept_12 : decode cX8_accept 12 = .ok (.getfield 31, 3) := by decide +kernel
theorem dX8_accept_15 : decode cX8_accept 15 = .ok (.invokevirtual 74, 3) := by decide +kernel
theorem dX8_accept_18 : decode cX8_accept 18 = .ok (.ifCond .le 14, 3) := by decide +kernel
theorem dX8_accept_21 : decode cX8_accept 21 = .ok (.bipush (-10), 2) := by decide +kernel
theorem dX8_accept_23 : decode cX8_accept 23 = .ok (.aload_n 0, 1) := by decide +kernel
theorem dX8_accept_24 : decode cX8_accept 24 = .ok (.getfield 31, 3) := by decide +kernel
theorem dX8_accept_27 : decode cX8_accept 27 = .ok (.invokevirtual 74, 3) := by decide +kernel
theorem dX8_accept_30 : decode cX8_accept 30 = .ok (.isub, 1) := by decide +kernel
theorem dX8_accept_31 : decode cX8_accept 31 = .ok (.ireturn, 1) := by decide +kernel
theorem dX8_accept_32 : decode cX8_accept 32 = .ok (.aload_n 0, 1) := by decide +kernel
theorem dX8_accept_33 : decode cX8_accept 33 = .ok (.getfield 41, 3) := by decide +kernel
theorem dX8_accept_36 : decode cX8_accept 36 = .ok (.aload_n 0, 1) := by decide +kernel
theorem dX8_accept_37 : decode cX8_accept 37 = .ok (.getfield 37, 3) := by decide +kernel
theorem dX8_accept_40 : decode cX8_accept 40 = .ok (.arraylength, 1) := by decide +kernel
theorem dX8_accept_41 : decode cX8_accept 41 = .ok (.if_icmp .lt 6, 3) := by decide +kernel
theorem dX8_accept_44 : decode cX8_accept 44 = .ok (.bipush (-3), 2) := by decide +kernel
theorem dX8_accept_46 : decode cX8_accept 46 = .ok (.ireturn, 1) := by decide +kernel
theorem dX8_accept_47 : decode cX8_accept 47 = .ok (.aload_n 0, 1) := by decide +kernel
theorem dX8_accept_48 : decode cX8_accept 48 = .ok (.getfield 24, 3) := by decide +kernel
theorem dX8_accept_51 : decode cX8_accept 51 = .ok (.invokevirtual 91, 3) := by decide +kernel
theorem dX8_accept_54 : decode cX8_accept 54 = .ok (.bipush 8, 2) := by decide +kernel
theorem dX8_accept_56 : decode cX8_accept 56 = .ok (.if_icmp .le 6, 3) := by decide +kernel
theorem dX8_accept_59 : decode cX8_accept 59 = .ok (.bipush (-4), 2) := by decide +kernel
theorem dX8_accept_61 : decode cX8_accept 61 = .ok (.ireturn, 1) := by decide +kernel
theorem dX8_accept_62 : decode cX8_accept 62 = .ok (.aload_n 0, 1) := by decide +kernel
theorem dX8_accept_63 : decode cX8_accept 63 = .ok (.getfield 41, 3) := by decide +kernel
theorem dX8_accept_66 : decode cX8_accept 66 = .ok (.istore_n 1, 1) := by decide +kernel
theorem dX8_accept_67 : decode cX8_accept 67 = .ok (.aload_n 0, 1) := by decide +kernel
theorem dX8_accept_68 : decode cX8_accept 68 = .ok (.getfield 37, 3) := by decide +kernel
theorem dX8_accept_71 : decode cX8_accept 71 = .ok (.iload_n 1, 1) := by decide +kernel
theorem dX8_accept_72 : decode cX8_accept 72 = .ok (.aload_n 0, 1) := by decide +kernel
theorem dX8_accept_73 : decode cX8_accept 73 = .ok (.getfield 24, 3) := by decide +kernel
theorem dX8_accept_76 : decode cX8_accept 76 = .ok (.iload_n 1, 1) := by decide +kernel
theorem dX8_accept_77 : decode cX8_accept 77 = .ok (.aload_n 0, 1) := by decide +kernel
theorem dX8_accept_78 : decode cX8_accept 78 = .ok (.iload_n 1, 1) := by decide +kernel
theorem dX8_accept_79 : decode cX8_accept 79 = .ok (.iconst 1, 1) := by decide +kernel
theorem dX8_accept_80 : decode cX8_accept 80 = .ok (.isub, 1) := by decide +kernel
theorem dX8_accept_81 : decode cX8_accept 81 = .ok (.invokevirtual 94, 3) := by decide +kernel
theorem dX8_accept_84 : decode cX8_accept 84 = .ok (.invokevirtual 98, 3) := by decide +kernel
theorem dX8_accept_87 : decode cX8_accept 87 = .ok (.aastore, 1) := by decide +kernel
theorem dX8_accept_88 : decode cX8_accept 88 = .ok (.aload_n 0, 1) := by decide +kernel
theorem dX8_accept_89 : decode cX8_accept 89 = .ok (.dup, 1) := by decide +kernel
theorem dX8_accept_90 : decode cX8_accept 90 = .ok (.getfield 41, 3) := by decide +kernel
theorem dX8_accept_93 : decode cX8_accept 93 = .ok (.iconst 1, 1) := by decide +kernel
theorem dX8_accept_94 : decode cX8_accept 94 = .ok (.iadd, 1) := by decide +kernel
theorem dX8_accept_95 : decode cX8_accept 95 = .ok (.putfield 41, 3) := by decide +kernel
theorem dX8_accept_98 : decode cX8_accept 98 = .ok (.aload_n 0, 1) := by decide +kernel
theorem dX8_accept_99 : decode cX8_accept 99 = .ok (.getfield 24, 3) := by decide +kernel
theorem dX8_accept_102 : decode cX8_accept 102 = .ok (.invokevirtual 102, 3) := by decide +kernel
theorem dX8_accept_105 : decode cX8_accept 105 = .ok (.iload_n 1, 1) := by decide +kernel
theorem dX8_accept_106 : decode cX8_accept 106 = .ok (.ireturn, 1) := by decide +kernel
theorem dX8_drop_0 : decode cX8_drop 0 = .ok (.aload_n 0, 1) := by decide +kernel
theorem dX8_drop_1 : decode cX8_drop 1 = .ok (.getfield 24, 3) := by decide +kernel
theorem dX8_drop_4 : decode cX8_drop 4 = .ok (.invokevirtual 91, 3) := by decide +kernel
theorem dX8_drop_7 : decode cX8_drop 7 = .ok (.aload_n 0, 1) := by decide +kernel
theorem dX8_drop_8 : decode cX8_drop 8 = .ok (.getfield 24, 3) := by decide +kernel
theorem dX8_drop_11 : decode cX8_drop 11 = .ok (.invokevirtual 103, 3) := by decide +kernel
theorem dX8_drop_14 : decode cX8_drop 14 = .ok (.iadd, 1) := by decide +kernel
theorem dX8_drop_15 : decode cX8_drop 15 = .ok (.istore_n 1, 1) := by decide +kernel
theorem dX8_drop_16 : decode cX8_drop 16 = .ok (.aload_n 0, 1) := by decide +kernel
theorem dX8_drop_17 : decode cX8_drop 17 = .ok (.getfield 24, 3) := by decide +kernel
theorem dX8_drop_20 : decode cX8_drop 20 = .ok (.invokevirtual 102, 3) := by decide +kernel
theorem dX8_drop_23 : decode cX8_drop 23 = .ok (.iload_n 1, 1) := by decide +kernel
theorem dX8_drop_24 : decode cX8_drop 24 = .ok (.ireturn, 1) := by decide +kernel
theorem dX8_files_0 : decode cX8_files 0 = .ok (.aload_n 0, 1) := by decide +kernel
theorem dX8_files_1 : decode cX8_files 1 = .ok (.iload_n 1, 1) := by decide +kernel
theorem dX8_files_2 : decode cX8_files 2 = .ok (.invokevirtual 94, 3) := by decide +kernel
theorem dX8_files_5 : decode cX8_files 5 = .ok (.astore_n 2, 1) := by decide +kernel
theorem dX8_files_6 : decode cX8_files 6 = .ok (.aload_n 2, 1) := by decide +kernel
theorem dX8_files_7 : decode cX8_files 7 = .ok (.ifnonnull 7, 3) := by decide +kernel
theorem dX8_files_10 : decode cX8_files 10 = .ok (.iconst (-1), 1) := by decide +kernel
theorem dX8_files_11 : decode cX8_files 11 = .ok (.goto 7, 3) := by decide +kernel
theorem dX8_files_14 : decode cX8_files 14 = .ok (.aload_n 2, 1) := by decide +kernel
theorem dX8_files_15 : decode cX8_files 15 = .ok (.invokevirtual 106, 3) := by decide +kernel
theorem dX8_files_18 : decode cX8_files 18 = .ok (.ireturn, 1) := by decide +kernel
theorem dX8_about_0 : decode cX8_about 0 = .ok (.aload_n 0, 1) := by decide +kernel
theorem dX8_about_1 : decode cX8_about 1 = .ok (.iload_n 1, 1) := by decide +kernel
theorem dX8_about_2 : decode cX8_about 2 = .ok (.iload_n 2, 1) := by decide +kernel
theorem dX8_about_3 : decode cX8_about 3 = .ok (.invokevirtual 107, 3) := by decide +kernel
theorem dX8_about_6 : decode cX8_about 6 = .ok (.astore 4, 2) := by decide +kernel
theorem dX8_about_8 : decode cX8_about 8 = .ok (.aload 4, 2) := by decide +kernel
theorem dX8_about_10 : decode cX8_about 10 = .ok (.ifnonnull 5, 3) := by decide +kernel
theorem dX8_about_13 : decode cX8_about 13 = .ok (.iconst (-1), 1) := by decide +kernel
theorem dX8_about_14 : decode cX8_about 14 = .ok (.ireturn, 1) := by decide +kernel
theorem dX8_about_15 : decode cX8_about 15 = .ok (.iload_n 3, 1) := by decide +kernel
theorem dX8_about_16 : decode cX8_about 16 = .ok (.tableswitch 62 0 3 #[32, 41, 47, 56], 32) := by decide +kernel
theorem dX8_about_48 : decode cX8_about 48 = .ok (.aload 4, 2) := by decide +kernel
theorem dX8_about_50 : decode cX8_about 50 = .ok (.getfield 111, 3) := by decide +kernel
theorem dX8_about_53 : decode cX8_about 53 = .ok (.invokevirtual 116, 3) := by decide +kernel
theorem dX8_about_56 : decode cX8_about 56 = .ok (.ireturn, 1) := by decide +kernel
theorem dX8_about_57 : decode cX8_about 57 = .ok (.aload 4, 2) := by decide +kernel
theorem dX8_about_59 : decode cX8_about 59 = .ok (.getfield 117, 3) := by decide +kernel
theorem dX8_about_62 : decode cX8_about 62 = .ok (.ireturn, 1) := by decide +kernel
theorem dX8_about_63 : decode cX8_about 63 = .ok (.aload 4, 2) := by decide +kernel
theorem dX8_about_65 : decode cX8_about 65 = .ok (.getfield 120, 3) := by decide +kernel
theorem dX8_about_68 : decode cX8_about 68 = .ok (.invokevirtual 116, 3) := by decide +kernel
theorem dX8_about_71 : decode cX8_about 71 = .ok (.ireturn, 1) := by decide +kernel
theorem dX8_about_72 : decode cX8_about 72 = .ok (.aload 4, 2) := by decide +kernel
theorem dX8_about_74 : decode cX8_about 74 = .ok (.getfield 123, 3) := by decide +kernel
theorem dX8_about_77 : decode cX8_about 77 = .ok (.ireturn, 1) := by decide +kernel
theorem dX8_about_78 : decode cX8_about 78 = .ok (.iconst (-1), 1) := by decide +kernel
theorem dX8_about_79 : decode cX8_about 79 = .ok (.ireturn, 1) := by decide +kernel
theorem dX8_sign_0 : decode cX8_sign 0 = .ok (.aload_n 0, 1) := by decide +kernel
theorem dX8_sign_1 : decode cX8_sign 1 = .ok (.iload_n 1, 1) := by decide +kernel
theorem dX8_sign_2 : decode cX8_sign 2 = .ok (.iload_n 2, 1) := by decide +kernel
theorem dX8_sign_3 : decode cX8_sign 3 = .ok (.invokevirtual 107, 3) := by decide +kernel
theorem dX8_sign_6 : decode cX8_sign 6 = .ok (.astore 4, 2) := by decide +kernel
theorem dX8_sign_8 : decode cX8_sign 8 = .ok (.aload 4, 2) := by decide +kernel
theorem dX8_sign_10 : decode cX8_sign 10 = .ok (.ifnonnull 7, 3) := by decide +kernel
theorem dX8_sign_13 : decode cX8_sign 13 = .ok (.iconst (-1), 1) := by decide +kernel
theorem dX8_sign_14 : decode cX8_sign 14 = .ok (.goto 12, 3) := by decide +kernel
theorem dX8_sign_17 : decode cX8_sign 17 = .ok (.aload 4, 2) := by decide +kernel
theorem dX8_sign_19 : decode cX8_sign 19 = .ok (.getfield 120, 3) := by decide +kernel
theorem dX8_sign_22 : decode cX8_sign 22 = .ok (.iload_n 3, 1) := by decide +kernel
theorem dX8_sign_23 : decode cX8_sign 23 = .ok (.invokevirtual 126, 3) := by decide +kernel
theorem dX8_sign_26 : decode cX8_sign 26 = .ok (.ireturn, 1) := by decide +kernel
theorem dX8_at_0 : decode cX8_at 0 = .ok (.aload_n 0, 1) := by decide +kernel
theorem dX8_at_1 : decode cX8_at 1 = .ok (.iload_n 1, 1) := by decide +kernel
theorem dX8_at_2 : decode cX8_at 2 = .ok (.iload_n 2, 1) := by decide +kernel
theorem dX8_at_3 : decode cX8_at 3 = .ok (.invokevirtual 107, 3) := by decide +kernel
theorem dX8_at_6 : decode cX8_at 6 = .ok (.astore 4, 2) := by decide +kernel
theorem dX8_at_8 : decode cX8_at 8 = .ok (.aload 4, 2) := by decide +kernel
theorem dX8_at_10 : decode cX8_at 10 = .ok (.ifnonnull 5, 3) := by decide +kernel
theorem dX8_at_13 : decode cX8_at 13 = .ok (.iconst (-1), 1) := by decide +kernel
theorem dX8_at_14 : decode cX8_at 14 = .ok (.ireturn, 1) := by decide +kernel
theorem dX8_at_15 : decode cX8_at 15 = .ok (.aload 4, 2) := by decide +kernel
theorem dX8_at_17 : decode cX8_at 17 = .ok (.getfield 111, 3) := by decide +kernel
theorem dX8_at_20 : decode cX8_at 20 = .ok (.iload_n 3, 1) := by decide +kernel
theorem dX8_at_21 : decode cX8_at 21 = .ok (.invokevirtual 129, 3) := by decide +kernel
theorem dX8_at_24 : decode cX8_at 24 = .ok (.ifCond .ne 11, 3) := by decide +kernel
theorem dX8_at_27 : decode cX8_at 27 = .ok (.new 130, 3) := by decide +kernel
theorem dX8_at_30 : decode cX8_at 30 = .ok (.dup, 1) := by decide +kernel
theorem dX8_at_31 : decode cX8_at 31 = .ok (.invokespecial 132, 3) := by decide +kernel
theorem dX8_at_34 : decode cX8_at 34 = .ok (.athrow, 1) := by decide +kernel
theorem dX8_at_35 : decode cX8_at 35 = .ok (.aload 4, 2) := by decide +kernel
theorem dX8_at_37 : decode cX8_at 37 = .ok (.getfield 111, 3) := by decide +kernel
theorem dX8_at_40 : decode cX8_at 40 = .ok (.iload_n 3, 1) := by decide +kernel
theorem dX8_at_41 : decode cX8_at 41 = .ok (.invokevirtual 126, 3) := by decide +kernel
theorem dX8_at_44 : decode cX8_at 44 = .ok (.ireturn, 1) := by decide +kernel
theorem dX8_find_0 : decode cX8_find 0 = .ok (.aload_n 0, 1) := by decide +kernel
theorem dX8_find_1 : decode cX8_find 1 = .ok (.iload_n 1, 1) := by decide +kernel
theorem dX8_find_2 : decode cX8_find 2 = .ok (.invokevirtual 94, 3) := by decide +kernel
theorem dX8_find_5 : decode cX8_find 5 = .ok (.astore_n 2, 1) := by decide +kernel
theorem dX8_find_6 : decode cX8_find 6 = .ok (.aload_n 2, 1) := by decide +kernel
theorem dX8_find_7 : decode cX8_find 7 = .ok (.ifnonnull 7, 3) := by decide +kernel
theorem dX8_find_10 : decode cX8_find 10 = .ok (.iconst (-1), 1) := by decide +kernel
theorem dX8_find_11 : decode cX8_find 11 = .ok (.goto 11, 3) := by decide +kernel
theorem dX8_find_14 : decode cX8_find 14 = .ok (.aload_n 2, 1) := by decide +kernel
theorem dX8_find_15 : decode cX8_find 15 = .ok (.aload_n 0, 1) := by decide +kernel
theorem dX8_find_16 : decode cX8_find 16 = .ok (.getfield 14, 3) := by decide +kernel
theorem dX8_find_19 : decode cX8_find 19 = .ok (.invokevirtual 133, 3) := by decide +kernel
theorem dX8_find_22 : decode cX8_find 22 = .ok (.ireturn, 1) := by decide +kernel
theorem dX8_same_0 : decode cX8_same 0 = .ok (.aload_n 0, 1) := by decide +kernel
theorem dX8_same_1 : decode cX8_same 1 = .ok (.iload_n 1, 1) := by decide +kernel
theorem dX8_same_2 : decode cX8_same 2 = .ok (.invokevirtual 94, 3) := by decide +kernel
theorem dX8_same_5 : decode cX8_same 5 = .ok (.astore_n 3, 1) := by decide +kernel
theorem dX8_same_6 : decode cX8_same 6 = .ok (.aload_n 0, 1) := by decide +kernel
theorem dX8_same_7 : decode cX8_same 7 = .ok (.iload_n 2, 1) := by decide +kernel
theorem dX8_same_8 : decode cX8_same 8 = .ok (.invokevirtual 94, 3) := by decide +kernel
theorem dX8_same_11 : decode cX8_same 11 = .ok (.astore 4, 2) := by decide +kernel
theorem dX8_same_13 : decode cX8_same 13 = .ok (.aload_n 3, 1) := by decide +kernel
theorem dX8_same_14 : decode cX8_same 14 = .ok (.ifnull 8, 3) := by decide +kernel
theorem dX8_same_17 : decode cX8_same 17 = .ok (.aload 4, 2) := by decide +kernel
theorem dX8_same_19 : decode cX8_same 19 = .ok (.ifnonnull 7, 3) := by decide +kernel
theorem dX8_same_22 : decode cX8_same 22 = .ok (.iconst (-1), 1) := by decide +kernel
theorem dX8_same_23 : decode cX8_same 23 = .ok (.goto 9, 3) := by decide +kernel
theorem dX8_same_26 : decode cX8_same 26 = .ok (.aload_n 3, 1) := by decide +kernel
theorem dX8_same_27 : decode cX8_same 27 = .ok (.aload 4, 2) := by decide +kernel
theorem dX8_same_29 : decode cX8_same 29 = .ok (.invokevirtual 137, 3) := by decide +kernel
theorem dX8_same_32 : decode cX8_same 32 = .ok (.ireturn, 1) := by decide +kernel
theorem dX8_split_0 : decode cX8_split 0 = .ok (.aload_n 0, 1) := by decide +kernel
theorem dX8_split_1 : decode cX8_split 1 = .ok (.iload_n 1, 1) := by decide +kernel
theorem dX8_split_2 : decode cX8_split 2 = .ok (.invokevirtual 94, 3) := by decide +kernel
theorem dX8_split_5 : decode cX8_split 5 = .ok (.astore_n 3, 1) := by decide +kernel
theorem dX8_split_6 : decode cX8_split 6 = .ok (.aload_n 3, 1) := by decide +kernel
theorem dX8_split_7 : decode cX8_split 7 = .ok (.ifnonnull 7, 3) := by decide +kernel
theorem dX8_split_10 : decode cX8_split 10 = .ok (.iconst (-1), 1) := by decide +kernel
theorem dX8_split_11 : decode cX8_split 11 = .ok (.goto 12, 3) := by decide +kernel
theorem dX8_split_14 : decode cX8_split 14 = .ok (.aload_n 0, 1) := by decide +kernel
theorem dX8_split_15 : decode cX8_split 15 = .ok (.getfield 48, 3) := by decide +kernel
theorem dX8_split_18 : decode cX8_split 18 = .ok (.aload_n 3, 1) := by decide +kernel
theorem dX8_split_19 : decode cX8_split 19 = .ok (.iload_n 2, 1) := by decide +kernel
theorem dX8_split_20 : decode cX8_split 20 = .ok (.invokevirtual 141, 3) := by decide +kernel
theorem dX8_split_23 : decode cX8_split 23 = .ok (.ireturn, 1) := by decide +kernel
theorem dX8_piece_0 : decode cX8_piece 0 = .ok (.aload_n 0, 1) := by decide +kernel
theorem dX8_piece_1 : decode cX8_piece 1 = .ok (.getfield 48, 3) := by decide +kernel
theorem dX8_piece_4 : decode cX8_piece 4 = .ok (.iload_n 1, 1) := by decide +kernel
theorem dX8_piece_5 : decode cX8_piece 5 = .ok (.iload_n 2, 1) := by decide +kernel
theorem dX8_piece_6 : decode cX8_piece 6 = .ok (.invokevirtual 145, 3) := by decide +kernel
theorem dX8_piece_9 : decode cX8_piece 9 = .ok (.ireturn, 1) := by decide +kernel
theorem dX8_missing_0 : decode cX8_missing 0 = .ok (.aload_n 0, 1) := by decide +kernel
theorem dX8_missing_1 : decode cX8_missing 1 = .ok (.getfield 48, 3) := by decide +kernel
theorem dX8_missing_4 : decode cX8_missing 4 = .ok (.invokevirtual 149, 3) := by decide +kernel
theorem dX8_missing_7 : decode cX8_missing 7 = .ok (.ireturn, 1) := by decide +kernel
theorem dX8_joined_0 : decode cX8_joined 0 = .ok (.aload_n 0, 1) := by decide +kernel
theorem dX8_joined_1 : decode cX8_joined 1 = .ok (.getfield 48, 3) := by decide +kernel
theorem dX8_joined_4 : decode cX8_joined 4 = .ok (.iload_n 1, 1) := by decide +kernel
theorem dX8_joined_5 : decode cX8_joined 5 = .ok (.invokevirtual 152, 3) := by decide +kernel
theorem dX8_joined_8 : decode cX8_joined 8 = .ok (.ireturn, 1) := by decide +kernel
theorem dX8_versionOrNull_0 : decode cX8_versionOrNull 0 = .ok (.iload_n 1, 1) := by decide +kernel
theorem dX8_versionOrNull_1 : decode cX8_versionOrNull 1 = .ok (.ifCond .lt 11, 3) := by decide +kernel
theorem dX8_versionOrNull_4 : decode cX8_versionOrNull 4 = .ok (.iload_n 1, 1) := by decide +kernel
theorem dX8_versionOrNull_5 : decode cX8_versionOrNull 5 = .ok (.aload_n 0, 1) := by decide +kernel
theorem dX8_versionOrNull_6 : decode cX8_versionOrNull 6 = .ok (.getfield 41, 3) := by decide +kernel
theorem dX8_versionOrNull_9 : decode cX8_versionOrNull 9 = .ok (.if_icmp .lt 7, 3) := by decide +kernel
theorem dX8_versionOrNull_12 : decode cX8_versionOrNull 12 = .ok (.aconst_null, 1) := by decide +kernel
theorem dX8_versionOrNull_13 : decode cX8_versionOrNull 13 = .ok (.goto 9, 3) := by decide +kernel
theorem dX8_versionOrNull_16 : decode cX8_versionOrNull 16 = .ok (.aload_n 0, 1) := by decide +kernel
theorem dX8_versionOrNull_17 : decode cX8_versionOrNull 17 = .ok (.getfield 37, 3) := by decide +kernel
theorem dX8_versionOrNull_20 : decode cX8_versionOrNull 20 = .ok (.iload_n 1, 1) := by decide +kernel
theorem dX8_versionOrNull_21 : decode cX8_versionOrNull 21 = .ok (.aaload, 1) := by decide +kernel
theorem dX8_versionOrNull_22 : decode cX8_versionOrNull 22 = .ok (.areturn, 1) := by decide +kernel
theorem dX8_entryOrNull_0 : decode cX8_entryOrNull 0 = .ok (.aload_n 0, 1) := by decide +kernel
theorem dX8_entryOrNull_1 : decode cX8_entryOrNull 1 = .ok (.iload_n 1, 1) := by decide +kernel
theorem dX8_entryOrNull_2 : decode cX8_entryOrNull 2 = .ok (.invokevirtual 94, 3) := by decide +kernel
theorem dX8_entryOrNull_5 : decode cX8_entryOrNull 5 = .ok (.astore_n 3, 1) := by decide +kernel
theorem dX8_entryOrNull_6 : decode cX8_entryOrNull 6 = .ok (.aload_n 3, 1) := by decide +kernel
theorem dX8_entryOrNull_7 : decode cX8_entryOrNull 7 = .ok (.ifnonnull 7, 3) := by decide +kernel
theorem dX8_entryOrNull_10 : decode cX8_entryOrNull 10 = .ok (.aconst_null, 1) := by decide +kernel
theorem dX8_entryOrNull_11 : decode cX8_entryOrNull 11 = .ok (.goto 8, 3) := by decide +kernel
theorem dX8_entryOrNull_14 : decode cX8_entryOrNull 14 = .ok (.aload_n 3, 1) := by decide +kernel
theorem dX8_entryOrNull_15 : decode cX8_entryOrNull 15 = .ok (.iload_n 2, 1) := by decide +kernel
theorem dX8_entryOrNull_16 : decode cX8_entryOrNull 16 = .ok (.invokevirtual 155, 3) := by decide +kernel
theorem dX8_entryOrNull_19 : decode cX8_entryOrNull 19 = .ok (.areturn, 1) := by decide +kernel
theorem dX9_init_0 : decode cX9_init 0 = .ok (.aload_n 0, 1) := by decide +kernel
theorem dX9_init_1 : decode cX9_init 1 = .ok (.invokespecial 1, 3) := by decide +kernel
theorem dX9_init_4 : decode cX9_init 4 = .ok (.aload_n 0, 1) := by decide +kernel
theorem dX9_init_5 : decode cX9_init 5 = .ok (.bipush 30, 2) := by decide +kernel
theorem dX9_init_7 : decode cX9_init 7 = .ok (.newarray .byte, 2) := by decide +kernel
theorem dX9_init_9 : decode cX9_init 9 = .ok (.putfield 7, 3) := by decide +kernel
theorem dX9_init_12 : decode cX9_init 12 = .ok (.aload_n 0, 1) := by decide +kernel
theorem dX9_init_13 : decode cX9_init 13 = .ok (.bipush 40, 2) := by decide +kernel
theorem dX9_init_15 : decode cX9_init 15 = .ok (.newarray .byte, 2) := by decide +kernel
theorem dX9_init_17 : decode cX9_init 17 = .ok (.putfield 13, 3) := by decide +kernel
theorem dX9_init_20 : decode cX9_init 20 = .ok (.aload_n 0, 1) := by decide +kernel
theorem dX9_init_21 : decode cX9_init 21 = .ok (.bipush 120, 2) := by decide +kernel
theorem dX9_init_23 : decode cX9_init 23 = .ok (.newarray .int, 2) := by decide +kernel
theorem dX9_init_25 : decode cX9_init 25 = .ok (.putfield 16, 3) := by decide +kernel
theorem dX9_init_28 : decode cX9_init 28 = .ok (.aload_n 0, 1) := by decide +kernel
theorem dX9_init_29 : decode cX9_init 29 = .ok (.sipush 2880, 3) := by decide +kernel
theorem dX9_init_32 : decode cX9_init 32 = .ok (.newarray .byte, 2) := by decide +kernel
theorem dX9_init_34 : decode cX9_init 34 = .ok (.putfield 20, 3) := by decide +kernel
theorem dX9_init_37 : decode cX9_init 37 = .ok (.aload_n 0, 1) := by decide +kernel
theorem dX9_init_38 : decode cX9_init 38 = .ok (.bipush 120, 2) := by decide +kernel
theorem dX9_init_40 : decode cX9_init 40 = .ok (.newarray .int, 2) := by decide +kernel
theorem dX9_init_42 : decode cX9_init 42 = .ok (.putfield 23, 3) := by decide +kernel
theorem dX9_init_45 : decode cX9_init 45 = .ok (.aload_n 0, 1) := by decide +kernel
theorem dX9_init_46 : decode cX9_init 46 = .ok (.sipush 4800, 3) := by decide +kernel
theorem dX9_init_49 : decode cX9_init 49 = .ok (.newarray .byte, 2) := by decide +kernel
theorem dX9_init_51 : decode cX9_init 51 = .ok (.putfield 26, 3) := by decide +kernel
theorem dX9_init_54 : decode cX9_init 54 = .ok (.aload_n 0, 1) := by decide +kernel
theorem dX9_init_55 : decode cX9_init 55 = .ok (.bipush 12, 2) := by decide +kernel
theorem dX9_init_57 : decode cX9_init 57 = .ok (.newarray .int, 2) := by decide +kernel
theorem dX9_init_59 : decode cX9_init 59 = .ok (.putfield 29, 3) := by decide +kernel
theorem dX9_init_62 : decode cX9_init 62 = .ok (.aload_n 0, 1) := by decide +kernel
theorem dX9_init_63 : decode cX9_init 63 = .ok (.bipush 12, 2) := by decide +kernel
theorem dX9_init_65 : decode cX9_init 65 = .ok (.newarray .int, 2) := by decide +kernel
theorem dX9_init_67 : decode cX9_init 67 = .ok (.putfield 32, 3) := by decide +kernel
theorem dX9_init_70 : decode cX9_init 70 = .ok (.aload_n 0, 1) := by decide +kernel
theorem dX9_init_71 : decode cX9_init 71 = .ok (.bipush 12, 2) := by decide +kernel
theorem dX9_init_73 : decode cX9_init 73 = .ok (.newarray .int, 2) := by decide +kernel
theorem dX9_init_75 : decode cX9_init 75 = .ok (.putfield 35, 3) := by decide +kernel
theorem dX9_init_78 : decode cX9_init 78 = .ok (.aload_n 0, 1) := by decide +kernel
theorem dX9_init_79 : decode cX9_init 79 = .ok (.bipush 120, 2) := by decide +kernel
theorem dX9_init_81 : decode cX9_init 81 = .ok (.newarray .int, 2) := by decide +kernel
theorem dX9_init_83 : decode cX9_init 83 = .ok (.putfield 38, 3) := by decide +kernel
theorem dX9_init_86 : decode cX9_init 86 = .ok (.aload_n 0, 1) := by decide +kernel
theorem dX9_init_87 : decode cX9_init 87 = .ok (.bipush 24, 2) := by decide +kernel
theorem dX9_init_89 : decode cX9_init 89 = .ok (.newarray .int, 2) := by decide +kernel
theorem dX9_init_91 : decode cX9_init 91 = .ok (.putfield 41, 3) := by decide +kernel
theorem dX9_init_94 : decode cX9_init 94 = .ok (.aload_n 0, 1) := by decide +kernel
theorem dX9_init_95 : decode cX9_init 95 = .ok (.bipush 24, 2) := by decide +kernel
theorem dX9_init_97 : decode cX9_init 97 = .ok (.newarray .int, 2) := by decide +kernel
theorem dX9_init_99 : decode cX9_init 99 = .ok (.putfield 44, 3) := by decide +kernel
theorem dX9_init_102 : decode cX9_init 102 = .ok (.aload_n 0, 1) := by decide +kernel
theorem dX9_init_103 : decode cX9_init 103 = .ok (.sipush 320, 3) := by decide +kernel
theorem dX9_init_106 : decode cX9_init 106 = .ok (.newarray .boolean, 2) := by decide +kernel
theorem dX9_init_108 : decode cX9_init 108 = .ok (.putfield 47, 3) := by decide +kernel
theorem dX9_init_111 : decode cX9_init 111 = .ok (.aload_n 0, 1) := by decide +kernel
theorem dX9_init_112 : decode cX9_init 112 = .ok (.sipush 320, 3) := by decide +kernel
theorem dX9_init_115 : decode cX9_init 115 = .ok (.newarray .byte, 2) := by decide +kernel
theorem dX9_init_117 : decode cX9_init 117 = .ok (.putfield 51, 3) := by decide +kernel
theorem dX9_init_120 : decode cX9_init 120 = .ok (.return_, 1) := by decide +kernel
theorem dX9_in_0 : decode cX9_in 0 = .ok (.iload_n 0, 1) := by decide +kernel
theorem dX9_in_1 : decode cX9_in 1 = .ok (.iload_n 1, 1) := by decide +kernel
theorem dX9_in_2 : decode cX9_in 2 = .ok (.if_icmp .lt 12, 3) := by decide +kernel
theorem dX9_in_5 : decode cX9_in 5 = .ok (.iload_n 0, 1) := by decide +kernel
theorem dX9_in_6 : decode cX9_in 6 = .ok (.iload_n 2, 1) := by decide +kernel
theorem dX9_in_7 : decode cX9_in 7 = .ok (.if_icmp .gt 7, 3) := by decide +kernel
theorem dX9_in_10 : decode cX9_in 10 = .ok (.iconst 1, 1) := by decide +kernel
theorem dX9_in_11 : decode cX9_in 11 = .ok (.goto 4, 3) := by decide +kernel
theorem dX9_in_14 : decode cX9_in 14 = .ok (.iconst 0, 1) := by decide +kernel
theorem dX9_in_15 : decode cX9_in 15 = .ok (.ireturn, 1) := by decide +kernel
theorem dX9_path_0 : decode cX9_path 0 = .ok (.aload_n 0, 1) := by decide +kernel
theorem dX9_path_1 : decode cX9_path 1 = .ok (.iconst 0, 1) := by decide +kernel
theorem dX9_path_2 : decode cX9_path 2 = .ok (.putfield 54, 3) := by decide +kernel
theorem dX9_path_5 : decode cX9_path 5 = .ok (.aload_n 0, 1) := by decide +kernel
theorem dX9_path_6 : decode cX9_path 6 = .ok (.getfield 58, 3) := by decide +kernel
theorem dX9_path_9 : decode cX9_path 9 = .ok (.bipush 30, 2) := by decide +kernel
theorem dX9_path_11 : decode cX9_path 11 = .ok (.if_icmp .ne 4, 3) := by decide +kernel
theorem dX9_path_14 : decode cX9_path 14 = .ok (.return_, 1) := by decide +kernel
theorem dX9_path_15 : decode cX9_path 15 = .ok (.aload_n 0, 1) := by decide +kernel
theorem dX9_path_16 : decode cX9_path 16 = .ok (.getfield 7, 3) := by decide +kernel
theorem dX9_path_19 : decode cX9_path 19 = .ok (.aload_n 0, 1) := by decide +kernel
theorem dX9_path_20 : decode cX9_path 20 = .ok (.getfield 58, 3) := by decide +kernel
theorem dX9_path_23 : decode cX9_path 23 = .ok (.iload_n 1, 1) := by decide +kernel
theorem dX9_path_24 : decode cX9_path 24 = .ok (.i2b, 1) := by decide +kernel
theorem dX9_path_25 : decode cX9_path 25 = .ok (.bastore, 1) := by decide +kernel
theorem dX9_path_26 : decode cX9_path 26 = .ok (.aload_n 0, 1) := by decide +kernel
theorem dX9_path_27 : decode cX9_path 27 = .ok (.dup, 1) := by decide +kernel
theorem dX9_path_28 : decode cX9_path 28 = .ok (.getfield 58, 3) := by decide +kernel
theorem dX9_path_31 : decode cX9_path 31 = .ok (.iconst 1, 1) := by decide +kernel
theorem dX9_path_32 : decode cX9_path 32 = .ok (.iadd, 1) := by decide +kernel
theorem dX9_path_33 : decode cX9_path 33 = .ok (.putfield 58, 3) := by decide +kernel
theorem dX9_path_36 : decode cX9_path 36 = .ok (.return_, 1) := by decide +kernel
theorem dX9_octet_0 : decode cX9_octet 0 = .ok (.aload_n 0, 1) := by decide +kernel
theorem dX9_octet_1 : decode cX9_octet 1 = .ok (.iconst 0, 1) := by decide +kernel
theorem dX9_octet_2 : decode cX9_octet 2 = .ok (.putfield 54, 3) := by decide +kernel
theorem dX9_octet_5 : decode cX9_octet 5 = .ok (.aload_n 0, 1) := by decide +kernel
theorem dX9_octet_6 : decode cX9_octet 6 = .ok (.getfield 61, 3) := by decide +kernel
theorem dX9_octet_9 : decode cX9_octet 9 = .ok (.bipush 40, 2) := by decide +kernel
theorem dX9_octet_11 : decode cX9_octet 11 = .ok (.if_icmp .ne 4, 3) := by decide +kernel
theorem dX9_octet_14 : decode cX9_octet 14 = .ok (.return_, 1) := by decide +kernel
theorem dX9_octet_15 : decode cX9_octet 15 = .ok (.aload_n 0, 1) := by decide +kernel
theorem dX9_octet_16 : decode cX9_octet 16 = .ok (.getfield 13, 3) := by decide +kernel
theorem dX9_octet_19 : decode cX9_octet 19 = .ok (.aload_n 0, 1) := by decide +kernel
theorem dX9_octet_20 : decode cX9_octet 20 = .ok (.getfield 61, 3) := by decide +kernel
theorem dX9_octet_23 : decode cX9_octet 23 = .ok (.iload_n 1, 1) := by decide +kernel
theorem dX9_octet_24 : decode cX9_octet 24 = .ok (.i2b, 1) := by decide +kernel
theorem dX9_octet_25 : decode cX9_octet 25 = .ok (.bastore, 1) := by decide +kernel
theorem dX9_octet_26 : decode cX9_octet 26 = .ok (.aload_n 0, 1) := by decide +kernel
theorem dX9_octet_27 : decode cX9_octet 27 = .ok (.dup, 1) := by decide +kernel
theorem dX9_octet_28 : decode cX9_octet 28 = .ok (.getfield 61, 3) := by decide +kernel
theorem dX9_octet_31 : decode cX9_octet 31 = .ok (.iconst 1, 1) := by decide +kernel
theorem dX9_octet_32 : decode cX9_octet 32 = .ok (.iadd, 1) := by decide +kernel
theorem dX9_octet_33 : decode cX9_octet 33 = .ok (.putfield 61, 3) := by decide +kernel
theorem dX9_octet_36 : decode cX9_octet 36 = .ok (.return_, 1) := by decide +kernel
theorem dX9_isSign_0 : decode cX9_isSign 0 = .ok (.iload_n 0, 1) := by decide +kernel
theorem dX9_isSign_1 : decode cX9_isSign 1 = .ok (.bipush 97, 2) := by decide +kernel
theorem dX9_isSign_3 : decode cX9_isSign 3 = .ok (.bipush 122, 2) := by decide +kernel
theorem dX9_isSign_5 : decode cX9_isSign 5 = .ok (.invokestatic 64, 3) := by decide +kernel
theorem dX9_isSign_8 : decode cX9_isSign 8 = .ok (.ifCond .ne 26, 3) := by decide +kernel
theorem dX9_isSign_11 : decode cX9_isSign 11 = .ok (.iload_n 0, 1) := by decide +kernel
theorem dX9_isSign_12 : decode cX9_isSign 12 = .ok (.bipush 48, 2) := by decide +kernel
theorem dX9_isSign_14 : decode cX9_isSign 14 = .ok (.bipush 57, 2) := by decide +kernel
theorem dX9_isSign_16 : decode cX9_isSign 16 = .ok (.invokestatic 64, 3) := by decide +kernel
theorem dX9_isSign_19 : decode cX9_isSign 19 = .ok (.ifCond .ne 15, 3) := by decide +kernel
theorem dX9_isSign_22 : decode cX9_isSign 22 = .ok (.iload_n 0, 1) := by decide +kernel
theorem dX9_isSign_23 : decode cX9_isSign 23 = .ok (.bipush 46, 2) := by decide +kernel
theorem dX9_isSign_25 : decode cX9_isSign 25 = .ok (.if_icmp .eq 9, 3) := by decide +kernel
theorem dX9_isSign_28 : decode cX9_isSign 28 = .ok (.iload_n 0, 1) := by decide +kernel
theorem dX9_isSign_29 : decode cX9_isSign 29 = .ok (.bipush 47, 2) := by decide +kernel
theorem dX9_isSign_31 : decode cX9_isSign 31 = .ok (.if_icmp .ne 7, 3) := by decide +kernel
theorem dX9_isSign_34 : decode cX9_isSign 34 = .ok (.iconst 1, 1) := by decide +kernel
theorem dX9_isSign_35 : decode cX9_isSign 35 = .ok (.goto 4, 3) := by decide +kernel
theorem dX9_isSign_38 : decode cX9_isSign 38 = .ok (.iconst 0, 1) := by decide +kernel
theorem dX9_isSign_39 : decode cX9_isSign 39 = .ok (.ireturn, 1) := by decide +kernel
theorem dX9_isPath_0 : decode cX9_isPath 0 = .ok (.aload_n 0, 1) := by decide +kernel
theorem dX9_isPath_1 : decode cX9_isPath 1 = .ok (.getfield 58, 3) := by decide +kernel
theorem dX9_isPath_4 : decode cX9_isPath 4 = .ok (.iconst 1, 1) := by decide +kernel
theorem dX9_isPath_5 : decode cX9_isPath 5 = .ok (.bipush 24, 2) := by decide +kernel
theorem dX9_isPath_7 : decode cX9_isPath 7 = .ok (.invokestatic 64, 3) := by decide +kernel
theorem dX9_isPath_10 : decode cX9_isPath 10 = .ok (.istore_n 1, 1) := by decide +kernel
theorem dX9_isPath_11 : decode cX9_isPath 11 = .ok (.iconst 0, 1) := by decide +kernel
theorem dX9_isPath_12 : decode cX9_isPath 12 = .ok (.istore_n 2, 1) := by decide +kernel
theorem dX9_isPath_13 : decode cX9_isPath 13 = .ok (.iconst 0, 1) := by decide +kernel
theorem dX9_isPath_14 : decode cX9_isPath 14 = .ok (.istore_n 3, 1) := by decide +kernel
theorem dX9_isPath_15 : decode cX9_isPath 15 = .ok (.iload_n 3, 1) := by decide +kernel
theorem dX9_isPath_16 : decode cX9_isPath 16 = .ok (.aload_n 0, 1) := by decide +kernel
theorem dX9_isPath_17 : decode cX9_isPath 17 = .ok (.getfield 58, 3) := by decide +kernel
theorem dX9_isPath_20 : decode cX9_isPath 20 = .ok (.if_icmp .gt 121, 3) := by decide +kernel
theorem dX9_isPath_23 : decode cX9_isPath 23 = .ok (.iload_n 1, 1) := by decide +kernel
theorem dX9_isPath_24 : decode cX9_isPath 24 = .ok (.ifCond .eq 117, 3) := by decide +kernel
theorem dX9_isPath_27 : decode cX9_isPath 27 = .ok (.iload_n 3, 1) := by decide +kernel
theorem dX9_isPath_28 : decode cX9_isPath 28 = .ok (.aload_n 0, 1) := by decide +kernel
theorem dX9_isPath_29 : decode cX9_isPath 29 = .ok (.getfield 58, 3) := by decide +kernel
theorem dX9_isPath_32 : decode cX9_isPath 32 = .ok (.if_icmp .ge 31, 3) := by decide +kernel
theorem dX9_isPath_35 : decode cX9_isPath 35 = .ok (.aload_n 0, 1) := by decide +kernel
theorem dX9_isPath_36 : decode cX9_isPath 36 = .ok (.getfield 7, 3) := by decide +kernel
theorem dX9_isPath_39 : decode cX9_isPath 39 = .ok (.iload_n 3, 1) := by decide +kernel
theorem dX9_isPath_40 : decode cX9_isPath 40 = .ok (.baload, 1) := by decide +kernel
theorem dX9_isPath_41 : decode cX9_isPath 41 = .ok (.bipush 47, 2) := by decide +kernel
theorem dX9_isPath_43 : decode cX9_isPath 43 = .ok (.if_icmp .eq 20, 3) := by decide +kernel
theorem dX9_isPath_46 : decode cX9_isPath 46 = .ok (.aload_n 0, 1) := by decide +kernel
theorem dX9_isPath_47 : decode cX9_isPath 47 = .ok (.getfield 7, 3) := by decide +kernel
theorem dX9_isPath_50 : decode cX9_isPath 50 = .ok (.iload_n 3, 1) := by decide +kernel
theorem dX9_isPath_51 : decode cX9_isPath 51 = .ok (.baload, 1) := by decide +kernel
theorem dX9_isPath_52 : decode cX9_isPath 52 = .ok (.sipush 255, 3) := by decide +kernel
theorem dX9_isPath_55 : decode cX9_isPath 55 = .ok (.iand, 1) := by decide +kernel
theorem dX9_isPath_56 : decode cX9_isPath 56 = .ok (.invokestatic 68, 3) := by decide +kernel
theorem dX9_isPath_59 : decode cX9_isPath 59 = .ok (.istore_n 1, 1) := by decide +kernel
theorem dX9_isPath_60 : decode cX9_isPath 60 = .ok (.goto 75, 3) := by decide +kernel
theorem dX9_isPath_63 : decode cX9_isPath 63 = .ok (.iload_n 3, 1) := by decide +kernel
theorem dX9_isPath_64 : decode cX9_isPath 64 = .ok (.iload_n 2, 1) := by decide +kernel
theorem dX9_isPath_65 : decode cX9_isPath 65 = .ok (.isub, 1) := by decide +kernel
theorem dX9_isPath_66 : decode cX9_isPath 66 = .ok (.istore 4, 2) := by decide +kernel
theorem dX9_isPath_68 : decode cX9_isPath 68 = .ok (.iload 4, 2) := by decide +kernel
theorem dX9_isPath_70 : decode cX9_isPath 70 = .ok (.iconst 3, 1) := by decide +kernel
theorem dX9_isPath_71 : decode cX9_isPath 71 = .ok (.if_icmp .ge 7, 3) := by decide +kernel
theorem dX9_isPath_74 : decode cX9_isPath 74 = .ok (.iconst 1, 1) := by decide +kernel
theorem dX9_isPath_75 : decode cX9_isPath 75 = .ok (.goto 4, 3) := by decide +kernel
theorem dX9_isPath_78 : decode cX9_isPath 78 = .ok (.iconst 0, 1) := by decide +kernel
theorem dX9_isPath_79 : decode cX9_isPath 79 = .ok (.istore 5, 2) := by decide +kernel
theorem dX9_isPath_81 : decode cX9_isPath 81 = .ok (.iload_n 2, 1) := by decide +kernel
theorem dX9_isPath_82 : decode cX9_isPath 82 = .ok (.istore 6, 2) := by decide +kernel
theorem dX9_isPath_84 : decode cX9_isPath 84 = .ok (.iload 6, 2) := by decide +kernel
theorem dX9_isPath_86 : decode cX9_isPath 86 = .ok (.iload_n 3, 1) := by decide +kernel
theorem dX9_isPath_87 : decode cX9_isPath 87 = .ok (.if_icmp .ge 33, 3) := by decide +kernel
theorem dX9_isPath_90 : decode cX9_isPath 90 = .ok (.iload 5, 2) := by decide +kernel
theorem dX9_isPath_92 : decode cX9_isPath 92 = .ok (.ifCond .eq 19, 3) := by decide +kernel
theorem dX9_isPath_95 : decode cX9_isPath 95 = .ok (.aload_n 0, 1) := by decide +kernel
theorem dX9_isPath_96 : decode cX9_isPath 96 = .ok (.getfield 7, 3) := by decide +kernel
theorem dX9_isPath_99 : decode cX9_isPath 99 = .ok (.iload 6, 2) := by decide +kernel
theorem dX9_isPath_101 : decode cX9_isPath 101 = .ok (.baload, 1) := by decide +kernel
theorem dX9_isPath_102 : decode cX9_isPath 102 = .ok (.bipush 46, 2) := by decide +kernel
theorem dX9_isPath_104 : decode cX9_isPath 104 = .ok (.if_icmp .ne 7, 3) := by decide +kernel
theorem dX9_isPath_107 : decode cX9_isPath 107 = .ok (.iconst 1, 1) := by decide +kernel
theorem dX9_isPath_108 : decode cX9_isPath 108 = .ok (.goto 4, 3) := by decide +kernel
theorem dX9_isPath_111 : decode cX9_isPath 111 = .ok (.iconst 0, 1) := by decide +kernel
theorem dX9_isPath_112 : decode cX9_isPath 112 = .ok (.istore 5, 2) := by decide +kernel
theorem dX9_isPath_114 : decode cX9_isPath 114 = .ok (.iinc 6 1, 3) := by decide +kernel
theorem dX9_isPath_117 : decode cX9_isPath 117 = .ok (.goto (-33), 3) := by decide +kernel
theorem dX9_isPath_120 : decode cX9_isPath 120 = .ok (.iload 5, 2) := by decide +kernel
theorem dX9_isPath_122 : decode cX9_isPath 122 = .ok (.ifCond .ne 7, 3) := by decide +kernel
theorem dX9_isPath_125 : decode cX9_isPath 125 = .ok (.iconst 1, 1) := by decide +kernel
theorem dX9_isPath_126 : decode cX9_isPath 126 = .ok (.goto 4, 3) := by decide +kernel
theorem dX9_isPath_129 : decode cX9_isPath 129 = .ok (.iconst 0, 1) := by decide +kernel
theorem dX9_isPath_130 : decode cX9_isPath 130 = .ok (.istore_n 1, 1) := by decide +kernel
theorem dX9_isPath_131 : decode cX9_isPath 131 = .ok (.iload_n 3, 1) := by decide +kernel
theorem dX9_isPath_132 : decode cX9_isPath 132 = .ok (.iconst 1, 1) := by decide +kernel
theorem dX9_isPath_133 : decode cX9_isPath 133 = .ok (.iadd, 1) := by decide +kernel
theorem dX9_isPath_134 : decode cX9_isPath 134 = .ok (.istore_n 2, 1) := by decide +kernel
theorem dX9_isPath_135 : decode cX9_isPath 135 = .ok (.iinc 3 1, 3) := by decide +kernel
theorem dX9_isPath_138 : decode cX9_isPath 138 = .ok (.goto (-123), 3) := by decide +kernel
theorem dX9_isPath_141 : decode cX9_isPath 141 = .ok (.iload_n 1, 1) := by decide +kernel
theorem dX9_isPath_142 : decode cX9_isPath 142 = .ok (.ireturn, 1) := by decide +kernel
theorem dX9_lay_0 : decode cX9_lay 0 = .ok (.aload_n 0, 1) := by decide +kernel
theorem dX9_lay_1 : decode cX9_lay 1 = .ok (.getfield 16, 3) := by decide +kernel
theorem dX9_lay_4 : decode cX9_lay 4 = .ok (.iload_n 1, 1) := by decide +kernel
theorem dX9_lay_5 : decode cX9_lay 5 = .ok (.aload_n 0, 1) := by decide +kernel
theorem dX9_lay_6 : decode cX9_lay 6 = .ok (.getfield 58, 3) := by decide +kernel
theorem dX9_lay_9 : decode cX9_lay 9 = .ok (.iastore, 1) := by decide +kernel
theorem dX9_lay_10 : decode cX9_lay 10 = .ok (.iconst 0, 1) := by decide +kernel
theorem dX9_lay_11 : decode cX9_lay 11 = .ok (.istore_n 2, 1) := by decide +kernel
theorem dX9_lay_12 : decode cX9_lay 12 = .ok (.iload_n 2, 1) := by decide +kernel
theorem dX9_lay_13 : decode cX9_lay 13 = .ok (.aload_n 0, 1) := by decide +kernel
theorem dX9_lay_14 : decode cX9_lay 14 = .ok (.getfield 58, 3) := by decide +kernel
theorem dX9_lay_17 : decode cX9_lay 17 = .ok (.if_icmp .ge 26, 3) := by decide +kernel
theorem dX9_lay_20 : decode cX9_lay 20 = .ok (.aload_n 0, 1) := by decide +kernel
theorem dX9_lay_21 : decode cX9_lay 21 = .ok (.getfield 20, 3) := by decide +kernel
theorem dX9_lay_24 : decode cX9_lay 24 = .ok (.bipush 24, 2) := by decide +kernel
theorem dX9_lay_26 : decode cX9_lay 26 = .ok (.iload_n 1, 1) := by decide +kernel
theorem dX9_lay_27 : decode cX9_lay 27 = .ok (.imul, 1) := by decide +kernel
theorem dX9_lay_28 : decode cX9_lay 28 = .ok (.iload_n 2, 1) := by decide +kernel
theorem dX9_lay_29 : decode cX9_lay 29 = .ok (.iadd, 1) := by decide +kernel
theorem dX9_lay_30 : decode cX9_lay 30 = .ok (.aload_n 0, 1) := by decide +kernel
theorem dX9_lay_31 : decode cX9_lay 31 = .ok (.getfield 7, 3) := by decide +kernel
theorem dX9_lay_34 : decode cX9_lay 34 = .ok (.iload_n 2, 1) := by decide +kernel
theorem dX9_lay_35 : decode cX9_lay 35 = .ok (.baload, 1) := by decide +kernel
theorem dX9_lay_36 : decode cX9_lay 36 = .ok (.bastore, 1) := by decide +kernel
theorem dX9_lay_37 : decode cX9_lay 37 = .ok (.iinc 2 1, 3) := by decide +kernel
theorem dX9_lay_40 : decode cX9_lay 40 = .ok (.goto (-28), 3) := by decide +kernel
theorem dX9_lay_43 : decode cX9_lay 43 = .ok (.return_, 1) := by decide +kernel
theorem dX9_file_0 : decode cX9_file 0 = .ok (.aload_n 0, 1) := by decide +kernel
theorem dX9_file_1 : decode cX9_file 1 = .ok (.iconst 0, 1) := by decide +kernel
theorem dX9_file_2 : decode cX9_file 2 = .ok (.putfield 54, 3) := by decide +kernel
theorem dX9_file_5 : decode cX9_file 5 = .ok (.aload_n 0, 1) := by decide +kernel
theorem dX9_file_6 : decode cX9_file 6 = .ok (.invokevirtual 72, 3) := by decide +kernel
theorem dX9_file_9 : decode cX9_file 9 = .ok (.istore_n 1, 1) := by decide +kernel
theorem dX9_file_10 : decode cX9_file 10 = .ok (.aload_n 0, 1) := by decide +kernel
theorem dX9_file_11 : decode cX9_file 11 = .ok (.getfield 61, 3) := by decide +kernel
theorem dX9_file_14 : decode cX9_file 14 = .ok (.istore_n 2, 1) := by decide +kernel
theorem dX9_file_15 : decode cX9_file 15 = .ok (.aload_n 0, 1) := by decide +kernel
theorem dX9_file_16 : decode cX9_file 16 = .ok (.iconst 0, 1) := by decide +kernel
theorem dX9_file_17 : decode cX9_file 17 = .ok (.putfield 61, 3) := by decide +kernel
theorem dX9_file_20 : decode cX9_file 20 = .ok (.iload_n 1, 1) := by decide +kernel
theorem dX9_file_21 : decode cX9_file 21 = .ok (.ifCond .eq 83, 3) := by decide +kernel
theorem dX9_file_24 : decode cX9_file 24 = .ok (.aload_n 0, 1) := by decide +kernel
theorem dX9_file_25 : decode cX9_file 25 = .ok (.getfield 76, 3) := by decide +kernel
theorem dX9_file_28 : decode cX9_file 28 = .ok (.bipush 12, 2) := by decide +kernel
theorem dX9_file_30 : decode cX9_file 30 = .ok (.if_icmp .ge 74, 3) := by decide +kernel
theorem dX9_file_33 : decode cX9_file 33 = .ok (.aload_n 0, 1) := by decide +kernel
theorem dX9_file_34 : decode cX9_file 34 = .ok (.aload_n 0, 1) := by decide +kernel
theorem dX9_file_35 : decode cX9_file 35 = .ok (.getfield 76, 3) := by decide +kernel
theorem dX9_file_38 : decode cX9_file 38 = .ok (.invokevirtual 79, 3) := by decide +kernel
theorem dX9_file_41 : decode cX9_file 41 = .ok (.aload_n 0, 1) := by decide +kernel
theorem dX9_file_42 : decode cX9_file 42 = .ok (.getfield 23, 3) := by decide +kernel
theorem dX9_file_45 : decode cX9_file 45 = .ok (.aload_n 0, 1) := by decide +kernel
theorem dX9_file_46 : decode cX9_file 46 = .ok (.getfield 76, 3) := by decide +kernel
theorem dX9_file_49 : decode cX9_file 49 = .ok (.iload_n 2, 1) := by decide +kernel
theorem dX9_file_50 : decode cX9_file 50 = .ok (.iastore, 1) := by decide +kernel
theorem dX9_file_51 : decode cX9_file 51 = .ok (.iconst 0, 1) := by decide +kernel
theorem dX9_file_52 : decode cX9_file 52 = .ok (.istore_n 3, 1) := by decide +kernel
theorem dX9_file_53 : decode cX9_file 53 = .ok (.iload_n 3, 1) := by decide +kernel
theorem dX9_file_54 : decode cX9_file 54 = .ok (.iload_n 2, 1) := by decide +kernel
theorem dX9_file_55 : decode cX9_file 55 = .ok (.if_icmp .ge 29, 3) := by decide +kernel
theorem dX9_file_58 : decode cX9_file 58 = .ok (.aload_n 0, 1) := by decide +kernel
theorem dX9_file_59 : decode cX9_file 59 = .ok (.getfield 26, 3) := by decide +kernel
theorem dX9_file_62 : decode cX9_file 62 = .ok (.bipush 40, 2) := by decide +kernel
theorem dX9_file_64 : decode cX9_file 64 = .ok (.aload_n 0, 1) := by decide +kernel
theorem dX9_file_65 : decode cX9_file 65 = .ok (.getfield 76, 3) := by decide +kernel
theorem dX9_file_68 : decode cX9_file 68 = .ok (.imul, 1) := by decide +kernel
theorem dX9_file_69 : decode cX9_file 69 = .ok (.iload_n 3, 1) := by decide +kernel
theorem dX9_file_70 : decode cX9_file 70 = .ok (.iadd, 1) := by decide +kernel
theorem dX9_file_71 : decode cX9_file 71 = .ok (.aload_n 0, 1) := by decide +kernel
theorem dX9_file_72 : decode cX9_file 72 = .ok (.getfield 13, 3) := by decide +kernel
theorem dX9_file_75 : decode cX9_file 75 = .ok (.iload_n 3, 1) := by decide +kernel
theorem dX9_file_76 : decode cX9_file 76 = .ok (.baload, 1) := by decide +kernel
theorem dX9_file_77 : decode cX9_file 77 = .ok (.bastore, 1) := by decide +kernel
theorem dX9_file_78 : decode cX9_file 78 = .ok (.iinc 3 1, 3) := by decide +kernel
theorem dX9_file_81 : decode cX9_file 81 = .ok (.goto (-28), 3) := by decide +kernel
theorem dX9_file_84 : decode cX9_file 84 = .ok (.aload_n 0, 1) := by decide +kernel
theorem dX9_file_85 : decode cX9_file 85 = .ok (.dup, 1) := by decide +kernel
theorem dX9_file_86 : decode cX9_file 86 = .ok (.getfield 76, 3) := by decide +kernel
theorem dX9_file_89 : decode cX9_file 89 = .ok (.iconst 1, 1) := by decide +kernel
theorem dX9_file_90 : decode cX9_file 90 = .ok (.iadd, 1) := by decide +kernel
theorem dX9_file_91 : decode cX9_file 91 = .ok (.putfield 76, 3) := by decide +kernel
theorem dX9_file_94 : decode cX9_file 94 = .ok (.aload_n 0, 1) := by decide +kernel
theorem dX9_file_95 : decode cX9_file 95 = .ok (.iconst 0, 1) := by decide +kernel
theorem dX9_file_96 : decode cX9_file 96 = .ok (.putfield 58, 3) := by decide +kernel
theorem dX9_file_99 : decode cX9_file 99 = .ok (.aload_n 0, 1) := by decide +kernel
theorem dX9_file_100 : decode cX9_file 100 = .ok (.getfield 76, 3) := by decide +kernel
theorem dX9_file_103 : decode cX9_file 103 = .ok (.ireturn, 1) := by decide +kernel
theorem dX9_file_104 : decode cX9_file 104 = .ok (.aload_n 0, 1) := by decide +kernel
theorem dX9_file_105 : decode cX9_file 105 = .ok (.iconst 0, 1) := by decide +kernel
theorem dX9_file_106 : decode cX9_file 106 = .ok (.putfield 58, 3) := by decide +kernel
theorem dX9_file_109 : decode cX9_file 109 = .ok (.iload_n 1, 1) := by decide +kernel
theorem dX9_file_110 : decode cX9_file 110 = .ok (.ifCond .eq 8, 3) := by decide +kernel
theorem dX9_file_113 : decode cX9_file 113 = .ok (.bipush (-4), 2) := by decide +kernel
theorem dX9_file_115 : decode cX9_file 115 = .ok (.goto 5, 3) := by decide +kernel
theorem dX9_file_118 : decode cX9_file 118 = .ok (.bipush (-2), 2) := by decide +kernel
theorem dX9_file_120 : decode cX9_file 120 = .ok (.ireturn, 1) := by decide +kernel
theorem dX9_line_0 : decode cX9_line 0 = .ok (.aload_n 0, 1) := by decide +kernel
theorem dX9_line_1 : decode cX9_line 1 = .ok (.iconst 0, 1) := by decide +kernel
theorem dX9_line_2 : decode cX9_line 2 = .ok (.putfield 54, 3) := by decide +kernel
theorem dX9_line_5 : decode cX9_line 5 = .ok (.aload_n 0, 1) := by decide +kernel
theorem dX9_line_6 : decode cX9_line 6 = .ok (.invokevirtual 72, 3) := by decide +kernel
theorem dX9_line_9 : decode cX9_line 9 = .ok (.ifCond .eq 17, 3) := by decide +kernel
theorem dX9_line_12 : decode cX9_line 12 = .ok (.iload_n 1, 1) := by decide +kernel
theorem dX9_line_13 : decode cX9_line 13 = .ok (.iconst 0, 1) := by decide +kernel
theorem dX9_line_14 : decode cX9_line 14 = .ok (.bipush 40, 2) := by decide +kernel
theorem dX9_line_16 : decode cX9_line 16 = .ok (.invokestatic 64, 3) := by decide +kernel
theorem dX9_line_19 : decode cX9_line 19 = .ok (.ifCond .eq 7, 3) := by decide +kernel
theorem dX9_line_22 : decode cX9_line 22 = .ok (.iconst 1, 1) := by decide +kernel
theorem dX9_line_23 : decode cX9_line 23 = .ok (.goto 4, 3) := by decide +kernel
theorem dX9_line_26 : decode cX9_line 26 = .ok (.iconst 0, 1) := by decide +kernel
theorem dX9_line_27 : decode cX9_line 27 = .ok (.istore_n 3, 1) := by decide +kernel
theorem dX9_line_28 : decode cX9_line 28 = .ok (.iload_n 3, 1) := by decide +kernel
theorem dX9_line_29 : decode cX9_line 29 = .ok (.ifCond .eq 63, 3) := by decide +kernel
theorem dX9_line_32 : decode cX9_line 32 = .ok (.aload_n 0, 1) := by decide +kernel
theorem dX9_line_33 : decode cX9_line 33 = .ok (.getfield 83, 3) := by decide +kernel
theorem dX9_line_36 : decode cX9_line 36 = .ok (.bipush 12, 2) := by decide +kernel
theorem dX9_line_38 : decode cX9_line 38 = .ok (.if_icmp .ge 54, 3) := by decide +kernel
theorem dX9_line_41 : decode cX9_line 41 = .ok (.aload_n 0, 1) := by decide +kernel
theorem dX9_line_42 : decode cX9_line 42 = .ok (.bipush 12, 2) := by decide +kernel
theorem dX9_line_44 : decode cX9_line 44 = .ok (.aload_n 0, 1) := by decide +kernel
theorem dX9_line_45 : decode cX9_line 45 = .ok (.getfield 83, 3) := by decide +kernel
theorem dX9_line_48 : decode cX9_line 48 = .ok (.iadd, 1) := by decide +kernel
theorem dX9_line_49 : decode cX9_line 49 = .ok (.invokevirtual 79, 3) := by decide +kernel
theorem dX9_line_52 : decode cX9_line 52 = .ok (.aload_n 0, 1) := by decide +kernel
theorem dX9_line_53 : decode cX9_line 53 = .ok (.getfield 29, 3) := by decide +kernel
theorem dX9_line_56 : decode cX9_line 56 = .ok (.aload_n 0, 1) := by decide +kernel
theorem dX9_line_57 : decode cX9_line 57 = .ok (.getfield 83, 3) := by decide +kernel
theorem dX9_line_60 : decode cX9_line 60 = .ok (.iload_n 1, 1) := by decide +kernel
theorem dX9_line_61 : decode cX9_line 61 = .ok (.iastore, 1) := by decide +kernel
theorem dX9_line_62 : decode cX9_line 62 = .ok (.aload_n 0, 1) := by decide +kernel
theorem dX9_line_63 : decode cX9_line 63 = .ok (.getfield 32, 3) := by decide +kernel
theorem dX9_line_66 : decode cX9_line 66 = .ok (.aload_n 0, 1) := by decide +kernel
theorem dX9_line_67 : decode cX9_line 67 = .ok (.getfield 83, 3) := by decide +kernel
theorem dX9_line_70 : decode cX9_line 70 = .ok (.iload_n 2, 1) := by decide +kernel
theorem dX9_line_71 : decode cX9_line 71 = .ok (.iastore, 1) := by decide +kernel
theorem dX9_line_72 : decode cX9_line 72 = .ok (.aload_n 0, 1) := by decide +kernel
theorem dX9_line_73 : decode cX9_line 73 = .ok (.dup, 1) := by decide +kernel
theorem dX9_line_74 : decode cX9_line 74 = .ok (.getfield 83, 3) := by decide +kernel
theorem dX9_line_77 : decode cX9_line 77 = .ok (.iconst 1, 1) := by decide +kernel
theorem dX9_line_78 : decode cX9_line 78 = .ok (.iadd, 1) := by decide +kernel
theorem dX9_line_79 : decode cX9_line 79 = .ok (.putfield 83, 3) := by decide +kernel
theorem dX9_line_82 : decode cX9_line 82 = .ok (.aload_n 0, 1) := by decide +kernel
theorem dX9_line_83 : decode cX9_line 83 = .ok (.iconst 0, 1) := by decide +kernel
theorem dX9_line_84 : decode cX9_line 84 = .ok (.putfield 58, 3) := by decide +kernel
theorem dX9_line_87 : decode cX9_line 87 = .ok (.aload_n 0, 1) := by decide +kernel
theorem dX9_line_88 : decode cX9_line 88 = .ok (.getfield 83, 3) := by decide +kernel
theorem dX9_line_91 : decode cX9_line 91 = .ok (.ireturn, 1) := by decide +kernel
theorem dX9_line_92 : decode cX9_line 92 = .ok (.aload_n 0, 1) := by decide +kernel
theorem dX9_line_93 : decode cX9_line 93 = .ok (.iconst 0, 1) := by decide +kernel
theorem dX9_line_94 : decode cX9_line 94 = .ok (.putfield 58, 3) := by decide +kernel
theorem dX9_line_97 : decode cX9_line 97 = .ok (.iload_n 3, 1) := by decide +kernel
theorem dX9_line_98 : decode cX9_line 98 = .ok (.ifCond .eq 8, 3) := by decide +kernel
theorem dX9_line_101 : decode cX9_line 101 = .ok (.bipush (-4), 2) := by decide +kernel
theorem dX9_line_103 : decode cX9_line 103 = .ok (.goto 5, 3) := by decide +kernel
theorem dX9_line_106 : decode cX9_line 106 = .ok (.bipush (-2), 2) := by decide +kernel
theorem dX9_line_108 : decode cX9_line 108 = .ok (.ireturn, 1) := by decide +kernel
theorem dX9_sum_0 : decode cX9_sum 0 = .ok (.aload_n 0, 1) := by decide +kernel
theorem dX9_sum_1 : decode cX9_sum 1 = .ok (.iconst 0, 1) := by decide +kernel
theorem dX9_sum_2 : decode cX9_sum 2 = .ok (.putfield 54, 3) := by decide +kernel
theorem dX9_sum_5 : decode cX9_sum 5 = .ok (.iconst 1, 1) := by decide +kernel
theorem dX9_sum_6 : decode cX9_sum 6 = .ok (.istore_n 1, 1) := by decide +kernel
theorem dX9_sum_7 : decode cX9_sum 7 = .ok (.iconst 0, 1) := by decide +kernel
theorem dX9_sum_8 : decode cX9_sum 8 = .ok (.istore_n 2, 1) := by decide +kernel
theorem dX9_sum_9 : decode cX9_sum 9 = .ok (.iload_n 2, 1) := by decide +kernel
theorem dX9_sum_10 : decode cX9_sum 10 = .ok (.aload_n 0, 1) := by decide +kernel
theorem dX9_sum_11 : decode cX9_sum 11 = .ok (.getfield 61, 3) := by decide +kernel
theorem dX9_sum_14 : decode cX9_sum 14 = .ok (.if_icmp .ge 25, 3) := by decide +kernel
theorem dX9_sum_17 : decode cX9_sum 17 = .ok (.ldc 86, 2) := by decide +kernel
theorem dX9_sum_19 : decode cX9_sum 19 = .ok (.iload_n 1, 1) := by decide +kernel
theorem dX9_sum_20 : decode cX9_sum 20 = .ok (.imul, 1) := by decide +kernel
theorem dX9_sum_21 : decode cX9_sum 21 = .ok (.aload_n 0, 1) := by decide +kernel
theorem dX9_sum_22 : decode cX9_sum 22 = .ok (.getfield 13, 3) := by decide +kernel
theorem dX9_sum_25 : decode cX9_sum 25 = .ok (.iload_n 2, 1) := by decide +kernel
theorem dX9_sum_26 : decode cX9_sum 26 = .ok (.baload, 1) := by decide +kernel
theorem dX9_sum_27 : decode cX9_sum 27 = .ok (.sipush 255, 3) := by decide +kernel
theorem dX9_sum_30 : decode cX9_sum 30 = .ok (.iand, 1) := by decide +kernel
theorem dX9_sum_31 : decode cX9_sum 31 = .ok (.iadd, 1) := by decide +kernel
theorem dX9_sum_32 : decode cX9_sum 32 = .ok (.istore_n 1, 1) := by decide +kernel
theorem dX9_sum_33 : decode cX9_sum 33 = .ok (.iinc 2 1, 3) := by decide +kernel
theorem dX9_sum_36 : decode cX9_sum 36 = .ok (.goto (-27), 3) := by decide +kernel
theorem dX9_sum_39 : decode cX9_sum 39 = .ok (.iload_n 1, 1) := by decide +kernel
theorem dX9_sum_40 : decode cX9_sum 40 = .ok (.ireturn, 1) := by decide +kernel
theorem dX9_sumOf_0 : decode cX9_sumOf 0 = .ok (.iconst 1, 1) := by decide +kernel
theorem dX9_sumOf_1 : decode cX9_sumOf 1 = .ok (.istore_n 2, 1) := by decide +kernel
theorem dX9_sumOf_2 : decode cX9_sumOf 2 = .ok (.iconst 0, 1) := by decide +kernel
theorem dX9_sumOf_3 : decode cX9_sumOf 3 = .ok (.istore_n 3, 1) := by decide +kernel
theorem dX9_sumOf_4 : decode cX9_sumOf 4 = .ok (.iload_n 3, 1) := by decide +kernel
theorem dX9_sumOf_5 : decode cX9_sumOf 5 = .ok (.aload_n 0, 1) := by decide +kernel
theorem dX9_sumOf_6 : decode cX9_sumOf 6 = .ok (.getfield 23, 3) := by decide +kernel
theorem dX9_sumOf_9 : decode cX9_sumOf 9 = .ok (.iload_n 1, 1) := by decide +kernel
theorem dX9_sumOf_10 : decode cX9_sumOf 10 = .ok (.iaload, 1) := by decide +kernel
theorem dX9_sumOf_11 : decode cX9_sumOf 11 = .ok (.if_icmp .ge 30, 3) := by decide +kernel
theorem dX9_sumOf_14 : decode cX9_sumOf 14 = .ok (.ldc 86, 2) := by decide +kernel
theorem dX9_sumOf_16 : decode cX9_sumOf 16 = .ok (.iload_n 2, 1) := by decide +kernel
theorem dX9_sumOf_17 : decode cX9_sumOf 17 = .ok (.imul, 1) := by decide +kernel
theorem dX9_sumOf_18 : decode cX9_sumOf 18 = .ok (.aload_n 0, 1) := by decide +kernel
theorem dX9_sumOf_19 : decode cX9_sumOf 19 = .ok (.getfield 26, 3) := by decide +kernel
theorem dX9_sumOf_22 : decode cX9_sumOf 22 = .ok (.bipush 40, 2) := by decide +kernel
theorem dX9_sumOf_24 : decode cX9_sumOf 24 = .ok (.iload_n 1, 1) := by decide +kernel
theorem dX9_sumOf_25 : decode cX9_sumOf 25 = .ok (.imul, 1) := by decide +kernel
theorem dX9_sumOf_26 : decode cX9_sumOf 26 = .ok (.iload_n 3, 1) := by decide +kernel
theorem dX9_sumOf_27 : decode cX9_sumOf 27 = .ok (.iadd, 1) := by decide +kernel
theorem dX9_sumOf_28 : decode cX9_sumOf 28 = .ok (.baload, 1) := by decide +kernel
theorem dX9_sumOf_29 : decode cX9_sumOf 29 = .ok (.sipush 255, 3) := by decide +kernel
theorem dX9_sumOf_32 : decode cX9_sumOf 32 = .ok (.iand, 1) := by decide +kernel
theorem dX9_sumOf_33 : decode cX9_sumOf 33 = .ok (.iadd, 1) := by decide +kernel
theorem dX9_sumOf_34 : decode cX9_sumOf 34 = .ok (.istore_n 2, 1) := by decide +kernel
theorem dX9_sumOf_35 : decode cX9_sumOf 35 = .ok (.iinc 3 1, 3) := by decide +kernel
theorem dX9_sumOf_38 : decode cX9_sumOf 38 = .ok (.goto (-34), 3) := by decide +kernel
theorem dX9_sumOf_41 : decode cX9_sumOf 41 = .ok (.iload_n 2, 1) := by decide +kernel
theorem dX9_sumOf_42 : decode cX9_sumOf 42 = .ok (.ireturn, 1) := by decide +kernel
theorem dX9_order_0 : decode cX9_order 0 = .ok (.iconst 0, 1) := by decide +kernel
theorem dX9_order_1 : decode cX9_order 1 = .ok (.istore_n 3, 1) := by decide +kernel
theorem dX9_order_2 : decode cX9_order 2 = .ok (.iload_n 3, 1) := by decide +kernel
theorem dX9_order_3 : decode cX9_order 3 = .ok (.bipush 24, 2) := by decide +kernel
theorem dX9_order_5 : decode cX9_order 5 = .ok (.if_icmp .ge 76, 3) := by decide +kernel
theorem dX9_order_8 : decode cX9_order 8 = .ok (.iload_n 3, 1) := by decide +kernel
theorem dX9_order_9 : decode cX9_order 9 = .ok (.aload_n 0, 1) := by decide +kernel
theorem dX9_order_10 : decode cX9_order 10 = .ok (.getfield 16, 3) := by decide +kernel
theorem dX9_order_13 : decode cX9_order 13 = .ok (.iload_n 1, 1) := by decide +kernel
theorem dX9_order_14 : decode cX9_order 14 = .ok (.iaload, 1) := by decide +kernel
theorem dX9_order_15 : decode cX9_order 15 = .ok (.if_icmp .ge 17, 3) := by decide +kernel
theorem dX9_order_18 : decode cX9_order 18 = .ok (.aload_n 0, 1) := by decide +kernel
theorem dX9_order_19 : decode cX9_order 19 = .ok (.getfield 20, 3) := by decide +kernel
theorem dX9_order_22 : decode cX9_order 22 = .ok (.bipush 24, 2) := by decide +kernel
theorem dX9_order_24 : decode cX9_order 24 = .ok (.iload_n 1, 1) := by decide +kernel
theorem dX9_order_25 : decode cX9_order 25 = .ok (.imul, 1) := by decide +kernel
theorem dX9_order_26 : decode cX9_order 26 = .ok (.iload_n 3, 1) := by decide +kernel
theorem dX9_order_27 : decode cX9_order 27 = .ok (.iadd, 1) := by decide +kernel
theorem dX9_order_28 : decode cX9_order 28 = .ok (.baload, 1) := by decide +kernel
theorem dX9_order_29 : decode cX9_order 29 = .ok (.goto 4, 3) := by decide +kernel
theorem dX9_order_32 : decode cX9_order 32 = .ok (.iconst (-1), 1) := by decide +kernel
theorem dX9_order_33 : decode cX9_order 33 = .ok (.istore 4, 2) := by decide +kernel
theorem dX9_order_35 : decode cX9_order 35 = .ok (.iload_n 3, 1) := by decide +kernel
theorem dX9_order_36 : decode cX9_order 36 = .ok (.aload_n 0, 1) := by decide +kernel
theorem dX9_order_37 : decode cX9_order 37 = .ok (.getfield 16, 3) := by decide +kernel
theorem dX9_order_40 : decode cX9_order 40 = .ok (.iload_n 2, 1) := by decide +kernel
theorem dX9_order_41 : decode cX9_order 41 = .ok (.iaload, 1) := by decide +kernel
theorem dX9_order_42 : decode cX9_order 42 = .ok (.if_icmp .ge 17, 3) := by decide +kernel
theorem dX9_order_45 : decode cX9_order 45 = .ok (.aload_n 0, 1) := by decide +kernel
theorem dX9_order_46 : decode cX9_order 46 = .ok (.getfield 20, 3) := by decide +kernel
theorem dX9_order_49 : decode cX9_order 49 = .ok (.bipush 24, 2) := by decide +kernel
theorem dX9_order_51 : decode cX9_order 51 = .ok (.iload_n 2, 1) := by decide +kernel
theorem dX9_order_52 : decode cX9_order 52 = .ok (.imul, 1) := by decide +kernel
theorem dX9_order_53 : decode cX9_order 53 = .ok (.iload_n 3, 1) := by decide +kernel
theorem dX9_order_54 : decode cX9_order 54 = .ok (.iadd, 1) := by decide +kernel
theorem dX9_order_55 : decode cX9_order 55 = .ok (.baload, 1) := by decide +kernel
theorem dX9_order_56 : decode cX9_order 56 = .ok (.goto 4, 3) := by decide +kernel
theorem dX9_order_59 : decode cX9_order 59 = .ok (.iconst (-1), 1) := by decide +kernel
theorem dX9_order_60 : decode cX9_order 60 = .ok (.istore 5, 2) := by decide +kernel
theorem dX9_order_62 : decode cX9_order 62 = .ok (.iload 4, 2) := by decide +kernel
theorem dX9_order_64 : decode cX9_order 64 = .ok (.iload 5, 2) := by decide +kernel
theorem dX9_order_66 : decode cX9_order 66 = .ok (.if_icmp .eq 9, 3) := by decide +kernel
theorem dX9_order_69 : decode cX9_order 69 = .ok (.iload 4, 2) := by decide +kernel
theorem dX9_order_71 : decode cX9_order 71 = .ok (.iload 5, 2) := by decide +kernel
theorem dX9_order_73 : decode cX9_order 73 = .ok (.isub, 1) := by decide +kernel
theorem dX9_order_74 : decode cX9_order 74 = .ok (.ireturn, 1) := by decide +kernel
theorem dX9_order_75 : decode cX9_order 75 = .ok (.iinc 3 1, 3) := by decide +kernel
theorem dX9_order_78 : decode cX9_order 78 = .ok (.goto (-76), 3) := by decide +kernel
theorem dX9_order_81 : decode cX9_order 81 = .ok (.iconst 0, 1) := by decide +kernel
theorem dX9_order_82 : decode cX9_order 82 = .ok (.ireturn, 1) := by decide +kernel
theorem dX9_first_0 : decode cX9_first 0 = .ok (.iload_n 1, 1) := by decide +kernel
theorem dX9_first_1 : decode cX9_first 1 = .ok (.istore 4, 2) := by decide +kernel
theorem dX9_first_3 : decode cX9_first 3 = .ok (.iload 4, 2) := by decide +kernel
theorem dX9_first_5 : decode cX9_first 5 = .ok (.iload_n 2, 1) := by decide +kernel
theorem dX9_first_6 : decode cX9_first 6 = .ok (.if_icmp .ge 22, 3) := by decide +kernel
theorem dX9_first_9 : decode cX9_first 9 = .ok (.aload_n 0, 1) := by decide +kernel
theorem dX9_first_10 : decode cX9_first 10 = .ok (.iload 4, 2) := by decide +kernel
theorem dX9_first_12 : decode cX9_first 12 = .ok (.iload_n 3, 1) := by decide +kernel
theorem dX9_first_13 : decode cX9_first 13 = .ok (.invokevirtual 87, 3) := by decide +kernel
theorem dX9_first_16 : decode cX9_first 16 = .ok (.ifCond .ne 6, 3) := by decide +kernel
theorem dX9_first_19 : decode cX9_first 19 = .ok (.iload 4, 2) := by decide +kernel
theorem dX9_first_21 : decode cX9_first 21 = .ok (.ireturn, 1) := by decide +kernel
theorem dX9_first_22 : decode cX9_first 22 = .ok (.iinc 4 1, 3) := by decide +kernel
theorem dX9_first_25 : decode cX9_first 25 = .ok (.goto (-22), 3) := by decide +kernel
theorem dX9_first_28 : decode cX9_first 28 = .ok (.iconst (-1), 1) := by decide +kernel
theorem dX9_first_29 : decode cX9_first 29 = .ok (.ireturn, 1) := by decide +kernel
theorem dX9_lineFault_0 : decode cX9_lineFault 0 = .ok (.aload_n 0, 1) := by decide +kernel
theorem dX9_lineFault_1 : decode cX9_lineFault 1 = .ok (.bipush 12, 2) := by decide +kernel
theorem dX9_lineFault_3 : decode cX9_lineFault 3 = .ok (.bipush 12, 2) := by decide +kernel
theorem dX9_lineFault_5 : decode cX9_lineFault 5 = .ok (.iload_n 1, 1) := by decide +kernel
theorem dX9_lineFault_6 : decode cX9_lineFault 6 = .ok (.iadd, 1) := by decide +kernel
theorem dX9_lineFault_7 : decode cX9_lineFault 7 = .ok (.bipush 12, 2) := by decide +kernel
theorem dX9_lineFault_9 : decode cX9_lineFault 9 = .ok (.iload_n 1, 1) := by decide +kernel
theorem dX9_lineFault_10 : decode cX9_lineFault 10 = .ok (.iadd, 1) := by decide +kernel
theorem dX9_lineFault_11 : decode cX9_lineFault 11 = .ok (.invokevirtual 91, 3) := by decide +kernel
theorem dX9_lineFault_14 : decode cX9_lineFault 14 = .ok (.ifCond .lt 5, 3) := by decide +kernel
theorem dX9_lineFault_17 : decode cX9_lineFault 17 = .ok (.iconst 1, 1) := by decide +kernel
theorem dX9_lineFault_18 : decode cX9_lineFault 18 = .ok (.ireturn, 1) := by decide +kernel
theorem dX9_lineFault_19 : decode cX9_lineFault 19 = .ok (.aload_n 0, 1) := by decide +kernel
theorem dX9_lineFault_20 : decode cX9_lineFault 20 = .ok (.iconst 0, 1) := by decide +kernel
theorem dX9_lineFault_21 : decode cX9_lineFault 21 = .ok (.aload_n 0, 1) := by decide +kernel
theorem dX9_lineFault_22 : decode cX9_lineFault 22 = .ok (.getfield 76, 3) := by decide +kernel
theorem dX9_lineFault_25 : decode cX9_lineFault 25 = .ok (.bipush 12, 2) := by decide +kernel
theorem dX9_lineFault_27 : decode cX9_lineFault 27 = .ok (.iload_n 1, 1) := by decide +kernel
theorem dX9_lineFault_28 : decode cX9_lineFault 28 = .ok (.iadd, 1) := by decide +kernel
theorem dX9_lineFault_29 : decode cX9_lineFault 29 = .ok (.invokevirtual 91, 3) := by decide +kernel
theorem dX9_lineFault_32 : decode cX9_lineFault 32 = .ok (.istore_n 2, 1) := by decide +kernel
theorem dX9_lineFault_33 : decode cX9_lineFault 33 = .ok (.iload_n 2, 1) := by decide +kernel
theorem dX9_lineFault_34 : decode cX9_lineFault 34 = .ok (.ifCond .ge 5, 3) := by decide +kernel
theorem dX9_lineFault_37 : decode cX9_lineFault 37 = .ok (.iconst 2, 1) := by decide +kernel
theorem dX9_lineFault_38 : decode cX9_lineFault 38 = .ok (.ireturn, 1) := by decide +kernel
theorem dX9_lineFault_39 : decode cX9_lineFault 39 = .ok (.aload_n 0, 1) := by decide +kernel
theorem dX9_lineFault_40 : decode cX9_lineFault 40 = .ok (.getfield 23, 3) := by decide +kernel
theorem dX9_lineFault_43 : decode cX9_lineFault 43 = .ok (.iload_n 2, 1) := by decide +kernel
theorem dX9_lineFault_44 : decode cX9_lineFault 44 = .ok (.iaload, 1) := by decide +kernel
theorem dX9_lineFault_45 : decode cX9_lineFault 45 = .ok (.aload_n 0, 1) := by decide +kernel
theorem dX9_lineFault_46 : decode cX9_lineFault 46 = .ok (.getfield 29, 3) := by decide +kernel
theorem dX9_lineFault_49 : decode cX9_lineFault 49 = .ok (.iload_n 1, 1) := by decide +kernel
theorem dX9_lineFault_50 : decode cX9_lineFault 50 = .ok (.iaload, 1) := by decide +kernel
theorem dX9_lineFault_51 : decode cX9_lineFault 51 = .ok (.if_icmp .eq 5, 3) := by decide +kernel
theorem dX9_lineFault_54 : decode cX9_lineFault 54 = .ok (.iconst 3, 1) := by decide +kernel
theorem dX9_lineFault_55 : decode cX9_lineFault 55 = .ok (.ireturn, 1) := by decide +kernel
theorem dX9_lineFault_56 : decode cX9_lineFault 56 = .ok (.aload_n 0, 1) := by decide +kernel
theorem dX9_lineFault_57 : decode cX9_lineFault 57 = .ok (.iload_n 2, 1) := by decide +kernel
theorem dX9_lineFault_58 : decode cX9_lineFault 58 = .ok (.invokevirtual 95, 3) := by decide +kernel
theorem dX9_lineFault_61 : decode cX9_lineFault 61 = .ok (.aload_n 0, 1) := by decide +kernel
theorem dX9_lineFault_62 : decode cX9_lineFault 62 = .ok (.getfield 32, 3) := by decide +kernel
theorem dX9_lineFault_65 : decode cX9_lineFault 65 = .ok (.iload_n 1, 1) := by decide +kernel
theorem dX9_lineFault_66 : decode cX9_lineFault 66 = .ok (.iaload, 1) := by decide +kernel
theorem dX9_lineFault_67 : decode cX9_lineFault 67 = .ok (.if_icmp .eq 7, 3) := by decide +kernel
theorem dX9_lineFault_70 : decode cX9_lineFault 70 = .ok (.iconst 4, 1) := by decide +kernel
theorem dX9_lineFault_71 : decode cX9_lineFault 71 = .ok (.goto 4, 3) := by decide +kernel
theorem dX9_lineFault_74 : decode cX9_lineFault 74 = .ok (.iconst 0, 1) := by decide +kernel
theorem dX9_lineFault_75 : decode cX9_lineFault 75 = .ok (.ireturn, 1) := by decide +kernel
theorem dX9_fileFault_0 : decode cX9_fileFault 0 = .ok (.aload_n 0, 1) := by decide +kernel
theorem dX9_fileFault_1 : decode cX9_fileFault 1 = .ok (.iconst 0, 1) := by decide +kernel
theorem dX9_fileFault_2 : decode cX9_fileFault 2 = .ok (.iload_n 1, 1) := by decide +kernel
theorem dX9_fileFault_3 : decode cX9_fileFault 3 = .ok (.iload_n 1, 1) := by decide +kernel
theorem dX9_fileFault_4 : decode cX9_fileFault 4 = .ok (.invokevirtual 91, 3) := by decide +kernel
theorem dX9_fileFault_7 : decode cX9_fileFault 7 = .ok (.ifCond .lt 5, 3) := by decide +kernel
theorem dX9_fileFault_10 : decode cX9_fileFault 10 = .ok (.iconst 5, 1) := by decide +kernel
theorem dX9_fileFault_11 : decode cX9_fileFault 11 = .ok (.ireturn, 1) := by decide +kernel
theorem dX9_fileFault_12 : decode cX9_fileFault 12 = .ok (.aload_n 0, 1) := by decide +kernel
theorem dX9_fileFault_13 : decode cX9_fileFault 13 = .ok (.bipush 12, 2) := by decide +kernel
theorem dX9_fileFault_15 : decode cX9_fileFault 15 = .ok (.bipush 12, 2) := by decide +kernel
theorem dX9_fileFault_17 : decode cX9_fileFault 17 = .ok (.aload_n 0, 1) := by decide +kernel
theorem dX9_fileFault_18 : decode cX9_fileFault 18 = .ok (.getfield 83, 3) := by decide +kernel
theorem dX9_fileFault_21 : decode cX9_fileFault 21 = .ok (.iadd, 1) := by decide +kernel
theorem dX9_fileFault_22 : decode cX9_fileFault 22 = .ok (.iload_n 1, 1) := by decide +kernel
theorem dX9_fileFault_23 : decode cX9_fileFault 23 = .ok (.invokevirtual 91, 3) := by decide +kernel
theorem dX9_fileFault_26 : decode cX9_fileFault 26 = .ok (.ifCond .ge 8, 3) := by decide +kernel
theorem dX9_fileFault_29 : decode cX9_fileFault 29 = .ok (.bipush 6, 2) := by decide +kernel
theorem dX9_fileFault_31 : decode cX9_fileFault 31 = .ok (.goto 4, 3) := by decide +kernel
theorem dX9_fileFault_34 : decode cX9_fileFault 34 = .ok (.iconst 0, 1) := by decide +kernel
theorem dX9_fileFault_35 : decode cX9_fileFault 35 = .ok (.ireturn, 1) := by decide +kernel
theorem dX9_check_0 : decode cX9_check 0 = .ok (.aload_n 0, 1) := by decide +kernel
theorem dX9_check_1 : decode cX9_check 1 = .ok (.iconst 0, 1) := by decide +kernel
theorem dX9_check_2 : decode cX9_check 2 = .ok (.putfield 54, 3) := by decide +kernel
theorem dX9_check_5 : decode cX9_check 5 = .ok (.aload_n 0, 1) := by decide +kernel
theorem dX9_check_6 : decode cX9_check 6 = .ok (.iconst 0, 1) := by decide +kernel
theorem dX9_check_7 : decode cX9_check 7 = .ok (.putfield 99, 3) := by decide +kernel
theorem dX9_check_10 : decode cX9_check 10 = .ok (.iconst 0, 1) := by decide +kernel
theorem dX9_check_11 : decode cX9_check 11 = .ok (.istore_n 1, 1) := by decide +kernel
theorem dX9_check_12 : decode cX9_check 12 = .ok (.iload_n 1, 1) := by decide +kernel
theorem dX9_check_13 : decode cX9_check 13 = .ok (.aload_n 0, 1) := by decide +kernel
theorem dX9_check_14 : decode cX9_check 14 = .ok (.getfield 83, 3) := by decide +kernel
theorem dX9_check_17 : decode cX9_check 17 = .ok (.if_icmp .ge 19, 3) := by decide +kernel
theorem dX9_check_20 : decode cX9_check 20 = .ok (.aload_n 0, 1) := by decide +kernel
theorem dX9_check_21 : decode cX9_check 21 = .ok (.aload_n 0, 1) := by decide +kernel
theorem dX9_check_22 : decode cX9_check 22 = .ok (.iload_n 1, 1) := by decide +kernel
theorem dX9_check_23 : decode cX9_check 23 = .ok (.invokevirtual 102, 3) := by decide +kernel
theorem dX9_check_26 : decode cX9_check 26 = .ok (.iload_n 1, 1) := by decide +kernel
theorem dX9_check_27 : decode cX9_check 27 = .ok (.invokevirtual 105, 3) := by decide +kernel
theorem dX9_check_30 : decode cX9_check 30 = .ok (.iinc 1 1, 3) := by decide +kernel
theorem dX9_check_33 : decode cX9_check 33 = .ok (.goto (-21), 3) := by decide +kernel
theorem dX9_check_36 : decode cX9_check 36 = .ok (.iconst 0, 1) := by decide +kernel
theorem dX9_check_37 : decode cX9_check 37 = .ok (.istore_n 1, 1) := by decide +kernel
theorem dX9_check_38 : decode cX9_check 38 = .ok (.iload_n 1, 1) := by decide +kernel
theorem dX9_check_39 : decode cX9_check 39 = .ok (.aload_n 0, 1) := by decide +kernel
theorem dX9_check_40 : decode cX9_check 40 = .ok (.getfield 76, 3) := by decide +kernel
theorem dX9_check_43 : decode cX9_check 43 = .ok (.if_icmp .ge 19, 3) := by decide +kernel
theorem dX9_check_46 : decode cX9_check 46 = .ok (.aload_n 0, 1) := by decide +kernel
theorem dX9_check_47 : decode cX9_check 47 = .ok (.aload_n 0, 1) := by decide +kernel
theorem dX9_check_48 : decode cX9_check 48 = .ok (.iload_n 1, 1) := by decide +kernel
theorem dX9_check_49 : decode cX9_check 49 = .ok (.invokevirtual 109, 3) := by decide +kernel
theorem dX9_check_52 : decode cX9_check 52 = .ok (.iload_n 1, 1) := by decide +kernel
theorem dX9_check_53 : decode cX9_check 53 = .ok (.invokevirtual 105, 3) := by decide +kernel
theorem dX9_check_56 : decode cX9_check 56 = .ok (.iinc 1 1, 3) := by decide +kernel
theorem dX9_check_59 : decode cX9_check 59 = .ok (.goto (-21), 3) := by decide +kernel
theorem dX9_check_62 : decode cX9_check 62 = .ok (.aload_n 0, 1) := by decide +kernel
theorem dX9_check_63 : decode cX9_check 63 = .ok (.getfield 99, 3) := by decide +kernel
theorem dX9_check_66 : decode cX9_check 66 = .ok (.ireturn, 1) := by decide +kernel
theorem dX9_blame_0 : decode cX9_blame 0 = .ok (.iload_n 1, 1) := by decide +kernel
theorem dX9_blame_1 : decode cX9_blame 1 = .ok (.ifCond .ne 4, 3) := by decide +kernel
theorem dX9_blame_4 : decode cX9_blame 4 = .ok (.return_, 1) := by decide +kernel
theorem dX9_blame_5 : decode cX9_blame 5 = .ok (.aload_n 0, 1) := by decide +kernel
theorem dX9_blame_6 : decode cX9_blame 6 = .ok (.getfield 41, 3) := by decide +kernel
theorem dX9_blame_9 : decode cX9_blame 9 = .ok (.aload_n 0, 1) := by decide +kernel
theorem dX9_blame_10 : decode cX9_blame 10 = .ok (.getfield 99, 3) := by decide +kernel
theorem dX9_blame_13 : decode cX9_blame 13 = .ok (.iload_n 1, 1) := by decide +kernel
theorem dX9_blame_14 : decode cX9_blame 14 = .ok (.iastore, 1) := by decide +kernel
theorem dX9_blame_15 : decode cX9_blame 15 = .ok (.aload_n 0, 1) := by decide +kernel
theorem dX9_blame_16 : decode cX9_blame 16 = .ok (.getfield 44, 3) := by decide +kernel
theorem dX9_blame_19 : decode cX9_blame 19 = .ok (.aload_n 0, 1) := by decide +kernel
theorem dX9_blame_20 : decode cX9_blame 20 = .ok (.getfield 99, 3) := by decide +kernel
theorem dX9_blame_23 : decode cX9_blame 23 = .ok (.iload_n 2, 1) := by decide +kernel
theorem dX9_blame_24 : decode cX9_blame 24 = .ok (.iastore, 1) := by decide +kernel
theorem dX9_blame_25 : decode cX9_blame 25 = .ok (.aload_n 0, 1) := by decide +kernel
theorem dX9_blame_26 : decode cX9_blame 26 = .ok (.dup, 1) := by decide +kernel
theorem dX9_blame_27 : decode cX9_blame 27 = .ok (.getfield 99, 3) := by decide +kernel
theorem dX9_blame_30 : decode cX9_blame 30 = .ok (.iconst 1, 1) := by decide +kernel
theorem dX9_blame_31 : decode cX9_blame 31 = .ok (.iadd, 1) := by decide +kernel
theorem dX9_blame_32 : decode cX9_blame 32 = .ok (.putfield 99, 3) := by decide +kernel
theorem dX9_blame_35 : decode cX9_blame 35 = .ok (.return_, 1) := by decide +kernel
theorem dX9_fault_0 : decode cX9_fault 0 = .ok (.aload_n 0, 1) := by decide +kernel
theorem dX9_fault_1 : decode cX9_fault 1 = .ok (.iload_n 1, 1) := by decide +kernel
theorem dX9_fault_2 : decode cX9_fault 2 = .ok (.iconst 0, 1) := by decide +kernel
theorem dX9_fault_3 : decode cX9_fault 3 = .ok (.aload_n 0, 1) := by decide +kernel
theorem dX9_fault_4 : decode cX9_fault 4 = .ok (.getfield 99, 3) := by decide +kernel
theorem dX9_fault_7 : decode cX9_fault 7 = .ok (.iconst 1, 1) := by decide +kernel
theorem dX9_fault_8 : decode cX9_fault 8 = .ok (.isub, 1) := by decide +kernel
theorem dX9_fault_9 : decode cX9_fault 9 = .ok (.invokestatic 64, 3) := by decide +kernel
theorem dX9_fault_12 : decode cX9_fault 12 = .ok (.ifCond .eq 7, 3) := by decide +kernel
theorem dX9_fault_15 : decode cX9_fault 15 = .ok (.iconst 0, 1) := by decide +kernel
theorem dX9_fault_16 : decode cX9_fault 16 = .ok (.goto 4, 3) := by decide +kernel
theorem dX9_fault_19 : decode cX9_fault 19 = .ok (.iconst 1, 1) := by decide +kernel
theorem dX9_fault_20 : decode cX9_fault 20 = .ok (.putfield 54, 3) := by decide +kernel
theorem dX9_fault_23 : decode cX9_fault 23 = .ok (.aload_n 0, 1) := by decide +kernel
theorem dX9_fault_24 : decode cX9_fault 24 = .ok (.getfield 54, 3) := by decide +kernel
theorem dX9_fault_27 : decode cX9_fault 27 = .ok (.ifCond .le 5, 3) := by decide +kernel
theorem dX9_fault_30 : decode cX9_fault 30 = .ok (.iconst 0, 1) := by decide +kernel
theorem dX9_fault_31 : decode cX9_fault 31 = .ok (.ireturn, 1) := by decide +kernel
theorem dX9_fault_32 : decode cX9_fault 32 = .ok (.iload_n 2, 1) := by decide +kernel
theorem dX9_fault_33 : decode cX9_fault 33 = .ok (.ifCond .ne 12, 3) := by decide +kernel
theorem dX9_fault_36 : decode cX9_fault 36 = .ok (.aload_n 0, 1) := by decide +kernel
theorem dX9_fault_37 : decode cX9_fault 37 = .ok (.getfield 41, 3) := by decide +kernel
theorem dX9_fault_40 : decode cX9_fault 40 = .ok (.iload_n 1, 1) := by decide +kernel
theorem dX9_fault_41 : decode cX9_fault 41 = .ok (.iaload, 1) := by decide +kernel
theorem dX9_fault_42 : decode cX9_fault 42 = .ok (.goto 18, 3) := by decide +kernel
theorem dX9_fault_45 : decode cX9_fault 45 = .ok (.iload_n 2, 1) := by decide +kernel
theorem dX9_fault_46 : decode cX9_fault 46 = .ok (.iconst 1, 1) := by decide +kernel
theorem dX9_fault_47 : decode cX9_fault 47 = .ok (.if_icmp .ne 12, 3) := by decide +kernel
theorem dX9_fault_50 : decode cX9_fault 50 = .ok (.aload_n 0, 1) := by decide +kernel
theorem dX9_fault_51 : decode cX9_fault 51 = .ok (.getfield 44, 3) := by decide +kernel
theorem dX9_fault_54 : decode cX9_fault 54 = .ok (.iload_n 1, 1) := by decide +kernel
theorem dX9_fault_55 : decode cX9_fault 55 = .ok (.iaload, 1) := by decide +kernel
theorem dX9_fault_56 : decode cX9_fault 56 = .ok (.goto 4, 3) := by decide +kernel
theorem dX9_fault_59 : decode cX9_fault 59 = .ok (.iconst (-1), 1) := by decide +kernel
theorem dX9_fault_60 : decode cX9_fault 60 = .ok (.ireturn, 1) := by decide +kernel
theorem dX9_copy_0 : decode cX9_copy 0 = .ok (.aload_n 0, 1) := by decide +kernel
theorem dX9_copy_1 : decode cX9_copy 1 = .ok (.getfield 16, 3) := by decide +kernel
theorem dX9_copy_4 : decode cX9_copy 4 = .ok (.iload_n 1, 1) := by decide +kernel
theorem dX9_copy_5 : decode cX9_copy 5 = .ok (.aload_n 0, 1) := by decide +kernel
theorem dX9_copy_6 : decode cX9_copy 6 = .ok (.getfield 16, 3) := by decide +kernel
theorem dX9_copy_9 : decode cX9_copy 9 = .ok (.iload_n 2, 1) := by decide +kernel
theorem dX9_copy_10 : decode cX9_copy 10 = .ok (.iaload, 1) := by decide +kernel
theorem dX9_copy_11 : decode cX9_copy 11 = .ok (.iastore, 1) := by decide +kernel
theorem dX9_copy_12 : decode cX9_copy 12 = .ok (.iconst 0, 1) := by decide +kernel
theorem dX9_copy_13 : decode cX9_copy 13 = .ok (.istore_n 3, 1) := by decide +kernel
theorem dX9_copy_14 : decode cX9_copy 14 = .ok (.iload_n 3, 1) := by decide +kernel
theorem dX9_copy_15 : decode cX9_copy 15 = .ok (.bipush 24, 2) := by decide +kernel
theorem dX9_copy_17 : decode cX9_copy 17 = .ok (.if_icmp .ge 31, 3) := by decide +kernel
theorem dX9_copy_20 : decode cX9_copy 20 = .ok (.aload_n 0, 1) := by decide +kernel
theorem dX9_copy_21 : decode cX9_copy 21 = .ok (.getfield 20, 3) := by decide +kernel
theorem dX9_copy_24 : decode cX9_copy 24 = .ok (.bipush 24, 2) := by decide +kernel
theorem dX9_copy_26 : decode cX9_copy 26 = .ok (.iload_n 1, 1) := by decide +kernel
theorem dX9_copy_27 : decode cX9_copy 27 = .ok (.imul, 1) := by decide +kernel
theorem dX9_copy_28 : decode cX9_copy 28 = .ok (.iload_n 3, 1) := by decide +kernel
theorem dX9_copy_29 : decode cX9_copy 29 = .ok (.iadd, 1) := by decide +kernel
theorem dX9_copy_30 : decode cX9_copy 30 = .ok (.aload_n 0, 1) := by decide +kernel
theorem dX9_copy_31 : decode cX9_copy 31 = .ok (.getfield 20, 3) := by decide +kernel
theorem dX9_copy_34 : decode cX9_copy 34 = .ok (.bipush 24, 2) := by decide +kernel
theorem dX9_copy_36 : decode cX9_copy 36 = .ok (.iload_n 2, 1) := by decide +kernel
theorem dX9_copy_37 : decode cX9_copy 37 = .ok (.imul, 1) := by decide +kernel
theorem dX9_copy_38 : decode cX9_copy 38 = .ok (.iload_n 3, 1) := by decide +kernel
theorem dX9_copy_39 : decode cX9_copy 39 = .ok (.iadd, 1) := by decide +kernel
theorem dX9_copy_40 : decode cX9_copy 40 = .ok (.baload, 1) := by decide +kernel
theorem dX9_copy_41 : decode cX9_copy 41 = .ok (.bastore, 1) := by decide +kernel
theorem dX9_copy_42 : decode cX9_copy 42 = .ok (.iinc 3 1, 3) := by decide +kernel
theorem dX9_copy_45 : decode cX9_copy 45 = .ok (.goto (-31), 3) := by decide +kernel
theorem dX9_copy_48 : decode cX9_copy 48 = .ok (.aload_n 0, 1) := by decide +kernel
theorem dX9_copy_49 : decode cX9_copy 49 = .ok (.getfield 23, 3) := by decide +kernel
theorem dX9_copy_52 : decode cX9_copy 52 = .ok (.iload_n 1, 1) := by decide +kernel
theorem dX9_copy_53 : decode cX9_copy 53 = .ok (.aload_n 0, 1) := by decide +kernel
theorem dX9_copy_54 : decode cX9_copy 54 = .ok (.getfield 23, 3) := by decide +kernel
theorem dX9_copy_57 : decode cX9_copy 57 = .ok (.iload_n 2, 1) := by decide +kernel
theorem dX9_copy_58 : decode cX9_copy 58 = .ok (.iaload, 1) := by decide +kernel
theorem dX9_copy_59 : decode cX9_copy 59 = .ok (.iastore, 1) := by decide +kernel
theorem dX9_copy_60 : decode cX9_copy 60 = .ok (.iconst 0, 1) := by decide +kernel
theorem dX9_copy_61 : decode cX9_copy 61 = .ok (.istore_n 3, 1) := by decide +kernel
theorem dX9_copy_62 : decode cX9_copy 62 = .ok (.iload_n 3, 1) := by decide +kernel
theorem dX9_copy_63 : decode cX9_copy 63 = .ok (.bipush 40, 2) := by decide +kernel
theorem dX9_copy_65 : decode cX9_copy 65 = .ok (.if_icmp .ge 31, 3) := by decide +kernel
theorem dX9_copy_68 : decode cX9_copy 68 = .ok (.aload_n 0, 1) := by decide +kernel
theorem dX9_copy_69 : decode cX9_copy 69 = .ok (.getfield 26, 3) := by decide +kernel
theorem dX9_copy_72 : decode cX9_copy 72 = .ok (.bipush 40, 2) := by decide +kernel
theorem dX9_copy_74 : decode cX9_copy 74 = .ok (.iload_n 1, 1) := by decide +kernel
theorem dX9_copy_75 : decode cX9_copy 75 = .ok (.imul, 1) := by decide +kernel
theorem dX9_copy_76 : decode cX9_copy 76 = .ok (.iload_n 3, 1) := by decide +kernel
theorem dX9_copy_77 : decode cX9_copy 77 = .ok (.iadd, 1) := by decide +kernel
theorem dX9_copy_78 : decode cX9_copy 78 = .ok (.aload_n 0, 1) := by decide +kernel
theorem dX9_copy_79 : decode cX9_copy 79 = .ok (.getfield 26, 3) := by decide +kernel
theorem dX9_copy_82 : decode cX9_copy 82 = .ok (.bipush 40, 2) := by decide +kernel
theorem dX9_copy_84 : decode cX9_copy 84 = .ok (.iload_n 2, 1) := by decide +kernel
theorem dX9_copy_85 : decode cX9_copy 85 = .ok (.imul, 1) := by decide +kernel
theorem dX9_copy_86 : decode cX9_copy 86 = .ok (.iload_n 3, 1) := by decide +kernel
theorem dX9_copy_87 : decode cX9_copy 87 = .ok (.iadd, 1) := by decide +kernel
theorem dX9_copy_88 : decode cX9_copy 88 = .ok (.baload, 1) := by decide +kernel
theorem dX9_copy_89 : decode cX9_copy 89 = .ok (.bastore, 1) := by decide +kernel
theorem dX9_copy_90 : decode cX9_copy 90 = .ok (.iinc 3 1, 3) := by decide +kernel
theorem dX9_copy_93 : decode cX9_copy 93 = .ok (.goto (-31), 3) := by decide +kernel
theorem dX9_copy_96 : decode cX9_copy 96 = .ok (.return_, 1) := by decide +kernel
theorem dX9_alike_0 : decode cX9_alike 0 = .ok (.aload_n 0, 1) := by decide +kernel
theorem dX9_alike_1 : decode cX9_alike 1 = .ok (.getfield 23, 3) := by decide +kernel
theorem dX9_alike_4 : decode cX9_alike 4 = .ok (.iload_n 1, 1) := by decide +kernel
theorem dX9_alike_5 : decode cX9_alike 5 = .ok (.iaload, 1) := by decide +kernel
theorem dX9_alike_6 : decode cX9_alike 6 = .ok (.aload_n 0, 1) := by decide +kernel
theorem dX9_alike_7 : decode cX9_alike 7 = .ok (.getfield 23, 3) := by decide +kernel
theorem dX9_alike_10 : decode cX9_alike 10 = .ok (.iload_n 2, 1) := by decide +kernel
theorem dX9_alike_11 : decode cX9_alike 11 = .ok (.iaload, 1) := by decide +kernel
theorem dX9_alike_12 : decode cX9_alike 12 = .ok (.if_icmp .ne 7, 3) := by decide +kernel
theorem dX9_alike_15 : decode cX9_alike 15 = .ok (.iconst 1, 1) := by decide +kernel
theorem dX9_alike_16 : decode cX9_alike 16 = .ok (.goto 4, 3) := by decide +kernel
theorem dX9_alike_19 : decode cX9_alike 19 = .ok (.iconst 0, 1) := by decide +kernel
theorem dX9_alike_20 : decode cX9_alike 20 = .ok (.istore_n 3, 1) := by decide +kernel
theorem dX9_alike_21 : decode cX9_alike 21 = .ok (.iconst 0, 1) := by decide +kernel
theorem dX9_alike_22 : decode cX9_alike 22 = .ok (.istore 4, 2) := by decide +kernel
theorem dX9_alike_24 : decode cX9_alike 24 = .ok (.iload 4, 2) := by decide +kernel
theorem dX9_alike_26 : decode cX9_alike 26 = .ok (.aload_n 0, 1) := by decide +kernel
theorem dX9_alike_27 : decode cX9_alike 27 = .ok (.getfield 23, 3) := by decide +kernel
theorem dX9_alike_30 : decode cX9_alike 30 = .ok (.iload_n 1, 1) := by decide +kernel
theorem dX9_alike_31 : decode cX9_alike 31 = .ok (.iaload, 1) := by decide +kernel
theorem dX9_alike_32 : decode cX9_alike 32 = .ok (.if_icmp .ge 46, 3) := by decide +kernel
theorem dX9_alike_35 : decode cX9_alike 35 = .ok (.iload_n 3, 1) := by decide +kernel
theorem dX9_alike_36 : decode cX9_alike 36 = .ok (.ifCond .eq 42, 3) := by decide +kernel
theorem dX9_alike_39 : decode cX9_alike 39 = .ok (.aload_n 0, 1) := by decide +kernel
theorem dX9_alike_40 : decode cX9_alike 40 = .ok (.getfield 26, 3) := by decide +kernel
theorem dX9_alike_43 : decode cX9_alike 43 = .ok (.bipush 40, 2) := by decide +kernel
theorem dX9_alike_45 : decode cX9_alike 45 = .ok (.iload_n 1, 1) := by decide +kernel
theorem dX9_alike_46 : decode cX9_alike 46 = .ok (.imul, 1) := by decide +kernel
theorem dX9_alike_47 : decode cX9_alike 47 = .ok (.iload 4, 2) := by decide +kernel
theorem dX9_alike_49 : decode cX9_alike 49 = .ok (.iadd, 1) := by decide +kernel
theorem dX9_alike_50 : decode cX9_alike 50 = .ok (.baload, 1) := by decide +kernel
theorem dX9_alike_51 : decode cX9_alike 51 = .ok (.aload_n 0, 1) := by decide +kernel
theorem dX9_alike_52 : decode cX9_alike 52 = .ok (.getfield 26, 3) := by decide +kernel
theorem dX9_alike_55 : decode cX9_alike 55 = .ok (.bipush 40, 2) := by decide +kernel
theorem dX9_alike_57 : decode cX9_alike 57 = .ok (.iload_n 2, 1) := by decide +kernel
theorem dX9_alike_58 : decode cX9_alike 58 = .ok (.imul, 1) := by decide +kernel
theorem dX9_alike_59 : decode cX9_alike 59 = .ok (.iload 4, 2) := by decide +kernel
theorem dX9_alike_61 : decode cX9_alike 61 = .ok (.iadd, 1) := by decide +kernel
theorem dX9_alike_62 : decode cX9_alike 62 = .ok (.baload, 1) := by decide +kernel
theorem dX9_alike_63 : decode cX9_alike 63 = .ok (.if_icmp .ne 7, 3) := by decide +kernel
theorem dX9_alike_66 : decode cX9_alike 66 = .ok (.iconst 1, 1) := by decide +kernel
theorem dX9_alike_67 : decode cX9_alike 67 = .ok (.goto 4, 3) := by decide +kernel
theorem dX9_alike_70 : decode cX9_alike 70 = .ok (.iconst 0, 1) := by decide +kernel
theorem dX9_alike_71 : decode cX9_alike 71 = .ok (.istore_n 3, 1) := by decide +kernel
theorem dX9_alike_72 : decode cX9_alike 72 = .ok (.iinc 4 1, 3) := by decide +kernel
theorem dX9_alike_75 : decode cX9_alike 75 = .ok (.goto (-51), 3) := by decide +kernel
theorem dX9_alike_78 : decode cX9_alike 78 = .ok (.iload_n 3, 1) := by decide +kernel
theorem dX9_alike_79 : decode cX9_alike 79 = .ok (.ireturn, 1) := by decide +kernel
theorem dX9_accept_0 : decode cX9_accept 0 = .ok (.aload_n 0, 1) := by decide +kernel
theorem dX9_accept_1 : decode cX9_accept 1 = .ok (.invokevirtual 112, 3) := by decide +kernel
theorem dX9_accept_4 : decode cX9_accept 4 = .ok (.istore_n 1, 1) := by decide +kernel
theorem dX9_accept_5 : decode cX9_accept 5 = .ok (.iload_n 1, 1) := by decide +kernel
theorem dX9_accept_6 : decode cX9_accept 6 = .ok (.ifCond .le 8, 3) := by decide +kernel
theorem dX9_accept_9 : decode cX9_accept 9 = .ok (.bipush (-10), 2) := by decide +kernel
theorem dX9_accept_11 : decode cX9_accept 11 = .ok (.iload_n 1, 1) := by decide +kernel
theorem dX9_accept_12 : decode cX9_accept 12 = .ok (.isub, 1) := by decide +kernel
theorem dX9_accept_13 : decode cX9_accept 13 = .ok (.ireturn, 1) := by decide +kernel
theorem dX9_accept_14 : decode cX9_accept 14 = .ok (.aload_n 0, 1) := by decide +kernel
theorem dX9_accept_15 : decode cX9_accept 15 = .ok (.getfield 116, 3) := by decide +kernel
theorem dX9_accept_18 : decode cX9_accept 18 = .ok (.bipush 12, 2) := by decide +kernel
theorem dX9_accept_20 : decode cX9_accept 20 = .ok (.if_icmp .ne 6, 3) := by decide +kernel
theorem dX9_accept_23 : decode cX9_accept 23 = .ok (.bipush (-3), 2) := by decide +kernel
theorem dX9_accept_25 : decode cX9_accept 25 = .ok (.ireturn, 1) := by decide +kernel
theorem dX9_accept_26 : decode cX9_accept 26 = .ok (.aload_n 0, 1) := by decide +kernel
theorem dX9_accept_27 : decode cX9_accept 27 = .ok (.getfield 76, 3) := by decide +kernel
theorem dX9_accept_30 : decode cX9_accept 30 = .ok (.bipush 8, 2) := by decide +kernel
theorem dX9_accept_32 : decode cX9_accept 32 = .ok (.if_icmp .le 6, 3) := by decide +kernel
theorem dX9_accept_35 : decode cX9_accept 35 = .ok (.bipush (-4), 2) := by decide +kernel
theorem dX9_accept_37 : decode cX9_accept 37 = .ok (.ireturn, 1) := by decide +kernel
theorem dX9_accept_38 : decode cX9_accept 38 = .ok (.bipush 24, 2) := by decide +kernel
theorem dX9_accept_40 : decode cX9_accept 40 = .ok (.bipush 8, 2) := by decide +kernel
theorem dX9_accept_42 : decode cX9_accept 42 = .ok (.aload_n 0, 1) := by decide +kernel
theorem dX9_accept_43 : decode cX9_accept 43 = .ok (.getfield 116, 3) := by decide +kernel
theorem dX9_accept_46 : decode cX9_accept 46 = .ok (.imul, 1) := by decide +kernel
theorem dX9_accept_47 : decode cX9_accept 47 = .ok (.iadd, 1) := by decide +kernel
theorem dX9_accept_48 : decode cX9_accept 48 = .ok (.istore_n 2, 1) := by decide +kernel
theorem dX9_accept_49 : decode cX9_accept 49 = .ok (.iconst 0, 1) := by decide +kernel
theorem dX9_accept_50 : decode cX9_accept 50 = .ok (.istore_n 3, 1) := by decide +kernel
theorem dX9_accept_51 : decode cX9_accept 51 = .ok (.iload_n 3, 1) := by decide +kernel
theorem dX9_accept_52 : decode cX9_accept 52 = .ok (.aload_n 0, 1) := by decide +kernel
theorem dX9_accept_53 : decode cX9_accept 53 = .ok (.getfield 76, 3) := by decide +kernel
theorem dX9_accept_56 : decode cX9_accept 56 = .ok (.if_icmp .ge 135, 3) := by decide +kernel
theorem dX9_accept_59 : decode cX9_accept 59 = .ok (.iconst 0, 1) := by decide +kernel
theorem dX9_accept_60 : decode cX9_accept 60 = .ok (.istore 4, 2) := by decide +kernel
theorem dX9_accept_62 : decode cX9_accept 62 = .ok (.iconst 0, 1) := by decide +kernel
theorem dX9_accept_63 : decode cX9_accept 63 = .ok (.istore 5, 2) := by decide +kernel
theorem dX9_accept_65 : decode cX9_accept 65 = .ok (.iload 5, 2) := by decide +kernel
theorem dX9_accept_67 : decode cX9_accept 67 = .ok (.aload_n 0, 1) := by decide +kernel
theorem dX9_accept_68 : decode cX9_accept 68 = .ok (.getfield 76, 3) := by decide +kernel
theorem dX9_accept_71 : decode cX9_accept 71 = .ok (.if_icmp .ge 29, 3) := by decide +kernel
theorem dX9_accept_74 : decode cX9_accept 74 = .ok (.iload 4, 2) := by decide +kernel
theorem dX9_accept_76 : decode cX9_accept 76 = .ok (.aload_n 0, 1) := by decide +kernel
theorem dX9_accept_77 : decode cX9_accept 77 = .ok (.iload 5, 2) := by decide +kernel
theorem dX9_accept_79 : decode cX9_accept 79 = .ok (.iload_n 3, 1) := by decide +kernel
theorem dX9_accept_80 : decode cX9_accept 80 = .ok (.invokevirtual 87, 3) := by decide +kernel
theorem dX9_accept_83 : decode cX9_accept 83 = .ok (.ifCond .ge 7, 3) := by decide +kernel
theorem dX9_accept_86 : decode cX9_accept 86 = .ok (.iconst 1, 1) := by decide +kernel
theorem dX9_accept_87 : decode cX9_accept 87 = .ok (.goto 4, 3) := by decide +kernel
theorem dX9_accept_90 : decode cX9_accept 90 = .ok (.iconst 0, 1) := by decide +kernel
theorem dX9_accept_91 : decode cX9_accept 91 = .ok (.iadd, 1) := by decide +kernel
theorem dX9_accept_92 : decode cX9_accept 92 = .ok (.istore 4, 2) := by decide +kernel
theorem dX9_accept_94 : decode cX9_accept 94 = .ok (.iinc 5 1, 3) := by decide +kernel
theorem dX9_accept_97 : decode cX9_accept 97 = .ok (.goto (-32), 3) := by decide +kernel
theorem dX9_accept_100 : decode cX9_accept 100 = .ok (.aload_n 0, 1) := by decide +kernel
theorem dX9_accept_101 : decode cX9_accept 101 = .ok (.iload_n 2, 1) := by decide +kernel
theorem dX9_accept_102 : decode cX9_accept 102 = .ok (.iload 4, 2) := by decide +kernel
theorem dX9_accept_104 : decode cX9_accept 104 = .ok (.iadd, 1) := by decide +kernel
theorem dX9_accept_105 : decode cX9_accept 105 = .ok (.iload_n 3, 1) := by decide +kernel
theorem dX9_accept_106 : decode cX9_accept 106 = .ok (.invokevirtual 119, 3) := by decide +kernel
theorem dX9_accept_109 : decode cX9_accept 109 = .ok (.aload_n 0, 1) := by decide +kernel
theorem dX9_accept_110 : decode cX9_accept 110 = .ok (.getfield 116, 3) := by decide +kernel
theorem dX9_accept_113 : decode cX9_accept 113 = .ok (.ifCond .ne 7, 3) := by decide +kernel
theorem dX9_accept_116 : decode cX9_accept 116 = .ok (.iconst (-1), 1) := by decide +kernel
theorem dX9_accept_117 : decode cX9_accept 117 = .ok (.goto 28, 3) := by decide +kernel
theorem dX9_accept_120 : decode cX9_accept 120 = .ok (.aload_n 0, 1) := by decide +kernel
theorem dX9_accept_121 : decode cX9_accept 121 = .ok (.iload_n 2, 1) := by decide +kernel
theorem dX9_accept_122 : decode cX9_accept 122 = .ok (.bipush 8, 2) := by decide +kernel
theorem dX9_accept_124 : decode cX9_accept 124 = .ok (.isub, 1) := by decide +kernel
theorem dX9_accept_125 : decode cX9_accept 125 = .ok (.iload_n 2, 1) := by decide +kernel
theorem dX9_accept_126 : decode cX9_accept 126 = .ok (.bipush 8, 2) := by decide +kernel
theorem dX9_accept_128 : decode cX9_accept 128 = .ok (.isub, 1) := by decide +kernel
theorem dX9_accept_129 : decode cX9_accept 129 = .ok (.aload_n 0, 1) := by decide +kernel
theorem dX9_accept_130 : decode cX9_accept 130 = .ok (.getfield 35, 3) := by decide +kernel
theorem dX9_accept_133 : decode cX9_accept 133 = .ok (.aload_n 0, 1) := by decide +kernel
theorem dX9_accept_134 : decode cX9_accept 134 = .ok (.getfield 116, 3) := by decide +kernel
theorem dX9_accept_137 : decode cX9_accept 137 = .ok (.iconst 1, 1) := by decide +kernel
theorem dX9_accept_138 : decode cX9_accept 138 = .ok (.isub, 1) := by decide +kernel
theorem dX9_accept_139 : decode cX9_accept 139 = .ok (.iaload, 1) := by decide +kernel
theorem dX9_accept_140 : decode cX9_accept 140 = .ok (.iadd, 1) := by decide +kernel
theorem dX9_accept_141 : decode cX9_accept 141 = .ok (.iload_n 3, 1) := by decide +kernel
theorem dX9_accept_142 : decode cX9_accept 142 = .ok (.invokevirtual 91, 3) := by decide +kernel
theorem dX9_accept_145 : decode cX9_accept 145 = .ok (.istore 5, 2) := by decide +kernel
theorem dX9_accept_147 : decode cX9_accept 147 = .ok (.aload_n 0, 1) := by decide +kernel
theorem dX9_accept_148 : decode cX9_accept 148 = .ok (.getfield 38, 3) := by decide +kernel
theorem dX9_accept_151 : decode cX9_accept 151 = .ok (.iload_n 2, 1) := by decide +kernel
theorem dX9_accept_152 : decode cX9_accept 152 = .ok (.iload 4, 2) := by decide +kernel
theorem dX9_accept_154 : decode cX9_accept 154 = .ok (.iadd, 1) := by decide +kernel
theorem dX9_accept_155 : decode cX9_accept 155 = .ok (.iload 5, 2) := by decide +kernel
theorem dX9_accept_157 : decode cX9_accept 157 = .ok (.ifCond .lt 23, 3) := by decide +kernel
theorem dX9_accept_160 : decode cX9_accept 160 = .ok (.aload_n 0, 1) := by decide +kernel
theorem dX9_accept_161 : decode cX9_accept 161 = .ok (.iload 5, 2) := by decide +kernel
theorem dX9_accept_163 : decode cX9_accept 163 = .ok (.iload_n 3, 1) := by decide +kernel
theorem dX9_accept_164 : decode cX9_accept 164 = .ok (.invokevirtual 122, 3) := by decide +kernel
theorem dX9_accept_167 : decode cX9_accept 167 = .ok (.ifCond .eq 13, 3) := by decide +kernel
theorem dX9_accept_170 : decode cX9_accept 170 = .ok (.aload_n 0, 1) := by decide +kernel
theorem dX9_accept_171 : decode cX9_accept 171 = .ok (.getfield 38, 3) := by decide +kernel
theorem dX9_accept_174 : decode cX9_accept 174 = .ok (.iload 5, 2) := by decide +kernel
theorem dX9_accept_176 : decode cX9_accept 176 = .ok (.iaload, 1) := by decide +kernel
theorem dX9_accept_177 : decode cX9_accept 177 = .ok (.goto 7, 3) := by decide +kernel
theorem dX9_accept_180 : decode cX9_accept 180 = .ok (.aload_n 0, 1) := by decide +kernel
theorem dX9_accept_181 : decode cX9_accept 181 = .ok (.getfield 116, 3) := by decide +kernel
theorem dX9_accept_184 : decode cX9_accept 184 = .ok (.iastore, 1) := by decide +kernel
theorem dX9_accept_185 : decode cX9_accept 185 = .ok (.iinc 3 1, 3) := by decide +kernel
theorem dX9_accept_188 : decode cX9_accept 188 = .ok (.goto (-137), 3) := by decide +kernel
theorem dX9_accept_191 : decode cX9_accept 191 = .ok (.aload_n 0, 1) := by decide +kernel
theorem dX9_accept_192 : decode cX9_accept 192 = .ok (.getfield 35, 3) := by decide +kernel
theorem dX9_accept_195 : decode cX9_accept 195 = .ok (.aload_n 0, 1) := by decide +kernel
theorem dX9_accept_196 : decode cX9_accept 196 = .ok (.getfield 116, 3) := by decide +kernel
theorem dX9_accept_199 : decode cX9_accept 199 = .ok (.aload_n 0, 1) := by decide +kernel
theorem dX9_accept_200 : decode cX9_accept 200 = .ok (.getfield 76, 3) := by decide +kernel
theorem dX9_accept_203 : decode cX9_accept 203 = .ok (.iastore, 1) := by decide +kernel
theorem dX9_accept_204 : decode cX9_accept 204 = .ok (.aload_n 0, 1) := by decide +kernel
theorem dX9_accept_205 : decode cX9_accept 205 = .ok (.iconst 0, 1) := by decide +kernel
theorem dX9_accept_206 : decode cX9_accept 206 = .ok (.putfield 76, 3) := by decide +kernel
theorem dX9_accept_209 : decode cX9_accept 209 = .ok (.aload_n 0, 1) := by decide +kernel
theorem dX9_accept_210 : decode cX9_accept 210 = .ok (.iconst 0, 1) := by decide +kernel
theorem dX9_accept_211 : decode cX9_accept 211 = .ok (.putfield 83, 3) := by decide +kernel
theorem dX9_accept_214 : decode cX9_accept 214 = .ok (.aload_n 0, 1) := by decide +kernel
theorem dX9_accept_215 : decode cX9_accept 215 = .ok (.dup, 1) := by decide +kernel
theorem dX9_accept_216 : decode cX9_accept 216 = .ok (.getfield 116, 3) := by decide +kernel
theorem dX9_accept_219 : decode cX9_accept 219 = .ok (.iconst 1, 1) := by decide +kernel
theorem dX9_accept_220 : decode cX9_accept 220 = .ok (.iadd, 1) := by decide +kernel
theorem dX9_accept_221 : decode cX9_accept 221 = .ok (.putfield 116, 3) := by decide +kernel
theorem dX9_accept_224 : decode cX9_accept 224 = .ok (.aload_n 0, 1) := by decide +kernel
theorem dX9_accept_225 : decode cX9_accept 225 = .ok (.getfield 116, 3) := by decide +kernel
theorem dX9_accept_228 : decode cX9_accept 228 = .ok (.iconst 1, 1) := by decide +kernel
theorem dX9_accept_229 : decode cX9_accept 229 = .ok (.isub, 1) := by decide +kernel
theorem dX9_accept_230 : decode cX9_accept 230 = .ok (.ireturn, 1) := by decide +kernel
theorem dX9_drop_0 : decode cX9_drop 0 = .ok (.aload_n 0, 1) := by decide +kernel
theorem dX9_drop_1 : decode cX9_drop 1 = .ok (.iconst 0, 1) := by decide +kernel
theorem dX9_drop_2 : decode cX9_drop 2 = .ok (.putfield 54, 3) := by decide +kernel
theorem dX9_drop_5 : decode cX9_drop 5 = .ok (.aload_n 0, 1) := by decide +kernel
theorem dX9_drop_6 : decode cX9_drop 6 = .ok (.getfield 76, 3) := by decide +kernel
theorem dX9_drop_9 : decode cX9_drop 9 = .ok (.aload_n 0, 1) := by decide +kernel
theorem dX9_drop_10 : decode cX9_drop 10 = .ok (.getfield 83, 3) := by decide +kernel
theorem dX9_drop_13 : decode cX9_drop 13 = .ok (.iadd, 1) := by decide +kernel
theorem dX9_drop_14 : decode cX9_drop 14 = .ok (.istore_n 1, 1) := by decide +kernel
theorem dX9_drop_15 : decode cX9_drop 15 = .ok (.aload_n 0, 1) := by decide +kernel
theorem dX9_drop_16 : decode cX9_drop 16 = .ok (.iconst 0, 1) := by decide +kernel
theorem dX9_drop_17 : decode cX9_drop 17 = .ok (.putfield 76, 3) := by decide +kernel
theorem dX9_drop_20 : decode cX9_drop 20 = .ok (.aload_n 0, 1) := by decide +kernel
theorem dX9_drop_21 : decode cX9_drop 21 = .ok (.iconst 0, 1) := by decide +kernel
theorem dX9_drop_22 : decode cX9_drop 22 = .ok (.putfield 83, 3) := by decide +kernel
theorem dX9_drop_25 : decode cX9_drop 25 = .ok (.iload_n 1, 1) := by decide +kernel
theorem dX9_drop_26 : decode cX9_drop 26 = .ok (.ireturn, 1) := by decide +kernel
theorem dX9_isVersion_0 : decode cX9_isVersion 0 = .ok (.iload_n 1, 1) := by decide +kernel
theorem dX9_isVersion_1 : decode cX9_isVersion 1 = .ok (.iconst 0, 1) := by decide +kernel
theorem dX9_isVersion_2 : decode cX9_isVersion 2 = .ok (.aload_n 0, 1) := by decide +kernel
theorem dX9_isVersion_3 : decode cX9_isVersion 3 = .ok (.getfield 116, 3) := by decide +kernel
theorem dX9_isVersion_6 : decode cX9_isVersion 6 = .ok (.iconst 1, 1) := by decide +kernel
theorem dX9_isVersion_7 : decode cX9_isVersion 7 = .ok (.isub, 1) := by decide +kernel
theorem dX9_isVersion_8 : decode cX9_isVersion 8 = .ok (.invokestatic 64, 3) := by decide +kernel
theorem dX9_isVersion_11 : decode cX9_isVersion 11 = .ok (.ireturn, 1) := by decide +kernel
theorem dX9_files_0 : decode cX9_files 0 = .ok (.aload_n 0, 1) := by decide +kernel
theorem dX9_files_1 : decode cX9_files 1 = .ok (.iconst 0, 1) := by decide +kernel
theorem dX9_files_2 : decode cX9_files 2 = .ok (.putfield 54, 3) := by decide +kernel
theorem dX9_files_5 : decode cX9_files 5 = .ok (.aload_n 0, 1) := by decide +kernel
theorem dX9_files_6 : decode cX9_files 6 = .ok (.iload_n 1, 1) := by decide +kernel
theorem dX9_files_7 : decode cX9_files 7 = .ok (.invokevirtual 126, 3) := by decide +kernel
theorem dX9_files_10 : decode cX9_files 10 = .ok (.ifCond .eq 12, 3) := by decide +kernel
theorem dX9_files_13 : decode cX9_files 13 = .ok (.aload_n 0, 1) := by decide +kernel
theorem dX9_files_14 : decode cX9_files 14 = .ok (.getfield 35, 3) := by decide +kernel
theorem dX9_files_17 : decode cX9_files 17 = .ok (.iload_n 1, 1) := by decide +kernel
theorem dX9_files_18 : decode cX9_files 18 = .ok (.iaload, 1) := by decide +kernel
theorem dX9_files_19 : decode cX9_files 19 = .ok (.goto 4, 3) := by decide +kernel
theorem dX9_files_22 : decode cX9_files 22 = .ok (.iconst (-1), 1) := by decide +kernel
theorem dX9_files_23 : decode cX9_files 23 = .ok (.ireturn, 1) := by decide +kernel
theorem dX9_isFile_0 : decode cX9_isFile 0 = .ok (.aload_n 0, 1) := by decide +kernel
theorem dX9_isFile_1 : decode cX9_isFile 1 = .ok (.iload_n 1, 1) := by decide +kernel
theorem dX9_isFile_2 : decode cX9_isFile 2 = .ok (.invokevirtual 126, 3) := by decide +kernel
theorem dX9_isFile_5 : decode cX9_isFile 5 = .ok (.ifCond .eq 23, 3) := by decide +kernel
theorem dX9_isFile_8 : decode cX9_isFile 8 = .ok (.iload_n 2, 1) := by decide +kernel
theorem dX9_isFile_9 : decode cX9_isFile 9 = .ok (.iconst 0, 1) := by decide +kernel
theorem dX9_isFile_10 : decode cX9_isFile 10 = .ok (.aload_n 0, 1) := by decide +kernel
theorem dX9_isFile_11 : decode cX9_isFile 11 = .ok (.getfield 35, 3) := by decide +kernel
theorem dX9_isFile_14 : decode cX9_isFile 14 = .ok (.iload_n 1, 1) := by decide +kernel
theorem dX9_isFile_15 : decode cX9_isFile 15 = .ok (.iaload, 1) := by decide +kernel
theorem dX9_isFile_16 : decode cX9_isFile 16 = .ok (.iconst 1, 1) := by decide +kernel
theorem dX9_isFile_17 : decode cX9_isFile 17 = .ok (.isub, 1) := by decide +kernel
theorem dX9_isFile_18 : decode cX9_isFile 18 = .ok (.invokestatic 64, 3) := by decide +kernel
theorem dX9_isFile_21 : decode cX9_isFile 21 = .ok (.ifCond .eq 7, 3) := by decide +kernel
theorem dX9_isFile_24 : decode cX9_isFile 24 = .ok (.iconst 1, 1) := by decide +kernel
theorem dX9_isFile_25 : decode cX9_isFile 25 = .ok (.goto 4, 3) := by decide +kernel
theorem dX9_isFile_28 : decode cX9_isFile 28 = .ok (.iconst 0, 1) := by decide +kernel
theorem dX9_isFile_29 : decode cX9_isFile 29 = .ok (.ireturn, 1) := by decide +kernel
theorem dX9_about_0 : decode cX9_about 0 = .ok (.aload_n 0, 1) := by decide +kernel
theorem dX9_about_1 : decode cX9_about 1 = .ok (.iconst 0, 1) := by decide +kernel
theorem dX9_about_2 : decode cX9_about 2 = .ok (.putfield 54, 3) := by decide +kernel
theorem dX9_about_5 : decode cX9_about 5 = .ok (.aload_n 0, 1) := by decide +kernel
theorem dX9_about_6 : decode cX9_about 6 = .ok (.iload_n 1, 1) := by decide +kernel
theorem dX9_about_7 : decode cX9_about 7 = .ok (.iload_n 2, 1) := by decide +kernel
theorem dX9_about_8 : decode cX9_about 8 = .ok (.invokevirtual 129, 3) := by decide +kernel
theorem dX9_about_11 : decode cX9_about 11 = .ok (.ifCond .ne 5, 3) := by decide +kernel
theorem dX9_about_14 : decode cX9_about 14 = .ok (.iconst (-1), 1) := by decide +kernel
theorem dX9_about_15 : decode cX9_about 15 = .ok (.ireturn, 1) := by decide +kernel
theorem dX9_about_16 : decode cX9_about 16 = .ok (.bipush 24, 2) := by decide +kernel
theorem dX9_about_18 : decode cX9_about 18 = .ok (.bipush 8, 2) := by decide +kernel
theorem dX9_about_20 : decode cX9_about 20 = .ok (.iload_n 1, 1) := by decide +kernel
theorem dX9_about_21 : decode cX9_about 21 = .ok (.imul, 1) := by decide +kernel
theorem dX9_about_22 : decode cX9_about 22 = .ok (.iadd, 1) := by decide +kernel
theorem dX9_about_23 : decode cX9_about 23 = .ok (.iload_n 2, 1) := by decide +kernel
theorem dX9_about_24 : decode cX9_about 24 = .ok (.iadd, 1) := by decide +kernel
theorem dX9_about_25 : decode cX9_about 25 = .ok (.istore 4, 2) := by decide +kernel
theorem dX9_about_27 : decode cX9_about 27 = .ok (.iload_n 3, 1) := by decide +kernel
theorem dX9_about_28 : decode cX9_about 28 = .ok (.tableswitch 63 0 3 #[32, 40, 47, 55], 32) := by decide +kernel
theorem dX9_about_60 : decode cX9_about 60 = .ok (.aload_n 0, 1) := by decide +kernel
theorem dX9_about_61 : decode cX9_about 61 = .ok (.getfield 23, 3) := by decide +kernel
theorem dX9_about_64 : decode cX9_about 64 = .ok (.iload 4, 2) := by decide +kernel
theorem dX9_about_66 : decode cX9_about 66 = .ok (.iaload, 1) := by decide +kernel
theorem dX9_about_67 : decode cX9_about 67 = .ok (.ireturn, 1) := by decide +kernel
theorem dX9_about_68 : decode cX9_about 68 = .ok (.aload_n 0, 1) := by decide +kernel
theorem dX9_about_69 : decode cX9_about 69 = .ok (.iload 4, 2) := by decide +kernel
theorem dX9_about_71 : decode cX9_about 71 = .ok (.invokevirtual 95, 3) := by decide +kernel
theorem dX9_about_74 : decode cX9_about 74 = .ok (.ireturn, 1) := by decide +kernel
theorem dX9_about_75 : decode cX9_about 75 = .ok (.aload_n 0, 1) := by decide +kernel
theorem dX9_about_76 : decode cX9_about 76 = .ok (.getfield 16, 3) := by decide +kernel
theorem dX9_about_79 : decode cX9_about 79 = .ok (.iload 4, 2) := by decide +kernel
theorem dX9_about_81 : decode cX9_about 81 = .ok (.iaload, 1) := by decide +kernel
theorem dX9_about_82 : decode cX9_about 82 = .ok (.ireturn, 1) := by decide +kernel
theorem dX9_about_83 : decode cX9_about 83 = .ok (.aload_n 0, 1) := by decide +kernel
theorem dX9_about_84 : decode cX9_about 84 = .ok (.getfield 38, 3) := by decide +kernel
theorem dX9_about_87 : decode cX9_about 87 = .ok (.iload 4, 2) := by decide +kernel
theorem dX9_about_89 : decode cX9_about 89 = .ok (.iaload, 1) := by decide +kernel
theorem dX9_about_90 : decode cX9_about 90 = .ok (.ireturn, 1) := by decide +kernel
theorem dX9_about_91 : decode cX9_about 91 = .ok (.iconst (-1), 1) := by decide +kernel
theorem dX9_about_92 : decode cX9_about 92 = .ok (.ireturn, 1) := by decide +kernel
theorem dX9_sign_0 : decode cX9_sign 0 = .ok (.aload_n 0, 1) := by decide +kernel
theorem dX9_sign_1 : decode cX9_sign 1 = .ok (.iconst 0, 1) := by decide +kernel
theorem dX9_sign_2 : decode cX9_sign 2 = .ok (.putfield 54, 3) := by decide +kernel
theorem dX9_sign_5 : decode cX9_sign 5 = .ok (.aload_n 0, 1) := by decide +kernel
theorem dX9_sign_6 : decode cX9_sign 6 = .ok (.iload_n 1, 1) := by decide +kernel
theorem dX9_sign_7 : decode cX9_sign 7 = .ok (.iload_n 2, 1) := by decide +kernel
theorem dX9_sign_8 : decode cX9_sign 8 = .ok (.invokevirtual 129, 3) := by decide +kernel
theorem dX9_sign_11 : decode cX9_sign 11 = .ok (.ifCond .ne 5, 3) := by decide +kernel
theorem dX9_sign_14 : decode cX9_sign 14 = .ok (.iconst (-1), 1) := by decide +kernel
theorem dX9_sign_15 : decode cX9_sign 15 = .ok (.ireturn, 1) := by decide +kernel
theorem dX9_sign_16 : decode cX9_sign 16 = .ok (.bipush 24, 2) := by decide +kernel
theorem dX9_sign_18 : decode cX9_sign 18 = .ok (.bipush 8, 2) := by decide +kernel
theorem dX9_sign_20 : decode cX9_sign 20 = .ok (.iload_n 1, 1) := by decide +kernel
theorem dX9_sign_21 : decode cX9_sign 21 = .ok (.imul, 1) := by decide +kernel
theorem dX9_sign_22 : decode cX9_sign 22 = .ok (.iadd, 1) := by decide +kernel
theorem dX9_sign_23 : decode cX9_sign 23 = .ok (.iload_n 2, 1) := by decide +kernel
theorem dX9_sign_24 : decode cX9_sign 24 = .ok (.iadd, 1) := by decide +kernel
theorem dX9_sign_25 : decode cX9_sign 25 = .ok (.istore 4, 2) := by decide +kernel
theorem dX9_sign_27 : decode cX9_sign 27 = .ok (.iload_n 3, 1) := by decide +kernel
theorem dX9_sign_28 : decode cX9_sign 28 = .ok (.iconst 0, 1) := by decide +kernel
theorem dX9_sign_29 : decode cX9_sign 29 = .ok (.aload_n 0, 1) := by decide +kernel
theorem dX9_sign_30 : decode cX9_sign 30 = .ok (.getfield 16, 3) := by decide +kernel
theorem dX9_sign_33 : decode cX9_sign 33 = .ok (.iload 4, 2) := by decide +kernel
theorem dX9_sign_35 : decode cX9_sign 35 = .ok (.iaload, 1) := by decide +kernel
theorem dX9_sign_36 : decode cX9_sign 36 = .ok (.iconst 1, 1) := by decide +kernel
theorem dX9_sign_37 : decode cX9_sign 37 = .ok (.isub, 1) := by decide +kernel
theorem dX9_sign_38 : decode cX9_sign 38 = .ok (.invokestatic 64, 3) := by decide +kernel
theorem dX9_sign_41 : decode cX9_sign 41 = .ok (.ifCond .eq 18, 3) := by decide +kernel
theorem dX9_sign_44 : decode cX9_sign 44 = .ok (.aload_n 0, 1) := by decide +kernel
theorem dX9_sign_45 : decode cX9_sign 45 = .ok (.getfield 20, 3) := by decide +kernel
theorem dX9_sign_48 : decode cX9_sign 48 = .ok (.bipush 24, 2) := by decide +kernel
theorem dX9_sign_50 : decode cX9_sign 50 = .ok (.iload 4, 2) := by decide +kernel
theorem dX9_sign_52 : decode cX9_sign 52 = .ok (.imul, 1) := by decide +kernel
theorem dX9_sign_53 : decode cX9_sign 53 = .ok (.iload_n 3, 1) := by decide +kernel
theorem dX9_sign_54 : decode cX9_sign 54 = .ok (.iadd, 1) := by decide +kernel
theorem dX9_sign_55 : decode cX9_sign 55 = .ok (.baload, 1) := by decide +kernel
theorem dX9_sign_56 : decode cX9_sign 56 = .ok (.goto 4, 3) := by decide +kernel
theorem dX9_sign_59 : decode cX9_sign 59 = .ok (.iconst (-1), 1) := by decide +kernel
theorem dX9_sign_60 : decode cX9_sign 60 = .ok (.ireturn, 1) := by decide +kernel
theorem dX9_at_0 : decode cX9_at 0 = .ok (.aload_n 0, 1) := by decide +kernel
theorem dX9_at_1 : decode cX9_at 1 = .ok (.iconst 0, 1) := by decide +kernel
theorem dX9_at_2 : decode cX9_at 2 = .ok (.putfield 54, 3) := by decide +kernel
theorem dX9_at_5 : decode cX9_at 5 = .ok (.aload_n 0, 1) := by decide +kernel
theorem dX9_at_6 : decode cX9_at 6 = .ok (.iload_n 1, 1) := by decide +kernel
theorem dX9_at_7 : decode cX9_at 7 = .ok (.iload_n 2, 1) := by decide +kernel
theorem dX9_at_8 : decode cX9_at 8 = .ok (.invokevirtual 129, 3) := by decide +kernel
theorem dX9_at_11 : decode cX9_at 11 = .ok (.ifCond .ne 5, 3) := by decide +kernel
theorem dX9_at_14 : decode cX9_at 14 = .ok (.iconst (-1), 1) := by decide +kernel
theorem dX9_at_15 : decode cX9_at 15 = .ok (.ireturn, 1) := by decide +kernel
theorem dX9_at_16 : decode cX9_at 16 = .ok (.bipush 24, 2) := by decide +kernel
theorem dX9_at_18 : decode cX9_at 18 = .ok (.bipush 8, 2) := by decide +kernel
theorem dX9_at_20 : decode cX9_at 20 = .ok (.iload_n 1, 1) := by decide +kernel
theorem dX9_at_21 : decode cX9_at 21 = .ok (.imul, 1) := by decide +kernel
theorem dX9_at_22 : decode cX9_at 22 = .ok (.iadd, 1) := by decide +kernel
theorem dX9_at_23 : decode cX9_at 23 = .ok (.iload_n 2, 1) := by decide +kernel
theorem dX9_at_24 : decode cX9_at 24 = .ok (.iadd, 1) := by decide +kernel
theorem dX9_at_25 : decode cX9_at 25 = .ok (.istore 4, 2) := by decide +kernel
theorem dX9_at_27 : decode cX9_at 27 = .ok (.aload_n 0, 1) := by decide +kernel
theorem dX9_at_28 : decode cX9_at 28 = .ok (.iload_n 3, 1) := by decide +kernel
theorem dX9_at_29 : decode cX9_at 29 = .ok (.iconst 0, 1) := by decide +kernel
theorem dX9_at_30 : decode cX9_at 30 = .ok (.aload_n 0, 1) := by decide +kernel
theorem dX9_at_31 : decode cX9_at 31 = .ok (.getfield 23, 3) := by decide +kernel
theorem dX9_at_34 : decode cX9_at 34 = .ok (.iload 4, 2) := by decide +kernel
theorem dX9_at_36 : decode cX9_at 36 = .ok (.iaload, 1) := by decide +kernel
theorem dX9_at_37 : decode cX9_at 37 = .ok (.iconst 1, 1) := by decide +kernel
theorem dX9_at_38 : decode cX9_at 38 = .ok (.isub, 1) := by decide +kernel
theorem dX9_at_39 : decode cX9_at 39 = .ok (.invokestatic 64, 3) := by decide +kernel
theorem dX9_at_42 : decode cX9_at 42 = .ok (.ifCond .eq 7, 3) := by decide +kernel
theorem dX9_at_45 : decode cX9_at 45 = .ok (.iconst 0, 1) := by decide +kernel
theorem dX9_at_46 : decode cX9_at 46 = .ok (.goto 4, 3) := by decide +kernel
theorem dX9_at_49 : decode cX9_at 49 = .ok (.iconst 1, 1) := by decide +kernel
theorem dX9_at_50 : decode cX9_at 50 = .ok (.putfield 54, 3) := by decide +kernel
theorem dX9_at_53 : decode cX9_at 53 = .ok (.aload_n 0, 1) := by decide +kernel
theorem dX9_at_54 : decode cX9_at 54 = .ok (.getfield 54, 3) := by decide +kernel
theorem dX9_at_57 : decode cX9_at 57 = .ok (.ifCond .le 7, 3) := by decide +kernel
theorem dX9_at_60 : decode cX9_at 60 = .ok (.iconst 0, 1) := by decide +kernel
theorem dX9_at_61 : decode cX9_at 61 = .ok (.goto 19, 3) := by decide +kernel
theorem dX9_at_64 : decode cX9_at 64 = .ok (.aload_n 0, 1) := by decide +kernel
theorem dX9_at_65 : decode cX9_at 65 = .ok (.getfield 26, 3) := by decide +kernel
theorem dX9_at_68 : decode cX9_at 68 = .ok (.bipush 40, 2) := by decide +kernel
theorem dX9_at_70 : decode cX9_at 70 = .ok (.iload 4, 2) := by decide +kernel
theorem dX9_at_72 : decode cX9_at 72 = .ok (.imul, 1) := by decide +kernel
theorem dX9_at_73 : decode cX9_at 73 = .ok (.iload_n 3, 1) := by decide +kernel
theorem dX9_at_74 : decode cX9_at 74 = .ok (.iadd, 1) := by decide +kernel
theorem dX9_at_75 : decode cX9_at 75 = .ok (.baload, 1) := by decide +kernel
theorem dX9_at_76 : decode cX9_at 76 = .ok (.sipush 255, 3) := by decide +kernel
theorem dX9_at_79 : decode cX9_at 79 = .ok (.iand, 1) := by decide +kernel
theorem dX9_at_80 : decode cX9_at 80 = .ok (.ireturn, 1) := by decide +kernel
theorem dX9_find_0 : decode cX9_find 0 = .ok (.aload_n 0, 1) := by decide +kernel
theorem dX9_find_1 : decode cX9_find 1 = .ok (.iconst 0, 1) := by decide +kernel
theorem dX9_find_2 : decode cX9_find 2 = .ok (.putfield 54, 3) := by decide +kernel
theorem dX9_find_5 : decode cX9_find 5 = .ok (.aload_n 0, 1) := by decide +kernel
theorem dX9_find_6 : decode cX9_find 6 = .ok (.iload_n 1, 1) := by decide +kernel
theorem dX9_find_7 : decode cX9_find 7 = .ok (.invokevirtual 126, 3) := by decide +kernel
theorem dX9_find_10 : decode cX9_find 10 = .ok (.ifCond .ne 5, 3) := by decide +kernel
theorem dX9_find_13 : decode cX9_find 13 = .ok (.iconst (-1), 1) := by decide +kernel
theorem dX9_find_14 : decode cX9_find 14 = .ok (.ireturn, 1) := by decide +kernel
theorem dX9_find_15 : decode cX9_find 15 = .ok (.iconst 0, 1) := by decide +kernel
theorem dX9_find_16 : decode cX9_find 16 = .ok (.istore_n 2, 1) := by decide +kernel
theorem dX9_find_17 : decode cX9_find 17 = .ok (.iload_n 2, 1) := by decide +kernel
theorem dX9_find_18 : decode cX9_find 18 = .ok (.aload_n 0, 1) := by decide +kernel
theorem dX9_find_19 : decode cX9_find 19 = .ok (.getfield 35, 3) := by decide +kernel
theorem dX9_find_22 : decode cX9_find 22 = .ok (.iload_n 1, 1) := by decide +kernel
theorem dX9_find_23 : decode cX9_find 23 = .ok (.iaload, 1) := by decide +kernel
theorem dX9_find_24 : decode cX9_find 24 = .ok (.if_icmp .ge 98, 3) := by decide +kernel
theorem dX9_find_27 : decode cX9_find 27 = .ok (.bipush 24, 2) := by decide +kernel
theorem dX9_find_29 : decode cX9_find 29 = .ok (.bipush 8, 2) := by decide +kernel
theorem dX9_find_31 : decode cX9_find 31 = .ok (.iload_n 1, 1) := by decide +kernel
theorem dX9_find_32 : decode cX9_find 32 = .ok (.imul, 1) := by decide +kernel
theorem dX9_find_33 : decode cX9_find 33 = .ok (.iadd, 1) := by decide +kernel
theorem dX9_find_34 : decode cX9_find 34 = .ok (.iload_n 2, 1) := by decide +kernel
theorem dX9_find_35 : decode cX9_find 35 = .ok (.iadd, 1) := by decide +kernel
theorem dX9_find_36 : decode cX9_find 36 = .ok (.istore_n 3, 1) := by decide +kernel
theorem dX9_find_37 : decode cX9_find 37 = .ok (.aload_n 0, 1) := by decide +kernel
theorem dX9_find_38 : decode cX9_find 38 = .ok (.getfield 16, 3) := by decide +kernel
theorem dX9_find_41 : decode cX9_find 41 = .ok (.iload_n 3, 1) := by decide +kernel
theorem dX9_find_42 : decode cX9_find 42 = .ok (.iaload, 1) := by decide +kernel
theorem dX9_find_43 : decode cX9_find 43 = .ok (.aload_n 0, 1) := by decide +kernel
theorem dX9_find_44 : decode cX9_find 44 = .ok (.getfield 58, 3) := by decide +kernel
theorem dX9_find_47 : decode cX9_find 47 = .ok (.if_icmp .ne 7, 3) := by decide +kernel
theorem dX9_find_50 : decode cX9_find 50 = .ok (.iconst 1, 1) := by decide +kernel
theorem dX9_find_51 : decode cX9_find 51 = .ok (.goto 4, 3) := by decide +kernel
theorem dX9_find_54 : decode cX9_find 54 = .ok (.iconst 0, 1) := by decide +kernel
theorem dX9_find_55 : decode cX9_find 55 = .ok (.istore 4, 2) := by decide +kernel
theorem dX9_find_57 : decode cX9_find 57 = .ok (.iconst 0, 1) := by decide +kernel
theorem dX9_find_58 : decode cX9_find 58 = .ok (.istore 5, 2) := by decide +kernel
theorem dX9_find_60 : decode cX9_find 60 = .ok (.iload 5, 2) := by decide +kernel
theorem dX9_find_62 : decode cX9_find 62 = .ok (.aload_n 0, 1) := by decide +kernel
theorem dX9_find_63 : decode cX9_find 63 = .ok (.getfield 58, 3) := by decide +kernel
theorem dX9_find_66 : decode cX9_find 66 = .ok (.if_icmp .ge 43, 3) := by decide +kernel
theorem dX9_find_69 : decode cX9_find 69 = .ok (.iload 4, 2) := by decide +kernel
theorem dX9_find_71 : decode cX9_find 71 = .ok (.ifCond .eq 38, 3) := by decide +kernel
theorem dX9_find_74 : decode cX9_find 74 = .ok (.aload_n 0, 1) := by decide +kernel
theorem dX9_find_75 : decode cX9_find 75 = .ok (.getfield 20, 3) := by decide +kernel
theorem dX9_find_78 : decode cX9_find 78 = .ok (.bipush 24, 2) := by decide +kernel
theorem dX9_find_80 : decode cX9_find 80 = .ok (.iload_n 3, 1) := by decide +kernel
theorem dX9_find_81 : decode cX9_find 81 = .ok (.imul, 1) := by decide +kernel
theorem dX9_find_82 : decode cX9_find 82 = .ok (.iload 5, 2) := by decide +kernel
theorem dX9_find_84 : decode cX9_find 84 = .ok (.iadd, 1) := by decide +kernel
theorem dX9_find_85 : decode cX9_find 85 = .ok (.baload, 1) := by decide +kernel
theorem dX9_find_86 : decode cX9_find 86 = .ok (.aload_n 0, 1) := by decide +kernel
theorem dX9_find_87 : decode cX9_find 87 = .ok (.getfield 7, 3) := by decide +kernel
theorem dX9_find_90 : decode cX9_find 90 = .ok (.iload 5, 2) := by decide +kernel
theorem dX9_find_92 : decode cX9_find 92 = .ok (.baload, 1) := by decide +kernel
theorem dX9_find_93 : decode cX9_find 93 = .ok (.if_icmp .ne 7, 3) := by decide +kernel
theorem dX9_find_96 : decode cX9_find 96 = .ok (.iconst 1, 1) := by decide +kernel
theorem dX9_find_97 : decode cX9_find 97 = .ok (.goto 4, 3) := by decide +kernel
theorem dX9_find_100 : decode cX9_find 100 = .ok (.iconst 0, 1) := by decide +kernel
theorem dX9_find_101 : decode cX9_find 101 = .ok (.istore 4, 2) := by decide +kernel
theorem dX9_find_103 : decode cX9_find 103 = .ok (.iinc 5 1, 3) := by decide +kernel
theorem dX9_find_106 : decode cX9_find 106 = .ok (.goto (-46), 3) := by decide +kernel
theorem dX9_find_109 : decode cX9_find 109 = .ok (.iload 4, 2) := by decide +kernel
theorem dX9_find_111 : decode cX9_find 111 = .ok (.ifCond .eq 5, 3) := by decide +kernel
theorem dX9_find_114 : decode cX9_find 114 = .ok (.iload_n 2, 1) := by decide +kernel
theorem dX9_find_115 : decode cX9_find 115 = .ok (.ireturn, 1) := by decide +kernel
theorem dX9_find_116 : decode cX9_find 116 = .ok (.iinc 2 1, 3) := by decide +kernel
theorem dX9_find_119 : decode cX9_find 119 = .ok (.goto (-102), 3) := by decide +kernel
theorem dX9_find_122 : decode cX9_find 122 = .ok (.iconst (-1), 1) := by decide +kernel
theorem dX9_find_123 : decode cX9_find 123 = .ok (.ireturn, 1) := by decide +kernel
theorem dX9_same_0 : decode cX9_same 0 = .ok (.aload_n 0, 1) := by decide +kernel
theorem dX9_same_1 : decode cX9_same 1 = .ok (.iconst 0, 1) := by decide +kernel
theorem dX9_same_2 : decode cX9_same 2 = .ok (.putfield 54, 3) := by decide +kernel
theorem dX9_same_5 : decode cX9_same 5 = .ok (.aload_n 0, 1) := by decide +kernel
theorem dX9_same_6 : decode cX9_same 6 = .ok (.iload_n 1, 1) := by decide +kernel
theorem dX9_same_7 : decode cX9_same 7 = .ok (.invokevirtual 126, 3) := by decide +kernel
theorem dX9_same_10 : decode cX9_same 10 = .ok (.ifCond .eq 11, 3) := by decide +kernel
theorem dX9_same_13 : decode cX9_same 13 = .ok (.aload_n 0, 1) := by decide +kernel
theorem dX9_same_14 : decode cX9_same 14 = .ok (.iload_n 2, 1) := by decide +kernel
theorem dX9_same_15 : decode cX9_same 15 = .ok (.invokevirtual 126, 3) := by decide +kernel
theorem dX9_same_18 : decode cX9_same 18 = .ok (.ifCond .ne 5, 3) := by decide +kernel
theorem dX9_same_21 : decode cX9_same 21 = .ok (.iconst (-1), 1) := by decide +kernel
theorem dX9_same_22 : decode cX9_same 22 = .ok (.ireturn, 1) := by decide +kernel
theorem dX9_same_23 : decode cX9_same 23 = .ok (.iconst 0, 1) := by decide +kernel
theorem dX9_same_24 : decode cX9_same 24 = .ok (.istore_n 3, 1) := by decide +kernel
theorem dX9_same_25 : decode cX9_same 25 = .ok (.bipush 24, 2) := by decide +kernel
theorem dX9_same_27 : decode cX9_same 27 = .ok (.bipush 8, 2) := by decide +kernel
theorem dX9_same_29 : decode cX9_same 29 = .ok (.iload_n 2, 1) := by decide +kernel
theorem dX9_same_30 : decode cX9_same 30 = .ok (.imul, 1) := by decide +kernel
theorem dX9_same_31 : decode cX9_same 31 = .ok (.iadd, 1) := by decide +kernel
theorem dX9_same_32 : decode cX9_same 32 = .ok (.istore 4, 2) := by decide +kernel
theorem dX9_same_34 : decode cX9_same 34 = .ok (.bipush 24, 2) := by decide +kernel
theorem dX9_same_36 : decode cX9_same 36 = .ok (.bipush 8, 2) := by decide +kernel
theorem dX9_same_38 : decode cX9_same 38 = .ok (.iload_n 1, 1) := by decide +kernel
theorem dX9_same_39 : decode cX9_same 39 = .ok (.imul, 1) := by decide +kernel
theorem dX9_same_40 : decode cX9_same 40 = .ok (.iadd, 1) := by decide +kernel
theorem dX9_same_41 : decode cX9_same 41 = .ok (.istore 5, 2) := by decide +kernel
theorem dX9_same_43 : decode cX9_same 43 = .ok (.iload 5, 2) := by decide +kernel
theorem dX9_same_45 : decode cX9_same 45 = .ok (.bipush 24, 2) := by decide +kernel
theorem dX9_same_47 : decode cX9_same 47 = .ok (.bipush 8, 2) := by decide +kernel
theorem dX9_same_49 : decode cX9_same 49 = .ok (.iload_n 1, 1) := by decide +kernel
theorem dX9_same_50 : decode cX9_same 50 = .ok (.imul, 1) := by decide +kernel
theorem dX9_same_51 : decode cX9_same 51 = .ok (.iadd, 1) := by decide +kernel
theorem dX9_same_52 : decode cX9_same 52 = .ok (.aload_n 0, 1) := by decide +kernel
theorem dX9_same_53 : decode cX9_same 53 = .ok (.getfield 35, 3) := by decide +kernel
theorem dX9_same_56 : decode cX9_same 56 = .ok (.iload_n 1, 1) := by decide +kernel
theorem dX9_same_57 : decode cX9_same 57 = .ok (.iaload, 1) := by decide +kernel
theorem dX9_same_58 : decode cX9_same 58 = .ok (.iadd, 1) := by decide +kernel
theorem dX9_same_59 : decode cX9_same 59 = .ok (.if_icmp .ge 52, 3) := by decide +kernel
theorem dX9_same_62 : decode cX9_same 62 = .ok (.aload_n 0, 1) := by decide +kernel
theorem dX9_same_63 : decode cX9_same 63 = .ok (.iload 4, 2) := by decide +kernel
theorem dX9_same_65 : decode cX9_same 65 = .ok (.iload 4, 2) := by decide +kernel
theorem dX9_same_67 : decode cX9_same 67 = .ok (.aload_n 0, 1) := by decide +kernel
theorem dX9_same_68 : decode cX9_same 68 = .ok (.getfield 35, 3) := by decide +kernel
theorem dX9_same_71 : decode cX9_same 71 = .ok (.iload_n 2, 1) := by decide +kernel
theorem dX9_same_72 : decode cX9_same 72 = .ok (.iaload, 1) := by decide +kernel
theorem dX9_same_73 : decode cX9_same 73 = .ok (.iadd, 1) := by decide +kernel
theorem dX9_same_74 : decode cX9_same 74 = .ok (.iload 5, 2) := by decide +kernel
theorem dX9_same_76 : decode cX9_same 76 = .ok (.invokevirtual 91, 3) := by decide +kernel
theorem dX9_same_79 : decode cX9_same 79 = .ok (.istore 6, 2) := by decide +kernel
theorem dX9_same_81 : decode cX9_same 81 = .ok (.iload_n 3, 1) := by decide +kernel
theorem dX9_same_82 : decode cX9_same 82 = .ok (.iload 6, 2) := by decide +kernel
theorem dX9_same_84 : decode cX9_same 84 = .ok (.ifCond .lt 18, 3) := by decide +kernel
theorem dX9_same_87 : decode cX9_same 87 = .ok (.aload_n 0, 1) := by decide +kernel
theorem dX9_same_88 : decode cX9_same 88 = .ok (.iload 6, 2) := by decide +kernel
theorem dX9_same_90 : decode cX9_same 90 = .ok (.iload 5, 2) := by decide +kernel
theorem dX9_same_92 : decode cX9_same 92 = .ok (.invokevirtual 122, 3) := by decide +kernel
theorem dX9_same_95 : decode cX9_same 95 = .ok (.ifCond .eq 7, 3) := by decide +kernel
theorem dX9_same_98 : decode cX9_same 98 = .ok (.iconst 1, 1) := by decide +kernel
theorem dX9_same_99 : decode cX9_same 99 = .ok (.goto 4, 3) := by decide +kernel
theorem dX9_same_102 : decode cX9_same 102 = .ok (.iconst 0, 1) := by decide +kernel
theorem dX9_same_103 : decode cX9_same 103 = .ok (.iadd, 1) := by decide +kernel
theorem dX9_same_104 : decode cX9_same 104 = .ok (.istore_n 3, 1) := by decide +kernel
theorem dX9_same_105 : decode cX9_same 105 = .ok (.iinc 5 1, 3) := by decide +kernel
theorem dX9_same_108 : decode cX9_same 108 = .ok (.goto (-65), 3) := by decide +kernel
theorem dX9_same_111 : decode cX9_same 111 = .ok (.iload_n 3, 1) := by decide +kernel
theorem dX9_same_112 : decode cX9_same 112 = .ok (.ireturn, 1) := by decide +kernel
theorem dX9_split_0 : decode cX9_split 0 = .ok (.aload_n 0, 1) := by decide +kernel
theorem dX9_split_1 : decode cX9_split 1 = .ok (.iconst 0, 1) := by decide +kernel
theorem dX9_split_2 : decode cX9_split 2 = .ok (.putfield 54, 3) := by decide +kernel
theorem dX9_split_5 : decode cX9_split 5 = .ok (.aload_n 0, 1) := by decide +kernel
theorem dX9_split_6 : decode cX9_split 6 = .ok (.iload_n 1, 1) := by decide +kernel
theorem dX9_split_7 : decode cX9_split 7 = .ok (.invokevirtual 126, 3) := by decide +kernel
theorem dX9_split_10 : decode cX9_split 10 = .ok (.ifCond .ne 5, 3) := by decide +kernel
theorem dX9_split_13 : decode cX9_split 13 = .ok (.iconst (-1), 1) := by decide +kernel
theorem dX9_split_14 : decode cX9_split 14 = .ok (.ireturn, 1) := by decide +kernel
theorem dX9_split_15 : decode cX9_split 15 = .ok (.iload_n 2, 1) := by decide +kernel
theorem dX9_split_16 : decode cX9_split 16 = .ok (.iconst 1, 1) := by decide +kernel
theorem dX9_split_17 : decode cX9_split 17 = .ok (.bipush 100, 2) := by decide +kernel
theorem dX9_split_19 : decode cX9_split 19 = .ok (.invokestatic 64, 3) := by decide +kernel
theorem dX9_split_22 : decode cX9_split 22 = .ok (.ifCond .ne 6, 3) := by decide +kernel
theorem dX9_split_25 : decode cX9_split 25 = .ok (.bipush (-2), 2) := by decide +kernel
theorem dX9_split_27 : decode cX9_split 27 = .ok (.ireturn, 1) := by decide +kernel
theorem dX9_split_28 : decode cX9_split 28 = .ok (.aload_n 0, 1) := by decide +kernel
theorem dX9_split_29 : decode cX9_split 29 = .ok (.iconst 1, 1) := by decide +kernel
theorem dX9_split_30 : decode cX9_split 30 = .ok (.putfield 132, 3) := by decide +kernel
theorem dX9_split_33 : decode cX9_split 33 = .ok (.aload_n 0, 1) := by decide +kernel
theorem dX9_split_34 : decode cX9_split 34 = .ok (.iload_n 2, 1) := by decide +kernel
theorem dX9_split_35 : decode cX9_split 35 = .ok (.putfield 136, 3) := by decide +kernel
theorem dX9_split_38 : decode cX9_split 38 = .ok (.aload_n 0, 1) := by decide +kernel
theorem dX9_split_39 : decode cX9_split 39 = .ok (.iconst 0, 1) := by decide +kernel
theorem dX9_split_40 : decode cX9_split 40 = .ok (.putfield 139, 3) := by decide +kernel
theorem dX9_split_43 : decode cX9_split 43 = .ok (.bipush 24, 2) := by decide +kernel
theorem dX9_split_45 : decode cX9_split 45 = .ok (.bipush 8, 2) := by decide +kernel
theorem dX9_split_47 : decode cX9_split 47 = .ok (.iload_n 1, 1) := by decide +kernel
theorem dX9_split_48 : decode cX9_split 48 = .ok (.imul, 1) := by decide +kernel
theorem dX9_split_49 : decode cX9_split 49 = .ok (.iadd, 1) := by decide +kernel
theorem dX9_split_50 : decode cX9_split 50 = .ok (.istore_n 3, 1) := by decide +kernel
theorem dX9_split_51 : decode cX9_split 51 = .ok (.iload_n 3, 1) := by decide +kernel
theorem dX9_split_52 : decode cX9_split 52 = .ok (.bipush 24, 2) := by decide +kernel
theorem dX9_split_54 : decode cX9_split 54 = .ok (.bipush 8, 2) := by decide +kernel
theorem dX9_split_56 : decode cX9_split 56 = .ok (.iload_n 1, 1) := by decide +kernel
theorem dX9_split_57 : decode cX9_split 57 = .ok (.imul, 1) := by decide +kernel
theorem dX9_split_58 : decode cX9_split 58 = .ok (.iadd, 1) := by decide +kernel
theorem dX9_split_59 : decode cX9_split 59 = .ok (.aload_n 0, 1) := by decide +kernel
theorem dX9_split_60 : decode cX9_split 60 = .ok (.getfield 35, 3) := by decide +kernel
theorem dX9_split_63 : decode cX9_split 63 = .ok (.iload_n 1, 1) := by decide +kernel
theorem dX9_split_64 : decode cX9_split 64 = .ok (.iaload, 1) := by decide +kernel
theorem dX9_split_65 : decode cX9_split 65 = .ok (.iadd, 1) := by decide +kernel
theorem dX9_split_66 : decode cX9_split 66 = .ok (.if_icmp .ge 60, 3) := by decide +kernel
theorem dX9_split_69 : decode cX9_split 69 = .ok (.iconst 0, 1) := by decide +kernel
theorem dX9_split_70 : decode cX9_split 70 = .ok (.istore 4, 2) := by decide +kernel
theorem dX9_split_72 : decode cX9_split 72 = .ok (.iload 4, 2) := by decide +kernel
theorem dX9_split_74 : decode cX9_split 74 = .ok (.aload_n 0, 1) := by decide +kernel
theorem dX9_split_75 : decode cX9_split 75 = .ok (.getfield 23, 3) := by decide +kernel
theorem dX9_split_78 : decode cX9_split 78 = .ok (.iload_n 3, 1) := by decide +kernel
theorem dX9_split_79 : decode cX9_split 79 = .ok (.iaload, 1) := by decide +kernel
theorem dX9_split_80 : decode cX9_split 80 = .ok (.if_icmp .ge 40, 3) := by decide +kernel
theorem dX9_split_83 : decode cX9_split 83 = .ok (.aload_n 0, 1) := by decide +kernel
theorem dX9_split_84 : decode cX9_split 84 = .ok (.getfield 51, 3) := by decide +kernel
theorem dX9_split_87 : decode cX9_split 87 = .ok (.aload_n 0, 1) := by decide +kernel
theorem dX9_split_88 : decode cX9_split 88 = .ok (.getfield 139, 3) := by decide +kernel
theorem dX9_split_91 : decode cX9_split 91 = .ok (.aload_n 0, 1) := by decide +kernel
theorem dX9_split_92 : decode cX9_split 92 = .ok (.getfield 26, 3) := by decide +kernel
theorem dX9_split_95 : decode cX9_split 95 = .ok (.bipush 40, 2) := by decide +kernel
theorem dX9_split_97 : decode cX9_split 97 = .ok (.iload_n 3, 1) := by decide +kernel
theorem dX9_split_98 : decode cX9_split 98 = .ok (.imul, 1) := by decide +kernel
theorem dX9_split_99 : decode cX9_split 99 = .ok (.iload 4, 2) := by decide +kernel
theorem dX9_split_101 : decode cX9_split 101 = .ok (.iadd, 1) := by decide +kernel
theorem dX9_split_102 : decode cX9_split 102 = .ok (.baload, 1) := by decide +kernel
theorem dX9_split_103 : decode cX9_split 103 = .ok (.bastore, 1) := by decide +kernel
theorem dX9_split_104 : decode cX9_split 104 = .ok (.aload_n 0, 1) := by decide +kernel
theorem dX9_split_105 : decode cX9_split 105 = .ok (.dup, 1) := by decide +kernel
theorem dX9_split_106 : decode cX9_split 106 = .ok (.getfield 139, 3) := by decide +kernel
theorem dX9_split_109 : decode cX9_split 109 = .ok (.iconst 1, 1) := by decide +kernel
theorem dX9_split_110 : decode cX9_split 110 = .ok (.iadd, 1) := by decide +kernel
theorem dX9_split_111 : decode cX9_split 111 = .ok (.putfield 139, 3) := by decide +kernel
theorem dX9_split_114 : decode cX9_split 114 = .ok (.iinc 4 1, 3) := by decide +kernel
theorem dX9_split_117 : decode cX9_split 117 = .ok (.goto (-45), 3) := by decide +kernel
theorem dX9_split_120 : decode cX9_split 120 = .ok (.iinc 3 1, 3) := by decide +kernel
theorem dX9_split_123 : decode cX9_split 123 = .ok (.goto (-72), 3) := by decide +kernel
theorem dX9_split_126 : decode cX9_split 126 = .ok (.aload_n 0, 1) := by decide +kernel
theorem dX9_split_127 : decode cX9_split 127 = .ok (.aload_n 0, 1) := by decide +kernel
theorem dX9_split_128 : decode cX9_split 128 = .ok (.getfield 139, 3) := by decide +kernel
theorem dX9_split_131 : decode cX9_split 131 = .ok (.iload_n 2, 1) := by decide +kernel
theorem dX9_split_132 : decode cX9_split 132 = .ok (.iadd, 1) := by decide +kernel
theorem dX9_split_133 : decode cX9_split 133 = .ok (.iconst 1, 1) := by decide +kernel
theorem dX9_split_134 : decode cX9_split 134 = .ok (.isub, 1) := by decide +kernel
theorem dX9_split_135 : decode cX9_split 135 = .ok (.iload_n 2, 1) := by decide +kernel
theorem dX9_split_136 : decode cX9_split 136 = .ok (.idiv, 1) := by decide +kernel
theorem dX9_split_137 : decode cX9_split 137 = .ok (.putfield 142, 3) := by decide +kernel
theorem dX9_split_140 : decode cX9_split 140 = .ok (.iconst 0, 1) := by decide +kernel
theorem dX9_split_141 : decode cX9_split 141 = .ok (.istore_n 3, 1) := by decide +kernel
theorem dX9_split_142 : decode cX9_split 142 = .ok (.iload_n 3, 1) := by decide +kernel
theorem dX9_split_143 : decode cX9_split 143 = .ok (.aload_n 0, 1) := by decide +kernel
theorem dX9_split_144 : decode cX9_split 144 = .ok (.getfield 142, 3) := by decide +kernel
theorem dX9_split_147 : decode cX9_split 147 = .ok (.if_icmp .ge 16, 3) := by decide +kernel
theorem dX9_split_150 : decode cX9_split 150 = .ok (.aload_n 0, 1) := by decide +kernel
theorem dX9_split_151 : decode cX9_split 151 = .ok (.getfield 47, 3) := by decide +kernel
theorem dX9_split_154 : decode cX9_split 154 = .ok (.iload_n 3, 1) := by decide +kernel
theorem dX9_split_155 : decode cX9_split 155 = .ok (.iconst 0, 1) := by decide +kernel
theorem dX9_split_156 : decode cX9_split 156 = .ok (.bastore, 1) := by decide +kernel
theorem dX9_split_157 : decode cX9_split 157 = .ok (.iinc 3 1, 3) := by decide +kernel
theorem dX9_split_160 : decode cX9_split 160 = .ok (.goto (-18), 3) := by decide +kernel
theorem dX9_split_163 : decode cX9_split 163 = .ok (.aload_n 0, 1) := by decide +kernel
theorem dX9_split_164 : decode cX9_split 164 = .ok (.getfield 142, 3) := by decide +kernel
theorem dX9_split_167 : decode cX9_split 167 = .ok (.ireturn, 1) := by decide +kernel
theorem dX9_lacking_0 : decode cX9_lacking 0 = .ok (.iconst 0, 1) := by decide +kernel
theorem dX9_lacking_1 : decode cX9_lacking 1 = .ok (.istore_n 2, 1) := by decide +kernel
theorem dX9_lacking_2 : decode cX9_lacking 2 = .ok (.iconst (-1), 1) := by decide +kernel
theorem dX9_lacking_3 : decode cX9_lacking 3 = .ok (.istore_n 3, 1) := by decide +kernel
theorem dX9_lacking_4 : decode cX9_lacking 4 = .ok (.aload_n 0, 1) := by decide +kernel
theorem dX9_lacking_5 : decode cX9_lacking 5 = .ok (.getfield 142, 3) := by decide +kernel
theorem dX9_lacking_8 : decode cX9_lacking 8 = .ok (.iconst 1, 1) := by decide +kernel
theorem dX9_lacking_9 : decode cX9_lacking 9 = .ok (.isub, 1) := by decide +kernel
theorem dX9_lacking_10 : decode cX9_lacking 10 = .ok (.istore 4, 2) := by decide +kernel
theorem dX9_lacking_12 : decode cX9_lacking 12 = .ok (.iload 4, 2) := by decide +kernel
theorem dX9_lacking_14 : decode cX9_lacking 14 = .ok (.ifCond .lt 44, 3) := by decide +kernel
theorem dX9_lacking_17 : decode cX9_lacking 17 = .ok (.iload_n 2, 1) := by decide +kernel
theorem dX9_lacking_18 : decode cX9_lacking 18 = .ok (.aload_n 0, 1) := by decide +kernel
theorem dX9_lacking_19 : decode cX9_lacking 19 = .ok (.getfield 47, 3) := by decide +kernel
theorem dX9_lacking_22 : decode cX9_lacking 22 = .ok (.iload 4, 2) := by decide +kernel
theorem dX9_lacking_24 : decode cX9_lacking 24 = .ok (.baload, 1) := by decide +kernel
theorem dX9_lacking_25 : decode cX9_lacking 25 = .ok (.ifCond .eq 7, 3) := by decide +kernel
theorem dX9_lacking_28 : decode cX9_lacking 28 = .ok (.iconst 0, 1) := by decide +kernel
theorem dX9_lacking_29 : decode cX9_lacking 29 = .ok (.goto 4, 3) := by decide +kernel
theorem dX9_lacking_32 : decode cX9_lacking 32 = .ok (.iconst 1, 1) := by decide +kernel
theorem dX9_lacking_33 : decode cX9_lacking 33 = .ok (.iadd, 1) := by decide +kernel
theorem dX9_lacking_34 : decode cX9_lacking 34 = .ok (.istore_n 2, 1) := by decide +kernel
theorem dX9_lacking_35 : decode cX9_lacking 35 = .ok (.aload_n 0, 1) := by decide +kernel
theorem dX9_lacking_36 : decode cX9_lacking 36 = .ok (.getfield 47, 3) := by decide +kernel
theorem dX9_lacking_39 : decode cX9_lacking 39 = .ok (.iload 4, 2) := by decide +kernel
theorem dX9_lacking_41 : decode cX9_lacking 41 = .ok (.baload, 1) := by decide +kernel
theorem dX9_lacking_42 : decode cX9_lacking 42 = .ok (.ifCond .eq 7, 3) := by decide +kernel
theorem dX9_lacking_45 : decode cX9_lacking 45 = .ok (.iload_n 3, 1) := by decide +kernel
theorem dX9_lacking_46 : decode cX9_lacking 46 = .ok (.goto 5, 3) := by decide +kernel
theorem dX9_lacking_49 : decode cX9_lacking 49 = .ok (.iload 4, 2) := by decide +kernel
theorem dX9_lacking_51 : decode cX9_lacking 51 = .ok (.istore_n 3, 1) := by decide +kernel
theorem dX9_lacking_52 : decode cX9_lacking 52 = .ok (.iinc 4 (-1), 3) := by decide +kernel
theorem dX9_lacking_55 : decode cX9_lacking 55 = .ok (.goto (-43), 3) := by decide +kernel
theorem dX9_lacking_58 : decode cX9_lacking 58 = .ok (.iload_n 1, 1) := by decide +kernel
theorem dX9_lacking_59 : decode cX9_lacking 59 = .ok (.ifCond .eq 7, 3) := by decide +kernel
theorem dX9_lacking_62 : decode cX9_lacking 62 = .ok (.iload_n 2, 1) := by decide +kernel
theorem dX9_lacking_63 : decode cX9_lacking 63 = .ok (.goto 4, 3) := by decide +kernel
theorem dX9_lacking_66 : decode cX9_lacking 66 = .ok (.iload_n 3, 1) := by decide +kernel
theorem dX9_lacking_67 : decode cX9_lacking 67 = .ok (.ireturn, 1) := by decide +kernel
theorem dX9_piece_0 : decode cX9_piece 0 = .ok (.aload_n 0, 1) := by decide +kernel
theorem dX9_piece_1 : decode cX9_piece 1 = .ok (.iconst 0, 1) := by decide +kernel
theorem dX9_piece_2 : decode cX9_piece 2 = .ok (.putfield 54, 3) := by decide +kernel
theorem dX9_piece_5 : decode cX9_piece 5 = .ok (.aload_n 0, 1) := by decide +kernel
theorem dX9_piece_6 : decode cX9_piece 6 = .ok (.getfield 132, 3) := by decide +kernel
theorem dX9_piece_9 : decode cX9_piece 9 = .ok (.ifCond .eq 17, 3) := by decide +kernel
theorem dX9_piece_12 : decode cX9_piece 12 = .ok (.iload_n 1, 1) := by decide +kernel
theorem dX9_piece_13 : decode cX9_piece 13 = .ok (.iconst 0, 1) := by decide +kernel
theorem dX9_piece_14 : decode cX9_piece 14 = .ok (.aload_n 0, 1) := by decide +kernel
theorem dX9_piece_15 : decode cX9_piece 15 = .ok (.getfield 142, 3) := by decide +kernel
theorem dX9_piece_18 : decode cX9_piece 18 = .ok (.iconst 1, 1) := by decide +kernel
theorem dX9_piece_19 : decode cX9_piece 19 = .ok (.isub, 1) := by decide +kernel
theorem dX9_piece_20 : decode cX9_piece 20 = .ok (.invokestatic 64, 3) := by decide +kernel
theorem dX9_piece_23 : decode cX9_piece 23 = .ok (.ifCond .ne 6, 3) := by decide +kernel
theorem dX9_piece_26 : decode cX9_piece 26 = .ok (.bipush (-2), 2) := by decide +kernel
theorem dX9_piece_28 : decode cX9_piece 28 = .ok (.ireturn, 1) := by decide +kernel
theorem dX9_piece_29 : decode cX9_piece 29 = .ok (.aload_n 0, 1) := by decide +kernel
theorem dX9_piece_30 : decode cX9_piece 30 = .ok (.getfield 47, 3) := by decide +kernel
theorem dX9_piece_33 : decode cX9_piece 33 = .ok (.iload_n 1, 1) := by decide +kernel
theorem dX9_piece_34 : decode cX9_piece 34 = .ok (.aload_n 0, 1) := by decide +kernel
theorem dX9_piece_35 : decode cX9_piece 35 = .ok (.getfield 47, 3) := by decide +kernel
theorem dX9_piece_38 : decode cX9_piece 38 = .ok (.iload_n 1, 1) := by decide +kernel
theorem dX9_piece_39 : decode cX9_piece 39 = .ok (.baload, 1) := by decide +kernel
theorem dX9_piece_40 : decode cX9_piece 40 = .ok (.ifCond .ne 7, 3) := by decide +kernel
theorem dX9_piece_43 : decode cX9_piece 43 = .ok (.iload_n 2, 1) := by decide +kernel
theorem dX9_piece_44 : decode cX9_piece 44 = .ok (.ifCond .eq 7, 3) := by decide +kernel
theorem dX9_piece_47 : decode cX9_piece 47 = .ok (.iconst 1, 1) := by decide +kernel
theorem dX9_piece_48 : decode cX9_piece 48 = .ok (.goto 4, 3) := by decide +kernel
theorem dX9_piece_51 : decode cX9_piece 51 = .ok (.iconst 0, 1) := by decide +kernel
theorem dX9_piece_52 : decode cX9_piece 52 = .ok (.bastore, 1) := by decide +kernel
theorem dX9_piece_53 : decode cX9_piece 53 = .ok (.aload_n 0, 1) := by decide +kernel
theorem dX9_piece_54 : decode cX9_piece 54 = .ok (.iconst 1, 1) := by decide +kernel
theorem dX9_piece_55 : decode cX9_piece 55 = .ok (.invokevirtual 145, 3) := by decide +kernel
theorem dX9_piece_58 : decode cX9_piece 58 = .ok (.ireturn, 1) := by decide +kernel
theorem dX9_missing_0 : decode cX9_missing 0 = .ok (.aload_n 0, 1) := by decide +kernel
theorem dX9_missing_1 : decode cX9_missing 1 = .ok (.iconst 0, 1) := by decide +kernel
theorem dX9_missing_2 : decode cX9_missing 2 = .ok (.putfield 54, 3) := by decide +kernel
theorem dX9_missing_5 : decode cX9_missing 5 = .ok (.aload_n 0, 1) := by decide +kernel
theorem dX9_missing_6 : decode cX9_missing 6 = .ok (.getfield 132, 3) := by decide +kernel
theorem dX9_missing_9 : decode cX9_missing 9 = .ok (.ifCond .eq 11, 3) := by decide +kernel
theorem dX9_missing_12 : decode cX9_missing 12 = .ok (.aload_n 0, 1) := by decide +kernel
theorem dX9_missing_13 : decode cX9_missing 13 = .ok (.iconst 0, 1) := by decide +kernel
theorem dX9_missing_14 : decode cX9_missing 14 = .ok (.invokevirtual 145, 3) := by decide +kernel
theorem dX9_missing_17 : decode cX9_missing 17 = .ok (.goto 4, 3) := by decide +kernel
theorem dX9_missing_20 : decode cX9_missing 20 = .ok (.iconst (-1), 1) := by decide +kernel
theorem dX9_missing_21 : decode cX9_missing 21 = .ok (.ireturn, 1) := by decide +kernel
theorem dX9_joined_0 : decode cX9_joined 0 = .ok (.aload_n 0, 1) := by decide +kernel
theorem dX9_joined_1 : decode cX9_joined 1 = .ok (.iconst 0, 1) := by decide +kernel
theorem dX9_joined_2 : decode cX9_joined 2 = .ok (.putfield 54, 3) := by decide +kernel
theorem dX9_joined_5 : decode cX9_joined 5 = .ok (.aload_n 0, 1) := by decide +kernel
theorem dX9_joined_6 : decode cX9_joined 6 = .ok (.getfield 132, 3) := by decide +kernel
theorem dX9_joined_9 : decode cX9_joined 9 = .ok (.ifCond .eq 11, 3) := by decide +kernel
theorem dX9_joined_12 : decode cX9_joined 12 = .ok (.aload_n 0, 1) := by decide +kernel
theorem dX9_joined_13 : decode cX9_joined 13 = .ok (.iconst 1, 1) := by decide +kernel
theorem dX9_joined_14 : decode cX9_joined 14 = .ok (.invokevirtual 145, 3) := by decide +kernel
theorem dX9_joined_17 : decode cX9_joined 17 = .ok (.ifCond .le 6, 3) := by decide +kernel
theorem dX9_joined_20 : decode cX9_joined 20 = .ok (.bipush (-3), 2) := by decide +kernel
theorem dX9_joined_22 : decode cX9_joined 22 = .ok (.ireturn, 1) := by decide +kernel
theorem dX9_joined_23 : decode cX9_joined 23 = .ok (.iload_n 1, 1) := by decide +kernel
theorem dX9_joined_24 : decode cX9_joined 24 = .ok (.iconst 0, 1) := by decide +kernel
theorem dX9_joined_25 : decode cX9_joined 25 = .ok (.aload_n 0, 1) := by decide +kernel
theorem dX9_joined_26 : decode cX9_joined 26 = .ok (.getfield 139, 3) := by decide +kernel
theorem dX9_joined_29 : decode cX9_joined 29 = .ok (.iconst 1, 1) := by decide +kernel
theorem dX9_joined_30 : decode cX9_joined 30 = .ok (.isub, 1) := by decide +kernel
theorem dX9_joined_31 : decode cX9_joined 31 = .ok (.invokestatic 64, 3) := by decide +kernel
theorem dX9_joined_34 : decode cX9_joined 34 = .ok (.ifCond .eq 16, 3) := by decide +kernel
theorem dX9_joined_37 : decode cX9_joined 37 = .ok (.aload_n 0, 1) := by decide +kernel
theorem dX9_joined_38 : decode cX9_joined 38 = .ok (.getfield 51, 3) := by decide +kernel
theorem dX9_joined_41 : decode cX9_joined 41 = .ok (.iload_n 1, 1) := by decide +kernel
theorem dX9_joined_42 : decode cX9_joined 42 = .ok (.baload, 1) := by decide +kernel
theorem dX9_joined_43 : decode cX9_joined 43 = .ok (.sipush 255, 3) := by decide +kernel
theorem dX9_joined_46 : decode cX9_joined 46 = .ok (.iand, 1) := by decide +kernel
theorem dX9_joined_47 : decode cX9_joined 47 = .ok (.goto 4, 3) := by decide +kernel
theorem dX9_joined_50 : decode cX9_joined 50 = .ok (.iconst (-1), 1) := by decide +kernel
theorem dX9_joined_51 : decode cX9_joined 51 = .ok (.ireturn, 1) := by decide +kernel
theorem dJx00060_init_da8c8_0 : decode cJx00060_init_da8c8 0 = .ok (.aload_n 0, 1) := by decide +kernel
theorem dJx00060_init_da8c8_1 : decode cJx00060_init_da8c8 1 = .ok (.invokespecial 1, 3) := by decide +kernel
theorem dJx00060_init_da8c8_4 : decode cJx00060_init_da8c8 4 = .ok (.return_, 1) := by decide +kernel
theorem dJ9_max_7cf53_0 : decode cJ9_max_7cf53 0 = .ok (.iload_n 0, 1) := by decide +kernel
theorem dJ9_max_7cf53_1 : decode cJ9_max_7cf53 1 = .ok (.iload_n 1, 1) := by decide +kernel
theorem dJ9_max_7cf53_2 : decode cJ9_max_7cf53 2 = .ok (.if_icmp .lt 7, 3) := by decide +kernel
theorem dJ9_max_7cf53_5 : decode cJ9_max_7cf53 5 = .ok (.iload_n 0, 1) := by decide +kernel
theorem dJ9_max_7cf53_6 : decode cJ9_max_7cf53 6 = .ok (.goto 4, 3) := by decide +kernel
theorem dJ9_max_7cf53_9 : decode cJ9_max_7cf53 9 = .ok (.iload_n 1, 1) := by decide +kernel
theorem dJ9_max_7cf53_10 : decode cJ9_max_7cf53 10 = .ok (.ireturn, 1) := by decide +kernel
theorem dJ9_min_7cf53_0 : decode cJ9_min_7cf53 0 = .ok (.iload_n 0, 1) := by decide +kernel
theorem dJ9_min_7cf53_1 : decode cJ9_min_7cf53 1 = .ok (.iload_n 1, 1) := by decide +kernel
theorem dJ9_min_7cf53_2 : decode cJ9_min_7cf53 2 = .ok (.if_icmp .gt 7, 3) := by decide +kernel
theorem dJ9_min_7cf53_5 : decode cJ9_min_7cf53 5 = .ok (.iload_n 0, 1) := by decide +kernel
theorem dJ9_min_7cf53_6 : decode cJ9_min_7cf53 6 = .ok (.goto 4, 3) := by decide +kernel
theorem dJ9_min_7cf53_9 : decode cJ9_min_7cf53 9 = .ok (.iload_n 1, 1) := by decide +kernel
theorem dJ9_min_7cf53_10 : decode cJ9_min_7cf53 10 = .ok (.ireturn, 1) := by decide +kernel
