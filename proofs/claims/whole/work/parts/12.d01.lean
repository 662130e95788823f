theorem eX3_deedOfWord_1 : sl_D YX3_deedOfWord 1 (.istore_n 1) 1 2 := ⟨by decide +kernel, rfl⟩
theorem eX3_deedOfWord_2 : sl_D YX3_deedOfWord 2 (.iload_n 1) 1 3 := ⟨by decide +kernel, rfl⟩
theorem eX3_deedOfWord_3 : sl_D YX3_deedOfWord 3 (.bipush 8) 2 5 := ⟨by decide +kernel, rfl⟩
theorem eX3_deedOfWord_5 : sl_B YX3_deedOfWord 5 (fun o => .if_icmp .gt o) 8 27 := ⟨22, by decide +kernel, rfl, by decide⟩
theorem eX3_deedOfWord_8 : sl_D YX3_deedOfWord 8 (.aload_n 0) 1 9 := ⟨by decide +kernel, rfl⟩
theorem eX3_deedOfWord_9 : sl_D YX3_deedOfWord 9 (.iload_n 1) 1 10 := ⟨by decide +kernel, rfl⟩
theorem eX3_deedOfWord_10 : sl_D YX3_deedOfWord 10 (.invokestatic 204) 3 13 := ⟨by decide +kernel, rfl⟩
theorem eX3_deedOfWord_13 : sl_D YX3_deedOfWord 13 (.invokevirtual 117) 3 16 := ⟨by decide +kernel, rfl⟩
theorem eX3_deedOfWord_16 : sl_B YX3_deedOfWord 16 (fun o => .ifCond .eq o) 19 21 := ⟨5, by decide +kernel, rfl, by decide⟩
theorem eX3_deedOfWord_19 : sl_D YX3_deedOfWord 19 (.iload_n 1) 1 20 := ⟨by decide +kernel, rfl⟩
theorem eX3_deedOfWord_20 : sl_D YX3_deedOfWord 20 (.ireturn) 1 21 := ⟨by decide +kernel, rfl⟩
theorem eX3_deedOfWord_21 : sl_D YX3_deedOfWord 21 (.iinc 1 1) 3 24 := ⟨by decide +kernel, rfl⟩
theorem eX3_deedOfWord_24 : sl_B YX3_deedOfWord 24 (fun o => .goto o) 27 2 := ⟨-22, by decide +kernel, rfl, by decide⟩
theorem eX3_deedOfWord_27 : sl_D YX3_deedOfWord 27 (.iconst (-1)) 1 28 := ⟨by decide +kernel, rfl⟩
theorem eX3_deedOfWord_28 : sl_D YX3_deedOfWord 28 (.ireturn) 1 29 := ⟨by decide +kernel, rfl⟩
theorem eX3_deedText_0 : sl_D YX3_deedText 0 (.iload_n 0) 1 1 := ⟨by decide +kernel, rfl⟩
theorem eX3_deedText_1 : decode YX3_deedText.2.1 1 = .ok (.tableswitch 71 0 7 #[47, 50, 53, 56, 59, 62, 65, 68], 47) := by decide +kernel
theorem eX3_deedText_48 : sl_D YX3_deedText 48 (.ldc 208) 2 50 := ⟨by decide +kernel, rfl⟩
theorem eX3_deedText_50 : sl_D YX3_deedText 50 (.areturn) 1 51 := ⟨by decide +kernel, rfl⟩
theorem eX3_deedText_51 : sl_D YX3_deedText 51 (.ldc 210) 2 53 := ⟨by decide +kernel, rfl⟩
theorem eX3_deedText_53 : sl_D YX3_deedText 53 (.areturn) 1 54 := ⟨by decide +kernel, rfl⟩
theorem eX3_deedText_54 : sl_D YX3_deedText 54 (.ldc 212) 2 56 := ⟨by decide +kernel, rfl⟩
theorem eX3_deedText_56 : sl_D YX3_deedText 56 (.areturn) 1 57 := ⟨by decide +kernel, rfl⟩
theorem eX3_deedText_57 : sl_D YX3_deedText 57 (.ldc 214) 2 59 := ⟨by decide +kernel, rfl⟩
theorem eX3_deedText_59 : sl_D YX3_deedText 59 (.areturn) 1 60 := ⟨by decide +kernel, rfl⟩
theorem eX3_deedText_60 : sl_D YX3_deedText 60 (.ldc 216) 2 62 := ⟨by decide +kernel, rfl⟩
theorem eX3_deedText_62 : sl_D YX3_deedText 62 (.areturn) 1 63 := ⟨by decide +kernel, rfl⟩
theorem eX3_deedText_63 : sl_D YX3_deedText 63 (.ldc 218) 2 65 := ⟨by decide +kernel, rfl⟩
theorem eX3_deedText_65 : sl_D YX3_deedText 65 (.areturn) 1 66 := ⟨by decide +kernel, rfl⟩
theorem eX3_deedText_66 : sl_D YX3_deedText 66 (.ldc 131) 2 68 := ⟨by decide +kernel, rfl⟩
theorem eX3_deedText_68 : sl_D YX3_deedText 68 (.areturn) 1 69 := ⟨by decide +kernel, rfl⟩
theorem eX3_deedText_69 : sl_D YX3_deedText 69 (.ldc 133) 2 71 := ⟨by decide +kernel, rfl⟩
theorem eX3_deedText_71 : sl_D YX3_deedText 71 (.areturn) 1 72 := ⟨by decide +kernel, rfl⟩
theorem eX3_deedText_72 : sl_D YX3_deedText 72 (.ldc 139) 2 74 := ⟨by decide +kernel, rfl⟩
theorem eX3_deedText_74 : sl_D YX3_deedText 74 (.areturn) 1 75 := ⟨by decide +kernel, rfl⟩
theorem eX3_goesWithRule_0 : sl_D YX3_goesWithRule 0 (.aload_n 0) 1 1 := ⟨by decide +kernel, rfl⟩
theorem eX3_goesWithRule_1 : sl_D YX3_goesWithRule 1 (.getfield 22) 3 4 := ⟨by decide +kernel, rfl⟩
theorem eX3_goesWithRule_4 : sl_D YX3_goesWithRule 4 (.getfield 123) 3 7 := ⟨by decide +kernel, rfl⟩
theorem eX3_goesWithRule_7 : sl_D YX3_goesWithRule 7 (.istore_n 2) 1 8 := ⟨by decide +kernel, rfl⟩
theorem eX3_goesWithRule_8 : sl_D YX3_goesWithRule 8 (.iload_n 1) 1 9 := ⟨by decide +kernel, rfl⟩
theorem eX3_goesWithRule_9 : sl_D YX3_goesWithRule 9 (.bipush 8) 2 11 := ⟨by decide +kernel, rfl⟩
theorem eX3_goesWithRule_11 : sl_B YX3_goesWithRule 11 (fun o => .if_icmp .ne o) 14 53 := ⟨42, by decide +kernel, rfl, by decide⟩
theorem eX3_goesWithRule_14 : sl_D YX3_goesWithRule 14 (.aload_n 0) 1 15 := ⟨by decide +kernel, rfl⟩
theorem eX3_goesWithRule_15 : sl_D YX3_goesWithRule 15 (.getfield 22) 3 18 := ⟨by decide +kernel, rfl⟩
theorem eX3_goesWithRule_18 : sl_D YX3_goesWithRule 18 (.getfield 170) 3 21 := ⟨by decide +kernel, rfl⟩
theorem eX3_goesWithRule_21 : sl_D YX3_goesWithRule 21 (.iload_n 2) 1 22 := ⟨by decide +kernel, rfl⟩
theorem eX3_goesWithRule_22 : sl_D YX3_goesWithRule 22 (.iaload) 1 23 := ⟨by decide +kernel, rfl⟩
theorem eX3_goesWithRule_23 : sl_D YX3_goesWithRule 23 (.iconst 1) 1 24 := ⟨by decide +kernel, rfl⟩
theorem eX3_goesWithRule_24 : sl_B YX3_goesWithRule 24 (fun o => .if_icmp .ne o) 27 51 := ⟨27, by decide +kernel, rfl, by decide⟩
theorem eX3_goesWithRule_27 : sl_D YX3_goesWithRule 27 (.aload_n 0) 1 28 := ⟨by decide +kernel, rfl⟩
theorem eX3_goesWithRule_28 : sl_D YX3_goesWithRule 28 (.getfield 22) 3 31 := ⟨by decide +kernel, rfl⟩
theorem eX3_goesWithRule_31 : sl_D YX3_goesWithRule 31 (.iload_n 2) 1 32 := ⟨by decide +kernel, rfl⟩
theorem eX3_goesWithRule_32 : sl_D YX3_goesWithRule 32 (.iconst 0) 1 33 := ⟨by decide +kernel, rfl⟩
theorem eX3_goesWithRule_33 : sl_D YX3_goesWithRule 33 (.invokevirtual 179) 3 36 := ⟨by decide +kernel, rfl⟩
theorem eX3_goesWithRule_36 : sl_D YX3_goesWithRule 36 (.aload_n 0) 1 37 := ⟨by decide +kernel, rfl⟩
theorem eX3_goesWithRule_37 : sl_D YX3_goesWithRule 37 (.getfield 22) 3 40 := ⟨by decide +kernel, rfl⟩
theorem eX3_goesWithRule_40 : sl_D YX3_goesWithRule 40 (.iconst 0) 1 41 := ⟨by decide +kernel, rfl⟩
theorem eX3_goesWithRule_41 : sl_D YX3_goesWithRule 41 (.invokevirtual 151) 3 44 := ⟨by decide +kernel, rfl⟩
theorem eX3_goesWithRule_44 : sl_B YX3_goesWithRule 44 (fun o => .if_icmp .ne o) 47 51 := ⟨7, by decide +kernel, rfl, by decide⟩
theorem eX3_goesWithRule_47 : sl_D YX3_goesWithRule 47 (.iconst 1) 1 48 := ⟨by decide +kernel, rfl⟩
theorem eX3_goesWithRule_48 : sl_B YX3_goesWithRule 48 (fun o => .goto o) 51 52 := ⟨4, by decide +kernel, rfl, by decide⟩
theorem eX3_goesWithRule_51 : sl_D YX3_goesWithRule 51 (.iconst 0) 1 52 := ⟨by decide +kernel, rfl⟩
theorem eX3_goesWithRule_52 : sl_D YX3_goesWithRule 52 (.ireturn) 1 53 := ⟨by decide +kernel, rfl⟩
theorem eX3_goesWithRule_53 : sl_D YX3_goesWithRule 53 (.aload_n 0) 1 54 := ⟨by decide +kernel, rfl⟩
theorem eX3_goesWithRule_54 : sl_D YX3_goesWithRule 54 (.getfield 22) 3 57 := ⟨by decide +kernel, rfl⟩
theorem eX3_goesWithRule_57 : sl_D YX3_goesWithRule 57 (.iload_n 2) 1 58 := ⟨by decide +kernel, rfl⟩
theorem eX3_goesWithRule_58 : sl_D YX3_goesWithRule 58 (.invokevirtual 220) 3 61 := ⟨by decide +kernel, rfl⟩
theorem eX3_goesWithRule_61 : sl_D YX3_goesWithRule 61 (.iload_n 1) 1 62 := ⟨by decide +kernel, rfl⟩
theorem eX3_goesWithRule_62 : sl_D YX3_goesWithRule 62 (.iconst 3) 1 63 := ⟨by decide +kernel, rfl⟩
theorem eX3_goesWithRule_63 : sl_B YX3_goesWithRule 63 (fun o => .if_icmp .gt o) 66 70 := ⟨7, by decide +kernel, rfl, by decide⟩
theorem eX3_goesWithRule_66 : sl_D YX3_goesWithRule 66 (.iconst 2) 1 67 := ⟨by decide +kernel, rfl⟩
theorem eX3_goesWithRule_67 : sl_B YX3_goesWithRule 67 (fun o => .goto o) 70 71 := ⟨4, by decide +kernel, rfl, by decide⟩
theorem eX3_goesWithRule_70 : sl_D YX3_goesWithRule 70 (.iconst 1) 1 71 := ⟨by decide +kernel, rfl⟩
theorem eX3_goesWithRule_71 : sl_B YX3_goesWithRule 71 (fun o => .if_icmp .ne o) 74 78 := ⟨7, by decide +kernel, rfl, by decide⟩
theorem eX3_goesWithRule_74 : sl_D YX3_goesWithRule 74 (.iconst 1) 1 75 := ⟨by decide +kernel, rfl⟩
theorem eX3_goesWithRule_75 : sl_B YX3_goesWithRule 75 (fun o => .goto o) 78 79 := ⟨4, by decide +kernel, rfl, by decide⟩
theorem eX3_goesWithRule_78 : sl_D YX3_goesWithRule 78 (.iconst 0) 1 79 := ⟨by decide +kernel, rfl⟩
theorem eX3_goesWithRule_79 : sl_D YX3_goesWithRule 79 (.ireturn) 1 80 := ⟨by decide +kernel, rfl⟩
theorem eX3_takeParting_0 : sl_D YX3_takeParting 0 (.aload_n 0) 1 1 := ⟨by decide +kernel, rfl⟩
theorem eX3_takeParting_1 : sl_D YX3_takeParting 1 (.getfield 60) 3 4 := ⟨by decide +kernel, rfl⟩
theorem eX3_takeParting_4 : sl_D YX3_takeParting 4 (.iconst 3) 1 5 := ⟨by decide +kernel, rfl⟩
theorem eX3_takeParting_5 : sl_B YX3_takeParting 5 (fun o => .if_icmp .ne o) 8 16 := ⟨11, by decide +kernel, rfl, by decide⟩
theorem eX3_takeParting_8 : sl_D YX3_takeParting 8 (.aload_n 0) 1 9 := ⟨by decide +kernel, rfl⟩
theorem eX3_takeParting_9 : sl_D YX3_takeParting 9 (.iconst 0) 1 10 := ⟨by decide +kernel, rfl⟩
theorem eX3_takeParting_10 : sl_D YX3_takeParting 10 (.putfield 31) 3 13 := ⟨by decide +kernel, rfl⟩
theorem eX3_takeParting_13 : sl_B YX3_takeParting 13 (fun o => .goto o) 16 51 := ⟨38, by decide +kernel, rfl, by decide⟩
theorem eX3_takeParting_16 : sl_D YX3_takeParting 16 (.aload_n 0) 1 17 := ⟨by decide +kernel, rfl⟩
theorem eX3_takeParting_17 : sl_D YX3_takeParting 17 (.getfield 60) 3 20 := ⟨by decide +kernel, rfl⟩
theorem eX3_takeParting_20 : sl_B YX3_takeParting 20 (fun o => .ifCond .eq o) 23 31 := ⟨11, by decide +kernel, rfl, by decide⟩
theorem eX3_takeParting_23 : sl_D YX3_takeParting 23 (.aload_n 0) 1 24 := ⟨by decide +kernel, rfl⟩
theorem eX3_takeParting_24 : sl_D YX3_takeParting 24 (.iconst 1) 1 25 := ⟨by decide +kernel, rfl⟩
theorem eX3_takeParting_25 : sl_D YX3_takeParting 25 (.invokevirtual 90) 3 28 := ⟨by decide +kernel, rfl⟩
theorem eX3_takeParting_28 : sl_B YX3_takeParting 28 (fun o => .goto o) 31 51 := ⟨23, by decide +kernel, rfl, by decide⟩
theorem eX3_takeParting_31 : sl_D YX3_takeParting 31 (.aload_n 0) 1 32 := ⟨by decide +kernel, rfl⟩
theorem eX3_takeParting_32 : sl_D YX3_takeParting 32 (.invokevirtual 223) 3 35 := ⟨by decide +kernel, rfl⟩
theorem eX3_takeParting_35 : sl_B YX3_takeParting 35 (fun o => .ifCond .eq o) 38 46 := ⟨11, by decide +kernel, rfl, by decide⟩
theorem eX3_takeParting_38 : sl_D YX3_takeParting 38 (.aload_n 0) 1 39 := ⟨by decide +kernel, rfl⟩
theorem eX3_takeParting_39 : sl_D YX3_takeParting 39 (.iconst 5) 1 40 := ⟨by decide +kernel, rfl⟩
theorem eX3_takeParting_40 : sl_D YX3_takeParting 40 (.invokevirtual 90) 3 43 := ⟨by decide +kernel, rfl⟩
theorem eX3_takeParting_43 : sl_B YX3_takeParting 43 (fun o => .goto o) 46 51 := ⟨8, by decide +kernel, rfl, by decide⟩
theorem eX3_takeParting_46 : sl_D YX3_takeParting 46 (.aload_n 0) 1 47 := ⟨by decide +kernel, rfl⟩
theorem eX3_takeParting_47 : sl_D YX3_takeParting 47 (.iconst 1) 1 48 := ⟨by decide +kernel, rfl⟩
theorem eX3_takeParting_48 : sl_D YX3_takeParting 48 (.putfield 38) 3 51 := ⟨by decide +kernel, rfl⟩
theorem eX3_takeParting_51 : sl_D YX3_takeParting 51 (.return_) 1 52 := ⟨by decide +kernel, rfl⟩
theorem eX3_lacksSomething_0 : sl_D YX3_lacksSomething 0 (.aload_n 0) 1 1 := ⟨by decide +kernel, rfl⟩
theorem eX3_lacksSomething_1 : sl_D YX3_lacksSomething 1 (.getfield 34) 3 4 := ⟨by decide +kernel, rfl⟩
theorem eX3_lacksSomething_4 : sl_B YX3_lacksSomething 4 (fun o => .ifCond .eq o) 7 17 := ⟨13, by decide +kernel, rfl, by decide⟩
theorem eX3_lacksSomething_7 : sl_D YX3_lacksSomething 7 (.aload_n 0) 1 8 := ⟨by decide +kernel, rfl⟩
theorem eX3_lacksSomething_8 : sl_D YX3_lacksSomething 8 (.getfield 22) 3 11 := ⟨by decide +kernel, rfl⟩
theorem eX3_lacksSomething_11 : sl_D YX3_lacksSomething 11 (.getfield 123) 3 14 := ⟨by decide +kernel, rfl⟩
theorem eX3_lacksSomething_14 : sl_B YX3_lacksSomething 14 (fun o => .ifCond .ne o) 17 19 := ⟨5, by decide +kernel, rfl, by decide⟩
theorem eX3_lacksSomething_17 : sl_D YX3_lacksSomething 17 (.iconst 1) 1 18 := ⟨by decide +kernel, rfl⟩
theorem eX3_lacksSomething_18 : sl_D YX3_lacksSomething 18 (.ireturn) 1 19 := ⟨by decide +kernel, rfl⟩
theorem eX3_lacksSomething_19 : sl_D YX3_lacksSomething 19 (.iconst 0) 1 20 := ⟨by decide +kernel, rfl⟩
theorem eX3_lacksSomething_20 : sl_D YX3_lacksSomething 20 (.istore_n 1) 1 21 := ⟨by decide +kernel, rfl⟩
theorem eX3_lacksSomething_21 : sl_D YX3_lacksSomething 21 (.iload_n 1) 1 22 := ⟨by decide +kernel, rfl⟩
theorem eX3_lacksSomething_22 : sl_D YX3_lacksSomething 22 (.aload_n 0) 1 23 := ⟨by decide +kernel, rfl⟩
theorem eX3_lacksSomething_23 : sl_D YX3_lacksSomething 23 (.getfield 22) 3 26 := ⟨by decide +kernel, rfl⟩
theorem eX3_lacksSomething_26 : sl_D YX3_lacksSomething 26 (.getfield 144) 3 29 := ⟨by decide +kernel, rfl⟩
theorem eX3_lacksSomething_29 : sl_B YX3_lacksSomething 29 (fun o => .if_icmp .ge o) 32 51 := ⟨22, by decide +kernel, rfl, by decide⟩
theorem eX3_lacksSomething_32 : sl_D YX3_lacksSomething 32 (.aload_n 0) 1 33 := ⟨by decide +kernel, rfl⟩
theorem eX3_lacksSomething_33 : sl_D YX3_lacksSomething 33 (.getfield 22) 3 36 := ⟨by decide +kernel, rfl⟩
theorem eX3_lacksSomething_36 : sl_D YX3_lacksSomething 36 (.iload_n 1) 1 37 := ⟨by decide +kernel, rfl⟩
theorem eX3_lacksSomething_37 : sl_D YX3_lacksSomething 37 (.invokevirtual 226) 3 40 := ⟨by decide +kernel, rfl⟩
theorem eX3_lacksSomething_40 : sl_B YX3_lacksSomething 40 (fun o => .ifCond .ne o) 43 45 := ⟨5, by decide +kernel, rfl, by decide⟩
theorem eX3_lacksSomething_43 : sl_D YX3_lacksSomething 43 (.iconst 1) 1 44 := ⟨by decide +kernel, rfl⟩
theorem eX3_lacksSomething_44 : sl_D YX3_lacksSomething 44 (.ireturn) 1 45 := ⟨by decide +kernel, rfl⟩
theorem eX3_lacksSomething_45 : sl_D YX3_lacksSomething 45 (.iinc 1 1) 3 48 := ⟨by decide +kernel, rfl⟩
theorem eX3_lacksSomething_48 : sl_B YX3_lacksSomething 48 (fun o => .goto o) 51 21 := ⟨-27, by decide +kernel, rfl, by decide⟩
theorem eX3_lacksSomething_51 : sl_D YX3_lacksSomething 51 (.iconst 0) 1 52 := ⟨by decide +kernel, rfl⟩
theorem eX3_lacksSomething_52 : sl_D YX3_lacksSomething 52 (.ireturn) 1 53 := ⟨by decide +kernel, rfl⟩
theorem eX4_init_0 : sl_D YX4_init 0 (.aload_n 0) 1 1 := ⟨by decide +kernel, rfl⟩
theorem eX4_init_1 : sl_D YX4_init 1 (.invokespecial 3) 3 4 := ⟨by decide +kernel, rfl⟩
theorem eX4_init_4 : sl_D YX4_init 4 (.aload_n 0) 1 5 := ⟨by decide +kernel, rfl⟩
theorem eX4_init_5 : sl_D YX4_init 5 (.bipush 31) 2 7 := ⟨by decide +kernel, rfl⟩
theorem eX4_init_7 : sl_D YX4_init 7 (.newarray .int) 2 9 := ⟨by decide +kernel, rfl⟩
theorem eX4_init_9 : sl_D YX4_init 9 (.putfield 9) 3 12 := ⟨by decide +kernel, rfl⟩
theorem eX4_init_12 : sl_D YX4_init 12 (.return_) 1 13 := ⟨by decide +kernel, rfl⟩
theorem eX4_gather_0 : sl_D YX4_gather 0 (.aload_n 0) 1 1 := ⟨by decide +kernel, rfl⟩
theorem eX4_gather_1 : sl_D YX4_gather 1 (.iconst 0) 1 2 := ⟨by decide +kernel, rfl⟩
theorem eX4_gather_2 : sl_D YX4_gather 2 (.putfield 15) 3 5 := ⟨by decide +kernel, rfl⟩
theorem eX4_gather_5 : sl_D YX4_gather 5 (.aload_n 0) 1 6 := ⟨by decide +kernel, rfl⟩
theorem eX4_gather_6 : sl_D YX4_gather 6 (.bipush (-2)) 2 8 := ⟨by decide +kernel, rfl⟩
theorem eX4_gather_8 : sl_D YX4_gather 8 (.putfield 19) 3 11 := ⟨by decide +kernel, rfl⟩
theorem eX4_gather_11 : sl_D YX4_gather 11 (.aload_n 0) 1 12 := ⟨by decide +kernel, rfl⟩
theorem eX4_gather_12 : sl_D YX4_gather 12 (.bipush (-2)) 2 14 := ⟨by decide +kernel, rfl⟩
theorem eX4_gather_14 : sl_D YX4_gather 14 (.putfield 22) 3 17 := ⟨by decide +kernel, rfl⟩
theorem eX4_gather_17 : sl_D YX4_gather 17 (.aload_n 0) 1 18 := ⟨by decide +kernel, rfl⟩
theorem eX4_gather_18 : sl_D YX4_gather 18 (.aload_n 2) 1 19 := ⟨by decide +kernel, rfl⟩
theorem eX4_gather_19 : sl_D YX4_gather 19 (.iload_n 3) 1 20 := ⟨by decide +kernel, rfl⟩
theorem eX4_gather_20 : sl_D YX4_gather 20 (.iconst 1) 1 21 := ⟨by decide +kernel, rfl⟩
theorem eX4_gather_21 : sl_D YX4_gather 21 (.isub) 1 22 := ⟨by decide +kernel, rfl⟩
theorem eX4_gather_22 : sl_D YX4_gather 22 (.iaload) 1 23 := ⟨by decide +kernel, rfl⟩
theorem eX4_gather_23 : sl_D YX4_gather 23 (.invokevirtual 25) 3 26 := ⟨by decide +kernel, rfl⟩
theorem eX4_gather_26 : sl_D YX4_gather 26 (.iload_n 3) 1 27 := ⟨by decide +kernel, rfl⟩
theorem eX4_gather_27 : sl_D YX4_gather 27 (.istore 5) 2 29 := ⟨by decide +kernel, rfl⟩
theorem eX4_gather_29 : sl_D YX4_gather 29 (.iload 5) 2 31 := ⟨by decide +kernel, rfl⟩
theorem eX4_gather_31 : sl_D YX4_gather 31 (.iload 4) 2 33 := ⟨by decide +kernel, rfl⟩
theorem eX4_gather_33 : sl_B YX4_gather 33 (fun o => .if_icmp .gt o) 36 58 := ⟨25, by decide +kernel, rfl, by decide⟩
theorem eX4_gather_36 : sl_D YX4_gather 36 (.aload_n 0) 1 37 := ⟨by decide +kernel, rfl⟩
theorem eX4_gather_37 : sl_D YX4_gather 37 (.aload_n 1) 1 38 := ⟨by decide +kernel, rfl⟩
theorem eX4_gather_38 : sl_D YX4_gather 38 (.iload 5) 2 40 := ⟨by decide +kernel, rfl⟩
theorem eX4_gather_40 : sl_D YX4_gather 40 (.iaload) 1 41 := ⟨by decide +kernel, rfl⟩
theorem eX4_gather_41 : sl_D YX4_gather 41 (.invokevirtual 29) 3 44 := ⟨by decide +kernel, rfl⟩
theorem eX4_gather_44 : sl_D YX4_gather 44 (.aload_n 0) 1 45 := ⟨by decide +kernel, rfl⟩
theorem eX4_gather_45 : sl_D YX4_gather 45 (.aload_n 2) 1 46 := ⟨by decide +kernel, rfl⟩
theorem eX4_gather_46 : sl_D YX4_gather 46 (.iload 5) 2 48 := ⟨by decide +kernel, rfl⟩
theorem eX4_gather_48 : sl_D YX4_gather 48 (.iaload) 1 49 := ⟨by decide +kernel, rfl⟩
theorem eX4_gather_49 : sl_D YX4_gather 49 (.invokevirtual 25) 3 52 := ⟨by decide +kernel, rfl⟩
theorem eX4_gather_52 : sl_D YX4_gather 52 (.iinc 5 1) 3 55 := ⟨by decide +kernel, rfl⟩
theorem eX4_gather_55 : sl_B YX4_gather 55 (fun o => .goto o) 58 29 := ⟨-26, by decide +kernel, rfl, by decide⟩
theorem eX4_gather_58 : sl_D YX4_gather 58 (.return_) 1 59 := ⟨by decide +kernel, rfl⟩
theorem eX4_addItem_0 : sl_D YX4_addItem 0 (.aload_n 0) 1 1 := ⟨by decide +kernel, rfl⟩
theorem eX4_addItem_1 : sl_D YX4_addItem 1 (.getfield 15) 3 4 := ⟨by decide +kernel, rfl⟩
theorem eX4_addItem_4 : sl_D YX4_addItem 4 (.bipush 31) 2 6 := ⟨by decide +kernel, rfl⟩
theorem eX4_addItem_6 : sl_B YX4_addItem 6 (fun o => .if_icmp .ge o) 9 29 := ⟨23, by decide +kernel, rfl, by decide⟩
theorem eX4_addItem_9 : sl_D YX4_addItem 9 (.aload_n 0) 1 10 := ⟨by decide +kernel, rfl⟩
theorem eX4_addItem_10 : sl_D YX4_addItem 10 (.getfield 9) 3 13 := ⟨by decide +kernel, rfl⟩
theorem eX4_addItem_13 : sl_D YX4_addItem 13 (.aload_n 0) 1 14 := ⟨by decide +kernel, rfl⟩
theorem eX4_addItem_14 : sl_D YX4_addItem 14 (.getfield 15) 3 17 := ⟨by decide +kernel, rfl⟩
theorem eX4_addItem_17 : sl_D YX4_addItem 17 (.iload_n 1) 1 18 := ⟨by decide +kernel, rfl⟩
theorem eX4_addItem_18 : sl_D YX4_addItem 18 (.iastore) 1 19 := ⟨by decide +kernel, rfl⟩
theorem eX4_addItem_19 : sl_D YX4_addItem 19 (.aload_n 0) 1 20 := ⟨by decide +kernel, rfl⟩
theorem eX4_addItem_20 : sl_D YX4_addItem 20 (.dup) 1 21 := ⟨by decide +kernel, rfl⟩
theorem eX4_addItem_21 : sl_D YX4_addItem 21 (.getfield 15) 3 24 := ⟨by decide +kernel, rfl⟩
theorem eX4_addItem_24 : sl_D YX4_addItem 24 (.iconst 1) 1 25 := ⟨by decide +kernel, rfl⟩
theorem eX4_addItem_25 : sl_D YX4_addItem 25 (.iadd) 1 26 := ⟨by decide +kernel, rfl⟩
theorem eX4_addItem_26 : sl_D YX4_addItem 26 (.putfield 15) 3 29 := ⟨by decide +kernel, rfl⟩
theorem eX4_addItem_29 : sl_D YX4_addItem 29 (.return_) 1 30 := ⟨by decide +kernel, rfl⟩
theorem eX4_addValue_0 : sl_D YX4_addValue 0 (.iload_n 1) 1 1 := ⟨by decide +kernel, rfl⟩
theorem eX4_addValue_1 : sl_D YX4_addValue 1 (.bipush (-2)) 2 3 := ⟨by decide +kernel, rfl⟩
theorem eX4_addValue_3 : sl_B YX4_addValue 3 (fun o => .if_icmp .ne o) 6 7 := ⟨4, by decide +kernel, rfl, by decide⟩
theorem eX4_addValue_6 : sl_D YX4_addValue 6 (.return_) 1 7 := ⟨by decide +kernel, rfl⟩
theorem eX4_addValue_7 : sl_D YX4_addValue 7 (.aload_n 0) 1 8 := ⟨by decide +kernel, rfl⟩
theorem eX4_addValue_8 : sl_D YX4_addValue 8 (.bipush 100) 2 10 := ⟨by decide +kernel, rfl⟩
theorem eX4_addValue_10 : sl_D YX4_addValue 10 (.invokevirtual 29) 3 13 := ⟨by decide +kernel, rfl⟩
theorem eX4_addValue_13 : sl_D YX4_addValue 13 (.aload_n 0) 1 14 := ⟨by decide +kernel, rfl⟩
theorem eX4_addValue_14 : sl_D YX4_addValue 14 (.getfield 19) 3 17 := ⟨by decide +kernel, rfl⟩
theorem eX4_addValue_17 : sl_D YX4_addValue 17 (.bipush (-2)) 2 19 := ⟨by decide +kernel, rfl⟩
theorem eX4_addValue_19 : sl_B YX4_addValue 19 (fun o => .if_icmp .ne o) 22 30 := ⟨11, by decide +kernel, rfl, by decide⟩
theorem eX4_addValue_22 : sl_D YX4_addValue 22 (.aload_n 0) 1 23 := ⟨by decide +kernel, rfl⟩
theorem eX4_addValue_23 : sl_D YX4_addValue 23 (.iload_n 1) 1 24 := ⟨by decide +kernel, rfl⟩
theorem eX4_addValue_24 : sl_D YX4_addValue 24 (.putfield 19) 3 27 := ⟨by decide +kernel, rfl⟩
theorem eX4_addValue_27 : sl_B YX4_addValue 27 (fun o => .goto o) 30 44 := ⟨17, by decide +kernel, rfl, by decide⟩
theorem eX4_addValue_30 : sl_D YX4_addValue 30 (.aload_n 0) 1 31 := ⟨by decide +kernel, rfl⟩
theorem eX4_addValue_31 : sl_D YX4_addValue 31 (.getfield 22) 3 34 := ⟨by decide +kernel, rfl⟩
theorem eX4_addValue_34 : sl_D YX4_addValue 34 (.bipush (-2)) 2 36 := ⟨by decide +kernel, rfl⟩
theorem eX4_addValue_36 : sl_B YX4_addValue 36 (fun o => .if_icmp .ne o) 39 44 := ⟨8, by decide +kernel, rfl, by decide⟩
theorem eX4_addValue_39 : sl_D YX4_addValue 39 (.aload_n 0) 1 40 := ⟨by decide +kernel, rfl⟩
theorem eX4_addValue_40 : sl_D YX4_addValue 40 (.iload_n 1) 1 41 := ⟨by decide +kernel, rfl⟩
theorem eX4_addValue_41 : sl_D YX4_addValue 41 (.putfield 22) 3 44 := ⟨by decide +kernel, rfl⟩
theorem eX4_addValue_44 : sl_D YX4_addValue 44 (.return_) 1 45 := ⟨by decide +kernel, rfl⟩
theorem eX4_ruleOf_0 : sl_D YX4_ruleOf 0 (.iconst 0) 1 1 := ⟨by decide +kernel, rfl⟩
theorem eX4_ruleOf_1 : sl_D YX4_ruleOf 1 (.istore_n 2) 1 2 := ⟨by decide +kernel, rfl⟩
theorem eX4_ruleOf_2 : sl_D YX4_ruleOf 2 (.iload_n 2) 1 3 := ⟨by decide +kernel, rfl⟩
theorem eX4_ruleOf_3 : sl_D YX4_ruleOf 3 (.aload_n 1) 1 4 := ⟨by decide +kernel, rfl⟩
theorem eX4_ruleOf_4 : sl_D YX4_ruleOf 4 (.getfield 32) 3 7 := ⟨by decide +kernel, rfl⟩
theorem eX4_ruleOf_7 : sl_B YX4_ruleOf 7 (fun o => .if_icmp .ge o) 10 44 := ⟨37, by decide +kernel, rfl, by decide⟩
theorem eX4_ruleOf_10 : sl_D YX4_ruleOf 10 (.aload_n 1) 1 11 := ⟨by decide +kernel, rfl⟩
theorem eX4_ruleOf_11 : sl_D YX4_ruleOf 11 (.getfield 37) 3 14 := ⟨by decide +kernel, rfl⟩
theorem eX4_ruleOf_14 : sl_D YX4_ruleOf 14 (.iload_n 2) 1 15 := ⟨by decide +kernel, rfl⟩
theorem eX4_ruleOf_15 : sl_D YX4_ruleOf 15 (.baload) 1 16 := ⟨by decide +kernel, rfl⟩
theorem eX4_ruleOf_16 : sl_B YX4_ruleOf 16 (fun o => .ifCond .ne o) 19 38 := ⟨22, by decide +kernel, rfl, by decide⟩
theorem eX4_ruleOf_19 : sl_D YX4_ruleOf 19 (.aload_n 1) 1 20 := ⟨by decide +kernel, rfl⟩
theorem eX4_ruleOf_20 : sl_D YX4_ruleOf 20 (.iload_n 2) 1 21 := ⟨by decide +kernel, rfl⟩
theorem eX4_ruleOf_21 : sl_D YX4_ruleOf 21 (.invokevirtual 41) 3 24 := ⟨by decide +kernel, rfl⟩
theorem eX4_ruleOf_24 : sl_B YX4_ruleOf 24 (fun o => .ifCond .eq o) 27 38 := ⟨14, by decide +kernel, rfl, by decide⟩
theorem eX4_ruleOf_27 : sl_D YX4_ruleOf 27 (.aload_n 0) 1 28 := ⟨by decide +kernel, rfl⟩
theorem eX4_ruleOf_28 : sl_D YX4_ruleOf 28 (.aload_n 1) 1 29 := ⟨by decide +kernel, rfl⟩
theorem eX4_ruleOf_29 : sl_D YX4_ruleOf 29 (.iload_n 2) 1 30 := ⟨by decide +kernel, rfl⟩
theorem eX4_ruleOf_30 : sl_D YX4_ruleOf 30 (.invokevirtual 45) 3 33 := ⟨by decide +kernel, rfl⟩
theorem eX4_ruleOf_33 : sl_B YX4_ruleOf 33 (fun o => .ifCond .eq o) 36 38 := ⟨5, by decide +kernel, rfl, by decide⟩
theorem eX4_ruleOf_36 : sl_D YX4_ruleOf 36 (.iload_n 2) 1 37 := ⟨by decide +kernel, rfl⟩
theorem eX4_ruleOf_37 : sl_D YX4_ruleOf 37 (.ireturn) 1 38 := ⟨by decide +kernel, rfl⟩
theorem eX4_ruleOf_38 : sl_D YX4_ruleOf 38 (.iinc 2 1) 3 41 := ⟨by decide +kernel, rfl⟩
theorem eX4_ruleOf_41 : sl_B YX4_ruleOf 41 (fun o => .goto o) 44 2 := ⟨-39, by decide +kernel, rfl, by decide⟩
theorem eX4_ruleOf_44 : sl_D YX4_ruleOf 44 (.iconst (-1)) 1 45 := ⟨by decide +kernel, rfl⟩
theorem eX4_ruleOf_45 : sl_D YX4_ruleOf 45 (.ireturn) 1 46 := ⟨by decide +kernel, rfl⟩
theorem eX4_matches_0 : sl_D YX4_matches 0 (.aload_n 1) 1 1 := ⟨by decide +kernel, rfl⟩
theorem eX4_matches_1 : sl_D YX4_matches 1 (.getfield 49) 3 4 := ⟨by decide +kernel, rfl⟩
theorem eX4_matches_4 : sl_D YX4_matches 4 (.iload_n 2) 1 5 := ⟨by decide +kernel, rfl⟩
theorem eX4_matches_5 : sl_D YX4_matches 5 (.iaload) 1 6 := ⟨by decide +kernel, rfl⟩
theorem eX4_matches_6 : sl_D YX4_matches 6 (.aload_n 0) 1 7 := ⟨by decide +kernel, rfl⟩
theorem eX4_matches_7 : sl_D YX4_matches 7 (.getfield 15) 3 10 := ⟨by decide +kernel, rfl⟩
theorem eX4_matches_10 : sl_B YX4_matches 10 (fun o => .if_icmp .eq o) 13 15 := ⟨5, by decide +kernel, rfl, by decide⟩
theorem eX4_matches_13 : sl_D YX4_matches 13 (.iconst 0) 1 14 := ⟨by decide +kernel, rfl⟩
theorem eX4_matches_14 : sl_D YX4_matches 14 (.ireturn) 1 15 := ⟨by decide +kernel, rfl⟩
theorem eX4_matches_15 : sl_D YX4_matches 15 (.iconst 0) 1 16 := ⟨by decide +kernel, rfl⟩
theorem eX4_matches_16 : sl_D YX4_matches 16 (.istore_n 3) 1 17 := ⟨by decide +kernel, rfl⟩
theorem eX4_matches_17 : sl_D YX4_matches 17 (.iload_n 3) 1 18 := ⟨by decide +kernel, rfl⟩
theorem eX4_matches_18 : sl_D YX4_matches 18 (.aload_n 0) 1 19 := ⟨by decide +kernel, rfl⟩
theorem eX4_matches_19 : sl_D YX4_matches 19 (.getfield 15) 3 22 := ⟨by decide +kernel, rfl⟩
theorem eX4_matches_22 : sl_B YX4_matches 22 (fun o => .if_icmp .ge o) 25 65 := ⟨43, by decide +kernel, rfl, by decide⟩
theorem eX4_matches_25 : sl_D YX4_matches 25 (.aload_n 1) 1 26 := ⟨by decide +kernel, rfl⟩
theorem eX4_matches_26 : sl_D YX4_matches 26 (.iload_n 2) 1 27 := ⟨by decide +kernel, rfl⟩
theorem eX4_matches_27 : sl_D YX4_matches 27 (.iload_n 3) 1 28 := ⟨by decide +kernel, rfl⟩
theorem eX4_matches_28 : sl_D YX4_matches 28 (.invokevirtual 52) 3 31 := ⟨by decide +kernel, rfl⟩
theorem eX4_matches_31 : sl_D YX4_matches 31 (.istore 4) 2 33 := ⟨by decide +kernel, rfl⟩
theorem eX4_matches_33 : sl_D YX4_matches 33 (.aload_n 0) 1 34 := ⟨by decide +kernel, rfl⟩
theorem eX4_matches_34 : sl_D YX4_matches 34 (.getfield 9) 3 37 := ⟨by decide +kernel, rfl⟩
theorem eX4_matches_37 : sl_D YX4_matches 37 (.iload_n 3) 1 38 := ⟨by decide +kernel, rfl⟩
theorem eX4_matches_38 : sl_D YX4_matches 38 (.iaload) 1 39 := ⟨by decide +kernel, rfl⟩
theorem eX4_matches_39 : sl_D YX4_matches 39 (.iload 4) 2 41 := ⟨by decide +kernel, rfl⟩
theorem eX4_matches_41 : sl_D YX4_matches 41 (.invokestatic 56) 3 44 := ⟨by decide +kernel, rfl⟩
theorem eX4_matches_44 : sl_B YX4_matches 44 (fun o => .ifCond .eq o) 47 52 := ⟨8, by decide +kernel, rfl, by decide⟩
theorem eX4_matches_47 : sl_D YX4_matches 47 (.bipush 100) 2 49 := ⟨by decide +kernel, rfl⟩
theorem eX4_matches_49 : sl_B YX4_matches 49 (fun o => .goto o) 52 54 := ⟨5, by decide +kernel, rfl, by decide⟩
theorem eX4_matches_52 : sl_D YX4_matches 52 (.iload 4) 2 54 := ⟨by decide +kernel, rfl⟩
theorem eX4_matches_54 : sl_B YX4_matches 54 (fun o => .if_icmp .eq o) 57 59 := ⟨5, by decide +kernel, rfl, by decide⟩
theorem eX4_matches_57 : sl_D YX4_matches 57 (.iconst 0) 1 58 := ⟨by decide +kernel, rfl⟩
theorem eX4_matches_58 : sl_D YX4_matches 58 (.ireturn) 1 59 := ⟨by decide +kernel, rfl⟩
theorem eX4_matches_59 : sl_D YX4_matches 59 (.iinc 3 1) 3 62 := ⟨by decide +kernel, rfl⟩
theorem eX4_matches_62 : sl_B YX4_matches 62 (fun o => .goto o) 65 17 := ⟨-45, by decide +kernel, rfl, by decide⟩
theorem eX4_matches_65 : sl_D YX4_matches 65 (.iconst 1) 1 66 := ⟨by decide +kernel, rfl⟩
theorem eX4_matches_66 : sl_D YX4_matches 66 (.ireturn) 1 67 := ⟨by decide +kernel, rfl⟩
theorem eX5_init_0 : sl_D YX5_init 0 (.aload_n 0) 1 1 := ⟨by decide +kernel, rfl⟩
theorem eX5_init_1 : sl_D YX5_init 1 (.invokespecial 5) 3 4 := ⟨by decide +kernel, rfl⟩
theorem eX5_init_4 : sl_D YX5_init 4 (.aload_n 0) 1 5 := ⟨by decide +kernel, rfl⟩
theorem eX5_init_5 : sl_D YX5_init 5 (.bipush 28) 2 7 := ⟨by decide +kernel, rfl⟩
theorem eX5_init_7 : sl_D YX5_init 7 (.newarray .int) 2 9 := ⟨by decide +kernel, rfl⟩
theorem eX5_init_9 : sl_D YX5_init 9 (.putfield 11) 3 12 := ⟨by decide +kernel, rfl⟩
theorem eX5_init_12 : sl_D YX5_init 12 (.aload_n 0) 1 13 := ⟨by decide +kernel, rfl⟩
theorem eX5_init_13 : sl_D YX5_init 13 (.bipush 28) 2 15 := ⟨by decide +kernel, rfl⟩
theorem eX5_init_15 : sl_D YX5_init 15 (.newarray .int) 2 17 := ⟨by decide +kernel, rfl⟩
theorem eX5_init_17 : sl_D YX5_init 17 (.putfield 15) 3 20 := ⟨by decide +kernel, rfl⟩
theorem eX5_init_20 : sl_D YX5_init 20 (.aload_n 0) 1 21 := ⟨by decide +kernel, rfl⟩
theorem eX5_init_21 : sl_D YX5_init 21 (.bipush 28) 2 23 := ⟨by decide +kernel, rfl⟩
theorem eX5_init_23 : sl_D YX5_init 23 (.newarray .int) 2 25 := ⟨by decide +kernel, rfl⟩
theorem eX5_init_25 : sl_D YX5_init 25 (.putfield 18) 3 28 := ⟨by decide +kernel, rfl⟩
theorem eX5_init_28 : sl_D YX5_init 28 (.aload_n 0) 1 29 := ⟨by decide +kernel, rfl⟩
theorem eX5_init_29 : sl_D YX5_init 29 (.bipush 28) 2 31 := ⟨by decide +kernel, rfl⟩
theorem eX5_init_31 : sl_D YX5_init 31 (.newarray .int) 2 33 := ⟨by decide +kernel, rfl⟩
theorem eX5_init_33 : sl_D YX5_init 33 (.putfield 21) 3 36 := ⟨by decide +kernel, rfl⟩
theorem eX5_init_36 : sl_D YX5_init 36 (.aload_n 0) 1 37 := ⟨by decide +kernel, rfl⟩
theorem eX5_init_37 : sl_D YX5_init 37 (.bipush 28) 2 39 := ⟨by decide +kernel, rfl⟩
theorem eX5_init_39 : sl_D YX5_init 39 (.newarray .int) 2 41 := ⟨by decide +kernel, rfl⟩
theorem eX5_init_41 : sl_D YX5_init 41 (.putfield 24) 3 44 := ⟨by decide +kernel, rfl⟩
theorem eX5_init_44 : sl_D YX5_init 44 (.aload_n 0) 1 45 := ⟨by decide +kernel, rfl⟩
theorem eX5_init_45 : sl_D YX5_init 45 (.bipush 28) 2 47 := ⟨by decide +kernel, rfl⟩
theorem eX5_init_47 : sl_D YX5_init 47 (.newarray .int) 2 49 := ⟨by decide +kernel, rfl⟩
theorem eX5_init_49 : sl_D YX5_init 49 (.putfield 27) 3 52 := ⟨by decide +kernel, rfl⟩
theorem eX5_init_52 : sl_D YX5_init 52 (.return_) 1 53 := ⟨by decide +kernel, rfl⟩
theorem eX5_reckon_0 : sl_D YX5_reckon 0 (.aload_n 0) 1 1 := ⟨by decide +kernel, rfl⟩
theorem eX5_reckon_1 : sl_D YX5_reckon 1 (.aload_n 1) 1 2 := ⟨by decide +kernel, rfl⟩
theorem eX5_reckon_2 : sl_D YX5_reckon 2 (.getfield 30) 3 5 := ⟨by decide +kernel, rfl⟩
theorem eX5_reckon_5 : sl_D YX5_reckon 5 (.putfield 36) 3 8 := ⟨by decide +kernel, rfl⟩
theorem eX5_reckon_8 : sl_D YX5_reckon 8 (.iconst 0) 1 9 := ⟨by decide +kernel, rfl⟩
theorem eX5_reckon_9 : sl_D YX5_reckon 9 (.istore_n 2) 1 10 := ⟨by decide +kernel, rfl⟩
theorem eX5_reckon_10 : sl_D YX5_reckon 10 (.iload_n 2) 1 11 := ⟨by decide +kernel, rfl⟩
theorem eX5_reckon_11 : sl_D YX5_reckon 11 (.bipush 28) 2 13 := ⟨by decide +kernel, rfl⟩
theorem eX5_reckon_13 : sl_B YX5_reckon 13 (fun o => .if_icmp .ge o) 16 43 := ⟨30, by decide +kernel, rfl, by decide⟩
theorem eX5_reckon_16 : sl_D YX5_reckon 16 (.aload_n 0) 1 17 := ⟨by decide +kernel, rfl⟩
theorem eX5_reckon_17 : sl_D YX5_reckon 17 (.getfield 15) 3 20 := ⟨by decide +kernel, rfl⟩
theorem eX5_reckon_20 : sl_D YX5_reckon 20 (.iload_n 2) 1 21 := ⟨by decide +kernel, rfl⟩
theorem eX5_reckon_21 : sl_D YX5_reckon 21 (.iload_n 2) 1 22 := ⟨by decide +kernel, rfl⟩
theorem eX5_reckon_22 : sl_D YX5_reckon 22 (.iastore) 1 23 := ⟨by decide +kernel, rfl⟩
theorem eX5_reckon_23 : sl_D YX5_reckon 23 (.aload_n 0) 1 24 := ⟨by decide +kernel, rfl⟩
theorem eX5_reckon_24 : sl_D YX5_reckon 24 (.getfield 18) 3 27 := ⟨by decide +kernel, rfl⟩
theorem eX5_reckon_27 : sl_D YX5_reckon 27 (.iload_n 2) 1 28 := ⟨by decide +kernel, rfl⟩
theorem eX5_reckon_28 : sl_D YX5_reckon 28 (.iconst 0) 1 29 := ⟨by decide +kernel, rfl⟩
theorem eX5_reckon_29 : sl_D YX5_reckon 29 (.iastore) 1 30 := ⟨by decide +kernel, rfl⟩
theorem eX5_reckon_30 : sl_D YX5_reckon 30 (.aload_n 0) 1 31 := ⟨by decide +kernel, rfl⟩
theorem eX5_reckon_31 : sl_D YX5_reckon 31 (.getfield 24) 3 34 := ⟨by decide +kernel, rfl⟩
theorem eX5_reckon_34 : sl_D YX5_reckon 34 (.iload_n 2) 1 35 := ⟨by decide +kernel, rfl⟩
theorem eX5_reckon_35 : sl_D YX5_reckon 35 (.iconst 0) 1 36 := ⟨by decide +kernel, rfl⟩
theorem eX5_reckon_36 : sl_D YX5_reckon 36 (.iastore) 1 37 := ⟨by decide +kernel, rfl⟩
theorem eX5_reckon_37 : sl_D YX5_reckon 37 (.iinc 2 1) 3 40 := ⟨by decide +kernel, rfl⟩
theorem eX5_reckon_40 : sl_B YX5_reckon 40 (fun o => .goto o) 43 10 := ⟨-30, by decide +kernel, rfl, by decide⟩
theorem eX5_reckon_43 : sl_D YX5_reckon 43 (.aload_n 0) 1 44 := ⟨by decide +kernel, rfl⟩
theorem eX5_reckon_44 : sl_D YX5_reckon 44 (.aload_n 1) 1 45 := ⟨by decide +kernel, rfl⟩
theorem eX5_reckon_45 : sl_D YX5_reckon 45 (.invokevirtual 37) 3 48 := ⟨by decide +kernel, rfl⟩
theorem eX5_reckon_48 : sl_D YX5_reckon 48 (.aload_n 0) 1 49 := ⟨by decide +kernel, rfl⟩
theorem eX5_reckon_49 : sl_D YX5_reckon 49 (.aload_n 1) 1 50 := ⟨by decide +kernel, rfl⟩
theorem eX5_reckon_50 : sl_D YX5_reckon 50 (.invokevirtual 41) 3 53 := ⟨by decide +kernel, rfl⟩
theorem eX5_reckon_53 : sl_D YX5_reckon 53 (.aload_n 0) 1 54 := ⟨by decide +kernel, rfl⟩
theorem eX5_reckon_54 : sl_D YX5_reckon 54 (.invokevirtual 44) 3 57 := ⟨by decide +kernel, rfl⟩
theorem eX5_reckon_57 : sl_D YX5_reckon 57 (.aload_n 0) 1 58 := ⟨by decide +kernel, rfl⟩
theorem eX5_reckon_58 : sl_D YX5_reckon 58 (.invokevirtual 47) 3 61 := ⟨by decide +kernel, rfl⟩
theorem eX5_reckon_61 : sl_D YX5_reckon 61 (.aload_n 0) 1 62 := ⟨by decide +kernel, rfl⟩
theorem eX5_reckon_62 : sl_D YX5_reckon 62 (.getfield 50) 3 65 := ⟨by decide +kernel, rfl⟩
theorem eX5_reckon_65 : sl_B YX5_reckon 65 (fun o => .ifCond .ne o) 68 72 := ⟨7, by decide +kernel, rfl, by decide⟩
theorem eX5_reckon_68 : sl_D YX5_reckon 68 (.aload_n 0) 1 69 := ⟨by decide +kernel, rfl⟩
theorem eX5_reckon_69 : sl_D YX5_reckon 69 (.invokevirtual 53) 3 72 := ⟨by decide +kernel, rfl⟩
theorem eX5_reckon_72 : sl_D YX5_reckon 72 (.return_) 1 73 := ⟨by decide +kernel, rfl⟩
theorem eX5_tieKnots_0 : sl_D YX5_tieKnots 0 (.iconst 0) 1 1 := ⟨by decide +kernel, rfl⟩
theorem eX5_tieKnots_1 : sl_D YX5_tieKnots 1 (.istore_n 2) 1 2 := ⟨by decide +kernel, rfl⟩
theorem eX5_tieKnots_2 : sl_D YX5_tieKnots 2 (.iload_n 2) 1 3 := ⟨by decide +kernel, rfl⟩
theorem eX5_tieKnots_3 : sl_D YX5_tieKnots 3 (.aload_n 0) 1 4 := ⟨by decide +kernel, rfl⟩
theorem eX5_tieKnots_4 : sl_D YX5_tieKnots 4 (.getfield 36) 3 7 := ⟨by decide +kernel, rfl⟩
theorem eX5_tieKnots_7 : sl_B YX5_tieKnots 7 (fun o => .if_icmp .gt o) 10 62 := ⟨55, by decide +kernel, rfl, by decide⟩
theorem eX5_tieKnots_10 : sl_D YX5_tieKnots 10 (.iconst 0) 1 11 := ⟨by decide +kernel, rfl⟩
theorem eX5_tieKnots_11 : sl_D YX5_tieKnots 11 (.istore_n 3) 1 12 := ⟨by decide +kernel, rfl⟩
theorem eX5_tieKnots_12 : sl_D YX5_tieKnots 12 (.iload_n 3) 1 13 := ⟨by decide +kernel, rfl⟩
theorem eX5_tieKnots_13 : sl_D YX5_tieKnots 13 (.aload_n 0) 1 14 := ⟨by decide +kernel, rfl⟩
theorem eX5_tieKnots_14 : sl_D YX5_tieKnots 14 (.getfield 36) 3 17 := ⟨by decide +kernel, rfl⟩
theorem eX5_tieKnots_17 : sl_B YX5_tieKnots 17 (fun o => .if_icmp .gt o) 20 56 := ⟨39, by decide +kernel, rfl, by decide⟩
theorem eX5_tieKnots_20 : sl_D YX5_tieKnots 20 (.aload_n 1) 1 21 := ⟨by decide +kernel, rfl⟩
theorem eX5_tieKnots_21 : sl_D YX5_tieKnots 21 (.iload_n 2) 1 22 := ⟨by decide +kernel, rfl⟩
theorem eX5_tieKnots_22 : sl_D YX5_tieKnots 22 (.iload_n 3) 1 23 := ⟨by decide +kernel, rfl⟩
theorem eX5_tieKnots_23 : sl_D YX5_tieKnots 23 (.invokevirtual 56) 3 26 := ⟨by decide +kernel, rfl⟩
theorem eX5_tieKnots_26 : sl_D YX5_tieKnots 26 (.iconst 2) 1 27 := ⟨by decide +kernel, rfl⟩
theorem eX5_tieKnots_27 : sl_D YX5_tieKnots 27 (.iand) 1 28 := ⟨by decide +kernel, rfl⟩
theorem eX5_tieKnots_28 : sl_B YX5_tieKnots 28 (fun o => .ifCond .eq o) 31 50 := ⟨22, by decide +kernel, rfl, by decide⟩
theorem eX5_tieKnots_31 : sl_D YX5_tieKnots 31 (.aload_n 0) 1 32 := ⟨by decide +kernel, rfl⟩
theorem eX5_tieKnots_32 : sl_D YX5_tieKnots 32 (.aload_n 0) 1 33 := ⟨by decide +kernel, rfl⟩
theorem eX5_tieKnots_33 : sl_D YX5_tieKnots 33 (.getfield 15) 3 36 := ⟨by decide +kernel, rfl⟩
theorem eX5_tieKnots_36 : sl_D YX5_tieKnots 36 (.iload_n 2) 1 37 := ⟨by decide +kernel, rfl⟩
theorem eX5_tieKnots_37 : sl_D YX5_tieKnots 37 (.iaload) 1 38 := ⟨by decide +kernel, rfl⟩
theorem eX5_tieKnots_38 : sl_D YX5_tieKnots 38 (.aload_n 0) 1 39 := ⟨by decide +kernel, rfl⟩
theorem eX5_tieKnots_39 : sl_D YX5_tieKnots 39 (.getfield 15) 3 42 := ⟨by decide +kernel, rfl⟩
theorem eX5_tieKnots_42 : sl_D YX5_tieKnots 42 (.bipush 16) 2 44 := ⟨by decide +kernel, rfl⟩
theorem eX5_tieKnots_44 : sl_D YX5_tieKnots 44 (.iload_n 3) 1 45 := ⟨by decide +kernel, rfl⟩
theorem eX5_tieKnots_45 : sl_D YX5_tieKnots 45 (.iadd) 1 46 := ⟨by decide +kernel, rfl⟩
theorem eX5_tieKnots_46 : sl_D YX5_tieKnots 46 (.iaload) 1 47 := ⟨by decide +kernel, rfl⟩
theorem eX5_tieKnots_47 : sl_D YX5_tieKnots 47 (.invokevirtual 60) 3 50 := ⟨by decide +kernel, rfl⟩
theorem eX5_tieKnots_50 : sl_D YX5_tieKnots 50 (.iinc 3 1) 3 53 := ⟨by decide +kernel, rfl⟩
theorem eX5_tieKnots_53 : sl_B YX5_tieKnots 53 (fun o => .goto o) 56 12 := ⟨-41, by decide +kernel, rfl, by decide⟩
theorem eX5_tieKnots_56 : sl_D YX5_tieKnots 56 (.iinc 2 1) 3 59 := ⟨by decide +kernel, rfl⟩
theorem eX5_tieKnots_59 : sl_B YX5_tieKnots 59 (fun o => .goto o) 62 2 := ⟨-57, by decide +kernel, rfl, by decide⟩
theorem eX5_tieKnots_62 : sl_D YX5_tieKnots 62 (.return_) 1 63 := ⟨by decide +kernel, rfl⟩
theorem eX5_tie_0 : sl_D YX5_tie 0 (.iload_n 1) 1 1 := ⟨by decide +kernel, rfl⟩
theorem eX5_tie_1 : sl_D YX5_tie 1 (.iload_n 2) 1 2 := ⟨by decide +kernel, rfl⟩
theorem eX5_tie_2 : sl_D YX5_tie 2 (.invokestatic 64) 3 5 := ⟨by decide +kernel, rfl⟩
theorem eX5_tie_5 : sl_D YX5_tie 5 (.istore_n 3) 1 6 := ⟨by decide +kernel, rfl⟩
theorem eX5_tie_6 : sl_D YX5_tie 6 (.iload_n 1) 1 7 := ⟨by decide +kernel, rfl⟩
theorem eX5_tie_7 : sl_D YX5_tie 7 (.iload_n 2) 1 8 := ⟨by decide +kernel, rfl⟩
theorem eX5_tie_8 : sl_D YX5_tie 8 (.invokestatic 69) 3 11 := ⟨by decide +kernel, rfl⟩
theorem eX5_tie_11 : sl_D YX5_tie 11 (.istore 4) 2 13 := ⟨by decide +kernel, rfl⟩
theorem eX5_tie_13 : sl_D YX5_tie 13 (.iconst 0) 1 14 := ⟨by decide +kernel, rfl⟩
theorem eX5_tie_14 : sl_D YX5_tie 14 (.istore 5) 2 16 := ⟨by decide +kernel, rfl⟩
theorem eX5_tie_16 : sl_D YX5_tie 16 (.iload 5) 2 18 := ⟨by decide +kernel, rfl⟩
theorem eX5_tie_18 : sl_D YX5_tie 18 (.bipush 28) 2 20 := ⟨by decide +kernel, rfl⟩
theorem eX5_tie_20 : sl_B YX5_tie 20 (fun o => .if_icmp .ge o) 23 49 := ⟨29, by decide +kernel, rfl, by decide⟩
theorem eX5_tie_23 : sl_D YX5_tie 23 (.aload_n 0) 1 24 := ⟨by decide +kernel, rfl⟩
theorem eX5_tie_24 : sl_D YX5_tie 24 (.getfield 15) 3 27 := ⟨by decide +kernel, rfl⟩
theorem eX5_tie_27 : sl_D YX5_tie 27 (.iload 5) 2 29 := ⟨by decide +kernel, rfl⟩
theorem eX5_tie_29 : sl_D YX5_tie 29 (.iaload) 1 30 := ⟨by decide +kernel, rfl⟩
theorem eX5_tie_30 : sl_D YX5_tie 30 (.iload 4) 2 32 := ⟨by decide +kernel, rfl⟩
theorem eX5_tie_32 : sl_B YX5_tie 32 (fun o => .if_icmp .ne o) 35 43 := ⟨11, by decide +kernel, rfl, by decide⟩
theorem eX5_tie_35 : sl_D YX5_tie 35 (.aload_n 0) 1 36 := ⟨by decide +kernel, rfl⟩
theorem eX5_tie_36 : sl_D YX5_tie 36 (.getfield 15) 3 39 := ⟨by decide +kernel, rfl⟩
theorem eX5_tie_39 : sl_D YX5_tie 39 (.iload 5) 2 41 := ⟨by decide +kernel, rfl⟩
theorem eX5_tie_41 : sl_D YX5_tie 41 (.iload_n 3) 1 42 := ⟨by decide +kernel, rfl⟩
theorem eX5_tie_42 : sl_D YX5_tie 42 (.iastore) 1 43 := ⟨by decide +kernel, rfl⟩
theorem eX5_tie_43 : sl_D YX5_tie 43 (.iinc 5 1) 3 46 := ⟨by decide +kernel, rfl⟩
theorem eX5_tie_46 : sl_B YX5_tie 46 (fun o => .goto o) 49 16 := ⟨-30, by decide +kernel, rfl, by decide⟩
theorem eX5_tie_49 : sl_D YX5_tie 49 (.return_) 1 50 := ⟨by decide +kernel, rfl⟩
theorem eX5_drawArcs_0 : sl_D YX5_drawArcs 0 (.iconst 0) 1 1 := ⟨by decide +kernel, rfl⟩
theorem eX5_drawArcs_1 : sl_D YX5_drawArcs 1 (.istore_n 2) 1 2 := ⟨by decide +kernel, rfl⟩
theorem eX5_drawArcs_2 : sl_D YX5_drawArcs 2 (.iload_n 2) 1 3 := ⟨by decide +kernel, rfl⟩
theorem eX5_drawArcs_3 : sl_D YX5_drawArcs 3 (.aload_n 0) 1 4 := ⟨by decide +kernel, rfl⟩
theorem eX5_drawArcs_4 : sl_D YX5_drawArcs 4 (.getfield 36) 3 7 := ⟨by decide +kernel, rfl⟩
theorem eX5_drawArcs_7 : sl_B YX5_drawArcs 7 (fun o => .if_icmp .gt o) 10 101 := ⟨94, by decide +kernel, rfl, by decide⟩
theorem eX5_drawArcs_10 : sl_D YX5_drawArcs 10 (.iconst 0) 1 11 := ⟨by decide +kernel, rfl⟩
theorem eX5_drawArcs_11 : sl_D YX5_drawArcs 11 (.istore_n 3) 1 12 := ⟨by decide +kernel, rfl⟩
theorem eX5_drawArcs_12 : sl_D YX5_drawArcs 12 (.iload_n 3) 1 13 := ⟨by decide +kernel, rfl⟩
theorem eX5_drawArcs_13 : sl_D YX5_drawArcs 13 (.aload_n 0) 1 14 := ⟨by decide +kernel, rfl⟩
theorem eX5_drawArcs_14 : sl_D YX5_drawArcs 14 (.getfield 36) 3 17 := ⟨by decide +kernel, rfl⟩
theorem eX5_drawArcs_17 : sl_B YX5_drawArcs 17 (fun o => .if_icmp .gt o) 20 95 := ⟨78, by decide +kernel, rfl, by decide⟩
theorem eX5_drawArcs_20 : sl_D YX5_drawArcs 20 (.aload_n 0) 1 21 := ⟨by decide +kernel, rfl⟩
theorem eX5_drawArcs_21 : sl_D YX5_drawArcs 21 (.getfield 15) 3 24 := ⟨by decide +kernel, rfl⟩
theorem eX5_drawArcs_24 : sl_D YX5_drawArcs 24 (.iload_n 2) 1 25 := ⟨by decide +kernel, rfl⟩
theorem eX5_drawArcs_25 : sl_D YX5_drawArcs 25 (.iaload) 1 26 := ⟨by decide +kernel, rfl⟩
theorem eX5_drawArcs_26 : sl_D YX5_drawArcs 26 (.istore 4) 2 28 := ⟨by decide +kernel, rfl⟩
theorem eX5_drawArcs_28 : sl_D YX5_drawArcs 28 (.aload_n 0) 1 29 := ⟨by decide +kernel, rfl⟩
theorem eX5_drawArcs_29 : sl_D YX5_drawArcs 29 (.getfield 15) 3 32 := ⟨by decide +kernel, rfl⟩
theorem eX5_drawArcs_32 : sl_D YX5_drawArcs 32 (.bipush 16) 2 34 := ⟨by decide +kernel, rfl⟩
theorem eX5_drawArcs_34 : sl_D YX5_drawArcs 34 (.iload_n 3) 1 35 := ⟨by decide +kernel, rfl⟩
theorem eX5_drawArcs_35 : sl_D YX5_drawArcs 35 (.iadd) 1 36 := ⟨by decide +kernel, rfl⟩
theorem eX5_drawArcs_36 : sl_D YX5_drawArcs 36 (.iaload) 1 37 := ⟨by decide +kernel, rfl⟩
theorem eX5_drawArcs_37 : sl_D YX5_drawArcs 37 (.istore 5) 2 39 := ⟨by decide +kernel, rfl⟩
theorem eX5_drawArcs_39 : sl_D YX5_drawArcs 39 (.aload_n 1) 1 40 := ⟨by decide +kernel, rfl⟩
theorem eX5_drawArcs_40 : sl_D YX5_drawArcs 40 (.iload_n 2) 1 41 := ⟨by decide +kernel, rfl⟩
theorem eX5_drawArcs_41 : sl_D YX5_drawArcs 41 (.iload_n 3) 1 42 := ⟨by decide +kernel, rfl⟩
theorem eX5_drawArcs_42 : sl_D YX5_drawArcs 42 (.invokevirtual 56) 3 45 := ⟨by decide +kernel, rfl⟩
theorem eX5_drawArcs_45 : sl_D YX5_drawArcs 45 (.istore 6) 2 47 := ⟨by decide +kernel, rfl⟩
theorem eX5_drawArcs_47 : sl_D YX5_drawArcs 47 (.iload 6) 2 49 := ⟨by decide +kernel, rfl⟩
theorem eX5_drawArcs_49 : sl_D YX5_drawArcs 49 (.iconst 1) 1 50 := ⟨by decide +kernel, rfl⟩
theorem eX5_drawArcs_50 : sl_D YX5_drawArcs 50 (.iand) 1 51 := ⟨by decide +kernel, rfl⟩
theorem eX5_drawArcs_51 : sl_B YX5_drawArcs 51 (fun o => .ifCond .eq o) 54 68 := ⟨17, by decide +kernel, rfl, by decide⟩
theorem eX5_drawArcs_54 : sl_D YX5_drawArcs 54 (.aload_n 0) 1 55 := ⟨by decide +kernel, rfl⟩
theorem eX5_drawArcs_55 : sl_D YX5_drawArcs 55 (.getfield 18) 3 58 := ⟨by decide +kernel, rfl⟩
theorem eX5_drawArcs_58 : sl_D YX5_drawArcs 58 (.iload 5) 2 60 := ⟨by decide +kernel, rfl⟩
theorem eX5_drawArcs_60 : sl_D YX5_drawArcs 60 (.dup2) 1 61 := ⟨by decide +kernel, rfl⟩
theorem eX5_drawArcs_61 : sl_D YX5_drawArcs 61 (.iaload) 1 62 := ⟨by decide +kernel, rfl⟩
theorem eX5_drawArcs_62 : sl_D YX5_drawArcs 62 (.iconst 1) 1 63 := ⟨by decide +kernel, rfl⟩
theorem eX5_drawArcs_63 : sl_D YX5_drawArcs 63 (.iload 4) 2 65 := ⟨by decide +kernel, rfl⟩
theorem eX5_drawArcs_65 : sl_D YX5_drawArcs 65 (.ishl) 1 66 := ⟨by decide +kernel, rfl⟩
theorem eX5_drawArcs_66 : sl_D YX5_drawArcs 66 (.ior) 1 67 := ⟨by decide +kernel, rfl⟩
theorem eX5_drawArcs_67 : sl_D YX5_drawArcs 67 (.iastore) 1 68 := ⟨by decide +kernel, rfl⟩
theorem eX5_drawArcs_68 : sl_D YX5_drawArcs 68 (.iload 6) 2 70 := ⟨by decide +kernel, rfl⟩
theorem eX5_drawArcs_70 : sl_D YX5_drawArcs 70 (.iconst 4) 1 71 := ⟨by decide +kernel, rfl⟩
theorem eX5_drawArcs_71 : sl_D YX5_drawArcs 71 (.iand) 1 72 := ⟨by decide +kernel, rfl⟩
theorem eX5_drawArcs_72 : sl_B YX5_drawArcs 72 (fun o => .ifCond .eq o) 75 89 := ⟨17, by decide +kernel, rfl, by decide⟩
theorem eX5_drawArcs_75 : sl_D YX5_drawArcs 75 (.aload_n 0) 1 76 := ⟨by decide +kernel, rfl⟩
theorem eX5_drawArcs_76 : sl_D YX5_drawArcs 76 (.getfield 18) 3 79 := ⟨by decide +kernel, rfl⟩
theorem eX5_drawArcs_79 : sl_D YX5_drawArcs 79 (.iload 4) 2 81 := ⟨by decide +kernel, rfl⟩
theorem eX5_drawArcs_81 : sl_D YX5_drawArcs 81 (.dup2) 1 82 := ⟨by decide +kernel, rfl⟩
theorem eX5_drawArcs_82 : sl_D YX5_drawArcs 82 (.iaload) 1 83 := ⟨by decide +kernel, rfl⟩
theorem eX5_drawArcs_83 : sl_D YX5_drawArcs 83 (.iconst 1) 1 84 := ⟨by decide +kernel, rfl⟩
theorem eX5_drawArcs_84 : sl_D YX5_drawArcs 84 (.iload 5) 2 86 := ⟨by decide +kernel, rfl⟩
theorem eX5_drawArcs_86 : sl_D YX5_drawArcs 86 (.ishl) 1 87 := ⟨by decide +kernel, rfl⟩
theorem eX5_drawArcs_87 : sl_D YX5_drawArcs 87 (.ior) 1 88 := ⟨by decide +kernel, rfl⟩
theorem eX5_drawArcs_88 : sl_D YX5_drawArcs 88 (.iastore) 1 89 := ⟨by decide +kernel, rfl⟩
theorem eX5_drawArcs_89 : sl_D YX5_drawArcs 89 (.iinc 3 1) 3 92 := ⟨by decide +kernel, rfl⟩
theorem eX5_drawArcs_92 : sl_B YX5_drawArcs 92 (fun o => .goto o) 95 12 := ⟨-80, by decide +kernel, rfl, by decide⟩
theorem eX5_drawArcs_95 : sl_D YX5_drawArcs 95 (.iinc 2 1) 3 98 := ⟨by decide +kernel, rfl⟩
theorem eX5_drawArcs_98 : sl_B YX5_drawArcs 98 (fun o => .goto o) 101 2 := ⟨-96, by decide +kernel, rfl, by decide⟩
theorem eX5_drawArcs_101 : sl_D YX5_drawArcs 101 (.return_) 1 102 := ⟨by decide +kernel, rfl⟩
theorem eX5_has_0 : sl_D YX5_has 0 (.iload_n 0) 1 1 := ⟨by decide +kernel, rfl⟩
theorem eX5_has_1 : sl_D YX5_has 1 (.iload_n 1) 1 2 := ⟨by decide +kernel, rfl⟩
theorem eX5_has_2 : sl_D YX5_has 2 (.ishr) 1 3 := ⟨by decide +kernel, rfl⟩
theorem eX5_has_3 : sl_D YX5_has 3 (.iconst 1) 1 4 := ⟨by decide +kernel, rfl⟩
theorem eX5_has_4 : sl_D YX5_has 4 (.iand) 1 5 := ⟨by decide +kernel, rfl⟩
theorem eX5_has_5 : sl_B YX5_has 5 (fun o => .ifCond .eq o) 8 12 := ⟨7, by decide +kernel, rfl, by decide⟩
theorem eX5_has_8 : sl_D YX5_has 8 (.iconst 1) 1 9 := ⟨by decide +kernel, rfl⟩
theorem eX5_has_9 : sl_B YX5_has 9 (fun o => .goto o) 12 13 := ⟨4, by decide +kernel, rfl, by decide⟩
theorem eX5_has_12 : sl_D YX5_has 12 (.iconst 0) 1 13 := ⟨by decide +kernel, rfl⟩
theorem eX5_has_13 : sl_D YX5_has 13 (.ireturn) 1 14 := ⟨by decide +kernel, rfl⟩
theorem eX5_reachOut_0 : sl_D YX5_reachOut 0 (.iconst 0) 1 1 := ⟨by decide +kernel, rfl⟩
theorem eX5_reachOut_1 : sl_D YX5_reachOut 1 (.istore_n 1) 1 2 := ⟨by decide +kernel, rfl⟩
theorem eX5_reachOut_2 : sl_D YX5_reachOut 2 (.iload_n 1) 1 3 := ⟨by decide +kernel, rfl⟩
theorem eX5_reachOut_3 : sl_D YX5_reachOut 3 (.bipush 28) 2 5 := ⟨by decide +kernel, rfl⟩
theorem eX5_reachOut_5 : sl_B YX5_reachOut 5 (fun o => .if_icmp .ge o) 8 26 := ⟨21, by decide +kernel, rfl, by decide⟩
theorem eX5_reachOut_8 : sl_D YX5_reachOut 8 (.aload_n 0) 1 9 := ⟨by decide +kernel, rfl⟩
theorem eX5_reachOut_9 : sl_D YX5_reachOut 9 (.getfield 21) 3 12 := ⟨by decide +kernel, rfl⟩
theorem eX5_reachOut_12 : sl_D YX5_reachOut 12 (.iload_n 1) 1 13 := ⟨by decide +kernel, rfl⟩
theorem eX5_reachOut_13 : sl_D YX5_reachOut 13 (.aload_n 0) 1 14 := ⟨by decide +kernel, rfl⟩
theorem eX5_reachOut_14 : sl_D YX5_reachOut 14 (.getfield 18) 3 17 := ⟨by decide +kernel, rfl⟩
theorem eX5_reachOut_17 : sl_D YX5_reachOut 17 (.iload_n 1) 1 18 := ⟨by decide +kernel, rfl⟩
theorem eX5_reachOut_18 : sl_D YX5_reachOut 18 (.iaload) 1 19 := ⟨by decide +kernel, rfl⟩
theorem eX5_reachOut_19 : sl_D YX5_reachOut 19 (.iastore) 1 20 := ⟨by decide +kernel, rfl⟩
theorem eX5_reachOut_20 : sl_D YX5_reachOut 20 (.iinc 1 1) 3 23 := ⟨by decide +kernel, rfl⟩
theorem eX5_reachOut_23 : sl_B YX5_reachOut 23 (fun o => .goto o) 26 2 := ⟨-21, by decide +kernel, rfl, by decide⟩
theorem eX5_reachOut_26 : sl_D YX5_reachOut 26 (.iconst 0) 1 27 := ⟨by decide +kernel, rfl⟩
theorem eX5_reachOut_27 : sl_D YX5_reachOut 27 (.istore_n 1) 1 28 := ⟨by decide +kernel, rfl⟩
theorem eX5_reachOut_28 : sl_D YX5_reachOut 28 (.iload_n 1) 1 29 := ⟨by decide +kernel, rfl⟩
theorem eX5_reachOut_29 : sl_D YX5_reachOut 29 (.bipush 28) 2 31 := ⟨by decide +kernel, rfl⟩
theorem eX5_reachOut_31 : sl_B YX5_reachOut 31 (fun o => .if_icmp .ge o) 34 82 := ⟨51, by decide +kernel, rfl, by decide⟩
theorem eX5_reachOut_34 : sl_D YX5_reachOut 34 (.iconst 0) 1 35 := ⟨by decide +kernel, rfl⟩
theorem eX5_reachOut_35 : sl_D YX5_reachOut 35 (.istore_n 2) 1 36 := ⟨by decide +kernel, rfl⟩
theorem eX5_reachOut_36 : sl_D YX5_reachOut 36 (.iload_n 2) 1 37 := ⟨by decide +kernel, rfl⟩
theorem eX5_reachOut_37 : sl_D YX5_reachOut 37 (.bipush 28) 2 39 := ⟨by decide +kernel, rfl⟩
theorem eX5_reachOut_39 : sl_B YX5_reachOut 39 (fun o => .if_icmp .ge o) 42 76 := ⟨37, by decide +kernel, rfl, by decide⟩
theorem eX5_reachOut_42 : sl_D YX5_reachOut 42 (.aload_n 0) 1 43 := ⟨by decide +kernel, rfl⟩
theorem eX5_reachOut_43 : sl_D YX5_reachOut 43 (.getfield 21) 3 46 := ⟨by decide +kernel, rfl⟩
theorem eX5_reachOut_46 : sl_D YX5_reachOut 46 (.iload_n 2) 1 47 := ⟨by decide +kernel, rfl⟩
theorem eX5_reachOut_47 : sl_D YX5_reachOut 47 (.iaload) 1 48 := ⟨by decide +kernel, rfl⟩
theorem eX5_reachOut_48 : sl_D YX5_reachOut 48 (.iload_n 1) 1 49 := ⟨by decide +kernel, rfl⟩
theorem eX5_reachOut_49 : sl_D YX5_reachOut 49 (.invokestatic 72) 3 52 := ⟨by decide +kernel, rfl⟩
theorem eX5_reachOut_52 : sl_B YX5_reachOut 52 (fun o => .ifCond .eq o) 55 70 := ⟨18, by decide +kernel, rfl, by decide⟩
theorem eX5_reachOut_55 : sl_D YX5_reachOut 55 (.aload_n 0) 1 56 := ⟨by decide +kernel, rfl⟩
theorem eX5_reachOut_56 : sl_D YX5_reachOut 56 (.getfield 21) 3 59 := ⟨by decide +kernel, rfl⟩
theorem eX5_reachOut_59 : sl_D YX5_reachOut 59 (.iload_n 2) 1 60 := ⟨by decide +kernel, rfl⟩
theorem eX5_reachOut_60 : sl_D YX5_reachOut 60 (.dup2) 1 61 := ⟨by decide +kernel, rfl⟩
theorem eX5_reachOut_61 : sl_D YX5_reachOut 61 (.iaload) 1 62 := ⟨by decide +kernel, rfl⟩
theorem eX5_reachOut_62 : sl_D YX5_reachOut 62 (.aload_n 0) 1 63 := ⟨by decide +kernel, rfl⟩
theorem eX5_reachOut_63 : sl_D YX5_reachOut 63 (.getfield 21) 3 66 := ⟨by decide +kernel, rfl⟩
theorem eX5_reachOut_66 : sl_D YX5_reachOut 66 (.iload_n 1) 1 67 := ⟨by decide +kernel, rfl⟩
theorem eX5_reachOut_67 : sl_D YX5_reachOut 67 (.iaload) 1 68 := ⟨by decide +kernel, rfl⟩
theorem eX5_reachOut_68 : sl_D YX5_reachOut 68 (.ior) 1 69 := ⟨by decide +kernel, rfl⟩
theorem eX5_reachOut_69 : sl_D YX5_reachOut 69 (.iastore) 1 70 := ⟨by decide +kernel, rfl⟩
theorem eX5_reachOut_70 : sl_D YX5_reachOut 70 (.iinc 2 1) 3 73 := ⟨by decide +kernel, rfl⟩
theorem eX5_reachOut_73 : sl_B YX5_reachOut 73 (fun o => .goto o) 76 36 := ⟨-37, by decide +kernel, rfl, by decide⟩
theorem eX5_reachOut_76 : sl_D YX5_reachOut 76 (.iinc 1 1) 3 79 := ⟨by decide +kernel, rfl⟩
theorem eX5_reachOut_79 : sl_B YX5_reachOut 79 (fun o => .goto o) 82 28 := ⟨-51, by decide +kernel, rfl, by decide⟩
theorem eX5_reachOut_82 : sl_D YX5_reachOut 82 (.return_) 1 83 := ⟨by decide +kernel, rfl⟩
theorem eX5_findRing_0 : sl_D YX5_findRing 0 (.aload_n 0) 1 1 := ⟨by decide +kernel, rfl⟩
theorem eX5_findRing_1 : sl_D YX5_findRing 1 (.iconst 0) 1 2 := ⟨by decide +kernel, rfl⟩
theorem eX5_findRing_2 : sl_D YX5_findRing 2 (.putfield 50) 3 5 := ⟨by decide +kernel, rfl⟩
theorem eX5_findRing_5 : sl_D YX5_findRing 5 (.iconst 0) 1 6 := ⟨by decide +kernel, rfl⟩
theorem eX5_findRing_6 : sl_D YX5_findRing 6 (.istore_n 1) 1 7 := ⟨by decide +kernel, rfl⟩
theorem eX5_findRing_7 : sl_D YX5_findRing 7 (.iload_n 1) 1 8 := ⟨by decide +kernel, rfl⟩
theorem eX5_findRing_8 : sl_D YX5_findRing 8 (.bipush 28) 2 10 := ⟨by decide +kernel, rfl⟩
theorem eX5_findRing_10 : sl_B YX5_findRing 10 (fun o => .if_icmp .ge o) 13 44 := ⟨34, by decide +kernel, rfl, by decide⟩
theorem eX5_findRing_13 : sl_D YX5_findRing 13 (.aload_n 0) 1 14 := ⟨by decide +kernel, rfl⟩
theorem eX5_findRing_14 : sl_D YX5_findRing 14 (.getfield 50) 3 17 := ⟨by decide +kernel, rfl⟩
theorem eX5_findRing_17 : sl_B YX5_findRing 17 (fun o => .ifCond .ne o) 20 44 := ⟨27, by decide +kernel, rfl, by decide⟩
theorem eX5_findRing_20 : sl_D YX5_findRing 20 (.aload_n 0) 1 21 := ⟨by decide +kernel, rfl⟩
theorem eX5_findRing_21 : sl_D YX5_findRing 21 (.getfield 21) 3 24 := ⟨by decide +kernel, rfl⟩
theorem eX5_findRing_24 : sl_D YX5_findRing 24 (.iload_n 1) 1 25 := ⟨by decide +kernel, rfl⟩
theorem eX5_findRing_25 : sl_D YX5_findRing 25 (.iaload) 1 26 := ⟨by decide +kernel, rfl⟩
theorem eX5_findRing_26 : sl_D YX5_findRing 26 (.iload_n 1) 1 27 := ⟨by decide +kernel, rfl⟩
theorem eX5_findRing_27 : sl_D YX5_findRing 27 (.invokestatic 72) 3 30 := ⟨by decide +kernel, rfl⟩
theorem eX5_findRing_30 : sl_B YX5_findRing 30 (fun o => .ifCond .eq o) 33 38 := ⟨8, by decide +kernel, rfl, by decide⟩
theorem eX5_findRing_33 : sl_D YX5_findRing 33 (.aload_n 0) 1 34 := ⟨by decide +kernel, rfl⟩
theorem eX5_findRing_34 : sl_D YX5_findRing 34 (.iload_n 1) 1 35 := ⟨by decide +kernel, rfl⟩
theorem eX5_findRing_35 : sl_D YX5_findRing 35 (.invokevirtual 76) 3 38 := ⟨by decide +kernel, rfl⟩
theorem eX5_findRing_38 : sl_D YX5_findRing 38 (.iinc 1 1) 3 41 := ⟨by decide +kernel, rfl⟩
theorem eX5_findRing_41 : sl_B YX5_findRing 41 (fun o => .goto o) 44 7 := ⟨-34, by decide +kernel, rfl, by decide⟩
theorem eX5_findRing_44 : sl_D YX5_findRing 44 (.return_) 1 45 := ⟨by decide +kernel, rfl⟩
theorem eX5_walkRing_0 : sl_D YX5_walkRing 0 (.aload_n 0) 1 1 := ⟨by decide +kernel, rfl⟩
theorem eX5_walkRing_1 : sl_D YX5_walkRing 1 (.iload_n 1) 1 2 := ⟨by decide +kernel, rfl⟩
theorem eX5_walkRing_2 : sl_D YX5_walkRing 2 (.invokevirtual 80) 3 5 := ⟨by decide +kernel, rfl⟩
theorem eX5_walkRing_5 : sl_D YX5_walkRing 5 (.aload_n 0) 1 6 := ⟨by decide +kernel, rfl⟩
theorem eX5_walkRing_6 : sl_D YX5_walkRing 6 (.iload_n 1) 1 7 := ⟨by decide +kernel, rfl⟩
theorem eX5_walkRing_7 : sl_D YX5_walkRing 7 (.invokevirtual 83) 3 10 := ⟨by decide +kernel, rfl⟩
theorem eX5_walkRing_10 : sl_D YX5_walkRing 10 (.istore_n 2) 1 11 := ⟨by decide +kernel, rfl⟩
theorem eX5_walkRing_11 : sl_D YX5_walkRing 11 (.iload_n 1) 1 12 := ⟨by decide +kernel, rfl⟩
theorem eX5_walkRing_12 : sl_D YX5_walkRing 12 (.istore_n 3) 1 13 := ⟨by decide +kernel, rfl⟩
theorem eX5_walkRing_13 : sl_D YX5_walkRing 13 (.iconst 0) 1 14 := ⟨by decide +kernel, rfl⟩
theorem eX5_walkRing_14 : sl_D YX5_walkRing 14 (.istore 4) 2 16 := ⟨by decide +kernel, rfl⟩
theorem eX5_walkRing_16 : sl_D YX5_walkRing 16 (.iload 4) 2 18 := ⟨by decide +kernel, rfl⟩
theorem eX5_walkRing_18 : sl_D YX5_walkRing 18 (.iload_n 2) 1 19 := ⟨by decide +kernel, rfl⟩
theorem eX5_walkRing_19 : sl_B YX5_walkRing 19 (fun o => .if_icmp .ge o) 22 53 := ⟨34, by decide +kernel, rfl, by decide⟩
theorem eX5_walkRing_22 : sl_D YX5_walkRing 22 (.iload_n 3) 1 23 := ⟨by decide +kernel, rfl⟩
theorem eX5_walkRing_23 : sl_D YX5_walkRing 23 (.iconst (-1)) 1 24 := ⟨by decide +kernel, rfl⟩
theorem eX5_walkRing_24 : sl_B YX5_walkRing 24 (fun o => .if_icmp .eq o) 27 53 := ⟨29, by decide +kernel, rfl, by decide⟩
theorem eX5_walkRing_27 : sl_D YX5_walkRing 27 (.aload_n 0) 1 28 := ⟨by decide +kernel, rfl⟩
theorem eX5_walkRing_28 : sl_D YX5_walkRing 28 (.getfield 11) 3 31 := ⟨by decide +kernel, rfl⟩
theorem eX5_walkRing_31 : sl_D YX5_walkRing 31 (.iload 4) 2 33 := ⟨by decide +kernel, rfl⟩
theorem eX5_walkRing_33 : sl_D YX5_walkRing 33 (.iload_n 3) 1 34 := ⟨by decide +kernel, rfl⟩
theorem eX5_walkRing_34 : sl_D YX5_walkRing 34 (.iastore) 1 35 := ⟨by decide +kernel, rfl⟩
theorem eX5_walkRing_35 : sl_D YX5_walkRing 35 (.aload_n 0) 1 36 := ⟨by decide +kernel, rfl⟩
theorem eX5_walkRing_36 : sl_D YX5_walkRing 36 (.iload_n 3) 1 37 := ⟨by decide +kernel, rfl⟩
theorem eX5_walkRing_37 : sl_D YX5_walkRing 37 (.iload_n 2) 1 38 := ⟨by decide +kernel, rfl⟩
theorem eX5_walkRing_38 : sl_D YX5_walkRing 38 (.iconst 1) 1 39 := ⟨by decide +kernel, rfl⟩
theorem eX5_walkRing_39 : sl_D YX5_walkRing 39 (.isub) 1 40 := ⟨by decide +kernel, rfl⟩
theorem eX5_walkRing_40 : sl_D YX5_walkRing 40 (.iload 4) 2 42 := ⟨by decide +kernel, rfl⟩
theorem eX5_walkRing_42 : sl_D YX5_walkRing 42 (.isub) 1 43 := ⟨by decide +kernel, rfl⟩
theorem eX5_walkRing_43 : sl_D YX5_walkRing 43 (.invokevirtual 87) 3 46 := ⟨by decide +kernel, rfl⟩
theorem eX5_walkRing_46 : sl_D YX5_walkRing 46 (.istore_n 3) 1 47 := ⟨by decide +kernel, rfl⟩
theorem eX5_walkRing_47 : sl_D YX5_walkRing 47 (.iinc 4 1) 3 50 := ⟨by decide +kernel, rfl⟩
theorem eX5_walkRing_50 : sl_B YX5_walkRing 50 (fun o => .goto o) 53 16 := ⟨-34, by decide +kernel, rfl, by decide⟩
theorem eX5_walkRing_53 : sl_D YX5_walkRing 53 (.aload_n 0) 1 54 := ⟨by decide +kernel, rfl⟩
theorem eX5_walkRing_54 : sl_D YX5_walkRing 54 (.iload_n 2) 1 55 := ⟨by decide +kernel, rfl⟩
theorem eX5_walkRing_55 : sl_D YX5_walkRing 55 (.putfield 50) 3 58 := ⟨by decide +kernel, rfl⟩
theorem eX5_walkRing_58 : sl_D YX5_walkRing 58 (.return_) 1 59 := ⟨by decide +kernel, rfl⟩
theorem eX5_measureBack_0 : sl_D YX5_measureBack 0 (.iconst 0) 1 1 := ⟨by decide +kernel, rfl⟩
theorem eX5_measureBack_1 : sl_D YX5_measureBack 1 (.istore_n 2) 1 2 := ⟨by decide +kernel, rfl⟩
theorem eX5_measureBack_2 : sl_D YX5_measureBack 2 (.iload_n 2) 1 3 := ⟨by decide +kernel, rfl⟩
theorem eX5_measureBack_3 : sl_D YX5_measureBack 3 (.bipush 28) 2 5 := ⟨by decide +kernel, rfl⟩
theorem eX5_measureBack_5 : sl_B YX5_measureBack 5 (fun o => .if_icmp .ge o) 8 22 := ⟨17, by decide +kernel, rfl, by decide⟩
theorem eX5_measureBack_8 : sl_D YX5_measureBack 8 (.aload_n 0) 1 9 := ⟨by decide +kernel, rfl⟩
theorem eX5_measureBack_9 : sl_D YX5_measureBack 9 (.getfield 27) 3 12 := ⟨by decide +kernel, rfl⟩
theorem eX5_measureBack_12 : sl_D YX5_measureBack 12 (.iload_n 2) 1 13 := ⟨by decide +kernel, rfl⟩
theorem eX5_measureBack_13 : sl_D YX5_measureBack 13 (.bipush 28) 2 15 := ⟨by decide +kernel, rfl⟩
theorem eX5_measureBack_15 : sl_D YX5_measureBack 15 (.iastore) 1 16 := ⟨by decide +kernel, rfl⟩
theorem eX5_measureBack_16 : sl_D YX5_measureBack 16 (.iinc 2 1) 3 19 := ⟨by decide +kernel, rfl⟩
theorem eX5_measureBack_19 : sl_B YX5_measureBack 19 (fun o => .goto o) 22 2 := ⟨-17, by decide +kernel, rfl, by decide⟩
theorem eX5_measureBack_22 : sl_D YX5_measureBack 22 (.aload_n 0) 1 23 := ⟨by decide +kernel, rfl⟩
theorem eX5_measureBack_23 : sl_D YX5_measureBack 23 (.getfield 27) 3 26 := ⟨by decide +kernel, rfl⟩
theorem eX5_measureBack_26 : sl_D YX5_measureBack 26 (.iload_n 1) 1 27 := ⟨by decide +kernel, rfl⟩
theorem eX5_measureBack_27 : sl_D YX5_measureBack 27 (.iconst 0) 1 28 := ⟨by decide +kernel, rfl⟩
theorem eX5_measureBack_28 : sl_D YX5_measureBack 28 (.iastore) 1 29 := ⟨by decide +kernel, rfl⟩
theorem eX5_measureBack_29 : sl_D YX5_measureBack 29 (.iconst 1) 1 30 := ⟨by decide +kernel, rfl⟩
theorem eX5_measureBack_30 : sl_D YX5_measureBack 30 (.istore_n 2) 1 31 := ⟨by decide +kernel, rfl⟩
theorem eX5_measureBack_31 : sl_D YX5_measureBack 31 (.iconst 1) 1 32 := ⟨by decide +kernel, rfl⟩
theorem eX5_measureBack_32 : sl_D YX5_measureBack 32 (.istore_n 3) 1 33 := ⟨by decide +kernel, rfl⟩
theorem eX5_measureBack_33 : sl_D YX5_measureBack 33 (.iload_n 3) 1 34 := ⟨by decide +kernel, rfl⟩
theorem eX5_measureBack_34 : sl_D YX5_measureBack 34 (.bipush 28) 2 36 := ⟨by decide +kernel, rfl⟩
theorem eX5_measureBack_36 : sl_B YX5_measureBack 36 (fun o => .if_icmp .ge o) 39 102 := ⟨66, by decide +kernel, rfl, by decide⟩
theorem eX5_measureBack_39 : sl_D YX5_measureBack 39 (.iload_n 2) 1 40 := ⟨by decide +kernel, rfl⟩
theorem eX5_measureBack_40 : sl_B YX5_measureBack 40 (fun o => .ifCond .eq o) 43 102 := ⟨62, by decide +kernel, rfl, by decide⟩
theorem eX5_measureBack_43 : sl_D YX5_measureBack 43 (.iconst 0) 1 44 := ⟨by decide +kernel, rfl⟩
theorem eX5_measureBack_44 : sl_D YX5_measureBack 44 (.istore_n 2) 1 45 := ⟨by decide +kernel, rfl⟩
theorem eX5_measureBack_45 : sl_D YX5_measureBack 45 (.iconst 0) 1 46 := ⟨by decide +kernel, rfl⟩
theorem eX5_measureBack_46 : sl_D YX5_measureBack 46 (.istore 4) 2 48 := ⟨by decide +kernel, rfl⟩
theorem eX5_measureBack_48 : sl_D YX5_measureBack 48 (.iload 4) 2 50 := ⟨by decide +kernel, rfl⟩
theorem eX5_measureBack_50 : sl_D YX5_measureBack 50 (.bipush 28) 2 52 := ⟨by decide +kernel, rfl⟩
theorem eX5_measureBack_52 : sl_B YX5_measureBack 52 (fun o => .if_icmp .ge o) 55 96 := ⟨44, by decide +kernel, rfl, by decide⟩
theorem eX5_measureBack_55 : sl_D YX5_measureBack 55 (.aload_n 0) 1 56 := ⟨by decide +kernel, rfl⟩
theorem eX5_measureBack_56 : sl_D YX5_measureBack 56 (.getfield 27) 3 59 := ⟨by decide +kernel, rfl⟩
theorem eX5_measureBack_59 : sl_D YX5_measureBack 59 (.iload 4) 2 61 := ⟨by decide +kernel, rfl⟩
theorem eX5_measureBack_61 : sl_D YX5_measureBack 61 (.iaload) 1 62 := ⟨by decide +kernel, rfl⟩
theorem eX5_measureBack_62 : sl_D YX5_measureBack 62 (.bipush 28) 2 64 := ⟨by decide +kernel, rfl⟩
theorem eX5_measureBack_64 : sl_B YX5_measureBack 64 (fun o => .if_icmp .ne o) 67 90 := ⟨26, by decide +kernel, rfl, by decide⟩
theorem eX5_measureBack_67 : sl_D YX5_measureBack 67 (.aload_n 0) 1 68 := ⟨by decide +kernel, rfl⟩
theorem eX5_measureBack_68 : sl_D YX5_measureBack 68 (.iload 4) 2 70 := ⟨by decide +kernel, rfl⟩
theorem eX5_measureBack_70 : sl_D YX5_measureBack 70 (.iload_n 3) 1 71 := ⟨by decide +kernel, rfl⟩
theorem eX5_measureBack_71 : sl_D YX5_measureBack 71 (.iconst 1) 1 72 := ⟨by decide +kernel, rfl⟩
theorem eX5_measureBack_72 : sl_D YX5_measureBack 72 (.isub) 1 73 := ⟨by decide +kernel, rfl⟩
theorem eX5_measureBack_73 : sl_D YX5_measureBack 73 (.invokevirtual 87) 3 76 := ⟨by decide +kernel, rfl⟩
theorem eX5_measureBack_76 : sl_D YX5_measureBack 76 (.iconst (-1)) 1 77 := ⟨by decide +kernel, rfl⟩
theorem eX5_measureBack_77 : sl_B YX5_measureBack 77 (fun o => .if_icmp .eq o) 80 90 := ⟨13, by decide +kernel, rfl, by decide⟩
theorem eX5_measureBack_80 : sl_D YX5_measureBack 80 (.aload_n 0) 1 81 := ⟨by decide +kernel, rfl⟩
theorem eX5_measureBack_81 : sl_D YX5_measureBack 81 (.getfield 27) 3 84 := ⟨by decide +kernel, rfl⟩
theorem eX5_measureBack_84 : sl_D YX5_measureBack 84 (.iload 4) 2 86 := ⟨by decide +kernel, rfl⟩
theorem eX5_measureBack_86 : sl_D YX5_measureBack 86 (.iload_n 3) 1 87 := ⟨by decide +kernel, rfl⟩
theorem eX5_measureBack_87 : sl_D YX5_measureBack 87 (.iastore) 1 88 := ⟨by decide +kernel, rfl⟩
theorem eX5_measureBack_88 : sl_D YX5_measureBack 88 (.iconst 1) 1 89 := ⟨by decide +kernel, rfl⟩
theorem eX5_measureBack_89 : sl_D YX5_measureBack 89 (.istore_n 2) 1 90 := ⟨by decide +kernel, rfl⟩
theorem eX5_measureBack_90 : sl_D YX5_measureBack 90 (.iinc 4 1) 3 93 := ⟨by decide +kernel, rfl⟩
theorem eX5_measureBack_93 : sl_B YX5_measureBack 93 (fun o => .goto o) 96 48 := ⟨-45, by decide +kernel, rfl, by decide⟩
theorem eX5_measureBack_96 : sl_D YX5_measureBack 96 (.iinc 3 1) 3 99 := ⟨by decide +kernel, rfl⟩
theorem eX5_measureBack_99 : sl_B YX5_measureBack 99 (fun o => .goto o) 102 33 := ⟨-66, by decide +kernel, rfl, by decide⟩
theorem eX5_measureBack_102 : sl_D YX5_measureBack 102 (.return_) 1 103 := ⟨by decide +kernel, rfl⟩
theorem eX5_wayRound_0 : sl_D YX5_wayRound 0 (.iconst 0) 1 1 := ⟨by decide +kernel, rfl⟩
theorem eX5_wayRound_1 : sl_D YX5_wayRound 1 (.istore_n 2) 1 2 := ⟨by decide +kernel, rfl⟩
theorem eX5_wayRound_2 : sl_D YX5_wayRound 2 (.iload_n 2) 1 3 := ⟨by decide +kernel, rfl⟩
theorem eX5_wayRound_3 : sl_D YX5_wayRound 3 (.bipush 28) 2 5 := ⟨by decide +kernel, rfl⟩
theorem eX5_wayRound_5 : sl_B YX5_wayRound 5 (fun o => .if_icmp .ge o) 8 28 := ⟨23, by decide +kernel, rfl, by decide⟩
theorem eX5_wayRound_8 : sl_D YX5_wayRound 8 (.aload_n 0) 1 9 := ⟨by decide +kernel, rfl⟩
theorem eX5_wayRound_9 : sl_D YX5_wayRound 9 (.iload_n 1) 1 10 := ⟨by decide +kernel, rfl⟩
theorem eX5_wayRound_10 : sl_D YX5_wayRound 10 (.iload_n 2) 1 11 := ⟨by decide +kernel, rfl⟩
theorem eX5_wayRound_11 : sl_D YX5_wayRound 11 (.invokevirtual 87) 3 14 := ⟨by decide +kernel, rfl⟩
theorem eX5_wayRound_14 : sl_D YX5_wayRound 14 (.iconst (-1)) 1 15 := ⟨by decide +kernel, rfl⟩
theorem eX5_wayRound_15 : sl_B YX5_wayRound 15 (fun o => .if_icmp .eq o) 18 22 := ⟨7, by decide +kernel, rfl, by decide⟩
theorem eX5_wayRound_18 : sl_D YX5_wayRound 18 (.iload_n 2) 1 19 := ⟨by decide +kernel, rfl⟩
theorem eX5_wayRound_19 : sl_D YX5_wayRound 19 (.iconst 1) 1 20 := ⟨by decide +kernel, rfl⟩
theorem eX5_wayRound_20 : sl_D YX5_wayRound 20 (.iadd) 1 21 := ⟨by decide +kernel, rfl⟩
theorem eX5_wayRound_21 : sl_D YX5_wayRound 21 (.ireturn) 1 22 := ⟨by decide +kernel, rfl⟩
theorem eX5_wayRound_22 : sl_D YX5_wayRound 22 (.iinc 2 1) 3 25 := ⟨by decide +kernel, rfl⟩
theorem eX5_wayRound_25 : sl_B YX5_wayRound 25 (fun o => .goto o) 28 2 := ⟨-23, by decide +kernel, rfl, by decide⟩
theorem eX5_wayRound_28 : sl_D YX5_wayRound 28 (.iconst 0) 1 29 := ⟨by decide +kernel, rfl⟩
theorem eX5_wayRound_29 : sl_D YX5_wayRound 29 (.ireturn) 1 30 := ⟨by decide +kernel, rfl⟩
theorem eX5_leastNext_0 : sl_D YX5_leastNext 0 (.iconst 0) 1 1 := ⟨by decide +kernel, rfl⟩
theorem eX5_leastNext_1 : sl_D YX5_leastNext 1 (.istore_n 3) 1 2 := ⟨by decide +kernel, rfl⟩
theorem eX5_leastNext_2 : sl_D YX5_leastNext 2 (.iload_n 3) 1 3 := ⟨by decide +kernel, rfl⟩
theorem eX5_leastNext_3 : sl_D YX5_leastNext 3 (.bipush 28) 2 5 := ⟨by decide +kernel, rfl⟩
theorem eX5_leastNext_5 : sl_B YX5_leastNext 5 (fun o => .if_icmp .ge o) 8 48 := ⟨43, by decide +kernel, rfl, by decide⟩
theorem eX5_leastNext_8 : sl_D YX5_leastNext 8 (.aload_n 0) 1 9 := ⟨by decide +kernel, rfl⟩
theorem eX5_leastNext_9 : sl_D YX5_leastNext 9 (.getfield 18) 3 12 := ⟨by decide +kernel, rfl⟩
theorem eX5_leastNext_12 : sl_D YX5_leastNext 12 (.iload_n 1) 1 13 := ⟨by decide +kernel, rfl⟩
theorem eX5_leastNext_13 : sl_D YX5_leastNext 13 (.iaload) 1 14 := ⟨by decide +kernel, rfl⟩
theorem eX5_leastNext_14 : sl_B YX5_leastNext 14 (fun o => .ifCond .eq o) 17 48 := ⟨34, by decide +kernel, rfl, by decide⟩
theorem eX5_leastNext_17 : sl_D YX5_leastNext 17 (.aload_n 0) 1 18 := ⟨by decide +kernel, rfl⟩
theorem eX5_leastNext_18 : sl_D YX5_leastNext 18 (.getfield 18) 3 21 := ⟨by decide +kernel, rfl⟩
theorem eX5_leastNext_21 : sl_D YX5_leastNext 21 (.iload_n 1) 1 22 := ⟨by decide +kernel, rfl⟩
theorem eX5_leastNext_22 : sl_D YX5_leastNext 22 (.iaload) 1 23 := ⟨by decide +kernel, rfl⟩
theorem eX5_leastNext_23 : sl_D YX5_leastNext 23 (.iload_n 3) 1 24 := ⟨by decide +kernel, rfl⟩
theorem eX5_leastNext_24 : sl_D YX5_leastNext 24 (.invokestatic 72) 3 27 := ⟨by decide +kernel, rfl⟩
theorem eX5_leastNext_27 : sl_B YX5_leastNext 27 (fun o => .ifCond .eq o) 30 42 := ⟨15, by decide +kernel, rfl, by decide⟩
theorem eX5_leastNext_30 : sl_D YX5_leastNext 30 (.aload_n 0) 1 31 := ⟨by decide +kernel, rfl⟩
theorem eX5_leastNext_31 : sl_D YX5_leastNext 31 (.getfield 27) 3 34 := ⟨by decide +kernel, rfl⟩
theorem eX5_leastNext_34 : sl_D YX5_leastNext 34 (.iload_n 3) 1 35 := ⟨by decide +kernel, rfl⟩
theorem eX5_leastNext_35 : sl_D YX5_leastNext 35 (.iaload) 1 36 := ⟨by decide +kernel, rfl⟩
theorem eX5_leastNext_36 : sl_D YX5_leastNext 36 (.iload_n 2) 1 37 := ⟨by decide +kernel, rfl⟩
theorem eX5_leastNext_37 : sl_B YX5_leastNext 37 (fun o => .if_icmp .ne o) 40 42 := ⟨5, by decide +kernel, rfl, by decide⟩
theorem eX5_leastNext_40 : sl_D YX5_leastNext 40 (.iload_n 3) 1 41 := ⟨by decide +kernel, rfl⟩
theorem eX5_leastNext_41 : sl_D YX5_leastNext 41 (.ireturn) 1 42 := ⟨by decide +kernel, rfl⟩
theorem eX5_leastNext_42 : sl_D YX5_leastNext 42 (.iinc 3 1) 3 45 := ⟨by decide +kernel, rfl⟩
theorem eX5_leastNext_45 : sl_B YX5_leastNext 45 (fun o => .goto o) 48 2 := ⟨-43, by decide +kernel, rfl, by decide⟩
theorem eX5_leastNext_48 : sl_D YX5_leastNext 48 (.iconst (-1)) 1 49 := ⟨by decide +kernel, rfl⟩
theorem eX5_leastNext_49 : sl_D YX5_leastNext 49 (.ireturn) 1 50 := ⟨by decide +kernel, rfl⟩
theorem eX5_measureWays_0 : sl_D YX5_measureWays 0 (.iconst 1) 1 1 := ⟨by decide +kernel, rfl⟩
theorem eX5_measureWays_1 : sl_D YX5_measureWays 1 (.istore_n 1) 1 2 := ⟨by decide +kernel, rfl⟩
theorem eX5_measureWays_2 : sl_D YX5_measureWays 2 (.iconst 0) 1 3 := ⟨by decide +kernel, rfl⟩
theorem eX5_measureWays_3 : sl_D YX5_measureWays 3 (.istore_n 2) 1 4 := ⟨by decide +kernel, rfl⟩
theorem eX5_measureWays_4 : sl_D YX5_measureWays 4 (.iload_n 2) 1 5 := ⟨by decide +kernel, rfl⟩
theorem eX5_measureWays_5 : sl_D YX5_measureWays 5 (.bipush 28) 2 7 := ⟨by decide +kernel, rfl⟩
theorem eX5_measureWays_7 : sl_B YX5_measureWays 7 (fun o => .if_icmp .ge o) 10 72 := ⟨65, by decide +kernel, rfl, by decide⟩
theorem eX5_measureWays_10 : sl_D YX5_measureWays 10 (.iload_n 1) 1 11 := ⟨by decide +kernel, rfl⟩
theorem eX5_measureWays_11 : sl_B YX5_measureWays 11 (fun o => .ifCond .eq o) 14 72 := ⟨61, by decide +kernel, rfl, by decide⟩
theorem eX5_measureWays_14 : sl_D YX5_measureWays 14 (.iconst 0) 1 15 := ⟨by decide +kernel, rfl⟩
theorem eX5_measureWays_15 : sl_D YX5_measureWays 15 (.istore_n 1) 1 16 := ⟨by decide +kernel, rfl⟩
theorem eX5_measureWays_16 : sl_D YX5_measureWays 16 (.iconst 0) 1 17 := ⟨by decide +kernel, rfl⟩
theorem eX5_measureWays_17 : sl_D YX5_measureWays 17 (.istore_n 3) 1 18 := ⟨by decide +kernel, rfl⟩
theorem eX5_measureWays_18 : sl_D YX5_measureWays 18 (.iload_n 3) 1 19 := ⟨by decide +kernel, rfl⟩
theorem eX5_measureWays_19 : sl_D YX5_measureWays 19 (.bipush 28) 2 21 := ⟨by decide +kernel, rfl⟩
theorem eX5_measureWays_21 : sl_B YX5_measureWays 21 (fun o => .if_icmp .ge o) 24 66 := ⟨45, by decide +kernel, rfl, by decide⟩
theorem eX5_measureWays_24 : sl_D YX5_measureWays 24 (.aload_n 0) 1 25 := ⟨by decide +kernel, rfl⟩
theorem eX5_measureWays_25 : sl_D YX5_measureWays 25 (.iload_n 3) 1 26 := ⟨by decide +kernel, rfl⟩
theorem eX5_measureWays_26 : sl_D YX5_measureWays 26 (.invokevirtual 90) 3 29 := ⟨by decide +kernel, rfl⟩
theorem eX5_measureWays_29 : sl_D YX5_measureWays 29 (.istore 4) 2 31 := ⟨by decide +kernel, rfl⟩
theorem eX5_measureWays_31 : sl_D YX5_measureWays 31 (.iload_n 1) 1 32 := ⟨by decide +kernel, rfl⟩
theorem eX5_measureWays_32 : sl_B YX5_measureWays 32 (fun o => .ifCond .ne o) 35 46 := ⟨14, by decide +kernel, rfl, by decide⟩
theorem eX5_measureWays_35 : sl_D YX5_measureWays 35 (.iload 4) 2 37 := ⟨by decide +kernel, rfl⟩
theorem eX5_measureWays_37 : sl_D YX5_measureWays 37 (.aload_n 0) 1 38 := ⟨by decide +kernel, rfl⟩
theorem eX5_measureWays_38 : sl_D YX5_measureWays 38 (.getfield 24) 3 41 := ⟨by decide +kernel, rfl⟩
theorem eX5_measureWays_41 : sl_D YX5_measureWays 41 (.iload_n 3) 1 42 := ⟨by decide +kernel, rfl⟩
theorem eX5_measureWays_42 : sl_D YX5_measureWays 42 (.iaload) 1 43 := ⟨by decide +kernel, rfl⟩
theorem eX5_measureWays_43 : sl_B YX5_measureWays 43 (fun o => .if_icmp .le o) 46 50 := ⟨7, by decide +kernel, rfl, by decide⟩
theorem eX5_measureWays_46 : sl_D YX5_measureWays 46 (.iconst 1) 1 47 := ⟨by decide +kernel, rfl⟩
theorem eX5_measureWays_47 : sl_B YX5_measureWays 47 (fun o => .goto o) 50 51 := ⟨4, by decide +kernel, rfl, by decide⟩
theorem eX5_measureWays_50 : sl_D YX5_measureWays 50 (.iconst 0) 1 51 := ⟨by decide +kernel, rfl⟩
theorem eX5_measureWays_51 : sl_D YX5_measureWays 51 (.istore_n 1) 1 52 := ⟨by decide +kernel, rfl⟩
theorem eX5_measureWays_52 : sl_D YX5_measureWays 52 (.aload_n 0) 1 53 := ⟨by decide +kernel, rfl⟩
theorem eX5_measureWays_53 : sl_D YX5_measureWays 53 (.getfield 24) 3 56 := ⟨by decide +kernel, rfl⟩
theorem eX5_measureWays_56 : sl_D YX5_measureWays 56 (.iload_n 3) 1 57 := ⟨by decide +kernel, rfl⟩
theorem eX5_measureWays_57 : sl_D YX5_measureWays 57 (.iload 4) 2 59 := ⟨by decide +kernel, rfl⟩
theorem eX5_measureWays_59 : sl_D YX5_measureWays 59 (.iastore) 1 60 := ⟨by decide +kernel, rfl⟩
theorem eX5_measureWays_60 : sl_D YX5_measureWays 60 (.iinc 3 1) 3 63 := ⟨by decide +kernel, rfl⟩
theorem eX5_measureWays_63 : sl_B YX5_measureWays 63 (fun o => .goto o) 66 18 := ⟨-45, by decide +kernel, rfl, by decide⟩
theorem eX5_measureWays_66 : sl_D YX5_measureWays 66 (.iinc 2 1) 3 69 := ⟨by decide +kernel, rfl⟩
theorem eX5_measureWays_69 : sl_B YX5_measureWays 69 (fun o => .goto o) 72 4 := ⟨-65, by decide +kernel, rfl, by decide⟩
theorem eX5_measureWays_72 : sl_D YX5_measureWays 72 (.return_) 1 73 := ⟨by decide +kernel, rfl⟩
theorem eX5_longestFrom_0 : sl_D YX5_longestFrom 0 (.iconst 0) 1 1 := ⟨by decide +kernel, rfl⟩
theorem eX5_longestFrom_1 : sl_D YX5_longestFrom 1 (.istore_n 2) 1 2 := ⟨by decide +kernel, rfl⟩
theorem eX5_longestFrom_2 : sl_D YX5_longestFrom 2 (.iconst 0) 1 3 := ⟨by decide +kernel, rfl⟩
theorem eX5_longestFrom_3 : sl_D YX5_longestFrom 3 (.istore_n 3) 1 4 := ⟨by decide +kernel, rfl⟩
theorem eX5_longestFrom_4 : sl_D YX5_longestFrom 4 (.iload_n 3) 1 5 := ⟨by decide +kernel, rfl⟩
theorem eX5_longestFrom_5 : sl_D YX5_longestFrom 5 (.bipush 28) 2 7 := ⟨by decide +kernel, rfl⟩
theorem eX5_longestFrom_7 : sl_B YX5_longestFrom 7 (fun o => .if_icmp .ge o) 10 51 := ⟨44, by decide +kernel, rfl, by decide⟩
theorem eX5_longestFrom_10 : sl_D YX5_longestFrom 10 (.aload_n 0) 1 11 := ⟨by decide +kernel, rfl⟩
theorem eX5_longestFrom_11 : sl_D YX5_longestFrom 11 (.getfield 18) 3 14 := ⟨by decide +kernel, rfl⟩
theorem eX5_longestFrom_14 : sl_D YX5_longestFrom 14 (.iload_n 1) 1 15 := ⟨by decide +kernel, rfl⟩
theorem eX5_longestFrom_15 : sl_D YX5_longestFrom 15 (.iaload) 1 16 := ⟨by decide +kernel, rfl⟩
theorem eX5_longestFrom_16 : sl_B YX5_longestFrom 16 (fun o => .ifCond .eq o) 19 51 := ⟨35, by decide +kernel, rfl, by decide⟩
theorem eX5_longestFrom_19 : sl_D YX5_longestFrom 19 (.aload_n 0) 1 20 := ⟨by decide +kernel, rfl⟩
theorem eX5_longestFrom_20 : sl_D YX5_longestFrom 20 (.getfield 18) 3 23 := ⟨by decide +kernel, rfl⟩
theorem eX5_longestFrom_23 : sl_D YX5_longestFrom 23 (.iload_n 1) 1 24 := ⟨by decide +kernel, rfl⟩
theorem eX5_longestFrom_24 : sl_D YX5_longestFrom 24 (.iaload) 1 25 := ⟨by decide +kernel, rfl⟩
theorem eX5_longestFrom_25 : sl_D YX5_longestFrom 25 (.iload_n 3) 1 26 := ⟨by decide +kernel, rfl⟩
theorem eX5_longestFrom_26 : sl_D YX5_longestFrom 26 (.invokestatic 72) 3 29 := ⟨by decide +kernel, rfl⟩
theorem eX5_longestFrom_29 : sl_B YX5_longestFrom 29 (fun o => .ifCond .eq o) 32 45 := ⟨16, by decide +kernel, rfl, by decide⟩
theorem eX5_longestFrom_32 : sl_D YX5_longestFrom 32 (.iload_n 2) 1 33 := ⟨by decide +kernel, rfl⟩
theorem eX5_longestFrom_33 : sl_D YX5_longestFrom 33 (.aload_n 0) 1 34 := ⟨by decide +kernel, rfl⟩
theorem eX5_longestFrom_34 : sl_D YX5_longestFrom 34 (.getfield 24) 3 37 := ⟨by decide +kernel, rfl⟩
theorem eX5_longestFrom_37 : sl_D YX5_longestFrom 37 (.iload_n 3) 1 38 := ⟨by decide +kernel, rfl⟩
theorem eX5_longestFrom_38 : sl_D YX5_longestFrom 38 (.iaload) 1 39 := ⟨by decide +kernel, rfl⟩
theorem eX5_longestFrom_39 : sl_D YX5_longestFrom 39 (.iconst 1) 1 40 := ⟨by decide +kernel, rfl⟩
theorem eX5_longestFrom_40 : sl_D YX5_longestFrom 40 (.iadd) 1 41 := ⟨by decide +kernel, rfl⟩
theorem eX5_longestFrom_41 : sl_D YX5_longestFrom 41 (.invokestatic 69) 3 44 := ⟨by decide +kernel, rfl⟩
theorem eX5_longestFrom_44 : sl_D YX5_longestFrom 44 (.istore_n 2) 1 45 := ⟨by decide +kernel, rfl⟩
theorem eX5_longestFrom_45 : sl_D YX5_longestFrom 45 (.iinc 3 1) 3 48 := ⟨by decide +kernel, rfl⟩
theorem eX5_longestFrom_48 : sl_B YX5_longestFrom 48 (fun o => .goto o) 51 4 := ⟨-44, by decide +kernel, rfl, by decide⟩
theorem eX5_longestFrom_51 : sl_D YX5_longestFrom 51 (.iload_n 2) 1 52 := ⟨by decide +kernel, rfl⟩
theorem eX5_longestFrom_52 : sl_D YX5_longestFrom 52 (.ireturn) 1 53 := ⟨by decide +kernel, rfl⟩
theorem eX5_stand_0 : sl_D YX5_stand 0 (.aload_n 0) 1 1 := ⟨by decide +kernel, rfl⟩
theorem eX5_stand_1 : sl_D YX5_stand 1 (.getfield 50) 3 4 := ⟨by decide +kernel, rfl⟩
theorem eX5_stand_4 : sl_B YX5_stand 4 (fun o => .ifCond .ne o) 7 11 := ⟨7, by decide +kernel, rfl, by decide⟩
theorem eX5_stand_7 : sl_D YX5_stand 7 (.iconst 1) 1 8 := ⟨by decide +kernel, rfl⟩
theorem eX5_stand_8 : sl_B YX5_stand 8 (fun o => .goto o) 11 12 := ⟨4, by decide +kernel, rfl, by decide⟩
theorem eX5_stand_11 : sl_D YX5_stand 11 (.iconst 0) 1 12 := ⟨by decide +kernel, rfl⟩
theorem eX5_stand_12 : sl_D YX5_stand 12 (.ireturn) 1 13 := ⟨by decide +kernel, rfl⟩
theorem eX5_valueF_0 : sl_D YX5_valueF 0 (.aload_n 0) 1 1 := ⟨by decide +kernel, rfl⟩
theorem eX5_valueF_1 : sl_D YX5_valueF 1 (.getfield 24) 3 4 := ⟨by decide +kernel, rfl⟩
theorem eX5_valueF_4 : sl_D YX5_valueF 4 (.aload_n 0) 1 5 := ⟨by decide +kernel, rfl⟩
theorem eX5_valueF_5 : sl_D YX5_valueF 5 (.getfield 15) 3 8 := ⟨by decide +kernel, rfl⟩
theorem eX5_valueF_8 : sl_D YX5_valueF 8 (.iload_n 1) 1 9 := ⟨by decide +kernel, rfl⟩
theorem eX5_valueF_9 : sl_D YX5_valueF 9 (.iaload) 1 10 := ⟨by decide +kernel, rfl⟩
theorem eX5_valueF_10 : sl_D YX5_valueF 10 (.iaload) 1 11 := ⟨by decide +kernel, rfl⟩
theorem eX5_valueF_11 : sl_D YX5_valueF 11 (.ireturn) 1 12 := ⟨by decide +kernel, rfl⟩
theorem eX5_valueG_0 : sl_D YX5_valueG 0 (.aload_n 0) 1 1 := ⟨by decide +kernel, rfl⟩
theorem eX5_valueG_1 : sl_D YX5_valueG 1 (.getfield 24) 3 4 := ⟨by decide +kernel, rfl⟩
theorem eX5_valueG_4 : sl_D YX5_valueG 4 (.aload_n 0) 1 5 := ⟨by decide +kernel, rfl⟩
theorem eX5_valueG_5 : sl_D YX5_valueG 5 (.getfield 15) 3 8 := ⟨by decide +kernel, rfl⟩
theorem eX5_valueG_8 : sl_D YX5_valueG 8 (.bipush 16) 2 10 := ⟨by decide +kernel, rfl⟩
theorem eX5_valueG_10 : sl_D YX5_valueG 10 (.iload_n 1) 1 11 := ⟨by decide +kernel, rfl⟩
theorem eX5_valueG_11 : sl_D YX5_valueG 11 (.iadd) 1 12 := ⟨by decide +kernel, rfl⟩
theorem eX5_valueG_12 : sl_D YX5_valueG 12 (.iaload) 1 13 := ⟨by decide +kernel, rfl⟩
theorem eX5_valueG_13 : sl_D YX5_valueG 13 (.iaload) 1 14 := ⟨by decide +kernel, rfl⟩
theorem eX5_valueG_14 : sl_D YX5_valueG 14 (.ireturn) 1 15 := ⟨by decide +kernel, rfl⟩
theorem eX5_compared_0 : sl_D YX5_compared 0 (.aload_n 0) 1 1 := ⟨by decide +kernel, rfl⟩
theorem eX5_compared_1 : sl_D YX5_compared 1 (.iload_n 1) 1 2 := ⟨by decide +kernel, rfl⟩
theorem eX5_compared_2 : sl_D YX5_compared 2 (.invokevirtual 93) 3 5 := ⟨by decide +kernel, rfl⟩
theorem eX5_compared_5 : sl_D YX5_compared 5 (.istore_n 3) 1 6 := ⟨by decide +kernel, rfl⟩
theorem eX5_compared_6 : sl_D YX5_compared 6 (.aload_n 0) 1 7 := ⟨by decide +kernel, rfl⟩
theorem eX5_compared_7 : sl_D YX5_compared 7 (.iload_n 2) 1 8 := ⟨by decide +kernel, rfl⟩
theorem eX5_compared_8 : sl_D YX5_compared 8 (.invokevirtual 96) 3 11 := ⟨by decide +kernel, rfl⟩
theorem eX5_compared_11 : sl_D YX5_compared 11 (.istore 4) 2 13 := ⟨by decide +kernel, rfl⟩
theorem eX5_compared_13 : sl_D YX5_compared 13 (.iload_n 3) 1 14 := ⟨by decide +kernel, rfl⟩
theorem eX5_compared_14 : sl_D YX5_compared 14 (.iload 4) 2 16 := ⟨by decide +kernel, rfl⟩
theorem eX5_compared_16 : sl_B YX5_compared 16 (fun o => .if_icmp .ge o) 19 23 := ⟨7, by decide +kernel, rfl, by decide⟩
theorem eX5_compared_19 : sl_D YX5_compared 19 (.iconst 1) 1 20 := ⟨by decide +kernel, rfl⟩
theorem eX5_compared_20 : sl_B YX5_compared 20 (fun o => .goto o) 23 34 := ⟨14, by decide +kernel, rfl, by decide⟩
theorem eX5_compared_23 : sl_D YX5_compared 23 (.iload_n 3) 1 24 := ⟨by decide +kernel, rfl⟩
theorem eX5_compared_24 : sl_D YX5_compared 24 (.iload 4) 2 26 := ⟨by decide +kernel, rfl⟩
theorem eX5_compared_26 : sl_B YX5_compared 26 (fun o => .if_icmp .ne o) 29 33 := ⟨7, by decide +kernel, rfl, by decide⟩
theorem eX5_compared_29 : sl_D YX5_compared 29 (.iconst 2) 1 30 := ⟨by decide +kernel, rfl⟩
theorem eX5_compared_30 : sl_B YX5_compared 30 (fun o => .goto o) 33 34 := ⟨4, by decide +kernel, rfl, by decide⟩
theorem eX5_compared_33 : sl_D YX5_compared 33 (.iconst 4) 1 34 := ⟨by decide +kernel, rfl⟩
theorem eX5_compared_34 : sl_D YX5_compared 34 (.ireturn) 1 35 := ⟨by decide +kernel, rfl⟩
theorem eX5_greatest_0 : sl_D YX5_greatest 0 (.iconst 0) 1 1 := ⟨by decide +kernel, rfl⟩
theorem eX5_greatest_1 : sl_D YX5_greatest 1 (.istore_n 1) 1 2 := ⟨by decide +kernel, rfl⟩
theorem eX5_greatest_2 : sl_D YX5_greatest 2 (.iconst 0) 1 3 := ⟨by decide +kernel, rfl⟩
theorem eX5_greatest_3 : sl_D YX5_greatest 3 (.istore_n 2) 1 4 := ⟨by decide +kernel, rfl⟩
theorem eX5_greatest_4 : sl_D YX5_greatest 4 (.iload_n 2) 1 5 := ⟨by decide +kernel, rfl⟩
theorem eX5_greatest_5 : sl_D YX5_greatest 5 (.aload_n 0) 1 6 := ⟨by decide +kernel, rfl⟩
theorem eX5_greatest_6 : sl_D YX5_greatest 6 (.getfield 36) 3 9 := ⟨by decide +kernel, rfl⟩
theorem eX5_greatest_9 : sl_B YX5_greatest 9 (fun o => .if_icmp .gt o) 12 36 := ⟨27, by decide +kernel, rfl, by decide⟩
theorem eX5_greatest_12 : sl_D YX5_greatest 12 (.iload_n 1) 1 13 := ⟨by decide +kernel, rfl⟩
theorem eX5_greatest_13 : sl_D YX5_greatest 13 (.aload_n 0) 1 14 := ⟨by decide +kernel, rfl⟩
theorem eX5_greatest_14 : sl_D YX5_greatest 14 (.iload_n 2) 1 15 := ⟨by decide +kernel, rfl⟩
theorem eX5_greatest_15 : sl_D YX5_greatest 15 (.invokevirtual 93) 3 18 := ⟨by decide +kernel, rfl⟩
theorem eX5_greatest_18 : sl_D YX5_greatest 18 (.aload_n 0) 1 19 := ⟨by decide +kernel, rfl⟩
theorem eX5_greatest_19 : sl_D YX5_greatest 19 (.iload_n 2) 1 20 := ⟨by decide +kernel, rfl⟩
theorem eX5_greatest_20 : sl_D YX5_greatest 20 (.invokevirtual 96) 3 23 := ⟨by decide +kernel, rfl⟩
theorem eX5_greatest_23 : sl_D YX5_greatest 23 (.invokestatic 69) 3 26 := ⟨by decide +kernel, rfl⟩
theorem eX5_greatest_26 : sl_D YX5_greatest 26 (.invokestatic 69) 3 29 := ⟨by decide +kernel, rfl⟩
theorem eX5_greatest_29 : sl_D YX5_greatest 29 (.istore_n 1) 1 30 := ⟨by decide +kernel, rfl⟩
theorem eX5_greatest_30 : sl_D YX5_greatest 30 (.iinc 2 1) 3 33 := ⟨by decide +kernel, rfl⟩
theorem eX5_greatest_33 : sl_B YX5_greatest 33 (fun o => .goto o) 36 4 := ⟨-29, by decide +kernel, rfl, by decide⟩
theorem eX5_greatest_36 : sl_D YX5_greatest 36 (.iload_n 1) 1 37 := ⟨by decide +kernel, rfl⟩
theorem eX5_greatest_37 : sl_D YX5_greatest 37 (.ireturn) 1 38 := ⟨by decide +kernel, rfl⟩
theorem eX5_knotCount_0 : sl_D YX5_knotCount 0 (.iconst 0) 1 1 := ⟨by decide +kernel, rfl⟩
theorem eX5_knotCount_1 : sl_D YX5_knotCount 1 (.istore_n 1) 1 2 := ⟨by decide +kernel, rfl⟩
theorem eX5_knotCount_2 : sl_D YX5_knotCount 2 (.iconst 0) 1 3 := ⟨by decide +kernel, rfl⟩
theorem eX5_knotCount_3 : sl_D YX5_knotCount 3 (.istore_n 2) 1 4 := ⟨by decide +kernel, rfl⟩
theorem eX5_knotCount_4 : sl_D YX5_knotCount 4 (.iload_n 2) 1 5 := ⟨by decide +kernel, rfl⟩
theorem eX5_knotCount_5 : sl_D YX5_knotCount 5 (.aload_n 0) 1 6 := ⟨by decide +kernel, rfl⟩
theorem eX5_knotCount_6 : sl_D YX5_knotCount 6 (.getfield 36) 3 9 := ⟨by decide +kernel, rfl⟩
theorem eX5_knotCount_9 : sl_B YX5_knotCount 9 (fun o => .if_icmp .gt o) 12 50 := ⟨41, by decide +kernel, rfl, by decide⟩
theorem eX5_knotCount_12 : sl_D YX5_knotCount 12 (.aload_n 0) 1 13 := ⟨by decide +kernel, rfl⟩
theorem eX5_knotCount_13 : sl_D YX5_knotCount 13 (.getfield 15) 3 16 := ⟨by decide +kernel, rfl⟩
theorem eX5_knotCount_16 : sl_D YX5_knotCount 16 (.iload_n 2) 1 17 := ⟨by decide +kernel, rfl⟩
theorem eX5_knotCount_17 : sl_D YX5_knotCount 17 (.iaload) 1 18 := ⟨by decide +kernel, rfl⟩
theorem eX5_knotCount_18 : sl_D YX5_knotCount 18 (.iload_n 2) 1 19 := ⟨by decide +kernel, rfl⟩
theorem eX5_knotCount_19 : sl_B YX5_knotCount 19 (fun o => .if_icmp .ne o) 22 25 := ⟨6, by decide +kernel, rfl, by decide⟩
theorem eX5_knotCount_22 : sl_D YX5_knotCount 22 (.iinc 1 1) 3 25 := ⟨by decide +kernel, rfl⟩
theorem eX5_knotCount_25 : sl_D YX5_knotCount 25 (.aload_n 0) 1 26 := ⟨by decide +kernel, rfl⟩
theorem eX5_knotCount_26 : sl_D YX5_knotCount 26 (.getfield 15) 3 29 := ⟨by decide +kernel, rfl⟩
theorem eX5_knotCount_29 : sl_D YX5_knotCount 29 (.bipush 16) 2 31 := ⟨by decide +kernel, rfl⟩
theorem eX5_knotCount_31 : sl_D YX5_knotCount 31 (.iload_n 2) 1 32 := ⟨by decide +kernel, rfl⟩
theorem eX5_knotCount_32 : sl_D YX5_knotCount 32 (.iadd) 1 33 := ⟨by decide +kernel, rfl⟩
theorem eX5_knotCount_33 : sl_D YX5_knotCount 33 (.iaload) 1 34 := ⟨by decide +kernel, rfl⟩
theorem eX5_knotCount_34 : sl_D YX5_knotCount 34 (.bipush 16) 2 36 := ⟨by decide +kernel, rfl⟩
theorem eX5_knotCount_36 : sl_D YX5_knotCount 36 (.iload_n 2) 1 37 := ⟨by decide +kernel, rfl⟩
theorem eX5_knotCount_37 : sl_D YX5_knotCount 37 (.iadd) 1 38 := ⟨by decide +kernel, rfl⟩
theorem eX5_knotCount_38 : sl_B YX5_knotCount 38 (fun o => .if_icmp .ne o) 41 44 := ⟨6, by decide +kernel, rfl, by decide⟩
theorem eX5_knotCount_41 : sl_D YX5_knotCount 41 (.iinc 1 1) 3 44 := ⟨by decide +kernel, rfl⟩
theorem eX5_knotCount_44 : sl_D YX5_knotCount 44 (.iinc 2 1) 3 47 := ⟨by decide +kernel, rfl⟩
theorem eX5_knotCount_47 : sl_B YX5_knotCount 47 (fun o => .goto o) 50 4 := ⟨-43, by decide +kernel, rfl, by decide⟩
theorem eX5_knotCount_50 : sl_D YX5_knotCount 50 (.iload_n 1) 1 51 := ⟨by decide +kernel, rfl⟩
theorem eX5_knotCount_51 : sl_D YX5_knotCount 51 (.ireturn) 1 52 := ⟨by decide +kernel, rfl⟩
theorem eX6_init_0 : sl_D YX6_init 0 (.aload_n 0) 1 1 := ⟨by decide +kernel, rfl⟩
theorem eX6_init_1 : sl_D YX6_init 1 (.invokespecial 3) 3 4 := ⟨by decide +kernel, rfl⟩
theorem eX6_init_4 : sl_D YX6_init 4 (.aload_n 0) 1 5 := ⟨by decide +kernel, rfl⟩
theorem eX6_init_5 : sl_D YX6_init 5 (.bipush 60) 2 7 := ⟨by decide +kernel, rfl⟩
theorem eX6_init_7 : sl_D YX6_init 7 (.newarray .int) 2 9 := ⟨by decide +kernel, rfl⟩
theorem eX6_init_9 : sl_D YX6_init 9 (.putfield 9) 3 12 := ⟨by decide +kernel, rfl⟩
theorem eX6_init_12 : sl_D YX6_init 12 (.aload_n 0) 1 13 := ⟨by decide +kernel, rfl⟩
theorem eX6_init_13 : sl_D YX6_init 13 (.bipush 60) 2 15 := ⟨by decide +kernel, rfl⟩
theorem eX6_init_15 : sl_D YX6_init 15 (.newarray .int) 2 17 := ⟨by decide +kernel, rfl⟩
theorem eX6_init_17 : sl_D YX6_init 17 (.putfield 15) 3 20 := ⟨by decide +kernel, rfl⟩
theorem eX6_init_20 : sl_D YX6_init 20 (.aload_n 0) 1 21 := ⟨by decide +kernel, rfl⟩
theorem eX6_init_21 : sl_D YX6_init 21 (.bipush 60) 2 23 := ⟨by decide +kernel, rfl⟩
theorem eX6_init_23 : sl_D YX6_init 23 (.newarray .int) 2 25 := ⟨by decide +kernel, rfl⟩
theorem eX6_init_25 : sl_D YX6_init 25 (.putfield 18) 3 28 := ⟨by decide +kernel, rfl⟩
theorem eX6_init_28 : sl_D YX6_init 28 (.aload_n 0) 1 29 := ⟨by decide +kernel, rfl⟩
theorem eX6_init_29 : sl_D YX6_init 29 (.bipush 60) 2 31 := ⟨by decide +kernel, rfl⟩
theorem eX6_init_31 : sl_D YX6_init 31 (.newarray .int) 2 33 := ⟨by decide +kernel, rfl⟩
theorem eX6_init_33 : sl_D YX6_init 33 (.putfield 21) 3 36 := ⟨by decide +kernel, rfl⟩
theorem eX6_init_36 : sl_D YX6_init 36 (.aload_n 0) 1 37 := ⟨by decide +kernel, rfl⟩
theorem eX6_init_37 : sl_D YX6_init 37 (.bipush 60) 2 39 := ⟨by decide +kernel, rfl⟩
theorem eX6_init_39 : sl_D YX6_init 39 (.newarray .int) 2 41 := ⟨by decide +kernel, rfl⟩
theorem eX6_init_41 : sl_D YX6_init 41 (.putfield 24) 3 44 := ⟨by decide +kernel, rfl⟩
theorem eX6_init_44 : sl_D YX6_init 44 (.aload_n 0) 1 45 := ⟨by decide +kernel, rfl⟩
theorem eX6_init_45 : sl_D YX6_init 45 (.bipush 60) 2 47 := ⟨by decide +kernel, rfl⟩
theorem eX6_init_47 : sl_D YX6_init 47 (.newarray .boolean) 2 49 := ⟨by decide +kernel, rfl⟩
theorem eX6_init_49 : sl_D YX6_init 49 (.putfield 27) 3 52 := ⟨by decide +kernel, rfl⟩
theorem eX6_init_52 : sl_D YX6_init 52 (.aload_n 0) 1 53 := ⟨by decide +kernel, rfl⟩
theorem eX6_init_53 : sl_D YX6_init 53 (.bipush 60) 2 55 := ⟨by decide +kernel, rfl⟩
theorem eX6_init_55 : sl_D YX6_init 55 (.newarray .int) 2 57 := ⟨by decide +kernel, rfl⟩
theorem eX6_init_57 : sl_D YX6_init 57 (.putfield 31) 3 60 := ⟨by decide +kernel, rfl⟩
theorem eX6_init_60 : sl_D YX6_init 60 (.return_) 1 61 := ⟨by decide +kernel, rfl⟩
theorem eX6_isFull_0 : sl_D YX6_isFull 0 (.aload_n 0) 1 1 := ⟨by decide +kernel, rfl⟩
theorem eX6_isFull_1 : sl_D YX6_isFull 1 (.getfield 34) 3 4 := ⟨by decide +kernel, rfl⟩
theorem eX6_isFull_4 : sl_D YX6_isFull 4 (.bipush 60) 2 6 := ⟨by decide +kernel, rfl⟩
theorem eX6_isFull_6 : sl_B YX6_isFull 6 (fun o => .if_icmp .lt o) 9 13 := ⟨7, by decide +kernel, rfl, by decide⟩
theorem eX6_isFull_9 : sl_D YX6_isFull 9 (.iconst 1) 1 10 := ⟨by decide +kernel, rfl⟩
theorem eX6_isFull_10 : sl_B YX6_isFull 10 (fun o => .goto o) 13 14 := ⟨4, by decide +kernel, rfl, by decide⟩
theorem eX6_isFull_13 : sl_D YX6_isFull 13 (.iconst 0) 1 14 := ⟨by decide +kernel, rfl⟩
theorem eX6_isFull_14 : sl_D YX6_isFull 14 (.ireturn) 1 15 := ⟨by decide +kernel, rfl⟩
theorem eX6_add_0 : sl_D YX6_add 0 (.aload_n 0) 1 1 := ⟨by decide +kernel, rfl⟩
theorem eX6_add_1 : sl_D YX6_add 1 (.getfield 9) 3 4 := ⟨by decide +kernel, rfl⟩
theorem eX6_add_4 : sl_D YX6_add 4 (.aload_n 0) 1 5 := ⟨by decide +kernel, rfl⟩
theorem eX6_add_5 : sl_D YX6_add 5 (.getfield 34) 3 8 := ⟨by decide +kernel, rfl⟩
theorem eX6_add_8 : sl_D YX6_add 8 (.iload_n 1) 1 9 := ⟨by decide +kernel, rfl⟩
theorem eX6_add_9 : sl_D YX6_add 9 (.iastore) 1 10 := ⟨by decide +kernel, rfl⟩
theorem eX6_add_10 : sl_D YX6_add 10 (.aload_n 0) 1 11 := ⟨by decide +kernel, rfl⟩
theorem eX6_add_11 : sl_D YX6_add 11 (.getfield 15) 3 14 := ⟨by decide +kernel, rfl⟩
theorem eX6_add_14 : sl_D YX6_add 14 (.aload_n 0) 1 15 := ⟨by decide +kernel, rfl⟩
theorem eX6_add_15 : sl_D YX6_add 15 (.getfield 34) 3 18 := ⟨by decide +kernel, rfl⟩
theorem eX6_add_18 : sl_D YX6_add 18 (.iload_n 2) 1 19 := ⟨by decide +kernel, rfl⟩
theorem eX6_add_19 : sl_D YX6_add 19 (.iastore) 1 20 := ⟨by decide +kernel, rfl⟩
theorem eX6_add_20 : sl_D YX6_add 20 (.aload_n 0) 1 21 := ⟨by decide +kernel, rfl⟩
theorem eX6_add_21 : sl_D YX6_add 21 (.getfield 18) 3 24 := ⟨by decide +kernel, rfl⟩
theorem eX6_add_24 : sl_D YX6_add 24 (.aload_n 0) 1 25 := ⟨by decide +kernel, rfl⟩
theorem eX6_add_25 : sl_D YX6_add 25 (.getfield 34) 3 28 := ⟨by decide +kernel, rfl⟩
theorem eX6_add_28 : sl_D YX6_add 28 (.iload_n 3) 1 29 := ⟨by decide +kernel, rfl⟩
theorem eX6_add_29 : sl_D YX6_add 29 (.iastore) 1 30 := ⟨by decide +kernel, rfl⟩
theorem eX6_add_30 : sl_D YX6_add 30 (.aload_n 0) 1 31 := ⟨by decide +kernel, rfl⟩
theorem eX6_add_31 : sl_D YX6_add 31 (.getfield 21) 3 34 := ⟨by decide +kernel, rfl⟩
theorem eX6_add_34 : sl_D YX6_add 34 (.aload_n 0) 1 35 := ⟨by decide +kernel, rfl⟩
theorem eX6_add_35 : sl_D YX6_add 35 (.getfield 34) 3 38 := ⟨by decide +kernel, rfl⟩
theorem eX6_add_38 : sl_D YX6_add 38 (.iconst 1) 1 39 := ⟨by decide +kernel, rfl⟩
theorem eX6_add_39 : sl_D YX6_add 39 (.aload_n 0) 1 40 := ⟨by decide +kernel, rfl⟩
theorem eX6_add_40 : sl_D YX6_add 40 (.iload_n 2) 1 41 := ⟨by decide +kernel, rfl⟩
theorem eX6_add_41 : sl_D YX6_add 41 (.invokevirtual 38) 3 44 := ⟨by decide +kernel, rfl⟩
theorem eX6_add_44 : sl_D YX6_add 44 (.aload_n 0) 1 45 := ⟨by decide +kernel, rfl⟩
theorem eX6_add_45 : sl_D YX6_add 45 (.iload_n 3) 1 46 := ⟨by decide +kernel, rfl⟩
theorem eX6_add_46 : sl_D YX6_add 46 (.invokevirtual 38) 3 49 := ⟨by decide +kernel, rfl⟩
theorem eX6_add_49 : sl_D YX6_add 49 (.invokestatic 42) 3 52 := ⟨by decide +kernel, rfl⟩
theorem eX6_add_52 : sl_D YX6_add 52 (.iadd) 1 53 := ⟨by decide +kernel, rfl⟩
theorem eX6_add_53 : sl_D YX6_add 53 (.iastore) 1 54 := ⟨by decide +kernel, rfl⟩
theorem eX6_add_54 : sl_D YX6_add 54 (.aload_n 0) 1 55 := ⟨by decide +kernel, rfl⟩
theorem eX6_add_55 : sl_D YX6_add 55 (.getfield 24) 3 58 := ⟨by decide +kernel, rfl⟩
theorem eX6_add_58 : sl_D YX6_add 58 (.aload_n 0) 1 59 := ⟨by decide +kernel, rfl⟩
theorem eX6_add_59 : sl_D YX6_add 59 (.getfield 34) 3 62 := ⟨by decide +kernel, rfl⟩
theorem eX6_add_62 : sl_D YX6_add 62 (.iconst 1) 1 63 := ⟨by decide +kernel, rfl⟩
theorem eX6_add_63 : sl_D YX6_add 63 (.aload_n 0) 1 64 := ⟨by decide +kernel, rfl⟩
theorem eX6_add_64 : sl_D YX6_add 64 (.iload_n 2) 1 65 := ⟨by decide +kernel, rfl⟩
theorem eX6_add_65 : sl_D YX6_add 65 (.invokevirtual 48) 3 68 := ⟨by decide +kernel, rfl⟩
theorem eX6_add_68 : sl_D YX6_add 68 (.iadd) 1 69 := ⟨by decide +kernel, rfl⟩
theorem eX6_add_69 : sl_D YX6_add 69 (.aload_n 0) 1 70 := ⟨by decide +kernel, rfl⟩
theorem eX6_add_70 : sl_D YX6_add 70 (.iload_n 3) 1 71 := ⟨by decide +kernel, rfl⟩
theorem eX6_add_71 : sl_D YX6_add 71 (.invokevirtual 48) 3 74 := ⟨by decide +kernel, rfl⟩
theorem eX6_add_74 : sl_D YX6_add 74 (.iadd) 1 75 := ⟨by decide +kernel, rfl⟩
theorem eX6_add_75 : sl_D YX6_add 75 (.iastore) 1 76 := ⟨by decide +kernel, rfl⟩
theorem eX6_add_76 : sl_D YX6_add 76 (.aload_n 0) 1 77 := ⟨by decide +kernel, rfl⟩
theorem eX6_add_77 : sl_D YX6_add 77 (.getfield 27) 3 80 := ⟨by decide +kernel, rfl⟩
theorem eX6_add_80 : sl_D YX6_add 80 (.aload_n 0) 1 81 := ⟨by decide +kernel, rfl⟩
theorem eX6_add_81 : sl_D YX6_add 81 (.getfield 34) 3 84 := ⟨by decide +kernel, rfl⟩
theorem eX6_add_84 : sl_D YX6_add 84 (.iload 4) 2 86 := ⟨by decide +kernel, rfl⟩
theorem eX6_add_86 : sl_D YX6_add 86 (.bastore) 1 87 := ⟨by decide +kernel, rfl⟩
theorem eX6_add_87 : sl_D YX6_add 87 (.aload_n 0) 1 88 := ⟨by decide +kernel, rfl⟩
theorem eX6_add_88 : sl_D YX6_add 88 (.getfield 31) 3 91 := ⟨by decide +kernel, rfl⟩
theorem eX6_add_91 : sl_D YX6_add 91 (.aload_n 0) 1 92 := ⟨by decide +kernel, rfl⟩
theorem eX6_add_92 : sl_D YX6_add 92 (.getfield 34) 3 95 := ⟨by decide +kernel, rfl⟩
theorem eX6_add_95 : sl_D YX6_add 95 (.iload 5) 2 97 := ⟨by decide +kernel, rfl⟩
theorem eX6_add_97 : sl_D YX6_add 97 (.iastore) 1 98 := ⟨by decide +kernel, rfl⟩
theorem eX6_add_98 : sl_D YX6_add 98 (.aload_n 0) 1 99 := ⟨by decide +kernel, rfl⟩
theorem eX6_add_99 : sl_D YX6_add 99 (.dup) 1 100 := ⟨by decide +kernel, rfl⟩
theorem eX6_add_100 : sl_D YX6_add 100 (.getfield 34) 3 103 := ⟨by decide +kernel, rfl⟩
theorem eX6_add_103 : sl_D YX6_add 103 (.iconst 1) 1 104 := ⟨by decide +kernel, rfl⟩
theorem eX6_add_104 : sl_D YX6_add 104 (.iadd) 1 105 := ⟨by decide +kernel, rfl⟩
theorem eX6_add_105 : sl_D YX6_add 105 (.putfield 34) 3 108 := ⟨by decide +kernel, rfl⟩
theorem eX6_add_108 : sl_D YX6_add 108 (.return_) 1 109 := ⟨by decide +kernel, rfl⟩
theorem eX6_depthOf_0 : sl_D YX6_depthOf 0 (.iload_n 1) 1 1 := ⟨by decide +kernel, rfl⟩
theorem eX6_depthOf_1 : sl_B YX6_depthOf 1 (fun o => .ifCond .lt o) 4 13 := ⟨12, by decide +kernel, rfl, by decide⟩
theorem eX6_depthOf_4 : sl_D YX6_depthOf 4 (.aload_n 0) 1 5 := ⟨by decide +kernel, rfl⟩
theorem eX6_depthOf_5 : sl_D YX6_depthOf 5 (.getfield 21) 3 8 := ⟨by decide +kernel, rfl⟩
theorem eX6_depthOf_8 : sl_D YX6_depthOf 8 (.iload_n 1) 1 9 := ⟨by decide +kernel, rfl⟩
theorem eX6_depthOf_9 : sl_D YX6_depthOf 9 (.iaload) 1 10 := ⟨by decide +kernel, rfl⟩
theorem eX6_depthOf_10 : sl_B YX6_depthOf 10 (fun o => .goto o) 13 14 := ⟨4, by decide +kernel, rfl, by decide⟩
theorem eX6_depthOf_13 : sl_D YX6_depthOf 13 (.iconst 0) 1 14 := ⟨by decide +kernel, rfl⟩
theorem eX6_depthOf_14 : sl_D YX6_depthOf 14 (.ireturn) 1 15 := ⟨by decide +kernel, rfl⟩
theorem eX6_sizeOf_0 : sl_D YX6_sizeOf 0 (.iload_n 1) 1 1 := ⟨by decide +kernel, rfl⟩
theorem eX6_sizeOf_1 : sl_B YX6_sizeOf 1 (fun o => .ifCond .lt o) 4 13 := ⟨12, by decide +kernel, rfl, by decide⟩
theorem eX6_sizeOf_4 : sl_D YX6_sizeOf 4 (.aload_n 0) 1 5 := ⟨by decide +kernel, rfl⟩
theorem eX6_sizeOf_5 : sl_D YX6_sizeOf 5 (.getfield 24) 3 8 := ⟨by decide +kernel, rfl⟩
theorem eX6_sizeOf_8 : sl_D YX6_sizeOf 8 (.iload_n 1) 1 9 := ⟨by decide +kernel, rfl⟩
theorem eX6_sizeOf_9 : sl_D YX6_sizeOf 9 (.iaload) 1 10 := ⟨by decide +kernel, rfl⟩
theorem eX6_sizeOf_10 : sl_B YX6_sizeOf 10 (fun o => .goto o) 13 14 := ⟨4, by decide +kernel, rfl, by decide⟩
theorem eX6_sizeOf_13 : sl_D YX6_sizeOf 13 (.iconst 0) 1 14 := ⟨by decide +kernel, rfl⟩
theorem eX6_sizeOf_14 : sl_D YX6_sizeOf 14 (.ireturn) 1 15 := ⟨by decide +kernel, rfl⟩
theorem eX6_below_0 : sl_D YX6_below 0 (.iload_n 1) 1 1 := ⟨by decide +kernel, rfl⟩
theorem eX6_below_1 : sl_D YX6_below 1 (.istore_n 3) 1 2 := ⟨by decide +kernel, rfl⟩
theorem eX6_below_2 : sl_D YX6_below 2 (.iload_n 2) 1 3 := ⟨by decide +kernel, rfl⟩
theorem eX6_below_3 : sl_D YX6_below 3 (.istore 4) 2 5 := ⟨by decide +kernel, rfl⟩
theorem eX6_below_5 : sl_D YX6_below 5 (.iconst 0) 1 6 := ⟨by decide +kernel, rfl⟩
theorem eX6_below_6 : sl_D YX6_below 6 (.istore 5) 2 8 := ⟨by decide +kernel, rfl⟩
theorem eX6_below_8 : sl_D YX6_below 8 (.iload 5) 2 10 := ⟨by decide +kernel, rfl⟩
theorem eX6_below_10 : sl_D YX6_below 10 (.bipush 60) 2 12 := ⟨by decide +kernel, rfl⟩
theorem eX6_below_12 : sl_B YX6_below 12 (fun o => .if_icmp .ge o) 15 78 := ⟨66, by decide +kernel, rfl, by decide⟩
theorem eX6_below_15 : sl_D YX6_below 15 (.iload 4) 2 17 := ⟨by decide +kernel, rfl⟩
theorem eX6_below_17 : sl_B YX6_below 17 (fun o => .ifCond .le o) 20 78 := ⟨61, by decide +kernel, rfl, by decide⟩
theorem eX6_below_20 : sl_D YX6_below 20 (.iload_n 3) 1 21 := ⟨by decide +kernel, rfl⟩
theorem eX6_below_21 : sl_B YX6_below 21 (fun o => .ifCond .lt o) 24 78 := ⟨57, by decide +kernel, rfl, by decide⟩
theorem eX6_below_24 : sl_D YX6_below 24 (.aload_n 0) 1 25 := ⟨by decide +kernel, rfl⟩
theorem eX6_below_25 : sl_D YX6_below 25 (.aload_n 0) 1 26 := ⟨by decide +kernel, rfl⟩
theorem eX6_below_26 : sl_D YX6_below 26 (.getfield 15) 3 29 := ⟨by decide +kernel, rfl⟩
theorem eX6_below_29 : sl_D YX6_below 29 (.iload_n 3) 1 30 := ⟨by decide +kernel, rfl⟩
theorem eX6_below_30 : sl_D YX6_below 30 (.iaload) 1 31 := ⟨by decide +kernel, rfl⟩
theorem eX6_below_31 : sl_D YX6_below 31 (.invokevirtual 48) 3 34 := ⟨by decide +kernel, rfl⟩
theorem eX6_below_34 : sl_D YX6_below 34 (.istore 6) 2 36 := ⟨by decide +kernel, rfl⟩
theorem eX6_below_36 : sl_D YX6_below 36 (.iload 4) 2 38 := ⟨by decide +kernel, rfl⟩
theorem eX6_below_38 : sl_D YX6_below 38 (.iload 6) 2 40 := ⟨by decide +kernel, rfl⟩
theorem eX6_below_40 : sl_B YX6_below 40 (fun o => .if_icmp .gt o) 43 56 := ⟨16, by decide +kernel, rfl, by decide⟩
theorem eX6_below_43 : sl_D YX6_below 43 (.aload_n 0) 1 44 := ⟨by decide +kernel, rfl⟩
theorem eX6_below_44 : sl_D YX6_below 44 (.getfield 15) 3 47 := ⟨by decide +kernel, rfl⟩
theorem eX6_below_47 : sl_D YX6_below 47 (.iload_n 3) 1 48 := ⟨by decide +kernel, rfl⟩
theorem eX6_below_48 : sl_D YX6_below 48 (.iaload) 1 49 := ⟨by decide +kernel, rfl⟩
theorem eX6_below_49 : sl_D YX6_below 49 (.istore_n 3) 1 50 := ⟨by decide +kernel, rfl⟩
theorem eX6_below_50 : sl_D YX6_below 50 (.iinc 4 (-1)) 3 53 := ⟨by decide +kernel, rfl⟩
theorem eX6_below_53 : sl_B YX6_below 53 (fun o => .goto o) 56 72 := ⟨19, by decide +kernel, rfl, by decide⟩
theorem eX6_below_56 : sl_D YX6_below 56 (.aload_n 0) 1 57 := ⟨by decide +kernel, rfl⟩
theorem eX6_below_57 : sl_D YX6_below 57 (.getfield 18) 3 60 := ⟨by decide +kernel, rfl⟩
theorem eX6_below_60 : sl_D YX6_below 60 (.iload_n 3) 1 61 := ⟨by decide +kernel, rfl⟩
theorem eX6_below_61 : sl_D YX6_below 61 (.iaload) 1 62 := ⟨by decide +kernel, rfl⟩
theorem eX6_below_62 : sl_D YX6_below 62 (.istore_n 3) 1 63 := ⟨by decide +kernel, rfl⟩
theorem eX6_below_63 : sl_D YX6_below 63 (.iload 4) 2 65 := ⟨by decide +kernel, rfl⟩
theorem eX6_below_65 : sl_D YX6_below 65 (.iconst 1) 1 66 := ⟨by decide +kernel, rfl⟩
theorem eX6_below_66 : sl_D YX6_below 66 (.iload 6) 2 68 := ⟨by decide +kernel, rfl⟩
theorem eX6_below_68 : sl_D YX6_below 68 (.iadd) 1 69 := ⟨by decide +kernel, rfl⟩
theorem eX6_below_69 : sl_D YX6_below 69 (.isub) 1 70 := ⟨by decide +kernel, rfl⟩
theorem eX6_below_70 : sl_D YX6_below 70 (.istore 4) 2 72 := ⟨by decide +kernel, rfl⟩
theorem eX6_below_72 : sl_D YX6_below 72 (.iinc 5 1) 3 75 := ⟨by decide +kernel, rfl⟩
theorem eX6_below_75 : sl_B YX6_below 75 (fun o => .goto o) 78 8 := ⟨-67, by decide +kernel, rfl, by decide⟩
theorem eX6_below_78 : sl_D YX6_below 78 (.iload_n 3) 1 79 := ⟨by decide +kernel, rfl⟩
theorem eX6_below_79 : sl_D YX6_below 79 (.ireturn) 1 80 := ⟨by decide +kernel, rfl⟩
theorem eX7_init_0 : sl_D YX7_init 0 (.aload_n 0) 1 1 := ⟨by decide +kernel, rfl⟩
theorem eX7_init_1 : sl_D YX7_init 1 (.invokespecial 3) 3 4 := ⟨by decide +kernel, rfl⟩
theorem eX7_init_4 : sl_D YX7_init 4 (.aload_n 0) 1 5 := ⟨by decide +kernel, rfl⟩
theorem eX7_init_5 : sl_D YX7_init 5 (.new 9) 3 8 := ⟨by decide +kernel, rfl⟩
theorem eX7_init_8 : sl_D YX7_init 8 (.dup) 1 9 := ⟨by decide +kernel, rfl⟩
theorem eX7_init_9 : sl_D YX7_init 9 (.invokespecial 11) 3 12 := ⟨by decide +kernel, rfl⟩
theorem eX7_init_12 : sl_D YX7_init 12 (.putfield 12) 3 15 := ⟨by decide +kernel, rfl⟩
theorem eX7_init_15 : sl_D YX7_init 15 (.aload_n 0) 1 16 := ⟨by decide +kernel, rfl⟩
theorem eX7_init_16 : sl_D YX7_init 16 (.bipush 16) 2 18 := ⟨by decide +kernel, rfl⟩
theorem eX7_init_18 : sl_D YX7_init 18 (.newarray .int) 2 20 := ⟨by decide +kernel, rfl⟩
theorem eX7_init_20 : sl_D YX7_init 20 (.putfield 18) 3 23 := ⟨by decide +kernel, rfl⟩
theorem eX7_init_23 : sl_D YX7_init 23 (.aload_n 0) 1 24 := ⟨by decide +kernel, rfl⟩
theorem eX7_init_24 : sl_D YX7_init 24 (.bipush 16) 2 26 := ⟨by decide +kernel, rfl⟩
theorem eX7_init_26 : sl_D YX7_init 26 (.newarray .int) 2 28 := ⟨by decide +kernel, rfl⟩
theorem eX7_init_28 : sl_D YX7_init 28 (.putfield 22) 3 31 := ⟨by decide +kernel, rfl⟩
theorem eX7_init_31 : sl_D YX7_init 31 (.aload_n 0) 1 32 := ⟨by decide +kernel, rfl⟩
theorem eX7_init_32 : sl_D YX7_init 32 (.bipush 16) 2 34 := ⟨by decide +kernel, rfl⟩
theorem eX7_init_34 : sl_D YX7_init 34 (.newarray .int) 2 36 := ⟨by decide +kernel, rfl⟩
theorem eX7_init_36 : sl_D YX7_init 36 (.putfield 25) 3 39 := ⟨by decide +kernel, rfl⟩
theorem eX7_init_39 : sl_D YX7_init 39 (.aload_n 0) 1 40 := ⟨by decide +kernel, rfl⟩
theorem eX7_init_40 : sl_D YX7_init 40 (.new 28) 3 43 := ⟨by decide +kernel, rfl⟩
theorem eX7_init_43 : sl_D YX7_init 43 (.dup) 1 44 := ⟨by decide +kernel, rfl⟩
theorem eX7_init_44 : sl_D YX7_init 44 (.invokespecial 30) 3 47 := ⟨by decide +kernel, rfl⟩
theorem eX7_init_47 : sl_D YX7_init 47 (.putfield 31) 3 50 := ⟨by decide +kernel, rfl⟩
theorem eX7_init_50 : sl_D YX7_init 50 (.aload_n 0) 1 51 := ⟨by decide +kernel, rfl⟩
theorem eX7_init_51 : sl_D YX7_init 51 (.new 35) 3 54 := ⟨by decide +kernel, rfl⟩
theorem eX7_init_54 : sl_D YX7_init 54 (.dup) 1 55 := ⟨by decide +kernel, rfl⟩
theorem eX7_init_55 : sl_D YX7_init 55 (.invokespecial 37) 3 58 := ⟨by decide +kernel, rfl⟩
theorem eX7_init_58 : sl_D YX7_init 58 (.putfield 38) 3 61 := ⟨by decide +kernel, rfl⟩
theorem eX7_init_61 : sl_D YX7_init 61 (.return_) 1 62 := ⟨by decide +kernel, rfl⟩
theorem eX7_readThrough_0 : sl_D YX7_readThrough 0 (.aload_n 0) 1 1 := ⟨by decide +kernel, rfl⟩
theorem eX7_readThrough_1 : sl_D YX7_readThrough 1 (.aload_n 1) 1 2 := ⟨by decide +kernel, rfl⟩
theorem eX7_readThrough_2 : sl_D YX7_readThrough 2 (.putfield 42) 3 5 := ⟨by decide +kernel, rfl⟩
theorem eX7_readThrough_5 : sl_D YX7_readThrough 5 (.aload_n 0) 1 6 := ⟨by decide +kernel, rfl⟩
theorem eX7_readThrough_6 : sl_D YX7_readThrough 6 (.aload_n 2) 1 7 := ⟨by decide +kernel, rfl⟩
theorem eX7_readThrough_7 : sl_D YX7_readThrough 7 (.putfield 46) 3 10 := ⟨by decide +kernel, rfl⟩
theorem eX7_readThrough_10 : sl_D YX7_readThrough 10 (.aload_n 0) 1 11 := ⟨by decide +kernel, rfl⟩
theorem eX7_readThrough_11 : sl_D YX7_readThrough 11 (.aload_n 3) 1 12 := ⟨by decide +kernel, rfl⟩
theorem eX7_readThrough_12 : sl_D YX7_readThrough 12 (.putfield 50) 3 15 := ⟨by decide +kernel, rfl⟩
theorem eX7_readThrough_15 : sl_D YX7_readThrough 15 (.aload_n 0) 1 16 := ⟨by decide +kernel, rfl⟩
theorem eX7_readThrough_16 : sl_D YX7_readThrough 16 (.aload 4) 2 18 := ⟨by decide +kernel, rfl⟩
theorem eX7_readThrough_18 : sl_D YX7_readThrough 18 (.putfield 54) 3 21 := ⟨by decide +kernel, rfl⟩
theorem eX7_readThrough_21 : sl_D YX7_readThrough 21 (.aload_n 0) 1 22 := ⟨by decide +kernel, rfl⟩
theorem eX7_readThrough_22 : sl_D YX7_readThrough 22 (.iload 5) 2 24 := ⟨by decide +kernel, rfl⟩
theorem eX7_readThrough_24 : sl_D YX7_readThrough 24 (.putfield 58) 3 27 := ⟨by decide +kernel, rfl⟩
theorem eX7_readThrough_27 : sl_D YX7_readThrough 27 (.aload_n 0) 1 28 := ⟨by decide +kernel, rfl⟩
theorem eX7_readThrough_28 : sl_D YX7_readThrough 28 (.iconst 0) 1 29 := ⟨by decide +kernel, rfl⟩
theorem eX7_readThrough_29 : sl_D YX7_readThrough 29 (.putfield 62) 3 32 := ⟨by decide +kernel, rfl⟩
theorem eX7_readThrough_32 : sl_D YX7_readThrough 32 (.aload_n 0) 1 33 := ⟨by decide +kernel, rfl⟩
theorem eX7_readThrough_33 : sl_D YX7_readThrough 33 (.iconst (-1)) 1 34 := ⟨by decide +kernel, rfl⟩
theorem eX7_readThrough_34 : sl_D YX7_readThrough 34 (.putfield 65) 3 37 := ⟨by decide +kernel, rfl⟩
theorem eX7_readThrough_37 : sl_D YX7_readThrough 37 (.aload_n 0) 1 38 := ⟨by decide +kernel, rfl⟩
theorem eX7_readThrough_38 : sl_D YX7_readThrough 38 (.iconst 0) 1 39 := ⟨by decide +kernel, rfl⟩
theorem eX7_readThrough_39 : sl_D YX7_readThrough 39 (.putfield 68) 3 42 := ⟨by decide +kernel, rfl⟩
theorem eX7_readThrough_42 : sl_D YX7_readThrough 42 (.aload_n 0) 1 43 := ⟨by decide +kernel, rfl⟩
theorem eX7_readThrough_43 : sl_D YX7_readThrough 43 (.iconst 0) 1 44 := ⟨by decide +kernel, rfl⟩
theorem eX7_readThrough_44 : sl_D YX7_readThrough 44 (.putfield 71) 3 47 := ⟨by decide +kernel, rfl⟩
theorem eX7_readThrough_47 : sl_D YX7_readThrough 47 (.aload_n 0) 1 48 := ⟨by decide +kernel, rfl⟩
theorem eX7_readThrough_48 : sl_D YX7_readThrough 48 (.getfield 12) 3 51 := ⟨by decide +kernel, rfl⟩
theorem eX7_readThrough_51 : sl_D YX7_readThrough 51 (.iconst 0) 1 52 := ⟨by decide +kernel, rfl⟩
theorem eX7_readThrough_52 : sl_D YX7_readThrough 52 (.putfield 74) 3 55 := ⟨by decide +kernel, rfl⟩
theorem eX7_readThrough_55 : sl_D YX7_readThrough 55 (.aload_n 0) 1 56 := ⟨by decide +kernel, rfl⟩
theorem eX7_readThrough_56 : sl_D YX7_readThrough 56 (.iconst 0) 1 57 := ⟨by decide +kernel, rfl⟩
theorem eX7_readThrough_57 : sl_D YX7_readThrough 57 (.putfield 77) 3 60 := ⟨by decide +kernel, rfl⟩
theorem eX7_readThrough_60 : sl_D YX7_readThrough 60 (.aload_n 0) 1 61 := ⟨by decide +kernel, rfl⟩
theorem eX7_readThrough_61 : sl_D YX7_readThrough 61 (.iconst 0) 1 62 := ⟨by decide +kernel, rfl⟩
theorem eX7_readThrough_62 : sl_D YX7_readThrough 62 (.putfield 80) 3 65 := ⟨by decide +kernel, rfl⟩
theorem eX7_readThrough_65 : sl_D YX7_readThrough 65 (.aload_n 0) 1 66 := ⟨by decide +kernel, rfl⟩
theorem eX7_readThrough_66 : sl_D YX7_readThrough 66 (.iconst 0) 1 67 := ⟨by decide +kernel, rfl⟩
theorem eX7_readThrough_67 : sl_D YX7_readThrough 67 (.putfield 84) 3 70 := ⟨by decide +kernel, rfl⟩
theorem eX7_readThrough_70 : sl_D YX7_readThrough 70 (.aload_n 0) 1 71 := ⟨by decide +kernel, rfl⟩
theorem eX7_readThrough_71 : sl_D YX7_readThrough 71 (.getfield 18) 3 74 := ⟨by decide +kernel, rfl⟩
theorem eX7_readThrough_74 : sl_D YX7_readThrough 74 (.iconst 0) 1 75 := ⟨by decide +kernel, rfl⟩
theorem eX7_readThrough_75 : sl_D YX7_readThrough 75 (.aload_n 1) 1 76 := ⟨by decide +kernel, rfl⟩
theorem eX7_readThrough_76 : sl_D YX7_readThrough 76 (.getfield 87) 3 79 := ⟨by decide +kernel, rfl⟩
theorem eX7_readThrough_79 : sl_D YX7_readThrough 79 (.iastore) 1 80 := ⟨by decide +kernel, rfl⟩
theorem eX7_readThrough_80 : sl_D YX7_readThrough 80 (.aload_n 0) 1 81 := ⟨by decide +kernel, rfl⟩
theorem eX7_readThrough_81 : sl_D YX7_readThrough 81 (.getfield 25) 3 84 := ⟨by decide +kernel, rfl⟩
theorem eX7_readThrough_84 : sl_D YX7_readThrough 84 (.iconst 0) 1 85 := ⟨by decide +kernel, rfl⟩
theorem eX7_readThrough_85 : sl_D YX7_readThrough 85 (.bipush (-2)) 2 87 := ⟨by decide +kernel, rfl⟩
theorem eX7_readThrough_87 : sl_D YX7_readThrough 87 (.iastore) 1 88 := ⟨by decide +kernel, rfl⟩
theorem eX7_readThrough_88 : sl_D YX7_readThrough 88 (.aload 4) 2 90 := ⟨by decide +kernel, rfl⟩
theorem eX7_readThrough_90 : sl_D YX7_readThrough 90 (.getfield 92) 3 93 := ⟨by decide +kernel, rfl⟩
theorem eX7_readThrough_93 : sl_D YX7_readThrough 93 (.iconst (-1)) 1 94 := ⟨by decide +kernel, rfl⟩
theorem eX7_readThrough_94 : sl_B YX7_readThrough 94 (fun o => .if_icmp .eq o) 97 107 := ⟨13, by decide +kernel, rfl, by decide⟩
theorem eX7_readThrough_97 : sl_D YX7_readThrough 97 (.aload_n 0) 1 98 := ⟨by decide +kernel, rfl⟩
theorem eX7_readThrough_98 : sl_D YX7_readThrough 98 (.iconst 1) 1 99 := ⟨by decide +kernel, rfl⟩
theorem eX7_readThrough_99 : sl_D YX7_readThrough 99 (.aload 4) 2 101 := ⟨by decide +kernel, rfl⟩
theorem eX7_readThrough_101 : sl_D YX7_readThrough 101 (.getfield 92) 3 104 := ⟨by decide +kernel, rfl⟩
theorem eX7_readThrough_104 : sl_D YX7_readThrough 104 (.invokevirtual 97) 3 107 := ⟨by decide +kernel, rfl⟩
theorem eX7_readThrough_107 : sl_D YX7_readThrough 107 (.iconst 0) 1 108 := ⟨by decide +kernel, rfl⟩
theorem eX7_readThrough_108 : sl_D YX7_readThrough 108 (.istore 6) 2 110 := ⟨by decide +kernel, rfl⟩
theorem eX7_readThrough_110 : sl_D YX7_readThrough 110 (.iload 6) 2 112 := ⟨by decide +kernel, rfl⟩
theorem eX7_readThrough_112 : sl_D YX7_readThrough 112 (.bipush 121) 2 114 := ⟨by decide +kernel, rfl⟩
theorem eX7_readThrough_114 : sl_B YX7_readThrough 114 (fun o => .if_icmp .ge o) 117 134 := ⟨20, by decide +kernel, rfl, by decide⟩
theorem eX7_readThrough_117 : sl_D YX7_readThrough 117 (.aload_n 0) 1 118 := ⟨by decide +kernel, rfl⟩
theorem eX7_readThrough_118 : sl_D YX7_readThrough 118 (.getfield 80) 3 121 := ⟨by decide +kernel, rfl⟩
theorem eX7_readThrough_121 : sl_B YX7_readThrough 121 (fun o => .ifCond .ne o) 124 134 := ⟨13, by decide +kernel, rfl, by decide⟩
theorem eX7_readThrough_124 : sl_D YX7_readThrough 124 (.aload_n 0) 1 125 := ⟨by decide +kernel, rfl⟩
theorem eX7_readThrough_125 : sl_D YX7_readThrough 125 (.invokevirtual 101) 3 128 := ⟨by decide +kernel, rfl⟩
theorem eX7_readThrough_128 : sl_D YX7_readThrough 128 (.iinc 6 1) 3 131 := ⟨by decide +kernel, rfl⟩
theorem eX7_readThrough_131 : sl_B YX7_readThrough 131 (fun o => .goto o) 134 110 := ⟨-21, by decide +kernel, rfl, by decide⟩
theorem eX7_readThrough_134 : sl_D YX7_readThrough 134 (.return_) 1 135 := ⟨by decide +kernel, rfl⟩
theorem eX7_root_0 : sl_D YX7_root 0 (.aload_n 0) 1 1 := ⟨by decide +kernel, rfl⟩
theorem eX7_root_1 : sl_D YX7_root 1 (.getfield 25) 3 4 := ⟨by decide +kernel, rfl⟩
theorem eX7_root_4 : sl_D YX7_root 4 (.iconst 0) 1 5 := ⟨by decide +kernel, rfl⟩
theorem eX7_root_5 : sl_D YX7_root 5 (.iaload) 1 6 := ⟨by decide +kernel, rfl⟩
theorem eX7_root_6 : sl_D YX7_root 6 (.ireturn) 1 7 := ⟨by decide +kernel, rfl⟩
theorem eX7_failAt_0 : sl_D YX7_failAt 0 (.aload_n 0) 1 1 := ⟨by decide +kernel, rfl⟩
theorem eX7_failAt_1 : sl_D YX7_failAt 1 (.iload_n 1) 1 2 := ⟨by decide +kernel, rfl⟩
theorem eX7_failAt_2 : sl_D YX7_failAt 2 (.putfield 62) 3 5 := ⟨by decide +kernel, rfl⟩
theorem eX7_failAt_5 : sl_D YX7_failAt 5 (.aload_n 0) 1 6 := ⟨by decide +kernel, rfl⟩
theorem eX7_failAt_6 : sl_D YX7_failAt 6 (.iload_n 2) 1 7 := ⟨by decide +kernel, rfl⟩
theorem eX7_failAt_7 : sl_D YX7_failAt 7 (.putfield 65) 3 10 := ⟨by decide +kernel, rfl⟩
theorem eX7_failAt_10 : sl_D YX7_failAt 10 (.aload_n 0) 1 11 := ⟨by decide +kernel, rfl⟩
theorem eX7_failAt_11 : sl_D YX7_failAt 11 (.iconst 1) 1 12 := ⟨by decide +kernel, rfl⟩
theorem eX7_failAt_12 : sl_D YX7_failAt 12 (.putfield 80) 3 15 := ⟨by decide +kernel, rfl⟩
theorem eX7_failAt_15 : sl_D YX7_failAt 15 (.return_) 1 16 := ⟨by decide +kernel, rfl⟩
theorem eX7_failHere_0 : sl_D YX7_failHere 0 (.aload_n 0) 1 1 := ⟨by decide +kernel, rfl⟩
theorem eX7_failHere_1 : sl_D YX7_failHere 1 (.getfield 77) 3 4 := ⟨by decide +kernel, rfl⟩
theorem eX7_failHere_4 : sl_D YX7_failHere 4 (.aload_n 0) 1 5 := ⟨by decide +kernel, rfl⟩
theorem eX7_failHere_5 : sl_D YX7_failHere 5 (.getfield 54) 3 8 := ⟨by decide +kernel, rfl⟩
theorem eX7_failHere_8 : sl_D YX7_failHere 8 (.invokevirtual 104) 3 11 := ⟨by decide +kernel, rfl⟩
theorem eX7_failHere_11 : sl_B YX7_failHere 11 (fun o => .if_icmp .ge o) 14 18 := ⟨7, by decide +kernel, rfl, by decide⟩
theorem eX7_failHere_14 : sl_D YX7_failHere 14 (.iconst 1) 1 15 := ⟨by decide +kernel, rfl⟩
theorem eX7_failHere_15 : sl_B YX7_failHere 15 (fun o => .goto o) 18 19 := ⟨4, by decide +kernel, rfl, by decide⟩
theorem eX7_failHere_18 : sl_D YX7_failHere 18 (.iconst 0) 1 19 := ⟨by decide +kernel, rfl⟩
theorem eX7_failHere_19 : sl_D YX7_failHere 19 (.istore_n 2) 1 20 := ⟨by decide +kernel, rfl⟩
theorem eX7_failHere_20 : sl_D YX7_failHere 20 (.aload_n 0) 1 21 := ⟨by decide +kernel, rfl⟩
theorem eX7_failHere_21 : sl_D YX7_failHere 21 (.iload_n 1) 1 22 := ⟨by decide +kernel, rfl⟩
theorem eX7_failHere_22 : sl_D YX7_failHere 22 (.iload_n 2) 1 23 := ⟨by decide +kernel, rfl⟩
theorem eX7_failHere_23 : sl_B YX7_failHere 23 (fun o => .ifCond .eq o) 26 41 := ⟨18, by decide +kernel, rfl, by decide⟩
theorem eX7_failHere_26 : sl_D YX7_failHere 26 (.aload_n 0) 1 27 := ⟨by decide +kernel, rfl⟩
theorem eX7_failHere_27 : sl_D YX7_failHere 27 (.getfield 54) 3 30 := ⟨by decide +kernel, rfl⟩
theorem eX7_failHere_30 : sl_D YX7_failHere 30 (.getfield 108) 3 33 := ⟨by decide +kernel, rfl⟩
theorem eX7_failHere_33 : sl_D YX7_failHere 33 (.aload_n 0) 1 34 := ⟨by decide +kernel, rfl⟩
theorem eX7_failHere_34 : sl_D YX7_failHere 34 (.getfield 77) 3 37 := ⟨by decide +kernel, rfl⟩
theorem eX7_failHere_37 : sl_D YX7_failHere 37 (.iaload) 1 38 := ⟨by decide +kernel, rfl⟩
theorem eX7_failHere_38 : sl_B YX7_failHere 38 (fun o => .goto o) 41 48 := ⟨10, by decide +kernel, rfl, by decide⟩
theorem eX7_failHere_41 : sl_D YX7_failHere 41 (.aload_n 0) 1 42 := ⟨by decide +kernel, rfl⟩
theorem eX7_failHere_42 : sl_D YX7_failHere 42 (.getfield 54) 3 45 := ⟨by decide +kernel, rfl⟩
theorem eX7_failHere_45 : sl_D YX7_failHere 45 (.getfield 111) 3 48 := ⟨by decide +kernel, rfl⟩
theorem eX7_failHere_48 : sl_D YX7_failHere 48 (.invokevirtual 97) 3 51 := ⟨by decide +kernel, rfl⟩
theorem eX7_failHere_51 : sl_D YX7_failHere 51 (.return_) 1 52 := ⟨by decide +kernel, rfl⟩
theorem eX7_nextTerminal_0 : sl_D YX7_nextTerminal 0 (.aload_n 0) 1 1 := ⟨by decide +kernel, rfl⟩
theorem eX7_nextTerminal_1 : sl_D YX7_nextTerminal 1 (.getfield 77) 3 4 := ⟨by decide +kernel, rfl⟩
theorem eX7_nextTerminal_4 : sl_D YX7_nextTerminal 4 (.aload_n 0) 1 5 := ⟨by decide +kernel, rfl⟩
theorem eX7_nextTerminal_5 : sl_D YX7_nextTerminal 5 (.getfield 54) 3 8 := ⟨by decide +kernel, rfl⟩
theorem eX7_nextTerminal_8 : sl_D YX7_nextTerminal 8 (.invokevirtual 104) 3 11 := ⟨by decide +kernel, rfl⟩
theorem eX7_nextTerminal_11 : sl_B YX7_nextTerminal 11 (fun o => .if_icmp .ge o) 14 18 := ⟨7, by decide +kernel, rfl, by decide⟩
theorem eX7_nextTerminal_14 : sl_D YX7_nextTerminal 14 (.iconst 1) 1 15 := ⟨by decide +kernel, rfl⟩
theorem eX7_nextTerminal_15 : sl_B YX7_nextTerminal 15 (fun o => .goto o) 18 19 := ⟨4, by decide +kernel, rfl, by decide⟩
theorem eX7_nextTerminal_18 : sl_D YX7_nextTerminal 18 (.iconst 0) 1 19 := ⟨by decide +kernel, rfl⟩
theorem eX7_nextTerminal_19 : sl_D YX7_nextTerminal 19 (.istore_n 1) 1 20 := ⟨by decide +kernel, rfl⟩
theorem eX7_nextTerminal_20 : sl_D YX7_nextTerminal 20 (.iload_n 1) 1 21 := ⟨by decide +kernel, rfl⟩
theorem eX7_nextTerminal_21 : sl_B YX7_nextTerminal 21 (fun o => .ifCond .eq o) 24 46 := ⟨25, by decide +kernel, rfl, by decide⟩
theorem eX7_nextTerminal_24 : sl_D YX7_nextTerminal 24 (.aload_n 0) 1 25 := ⟨by decide +kernel, rfl⟩
theorem eX7_nextTerminal_25 : sl_D YX7_nextTerminal 25 (.getfield 42) 3 28 := ⟨by decide +kernel, rfl⟩
theorem eX7_nextTerminal_28 : sl_D YX7_nextTerminal 28 (.aload_n 0) 1 29 := ⟨by decide +kernel, rfl⟩
theorem eX7_nextTerminal_29 : sl_D YX7_nextTerminal 29 (.getfield 54) 3 32 := ⟨by decide +kernel, rfl⟩
theorem eX7_nextTerminal_32 : sl_D YX7_nextTerminal 32 (.getfield 114) 3 35 := ⟨by decide +kernel, rfl⟩
theorem eX7_nextTerminal_35 : sl_D YX7_nextTerminal 35 (.aload_n 0) 1 36 := ⟨by decide +kernel, rfl⟩
theorem eX7_nextTerminal_36 : sl_D YX7_nextTerminal 36 (.getfield 77) 3 39 := ⟨by decide +kernel, rfl⟩
theorem eX7_nextTerminal_39 : sl_D YX7_nextTerminal 39 (.iaload) 1 40 := ⟨by decide +kernel, rfl⟩
theorem eX7_nextTerminal_40 : sl_D YX7_nextTerminal 40 (.invokevirtual 117) 3 43 := ⟨by decide +kernel, rfl⟩
theorem eX7_nextTerminal_43 : sl_B YX7_nextTerminal 43 (fun o => .goto o) 46 53 := ⟨10, by decide +kernel, rfl, by decide⟩
theorem eX7_nextTerminal_46 : sl_D YX7_nextTerminal 46 (.aload_n 0) 1 47 := ⟨by decide +kernel, rfl⟩
theorem eX7_nextTerminal_47 : sl_D YX7_nextTerminal 47 (.getfield 42) 3 50 := ⟨by decide +kernel, rfl⟩
theorem eX7_nextTerminal_50 : sl_D YX7_nextTerminal 50 (.getfield 87) 3 53 := ⟨by decide +kernel, rfl⟩
theorem eX7_nextTerminal_53 : sl_D YX7_nextTerminal 53 (.ireturn) 1 54 := ⟨by decide +kernel, rfl⟩
theorem eX7_goOn_0 : sl_D YX7_goOn 0 (.aload_n 0) 1 1 := ⟨by decide +kernel, rfl⟩
theorem eX7_goOn_1 : sl_D YX7_goOn 1 (.getfield 42) 3 4 := ⟨by decide +kernel, rfl⟩
theorem eX7_goOn_4 : sl_D YX7_goOn 4 (.getfield 87) 3 7 := ⟨by decide +kernel, rfl⟩
theorem eX7_goOn_7 : sl_D YX7_goOn 7 (.istore_n 1) 1 8 := ⟨by decide +kernel, rfl⟩
theorem eX7_goOn_8 : sl_D YX7_goOn 8 (.aload_n 0) 1 9 := ⟨by decide +kernel, rfl⟩
theorem eX7_goOn_9 : sl_D YX7_goOn 9 (.getfield 18) 3 12 := ⟨by decide +kernel, rfl⟩
theorem eX7_goOn_12 : sl_D YX7_goOn 12 (.aload_n 0) 1 13 := ⟨by decide +kernel, rfl⟩
theorem eX7_goOn_13 : sl_D YX7_goOn 13 (.getfield 84) 3 16 := ⟨by decide +kernel, rfl⟩
theorem eX7_goOn_16 : sl_D YX7_goOn 16 (.iaload) 1 17 := ⟨by decide +kernel, rfl⟩
theorem eX7_goOn_17 : sl_D YX7_goOn 17 (.istore_n 2) 1 18 := ⟨by decide +kernel, rfl⟩
theorem eX7_goOn_18 : sl_D YX7_goOn 18 (.aload_n 0) 1 19 := ⟨by decide +kernel, rfl⟩
theorem eX7_goOn_19 : sl_D YX7_goOn 19 (.invokevirtual 121) 3 22 := ⟨by decide +kernel, rfl⟩
theorem eX7_goOn_22 : sl_D YX7_goOn 22 (.istore_n 3) 1 23 := ⟨by decide +kernel, rfl⟩
theorem eX7_goOn_23 : sl_D YX7_goOn 23 (.iload_n 3) 1 24 := ⟨by decide +kernel, rfl⟩
theorem eX7_goOn_24 : sl_D YX7_goOn 24 (.iconst (-1)) 1 25 := ⟨by decide +kernel, rfl⟩
theorem eX7_goOn_25 : sl_B YX7_goOn 25 (fun o => .if_icmp .ne o) 28 36 := ⟨11, by decide +kernel, rfl, by decide⟩
theorem eX7_goOn_28 : sl_D YX7_goOn 28 (.aload_n 0) 1 29 := ⟨by decide +kernel, rfl⟩
theorem eX7_goOn_29 : sl_D YX7_goOn 29 (.iconst 2) 1 30 := ⟨by decide +kernel, rfl⟩
theorem eX7_goOn_30 : sl_D YX7_goOn 30 (.invokevirtual 124) 3 33 := ⟨by decide +kernel, rfl⟩
theorem eX7_goOn_33 : sl_B YX7_goOn 33 (fun o => .goto o) 36 99 := ⟨66, by decide +kernel, rfl, by decide⟩
theorem eX7_goOn_36 : sl_D YX7_goOn 36 (.iload_n 2) 1 37 := ⟨by decide +kernel, rfl⟩
theorem eX7_goOn_37 : sl_D YX7_goOn 37 (.iload_n 1) 1 38 := ⟨by decide +kernel, rfl⟩
theorem eX7_goOn_38 : sl_B YX7_goOn 38 (fun o => .if_icmp .ne o) 41 53 := ⟨15, by decide +kernel, rfl, by decide⟩
theorem eX7_goOn_41 : sl_D YX7_goOn 41 (.iload_n 3) 1 42 := ⟨by decide +kernel, rfl⟩
theorem eX7_goOn_42 : sl_D YX7_goOn 42 (.iload_n 1) 1 43 := ⟨by decide +kernel, rfl⟩
theorem eX7_goOn_43 : sl_B YX7_goOn 43 (fun o => .if_icmp .ne o) 46 53 := ⟨10, by decide +kernel, rfl, by decide⟩
theorem eX7_goOn_46 : sl_D YX7_goOn 46 (.aload_n 0) 1 47 := ⟨by decide +kernel, rfl⟩
theorem eX7_goOn_47 : sl_D YX7_goOn 47 (.invokevirtual 128) 3 50 := ⟨by decide +kernel, rfl⟩
theorem eX7_goOn_50 : sl_B YX7_goOn 50 (fun o => .goto o) 53 99 := ⟨49, by decide +kernel, rfl, by decide⟩
theorem eX7_goOn_53 : sl_D YX7_goOn 53 (.aload_n 0) 1 54 := ⟨by decide +kernel, rfl⟩
theorem eX7_goOn_54 : sl_D YX7_goOn 54 (.iload_n 2) 1 55 := ⟨by decide +kernel, rfl⟩
theorem eX7_goOn_55 : sl_D YX7_goOn 55 (.iload_n 3) 1 56 := ⟨by decide +kernel, rfl⟩
theorem eX7_goOn_56 : sl_D YX7_goOn 56 (.invokevirtual 131) 3 59 := ⟨by decide +kernel, rfl⟩
theorem eX7_goOn_59 : sl_D YX7_goOn 59 (.istore 4) 2 61 := ⟨by decide +kernel, rfl⟩
theorem eX7_goOn_61 : sl_D YX7_goOn 61 (.iload 4) 2 63 := ⟨by decide +kernel, rfl⟩
theorem eX7_goOn_63 : sl_D YX7_goOn 63 (.iconst 4) 1 64 := ⟨by decide +kernel, rfl⟩
theorem eX7_goOn_64 : sl_B YX7_goOn 64 (fun o => .if_icmp .ne o) 67 74 := ⟨10, by decide +kernel, rfl, by decide⟩
theorem eX7_goOn_67 : sl_D YX7_goOn 67 (.aload_n 0) 1 68 := ⟨by decide +kernel, rfl⟩
theorem eX7_goOn_68 : sl_D YX7_goOn 68 (.invokevirtual 135) 3 71 := ⟨by decide +kernel, rfl⟩
theorem eX7_goOn_71 : sl_B YX7_goOn 71 (fun o => .goto o) 74 99 := ⟨28, by decide +kernel, rfl, by decide⟩
theorem eX7_goOn_74 : sl_D YX7_goOn 74 (.iload 4) 2 76 := ⟨by decide +kernel, rfl⟩
theorem eX7_goOn_76 : sl_D YX7_goOn 76 (.iconst 1) 1 77 := ⟨by decide +kernel, rfl⟩
theorem eX7_goOn_77 : sl_B YX7_goOn 77 (fun o => .if_icmp .eq o) 80 86 := ⟨9, by decide +kernel, rfl, by decide⟩
theorem eX7_goOn_80 : sl_D YX7_goOn 80 (.iload 4) 2 82 := ⟨by decide +kernel, rfl⟩
theorem eX7_goOn_82 : sl_D YX7_goOn 82 (.iconst 2) 1 83 := ⟨by decide +kernel, rfl⟩
theorem eX7_goOn_83 : sl_B YX7_goOn 83 (fun o => .if_icmp .ne o) 86 94 := ⟨11, by decide +kernel, rfl, by decide⟩
theorem eX7_goOn_86 : sl_D YX7_goOn 86 (.aload_n 0) 1 87 := ⟨by decide +kernel, rfl⟩
theorem eX7_goOn_87 : sl_D YX7_goOn 87 (.iload_n 3) 1 88 := ⟨by decide +kernel, rfl⟩
theorem eX7_goOn_88 : sl_D YX7_goOn 88 (.invokevirtual 138) 3 91 := ⟨by decide +kernel, rfl⟩
theorem eX7_goOn_91 : sl_B YX7_goOn 91 (fun o => .goto o) 94 99 := ⟨8, by decide +kernel, rfl, by decide⟩
theorem eX7_goOn_94 : sl_D YX7_goOn 94 (.aload_n 0) 1 95 := ⟨by decide +kernel, rfl⟩
theorem eX7_goOn_95 : sl_D YX7_goOn 95 (.iconst 3) 1 96 := ⟨by decide +kernel, rfl⟩
theorem eX7_goOn_96 : sl_D YX7_goOn 96 (.invokevirtual 124) 3 99 := ⟨by decide +kernel, rfl⟩
theorem eX7_goOn_99 : sl_D YX7_goOn 99 (.return_) 1 100 := ⟨by decide +kernel, rfl⟩
theorem eX7_finish_0 : sl_D YX7_finish 0 (.aload_n 0) 1 1 := ⟨by decide +kernel, rfl⟩
theorem eX7_finish_1 : sl_D YX7_finish 1 (.iconst 1) 1 2 := ⟨by decide +kernel, rfl⟩
theorem eX7_finish_2 : sl_D YX7_finish 2 (.putfield 80) 3 5 := ⟨by decide +kernel, rfl⟩
theorem eX7_finish_5 : sl_D YX7_finish 5 (.aload_n 0) 1 6 := ⟨by decide +kernel, rfl⟩
theorem eX7_finish_6 : sl_D YX7_finish 6 (.getfield 25) 3 9 := ⟨by decide +kernel, rfl⟩
theorem eX7_finish_9 : sl_D YX7_finish 9 (.iconst 0) 1 10 := ⟨by decide +kernel, rfl⟩
theorem eX7_finish_10 : sl_D YX7_finish 10 (.iaload) 1 11 := ⟨by decide +kernel, rfl⟩
theorem eX7_finish_11 : sl_D YX7_finish 11 (.bipush (-2)) 2 13 := ⟨by decide +kernel, rfl⟩
theorem eX7_finish_13 : sl_B YX7_finish 13 (fun o => .if_icmp .ne o) 16 21 := ⟨8, by decide +kernel, rfl, by decide⟩
theorem eX7_finish_16 : sl_D YX7_finish 16 (.aload_n 0) 1 17 := ⟨by decide +kernel, rfl⟩
theorem eX7_finish_17 : sl_D YX7_finish 17 (.iconst 4) 1 18 := ⟨by decide +kernel, rfl⟩
theorem eX7_finish_18 : sl_D YX7_finish 18 (.invokevirtual 124) 3 21 := ⟨by decide +kernel, rfl⟩
theorem eX7_finish_21 : sl_D YX7_finish 21 (.return_) 1 22 := ⟨by decide +kernel, rfl⟩
theorem eX7_order_0 : sl_D YX7_order 0 (.aload_n 0) 1 1 := ⟨by decide +kernel, rfl⟩
theorem eX7_order_1 : sl_D YX7_order 1 (.getfield 58) 3 4 := ⟨by decide +kernel, rfl⟩
theorem eX7_order_4 : sl_B YX7_order 4 (fun o => .ifCond .ne o) 7 17 := ⟨13, by decide +kernel, rfl, by decide⟩
theorem eX7_order_7 : sl_D YX7_order 7 (.aload_n 0) 1 8 := ⟨by decide +kernel, rfl⟩
theorem eX7_order_8 : sl_D YX7_order 8 (.getfield 46) 3 11 := ⟨by decide +kernel, rfl⟩
theorem eX7_order_11 : sl_D YX7_order 11 (.iload_n 1) 1 12 := ⟨by decide +kernel, rfl⟩
theorem eX7_order_12 : sl_D YX7_order 12 (.iload_n 2) 1 13 := ⟨by decide +kernel, rfl⟩
theorem eX7_order_13 : sl_D YX7_order 13 (.invokevirtual 141) 3 16 := ⟨by decide +kernel, rfl⟩
theorem eX7_order_16 : sl_D YX7_order 16 (.ireturn) 1 17 := ⟨by decide +kernel, rfl⟩
theorem eX7_order_17 : sl_D YX7_order 17 (.aload_n 0) 1 18 := ⟨by decide +kernel, rfl⟩
theorem eX7_order_18 : sl_D YX7_order 18 (.getfield 50) 3 21 := ⟨by decide +kernel, rfl⟩
theorem eX7_order_21 : sl_D YX7_order 21 (.iload_n 1) 1 22 := ⟨by decide +kernel, rfl⟩
theorem eX7_order_22 : sl_D YX7_order 22 (.iload_n 2) 1 23 := ⟨by decide +kernel, rfl⟩
theorem eX7_order_23 : sl_D YX7_order 23 (.invokevirtual 146) 3 26 := ⟨by decide +kernel, rfl⟩
theorem eX7_order_26 : sl_D YX7_order 26 (.istore_n 3) 1 27 := ⟨by decide +kernel, rfl⟩
theorem eX7_order_27 : sl_D YX7_order 27 (.aload_n 0) 1 28 := ⟨by decide +kernel, rfl⟩
theorem eX7_order_28 : sl_D YX7_order 28 (.getfield 42) 3 31 := ⟨by decide +kernel, rfl⟩
theorem eX7_order_31 : sl_D YX7_order 31 (.getfield 87) 3 34 := ⟨by decide +kernel, rfl⟩
theorem eX7_order_34 : sl_D YX7_order 34 (.istore 4) 2 36 := ⟨by decide +kernel, rfl⟩
theorem eX7_order_36 : sl_D YX7_order 36 (.iload_n 1) 1 37 := ⟨by decide +kernel, rfl⟩
theorem eX7_order_37 : sl_D YX7_order 37 (.iload 4) 2 39 := ⟨by decide +kernel, rfl⟩
theorem eX7_order_39 : sl_B YX7_order 39 (fun o => .if_icmp .ne o) 42 47 := ⟨8, by decide +kernel, rfl, by decide⟩
theorem eX7_order_42 : sl_D YX7_order 42 (.iload_n 3) 1 43 := ⟨by decide +kernel, rfl⟩
theorem eX7_order_43 : sl_D YX7_order 43 (.iconst 1) 1 44 := ⟨by decide +kernel, rfl⟩
theorem eX7_order_44 : sl_B YX7_order 44 (fun o => .if_icmp .ne o) 47 58 := ⟨14, by decide +kernel, rfl, by decide⟩
theorem eX7_order_47 : sl_D YX7_order 47 (.iload_n 2) 1 48 := ⟨by decide +kernel, rfl⟩
theorem eX7_order_48 : sl_D YX7_order 48 (.iload 4) 2 50 := ⟨by decide +kernel, rfl⟩
theorem eX7_order_50 : sl_B YX7_order 50 (fun o => .if_icmp .ne o) 53 62 := ⟨12, by decide +kernel, rfl, by decide⟩
theorem eX7_order_53 : sl_D YX7_order 53 (.iload_n 3) 1 54 := ⟨by decide +kernel, rfl⟩
theorem eX7_order_54 : sl_D YX7_order 54 (.iconst 4) 1 55 := ⟨by decide +kernel, rfl⟩
theorem eX7_order_55 : sl_B YX7_order 55 (fun o => .if_icmp .eq o) 58 62 := ⟨7, by decide +kernel, rfl, by decide⟩
theorem eX7_order_58 : sl_D YX7_order 58 (.iconst 1) 1 59 := ⟨by decide +kernel, rfl⟩
theorem eX7_order_59 : sl_B YX7_order 59 (fun o => .goto o) 62 63 := ⟨4, by decide +kernel, rfl, by decide⟩
theorem eX7_order_62 : sl_D YX7_order 62 (.iconst 0) 1 63 := ⟨by decide +kernel, rfl⟩
theorem eX7_order_63 : sl_D YX7_order 63 (.istore 5) 2 65 := ⟨by decide +kernel, rfl⟩
theorem eX7_order_65 : sl_D YX7_order 65 (.iload 5) 2 67 := ⟨by decide +kernel, rfl⟩
theorem eX7_order_67 : sl_B YX7_order 67 (fun o => .ifCond .eq o) 70 74 := ⟨7, by decide +kernel, rfl, by decide⟩
theorem eX7_order_70 : sl_D YX7_order 70 (.iconst 0) 1 71 := ⟨by decide +kernel, rfl⟩
theorem eX7_order_71 : sl_B YX7_order 71 (fun o => .goto o) 74 75 := ⟨4, by decide +kernel, rfl, by decide⟩
theorem eX7_order_74 : sl_D YX7_order 74 (.iload_n 3) 1 75 := ⟨by decide +kernel, rfl⟩
theorem eX7_order_75 : sl_D YX7_order 75 (.ireturn) 1 76 := ⟨by decide +kernel, rfl⟩
theorem eX7_stackNext_0 : sl_D YX7_stackNext 0 (.aload_n 0) 1 1 := ⟨by decide +kernel, rfl⟩
theorem eX7_stackNext_1 : sl_D YX7_stackNext 1 (.getfield 84) 3 4 := ⟨by decide +kernel, rfl⟩
theorem eX7_stackNext_4 : sl_D YX7_stackNext 4 (.bipush 15) 2 6 := ⟨by decide +kernel, rfl⟩
theorem eX7_stackNext_6 : sl_B YX7_stackNext 6 (fun o => .if_icmp .lt o) 9 16 := ⟨10, by decide +kernel, rfl, by decide⟩
theorem eX7_stackNext_9 : sl_D YX7_stackNext 9 (.aload_n 0) 1 10 := ⟨by decide +kernel, rfl⟩
theorem eX7_stackNext_10 : sl_D YX7_stackNext 10 (.bipush 7) 2 12 := ⟨by decide +kernel, rfl⟩
theorem eX7_stackNext_12 : sl_D YX7_stackNext 12 (.invokevirtual 124) 3 15 := ⟨by decide +kernel, rfl⟩
theorem eX7_stackNext_15 : sl_D YX7_stackNext 15 (.return_) 1 16 := ⟨by decide +kernel, rfl⟩
theorem eX7_stackNext_16 : sl_D YX7_stackNext 16 (.aload_n 0) 1 17 := ⟨by decide +kernel, rfl⟩
theorem eX7_stackNext_17 : sl_D YX7_stackNext 17 (.dup) 1 18 := ⟨by decide +kernel, rfl⟩
theorem eX7_stackNext_18 : sl_D YX7_stackNext 18 (.getfield 84) 3 21 := ⟨by decide +kernel, rfl⟩
theorem eX7_stackNext_21 : sl_D YX7_stackNext 21 (.iconst 1) 1 22 := ⟨by decide +kernel, rfl⟩
theorem eX7_stackNext_22 : sl_D YX7_stackNext 22 (.iadd) 1 23 := ⟨by decide +kernel, rfl⟩
theorem eX7_stackNext_23 : sl_D YX7_stackNext 23 (.putfield 84) 3 26 := ⟨by decide +kernel, rfl⟩
theorem eX7_stackNext_26 : sl_D YX7_stackNext 26 (.aload_n 0) 1 27 := ⟨by decide +kernel, rfl⟩
theorem eX7_stackNext_27 : sl_D YX7_stackNext 27 (.getfield 18) 3 30 := ⟨by decide +kernel, rfl⟩
theorem eX7_stackNext_30 : sl_D YX7_stackNext 30 (.aload_n 0) 1 31 := ⟨by decide +kernel, rfl⟩
theorem eX7_stackNext_31 : sl_D YX7_stackNext 31 (.getfield 84) 3 34 := ⟨by decide +kernel, rfl⟩
theorem eX7_stackNext_34 : sl_D YX7_stackNext 34 (.iload_n 1) 1 35 := ⟨by decide +kernel, rfl⟩
theorem eX7_stackNext_35 : sl_D YX7_stackNext 35 (.iastore) 1 36 := ⟨by decide +kernel, rfl⟩
theorem eX7_stackNext_36 : sl_D YX7_stackNext 36 (.aload_n 0) 1 37 := ⟨by decide +kernel, rfl⟩
theorem eX7_stackNext_37 : sl_D YX7_stackNext 37 (.getfield 22) 3 40 := ⟨by decide +kernel, rfl⟩
theorem eX7_stackNext_40 : sl_D YX7_stackNext 40 (.aload_n 0) 1 41 := ⟨by decide +kernel, rfl⟩
theorem eX7_stackNext_41 : sl_D YX7_stackNext 41 (.getfield 84) 3 44 := ⟨by decide +kernel, rfl⟩
theorem eX7_stackNext_44 : sl_D YX7_stackNext 44 (.aload_n 0) 1 45 := ⟨by decide +kernel, rfl⟩
theorem eX7_stackNext_45 : sl_D YX7_stackNext 45 (.getfield 77) 3 48 := ⟨by decide +kernel, rfl⟩
theorem eX7_stackNext_48 : sl_D YX7_stackNext 48 (.iastore) 1 49 := ⟨by decide +kernel, rfl⟩
theorem eX7_stackNext_49 : sl_D YX7_stackNext 49 (.aload_n 0) 1 50 := ⟨by decide +kernel, rfl⟩
theorem eX7_stackNext_50 : sl_D YX7_stackNext 50 (.getfield 25) 3 53 := ⟨by decide +kernel, rfl⟩
theorem eX7_stackNext_53 : sl_D YX7_stackNext 53 (.aload_n 0) 1 54 := ⟨by decide +kernel, rfl⟩
theorem eX7_stackNext_54 : sl_D YX7_stackNext 54 (.getfield 84) 3 57 := ⟨by decide +kernel, rfl⟩
theorem eX7_stackNext_57 : sl_D YX7_stackNext 57 (.bipush (-2)) 2 59 := ⟨by decide +kernel, rfl⟩
theorem eX7_stackNext_59 : sl_D YX7_stackNext 59 (.iastore) 1 60 := ⟨by decide +kernel, rfl⟩
theorem eX7_stackNext_60 : sl_D YX7_stackNext 60 (.aload_n 0) 1 61 := ⟨by decide +kernel, rfl⟩
theorem eX7_stackNext_61 : sl_D YX7_stackNext 61 (.dup) 1 62 := ⟨by decide +kernel, rfl⟩
theorem eX7_stackNext_62 : sl_D YX7_stackNext 62 (.getfield 77) 3 65 := ⟨by decide +kernel, rfl⟩
theorem eX7_stackNext_65 : sl_D YX7_stackNext 65 (.iconst 1) 1 66 := ⟨by decide +kernel, rfl⟩
theorem eX7_stackNext_66 : sl_D YX7_stackNext 66 (.iadd) 1 67 := ⟨by decide +kernel, rfl⟩
theorem eX7_stackNext_67 : sl_D YX7_stackNext 67 (.putfield 77) 3 70 := ⟨by decide +kernel, rfl⟩
theorem eX7_stackNext_70 : sl_D YX7_stackNext 70 (.aload_n 0) 1 71 := ⟨by decide +kernel, rfl⟩
theorem eX7_stackNext_71 : sl_D YX7_stackNext 71 (.dup) 1 72 := ⟨by decide +kernel, rfl⟩
theorem eX7_stackNext_72 : sl_D YX7_stackNext 72 (.getfield 68) 3 75 := ⟨by decide +kernel, rfl⟩
theorem eX7_stackNext_75 : sl_D YX7_stackNext 75 (.iconst 1) 1 76 := ⟨by decide +kernel, rfl⟩
theorem eX7_stackNext_76 : sl_D YX7_stackNext 76 (.iadd) 1 77 := ⟨by decide +kernel, rfl⟩
theorem eX7_stackNext_77 : sl_D YX7_stackNext 77 (.putfield 68) 3 80 := ⟨by decide +kernel, rfl⟩
theorem eX7_stackNext_80 : sl_D YX7_stackNext 80 (.aload_n 0) 1 81 := ⟨by decide +kernel, rfl⟩
theorem eX7_stackNext_81 : sl_D YX7_stackNext 81 (.aload_n 0) 1 82 := ⟨by decide +kernel, rfl⟩
theorem eX7_stackNext_82 : sl_D YX7_stackNext 82 (.getfield 71) 3 85 := ⟨by decide +kernel, rfl⟩
theorem eX7_stackNext_85 : sl_D YX7_stackNext 85 (.aload_n 0) 1 86 := ⟨by decide +kernel, rfl⟩
theorem eX7_stackNext_86 : sl_D YX7_stackNext 86 (.getfield 84) 3 89 := ⟨by decide +kernel, rfl⟩
theorem eX7_stackNext_89 : sl_D YX7_stackNext 89 (.invokestatic 151) 3 92 := ⟨by decide +kernel, rfl⟩
theorem eX7_stackNext_92 : sl_D YX7_stackNext 92 (.putfield 71) 3 95 := ⟨by decide +kernel, rfl⟩
theorem eX7_stackNext_95 : sl_D YX7_stackNext 95 (.return_) 1 96 := ⟨by decide +kernel, rfl⟩
theorem eX7_handleFrom_0 : sl_D YX7_handleFrom 0 (.aload_n 0) 1 1 := ⟨by decide +kernel, rfl⟩
theorem eX7_handleFrom_1 : sl_D YX7_handleFrom 1 (.getfield 84) 3 4 := ⟨by decide +kernel, rfl⟩
theorem eX7_handleFrom_4 : sl_D YX7_handleFrom 4 (.istore_n 1) 1 5 := ⟨by decide +kernel, rfl⟩
theorem eX7_handleFrom_5 : sl_D YX7_handleFrom 5 (.iload_n 1) 1 6 := ⟨by decide +kernel, rfl⟩
theorem eX7_handleFrom_6 : sl_D YX7_handleFrom 6 (.iconst 1) 1 7 := ⟨by decide +kernel, rfl⟩
theorem eX7_handleFrom_7 : sl_B YX7_handleFrom 7 (fun o => .if_icmp .le o) 10 38 := ⟨31, by decide +kernel, rfl, by decide⟩
theorem eX7_handleFrom_10 : sl_D YX7_handleFrom 10 (.aload_n 0) 1 11 := ⟨by decide +kernel, rfl⟩
theorem eX7_handleFrom_11 : sl_D YX7_handleFrom 11 (.aload_n 0) 1 12 := ⟨by decide +kernel, rfl⟩
theorem eX7_handleFrom_12 : sl_D YX7_handleFrom 12 (.getfield 18) 3 15 := ⟨by decide +kernel, rfl⟩
theorem eX7_handleFrom_15 : sl_D YX7_handleFrom 15 (.iload_n 1) 1 16 := ⟨by decide +kernel, rfl⟩
theorem eX7_handleFrom_16 : sl_D YX7_handleFrom 16 (.iconst 1) 1 17 := ⟨by decide +kernel, rfl⟩
theorem eX7_handleFrom_17 : sl_D YX7_handleFrom 17 (.isub) 1 18 := ⟨by decide +kernel, rfl⟩
theorem eX7_handleFrom_18 : sl_D YX7_handleFrom 18 (.iaload) 1 19 := ⟨by decide +kernel, rfl⟩
theorem eX7_handleFrom_19 : sl_D YX7_handleFrom 19 (.aload_n 0) 1 20 := ⟨by decide +kernel, rfl⟩
theorem eX7_handleFrom_20 : sl_D YX7_handleFrom 20 (.getfield 18) 3 23 := ⟨by decide +kernel, rfl⟩
theorem eX7_handleFrom_23 : sl_D YX7_handleFrom 23 (.iload_n 1) 1 24 := ⟨by decide +kernel, rfl⟩
theorem eX7_handleFrom_24 : sl_D YX7_handleFrom 24 (.iaload) 1 25 := ⟨by decide +kernel, rfl⟩
theorem eX7_handleFrom_25 : sl_D YX7_handleFrom 25 (.invokevirtual 131) 3 28 := ⟨by decide +kernel, rfl⟩
theorem eX7_handleFrom_28 : sl_D YX7_handleFrom 28 (.iconst 2) 1 29 := ⟨by decide +kernel, rfl⟩
theorem eX7_handleFrom_29 : sl_B YX7_handleFrom 29 (fun o => .if_icmp .ne o) 32 38 := ⟨9, by decide +kernel, rfl, by decide⟩
theorem eX7_handleFrom_32 : sl_D YX7_handleFrom 32 (.iinc 1 (-1)) 3 35 := ⟨by decide +kernel, rfl⟩
theorem eX7_handleFrom_35 : sl_B YX7_handleFrom 35 (fun o => .goto o) 38 5 := ⟨-30, by decide +kernel, rfl, by decide⟩
theorem eX7_handleFrom_38 : sl_D YX7_handleFrom 38 (.iload_n 1) 1 39 := ⟨by decide +kernel, rfl⟩
theorem eX7_handleFrom_39 : sl_D YX7_handleFrom 39 (.ireturn) 1 40 := ⟨by decide +kernel, rfl⟩
theorem eX7_reduceLast_0 : sl_D YX7_reduceLast 0 (.aload_n 0) 1 1 := ⟨by decide +kernel, rfl⟩
theorem eX7_reduceLast_1 : sl_D YX7_reduceLast 1 (.invokevirtual 156) 3 4 := ⟨by decide +kernel, rfl⟩
theorem eX7_reduceLast_4 : sl_D YX7_reduceLast 4 (.istore_n 1) 1 5 := ⟨by decide +kernel, rfl⟩
theorem eX7_reduceLast_5 : sl_D YX7_reduceLast 5 (.iload_n 1) 1 6 := ⟨by decide +kernel, rfl⟩
theorem eX7_reduceLast_6 : sl_D YX7_reduceLast 6 (.iconst 1) 1 7 := ⟨by decide +kernel, rfl⟩
theorem eX7_reduceLast_7 : sl_B YX7_reduceLast 7 (fun o => .if_icmp .lt o) 10 20 := ⟨13, by decide +kernel, rfl, by decide⟩
theorem eX7_reduceLast_10 : sl_D YX7_reduceLast 10 (.aload_n 0) 1 11 := ⟨by decide +kernel, rfl⟩
theorem eX7_reduceLast_11 : sl_D YX7_reduceLast 11 (.getfield 12) 3 14 := ⟨by decide +kernel, rfl⟩
theorem eX7_reduceLast_14 : sl_D YX7_reduceLast 14 (.invokevirtual 159) 3 17 := ⟨by decide +kernel, rfl⟩
theorem eX7_reduceLast_17 : sl_B YX7_reduceLast 17 (fun o => .ifCond .eq o) 20 26 := ⟨9, by decide +kernel, rfl, by decide⟩
theorem eX7_reduceLast_20 : sl_D YX7_reduceLast 20 (.aload_n 0) 1 21 := ⟨by decide +kernel, rfl⟩
theorem eX7_reduceLast_21 : sl_D YX7_reduceLast 21 (.iconst 4) 1 22 := ⟨by decide +kernel, rfl⟩
