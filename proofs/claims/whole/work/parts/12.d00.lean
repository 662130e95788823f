theorem eX0_init_0 : sl_D YX0_init 0 (.aload_n 0) 1 1 := ⟨by decide +kernel, rfl⟩
theorem eX0_init_1 : sl_D YX0_init 1 (.invokespecial 3) 3 4 := ⟨by decide +kernel, rfl⟩
theorem eX0_init_4 : sl_D YX0_init 4 (.aload_n 0) 1 5 := ⟨by decide +kernel, rfl⟩
theorem eX0_init_5 : sl_D YX0_init 5 (.bipush 10) 2 7 := ⟨by decide +kernel, rfl⟩
theorem eX0_init_7 : sl_D YX0_init 7 (.newarray .int) 2 9 := ⟨by decide +kernel, rfl⟩
theorem eX0_init_9 : sl_D YX0_init 9 (.putfield 9) 3 12 := ⟨by decide +kernel, rfl⟩
theorem eX0_init_12 : sl_D YX0_init 12 (.aload_n 0) 1 13 := ⟨by decide +kernel, rfl⟩
theorem eX0_init_13 : sl_D YX0_init 13 (.bipush 10) 2 15 := ⟨by decide +kernel, rfl⟩
theorem eX0_init_15 : sl_D YX0_init 15 (.newarray .int) 2 17 := ⟨by decide +kernel, rfl⟩
theorem eX0_init_17 : sl_D YX0_init 17 (.putfield 15) 3 20 := ⟨by decide +kernel, rfl⟩
theorem eX0_init_20 : sl_D YX0_init 20 (.return_) 1 21 := ⟨by decide +kernel, rfl⟩
theorem eX0_clear_0 : sl_D YX0_clear 0 (.aload_n 0) 1 1 := ⟨by decide +kernel, rfl⟩
theorem eX0_clear_1 : sl_D YX0_clear 1 (.iconst 0) 1 2 := ⟨by decide +kernel, rfl⟩
theorem eX0_clear_2 : sl_D YX0_clear 2 (.putfield 18) 3 5 := ⟨by decide +kernel, rfl⟩
theorem eX0_clear_5 : sl_D YX0_clear 5 (.return_) 1 6 := ⟨by decide +kernel, rfl⟩
theorem eX0_keep_0 : sl_D YX0_keep 0 (.aload_n 0) 1 1 := ⟨by decide +kernel, rfl⟩
theorem eX0_keep_1 : sl_D YX0_keep 1 (.getfield 18) 3 4 := ⟨by decide +kernel, rfl⟩
theorem eX0_keep_4 : sl_D YX0_keep 4 (.bipush 10) 2 6 := ⟨by decide +kernel, rfl⟩
theorem eX0_keep_6 : sl_B YX0_keep 6 (fun o => .if_icmp .lt o) 9 45 := ⟨39, by decide +kernel, rfl, by decide⟩
theorem eX0_keep_9 : sl_D YX0_keep 9 (.aload_n 0) 1 10 := ⟨by decide +kernel, rfl⟩
theorem eX0_keep_10 : sl_D YX0_keep 10 (.getfield 9) 3 13 := ⟨by decide +kernel, rfl⟩
theorem eX0_keep_13 : sl_D YX0_keep 13 (.iconst 1) 1 14 := ⟨by decide +kernel, rfl⟩
theorem eX0_keep_14 : sl_D YX0_keep 14 (.aload_n 0) 1 15 := ⟨by decide +kernel, rfl⟩
theorem eX0_keep_15 : sl_D YX0_keep 15 (.getfield 9) 3 18 := ⟨by decide +kernel, rfl⟩
theorem eX0_keep_18 : sl_D YX0_keep 18 (.iconst 0) 1 19 := ⟨by decide +kernel, rfl⟩
theorem eX0_keep_19 : sl_D YX0_keep 19 (.bipush 9) 2 21 := ⟨by decide +kernel, rfl⟩
theorem eX0_keep_21 : sl_D YX0_keep 21 (.invokestatic 22) 3 24 := ⟨by decide +kernel, rfl⟩
theorem eX0_keep_24 : sl_D YX0_keep 24 (.aload_n 0) 1 25 := ⟨by decide +kernel, rfl⟩
theorem eX0_keep_25 : sl_D YX0_keep 25 (.getfield 15) 3 28 := ⟨by decide +kernel, rfl⟩
theorem eX0_keep_28 : sl_D YX0_keep 28 (.iconst 1) 1 29 := ⟨by decide +kernel, rfl⟩
theorem eX0_keep_29 : sl_D YX0_keep 29 (.aload_n 0) 1 30 := ⟨by decide +kernel, rfl⟩
theorem eX0_keep_30 : sl_D YX0_keep 30 (.getfield 15) 3 33 := ⟨by decide +kernel, rfl⟩
theorem eX0_keep_33 : sl_D YX0_keep 33 (.iconst 0) 1 34 := ⟨by decide +kernel, rfl⟩
theorem eX0_keep_34 : sl_D YX0_keep 34 (.bipush 9) 2 36 := ⟨by decide +kernel, rfl⟩
theorem eX0_keep_36 : sl_D YX0_keep 36 (.invokestatic 22) 3 39 := ⟨by decide +kernel, rfl⟩
theorem eX0_keep_39 : sl_D YX0_keep 39 (.aload_n 0) 1 40 := ⟨by decide +kernel, rfl⟩
theorem eX0_keep_40 : sl_D YX0_keep 40 (.bipush 9) 2 42 := ⟨by decide +kernel, rfl⟩
theorem eX0_keep_42 : sl_D YX0_keep 42 (.putfield 18) 3 45 := ⟨by decide +kernel, rfl⟩
theorem eX0_keep_45 : sl_D YX0_keep 45 (.aload_n 0) 1 46 := ⟨by decide +kernel, rfl⟩
theorem eX0_keep_46 : sl_D YX0_keep 46 (.getfield 9) 3 49 := ⟨by decide +kernel, rfl⟩
theorem eX0_keep_49 : sl_D YX0_keep 49 (.aload_n 0) 1 50 := ⟨by decide +kernel, rfl⟩
theorem eX0_keep_50 : sl_D YX0_keep 50 (.getfield 18) 3 53 := ⟨by decide +kernel, rfl⟩
theorem eX0_keep_53 : sl_D YX0_keep 53 (.iload_n 1) 1 54 := ⟨by decide +kernel, rfl⟩
theorem eX0_keep_54 : sl_D YX0_keep 54 (.iastore) 1 55 := ⟨by decide +kernel, rfl⟩
theorem eX0_keep_55 : sl_D YX0_keep 55 (.aload_n 0) 1 56 := ⟨by decide +kernel, rfl⟩
theorem eX0_keep_56 : sl_D YX0_keep 56 (.getfield 15) 3 59 := ⟨by decide +kernel, rfl⟩
theorem eX0_keep_59 : sl_D YX0_keep 59 (.aload_n 0) 1 60 := ⟨by decide +kernel, rfl⟩
theorem eX0_keep_60 : sl_D YX0_keep 60 (.getfield 18) 3 63 := ⟨by decide +kernel, rfl⟩
theorem eX0_keep_63 : sl_D YX0_keep 63 (.iload_n 2) 1 64 := ⟨by decide +kernel, rfl⟩
theorem eX0_keep_64 : sl_D YX0_keep 64 (.iastore) 1 65 := ⟨by decide +kernel, rfl⟩
theorem eX0_keep_65 : sl_D YX0_keep 65 (.aload_n 0) 1 66 := ⟨by decide +kernel, rfl⟩
theorem eX0_keep_66 : sl_D YX0_keep 66 (.dup) 1 67 := ⟨by decide +kernel, rfl⟩
theorem eX0_keep_67 : sl_D YX0_keep 67 (.getfield 18) 3 70 := ⟨by decide +kernel, rfl⟩
theorem eX0_keep_70 : sl_D YX0_keep 70 (.iconst 1) 1 71 := ⟨by decide +kernel, rfl⟩
theorem eX0_keep_71 : sl_D YX0_keep 71 (.iadd) 1 72 := ⟨by decide +kernel, rfl⟩
theorem eX0_keep_72 : sl_D YX0_keep 72 (.putfield 18) 3 75 := ⟨by decide +kernel, rfl⟩
theorem eX0_keep_75 : sl_D YX0_keep 75 (.return_) 1 76 := ⟨by decide +kernel, rfl⟩
theorem eX0_takeBack_0 : sl_D YX0_takeBack 0 (.aload_n 0) 1 1 := ⟨by decide +kernel, rfl⟩
theorem eX0_takeBack_1 : sl_D YX0_takeBack 1 (.getfield 18) 3 4 := ⟨by decide +kernel, rfl⟩
theorem eX0_takeBack_4 : sl_B YX0_takeBack 4 (fun o => .ifCond .ne o) 7 8 := ⟨4, by decide +kernel, rfl, by decide⟩
theorem eX0_takeBack_7 : sl_D YX0_takeBack 7 (.return_) 1 8 := ⟨by decide +kernel, rfl⟩
theorem eX0_takeBack_8 : sl_D YX0_takeBack 8 (.aload_n 0) 1 9 := ⟨by decide +kernel, rfl⟩
theorem eX0_takeBack_9 : sl_D YX0_takeBack 9 (.dup) 1 10 := ⟨by decide +kernel, rfl⟩
theorem eX0_takeBack_10 : sl_D YX0_takeBack 10 (.getfield 18) 3 13 := ⟨by decide +kernel, rfl⟩
theorem eX0_takeBack_13 : sl_D YX0_takeBack 13 (.iconst 1) 1 14 := ⟨by decide +kernel, rfl⟩
theorem eX0_takeBack_14 : sl_D YX0_takeBack 14 (.isub) 1 15 := ⟨by decide +kernel, rfl⟩
theorem eX0_takeBack_15 : sl_D YX0_takeBack 15 (.putfield 18) 3 18 := ⟨by decide +kernel, rfl⟩
theorem eX0_takeBack_18 : sl_D YX0_takeBack 18 (.aload_n 0) 1 19 := ⟨by decide +kernel, rfl⟩
theorem eX0_takeBack_19 : sl_D YX0_takeBack 19 (.getfield 9) 3 22 := ⟨by decide +kernel, rfl⟩
theorem eX0_takeBack_22 : sl_D YX0_takeBack 22 (.aload_n 0) 1 23 := ⟨by decide +kernel, rfl⟩
theorem eX0_takeBack_23 : sl_D YX0_takeBack 23 (.getfield 18) 3 26 := ⟨by decide +kernel, rfl⟩
theorem eX0_takeBack_26 : sl_D YX0_takeBack 26 (.iaload) 1 27 := ⟨by decide +kernel, rfl⟩
theorem eX0_takeBack_27 : sl_D YX0_takeBack 27 (.istore_n 2) 1 28 := ⟨by decide +kernel, rfl⟩
theorem eX0_takeBack_28 : sl_D YX0_takeBack 28 (.iload_n 2) 1 29 := ⟨by decide +kernel, rfl⟩
theorem eX0_takeBack_29 : sl_D YX0_takeBack 29 (.iconst (-1)) 1 30 := ⟨by decide +kernel, rfl⟩
theorem eX0_takeBack_30 : sl_B YX0_takeBack 30 (fun o => .if_icmp .ne o) 33 49 := ⟨19, by decide +kernel, rfl, by decide⟩
theorem eX0_takeBack_33 : sl_D YX0_takeBack 33 (.aload_n 1) 1 34 := ⟨by decide +kernel, rfl⟩
theorem eX0_takeBack_34 : sl_D YX0_takeBack 34 (.aload_n 0) 1 35 := ⟨by decide +kernel, rfl⟩
theorem eX0_takeBack_35 : sl_D YX0_takeBack 35 (.getfield 15) 3 38 := ⟨by decide +kernel, rfl⟩
theorem eX0_takeBack_38 : sl_D YX0_takeBack 38 (.aload_n 0) 1 39 := ⟨by decide +kernel, rfl⟩
theorem eX0_takeBack_39 : sl_D YX0_takeBack 39 (.getfield 18) 3 42 := ⟨by decide +kernel, rfl⟩
theorem eX0_takeBack_42 : sl_D YX0_takeBack 42 (.iaload) 1 43 := ⟨by decide +kernel, rfl⟩
theorem eX0_takeBack_43 : sl_D YX0_takeBack 43 (.putfield 28) 3 46 := ⟨by decide +kernel, rfl⟩
theorem eX0_takeBack_46 : sl_B YX0_takeBack 46 (fun o => .goto o) 49 83 := ⟨37, by decide +kernel, rfl, by decide⟩
theorem eX0_takeBack_49 : sl_D YX0_takeBack 49 (.iload_n 2) 1 50 := ⟨by decide +kernel, rfl⟩
theorem eX0_takeBack_50 : sl_B YX0_takeBack 50 (fun o => .ifCond .lt o) 53 83 := ⟨33, by decide +kernel, rfl, by decide⟩
theorem eX0_takeBack_53 : sl_D YX0_takeBack 53 (.iload_n 2) 1 54 := ⟨by decide +kernel, rfl⟩
theorem eX0_takeBack_54 : sl_D YX0_takeBack 54 (.bipush 12) 2 56 := ⟨by decide +kernel, rfl⟩
theorem eX0_takeBack_56 : sl_B YX0_takeBack 56 (fun o => .if_icmp .ge o) 59 83 := ⟨27, by decide +kernel, rfl, by decide⟩
theorem eX0_takeBack_59 : sl_D YX0_takeBack 59 (.aload_n 1) 1 60 := ⟨by decide +kernel, rfl⟩
theorem eX0_takeBack_60 : sl_D YX0_takeBack 60 (.getfield 33) 3 63 := ⟨by decide +kernel, rfl⟩
theorem eX0_takeBack_63 : sl_D YX0_takeBack 63 (.iload_n 2) 1 64 := ⟨by decide +kernel, rfl⟩
theorem eX0_takeBack_64 : sl_D YX0_takeBack 64 (.aload_n 0) 1 65 := ⟨by decide +kernel, rfl⟩
theorem eX0_takeBack_65 : sl_D YX0_takeBack 65 (.getfield 15) 3 68 := ⟨by decide +kernel, rfl⟩
theorem eX0_takeBack_68 : sl_D YX0_takeBack 68 (.aload_n 0) 1 69 := ⟨by decide +kernel, rfl⟩
theorem eX0_takeBack_69 : sl_D YX0_takeBack 69 (.getfield 18) 3 72 := ⟨by decide +kernel, rfl⟩
theorem eX0_takeBack_72 : sl_D YX0_takeBack 72 (.iaload) 1 73 := ⟨by decide +kernel, rfl⟩
theorem eX0_takeBack_73 : sl_D YX0_takeBack 73 (.iconst 1) 1 74 := ⟨by decide +kernel, rfl⟩
theorem eX0_takeBack_74 : sl_B YX0_takeBack 74 (fun o => .if_icmp .ne o) 77 81 := ⟨7, by decide +kernel, rfl, by decide⟩
theorem eX0_takeBack_77 : sl_D YX0_takeBack 77 (.iconst 1) 1 78 := ⟨by decide +kernel, rfl⟩
theorem eX0_takeBack_78 : sl_B YX0_takeBack 78 (fun o => .goto o) 81 82 := ⟨4, by decide +kernel, rfl, by decide⟩
theorem eX0_takeBack_81 : sl_D YX0_takeBack 81 (.iconst 0) 1 82 := ⟨by decide +kernel, rfl⟩
theorem eX0_takeBack_82 : sl_D YX0_takeBack 82 (.bastore) 1 83 := ⟨by decide +kernel, rfl⟩
theorem eX0_takeBack_83 : sl_D YX0_takeBack 83 (.return_) 1 84 := ⟨by decide +kernel, rfl⟩
theorem eX1_init_0 : sl_D YX1_init 0 (.aload_n 0) 1 1 := ⟨by decide +kernel, rfl⟩
theorem eX1_init_1 : sl_D YX1_init 1 (.invokespecial 3) 3 4 := ⟨by decide +kernel, rfl⟩
theorem eX1_init_4 : sl_D YX1_init 4 (.aload_n 0) 1 5 := ⟨by decide +kernel, rfl⟩
theorem eX1_init_5 : sl_D YX1_init 5 (.bipush 60) 2 7 := ⟨by decide +kernel, rfl⟩
theorem eX1_init_7 : sl_D YX1_init 7 (.newarray .int) 2 9 := ⟨by decide +kernel, rfl⟩
theorem eX1_init_9 : sl_D YX1_init 9 (.putfield 9) 3 12 := ⟨by decide +kernel, rfl⟩
theorem eX1_init_12 : sl_D YX1_init 12 (.aload_n 0) 1 13 := ⟨by decide +kernel, rfl⟩
theorem eX1_init_13 : sl_D YX1_init 13 (.bipush 60) 2 15 := ⟨by decide +kernel, rfl⟩
theorem eX1_init_15 : sl_D YX1_init 15 (.newarray .int) 2 17 := ⟨by decide +kernel, rfl⟩
theorem eX1_init_17 : sl_D YX1_init 17 (.putfield 15) 3 20 := ⟨by decide +kernel, rfl⟩
theorem eX1_init_20 : sl_D YX1_init 20 (.aload_n 0) 1 21 := ⟨by decide +kernel, rfl⟩
theorem eX1_init_21 : sl_D YX1_init 21 (.bipush 60) 2 23 := ⟨by decide +kernel, rfl⟩
theorem eX1_init_23 : sl_D YX1_init 23 (.newarray .boolean) 2 25 := ⟨by decide +kernel, rfl⟩
theorem eX1_init_25 : sl_D YX1_init 25 (.putfield 18) 3 28 := ⟨by decide +kernel, rfl⟩
theorem eX1_init_28 : sl_D YX1_init 28 (.aload_n 0) 1 29 := ⟨by decide +kernel, rfl⟩
theorem eX1_init_29 : sl_D YX1_init 29 (.bipush 60) 2 31 := ⟨by decide +kernel, rfl⟩
theorem eX1_init_31 : sl_D YX1_init 31 (.newarray .int) 2 33 := ⟨by decide +kernel, rfl⟩
theorem eX1_init_33 : sl_D YX1_init 33 (.putfield 22) 3 36 := ⟨by decide +kernel, rfl⟩
theorem eX1_init_36 : sl_D YX1_init 36 (.return_) 1 37 := ⟨by decide +kernel, rfl⟩
theorem eX1_scan_0 : sl_D YX1_scan 0 (.aload_n 0) 1 1 := ⟨by decide +kernel, rfl⟩
theorem eX1_scan_1 : sl_D YX1_scan 1 (.aload_n 1) 1 2 := ⟨by decide +kernel, rfl⟩
theorem eX1_scan_2 : sl_D YX1_scan 2 (.putfield 25) 3 5 := ⟨by decide +kernel, rfl⟩
theorem eX1_scan_5 : sl_D YX1_scan 5 (.aload_n 0) 1 6 := ⟨by decide +kernel, rfl⟩
theorem eX1_scan_6 : sl_D YX1_scan 6 (.iload_n 2) 1 7 := ⟨by decide +kernel, rfl⟩
theorem eX1_scan_7 : sl_D YX1_scan 7 (.putfield 29) 3 10 := ⟨by decide +kernel, rfl⟩
theorem eX1_scan_10 : sl_D YX1_scan 10 (.aload_n 0) 1 11 := ⟨by decide +kernel, rfl⟩
theorem eX1_scan_11 : sl_D YX1_scan 11 (.iconst (-1)) 1 12 := ⟨by decide +kernel, rfl⟩
theorem eX1_scan_12 : sl_D YX1_scan 12 (.putfield 33) 3 15 := ⟨by decide +kernel, rfl⟩
theorem eX1_scan_15 : sl_D YX1_scan 15 (.aload_n 0) 1 16 := ⟨by decide +kernel, rfl⟩
theorem eX1_scan_16 : sl_D YX1_scan 16 (.iconst 0) 1 17 := ⟨by decide +kernel, rfl⟩
theorem eX1_scan_17 : sl_D YX1_scan 17 (.putfield 36) 3 20 := ⟨by decide +kernel, rfl⟩
theorem eX1_scan_20 : sl_D YX1_scan 20 (.aload_n 0) 1 21 := ⟨by decide +kernel, rfl⟩
theorem eX1_scan_21 : sl_D YX1_scan 21 (.iconst 0) 1 22 := ⟨by decide +kernel, rfl⟩
theorem eX1_scan_22 : sl_D YX1_scan 22 (.putfield 39) 3 25 := ⟨by decide +kernel, rfl⟩
theorem eX1_scan_25 : sl_D YX1_scan 25 (.iconst 0) 1 26 := ⟨by decide +kernel, rfl⟩
theorem eX1_scan_26 : sl_D YX1_scan 26 (.istore_n 3) 1 27 := ⟨by decide +kernel, rfl⟩
theorem eX1_scan_27 : sl_D YX1_scan 27 (.iload_n 3) 1 28 := ⟨by decide +kernel, rfl⟩
theorem eX1_scan_28 : sl_D YX1_scan 28 (.iload_n 2) 1 29 := ⟨by decide +kernel, rfl⟩
theorem eX1_scan_29 : sl_B YX1_scan 29 (fun o => .if_icmp .ge o) 32 58 := ⟨29, by decide +kernel, rfl, by decide⟩
theorem eX1_scan_32 : sl_D YX1_scan 32 (.aload_n 0) 1 33 := ⟨by decide +kernel, rfl⟩
theorem eX1_scan_33 : sl_D YX1_scan 33 (.getfield 39) 3 36 := ⟨by decide +kernel, rfl⟩
theorem eX1_scan_36 : sl_D YX1_scan 36 (.iload_n 2) 1 37 := ⟨by decide +kernel, rfl⟩
theorem eX1_scan_37 : sl_B YX1_scan 37 (fun o => .if_icmp .ge o) 40 58 := ⟨21, by decide +kernel, rfl, by decide⟩
theorem eX1_scan_40 : sl_D YX1_scan 40 (.aload_n 0) 1 41 := ⟨by decide +kernel, rfl⟩
theorem eX1_scan_41 : sl_D YX1_scan 41 (.getfield 33) 3 44 := ⟨by decide +kernel, rfl⟩
theorem eX1_scan_44 : sl_D YX1_scan 44 (.iconst (-1)) 1 45 := ⟨by decide +kernel, rfl⟩
theorem eX1_scan_45 : sl_B YX1_scan 45 (fun o => .if_icmp .ne o) 48 58 := ⟨13, by decide +kernel, rfl, by decide⟩
theorem eX1_scan_48 : sl_D YX1_scan 48 (.aload_n 0) 1 49 := ⟨by decide +kernel, rfl⟩
theorem eX1_scan_49 : sl_D YX1_scan 49 (.invokevirtual 42) 3 52 := ⟨by decide +kernel, rfl⟩
theorem eX1_scan_52 : sl_D YX1_scan 52 (.iinc 3 1) 3 55 := ⟨by decide +kernel, rfl⟩
theorem eX1_scan_55 : sl_B YX1_scan 55 (fun o => .goto o) 58 27 := ⟨-28, by decide +kernel, rfl, by decide⟩
theorem eX1_scan_58 : sl_D YX1_scan 58 (.return_) 1 59 := ⟨by decide +kernel, rfl⟩
theorem eX1_tokenCount_0 : sl_D YX1_tokenCount 0 (.aload_n 0) 1 1 := ⟨by decide +kernel, rfl⟩
theorem eX1_tokenCount_1 : sl_D YX1_tokenCount 1 (.getfield 33) 3 4 := ⟨by decide +kernel, rfl⟩
theorem eX1_tokenCount_4 : sl_D YX1_tokenCount 4 (.iconst (-1)) 1 5 := ⟨by decide +kernel, rfl⟩
theorem eX1_tokenCount_5 : sl_B YX1_tokenCount 5 (fun o => .if_icmp .ne o) 8 15 := ⟨10, by decide +kernel, rfl, by decide⟩
theorem eX1_tokenCount_8 : sl_D YX1_tokenCount 8 (.aload_n 0) 1 9 := ⟨by decide +kernel, rfl⟩
theorem eX1_tokenCount_9 : sl_D YX1_tokenCount 9 (.getfield 36) 3 12 := ⟨by decide +kernel, rfl⟩
theorem eX1_tokenCount_12 : sl_B YX1_tokenCount 12 (fun o => .goto o) 15 16 := ⟨4, by decide +kernel, rfl, by decide⟩
theorem eX1_tokenCount_15 : sl_D YX1_tokenCount 15 (.iconst 0) 1 16 := ⟨by decide +kernel, rfl⟩
theorem eX1_tokenCount_16 : sl_D YX1_tokenCount 16 (.ireturn) 1 17 := ⟨by decide +kernel, rfl⟩
theorem eX1_byteAt_0 : sl_D YX1_byteAt 0 (.aload_n 0) 1 1 := ⟨by decide +kernel, rfl⟩
theorem eX1_byteAt_1 : sl_D YX1_byteAt 1 (.getfield 25) 3 4 := ⟨by decide +kernel, rfl⟩
theorem eX1_byteAt_4 : sl_D YX1_byteAt 4 (.iload_n 1) 1 5 := ⟨by decide +kernel, rfl⟩
theorem eX1_byteAt_5 : sl_D YX1_byteAt 5 (.baload) 1 6 := ⟨by decide +kernel, rfl⟩
theorem eX1_byteAt_6 : sl_D YX1_byteAt 6 (.sipush 255) 3 9 := ⟨by decide +kernel, rfl⟩
theorem eX1_byteAt_9 : sl_D YX1_byteAt 9 (.iand) 1 10 := ⟨by decide +kernel, rfl⟩
theorem eX1_byteAt_10 : sl_D YX1_byteAt 10 (.ireturn) 1 11 := ⟨by decide +kernel, rfl⟩
theorem eX1_isDigit_0 : sl_D YX1_isDigit 0 (.iload_n 1) 1 1 := ⟨by decide +kernel, rfl⟩
theorem eX1_isDigit_1 : sl_D YX1_isDigit 1 (.aload_n 0) 1 2 := ⟨by decide +kernel, rfl⟩
theorem eX1_isDigit_2 : sl_D YX1_isDigit 2 (.getfield 29) 3 5 := ⟨by decide +kernel, rfl⟩
theorem eX1_isDigit_5 : sl_B YX1_isDigit 5 (fun o => .if_icmp .ge o) 8 32 := ⟨27, by decide +kernel, rfl, by decide⟩
theorem eX1_isDigit_8 : sl_D YX1_isDigit 8 (.aload_n 0) 1 9 := ⟨by decide +kernel, rfl⟩
theorem eX1_isDigit_9 : sl_D YX1_isDigit 9 (.iload_n 1) 1 10 := ⟨by decide +kernel, rfl⟩
theorem eX1_isDigit_10 : sl_D YX1_isDigit 10 (.invokevirtual 45) 3 13 := ⟨by decide +kernel, rfl⟩
theorem eX1_isDigit_13 : sl_D YX1_isDigit 13 (.bipush 48) 2 15 := ⟨by decide +kernel, rfl⟩
theorem eX1_isDigit_15 : sl_B YX1_isDigit 15 (fun o => .if_icmp .lt o) 18 32 := ⟨17, by decide +kernel, rfl, by decide⟩
theorem eX1_isDigit_18 : sl_D YX1_isDigit 18 (.aload_n 0) 1 19 := ⟨by decide +kernel, rfl⟩
theorem eX1_isDigit_19 : sl_D YX1_isDigit 19 (.iload_n 1) 1 20 := ⟨by decide +kernel, rfl⟩
theorem eX1_isDigit_20 : sl_D YX1_isDigit 20 (.invokevirtual 45) 3 23 := ⟨by decide +kernel, rfl⟩
theorem eX1_isDigit_23 : sl_D YX1_isDigit 23 (.bipush 57) 2 25 := ⟨by decide +kernel, rfl⟩
theorem eX1_isDigit_25 : sl_B YX1_isDigit 25 (fun o => .if_icmp .gt o) 28 32 := ⟨7, by decide +kernel, rfl, by decide⟩
theorem eX1_isDigit_28 : sl_D YX1_isDigit 28 (.iconst 1) 1 29 := ⟨by decide +kernel, rfl⟩
theorem eX1_isDigit_29 : sl_B YX1_isDigit 29 (fun o => .goto o) 32 33 := ⟨4, by decide +kernel, rfl, by decide⟩
theorem eX1_isDigit_32 : sl_D YX1_isDigit 32 (.iconst 0) 1 33 := ⟨by decide +kernel, rfl⟩
theorem eX1_isDigit_33 : sl_D YX1_isDigit 33 (.ireturn) 1 34 := ⟨by decide +kernel, rfl⟩
theorem eX1_scanNext_0 : sl_D YX1_scanNext 0 (.aload_n 0) 1 1 := ⟨by decide +kernel, rfl⟩
theorem eX1_scanNext_1 : sl_D YX1_scanNext 1 (.aload_n 0) 1 2 := ⟨by decide +kernel, rfl⟩
theorem eX1_scanNext_2 : sl_D YX1_scanNext 2 (.getfield 39) 3 5 := ⟨by decide +kernel, rfl⟩
theorem eX1_scanNext_5 : sl_D YX1_scanNext 5 (.invokevirtual 45) 3 8 := ⟨by decide +kernel, rfl⟩
theorem eX1_scanNext_8 : sl_D YX1_scanNext 8 (.istore_n 1) 1 9 := ⟨by decide +kernel, rfl⟩
theorem eX1_scanNext_9 : sl_D YX1_scanNext 9 (.iload_n 1) 1 10 := ⟨by decide +kernel, rfl⟩
theorem eX1_scanNext_10 : sl_D YX1_scanNext 10 (.bipush 32) 2 12 := ⟨by decide +kernel, rfl⟩
theorem eX1_scanNext_12 : sl_B YX1_scanNext 12 (fun o => .if_icmp .ne o) 15 28 := ⟨16, by decide +kernel, rfl, by decide⟩
theorem eX1_scanNext_15 : sl_D YX1_scanNext 15 (.aload_n 0) 1 16 := ⟨by decide +kernel, rfl⟩
theorem eX1_scanNext_16 : sl_D YX1_scanNext 16 (.dup) 1 17 := ⟨by decide +kernel, rfl⟩
theorem eX1_scanNext_17 : sl_D YX1_scanNext 17 (.getfield 39) 3 20 := ⟨by decide +kernel, rfl⟩
theorem eX1_scanNext_20 : sl_D YX1_scanNext 20 (.iconst 1) 1 21 := ⟨by decide +kernel, rfl⟩
theorem eX1_scanNext_21 : sl_D YX1_scanNext 21 (.iadd) 1 22 := ⟨by decide +kernel, rfl⟩
theorem eX1_scanNext_22 : sl_D YX1_scanNext 22 (.putfield 39) 3 25 := ⟨by decide +kernel, rfl⟩
theorem eX1_scanNext_25 : sl_B YX1_scanNext 25 (fun o => .goto o) 28 80 := ⟨55, by decide +kernel, rfl, by decide⟩
theorem eX1_scanNext_28 : sl_D YX1_scanNext 28 (.aload_n 0) 1 29 := ⟨by decide +kernel, rfl⟩
theorem eX1_scanNext_29 : sl_D YX1_scanNext 29 (.aload_n 0) 1 30 := ⟨by decide +kernel, rfl⟩
theorem eX1_scanNext_30 : sl_D YX1_scanNext 30 (.getfield 39) 3 33 := ⟨by decide +kernel, rfl⟩
theorem eX1_scanNext_33 : sl_D YX1_scanNext 33 (.invokevirtual 49) 3 36 := ⟨by decide +kernel, rfl⟩
theorem eX1_scanNext_36 : sl_B YX1_scanNext 36 (fun o => .ifCond .eq o) 39 46 := ⟨10, by decide +kernel, rfl, by decide⟩
theorem eX1_scanNext_39 : sl_D YX1_scanNext 39 (.aload_n 0) 1 40 := ⟨by decide +kernel, rfl⟩
theorem eX1_scanNext_40 : sl_D YX1_scanNext 40 (.invokevirtual 53) 3 43 := ⟨by decide +kernel, rfl⟩
theorem eX1_scanNext_43 : sl_B YX1_scanNext 43 (fun o => .goto o) 46 80 := ⟨37, by decide +kernel, rfl, by decide⟩
theorem eX1_scanNext_46 : sl_D YX1_scanNext 46 (.ldc 56) 2 48 := ⟨by decide +kernel, rfl⟩
theorem eX1_scanNext_48 : sl_D YX1_scanNext 48 (.iload_n 1) 1 49 := ⟨by decide +kernel, rfl⟩
theorem eX1_scanNext_49 : sl_D YX1_scanNext 49 (.i2c) 1 50 := ⟨by decide +kernel, rfl⟩
theorem eX1_scanNext_50 : sl_D YX1_scanNext 50 (.invokevirtual 58) 3 53 := ⟨by decide +kernel, rfl⟩
theorem eX1_scanNext_53 : sl_B YX1_scanNext 53 (fun o => .ifCond .lt o) 56 72 := ⟨19, by decide +kernel, rfl, by decide⟩
theorem eX1_scanNext_56 : sl_D YX1_scanNext 56 (.aload_n 0) 1 57 := ⟨by decide +kernel, rfl⟩
theorem eX1_scanNext_57 : sl_D YX1_scanNext 57 (.iload_n 1) 1 58 := ⟨by decide +kernel, rfl⟩
theorem eX1_scanNext_58 : sl_D YX1_scanNext 58 (.iconst 0) 1 59 := ⟨by decide +kernel, rfl⟩
theorem eX1_scanNext_59 : sl_D YX1_scanNext 59 (.iconst 0) 1 60 := ⟨by decide +kernel, rfl⟩
theorem eX1_scanNext_60 : sl_D YX1_scanNext 60 (.aload_n 0) 1 61 := ⟨by decide +kernel, rfl⟩
theorem eX1_scanNext_61 : sl_D YX1_scanNext 61 (.getfield 39) 3 64 := ⟨by decide +kernel, rfl⟩
theorem eX1_scanNext_64 : sl_D YX1_scanNext 64 (.iconst 1) 1 65 := ⟨by decide +kernel, rfl⟩
theorem eX1_scanNext_65 : sl_D YX1_scanNext 65 (.iadd) 1 66 := ⟨by decide +kernel, rfl⟩
theorem eX1_scanNext_66 : sl_D YX1_scanNext 66 (.invokevirtual 63) 3 69 := ⟨by decide +kernel, rfl⟩
theorem eX1_scanNext_69 : sl_B YX1_scanNext 69 (fun o => .goto o) 72 80 := ⟨11, by decide +kernel, rfl, by decide⟩
theorem eX1_scanNext_72 : sl_D YX1_scanNext 72 (.aload_n 0) 1 73 := ⟨by decide +kernel, rfl⟩
theorem eX1_scanNext_73 : sl_D YX1_scanNext 73 (.aload_n 0) 1 74 := ⟨by decide +kernel, rfl⟩
theorem eX1_scanNext_74 : sl_D YX1_scanNext 74 (.getfield 39) 3 77 := ⟨by decide +kernel, rfl⟩
theorem eX1_scanNext_77 : sl_D YX1_scanNext 77 (.putfield 33) 3 80 := ⟨by decide +kernel, rfl⟩
theorem eX1_scanNext_80 : sl_D YX1_scanNext 80 (.return_) 1 81 := ⟨by decide +kernel, rfl⟩
theorem eX1_digitsEnd_0 : sl_D YX1_digitsEnd 0 (.iload_n 1) 1 1 := ⟨by decide +kernel, rfl⟩
theorem eX1_digitsEnd_1 : sl_D YX1_digitsEnd 1 (.istore_n 2) 1 2 := ⟨by decide +kernel, rfl⟩
theorem eX1_digitsEnd_2 : sl_D YX1_digitsEnd 2 (.iload_n 2) 1 3 := ⟨by decide +kernel, rfl⟩
theorem eX1_digitsEnd_3 : sl_D YX1_digitsEnd 3 (.aload_n 0) 1 4 := ⟨by decide +kernel, rfl⟩
theorem eX1_digitsEnd_4 : sl_D YX1_digitsEnd 4 (.getfield 29) 3 7 := ⟨by decide +kernel, rfl⟩
theorem eX1_digitsEnd_7 : sl_B YX1_digitsEnd 7 (fun o => .if_icmp .ge o) 10 26 := ⟨19, by decide +kernel, rfl, by decide⟩
theorem eX1_digitsEnd_10 : sl_D YX1_digitsEnd 10 (.aload_n 0) 1 11 := ⟨by decide +kernel, rfl⟩
theorem eX1_digitsEnd_11 : sl_D YX1_digitsEnd 11 (.iload_n 2) 1 12 := ⟨by decide +kernel, rfl⟩
theorem eX1_digitsEnd_12 : sl_D YX1_digitsEnd 12 (.invokevirtual 49) 3 15 := ⟨by decide +kernel, rfl⟩
theorem eX1_digitsEnd_15 : sl_B YX1_digitsEnd 15 (fun o => .ifCond .ne o) 18 20 := ⟨5, by decide +kernel, rfl, by decide⟩
theorem eX1_digitsEnd_18 : sl_D YX1_digitsEnd 18 (.iload_n 2) 1 19 := ⟨by decide +kernel, rfl⟩
theorem eX1_digitsEnd_19 : sl_D YX1_digitsEnd 19 (.ireturn) 1 20 := ⟨by decide +kernel, rfl⟩
theorem eX1_digitsEnd_20 : sl_D YX1_digitsEnd 20 (.iinc 2 1) 3 23 := ⟨by decide +kernel, rfl⟩
theorem eX1_digitsEnd_23 : sl_B YX1_digitsEnd 23 (fun o => .goto o) 26 2 := ⟨-21, by decide +kernel, rfl, by decide⟩
theorem eX1_digitsEnd_26 : sl_D YX1_digitsEnd 26 (.aload_n 0) 1 27 := ⟨by decide +kernel, rfl⟩
theorem eX1_digitsEnd_27 : sl_D YX1_digitsEnd 27 (.getfield 29) 3 30 := ⟨by decide +kernel, rfl⟩
theorem eX1_digitsEnd_30 : sl_D YX1_digitsEnd 30 (.ireturn) 1 31 := ⟨by decide +kernel, rfl⟩
theorem eX1_scanOperand_0 : sl_D YX1_scanOperand 0 (.aload_n 0) 1 1 := ⟨by decide +kernel, rfl⟩
theorem eX1_scanOperand_1 : sl_D YX1_scanOperand 1 (.aload_n 0) 1 2 := ⟨by decide +kernel, rfl⟩
theorem eX1_scanOperand_2 : sl_D YX1_scanOperand 2 (.getfield 39) 3 5 := ⟨by decide +kernel, rfl⟩
theorem eX1_scanOperand_5 : sl_D YX1_scanOperand 5 (.invokevirtual 67) 3 8 := ⟨by decide +kernel, rfl⟩
theorem eX1_scanOperand_8 : sl_D YX1_scanOperand 8 (.istore_n 1) 1 9 := ⟨by decide +kernel, rfl⟩
theorem eX1_scanOperand_9 : sl_D YX1_scanOperand 9 (.iload_n 1) 1 10 := ⟨by decide +kernel, rfl⟩
theorem eX1_scanOperand_10 : sl_D YX1_scanOperand 10 (.aload_n 0) 1 11 := ⟨by decide +kernel, rfl⟩
theorem eX1_scanOperand_11 : sl_D YX1_scanOperand 11 (.getfield 29) 3 14 := ⟨by decide +kernel, rfl⟩
theorem eX1_scanOperand_14 : sl_B YX1_scanOperand 14 (fun o => .if_icmp .ge o) 17 31 := ⟨17, by decide +kernel, rfl, by decide⟩
theorem eX1_scanOperand_17 : sl_D YX1_scanOperand 17 (.aload_n 0) 1 18 := ⟨by decide +kernel, rfl⟩
theorem eX1_scanOperand_18 : sl_D YX1_scanOperand 18 (.iload_n 1) 1 19 := ⟨by decide +kernel, rfl⟩
theorem eX1_scanOperand_19 : sl_D YX1_scanOperand 19 (.invokevirtual 45) 3 22 := ⟨by decide +kernel, rfl⟩
theorem eX1_scanOperand_22 : sl_D YX1_scanOperand 22 (.bipush 46) 2 24 := ⟨by decide +kernel, rfl⟩
theorem eX1_scanOperand_24 : sl_B YX1_scanOperand 24 (fun o => .if_icmp .ne o) 27 31 := ⟨7, by decide +kernel, rfl, by decide⟩
theorem eX1_scanOperand_27 : sl_D YX1_scanOperand 27 (.iconst 1) 1 28 := ⟨by decide +kernel, rfl⟩
theorem eX1_scanOperand_28 : sl_B YX1_scanOperand 28 (fun o => .goto o) 31 32 := ⟨4, by decide +kernel, rfl, by decide⟩
theorem eX1_scanOperand_31 : sl_D YX1_scanOperand 31 (.iconst 0) 1 32 := ⟨by decide +kernel, rfl⟩
theorem eX1_scanOperand_32 : sl_D YX1_scanOperand 32 (.istore_n 2) 1 33 := ⟨by decide +kernel, rfl⟩
theorem eX1_scanOperand_33 : sl_D YX1_scanOperand 33 (.iload_n 2) 1 34 := ⟨by decide +kernel, rfl⟩
theorem eX1_scanOperand_34 : sl_B YX1_scanOperand 34 (fun o => .ifCond .eq o) 37 47 := ⟨13, by decide +kernel, rfl, by decide⟩
theorem eX1_scanOperand_37 : sl_D YX1_scanOperand 37 (.aload_n 0) 1 38 := ⟨by decide +kernel, rfl⟩
theorem eX1_scanOperand_38 : sl_D YX1_scanOperand 38 (.iload_n 1) 1 39 := ⟨by decide +kernel, rfl⟩
theorem eX1_scanOperand_39 : sl_D YX1_scanOperand 39 (.iconst 1) 1 40 := ⟨by decide +kernel, rfl⟩
theorem eX1_scanOperand_40 : sl_D YX1_scanOperand 40 (.iadd) 1 41 := ⟨by decide +kernel, rfl⟩
theorem eX1_scanOperand_41 : sl_D YX1_scanOperand 41 (.invokevirtual 67) 3 44 := ⟨by decide +kernel, rfl⟩
theorem eX1_scanOperand_44 : sl_B YX1_scanOperand 44 (fun o => .goto o) 47 48 := ⟨4, by decide +kernel, rfl, by decide⟩
theorem eX1_scanOperand_47 : sl_D YX1_scanOperand 47 (.iload_n 1) 1 48 := ⟨by decide +kernel, rfl⟩
theorem eX1_scanOperand_48 : sl_D YX1_scanOperand 48 (.istore_n 3) 1 49 := ⟨by decide +kernel, rfl⟩
theorem eX1_scanOperand_49 : sl_D YX1_scanOperand 49 (.iload_n 2) 1 50 := ⟨by decide +kernel, rfl⟩
theorem eX1_scanOperand_50 : sl_B YX1_scanOperand 50 (fun o => .ifCond .eq o) 53 61 := ⟨11, by decide +kernel, rfl, by decide⟩
theorem eX1_scanOperand_53 : sl_D YX1_scanOperand 53 (.iload_n 3) 1 54 := ⟨by decide +kernel, rfl⟩
theorem eX1_scanOperand_54 : sl_D YX1_scanOperand 54 (.iload_n 1) 1 55 := ⟨by decide +kernel, rfl⟩
theorem eX1_scanOperand_55 : sl_D YX1_scanOperand 55 (.isub) 1 56 := ⟨by decide +kernel, rfl⟩
theorem eX1_scanOperand_56 : sl_D YX1_scanOperand 56 (.iconst 1) 1 57 := ⟨by decide +kernel, rfl⟩
theorem eX1_scanOperand_57 : sl_D YX1_scanOperand 57 (.isub) 1 58 := ⟨by decide +kernel, rfl⟩
theorem eX1_scanOperand_58 : sl_B YX1_scanOperand 58 (fun o => .goto o) 61 62 := ⟨4, by decide +kernel, rfl, by decide⟩
theorem eX1_scanOperand_61 : sl_D YX1_scanOperand 61 (.iconst 0) 1 62 := ⟨by decide +kernel, rfl⟩
theorem eX1_scanOperand_62 : sl_D YX1_scanOperand 62 (.istore 4) 2 64 := ⟨by decide +kernel, rfl⟩
theorem eX1_scanOperand_64 : sl_D YX1_scanOperand 64 (.iload_n 1) 1 65 := ⟨by decide +kernel, rfl⟩
theorem eX1_scanOperand_65 : sl_D YX1_scanOperand 65 (.aload_n 0) 1 66 := ⟨by decide +kernel, rfl⟩
theorem eX1_scanOperand_66 : sl_D YX1_scanOperand 66 (.getfield 39) 3 69 := ⟨by decide +kernel, rfl⟩
theorem eX1_scanOperand_69 : sl_D YX1_scanOperand 69 (.isub) 1 70 := ⟨by decide +kernel, rfl⟩
theorem eX1_scanOperand_70 : sl_D YX1_scanOperand 70 (.iconst 4) 1 71 := ⟨by decide +kernel, rfl⟩
theorem eX1_scanOperand_71 : sl_B YX1_scanOperand 71 (fun o => .if_icmp .gt o) 74 89 := ⟨18, by decide +kernel, rfl, by decide⟩
theorem eX1_scanOperand_74 : sl_D YX1_scanOperand 74 (.iload 4) 2 76 := ⟨by decide +kernel, rfl⟩
theorem eX1_scanOperand_76 : sl_D YX1_scanOperand 76 (.iconst 3) 1 77 := ⟨by decide +kernel, rfl⟩
theorem eX1_scanOperand_77 : sl_B YX1_scanOperand 77 (fun o => .if_icmp .gt o) 80 89 := ⟨12, by decide +kernel, rfl, by decide⟩
theorem eX1_scanOperand_80 : sl_D YX1_scanOperand 80 (.iload_n 2) 1 81 := ⟨by decide +kernel, rfl⟩
theorem eX1_scanOperand_81 : sl_B YX1_scanOperand 81 (fun o => .ifCond .eq o) 84 98 := ⟨17, by decide +kernel, rfl, by decide⟩
theorem eX1_scanOperand_84 : sl_D YX1_scanOperand 84 (.iload 4) 2 86 := ⟨by decide +kernel, rfl⟩
theorem eX1_scanOperand_86 : sl_B YX1_scanOperand 86 (fun o => .ifCond .ne o) 89 98 := ⟨12, by decide +kernel, rfl, by decide⟩
theorem eX1_scanOperand_89 : sl_D YX1_scanOperand 89 (.aload_n 0) 1 90 := ⟨by decide +kernel, rfl⟩
theorem eX1_scanOperand_90 : sl_D YX1_scanOperand 90 (.aload_n 0) 1 91 := ⟨by decide +kernel, rfl⟩
theorem eX1_scanOperand_91 : sl_D YX1_scanOperand 91 (.getfield 39) 3 94 := ⟨by decide +kernel, rfl⟩
theorem eX1_scanOperand_94 : sl_D YX1_scanOperand 94 (.putfield 33) 3 97 := ⟨by decide +kernel, rfl⟩
theorem eX1_scanOperand_97 : sl_D YX1_scanOperand 97 (.return_) 1 98 := ⟨by decide +kernel, rfl⟩
theorem eX1_scanOperand_98 : sl_D YX1_scanOperand 98 (.aload_n 0) 1 99 := ⟨by decide +kernel, rfl⟩
theorem eX1_scanOperand_99 : sl_D YX1_scanOperand 99 (.aload_n 0) 1 100 := ⟨by decide +kernel, rfl⟩
theorem eX1_scanOperand_100 : sl_D YX1_scanOperand 100 (.getfield 39) 3 103 := ⟨by decide +kernel, rfl⟩
theorem eX1_scanOperand_103 : sl_D YX1_scanOperand 103 (.iload_n 3) 1 104 := ⟨by decide +kernel, rfl⟩
theorem eX1_scanOperand_104 : sl_D YX1_scanOperand 104 (.invokevirtual 70) 3 107 := ⟨by decide +kernel, rfl⟩
theorem eX1_scanOperand_107 : sl_D YX1_scanOperand 107 (.istore 5) 2 109 := ⟨by decide +kernel, rfl⟩
theorem eX1_scanOperand_109 : sl_D YX1_scanOperand 109 (.aload_n 0) 1 110 := ⟨by decide +kernel, rfl⟩
theorem eX1_scanOperand_110 : sl_D YX1_scanOperand 110 (.iconst 0) 1 111 := ⟨by decide +kernel, rfl⟩
theorem eX1_scanOperand_111 : sl_D YX1_scanOperand 111 (.iload_n 2) 1 112 := ⟨by decide +kernel, rfl⟩
theorem eX1_scanOperand_112 : sl_D YX1_scanOperand 112 (.iload_n 2) 1 113 := ⟨by decide +kernel, rfl⟩
theorem eX1_scanOperand_113 : sl_B YX1_scanOperand 113 (fun o => .ifCond .eq o) 116 126 := ⟨13, by decide +kernel, rfl, by decide⟩
theorem eX1_scanOperand_116 : sl_D YX1_scanOperand 116 (.iload 5) 2 118 := ⟨by decide +kernel, rfl⟩
theorem eX1_scanOperand_118 : sl_D YX1_scanOperand 118 (.iload 4) 2 120 := ⟨by decide +kernel, rfl⟩
theorem eX1_scanOperand_120 : sl_D YX1_scanOperand 120 (.invokestatic 74) 3 123 := ⟨by decide +kernel, rfl⟩
theorem eX1_scanOperand_123 : sl_B YX1_scanOperand 123 (fun o => .goto o) 126 128 := ⟨5, by decide +kernel, rfl, by decide⟩
theorem eX1_scanOperand_126 : sl_D YX1_scanOperand 126 (.iload 5) 2 128 := ⟨by decide +kernel, rfl⟩
theorem eX1_scanOperand_128 : sl_D YX1_scanOperand 128 (.iload_n 3) 1 129 := ⟨by decide +kernel, rfl⟩
theorem eX1_scanOperand_129 : sl_D YX1_scanOperand 129 (.invokevirtual 63) 3 132 := ⟨by decide +kernel, rfl⟩
theorem eX1_scanOperand_132 : sl_D YX1_scanOperand 132 (.return_) 1 133 := ⟨by decide +kernel, rfl⟩
theorem eX1_digitsBetween_0 : sl_D YX1_digitsBetween 0 (.iconst 0) 1 1 := ⟨by decide +kernel, rfl⟩
theorem eX1_digitsBetween_1 : sl_D YX1_digitsBetween 1 (.istore_n 3) 1 2 := ⟨by decide +kernel, rfl⟩
theorem eX1_digitsBetween_2 : sl_D YX1_digitsBetween 2 (.iload_n 1) 1 3 := ⟨by decide +kernel, rfl⟩
theorem eX1_digitsBetween_3 : sl_D YX1_digitsBetween 3 (.istore 4) 2 5 := ⟨by decide +kernel, rfl⟩
theorem eX1_digitsBetween_5 : sl_D YX1_digitsBetween 5 (.iload 4) 2 7 := ⟨by decide +kernel, rfl⟩
theorem eX1_digitsBetween_7 : sl_D YX1_digitsBetween 7 (.iload_n 2) 1 8 := ⟨by decide +kernel, rfl⟩
theorem eX1_digitsBetween_8 : sl_B YX1_digitsBetween 8 (fun o => .if_icmp .ge o) 11 41 := ⟨33, by decide +kernel, rfl, by decide⟩
theorem eX1_digitsBetween_11 : sl_D YX1_digitsBetween 11 (.aload_n 0) 1 12 := ⟨by decide +kernel, rfl⟩
theorem eX1_digitsBetween_12 : sl_D YX1_digitsBetween 12 (.iload 4) 2 14 := ⟨by decide +kernel, rfl⟩
theorem eX1_digitsBetween_14 : sl_D YX1_digitsBetween 14 (.invokevirtual 49) 3 17 := ⟨by decide +kernel, rfl⟩
theorem eX1_digitsBetween_17 : sl_B YX1_digitsBetween 17 (fun o => .ifCond .eq o) 20 35 := ⟨18, by decide +kernel, rfl, by decide⟩
theorem eX1_digitsBetween_20 : sl_D YX1_digitsBetween 20 (.iload_n 3) 1 21 := ⟨by decide +kernel, rfl⟩
theorem eX1_digitsBetween_21 : sl_D YX1_digitsBetween 21 (.bipush 10) 2 23 := ⟨by decide +kernel, rfl⟩
theorem eX1_digitsBetween_23 : sl_D YX1_digitsBetween 23 (.imul) 1 24 := ⟨by decide +kernel, rfl⟩
theorem eX1_digitsBetween_24 : sl_D YX1_digitsBetween 24 (.aload_n 0) 1 25 := ⟨by decide +kernel, rfl⟩
theorem eX1_digitsBetween_25 : sl_D YX1_digitsBetween 25 (.iload 4) 2 27 := ⟨by decide +kernel, rfl⟩
theorem eX1_digitsBetween_27 : sl_D YX1_digitsBetween 27 (.invokevirtual 45) 3 30 := ⟨by decide +kernel, rfl⟩
theorem eX1_digitsBetween_30 : sl_D YX1_digitsBetween 30 (.iadd) 1 31 := ⟨by decide +kernel, rfl⟩
theorem eX1_digitsBetween_31 : sl_D YX1_digitsBetween 31 (.bipush 48) 2 33 := ⟨by decide +kernel, rfl⟩
theorem eX1_digitsBetween_33 : sl_D YX1_digitsBetween 33 (.isub) 1 34 := ⟨by decide +kernel, rfl⟩
theorem eX1_digitsBetween_34 : sl_D YX1_digitsBetween 34 (.istore_n 3) 1 35 := ⟨by decide +kernel, rfl⟩
theorem eX1_digitsBetween_35 : sl_D YX1_digitsBetween 35 (.iinc 4 1) 3 38 := ⟨by decide +kernel, rfl⟩
theorem eX1_digitsBetween_38 : sl_B YX1_digitsBetween 38 (fun o => .goto o) 41 5 := ⟨-33, by decide +kernel, rfl, by decide⟩
theorem eX1_digitsBetween_41 : sl_D YX1_digitsBetween 41 (.iload_n 3) 1 42 := ⟨by decide +kernel, rfl⟩
theorem eX1_digitsBetween_42 : sl_D YX1_digitsBetween 42 (.ireturn) 1 43 := ⟨by decide +kernel, rfl⟩
theorem eX1_addToken_0 : sl_D YX1_addToken 0 (.aload_n 0) 1 1 := ⟨by decide +kernel, rfl⟩
theorem eX1_addToken_1 : sl_D YX1_addToken 1 (.getfield 36) 3 4 := ⟨by decide +kernel, rfl⟩
theorem eX1_addToken_4 : sl_D YX1_addToken 4 (.bipush 60) 2 6 := ⟨by decide +kernel, rfl⟩
theorem eX1_addToken_6 : sl_B YX1_addToken 6 (fun o => .if_icmp .lt o) 9 18 := ⟨12, by decide +kernel, rfl, by decide⟩
theorem eX1_addToken_9 : sl_D YX1_addToken 9 (.aload_n 0) 1 10 := ⟨by decide +kernel, rfl⟩
theorem eX1_addToken_10 : sl_D YX1_addToken 10 (.aload_n 0) 1 11 := ⟨by decide +kernel, rfl⟩
theorem eX1_addToken_11 : sl_D YX1_addToken 11 (.getfield 39) 3 14 := ⟨by decide +kernel, rfl⟩
theorem eX1_addToken_14 : sl_D YX1_addToken 14 (.putfield 33) 3 17 := ⟨by decide +kernel, rfl⟩
theorem eX1_addToken_17 : sl_D YX1_addToken 17 (.return_) 1 18 := ⟨by decide +kernel, rfl⟩
theorem eX1_addToken_18 : sl_D YX1_addToken 18 (.aload_n 0) 1 19 := ⟨by decide +kernel, rfl⟩
theorem eX1_addToken_19 : sl_D YX1_addToken 19 (.getfield 9) 3 22 := ⟨by decide +kernel, rfl⟩
theorem eX1_addToken_22 : sl_D YX1_addToken 22 (.aload_n 0) 1 23 := ⟨by decide +kernel, rfl⟩
theorem eX1_addToken_23 : sl_D YX1_addToken 23 (.getfield 36) 3 26 := ⟨by decide +kernel, rfl⟩
theorem eX1_addToken_26 : sl_D YX1_addToken 26 (.iload_n 1) 1 27 := ⟨by decide +kernel, rfl⟩
theorem eX1_addToken_27 : sl_D YX1_addToken 27 (.iastore) 1 28 := ⟨by decide +kernel, rfl⟩
theorem eX1_addToken_28 : sl_D YX1_addToken 28 (.aload_n 0) 1 29 := ⟨by decide +kernel, rfl⟩
theorem eX1_addToken_29 : sl_D YX1_addToken 29 (.getfield 15) 3 32 := ⟨by decide +kernel, rfl⟩
theorem eX1_addToken_32 : sl_D YX1_addToken 32 (.aload_n 0) 1 33 := ⟨by decide +kernel, rfl⟩
theorem eX1_addToken_33 : sl_D YX1_addToken 33 (.getfield 36) 3 36 := ⟨by decide +kernel, rfl⟩
theorem eX1_addToken_36 : sl_D YX1_addToken 36 (.aload_n 0) 1 37 := ⟨by decide +kernel, rfl⟩
theorem eX1_addToken_37 : sl_D YX1_addToken 37 (.getfield 39) 3 40 := ⟨by decide +kernel, rfl⟩
theorem eX1_addToken_40 : sl_D YX1_addToken 40 (.iastore) 1 41 := ⟨by decide +kernel, rfl⟩
theorem eX1_addToken_41 : sl_D YX1_addToken 41 (.aload_n 0) 1 42 := ⟨by decide +kernel, rfl⟩
theorem eX1_addToken_42 : sl_D YX1_addToken 42 (.getfield 18) 3 45 := ⟨by decide +kernel, rfl⟩
theorem eX1_addToken_45 : sl_D YX1_addToken 45 (.aload_n 0) 1 46 := ⟨by decide +kernel, rfl⟩
theorem eX1_addToken_46 : sl_D YX1_addToken 46 (.getfield 36) 3 49 := ⟨by decide +kernel, rfl⟩
theorem eX1_addToken_49 : sl_D YX1_addToken 49 (.iload_n 2) 1 50 := ⟨by decide +kernel, rfl⟩
theorem eX1_addToken_50 : sl_D YX1_addToken 50 (.bastore) 1 51 := ⟨by decide +kernel, rfl⟩
theorem eX1_addToken_51 : sl_D YX1_addToken 51 (.aload_n 0) 1 52 := ⟨by decide +kernel, rfl⟩
theorem eX1_addToken_52 : sl_D YX1_addToken 52 (.getfield 22) 3 55 := ⟨by decide +kernel, rfl⟩
theorem eX1_addToken_55 : sl_D YX1_addToken 55 (.aload_n 0) 1 56 := ⟨by decide +kernel, rfl⟩
theorem eX1_addToken_56 : sl_D YX1_addToken 56 (.getfield 36) 3 59 := ⟨by decide +kernel, rfl⟩
theorem eX1_addToken_59 : sl_D YX1_addToken 59 (.iload_n 3) 1 60 := ⟨by decide +kernel, rfl⟩
theorem eX1_addToken_60 : sl_D YX1_addToken 60 (.iastore) 1 61 := ⟨by decide +kernel, rfl⟩
theorem eX1_addToken_61 : sl_D YX1_addToken 61 (.aload_n 0) 1 62 := ⟨by decide +kernel, rfl⟩
theorem eX1_addToken_62 : sl_D YX1_addToken 62 (.dup) 1 63 := ⟨by decide +kernel, rfl⟩
theorem eX1_addToken_63 : sl_D YX1_addToken 63 (.getfield 36) 3 66 := ⟨by decide +kernel, rfl⟩
theorem eX1_addToken_66 : sl_D YX1_addToken 66 (.iconst 1) 1 67 := ⟨by decide +kernel, rfl⟩
theorem eX1_addToken_67 : sl_D YX1_addToken 67 (.iadd) 1 68 := ⟨by decide +kernel, rfl⟩
theorem eX1_addToken_68 : sl_D YX1_addToken 68 (.putfield 36) 3 71 := ⟨by decide +kernel, rfl⟩
theorem eX1_addToken_71 : sl_D YX1_addToken 71 (.aload_n 0) 1 72 := ⟨by decide +kernel, rfl⟩
theorem eX1_addToken_72 : sl_D YX1_addToken 72 (.iload 4) 2 74 := ⟨by decide +kernel, rfl⟩
theorem eX1_addToken_74 : sl_D YX1_addToken 74 (.putfield 39) 3 77 := ⟨by decide +kernel, rfl⟩
theorem eX1_addToken_77 : sl_D YX1_addToken 77 (.return_) 1 78 := ⟨by decide +kernel, rfl⟩
theorem eX2_init_0 : sl_D YX2_init 0 (.aload_n 0) 1 1 := ⟨by decide +kernel, rfl⟩
theorem eX2_init_1 : sl_D YX2_init 1 (.invokespecial 3) 3 4 := ⟨by decide +kernel, rfl⟩
theorem eX2_init_4 : sl_D YX2_init 4 (.aload_n 0) 1 5 := ⟨by decide +kernel, rfl⟩
theorem eX2_init_5 : sl_D YX2_init 5 (.bipush 6) 2 7 := ⟨by decide +kernel, rfl⟩
theorem eX2_init_7 : sl_D YX2_init 7 (.newarray .int) 2 9 := ⟨by decide +kernel, rfl⟩
theorem eX2_init_9 : sl_D YX2_init 9 (.putfield 9) 3 12 := ⟨by decide +kernel, rfl⟩
theorem eX2_init_12 : sl_D YX2_init 12 (.aload_n 0) 1 13 := ⟨by decide +kernel, rfl⟩
theorem eX2_init_13 : sl_D YX2_init 13 (.bipush 11) 2 15 := ⟨by decide +kernel, rfl⟩
theorem eX2_init_15 : sl_D YX2_init 15 (.newarray .int) 2 17 := ⟨by decide +kernel, rfl⟩
theorem eX2_init_17 : sl_D YX2_init 17 (.putfield 15) 3 20 := ⟨by decide +kernel, rfl⟩
theorem eX2_init_20 : sl_D YX2_init 20 (.aload_n 0) 1 21 := ⟨by decide +kernel, rfl⟩
theorem eX2_init_21 : sl_D YX2_init 21 (.bipush 12) 2 23 := ⟨by decide +kernel, rfl⟩
theorem eX2_init_23 : sl_D YX2_init 23 (.newarray .int) 2 25 := ⟨by decide +kernel, rfl⟩
theorem eX2_init_25 : sl_D YX2_init 25 (.putfield 18) 3 28 := ⟨by decide +kernel, rfl⟩
theorem eX2_init_28 : sl_D YX2_init 28 (.aload_n 0) 1 29 := ⟨by decide +kernel, rfl⟩
theorem eX2_init_29 : sl_D YX2_init 29 (.bipush 12) 2 31 := ⟨by decide +kernel, rfl⟩
theorem eX2_init_31 : sl_D YX2_init 31 (.newarray .int) 2 33 := ⟨by decide +kernel, rfl⟩
theorem eX2_init_33 : sl_D YX2_init 33 (.putfield 21) 3 36 := ⟨by decide +kernel, rfl⟩
theorem eX2_init_36 : sl_D YX2_init 36 (.aload_n 0) 1 37 := ⟨by decide +kernel, rfl⟩
theorem eX2_init_37 : sl_D YX2_init 37 (.bipush 12) 2 39 := ⟨by decide +kernel, rfl⟩
theorem eX2_init_39 : sl_D YX2_init 39 (.newarray .int) 2 41 := ⟨by decide +kernel, rfl⟩
theorem eX2_init_41 : sl_D YX2_init 41 (.putfield 24) 3 44 := ⟨by decide +kernel, rfl⟩
theorem eX2_init_44 : sl_D YX2_init 44 (.aload_n 0) 1 45 := ⟨by decide +kernel, rfl⟩
theorem eX2_init_45 : sl_D YX2_init 45 (.bipush 60) 2 47 := ⟨by decide +kernel, rfl⟩
theorem eX2_init_47 : sl_D YX2_init 47 (.newarray .int) 2 49 := ⟨by decide +kernel, rfl⟩
theorem eX2_init_49 : sl_D YX2_init 49 (.putfield 27) 3 52 := ⟨by decide +kernel, rfl⟩
theorem eX2_init_52 : sl_D YX2_init 52 (.aload_n 0) 1 53 := ⟨by decide +kernel, rfl⟩
theorem eX2_init_53 : sl_D YX2_init 53 (.bipush 12) 2 55 := ⟨by decide +kernel, rfl⟩
theorem eX2_init_55 : sl_D YX2_init 55 (.newarray .boolean) 2 57 := ⟨by decide +kernel, rfl⟩
theorem eX2_init_57 : sl_D YX2_init 57 (.putfield 30) 3 60 := ⟨by decide +kernel, rfl⟩
theorem eX2_init_60 : sl_D YX2_init 60 (.return_) 1 61 := ⟨by decide +kernel, rfl⟩
theorem eX2_clear_0 : sl_D YX2_clear 0 (.aload_n 0) 1 1 := ⟨by decide +kernel, rfl⟩
theorem eX2_clear_1 : sl_D YX2_clear 1 (.iconst 0) 1 2 := ⟨by decide +kernel, rfl⟩
theorem eX2_clear_2 : sl_D YX2_clear 2 (.putfield 34) 3 5 := ⟨by decide +kernel, rfl⟩
theorem eX2_clear_5 : sl_D YX2_clear 5 (.aload_n 0) 1 6 := ⟨by decide +kernel, rfl⟩
theorem eX2_clear_6 : sl_D YX2_clear 6 (.iconst 0) 1 7 := ⟨by decide +kernel, rfl⟩
theorem eX2_clear_7 : sl_D YX2_clear 7 (.putfield 38) 3 10 := ⟨by decide +kernel, rfl⟩
theorem eX2_clear_10 : sl_D YX2_clear 10 (.aload_n 0) 1 11 := ⟨by decide +kernel, rfl⟩
theorem eX2_clear_11 : sl_D YX2_clear 11 (.iconst 0) 1 12 := ⟨by decide +kernel, rfl⟩
theorem eX2_clear_12 : sl_D YX2_clear 12 (.putfield 41) 3 15 := ⟨by decide +kernel, rfl⟩
theorem eX2_clear_15 : sl_D YX2_clear 15 (.aload_n 0) 1 16 := ⟨by decide +kernel, rfl⟩
theorem eX2_clear_16 : sl_D YX2_clear 16 (.iconst 0) 1 17 := ⟨by decide +kernel, rfl⟩
theorem eX2_clear_17 : sl_D YX2_clear 17 (.putfield 44) 3 20 := ⟨by decide +kernel, rfl⟩
theorem eX2_clear_20 : sl_D YX2_clear 20 (.iconst 0) 1 21 := ⟨by decide +kernel, rfl⟩
theorem eX2_clear_21 : sl_D YX2_clear 21 (.istore_n 1) 1 22 := ⟨by decide +kernel, rfl⟩
theorem eX2_clear_22 : sl_D YX2_clear 22 (.iload_n 1) 1 23 := ⟨by decide +kernel, rfl⟩
theorem eX2_clear_23 : sl_D YX2_clear 23 (.bipush 12) 2 25 := ⟨by decide +kernel, rfl⟩
theorem eX2_clear_25 : sl_B YX2_clear 25 (fun o => .if_icmp .ge o) 28 48 := ⟨23, by decide +kernel, rfl, by decide⟩
theorem eX2_clear_28 : sl_D YX2_clear 28 (.aload_n 0) 1 29 := ⟨by decide +kernel, rfl⟩
theorem eX2_clear_29 : sl_D YX2_clear 29 (.getfield 24) 3 32 := ⟨by decide +kernel, rfl⟩
theorem eX2_clear_32 : sl_D YX2_clear 32 (.iload_n 1) 1 33 := ⟨by decide +kernel, rfl⟩
theorem eX2_clear_33 : sl_D YX2_clear 33 (.iconst 0) 1 34 := ⟨by decide +kernel, rfl⟩
theorem eX2_clear_34 : sl_D YX2_clear 34 (.iastore) 1 35 := ⟨by decide +kernel, rfl⟩
theorem eX2_clear_35 : sl_D YX2_clear 35 (.aload_n 0) 1 36 := ⟨by decide +kernel, rfl⟩
theorem eX2_clear_36 : sl_D YX2_clear 36 (.getfield 30) 3 39 := ⟨by decide +kernel, rfl⟩
theorem eX2_clear_39 : sl_D YX2_clear 39 (.iload_n 1) 1 40 := ⟨by decide +kernel, rfl⟩
theorem eX2_clear_40 : sl_D YX2_clear 40 (.iconst 0) 1 41 := ⟨by decide +kernel, rfl⟩
theorem eX2_clear_41 : sl_D YX2_clear 41 (.bastore) 1 42 := ⟨by decide +kernel, rfl⟩
theorem eX2_clear_42 : sl_D YX2_clear 42 (.iinc 1 1) 3 45 := ⟨by decide +kernel, rfl⟩
theorem eX2_clear_45 : sl_B YX2_clear 45 (fun o => .goto o) 48 22 := ⟨-23, by decide +kernel, rfl, by decide⟩
theorem eX2_clear_48 : sl_D YX2_clear 48 (.return_) 1 49 := ⟨by decide +kernel, rfl⟩
theorem eX2_itemAt_0 : sl_D YX2_itemAt 0 (.aload_n 0) 1 1 := ⟨by decide +kernel, rfl⟩
theorem eX2_itemAt_1 : sl_D YX2_itemAt 1 (.getfield 27) 3 4 := ⟨by decide +kernel, rfl⟩
theorem eX2_itemAt_4 : sl_D YX2_itemAt 4 (.iload_n 1) 1 5 := ⟨by decide +kernel, rfl⟩
theorem eX2_itemAt_5 : sl_D YX2_itemAt 5 (.iconst 5) 1 6 := ⟨by decide +kernel, rfl⟩
theorem eX2_itemAt_6 : sl_D YX2_itemAt 6 (.imul) 1 7 := ⟨by decide +kernel, rfl⟩
theorem eX2_itemAt_7 : sl_D YX2_itemAt 7 (.iload_n 2) 1 8 := ⟨by decide +kernel, rfl⟩
theorem eX2_itemAt_8 : sl_D YX2_itemAt 8 (.iadd) 1 9 := ⟨by decide +kernel, rfl⟩
theorem eX2_itemAt_9 : sl_D YX2_itemAt 9 (.iaload) 1 10 := ⟨by decide +kernel, rfl⟩
theorem eX2_itemAt_10 : sl_D YX2_itemAt 10 (.ireturn) 1 11 := ⟨by decide +kernel, rfl⟩
theorem eX2_isName_0 : sl_D YX2_isName 0 (.iload_n 0) 1 1 := ⟨by decide +kernel, rfl⟩
theorem eX2_isName_1 : sl_D YX2_isName 1 (.bipush 100) 2 3 := ⟨by decide +kernel, rfl⟩
theorem eX2_isName_3 : sl_B YX2_isName 3 (fun o => .if_icmp .lt o) 6 10 := ⟨7, by decide +kernel, rfl, by decide⟩
theorem eX2_isName_6 : sl_D YX2_isName 6 (.iconst 1) 1 7 := ⟨by decide +kernel, rfl⟩
theorem eX2_isName_7 : sl_B YX2_isName 7 (fun o => .goto o) 10 11 := ⟨4, by decide +kernel, rfl, by decide⟩
theorem eX2_isName_10 : sl_D YX2_isName 10 (.iconst 0) 1 11 := ⟨by decide +kernel, rfl⟩
theorem eX2_isName_11 : sl_D YX2_isName 11 (.ireturn) 1 12 := ⟨by decide +kernel, rfl⟩
theorem eX2_nameNumber_0 : sl_D YX2_nameNumber 0 (.iconst 0) 1 1 := ⟨by decide +kernel, rfl⟩
theorem eX2_nameNumber_1 : sl_D YX2_nameNumber 1 (.istore_n 2) 1 2 := ⟨by decide +kernel, rfl⟩
theorem eX2_nameNumber_2 : sl_D YX2_nameNumber 2 (.iload_n 2) 1 3 := ⟨by decide +kernel, rfl⟩
theorem eX2_nameNumber_3 : sl_D YX2_nameNumber 3 (.aload_n 0) 1 4 := ⟨by decide +kernel, rfl⟩
theorem eX2_nameNumber_4 : sl_D YX2_nameNumber 4 (.getfield 41) 3 7 := ⟨by decide +kernel, rfl⟩
theorem eX2_nameNumber_7 : sl_B YX2_nameNumber 7 (fun o => .if_icmp .ge o) 10 28 := ⟨21, by decide +kernel, rfl, by decide⟩
theorem eX2_nameNumber_10 : sl_D YX2_nameNumber 10 (.aload_n 0) 1 11 := ⟨by decide +kernel, rfl⟩
theorem eX2_nameNumber_11 : sl_D YX2_nameNumber 11 (.getfield 9) 3 14 := ⟨by decide +kernel, rfl⟩
theorem eX2_nameNumber_14 : sl_D YX2_nameNumber 14 (.iload_n 2) 1 15 := ⟨by decide +kernel, rfl⟩
theorem eX2_nameNumber_15 : sl_D YX2_nameNumber 15 (.iaload) 1 16 := ⟨by decide +kernel, rfl⟩
theorem eX2_nameNumber_16 : sl_D YX2_nameNumber 16 (.iload_n 1) 1 17 := ⟨by decide +kernel, rfl⟩
theorem eX2_nameNumber_17 : sl_B YX2_nameNumber 17 (fun o => .if_icmp .ne o) 20 22 := ⟨5, by decide +kernel, rfl, by decide⟩
theorem eX2_nameNumber_20 : sl_D YX2_nameNumber 20 (.iload_n 2) 1 21 := ⟨by decide +kernel, rfl⟩
theorem eX2_nameNumber_21 : sl_D YX2_nameNumber 21 (.ireturn) 1 22 := ⟨by decide +kernel, rfl⟩
theorem eX2_nameNumber_22 : sl_D YX2_nameNumber 22 (.iinc 2 1) 3 25 := ⟨by decide +kernel, rfl⟩
theorem eX2_nameNumber_25 : sl_B YX2_nameNumber 25 (fun o => .goto o) 28 2 := ⟨-23, by decide +kernel, rfl, by decide⟩
theorem eX2_nameNumber_28 : sl_D YX2_nameNumber 28 (.iconst (-1)) 1 29 := ⟨by decide +kernel, rfl⟩
theorem eX2_nameNumber_29 : sl_D YX2_nameNumber 29 (.ireturn) 1 30 := ⟨by decide +kernel, rfl⟩
theorem eX2_terminalNumber_0 : sl_D YX2_terminalNumber 0 (.iconst 0) 1 1 := ⟨by decide +kernel, rfl⟩
theorem eX2_terminalNumber_1 : sl_D YX2_terminalNumber 1 (.istore_n 2) 1 2 := ⟨by decide +kernel, rfl⟩
theorem eX2_terminalNumber_2 : sl_D YX2_terminalNumber 2 (.iload_n 2) 1 3 := ⟨by decide +kernel, rfl⟩
theorem eX2_terminalNumber_3 : sl_D YX2_terminalNumber 3 (.aload_n 0) 1 4 := ⟨by decide +kernel, rfl⟩
theorem eX2_terminalNumber_4 : sl_D YX2_terminalNumber 4 (.getfield 44) 3 7 := ⟨by decide +kernel, rfl⟩
theorem eX2_terminalNumber_7 : sl_B YX2_terminalNumber 7 (fun o => .if_icmp .ge o) 10 28 := ⟨21, by decide +kernel, rfl, by decide⟩
theorem eX2_terminalNumber_10 : sl_D YX2_terminalNumber 10 (.aload_n 0) 1 11 := ⟨by decide +kernel, rfl⟩
theorem eX2_terminalNumber_11 : sl_D YX2_terminalNumber 11 (.getfield 15) 3 14 := ⟨by decide +kernel, rfl⟩
theorem eX2_terminalNumber_14 : sl_D YX2_terminalNumber 14 (.iload_n 2) 1 15 := ⟨by decide +kernel, rfl⟩
theorem eX2_terminalNumber_15 : sl_D YX2_terminalNumber 15 (.iaload) 1 16 := ⟨by decide +kernel, rfl⟩
theorem eX2_terminalNumber_16 : sl_D YX2_terminalNumber 16 (.iload_n 1) 1 17 := ⟨by decide +kernel, rfl⟩
theorem eX2_terminalNumber_17 : sl_B YX2_terminalNumber 17 (fun o => .if_icmp .ne o) 20 22 := ⟨5, by decide +kernel, rfl, by decide⟩
theorem eX2_terminalNumber_20 : sl_D YX2_terminalNumber 20 (.iload_n 2) 1 21 := ⟨by decide +kernel, rfl⟩
theorem eX2_terminalNumber_21 : sl_D YX2_terminalNumber 21 (.ireturn) 1 22 := ⟨by decide +kernel, rfl⟩
theorem eX2_terminalNumber_22 : sl_D YX2_terminalNumber 22 (.iinc 2 1) 3 25 := ⟨by decide +kernel, rfl⟩
theorem eX2_terminalNumber_25 : sl_B YX2_terminalNumber 25 (fun o => .goto o) 28 2 := ⟨-23, by decide +kernel, rfl, by decide⟩
theorem eX2_terminalNumber_28 : sl_D YX2_terminalNumber 28 (.iconst (-1)) 1 29 := ⟨by decide +kernel, rfl⟩
theorem eX2_terminalNumber_29 : sl_D YX2_terminalNumber 29 (.ireturn) 1 30 := ⟨by decide +kernel, rfl⟩
theorem eX2_namesAmong_0 : sl_D YX2_namesAmong 0 (.iconst 0) 1 1 := ⟨by decide +kernel, rfl⟩
theorem eX2_namesAmong_1 : sl_D YX2_namesAmong 1 (.istore_n 2) 1 2 := ⟨by decide +kernel, rfl⟩
theorem eX2_namesAmong_2 : sl_D YX2_namesAmong 2 (.iconst 0) 1 3 := ⟨by decide +kernel, rfl⟩
theorem eX2_namesAmong_3 : sl_D YX2_namesAmong 3 (.istore_n 3) 1 4 := ⟨by decide +kernel, rfl⟩
theorem eX2_namesAmong_4 : sl_D YX2_namesAmong 4 (.iload_n 3) 1 5 := ⟨by decide +kernel, rfl⟩
theorem eX2_namesAmong_5 : sl_D YX2_namesAmong 5 (.aload_n 0) 1 6 := ⟨by decide +kernel, rfl⟩
theorem eX2_namesAmong_6 : sl_D YX2_namesAmong 6 (.getfield 24) 3 9 := ⟨by decide +kernel, rfl⟩
theorem eX2_namesAmong_9 : sl_D YX2_namesAmong 9 (.iload_n 1) 1 10 := ⟨by decide +kernel, rfl⟩
theorem eX2_namesAmong_10 : sl_D YX2_namesAmong 10 (.iaload) 1 11 := ⟨by decide +kernel, rfl⟩
theorem eX2_namesAmong_11 : sl_B YX2_namesAmong 11 (fun o => .if_icmp .ge o) 14 35 := ⟨24, by decide +kernel, rfl, by decide⟩
theorem eX2_namesAmong_14 : sl_D YX2_namesAmong 14 (.aload_n 0) 1 15 := ⟨by decide +kernel, rfl⟩
theorem eX2_namesAmong_15 : sl_D YX2_namesAmong 15 (.iload_n 1) 1 16 := ⟨by decide +kernel, rfl⟩
theorem eX2_namesAmong_16 : sl_D YX2_namesAmong 16 (.iload_n 3) 1 17 := ⟨by decide +kernel, rfl⟩
theorem eX2_namesAmong_17 : sl_D YX2_namesAmong 17 (.invokevirtual 47) 3 20 := ⟨by decide +kernel, rfl⟩
theorem eX2_namesAmong_20 : sl_D YX2_namesAmong 20 (.invokestatic 51) 3 23 := ⟨by decide +kernel, rfl⟩
theorem eX2_namesAmong_23 : sl_B YX2_namesAmong 23 (fun o => .ifCond .eq o) 26 29 := ⟨6, by decide +kernel, rfl, by decide⟩
theorem eX2_namesAmong_26 : sl_D YX2_namesAmong 26 (.iinc 2 1) 3 29 := ⟨by decide +kernel, rfl⟩
theorem eX2_namesAmong_29 : sl_D YX2_namesAmong 29 (.iinc 3 1) 3 32 := ⟨by decide +kernel, rfl⟩
theorem eX2_namesAmong_32 : sl_B YX2_namesAmong 32 (fun o => .goto o) 35 4 := ⟨-28, by decide +kernel, rfl, by decide⟩
theorem eX2_namesAmong_35 : sl_D YX2_namesAmong 35 (.iload_n 2) 1 36 := ⟨by decide +kernel, rfl⟩
theorem eX2_namesAmong_36 : sl_D YX2_namesAmong 36 (.ireturn) 1 37 := ⟨by decide +kernel, rfl⟩
theorem eX2_isHead_0 : sl_D YX2_isHead 0 (.iconst 0) 1 1 := ⟨by decide +kernel, rfl⟩
theorem eX2_isHead_1 : sl_D YX2_isHead 1 (.istore_n 2) 1 2 := ⟨by decide +kernel, rfl⟩
theorem eX2_isHead_2 : sl_D YX2_isHead 2 (.iload_n 2) 1 3 := ⟨by decide +kernel, rfl⟩
theorem eX2_isHead_3 : sl_D YX2_isHead 3 (.aload_n 0) 1 4 := ⟨by decide +kernel, rfl⟩
theorem eX2_isHead_4 : sl_D YX2_isHead 4 (.getfield 38) 3 7 := ⟨by decide +kernel, rfl⟩
theorem eX2_isHead_7 : sl_B YX2_isHead 7 (fun o => .if_icmp .ge o) 10 28 := ⟨21, by decide +kernel, rfl, by decide⟩
theorem eX2_isHead_10 : sl_D YX2_isHead 10 (.aload_n 0) 1 11 := ⟨by decide +kernel, rfl⟩
theorem eX2_isHead_11 : sl_D YX2_isHead 11 (.getfield 18) 3 14 := ⟨by decide +kernel, rfl⟩
theorem eX2_isHead_14 : sl_D YX2_isHead 14 (.iload_n 2) 1 15 := ⟨by decide +kernel, rfl⟩
theorem eX2_isHead_15 : sl_D YX2_isHead 15 (.iaload) 1 16 := ⟨by decide +kernel, rfl⟩
theorem eX2_isHead_16 : sl_D YX2_isHead 16 (.iload_n 1) 1 17 := ⟨by decide +kernel, rfl⟩
theorem eX2_isHead_17 : sl_B YX2_isHead 17 (fun o => .if_icmp .ne o) 20 22 := ⟨5, by decide +kernel, rfl, by decide⟩
theorem eX2_isHead_20 : sl_D YX2_isHead 20 (.iconst 1) 1 21 := ⟨by decide +kernel, rfl⟩
theorem eX2_isHead_21 : sl_D YX2_isHead 21 (.ireturn) 1 22 := ⟨by decide +kernel, rfl⟩
theorem eX2_isHead_22 : sl_D YX2_isHead 22 (.iinc 2 1) 3 25 := ⟨by decide +kernel, rfl⟩
theorem eX2_isHead_25 : sl_B YX2_isHead 25 (fun o => .goto o) 28 2 := ⟨-23, by decide +kernel, rfl, by decide⟩
theorem eX2_isHead_28 : sl_D YX2_isHead 28 (.iconst 0) 1 29 := ⟨by decide +kernel, rfl⟩
theorem eX2_isHead_29 : sl_D YX2_isHead 29 (.ireturn) 1 30 := ⟨by decide +kernel, rfl⟩
theorem eX2_hasSkeleton_0 : sl_D YX2_hasSkeleton 0 (.aload_n 0) 1 1 := ⟨by decide +kernel, rfl⟩
theorem eX2_hasSkeleton_1 : sl_D YX2_hasSkeleton 1 (.getfield 24) 3 4 := ⟨by decide +kernel, rfl⟩
theorem eX2_hasSkeleton_4 : sl_D YX2_hasSkeleton 4 (.iload_n 1) 1 5 := ⟨by decide +kernel, rfl⟩
theorem eX2_hasSkeleton_5 : sl_D YX2_hasSkeleton 5 (.iaload) 1 6 := ⟨by decide +kernel, rfl⟩
theorem eX2_hasSkeleton_6 : sl_D YX2_hasSkeleton 6 (.iconst 1) 1 7 := ⟨by decide +kernel, rfl⟩
theorem eX2_hasSkeleton_7 : sl_B YX2_hasSkeleton 7 (fun o => .if_icmp .ne o) 10 22 := ⟨15, by decide +kernel, rfl, by decide⟩
theorem eX2_hasSkeleton_10 : sl_D YX2_hasSkeleton 10 (.aload_n 0) 1 11 := ⟨by decide +kernel, rfl⟩
theorem eX2_hasSkeleton_11 : sl_D YX2_hasSkeleton 11 (.iload_n 1) 1 12 := ⟨by decide +kernel, rfl⟩
theorem eX2_hasSkeleton_12 : sl_D YX2_hasSkeleton 12 (.iconst 0) 1 13 := ⟨by decide +kernel, rfl⟩
theorem eX2_hasSkeleton_13 : sl_D YX2_hasSkeleton 13 (.invokevirtual 47) 3 16 := ⟨by decide +kernel, rfl⟩
theorem eX2_hasSkeleton_16 : sl_D YX2_hasSkeleton 16 (.invokestatic 51) 3 19 := ⟨by decide +kernel, rfl⟩
theorem eX2_hasSkeleton_19 : sl_B YX2_hasSkeleton 19 (fun o => .ifCond .ne o) 22 26 := ⟨7, by decide +kernel, rfl, by decide⟩
theorem eX2_hasSkeleton_22 : sl_D YX2_hasSkeleton 22 (.iconst 1) 1 23 := ⟨by decide +kernel, rfl⟩
theorem eX2_hasSkeleton_23 : sl_B YX2_hasSkeleton 23 (fun o => .goto o) 26 27 := ⟨4, by decide +kernel, rfl, by decide⟩
theorem eX2_hasSkeleton_26 : sl_D YX2_hasSkeleton 26 (.iconst 0) 1 27 := ⟨by decide +kernel, rfl⟩
theorem eX2_hasSkeleton_27 : sl_D YX2_hasSkeleton 27 (.ireturn) 1 28 := ⟨by decide +kernel, rfl⟩
theorem eX2_sameSkeleton_0 : sl_D YX2_sameSkeleton 0 (.aload_n 0) 1 1 := ⟨by decide +kernel, rfl⟩
theorem eX2_sameSkeleton_1 : sl_D YX2_sameSkeleton 1 (.getfield 24) 3 4 := ⟨by decide +kernel, rfl⟩
theorem eX2_sameSkeleton_4 : sl_D YX2_sameSkeleton 4 (.iload_n 1) 1 5 := ⟨by decide +kernel, rfl⟩
theorem eX2_sameSkeleton_5 : sl_D YX2_sameSkeleton 5 (.iaload) 1 6 := ⟨by decide +kernel, rfl⟩
theorem eX2_sameSkeleton_6 : sl_D YX2_sameSkeleton 6 (.aload_n 0) 1 7 := ⟨by decide +kernel, rfl⟩
theorem eX2_sameSkeleton_7 : sl_D YX2_sameSkeleton 7 (.getfield 24) 3 10 := ⟨by decide +kernel, rfl⟩
theorem eX2_sameSkeleton_10 : sl_D YX2_sameSkeleton 10 (.iload_n 2) 1 11 := ⟨by decide +kernel, rfl⟩
theorem eX2_sameSkeleton_11 : sl_D YX2_sameSkeleton 11 (.iaload) 1 12 := ⟨by decide +kernel, rfl⟩
theorem eX2_sameSkeleton_12 : sl_B YX2_sameSkeleton 12 (fun o => .if_icmp .eq o) 15 17 := ⟨5, by decide +kernel, rfl, by decide⟩
theorem eX2_sameSkeleton_15 : sl_D YX2_sameSkeleton 15 (.iconst 0) 1 16 := ⟨by decide +kernel, rfl⟩
theorem eX2_sameSkeleton_16 : sl_D YX2_sameSkeleton 16 (.ireturn) 1 17 := ⟨by decide +kernel, rfl⟩
theorem eX2_sameSkeleton_17 : sl_D YX2_sameSkeleton 17 (.iconst 0) 1 18 := ⟨by decide +kernel, rfl⟩
theorem eX2_sameSkeleton_18 : sl_D YX2_sameSkeleton 18 (.istore_n 3) 1 19 := ⟨by decide +kernel, rfl⟩
theorem eX2_sameSkeleton_19 : sl_D YX2_sameSkeleton 19 (.iload_n 3) 1 20 := ⟨by decide +kernel, rfl⟩
theorem eX2_sameSkeleton_20 : sl_D YX2_sameSkeleton 20 (.aload_n 0) 1 21 := ⟨by decide +kernel, rfl⟩
theorem eX2_sameSkeleton_21 : sl_D YX2_sameSkeleton 21 (.getfield 24) 3 24 := ⟨by decide +kernel, rfl⟩
theorem eX2_sameSkeleton_24 : sl_D YX2_sameSkeleton 24 (.iload_n 1) 1 25 := ⟨by decide +kernel, rfl⟩
theorem eX2_sameSkeleton_25 : sl_D YX2_sameSkeleton 25 (.iaload) 1 26 := ⟨by decide +kernel, rfl⟩
theorem eX2_sameSkeleton_26 : sl_B YX2_sameSkeleton 26 (fun o => .if_icmp .ge o) 29 76 := ⟨50, by decide +kernel, rfl, by decide⟩
theorem eX2_sameSkeleton_29 : sl_D YX2_sameSkeleton 29 (.aload_n 0) 1 30 := ⟨by decide +kernel, rfl⟩
theorem eX2_sameSkeleton_30 : sl_D YX2_sameSkeleton 30 (.iload_n 1) 1 31 := ⟨by decide +kernel, rfl⟩
theorem eX2_sameSkeleton_31 : sl_D YX2_sameSkeleton 31 (.iload_n 3) 1 32 := ⟨by decide +kernel, rfl⟩
theorem eX2_sameSkeleton_32 : sl_D YX2_sameSkeleton 32 (.invokevirtual 47) 3 35 := ⟨by decide +kernel, rfl⟩
theorem eX2_sameSkeleton_35 : sl_D YX2_sameSkeleton 35 (.istore 4) 2 37 := ⟨by decide +kernel, rfl⟩
theorem eX2_sameSkeleton_37 : sl_D YX2_sameSkeleton 37 (.aload_n 0) 1 38 := ⟨by decide +kernel, rfl⟩
theorem eX2_sameSkeleton_38 : sl_D YX2_sameSkeleton 38 (.iload_n 2) 1 39 := ⟨by decide +kernel, rfl⟩
theorem eX2_sameSkeleton_39 : sl_D YX2_sameSkeleton 39 (.iload_n 3) 1 40 := ⟨by decide +kernel, rfl⟩
theorem eX2_sameSkeleton_40 : sl_D YX2_sameSkeleton 40 (.invokevirtual 47) 3 43 := ⟨by decide +kernel, rfl⟩
theorem eX2_sameSkeleton_43 : sl_D YX2_sameSkeleton 43 (.istore 5) 2 45 := ⟨by decide +kernel, rfl⟩
theorem eX2_sameSkeleton_45 : sl_D YX2_sameSkeleton 45 (.iload 4) 2 47 := ⟨by decide +kernel, rfl⟩
theorem eX2_sameSkeleton_47 : sl_D YX2_sameSkeleton 47 (.iload 5) 2 49 := ⟨by decide +kernel, rfl⟩
theorem eX2_sameSkeleton_49 : sl_B YX2_sameSkeleton 49 (fun o => .if_icmp .eq o) 52 70 := ⟨21, by decide +kernel, rfl, by decide⟩
theorem eX2_sameSkeleton_52 : sl_D YX2_sameSkeleton 52 (.iload 4) 2 54 := ⟨by decide +kernel, rfl⟩
theorem eX2_sameSkeleton_54 : sl_D YX2_sameSkeleton 54 (.invokestatic 51) 3 57 := ⟨by decide +kernel, rfl⟩
theorem eX2_sameSkeleton_57 : sl_B YX2_sameSkeleton 57 (fun o => .ifCond .eq o) 60 68 := ⟨11, by decide +kernel, rfl, by decide⟩
theorem eX2_sameSkeleton_60 : sl_D YX2_sameSkeleton 60 (.iload 5) 2 62 := ⟨by decide +kernel, rfl⟩
theorem eX2_sameSkeleton_62 : sl_D YX2_sameSkeleton 62 (.invokestatic 51) 3 65 := ⟨by decide +kernel, rfl⟩
theorem eX2_sameSkeleton_65 : sl_B YX2_sameSkeleton 65 (fun o => .ifCond .ne o) 68 70 := ⟨5, by decide +kernel, rfl, by decide⟩
theorem eX2_sameSkeleton_68 : sl_D YX2_sameSkeleton 68 (.iconst 0) 1 69 := ⟨by decide +kernel, rfl⟩
theorem eX2_sameSkeleton_69 : sl_D YX2_sameSkeleton 69 (.ireturn) 1 70 := ⟨by decide +kernel, rfl⟩
theorem eX2_sameSkeleton_70 : sl_D YX2_sameSkeleton 70 (.iinc 3 1) 3 73 := ⟨by decide +kernel, rfl⟩
theorem eX2_sameSkeleton_73 : sl_B YX2_sameSkeleton 73 (fun o => .goto o) 76 19 := ⟨-54, by decide +kernel, rfl, by decide⟩
theorem eX2_sameSkeleton_76 : sl_D YX2_sameSkeleton 76 (.iconst 1) 1 77 := ⟨by decide +kernel, rfl⟩
theorem eX2_sameSkeleton_77 : sl_D YX2_sameSkeleton 77 (.ireturn) 1 78 := ⟨by decide +kernel, rfl⟩
theorem eX2_isDouble_0 : sl_D YX2_isDouble 0 (.aload_n 0) 1 1 := ⟨by decide +kernel, rfl⟩
theorem eX2_isDouble_1 : sl_D YX2_isDouble 1 (.getfield 30) 3 4 := ⟨by decide +kernel, rfl⟩
theorem eX2_isDouble_4 : sl_D YX2_isDouble 4 (.iload_n 1) 1 5 := ⟨by decide +kernel, rfl⟩
theorem eX2_isDouble_5 : sl_D YX2_isDouble 5 (.baload) 1 6 := ⟨by decide +kernel, rfl⟩
theorem eX2_isDouble_6 : sl_B YX2_isDouble 6 (fun o => .ifCond .ne o) 9 17 := ⟨11, by decide +kernel, rfl, by decide⟩
theorem eX2_isDouble_9 : sl_D YX2_isDouble 9 (.aload_n 0) 1 10 := ⟨by decide +kernel, rfl⟩
theorem eX2_isDouble_10 : sl_D YX2_isDouble 10 (.iload_n 1) 1 11 := ⟨by decide +kernel, rfl⟩
theorem eX2_isDouble_11 : sl_D YX2_isDouble 11 (.invokevirtual 55) 3 14 := ⟨by decide +kernel, rfl⟩
theorem eX2_isDouble_14 : sl_B YX2_isDouble 14 (fun o => .ifCond .ne o) 17 19 := ⟨5, by decide +kernel, rfl, by decide⟩
theorem eX2_isDouble_17 : sl_D YX2_isDouble 17 (.iconst 0) 1 18 := ⟨by decide +kernel, rfl⟩
theorem eX2_isDouble_18 : sl_D YX2_isDouble 18 (.ireturn) 1 19 := ⟨by decide +kernel, rfl⟩
theorem eX2_isDouble_19 : sl_D YX2_isDouble 19 (.iconst 0) 1 20 := ⟨by decide +kernel, rfl⟩
theorem eX2_isDouble_20 : sl_D YX2_isDouble 20 (.istore_n 2) 1 21 := ⟨by decide +kernel, rfl⟩
theorem eX2_isDouble_21 : sl_D YX2_isDouble 21 (.iload_n 2) 1 22 := ⟨by decide +kernel, rfl⟩
theorem eX2_isDouble_22 : sl_D YX2_isDouble 22 (.iload_n 1) 1 23 := ⟨by decide +kernel, rfl⟩
theorem eX2_isDouble_23 : sl_B YX2_isDouble 23 (fun o => .if_icmp .ge o) 26 52 := ⟨29, by decide +kernel, rfl, by decide⟩
theorem eX2_isDouble_26 : sl_D YX2_isDouble 26 (.aload_n 0) 1 27 := ⟨by decide +kernel, rfl⟩
theorem eX2_isDouble_27 : sl_D YX2_isDouble 27 (.getfield 30) 3 30 := ⟨by decide +kernel, rfl⟩
theorem eX2_isDouble_30 : sl_D YX2_isDouble 30 (.iload_n 2) 1 31 := ⟨by decide +kernel, rfl⟩
theorem eX2_isDouble_31 : sl_D YX2_isDouble 31 (.baload) 1 32 := ⟨by decide +kernel, rfl⟩
theorem eX2_isDouble_32 : sl_B YX2_isDouble 32 (fun o => .ifCond .ne o) 35 46 := ⟨14, by decide +kernel, rfl, by decide⟩
theorem eX2_isDouble_35 : sl_D YX2_isDouble 35 (.aload_n 0) 1 36 := ⟨by decide +kernel, rfl⟩
theorem eX2_isDouble_36 : sl_D YX2_isDouble 36 (.iload_n 1) 1 37 := ⟨by decide +kernel, rfl⟩
theorem eX2_isDouble_37 : sl_D YX2_isDouble 37 (.iload_n 2) 1 38 := ⟨by decide +kernel, rfl⟩
theorem eX2_isDouble_38 : sl_D YX2_isDouble 38 (.invokevirtual 58) 3 41 := ⟨by decide +kernel, rfl⟩
theorem eX2_isDouble_41 : sl_B YX2_isDouble 41 (fun o => .ifCond .eq o) 44 46 := ⟨5, by decide +kernel, rfl, by decide⟩
theorem eX2_isDouble_44 : sl_D YX2_isDouble 44 (.iconst 1) 1 45 := ⟨by decide +kernel, rfl⟩
theorem eX2_isDouble_45 : sl_D YX2_isDouble 45 (.ireturn) 1 46 := ⟨by decide +kernel, rfl⟩
theorem eX2_isDouble_46 : sl_D YX2_isDouble 46 (.iinc 2 1) 3 49 := ⟨by decide +kernel, rfl⟩
theorem eX2_isDouble_49 : sl_B YX2_isDouble 49 (fun o => .goto o) 52 21 := ⟨-28, by decide +kernel, rfl, by decide⟩
theorem eX2_isDouble_52 : sl_D YX2_isDouble 52 (.iconst 0) 1 53 := ⟨by decide +kernel, rfl⟩
theorem eX2_isDouble_53 : sl_D YX2_isDouble 53 (.ireturn) 1 54 := ⟨by decide +kernel, rfl⟩
theorem eX2_doubleRules_0 : sl_D YX2_doubleRules 0 (.iconst 0) 1 1 := ⟨by decide +kernel, rfl⟩
theorem eX2_doubleRules_1 : sl_D YX2_doubleRules 1 (.istore_n 1) 1 2 := ⟨by decide +kernel, rfl⟩
theorem eX2_doubleRules_2 : sl_D YX2_doubleRules 2 (.iconst 0) 1 3 := ⟨by decide +kernel, rfl⟩
theorem eX2_doubleRules_3 : sl_D YX2_doubleRules 3 (.istore_n 2) 1 4 := ⟨by decide +kernel, rfl⟩
theorem eX2_doubleRules_4 : sl_D YX2_doubleRules 4 (.iload_n 2) 1 5 := ⟨by decide +kernel, rfl⟩
theorem eX2_doubleRules_5 : sl_D YX2_doubleRules 5 (.aload_n 0) 1 6 := ⟨by decide +kernel, rfl⟩
theorem eX2_doubleRules_6 : sl_D YX2_doubleRules 6 (.getfield 38) 3 9 := ⟨by decide +kernel, rfl⟩
theorem eX2_doubleRules_9 : sl_B YX2_doubleRules 9 (fun o => .if_icmp .ge o) 12 32 := ⟨23, by decide +kernel, rfl, by decide⟩
theorem eX2_doubleRules_12 : sl_D YX2_doubleRules 12 (.aload_n 0) 1 13 := ⟨by decide +kernel, rfl⟩
theorem eX2_doubleRules_13 : sl_D YX2_doubleRules 13 (.iload_n 2) 1 14 := ⟨by decide +kernel, rfl⟩
theorem eX2_doubleRules_14 : sl_D YX2_doubleRules 14 (.invokevirtual 62) 3 17 := ⟨by decide +kernel, rfl⟩
theorem eX2_doubleRules_17 : sl_B YX2_doubleRules 17 (fun o => .ifCond .eq o) 20 26 := ⟨9, by decide +kernel, rfl, by decide⟩
theorem eX2_doubleRules_20 : sl_D YX2_doubleRules 20 (.iload_n 1) 1 21 := ⟨by decide +kernel, rfl⟩
theorem eX2_doubleRules_21 : sl_D YX2_doubleRules 21 (.iconst 1) 1 22 := ⟨by decide +kernel, rfl⟩
theorem eX2_doubleRules_22 : sl_D YX2_doubleRules 22 (.iload_n 2) 1 23 := ⟨by decide +kernel, rfl⟩
theorem eX2_doubleRules_23 : sl_D YX2_doubleRules 23 (.ishl) 1 24 := ⟨by decide +kernel, rfl⟩
theorem eX2_doubleRules_24 : sl_D YX2_doubleRules 24 (.ior) 1 25 := ⟨by decide +kernel, rfl⟩
theorem eX2_doubleRules_25 : sl_D YX2_doubleRules 25 (.istore_n 1) 1 26 := ⟨by decide +kernel, rfl⟩
theorem eX2_doubleRules_26 : sl_D YX2_doubleRules 26 (.iinc 2 1) 3 29 := ⟨by decide +kernel, rfl⟩
theorem eX2_doubleRules_29 : sl_B YX2_doubleRules 29 (fun o => .goto o) 32 4 := ⟨-25, by decide +kernel, rfl, by decide⟩
theorem eX2_doubleRules_32 : sl_D YX2_doubleRules 32 (.iload_n 1) 1 33 := ⟨by decide +kernel, rfl⟩
theorem eX2_doubleRules_33 : sl_D YX2_doubleRules 33 (.ireturn) 1 34 := ⟨by decide +kernel, rfl⟩
theorem eX2_putCount_0 : sl_D YX2_putCount 0 (.iconst 0) 1 1 := ⟨by decide +kernel, rfl⟩
theorem eX2_putCount_1 : sl_D YX2_putCount 1 (.istore_n 1) 1 2 := ⟨by decide +kernel, rfl⟩
theorem eX2_putCount_2 : sl_D YX2_putCount 2 (.iconst 0) 1 3 := ⟨by decide +kernel, rfl⟩
theorem eX2_putCount_3 : sl_D YX2_putCount 3 (.istore_n 2) 1 4 := ⟨by decide +kernel, rfl⟩
theorem eX2_putCount_4 : sl_D YX2_putCount 4 (.iload_n 2) 1 5 := ⟨by decide +kernel, rfl⟩
theorem eX2_putCount_5 : sl_D YX2_putCount 5 (.aload_n 0) 1 6 := ⟨by decide +kernel, rfl⟩
theorem eX2_putCount_6 : sl_D YX2_putCount 6 (.getfield 38) 3 9 := ⟨by decide +kernel, rfl⟩
theorem eX2_putCount_9 : sl_B YX2_putCount 9 (fun o => .if_icmp .ge o) 12 30 := ⟨21, by decide +kernel, rfl, by decide⟩
theorem eX2_putCount_12 : sl_D YX2_putCount 12 (.aload_n 0) 1 13 := ⟨by decide +kernel, rfl⟩
theorem eX2_putCount_13 : sl_D YX2_putCount 13 (.getfield 30) 3 16 := ⟨by decide +kernel, rfl⟩
theorem eX2_putCount_16 : sl_D YX2_putCount 16 (.iload_n 2) 1 17 := ⟨by decide +kernel, rfl⟩
theorem eX2_putCount_17 : sl_D YX2_putCount 17 (.baload) 1 18 := ⟨by decide +kernel, rfl⟩
theorem eX2_putCount_18 : sl_B YX2_putCount 18 (fun o => .ifCond .eq o) 21 24 := ⟨6, by decide +kernel, rfl, by decide⟩
theorem eX2_putCount_21 : sl_D YX2_putCount 21 (.iinc 1 1) 3 24 := ⟨by decide +kernel, rfl⟩
theorem eX2_putCount_24 : sl_D YX2_putCount 24 (.iinc 2 1) 3 27 := ⟨by decide +kernel, rfl⟩
theorem eX2_putCount_27 : sl_B YX2_putCount 27 (fun o => .goto o) 30 4 := ⟨-23, by decide +kernel, rfl, by decide⟩
theorem eX2_putCount_30 : sl_D YX2_putCount 30 (.iload_n 1) 1 31 := ⟨by decide +kernel, rfl⟩
theorem eX2_putCount_31 : sl_D YX2_putCount 31 (.ireturn) 1 32 := ⟨by decide +kernel, rfl⟩
theorem eX2_isBarren_0 : sl_D YX2_isBarren 0 (.iconst 0) 1 1 := ⟨by decide +kernel, rfl⟩
theorem eX2_isBarren_1 : sl_D YX2_isBarren 1 (.istore_n 2) 1 2 := ⟨by decide +kernel, rfl⟩
theorem eX2_isBarren_2 : sl_D YX2_isBarren 2 (.iload_n 2) 1 3 := ⟨by decide +kernel, rfl⟩
theorem eX2_isBarren_3 : sl_D YX2_isBarren 3 (.aload_n 0) 1 4 := ⟨by decide +kernel, rfl⟩
theorem eX2_isBarren_4 : sl_D YX2_isBarren 4 (.getfield 38) 3 7 := ⟨by decide +kernel, rfl⟩
theorem eX2_isBarren_7 : sl_B YX2_isBarren 7 (fun o => .if_icmp .ge o) 10 37 := ⟨30, by decide +kernel, rfl, by decide⟩
theorem eX2_isBarren_10 : sl_D YX2_isBarren 10 (.aload_n 0) 1 11 := ⟨by decide +kernel, rfl⟩
theorem eX2_isBarren_11 : sl_D YX2_isBarren 11 (.getfield 18) 3 14 := ⟨by decide +kernel, rfl⟩
theorem eX2_isBarren_14 : sl_D YX2_isBarren 14 (.iload_n 2) 1 15 := ⟨by decide +kernel, rfl⟩
theorem eX2_isBarren_15 : sl_D YX2_isBarren 15 (.iaload) 1 16 := ⟨by decide +kernel, rfl⟩
theorem eX2_isBarren_16 : sl_D YX2_isBarren 16 (.iload_n 1) 1 17 := ⟨by decide +kernel, rfl⟩
theorem eX2_isBarren_17 : sl_B YX2_isBarren 17 (fun o => .if_icmp .ne o) 20 31 := ⟨14, by decide +kernel, rfl, by decide⟩
theorem eX2_isBarren_20 : sl_D YX2_isBarren 20 (.aload_n 0) 1 21 := ⟨by decide +kernel, rfl⟩
theorem eX2_isBarren_21 : sl_D YX2_isBarren 21 (.getfield 30) 3 24 := ⟨by decide +kernel, rfl⟩
theorem eX2_isBarren_24 : sl_D YX2_isBarren 24 (.iload_n 2) 1 25 := ⟨by decide +kernel, rfl⟩
theorem eX2_isBarren_25 : sl_D YX2_isBarren 25 (.baload) 1 26 := ⟨by decide +kernel, rfl⟩
theorem eX2_isBarren_26 : sl_B YX2_isBarren 26 (fun o => .ifCond .ne o) 29 31 := ⟨5, by decide +kernel, rfl, by decide⟩
theorem eX2_isBarren_29 : sl_D YX2_isBarren 29 (.iconst 0) 1 30 := ⟨by decide +kernel, rfl⟩
theorem eX2_isBarren_30 : sl_D YX2_isBarren 30 (.ireturn) 1 31 := ⟨by decide +kernel, rfl⟩
theorem eX2_isBarren_31 : sl_D YX2_isBarren 31 (.iinc 2 1) 3 34 := ⟨by decide +kernel, rfl⟩
theorem eX2_isBarren_34 : sl_B YX2_isBarren 34 (fun o => .goto o) 37 2 := ⟨-32, by decide +kernel, rfl, by decide⟩
theorem eX2_isBarren_37 : sl_D YX2_isBarren 37 (.iconst 1) 1 38 := ⟨by decide +kernel, rfl⟩
theorem eX2_isBarren_38 : sl_D YX2_isBarren 38 (.ireturn) 1 39 := ⟨by decide +kernel, rfl⟩
theorem eX2_barrenName_0 : sl_D YX2_barrenName 0 (.iload_n 1) 1 1 := ⟨by decide +kernel, rfl⟩
theorem eX2_barrenName_1 : sl_D YX2_barrenName 1 (.istore_n 2) 1 2 := ⟨by decide +kernel, rfl⟩
theorem eX2_barrenName_2 : sl_D YX2_barrenName 2 (.iconst 0) 1 3 := ⟨by decide +kernel, rfl⟩
theorem eX2_barrenName_3 : sl_D YX2_barrenName 3 (.istore_n 3) 1 4 := ⟨by decide +kernel, rfl⟩
theorem eX2_barrenName_4 : sl_D YX2_barrenName 4 (.iload_n 3) 1 5 := ⟨by decide +kernel, rfl⟩
theorem eX2_barrenName_5 : sl_D YX2_barrenName 5 (.aload_n 0) 1 6 := ⟨by decide +kernel, rfl⟩
theorem eX2_barrenName_6 : sl_D YX2_barrenName 6 (.getfield 41) 3 9 := ⟨by decide +kernel, rfl⟩
theorem eX2_barrenName_9 : sl_B YX2_barrenName 9 (fun o => .if_icmp .ge o) 12 35 := ⟨26, by decide +kernel, rfl, by decide⟩
theorem eX2_barrenName_12 : sl_D YX2_barrenName 12 (.aload_n 0) 1 13 := ⟨by decide +kernel, rfl⟩
theorem eX2_barrenName_13 : sl_D YX2_barrenName 13 (.iload_n 3) 1 14 := ⟨by decide +kernel, rfl⟩
theorem eX2_barrenName_14 : sl_D YX2_barrenName 14 (.invokevirtual 65) 3 17 := ⟨by decide +kernel, rfl⟩
theorem eX2_barrenName_17 : sl_B YX2_barrenName 17 (fun o => .ifCond .eq o) 20 29 := ⟨12, by decide +kernel, rfl, by decide⟩
theorem eX2_barrenName_20 : sl_D YX2_barrenName 20 (.iload_n 2) 1 21 := ⟨by decide +kernel, rfl⟩
theorem eX2_barrenName_21 : sl_B YX2_barrenName 21 (fun o => .ifCond .ne o) 24 26 := ⟨5, by decide +kernel, rfl, by decide⟩
theorem eX2_barrenName_24 : sl_D YX2_barrenName 24 (.iload_n 3) 1 25 := ⟨by decide +kernel, rfl⟩
theorem eX2_barrenName_25 : sl_D YX2_barrenName 25 (.ireturn) 1 26 := ⟨by decide +kernel, rfl⟩
theorem eX2_barrenName_26 : sl_D YX2_barrenName 26 (.iinc 2 (-1)) 3 29 := ⟨by decide +kernel, rfl⟩
theorem eX2_barrenName_29 : sl_D YX2_barrenName 29 (.iinc 3 1) 3 32 := ⟨by decide +kernel, rfl⟩
theorem eX2_barrenName_32 : sl_B YX2_barrenName 32 (fun o => .goto o) 35 4 := ⟨-28, by decide +kernel, rfl, by decide⟩
theorem eX2_barrenName_35 : sl_D YX2_barrenName 35 (.iconst (-1)) 1 36 := ⟨by decide +kernel, rfl⟩
theorem eX2_barrenName_36 : sl_D YX2_barrenName 36 (.ireturn) 1 37 := ⟨by decide +kernel, rfl⟩
theorem eX3_init_0 : sl_D YX3_init 0 (.aload_n 0) 1 1 := ⟨by decide +kernel, rfl⟩
theorem eX3_init_1 : sl_D YX3_init 1 (.invokespecial 3) 3 4 := ⟨by decide +kernel, rfl⟩
theorem eX3_init_4 : sl_D YX3_init 4 (.return_) 1 5 := ⟨by decide +kernel, rfl⟩
theorem eX3_readAll_0 : sl_D YX3_readAll 0 (.aload_n 0) 1 1 := ⟨by decide +kernel, rfl⟩
theorem eX3_readAll_1 : sl_D YX3_readAll 1 (.aload_n 1) 1 2 := ⟨by decide +kernel, rfl⟩
theorem eX3_readAll_2 : sl_D YX3_readAll 2 (.putfield 9) 3 5 := ⟨by decide +kernel, rfl⟩
theorem eX3_readAll_5 : sl_D YX3_readAll 5 (.aload_n 0) 1 6 := ⟨by decide +kernel, rfl⟩
theorem eX3_readAll_6 : sl_D YX3_readAll 6 (.iload_n 2) 1 7 := ⟨by decide +kernel, rfl⟩
theorem eX3_readAll_7 : sl_D YX3_readAll 7 (.putfield 15) 3 10 := ⟨by decide +kernel, rfl⟩
theorem eX3_readAll_10 : sl_D YX3_readAll 10 (.aload_n 0) 1 11 := ⟨by decide +kernel, rfl⟩
theorem eX3_readAll_11 : sl_D YX3_readAll 11 (.iconst 0) 1 12 := ⟨by decide +kernel, rfl⟩
theorem eX3_readAll_12 : sl_D YX3_readAll 12 (.putfield 19) 3 15 := ⟨by decide +kernel, rfl⟩
theorem eX3_readAll_15 : sl_D YX3_readAll 15 (.aload_n 0) 1 16 := ⟨by decide +kernel, rfl⟩
theorem eX3_readAll_16 : sl_D YX3_readAll 16 (.aload_n 3) 1 17 := ⟨by decide +kernel, rfl⟩
theorem eX3_readAll_17 : sl_D YX3_readAll 17 (.putfield 22) 3 20 := ⟨by decide +kernel, rfl⟩
theorem eX3_readAll_20 : sl_D YX3_readAll 20 (.aload_n 0) 1 21 := ⟨by decide +kernel, rfl⟩
theorem eX3_readAll_21 : sl_D YX3_readAll 21 (.getfield 22) 3 24 := ⟨by decide +kernel, rfl⟩
theorem eX3_readAll_24 : sl_D YX3_readAll 24 (.invokevirtual 26) 3 27 := ⟨by decide +kernel, rfl⟩
theorem eX3_readAll_27 : sl_D YX3_readAll 27 (.aload_n 0) 1 28 := ⟨by decide +kernel, rfl⟩
theorem eX3_readAll_28 : sl_D YX3_readAll 28 (.iconst 0) 1 29 := ⟨by decide +kernel, rfl⟩
theorem eX3_readAll_29 : sl_D YX3_readAll 29 (.putfield 31) 3 32 := ⟨by decide +kernel, rfl⟩
theorem eX3_readAll_32 : sl_D YX3_readAll 32 (.aload_n 0) 1 33 := ⟨by decide +kernel, rfl⟩
theorem eX3_readAll_33 : sl_D YX3_readAll 33 (.iconst 0) 1 34 := ⟨by decide +kernel, rfl⟩
theorem eX3_readAll_34 : sl_D YX3_readAll 34 (.putfield 34) 3 37 := ⟨by decide +kernel, rfl⟩
theorem eX3_readAll_37 : sl_D YX3_readAll 37 (.aload_n 0) 1 38 := ⟨by decide +kernel, rfl⟩
theorem eX3_readAll_38 : sl_D YX3_readAll 38 (.iconst 0) 1 39 := ⟨by decide +kernel, rfl⟩
theorem eX3_readAll_39 : sl_D YX3_readAll 39 (.putfield 38) 3 42 := ⟨by decide +kernel, rfl⟩
theorem eX3_readAll_42 : sl_D YX3_readAll 42 (.aload_n 0) 1 43 := ⟨by decide +kernel, rfl⟩
theorem eX3_readAll_43 : sl_D YX3_readAll 43 (.iconst 0) 1 44 := ⟨by decide +kernel, rfl⟩
theorem eX3_readAll_44 : sl_D YX3_readAll 44 (.putfield 41) 3 47 := ⟨by decide +kernel, rfl⟩
theorem eX3_readAll_47 : sl_D YX3_readAll 47 (.aload_n 0) 1 48 := ⟨by decide +kernel, rfl⟩
theorem eX3_readAll_48 : sl_D YX3_readAll 48 (.iconst 0) 1 49 := ⟨by decide +kernel, rfl⟩
theorem eX3_readAll_49 : sl_D YX3_readAll 49 (.putfield 44) 3 52 := ⟨by decide +kernel, rfl⟩
theorem eX3_readAll_52 : sl_D YX3_readAll 52 (.iconst 0) 1 53 := ⟨by decide +kernel, rfl⟩
theorem eX3_readAll_53 : sl_D YX3_readAll 53 (.istore 4) 2 55 := ⟨by decide +kernel, rfl⟩
theorem eX3_readAll_55 : sl_D YX3_readAll 55 (.iload 4) 2 57 := ⟨by decide +kernel, rfl⟩
theorem eX3_readAll_57 : sl_D YX3_readAll 57 (.iload_n 2) 1 58 := ⟨by decide +kernel, rfl⟩
theorem eX3_readAll_58 : sl_B YX3_readAll 58 (fun o => .if_icmp .gt o) 61 82 := ⟨24, by decide +kernel, rfl, by decide⟩
theorem eX3_readAll_61 : sl_D YX3_readAll 61 (.aload_n 0) 1 62 := ⟨by decide +kernel, rfl⟩
theorem eX3_readAll_62 : sl_D YX3_readAll 62 (.getfield 38) 3 65 := ⟨by decide +kernel, rfl⟩
theorem eX3_readAll_65 : sl_B YX3_readAll 65 (fun o => .ifCond .ne o) 68 82 := ⟨17, by decide +kernel, rfl, by decide⟩
theorem eX3_readAll_68 : sl_D YX3_readAll 68 (.aload_n 0) 1 69 := ⟨by decide +kernel, rfl⟩
theorem eX3_readAll_69 : sl_D YX3_readAll 69 (.invokevirtual 47) 3 72 := ⟨by decide +kernel, rfl⟩
theorem eX3_readAll_72 : sl_D YX3_readAll 72 (.aload_n 0) 1 73 := ⟨by decide +kernel, rfl⟩
theorem eX3_readAll_73 : sl_D YX3_readAll 73 (.invokevirtual 50) 3 76 := ⟨by decide +kernel, rfl⟩
theorem eX3_readAll_76 : sl_D YX3_readAll 76 (.iinc 4 1) 3 79 := ⟨by decide +kernel, rfl⟩
theorem eX3_readAll_79 : sl_B YX3_readAll 79 (fun o => .goto o) 82 55 := ⟨-24, by decide +kernel, rfl, by decide⟩
theorem eX3_readAll_82 : sl_D YX3_readAll 82 (.return_) 1 83 := ⟨by decide +kernel, rfl⟩
theorem eX3_byteAt_0 : sl_D YX3_byteAt 0 (.aload_n 0) 1 1 := ⟨by decide +kernel, rfl⟩
theorem eX3_byteAt_1 : sl_D YX3_byteAt 1 (.getfield 9) 3 4 := ⟨by decide +kernel, rfl⟩
theorem eX3_byteAt_4 : sl_D YX3_byteAt 4 (.iload_n 1) 1 5 := ⟨by decide +kernel, rfl⟩
theorem eX3_byteAt_5 : sl_D YX3_byteAt 5 (.baload) 1 6 := ⟨by decide +kernel, rfl⟩
theorem eX3_byteAt_6 : sl_D YX3_byteAt 6 (.sipush 255) 3 9 := ⟨by decide +kernel, rfl⟩
theorem eX3_byteAt_9 : sl_D YX3_byteAt 9 (.iand) 1 10 := ⟨by decide +kernel, rfl⟩
theorem eX3_byteAt_10 : sl_D YX3_byteAt 10 (.ireturn) 1 11 := ⟨by decide +kernel, rfl⟩
theorem eX3_nextToken_0 : sl_D YX3_nextToken 0 (.aload_n 0) 1 1 := ⟨by decide +kernel, rfl⟩
theorem eX3_nextToken_1 : sl_D YX3_nextToken 1 (.getfield 19) 3 4 := ⟨by decide +kernel, rfl⟩
theorem eX3_nextToken_4 : sl_D YX3_nextToken 4 (.aload_n 0) 1 5 := ⟨by decide +kernel, rfl⟩
theorem eX3_nextToken_5 : sl_D YX3_nextToken 5 (.getfield 15) 3 8 := ⟨by decide +kernel, rfl⟩
theorem eX3_nextToken_8 : sl_B YX3_nextToken 8 (fun o => .if_icmp .ge o) 11 37 := ⟨29, by decide +kernel, rfl, by decide⟩
theorem eX3_nextToken_11 : sl_D YX3_nextToken 11 (.aload_n 0) 1 12 := ⟨by decide +kernel, rfl⟩
theorem eX3_nextToken_12 : sl_D YX3_nextToken 12 (.aload_n 0) 1 13 := ⟨by decide +kernel, rfl⟩
theorem eX3_nextToken_13 : sl_D YX3_nextToken 13 (.getfield 19) 3 16 := ⟨by decide +kernel, rfl⟩
theorem eX3_nextToken_16 : sl_D YX3_nextToken 16 (.invokevirtual 53) 3 19 := ⟨by decide +kernel, rfl⟩
theorem eX3_nextToken_19 : sl_D YX3_nextToken 19 (.bipush 32) 2 21 := ⟨by decide +kernel, rfl⟩
theorem eX3_nextToken_21 : sl_B YX3_nextToken 21 (fun o => .if_icmp .ne o) 24 37 := ⟨16, by decide +kernel, rfl, by decide⟩
theorem eX3_nextToken_24 : sl_D YX3_nextToken 24 (.aload_n 0) 1 25 := ⟨by decide +kernel, rfl⟩
theorem eX3_nextToken_25 : sl_D YX3_nextToken 25 (.dup) 1 26 := ⟨by decide +kernel, rfl⟩
theorem eX3_nextToken_26 : sl_D YX3_nextToken 26 (.getfield 19) 3 29 := ⟨by decide +kernel, rfl⟩
theorem eX3_nextToken_29 : sl_D YX3_nextToken 29 (.iconst 1) 1 30 := ⟨by decide +kernel, rfl⟩
theorem eX3_nextToken_30 : sl_D YX3_nextToken 30 (.iadd) 1 31 := ⟨by decide +kernel, rfl⟩
theorem eX3_nextToken_31 : sl_D YX3_nextToken 31 (.putfield 19) 3 34 := ⟨by decide +kernel, rfl⟩
theorem eX3_nextToken_34 : sl_B YX3_nextToken 34 (fun o => .goto o) 37 0 := ⟨-34, by decide +kernel, rfl, by decide⟩
theorem eX3_nextToken_37 : sl_D YX3_nextToken 37 (.aload_n 0) 1 38 := ⟨by decide +kernel, rfl⟩
theorem eX3_nextToken_38 : sl_D YX3_nextToken 38 (.aload_n 0) 1 39 := ⟨by decide +kernel, rfl⟩
theorem eX3_nextToken_39 : sl_D YX3_nextToken 39 (.getfield 19) 3 42 := ⟨by decide +kernel, rfl⟩
theorem eX3_nextToken_42 : sl_D YX3_nextToken 42 (.putfield 57) 3 45 := ⟨by decide +kernel, rfl⟩
theorem eX3_nextToken_45 : sl_D YX3_nextToken 45 (.aload_n 0) 1 46 := ⟨by decide +kernel, rfl⟩
theorem eX3_nextToken_46 : sl_D YX3_nextToken 46 (.getfield 19) 3 49 := ⟨by decide +kernel, rfl⟩
theorem eX3_nextToken_49 : sl_D YX3_nextToken 49 (.aload_n 0) 1 50 := ⟨by decide +kernel, rfl⟩
theorem eX3_nextToken_50 : sl_D YX3_nextToken 50 (.getfield 15) 3 53 := ⟨by decide +kernel, rfl⟩
theorem eX3_nextToken_53 : sl_B YX3_nextToken 53 (fun o => .if_icmp .lt o) 56 62 := ⟨9, by decide +kernel, rfl, by decide⟩
theorem eX3_nextToken_56 : sl_D YX3_nextToken 56 (.aload_n 0) 1 57 := ⟨by decide +kernel, rfl⟩
theorem eX3_nextToken_57 : sl_D YX3_nextToken 57 (.iconst 0) 1 58 := ⟨by decide +kernel, rfl⟩
theorem eX3_nextToken_58 : sl_D YX3_nextToken 58 (.putfield 60) 3 61 := ⟨by decide +kernel, rfl⟩
theorem eX3_nextToken_61 : sl_D YX3_nextToken 61 (.return_) 1 62 := ⟨by decide +kernel, rfl⟩
theorem eX3_nextToken_62 : sl_D YX3_nextToken 62 (.aload_n 0) 1 63 := ⟨by decide +kernel, rfl⟩
theorem eX3_nextToken_63 : sl_D YX3_nextToken 63 (.aload_n 0) 1 64 := ⟨by decide +kernel, rfl⟩
theorem eX3_nextToken_64 : sl_D YX3_nextToken 64 (.getfield 19) 3 67 := ⟨by decide +kernel, rfl⟩
theorem eX3_nextToken_67 : sl_D YX3_nextToken 67 (.invokevirtual 53) 3 70 := ⟨by decide +kernel, rfl⟩
theorem eX3_nextToken_70 : sl_D YX3_nextToken 70 (.istore_n 1) 1 71 := ⟨by decide +kernel, rfl⟩
theorem eX3_nextToken_71 : sl_D YX3_nextToken 71 (.iload_n 1) 1 72 := ⟨by decide +kernel, rfl⟩
theorem eX3_nextToken_72 : sl_D YX3_nextToken 72 (.invokestatic 63) 3 75 := ⟨by decide +kernel, rfl⟩
theorem eX3_nextToken_75 : sl_B YX3_nextToken 75 (fun o => .ifCond .eq o) 78 83 := ⟨8, by decide +kernel, rfl, by decide⟩
theorem eX3_nextToken_78 : sl_D YX3_nextToken 78 (.aload_n 0) 1 79 := ⟨by decide +kernel, rfl⟩
theorem eX3_nextToken_79 : sl_D YX3_nextToken 79 (.invokevirtual 67) 3 82 := ⟨by decide +kernel, rfl⟩
theorem eX3_nextToken_82 : sl_D YX3_nextToken 82 (.return_) 1 83 := ⟨by decide +kernel, rfl⟩
theorem eX3_nextToken_83 : sl_D YX3_nextToken 83 (.aload_n 0) 1 84 := ⟨by decide +kernel, rfl⟩
theorem eX3_nextToken_84 : sl_D YX3_nextToken 84 (.dup) 1 85 := ⟨by decide +kernel, rfl⟩
theorem eX3_nextToken_85 : sl_D YX3_nextToken 85 (.getfield 19) 3 88 := ⟨by decide +kernel, rfl⟩
theorem eX3_nextToken_88 : sl_D YX3_nextToken 88 (.iconst 1) 1 89 := ⟨by decide +kernel, rfl⟩
theorem eX3_nextToken_89 : sl_D YX3_nextToken 89 (.iadd) 1 90 := ⟨by decide +kernel, rfl⟩
theorem eX3_nextToken_90 : sl_D YX3_nextToken 90 (.putfield 19) 3 93 := ⟨by decide +kernel, rfl⟩
theorem eX3_nextToken_93 : sl_D YX3_nextToken 93 (.iload_n 1) 1 94 := ⟨by decide +kernel, rfl⟩
theorem eX3_nextToken_94 : sl_D YX3_nextToken 94 (.bipush 59) 2 96 := ⟨by decide +kernel, rfl⟩
theorem eX3_nextToken_96 : sl_B YX3_nextToken 96 (fun o => .if_icmp .ne o) 99 107 := ⟨11, by decide +kernel, rfl, by decide⟩
theorem eX3_nextToken_99 : sl_D YX3_nextToken 99 (.aload_n 0) 1 100 := ⟨by decide +kernel, rfl⟩
theorem eX3_nextToken_100 : sl_D YX3_nextToken 100 (.iconst 3) 1 101 := ⟨by decide +kernel, rfl⟩
theorem eX3_nextToken_101 : sl_D YX3_nextToken 101 (.putfield 60) 3 104 := ⟨by decide +kernel, rfl⟩
theorem eX3_nextToken_104 : sl_B YX3_nextToken 104 (fun o => .goto o) 107 135 := ⟨31, by decide +kernel, rfl, by decide⟩
theorem eX3_nextToken_107 : sl_D YX3_nextToken 107 (.ldc 70) 2 109 := ⟨by decide +kernel, rfl⟩
theorem eX3_nextToken_109 : sl_D YX3_nextToken 109 (.iload_n 1) 1 110 := ⟨by decide +kernel, rfl⟩
theorem eX3_nextToken_110 : sl_D YX3_nextToken 110 (.i2c) 1 111 := ⟨by decide +kernel, rfl⟩
theorem eX3_nextToken_111 : sl_D YX3_nextToken 111 (.invokevirtual 72) 3 114 := ⟨by decide +kernel, rfl⟩
theorem eX3_nextToken_114 : sl_B YX3_nextToken 114 (fun o => .ifCond .lt o) 117 130 := ⟨16, by decide +kernel, rfl, by decide⟩
theorem eX3_nextToken_117 : sl_D YX3_nextToken 117 (.aload_n 0) 1 118 := ⟨by decide +kernel, rfl⟩
theorem eX3_nextToken_118 : sl_D YX3_nextToken 118 (.iconst 2) 1 119 := ⟨by decide +kernel, rfl⟩
theorem eX3_nextToken_119 : sl_D YX3_nextToken 119 (.putfield 60) 3 122 := ⟨by decide +kernel, rfl⟩
theorem eX3_nextToken_122 : sl_D YX3_nextToken 122 (.aload_n 0) 1 123 := ⟨by decide +kernel, rfl⟩
theorem eX3_nextToken_123 : sl_D YX3_nextToken 123 (.iload_n 1) 1 124 := ⟨by decide +kernel, rfl⟩
theorem eX3_nextToken_124 : sl_D YX3_nextToken 124 (.putfield 77) 3 127 := ⟨by decide +kernel, rfl⟩
theorem eX3_nextToken_127 : sl_B YX3_nextToken 127 (fun o => .goto o) 130 135 := ⟨8, by decide +kernel, rfl, by decide⟩
theorem eX3_nextToken_130 : sl_D YX3_nextToken 130 (.aload_n 0) 1 131 := ⟨by decide +kernel, rfl⟩
theorem eX3_nextToken_131 : sl_D YX3_nextToken 131 (.iconst 4) 1 132 := ⟨by decide +kernel, rfl⟩
theorem eX3_nextToken_132 : sl_D YX3_nextToken 132 (.putfield 60) 3 135 := ⟨by decide +kernel, rfl⟩
theorem eX3_nextToken_135 : sl_D YX3_nextToken 135 (.return_) 1 136 := ⟨by decide +kernel, rfl⟩
theorem eX3_nextWord_0 : sl_D YX3_nextWord 0 (.iconst 0) 1 1 := ⟨by decide +kernel, rfl⟩
theorem eX3_nextWord_1 : sl_D YX3_nextWord 1 (.istore_n 1) 1 2 := ⟨by decide +kernel, rfl⟩
theorem eX3_nextWord_2 : sl_D YX3_nextWord 2 (.aload_n 0) 1 3 := ⟨by decide +kernel, rfl⟩
theorem eX3_nextWord_3 : sl_D YX3_nextWord 3 (.getfield 19) 3 6 := ⟨by decide +kernel, rfl⟩
theorem eX3_nextWord_6 : sl_D YX3_nextWord 6 (.aload_n 0) 1 7 := ⟨by decide +kernel, rfl⟩
theorem eX3_nextWord_7 : sl_D YX3_nextWord 7 (.getfield 15) 3 10 := ⟨by decide +kernel, rfl⟩
theorem eX3_nextWord_10 : sl_B YX3_nextWord 10 (fun o => .if_icmp .ge o) 13 59 := ⟨49, by decide +kernel, rfl, by decide⟩
theorem eX3_nextWord_13 : sl_D YX3_nextWord 13 (.aload_n 0) 1 14 := ⟨by decide +kernel, rfl⟩
theorem eX3_nextWord_14 : sl_D YX3_nextWord 14 (.aload_n 0) 1 15 := ⟨by decide +kernel, rfl⟩
theorem eX3_nextWord_15 : sl_D YX3_nextWord 15 (.getfield 19) 3 18 := ⟨by decide +kernel, rfl⟩
theorem eX3_nextWord_18 : sl_D YX3_nextWord 18 (.invokevirtual 53) 3 21 := ⟨by decide +kernel, rfl⟩
theorem eX3_nextWord_21 : sl_D YX3_nextWord 21 (.invokestatic 63) 3 24 := ⟨by decide +kernel, rfl⟩
theorem eX3_nextWord_24 : sl_B YX3_nextWord 24 (fun o => .ifCond .eq o) 27 59 := ⟨35, by decide +kernel, rfl, by decide⟩
theorem eX3_nextWord_27 : sl_D YX3_nextWord 27 (.iload_n 1) 1 28 := ⟨by decide +kernel, rfl⟩
theorem eX3_nextWord_28 : sl_D YX3_nextWord 28 (.bipush 32) 2 30 := ⟨by decide +kernel, rfl⟩
theorem eX3_nextWord_30 : sl_D YX3_nextWord 30 (.imul) 1 31 := ⟨by decide +kernel, rfl⟩
theorem eX3_nextWord_31 : sl_D YX3_nextWord 31 (.aload_n 0) 1 32 := ⟨by decide +kernel, rfl⟩
theorem eX3_nextWord_32 : sl_D YX3_nextWord 32 (.aload_n 0) 1 33 := ⟨by decide +kernel, rfl⟩
theorem eX3_nextWord_33 : sl_D YX3_nextWord 33 (.getfield 19) 3 36 := ⟨by decide +kernel, rfl⟩
theorem eX3_nextWord_36 : sl_D YX3_nextWord 36 (.invokevirtual 53) 3 39 := ⟨by decide +kernel, rfl⟩
theorem eX3_nextWord_39 : sl_D YX3_nextWord 39 (.iadd) 1 40 := ⟨by decide +kernel, rfl⟩
theorem eX3_nextWord_40 : sl_D YX3_nextWord 40 (.bipush 97) 2 42 := ⟨by decide +kernel, rfl⟩
theorem eX3_nextWord_42 : sl_D YX3_nextWord 42 (.isub) 1 43 := ⟨by decide +kernel, rfl⟩
theorem eX3_nextWord_43 : sl_D YX3_nextWord 43 (.iconst 1) 1 44 := ⟨by decide +kernel, rfl⟩
theorem eX3_nextWord_44 : sl_D YX3_nextWord 44 (.iadd) 1 45 := ⟨by decide +kernel, rfl⟩
theorem eX3_nextWord_45 : sl_D YX3_nextWord 45 (.istore_n 1) 1 46 := ⟨by decide +kernel, rfl⟩
theorem eX3_nextWord_46 : sl_D YX3_nextWord 46 (.aload_n 0) 1 47 := ⟨by decide +kernel, rfl⟩
theorem eX3_nextWord_47 : sl_D YX3_nextWord 47 (.dup) 1 48 := ⟨by decide +kernel, rfl⟩
theorem eX3_nextWord_48 : sl_D YX3_nextWord 48 (.getfield 19) 3 51 := ⟨by decide +kernel, rfl⟩
theorem eX3_nextWord_51 : sl_D YX3_nextWord 51 (.iconst 1) 1 52 := ⟨by decide +kernel, rfl⟩
theorem eX3_nextWord_52 : sl_D YX3_nextWord 52 (.iadd) 1 53 := ⟨by decide +kernel, rfl⟩
theorem eX3_nextWord_53 : sl_D YX3_nextWord 53 (.putfield 19) 3 56 := ⟨by decide +kernel, rfl⟩
theorem eX3_nextWord_56 : sl_B YX3_nextWord 56 (fun o => .goto o) 59 2 := ⟨-54, by decide +kernel, rfl, by decide⟩
theorem eX3_nextWord_59 : sl_D YX3_nextWord 59 (.aload_n 0) 1 60 := ⟨by decide +kernel, rfl⟩
theorem eX3_nextWord_60 : sl_D YX3_nextWord 60 (.iload_n 1) 1 61 := ⟨by decide +kernel, rfl⟩
theorem eX3_nextWord_61 : sl_D YX3_nextWord 61 (.putfield 80) 3 64 := ⟨by decide +kernel, rfl⟩
theorem eX3_nextWord_64 : sl_D YX3_nextWord 64 (.aload_n 0) 1 65 := ⟨by decide +kernel, rfl⟩
theorem eX3_nextWord_65 : sl_D YX3_nextWord 65 (.aload_n 0) 1 66 := ⟨by decide +kernel, rfl⟩
theorem eX3_nextWord_66 : sl_D YX3_nextWord 66 (.getfield 19) 3 69 := ⟨by decide +kernel, rfl⟩
theorem eX3_nextWord_69 : sl_D YX3_nextWord 69 (.aload_n 0) 1 70 := ⟨by decide +kernel, rfl⟩
theorem eX3_nextWord_70 : sl_D YX3_nextWord 70 (.getfield 57) 3 73 := ⟨by decide +kernel, rfl⟩
theorem eX3_nextWord_73 : sl_D YX3_nextWord 73 (.isub) 1 74 := ⟨by decide +kernel, rfl⟩
theorem eX3_nextWord_74 : sl_D YX3_nextWord 74 (.bipush 6) 2 76 := ⟨by decide +kernel, rfl⟩
theorem eX3_nextWord_76 : sl_B YX3_nextWord 76 (fun o => .if_icmp .gt o) 79 83 := ⟨7, by decide +kernel, rfl, by decide⟩
theorem eX3_nextWord_79 : sl_D YX3_nextWord 79 (.iconst 1) 1 80 := ⟨by decide +kernel, rfl⟩
theorem eX3_nextWord_80 : sl_B YX3_nextWord 80 (fun o => .goto o) 83 84 := ⟨4, by decide +kernel, rfl, by decide⟩
theorem eX3_nextWord_83 : sl_D YX3_nextWord 83 (.iconst 4) 1 84 := ⟨by decide +kernel, rfl⟩
theorem eX3_nextWord_84 : sl_D YX3_nextWord 84 (.putfield 60) 3 87 := ⟨by decide +kernel, rfl⟩
theorem eX3_nextWord_87 : sl_D YX3_nextWord 87 (.return_) 1 88 := ⟨by decide +kernel, rfl⟩
theorem eX3_isLetter_0 : sl_D YX3_isLetter 0 (.iload_n 0) 1 1 := ⟨by decide +kernel, rfl⟩
theorem eX3_isLetter_1 : sl_D YX3_isLetter 1 (.bipush 97) 2 3 := ⟨by decide +kernel, rfl⟩
theorem eX3_isLetter_3 : sl_B YX3_isLetter 3 (fun o => .if_icmp .lt o) 6 16 := ⟨13, by decide +kernel, rfl, by decide⟩
theorem eX3_isLetter_6 : sl_D YX3_isLetter 6 (.iload_n 0) 1 7 := ⟨by decide +kernel, rfl⟩
theorem eX3_isLetter_7 : sl_D YX3_isLetter 7 (.bipush 122) 2 9 := ⟨by decide +kernel, rfl⟩
theorem eX3_isLetter_9 : sl_B YX3_isLetter 9 (fun o => .if_icmp .gt o) 12 16 := ⟨7, by decide +kernel, rfl, by decide⟩
theorem eX3_isLetter_12 : sl_D YX3_isLetter 12 (.iconst 1) 1 13 := ⟨by decide +kernel, rfl⟩
theorem eX3_isLetter_13 : sl_B YX3_isLetter 13 (fun o => .goto o) 16 17 := ⟨4, by decide +kernel, rfl, by decide⟩
theorem eX3_isLetter_16 : sl_D YX3_isLetter 16 (.iconst 0) 1 17 := ⟨by decide +kernel, rfl⟩
theorem eX3_isLetter_17 : sl_D YX3_isLetter 17 (.ireturn) 1 18 := ⟨by decide +kernel, rfl⟩
theorem eX3_isWord_0 : sl_D YX3_isWord 0 (.aload_n 0) 1 1 := ⟨by decide +kernel, rfl⟩
theorem eX3_isWord_1 : sl_D YX3_isWord 1 (.getfield 60) 3 4 := ⟨by decide +kernel, rfl⟩
theorem eX3_isWord_4 : sl_D YX3_isWord 4 (.iconst 1) 1 5 := ⟨by decide +kernel, rfl⟩
theorem eX3_isWord_5 : sl_B YX3_isWord 5 (fun o => .if_icmp .eq o) 8 10 := ⟨5, by decide +kernel, rfl, by decide⟩
theorem eX3_isWord_8 : sl_D YX3_isWord 8 (.iconst 0) 1 9 := ⟨by decide +kernel, rfl⟩
theorem eX3_isWord_9 : sl_D YX3_isWord 9 (.ireturn) 1 10 := ⟨by decide +kernel, rfl⟩
theorem eX3_isWord_10 : sl_D YX3_isWord 10 (.iconst 0) 1 11 := ⟨by decide +kernel, rfl⟩
theorem eX3_isWord_11 : sl_D YX3_isWord 11 (.istore_n 2) 1 12 := ⟨by decide +kernel, rfl⟩
theorem eX3_isWord_12 : sl_D YX3_isWord 12 (.iconst 0) 1 13 := ⟨by decide +kernel, rfl⟩
theorem eX3_isWord_13 : sl_D YX3_isWord 13 (.istore_n 3) 1 14 := ⟨by decide +kernel, rfl⟩
theorem eX3_isWord_14 : sl_D YX3_isWord 14 (.iload_n 3) 1 15 := ⟨by decide +kernel, rfl⟩
theorem eX3_isWord_15 : sl_D YX3_isWord 15 (.aload_n 1) 1 16 := ⟨by decide +kernel, rfl⟩
theorem eX3_isWord_16 : sl_D YX3_isWord 16 (.invokevirtual 83) 3 19 := ⟨by decide +kernel, rfl⟩
theorem eX3_isWord_19 : sl_B YX3_isWord 19 (fun o => .if_icmp .ge o) 22 44 := ⟨25, by decide +kernel, rfl, by decide⟩
theorem eX3_isWord_22 : sl_D YX3_isWord 22 (.iload_n 2) 1 23 := ⟨by decide +kernel, rfl⟩
theorem eX3_isWord_23 : sl_D YX3_isWord 23 (.bipush 32) 2 25 := ⟨by decide +kernel, rfl⟩
theorem eX3_isWord_25 : sl_D YX3_isWord 25 (.imul) 1 26 := ⟨by decide +kernel, rfl⟩
theorem eX3_isWord_26 : sl_D YX3_isWord 26 (.aload_n 1) 1 27 := ⟨by decide +kernel, rfl⟩
theorem eX3_isWord_27 : sl_D YX3_isWord 27 (.iload_n 3) 1 28 := ⟨by decide +kernel, rfl⟩
theorem eX3_isWord_28 : sl_D YX3_isWord 28 (.invokevirtual 86) 3 31 := ⟨by decide +kernel, rfl⟩
theorem eX3_isWord_31 : sl_D YX3_isWord 31 (.iadd) 1 32 := ⟨by decide +kernel, rfl⟩
theorem eX3_isWord_32 : sl_D YX3_isWord 32 (.bipush 97) 2 34 := ⟨by decide +kernel, rfl⟩
theorem eX3_isWord_34 : sl_D YX3_isWord 34 (.isub) 1 35 := ⟨by decide +kernel, rfl⟩
theorem eX3_isWord_35 : sl_D YX3_isWord 35 (.iconst 1) 1 36 := ⟨by decide +kernel, rfl⟩
theorem eX3_isWord_36 : sl_D YX3_isWord 36 (.iadd) 1 37 := ⟨by decide +kernel, rfl⟩
theorem eX3_isWord_37 : sl_D YX3_isWord 37 (.istore_n 2) 1 38 := ⟨by decide +kernel, rfl⟩
theorem eX3_isWord_38 : sl_D YX3_isWord 38 (.iinc 3 1) 3 41 := ⟨by decide +kernel, rfl⟩
theorem eX3_isWord_41 : sl_B YX3_isWord 41 (fun o => .goto o) 44 14 := ⟨-27, by decide +kernel, rfl, by decide⟩
theorem eX3_isWord_44 : sl_D YX3_isWord 44 (.iload_n 2) 1 45 := ⟨by decide +kernel, rfl⟩
theorem eX3_isWord_45 : sl_D YX3_isWord 45 (.aload_n 0) 1 46 := ⟨by decide +kernel, rfl⟩
theorem eX3_isWord_46 : sl_D YX3_isWord 46 (.getfield 80) 3 49 := ⟨by decide +kernel, rfl⟩
theorem eX3_isWord_49 : sl_B YX3_isWord 49 (fun o => .if_icmp .ne o) 52 56 := ⟨7, by decide +kernel, rfl, by decide⟩
theorem eX3_isWord_52 : sl_D YX3_isWord 52 (.iconst 1) 1 53 := ⟨by decide +kernel, rfl⟩
theorem eX3_isWord_53 : sl_B YX3_isWord 53 (fun o => .goto o) 56 57 := ⟨4, by decide +kernel, rfl, by decide⟩
theorem eX3_isWord_56 : sl_D YX3_isWord 56 (.iconst 0) 1 57 := ⟨by decide +kernel, rfl⟩
theorem eX3_isWord_57 : sl_D YX3_isWord 57 (.ireturn) 1 58 := ⟨by decide +kernel, rfl⟩
theorem eX3_failWith_0 : sl_D YX3_failWith 0 (.aload_n 0) 1 1 := ⟨by decide +kernel, rfl⟩
theorem eX3_failWith_1 : sl_D YX3_failWith 1 (.iload_n 1) 1 2 := ⟨by decide +kernel, rfl⟩
theorem eX3_failWith_2 : sl_D YX3_failWith 2 (.putfield 41) 3 5 := ⟨by decide +kernel, rfl⟩
theorem eX3_failWith_5 : sl_D YX3_failWith 5 (.aload_n 0) 1 6 := ⟨by decide +kernel, rfl⟩
theorem eX3_failWith_6 : sl_D YX3_failWith 6 (.aload_n 0) 1 7 := ⟨by decide +kernel, rfl⟩
theorem eX3_failWith_7 : sl_D YX3_failWith 7 (.getfield 57) 3 10 := ⟨by decide +kernel, rfl⟩
theorem eX3_failWith_10 : sl_D YX3_failWith 10 (.putfield 44) 3 13 := ⟨by decide +kernel, rfl⟩
theorem eX3_failWith_13 : sl_D YX3_failWith 13 (.aload_n 0) 1 14 := ⟨by decide +kernel, rfl⟩
theorem eX3_failWith_14 : sl_D YX3_failWith 14 (.iconst 1) 1 15 := ⟨by decide +kernel, rfl⟩
theorem eX3_failWith_15 : sl_D YX3_failWith 15 (.putfield 38) 3 18 := ⟨by decide +kernel, rfl⟩
theorem eX3_failWith_18 : sl_D YX3_failWith 18 (.return_) 1 19 := ⟨by decide +kernel, rfl⟩
theorem eX3_takeToken_0 : sl_D YX3_takeToken 0 (.aload_n 0) 1 1 := ⟨by decide +kernel, rfl⟩
theorem eX3_takeToken_1 : sl_D YX3_takeToken 1 (.getfield 60) 3 4 := ⟨by decide +kernel, rfl⟩
theorem eX3_takeToken_4 : sl_D YX3_takeToken 4 (.iconst 4) 1 5 := ⟨by decide +kernel, rfl⟩
theorem eX3_takeToken_5 : sl_B YX3_takeToken 5 (fun o => .if_icmp .ne o) 8 14 := ⟨9, by decide +kernel, rfl, by decide⟩
theorem eX3_takeToken_8 : sl_D YX3_takeToken 8 (.aload_n 0) 1 9 := ⟨by decide +kernel, rfl⟩
theorem eX3_takeToken_9 : sl_D YX3_takeToken 9 (.iconst 1) 1 10 := ⟨by decide +kernel, rfl⟩
theorem eX3_takeToken_10 : sl_D YX3_takeToken 10 (.invokevirtual 90) 3 13 := ⟨by decide +kernel, rfl⟩
theorem eX3_takeToken_13 : sl_D YX3_takeToken 13 (.return_) 1 14 := ⟨by decide +kernel, rfl⟩
theorem eX3_takeToken_14 : sl_D YX3_takeToken 14 (.aload_n 0) 1 15 := ⟨by decide +kernel, rfl⟩
theorem eX3_takeToken_15 : sl_D YX3_takeToken 15 (.getfield 31) 3 18 := ⟨by decide +kernel, rfl⟩
theorem eX3_takeToken_18 : decode YX3_takeToken.2.1 18 = .ok (.tableswitch 84 0 6 #[42, 49, 56, 63, 70, 70, 77], 42) := by decide +kernel
theorem eX3_takeToken_60 : sl_D YX3_takeToken 60 (.aload_n 0) 1 61 := ⟨by decide +kernel, rfl⟩
theorem eX3_takeToken_61 : sl_D YX3_takeToken 61 (.invokevirtual 94) 3 64 := ⟨by decide +kernel, rfl⟩
theorem eX3_takeToken_64 : sl_B YX3_takeToken 64 (fun o => .goto o) 67 106 := ⟨42, by decide +kernel, rfl, by decide⟩
theorem eX3_takeToken_67 : sl_D YX3_takeToken 67 (.aload_n 0) 1 68 := ⟨by decide +kernel, rfl⟩
theorem eX3_takeToken_68 : sl_D YX3_takeToken 68 (.invokevirtual 97) 3 71 := ⟨by decide +kernel, rfl⟩
theorem eX3_takeToken_71 : sl_B YX3_takeToken 71 (fun o => .goto o) 74 106 := ⟨35, by decide +kernel, rfl, by decide⟩
theorem eX3_takeToken_74 : sl_D YX3_takeToken 74 (.aload_n 0) 1 75 := ⟨by decide +kernel, rfl⟩
theorem eX3_takeToken_75 : sl_D YX3_takeToken 75 (.invokevirtual 100) 3 78 := ⟨by decide +kernel, rfl⟩
theorem eX3_takeToken_78 : sl_B YX3_takeToken 78 (fun o => .goto o) 81 106 := ⟨28, by decide +kernel, rfl, by decide⟩
theorem eX3_takeToken_81 : sl_D YX3_takeToken 81 (.aload_n 0) 1 82 := ⟨by decide +kernel, rfl⟩
theorem eX3_takeToken_82 : sl_D YX3_takeToken 82 (.invokevirtual 103) 3 85 := ⟨by decide +kernel, rfl⟩
theorem eX3_takeToken_85 : sl_B YX3_takeToken 85 (fun o => .goto o) 88 106 := ⟨21, by decide +kernel, rfl, by decide⟩
theorem eX3_takeToken_88 : sl_D YX3_takeToken 88 (.aload_n 0) 1 89 := ⟨by decide +kernel, rfl⟩
theorem eX3_takeToken_89 : sl_D YX3_takeToken 89 (.invokevirtual 106) 3 92 := ⟨by decide +kernel, rfl⟩
theorem eX3_takeToken_92 : sl_B YX3_takeToken 92 (fun o => .goto o) 95 106 := ⟨14, by decide +kernel, rfl, by decide⟩
theorem eX3_takeToken_95 : sl_D YX3_takeToken 95 (.aload_n 0) 1 96 := ⟨by decide +kernel, rfl⟩
theorem eX3_takeToken_96 : sl_D YX3_takeToken 96 (.invokevirtual 109) 3 99 := ⟨by decide +kernel, rfl⟩
theorem eX3_takeToken_99 : sl_B YX3_takeToken 99 (fun o => .goto o) 102 106 := ⟨7, by decide +kernel, rfl, by decide⟩
theorem eX3_takeToken_102 : sl_D YX3_takeToken 102 (.aload_n 0) 1 103 := ⟨by decide +kernel, rfl⟩
theorem eX3_takeToken_103 : sl_D YX3_takeToken 103 (.invokevirtual 112) 3 106 := ⟨by decide +kernel, rfl⟩
theorem eX3_takeToken_106 : sl_D YX3_takeToken 106 (.return_) 1 107 := ⟨by decide +kernel, rfl⟩
theorem eX3_takeLine_0 : sl_D YX3_takeLine 0 (.aload_n 0) 1 1 := ⟨by decide +kernel, rfl⟩
theorem eX3_takeLine_1 : sl_D YX3_takeLine 1 (.ldc 115) 2 3 := ⟨by decide +kernel, rfl⟩
theorem eX3_takeLine_3 : sl_D YX3_takeLine 3 (.invokevirtual 117) 3 6 := ⟨by decide +kernel, rfl⟩
theorem eX3_takeLine_6 : sl_B YX3_takeLine 6 (fun o => .ifCond .eq o) 9 36 := ⟨30, by decide +kernel, rfl, by decide⟩
theorem eX3_takeLine_9 : sl_D YX3_takeLine 9 (.aload_n 0) 1 10 := ⟨by decide +kernel, rfl⟩
theorem eX3_takeLine_10 : sl_D YX3_takeLine 10 (.getfield 34) 3 13 := ⟨by decide +kernel, rfl⟩
theorem eX3_takeLine_13 : sl_B YX3_takeLine 13 (fun o => .ifCond .eq o) 16 23 := ⟨10, by decide +kernel, rfl, by decide⟩
theorem eX3_takeLine_16 : sl_D YX3_takeLine 16 (.aload_n 0) 1 17 := ⟨by decide +kernel, rfl⟩
theorem eX3_takeLine_17 : sl_D YX3_takeLine 17 (.bipush 6) 2 19 := ⟨by decide +kernel, rfl⟩
theorem eX3_takeLine_19 : sl_D YX3_takeLine 19 (.invokevirtual 90) 3 22 := ⟨by decide +kernel, rfl⟩
theorem eX3_takeLine_22 : sl_D YX3_takeLine 22 (.return_) 1 23 := ⟨by decide +kernel, rfl⟩
theorem eX3_takeLine_23 : sl_D YX3_takeLine 23 (.aload_n 0) 1 24 := ⟨by decide +kernel, rfl⟩
theorem eX3_takeLine_24 : sl_D YX3_takeLine 24 (.iconst 1) 1 25 := ⟨by decide +kernel, rfl⟩
theorem eX3_takeLine_25 : sl_D YX3_takeLine 25 (.putfield 34) 3 28 := ⟨by decide +kernel, rfl⟩
theorem eX3_takeLine_28 : sl_D YX3_takeLine 28 (.aload_n 0) 1 29 := ⟨by decide +kernel, rfl⟩
theorem eX3_takeLine_29 : sl_D YX3_takeLine 29 (.iconst 1) 1 30 := ⟨by decide +kernel, rfl⟩
theorem eX3_takeLine_30 : sl_D YX3_takeLine 30 (.putfield 31) 3 33 := ⟨by decide +kernel, rfl⟩
theorem eX3_takeLine_33 : sl_B YX3_takeLine 33 (fun o => .goto o) 36 93 := ⟨60, by decide +kernel, rfl, by decide⟩
theorem eX3_takeLine_36 : sl_D YX3_takeLine 36 (.aload_n 0) 1 37 := ⟨by decide +kernel, rfl⟩
theorem eX3_takeLine_37 : sl_D YX3_takeLine 37 (.ldc 121) 2 39 := ⟨by decide +kernel, rfl⟩
theorem eX3_takeLine_39 : sl_D YX3_takeLine 39 (.invokevirtual 117) 3 42 := ⟨by decide +kernel, rfl⟩
theorem eX3_takeLine_42 : sl_B YX3_takeLine 42 (fun o => .ifCond .eq o) 45 88 := ⟨46, by decide +kernel, rfl, by decide⟩
theorem eX3_takeLine_45 : sl_D YX3_takeLine 45 (.aload_n 0) 1 46 := ⟨by decide +kernel, rfl⟩
theorem eX3_takeLine_46 : sl_D YX3_takeLine 46 (.getfield 22) 3 49 := ⟨by decide +kernel, rfl⟩
theorem eX3_takeLine_49 : sl_D YX3_takeLine 49 (.getfield 123) 3 52 := ⟨by decide +kernel, rfl⟩
theorem eX3_takeLine_52 : sl_D YX3_takeLine 52 (.bipush 12) 2 54 := ⟨by decide +kernel, rfl⟩
theorem eX3_takeLine_54 : sl_B YX3_takeLine 54 (fun o => .if_icmp .lt o) 57 65 := ⟨11, by decide +kernel, rfl, by decide⟩
theorem eX3_takeLine_57 : sl_D YX3_takeLine 57 (.aload_n 0) 1 58 := ⟨by decide +kernel, rfl⟩
theorem eX3_takeLine_58 : sl_D YX3_takeLine 58 (.iconst 4) 1 59 := ⟨by decide +kernel, rfl⟩
theorem eX3_takeLine_59 : sl_D YX3_takeLine 59 (.invokevirtual 90) 3 62 := ⟨by decide +kernel, rfl⟩
theorem eX3_takeLine_62 : sl_B YX3_takeLine 62 (fun o => .goto o) 65 93 := ⟨31, by decide +kernel, rfl, by decide⟩
theorem eX3_takeLine_65 : sl_D YX3_takeLine 65 (.aload_n 0) 1 66 := ⟨by decide +kernel, rfl⟩
theorem eX3_takeLine_66 : sl_D YX3_takeLine 66 (.getfield 34) 3 69 := ⟨by decide +kernel, rfl⟩
theorem eX3_takeLine_69 : sl_B YX3_takeLine 69 (fun o => .ifCond .ne o) 72 80 := ⟨11, by decide +kernel, rfl, by decide⟩
theorem eX3_takeLine_72 : sl_D YX3_takeLine 72 (.aload_n 0) 1 73 := ⟨by decide +kernel, rfl⟩
theorem eX3_takeLine_73 : sl_D YX3_takeLine 73 (.iconst 5) 1 74 := ⟨by decide +kernel, rfl⟩
theorem eX3_takeLine_74 : sl_D YX3_takeLine 74 (.invokevirtual 90) 3 77 := ⟨by decide +kernel, rfl⟩
theorem eX3_takeLine_77 : sl_B YX3_takeLine 77 (fun o => .goto o) 80 93 := ⟨16, by decide +kernel, rfl, by decide⟩
theorem eX3_takeLine_80 : sl_D YX3_takeLine 80 (.aload_n 0) 1 81 := ⟨by decide +kernel, rfl⟩
theorem eX3_takeLine_81 : sl_D YX3_takeLine 81 (.iconst 2) 1 82 := ⟨by decide +kernel, rfl⟩
theorem eX3_takeLine_82 : sl_D YX3_takeLine 82 (.putfield 31) 3 85 := ⟨by decide +kernel, rfl⟩
theorem eX3_takeLine_85 : sl_B YX3_takeLine 85 (fun o => .goto o) 88 93 := ⟨8, by decide +kernel, rfl, by decide⟩
theorem eX3_takeLine_88 : sl_D YX3_takeLine 88 (.aload_n 0) 1 89 := ⟨by decide +kernel, rfl⟩
theorem eX3_takeLine_89 : sl_D YX3_takeLine 89 (.iconst 1) 1 90 := ⟨by decide +kernel, rfl⟩
theorem eX3_takeLine_90 : sl_D YX3_takeLine 90 (.invokevirtual 90) 3 93 := ⟨by decide +kernel, rfl⟩
theorem eX3_takeLine_93 : sl_D YX3_takeLine 93 (.return_) 1 94 := ⟨by decide +kernel, rfl⟩
theorem eX3_takeKind_0 : sl_D YX3_takeKind 0 (.aload_n 0) 1 1 := ⟨by decide +kernel, rfl⟩
theorem eX3_takeKind_1 : sl_D YX3_takeKind 1 (.ldc 126) 2 3 := ⟨by decide +kernel, rfl⟩
theorem eX3_takeKind_3 : sl_D YX3_takeKind 3 (.invokevirtual 117) 3 6 := ⟨by decide +kernel, rfl⟩
theorem eX3_takeKind_6 : sl_B YX3_takeKind 6 (fun o => .ifCond .eq o) 9 20 := ⟨14, by decide +kernel, rfl, by decide⟩
theorem eX3_takeKind_9 : sl_D YX3_takeKind 9 (.aload_n 0) 1 10 := ⟨by decide +kernel, rfl⟩
theorem eX3_takeKind_10 : sl_D YX3_takeKind 10 (.getfield 22) 3 13 := ⟨by decide +kernel, rfl⟩
theorem eX3_takeKind_13 : sl_D YX3_takeKind 13 (.iconst 0) 1 14 := ⟨by decide +kernel, rfl⟩
theorem eX3_takeKind_14 : sl_D YX3_takeKind 14 (.putfield 128) 3 17 := ⟨by decide +kernel, rfl⟩
theorem eX3_takeKind_17 : sl_B YX3_takeKind 17 (fun o => .goto o) 20 66 := ⟨49, by decide +kernel, rfl, by decide⟩
theorem eX3_takeKind_20 : sl_D YX3_takeKind 20 (.aload_n 0) 1 21 := ⟨by decide +kernel, rfl⟩
theorem eX3_takeKind_21 : sl_D YX3_takeKind 21 (.ldc 131) 2 23 := ⟨by decide +kernel, rfl⟩
theorem eX3_takeKind_23 : sl_D YX3_takeKind 23 (.invokevirtual 117) 3 26 := ⟨by decide +kernel, rfl⟩
theorem eX3_takeKind_26 : sl_B YX3_takeKind 26 (fun o => .ifCond .eq o) 29 40 := ⟨14, by decide +kernel, rfl, by decide⟩
theorem eX3_takeKind_29 : sl_D YX3_takeKind 29 (.aload_n 0) 1 30 := ⟨by decide +kernel, rfl⟩
theorem eX3_takeKind_30 : sl_D YX3_takeKind 30 (.getfield 22) 3 33 := ⟨by decide +kernel, rfl⟩
theorem eX3_takeKind_33 : sl_D YX3_takeKind 33 (.iconst 1) 1 34 := ⟨by decide +kernel, rfl⟩
theorem eX3_takeKind_34 : sl_D YX3_takeKind 34 (.putfield 128) 3 37 := ⟨by decide +kernel, rfl⟩
theorem eX3_takeKind_37 : sl_B YX3_takeKind 37 (fun o => .goto o) 40 66 := ⟨29, by decide +kernel, rfl, by decide⟩
theorem eX3_takeKind_40 : sl_D YX3_takeKind 40 (.aload_n 0) 1 41 := ⟨by decide +kernel, rfl⟩
theorem eX3_takeKind_41 : sl_D YX3_takeKind 41 (.ldc 133) 2 43 := ⟨by decide +kernel, rfl⟩
theorem eX3_takeKind_43 : sl_D YX3_takeKind 43 (.invokevirtual 117) 3 46 := ⟨by decide +kernel, rfl⟩
theorem eX3_takeKind_46 : sl_B YX3_takeKind 46 (fun o => .ifCond .eq o) 49 60 := ⟨14, by decide +kernel, rfl, by decide⟩
theorem eX3_takeKind_49 : sl_D YX3_takeKind 49 (.aload_n 0) 1 50 := ⟨by decide +kernel, rfl⟩
theorem eX3_takeKind_50 : sl_D YX3_takeKind 50 (.getfield 22) 3 53 := ⟨by decide +kernel, rfl⟩
theorem eX3_takeKind_53 : sl_D YX3_takeKind 53 (.iconst 2) 1 54 := ⟨by decide +kernel, rfl⟩
theorem eX3_takeKind_54 : sl_D YX3_takeKind 54 (.putfield 128) 3 57 := ⟨by decide +kernel, rfl⟩
theorem eX3_takeKind_57 : sl_B YX3_takeKind 57 (fun o => .goto o) 60 66 := ⟨9, by decide +kernel, rfl, by decide⟩
theorem eX3_takeKind_60 : sl_D YX3_takeKind 60 (.aload_n 0) 1 61 := ⟨by decide +kernel, rfl⟩
theorem eX3_takeKind_61 : sl_D YX3_takeKind 61 (.iconst 1) 1 62 := ⟨by decide +kernel, rfl⟩
theorem eX3_takeKind_62 : sl_D YX3_takeKind 62 (.invokevirtual 90) 3 65 := ⟨by decide +kernel, rfl⟩
theorem eX3_takeKind_65 : sl_D YX3_takeKind 65 (.return_) 1 66 := ⟨by decide +kernel, rfl⟩
theorem eX3_takeKind_66 : sl_D YX3_takeKind 66 (.aload_n 0) 1 67 := ⟨by decide +kernel, rfl⟩
theorem eX3_takeKind_67 : sl_D YX3_takeKind 67 (.bipush 7) 2 69 := ⟨by decide +kernel, rfl⟩
theorem eX3_takeKind_69 : sl_D YX3_takeKind 69 (.putfield 31) 3 72 := ⟨by decide +kernel, rfl⟩
theorem eX3_takeKind_72 : sl_D YX3_takeKind 72 (.return_) 1 73 := ⟨by decide +kernel, rfl⟩
theorem eX3_isNameWord_0 : sl_D YX3_isNameWord 0 (.aload_n 0) 1 1 := ⟨by decide +kernel, rfl⟩
theorem eX3_isNameWord_1 : sl_D YX3_isNameWord 1 (.getfield 60) 3 4 := ⟨by decide +kernel, rfl⟩
theorem eX3_isNameWord_4 : sl_D YX3_isNameWord 4 (.iconst 1) 1 5 := ⟨by decide +kernel, rfl⟩
theorem eX3_isNameWord_5 : sl_B YX3_isNameWord 5 (fun o => .if_icmp .ne o) 8 57 := ⟨52, by decide +kernel, rfl, by decide⟩
theorem eX3_isNameWord_8 : sl_D YX3_isNameWord 8 (.aload_n 0) 1 9 := ⟨by decide +kernel, rfl⟩
theorem eX3_isNameWord_9 : sl_D YX3_isNameWord 9 (.ldc 115) 2 11 := ⟨by decide +kernel, rfl⟩
theorem eX3_isNameWord_11 : sl_D YX3_isNameWord 11 (.invokevirtual 117) 3 14 := ⟨by decide +kernel, rfl⟩
theorem eX3_isNameWord_14 : sl_B YX3_isNameWord 14 (fun o => .ifCond .ne o) 17 57 := ⟨43, by decide +kernel, rfl, by decide⟩
theorem eX3_isNameWord_17 : sl_D YX3_isNameWord 17 (.aload_n 0) 1 18 := ⟨by decide +kernel, rfl⟩
theorem eX3_isNameWord_18 : sl_D YX3_isNameWord 18 (.ldc 121) 2 20 := ⟨by decide +kernel, rfl⟩
theorem eX3_isNameWord_20 : sl_D YX3_isNameWord 20 (.invokevirtual 117) 3 23 := ⟨by decide +kernel, rfl⟩
theorem eX3_isNameWord_23 : sl_B YX3_isNameWord 23 (fun o => .ifCond .ne o) 26 57 := ⟨34, by decide +kernel, rfl, by decide⟩
theorem eX3_isNameWord_26 : sl_D YX3_isNameWord 26 (.aload_n 0) 1 27 := ⟨by decide +kernel, rfl⟩
theorem eX3_isNameWord_27 : sl_D YX3_isNameWord 27 (.ldc 135) 2 29 := ⟨by decide +kernel, rfl⟩
theorem eX3_isNameWord_29 : sl_D YX3_isNameWord 29 (.invokevirtual 117) 3 32 := ⟨by decide +kernel, rfl⟩
theorem eX3_isNameWord_32 : sl_B YX3_isNameWord 32 (fun o => .ifCond .ne o) 35 57 := ⟨25, by decide +kernel, rfl, by decide⟩
theorem eX3_isNameWord_35 : sl_D YX3_isNameWord 35 (.aload_n 0) 1 36 := ⟨by decide +kernel, rfl⟩
theorem eX3_isNameWord_36 : sl_D YX3_isNameWord 36 (.ldc 137) 2 38 := ⟨by decide +kernel, rfl⟩
theorem eX3_isNameWord_38 : sl_D YX3_isNameWord 38 (.invokevirtual 117) 3 41 := ⟨by decide +kernel, rfl⟩
theorem eX3_isNameWord_41 : sl_B YX3_isNameWord 41 (fun o => .ifCond .ne o) 44 57 := ⟨16, by decide +kernel, rfl, by decide⟩
theorem eX3_isNameWord_44 : sl_D YX3_isNameWord 44 (.aload_n 0) 1 45 := ⟨by decide +kernel, rfl⟩
theorem eX3_isNameWord_45 : sl_D YX3_isNameWord 45 (.ldc 139) 2 47 := ⟨by decide +kernel, rfl⟩
theorem eX3_isNameWord_47 : sl_D YX3_isNameWord 47 (.invokevirtual 117) 3 50 := ⟨by decide +kernel, rfl⟩
theorem eX3_isNameWord_50 : sl_B YX3_isNameWord 50 (fun o => .ifCond .ne o) 53 57 := ⟨7, by decide +kernel, rfl, by decide⟩
theorem eX3_isNameWord_53 : sl_D YX3_isNameWord 53 (.iconst 1) 1 54 := ⟨by decide +kernel, rfl⟩
theorem eX3_isNameWord_54 : sl_B YX3_isNameWord 54 (fun o => .goto o) 57 58 := ⟨4, by decide +kernel, rfl, by decide⟩
theorem eX3_isNameWord_57 : sl_D YX3_isNameWord 57 (.iconst 0) 1 58 := ⟨by decide +kernel, rfl⟩
theorem eX3_isNameWord_58 : sl_D YX3_isNameWord 58 (.ireturn) 1 59 := ⟨by decide +kernel, rfl⟩
theorem eX3_meetName_0 : sl_D YX3_meetName 0 (.aload_n 0) 1 1 := ⟨by decide +kernel, rfl⟩
theorem eX3_meetName_1 : sl_D YX3_meetName 1 (.getfield 22) 3 4 := ⟨by decide +kernel, rfl⟩
theorem eX3_meetName_4 : sl_D YX3_meetName 4 (.aload_n 0) 1 5 := ⟨by decide +kernel, rfl⟩
theorem eX3_meetName_5 : sl_D YX3_meetName 5 (.getfield 80) 3 8 := ⟨by decide +kernel, rfl⟩
theorem eX3_meetName_8 : sl_D YX3_meetName 8 (.invokevirtual 141) 3 11 := ⟨by decide +kernel, rfl⟩
theorem eX3_meetName_11 : sl_D YX3_meetName 11 (.istore_n 1) 1 12 := ⟨by decide +kernel, rfl⟩
theorem eX3_meetName_12 : sl_D YX3_meetName 12 (.iload_n 1) 1 13 := ⟨by decide +kernel, rfl⟩
theorem eX3_meetName_13 : sl_D YX3_meetName 13 (.iconst (-1)) 1 14 := ⟨by decide +kernel, rfl⟩
theorem eX3_meetName_14 : sl_B YX3_meetName 14 (fun o => .if_icmp .eq o) 17 19 := ⟨5, by decide +kernel, rfl, by decide⟩
theorem eX3_meetName_17 : sl_D YX3_meetName 17 (.iload_n 1) 1 18 := ⟨by decide +kernel, rfl⟩
theorem eX3_meetName_18 : sl_D YX3_meetName 18 (.ireturn) 1 19 := ⟨by decide +kernel, rfl⟩
theorem eX3_meetName_19 : sl_D YX3_meetName 19 (.aload_n 0) 1 20 := ⟨by decide +kernel, rfl⟩
theorem eX3_meetName_20 : sl_D YX3_meetName 20 (.getfield 22) 3 23 := ⟨by decide +kernel, rfl⟩
theorem eX3_meetName_23 : sl_D YX3_meetName 23 (.getfield 144) 3 26 := ⟨by decide +kernel, rfl⟩
theorem eX3_meetName_26 : sl_D YX3_meetName 26 (.bipush 6) 2 28 := ⟨by decide +kernel, rfl⟩
theorem eX3_meetName_28 : sl_B YX3_meetName 28 (fun o => .if_icmp .lt o) 31 38 := ⟨10, by decide +kernel, rfl, by decide⟩
theorem eX3_meetName_31 : sl_D YX3_meetName 31 (.aload_n 0) 1 32 := ⟨by decide +kernel, rfl⟩
theorem eX3_meetName_32 : sl_D YX3_meetName 32 (.iconst 4) 1 33 := ⟨by decide +kernel, rfl⟩
theorem eX3_meetName_33 : sl_D YX3_meetName 33 (.invokevirtual 90) 3 36 := ⟨by decide +kernel, rfl⟩
theorem eX3_meetName_36 : sl_D YX3_meetName 36 (.iconst (-1)) 1 37 := ⟨by decide +kernel, rfl⟩
theorem eX3_meetName_37 : sl_D YX3_meetName 37 (.ireturn) 1 38 := ⟨by decide +kernel, rfl⟩
theorem eX3_meetName_38 : sl_D YX3_meetName 38 (.aload_n 0) 1 39 := ⟨by decide +kernel, rfl⟩
theorem eX3_meetName_39 : sl_D YX3_meetName 39 (.getfield 22) 3 42 := ⟨by decide +kernel, rfl⟩
theorem eX3_meetName_42 : sl_D YX3_meetName 42 (.getfield 147) 3 45 := ⟨by decide +kernel, rfl⟩
theorem eX3_meetName_45 : sl_D YX3_meetName 45 (.aload_n 0) 1 46 := ⟨by decide +kernel, rfl⟩
theorem eX3_meetName_46 : sl_D YX3_meetName 46 (.getfield 22) 3 49 := ⟨by decide +kernel, rfl⟩
theorem eX3_meetName_49 : sl_D YX3_meetName 49 (.getfield 144) 3 52 := ⟨by decide +kernel, rfl⟩
theorem eX3_meetName_52 : sl_D YX3_meetName 52 (.aload_n 0) 1 53 := ⟨by decide +kernel, rfl⟩
theorem eX3_meetName_53 : sl_D YX3_meetName 53 (.getfield 80) 3 56 := ⟨by decide +kernel, rfl⟩
theorem eX3_meetName_56 : sl_D YX3_meetName 56 (.iastore) 1 57 := ⟨by decide +kernel, rfl⟩
theorem eX3_meetName_57 : sl_D YX3_meetName 57 (.aload_n 0) 1 58 := ⟨by decide +kernel, rfl⟩
theorem eX3_meetName_58 : sl_D YX3_meetName 58 (.getfield 22) 3 61 := ⟨by decide +kernel, rfl⟩
theorem eX3_meetName_61 : sl_D YX3_meetName 61 (.dup) 1 62 := ⟨by decide +kernel, rfl⟩
theorem eX3_meetName_62 : sl_D YX3_meetName 62 (.getfield 144) 3 65 := ⟨by decide +kernel, rfl⟩
theorem eX3_meetName_65 : sl_D YX3_meetName 65 (.iconst 1) 1 66 := ⟨by decide +kernel, rfl⟩
theorem eX3_meetName_66 : sl_D YX3_meetName 66 (.iadd) 1 67 := ⟨by decide +kernel, rfl⟩
theorem eX3_meetName_67 : sl_D YX3_meetName 67 (.putfield 144) 3 70 := ⟨by decide +kernel, rfl⟩
theorem eX3_meetName_70 : sl_D YX3_meetName 70 (.aload_n 0) 1 71 := ⟨by decide +kernel, rfl⟩
theorem eX3_meetName_71 : sl_D YX3_meetName 71 (.getfield 22) 3 74 := ⟨by decide +kernel, rfl⟩
theorem eX3_meetName_74 : sl_D YX3_meetName 74 (.getfield 144) 3 77 := ⟨by decide +kernel, rfl⟩
theorem eX3_meetName_77 : sl_D YX3_meetName 77 (.iconst 1) 1 78 := ⟨by decide +kernel, rfl⟩
theorem eX3_meetName_78 : sl_D YX3_meetName 78 (.isub) 1 79 := ⟨by decide +kernel, rfl⟩
theorem eX3_meetName_79 : sl_D YX3_meetName 79 (.ireturn) 1 80 := ⟨by decide +kernel, rfl⟩
theorem eX3_meetTerminal_0 : sl_D YX3_meetTerminal 0 (.aload_n 0) 1 1 := ⟨by decide +kernel, rfl⟩
theorem eX3_meetTerminal_1 : sl_D YX3_meetTerminal 1 (.getfield 22) 3 4 := ⟨by decide +kernel, rfl⟩
theorem eX3_meetTerminal_4 : sl_D YX3_meetTerminal 4 (.iload_n 1) 1 5 := ⟨by decide +kernel, rfl⟩
theorem eX3_meetTerminal_5 : sl_D YX3_meetTerminal 5 (.invokevirtual 151) 3 8 := ⟨by decide +kernel, rfl⟩
theorem eX3_meetTerminal_8 : sl_D YX3_meetTerminal 8 (.istore_n 2) 1 9 := ⟨by decide +kernel, rfl⟩
theorem eX3_meetTerminal_9 : sl_D YX3_meetTerminal 9 (.iload_n 2) 1 10 := ⟨by decide +kernel, rfl⟩
theorem eX3_meetTerminal_10 : sl_D YX3_meetTerminal 10 (.iconst (-1)) 1 11 := ⟨by decide +kernel, rfl⟩
theorem eX3_meetTerminal_11 : sl_B YX3_meetTerminal 11 (fun o => .if_icmp .eq o) 14 16 := ⟨5, by decide +kernel, rfl, by decide⟩
theorem eX3_meetTerminal_14 : sl_D YX3_meetTerminal 14 (.iload_n 2) 1 15 := ⟨by decide +kernel, rfl⟩
theorem eX3_meetTerminal_15 : sl_D YX3_meetTerminal 15 (.ireturn) 1 16 := ⟨by decide +kernel, rfl⟩
theorem eX3_meetTerminal_16 : sl_D YX3_meetTerminal 16 (.aload_n 0) 1 17 := ⟨by decide +kernel, rfl⟩
theorem eX3_meetTerminal_17 : sl_D YX3_meetTerminal 17 (.getfield 22) 3 20 := ⟨by decide +kernel, rfl⟩
theorem eX3_meetTerminal_20 : sl_D YX3_meetTerminal 20 (.getfield 154) 3 23 := ⟨by decide +kernel, rfl⟩
theorem eX3_meetTerminal_23 : sl_D YX3_meetTerminal 23 (.bipush 11) 2 25 := ⟨by decide +kernel, rfl⟩
theorem eX3_meetTerminal_25 : sl_B YX3_meetTerminal 25 (fun o => .if_icmp .lt o) 28 35 := ⟨10, by decide +kernel, rfl, by decide⟩
theorem eX3_meetTerminal_28 : sl_D YX3_meetTerminal 28 (.aload_n 0) 1 29 := ⟨by decide +kernel, rfl⟩
theorem eX3_meetTerminal_29 : sl_D YX3_meetTerminal 29 (.iconst 4) 1 30 := ⟨by decide +kernel, rfl⟩
theorem eX3_meetTerminal_30 : sl_D YX3_meetTerminal 30 (.invokevirtual 90) 3 33 := ⟨by decide +kernel, rfl⟩
theorem eX3_meetTerminal_33 : sl_D YX3_meetTerminal 33 (.iconst (-1)) 1 34 := ⟨by decide +kernel, rfl⟩
theorem eX3_meetTerminal_34 : sl_D YX3_meetTerminal 34 (.ireturn) 1 35 := ⟨by decide +kernel, rfl⟩
theorem eX3_meetTerminal_35 : sl_D YX3_meetTerminal 35 (.aload_n 0) 1 36 := ⟨by decide +kernel, rfl⟩
theorem eX3_meetTerminal_36 : sl_D YX3_meetTerminal 36 (.getfield 22) 3 39 := ⟨by decide +kernel, rfl⟩
theorem eX3_meetTerminal_39 : sl_D YX3_meetTerminal 39 (.getfield 157) 3 42 := ⟨by decide +kernel, rfl⟩
theorem eX3_meetTerminal_42 : sl_D YX3_meetTerminal 42 (.aload_n 0) 1 43 := ⟨by decide +kernel, rfl⟩
theorem eX3_meetTerminal_43 : sl_D YX3_meetTerminal 43 (.getfield 22) 3 46 := ⟨by decide +kernel, rfl⟩
theorem eX3_meetTerminal_46 : sl_D YX3_meetTerminal 46 (.getfield 154) 3 49 := ⟨by decide +kernel, rfl⟩
theorem eX3_meetTerminal_49 : sl_D YX3_meetTerminal 49 (.iload_n 1) 1 50 := ⟨by decide +kernel, rfl⟩
theorem eX3_meetTerminal_50 : sl_D YX3_meetTerminal 50 (.iastore) 1 51 := ⟨by decide +kernel, rfl⟩
theorem eX3_meetTerminal_51 : sl_D YX3_meetTerminal 51 (.aload_n 0) 1 52 := ⟨by decide +kernel, rfl⟩
theorem eX3_meetTerminal_52 : sl_D YX3_meetTerminal 52 (.getfield 22) 3 55 := ⟨by decide +kernel, rfl⟩
theorem eX3_meetTerminal_55 : sl_D YX3_meetTerminal 55 (.dup) 1 56 := ⟨by decide +kernel, rfl⟩
theorem eX3_meetTerminal_56 : sl_D YX3_meetTerminal 56 (.getfield 154) 3 59 := ⟨by decide +kernel, rfl⟩
theorem eX3_meetTerminal_59 : sl_D YX3_meetTerminal 59 (.iconst 1) 1 60 := ⟨by decide +kernel, rfl⟩
theorem eX3_meetTerminal_60 : sl_D YX3_meetTerminal 60 (.iadd) 1 61 := ⟨by decide +kernel, rfl⟩
theorem eX3_meetTerminal_61 : sl_D YX3_meetTerminal 61 (.putfield 154) 3 64 := ⟨by decide +kernel, rfl⟩
theorem eX3_meetTerminal_64 : sl_D YX3_meetTerminal 64 (.aload_n 0) 1 65 := ⟨by decide +kernel, rfl⟩
theorem eX3_meetTerminal_65 : sl_D YX3_meetTerminal 65 (.getfield 22) 3 68 := ⟨by decide +kernel, rfl⟩
theorem eX3_meetTerminal_68 : sl_D YX3_meetTerminal 68 (.getfield 154) 3 71 := ⟨by decide +kernel, rfl⟩
theorem eX3_meetTerminal_71 : sl_D YX3_meetTerminal 71 (.iconst 1) 1 72 := ⟨by decide +kernel, rfl⟩
theorem eX3_meetTerminal_72 : sl_D YX3_meetTerminal 72 (.isub) 1 73 := ⟨by decide +kernel, rfl⟩
theorem eX3_meetTerminal_73 : sl_D YX3_meetTerminal 73 (.ireturn) 1 74 := ⟨by decide +kernel, rfl⟩
theorem eX3_takeHead_0 : sl_D YX3_takeHead 0 (.aload_n 0) 1 1 := ⟨by decide +kernel, rfl⟩
theorem eX3_takeHead_1 : sl_D YX3_takeHead 1 (.invokevirtual 160) 3 4 := ⟨by decide +kernel, rfl⟩
theorem eX3_takeHead_4 : sl_B YX3_takeHead 4 (fun o => .ifCond .ne o) 7 13 := ⟨9, by decide +kernel, rfl, by decide⟩
theorem eX3_takeHead_7 : sl_D YX3_takeHead 7 (.aload_n 0) 1 8 := ⟨by decide +kernel, rfl⟩
theorem eX3_takeHead_8 : sl_D YX3_takeHead 8 (.iconst 1) 1 9 := ⟨by decide +kernel, rfl⟩
theorem eX3_takeHead_9 : sl_D YX3_takeHead 9 (.invokevirtual 90) 3 12 := ⟨by decide +kernel, rfl⟩
theorem eX3_takeHead_12 : sl_D YX3_takeHead 12 (.return_) 1 13 := ⟨by decide +kernel, rfl⟩
theorem eX3_takeHead_13 : sl_D YX3_takeHead 13 (.aload_n 0) 1 14 := ⟨by decide +kernel, rfl⟩
theorem eX3_takeHead_14 : sl_D YX3_takeHead 14 (.invokevirtual 164) 3 17 := ⟨by decide +kernel, rfl⟩
theorem eX3_takeHead_17 : sl_D YX3_takeHead 17 (.istore_n 1) 1 18 := ⟨by decide +kernel, rfl⟩
theorem eX3_takeHead_18 : sl_D YX3_takeHead 18 (.iload_n 1) 1 19 := ⟨by decide +kernel, rfl⟩
theorem eX3_takeHead_19 : sl_D YX3_takeHead 19 (.iconst (-1)) 1 20 := ⟨by decide +kernel, rfl⟩
theorem eX3_takeHead_20 : sl_B YX3_takeHead 20 (fun o => .if_icmp .eq o) 23 60 := ⟨40, by decide +kernel, rfl, by decide⟩
theorem eX3_takeHead_23 : sl_D YX3_takeHead 23 (.aload_n 0) 1 24 := ⟨by decide +kernel, rfl⟩
theorem eX3_takeHead_24 : sl_D YX3_takeHead 24 (.getfield 22) 3 27 := ⟨by decide +kernel, rfl⟩
theorem eX3_takeHead_27 : sl_D YX3_takeHead 27 (.getfield 167) 3 30 := ⟨by decide +kernel, rfl⟩
theorem eX3_takeHead_30 : sl_D YX3_takeHead 30 (.aload_n 0) 1 31 := ⟨by decide +kernel, rfl⟩
theorem eX3_takeHead_31 : sl_D YX3_takeHead 31 (.getfield 22) 3 34 := ⟨by decide +kernel, rfl⟩
theorem eX3_takeHead_34 : sl_D YX3_takeHead 34 (.getfield 123) 3 37 := ⟨by decide +kernel, rfl⟩
theorem eX3_takeHead_37 : sl_D YX3_takeHead 37 (.iload_n 1) 1 38 := ⟨by decide +kernel, rfl⟩
theorem eX3_takeHead_38 : sl_D YX3_takeHead 38 (.iastore) 1 39 := ⟨by decide +kernel, rfl⟩
theorem eX3_takeHead_39 : sl_D YX3_takeHead 39 (.aload_n 0) 1 40 := ⟨by decide +kernel, rfl⟩
theorem eX3_takeHead_40 : sl_D YX3_takeHead 40 (.getfield 22) 3 43 := ⟨by decide +kernel, rfl⟩
theorem eX3_takeHead_43 : sl_D YX3_takeHead 43 (.getfield 170) 3 46 := ⟨by decide +kernel, rfl⟩
theorem eX3_takeHead_46 : sl_D YX3_takeHead 46 (.aload_n 0) 1 47 := ⟨by decide +kernel, rfl⟩
theorem eX3_takeHead_47 : sl_D YX3_takeHead 47 (.getfield 22) 3 50 := ⟨by decide +kernel, rfl⟩
theorem eX3_takeHead_50 : sl_D YX3_takeHead 50 (.getfield 123) 3 53 := ⟨by decide +kernel, rfl⟩
theorem eX3_takeHead_53 : sl_D YX3_takeHead 53 (.iconst 0) 1 54 := ⟨by decide +kernel, rfl⟩
theorem eX3_takeHead_54 : sl_D YX3_takeHead 54 (.iastore) 1 55 := ⟨by decide +kernel, rfl⟩
theorem eX3_takeHead_55 : sl_D YX3_takeHead 55 (.aload_n 0) 1 56 := ⟨by decide +kernel, rfl⟩
theorem eX3_takeHead_56 : sl_D YX3_takeHead 56 (.iconst 3) 1 57 := ⟨by decide +kernel, rfl⟩
theorem eX3_takeHead_57 : sl_D YX3_takeHead 57 (.putfield 31) 3 60 := ⟨by decide +kernel, rfl⟩
theorem eX3_takeHead_60 : sl_D YX3_takeHead 60 (.return_) 1 61 := ⟨by decide +kernel, rfl⟩
theorem eX3_takeIs_0 : sl_D YX3_takeIs 0 (.aload_n 0) 1 1 := ⟨by decide +kernel, rfl⟩
theorem eX3_takeIs_1 : sl_D YX3_takeIs 1 (.ldc 135) 2 3 := ⟨by decide +kernel, rfl⟩
theorem eX3_takeIs_3 : sl_D YX3_takeIs 3 (.invokevirtual 117) 3 6 := ⟨by decide +kernel, rfl⟩
theorem eX3_takeIs_6 : sl_B YX3_takeIs 6 (fun o => .ifCond .eq o) 9 17 := ⟨11, by decide +kernel, rfl, by decide⟩
theorem eX3_takeIs_9 : sl_D YX3_takeIs 9 (.aload_n 0) 1 10 := ⟨by decide +kernel, rfl⟩
theorem eX3_takeIs_10 : sl_D YX3_takeIs 10 (.iconst 4) 1 11 := ⟨by decide +kernel, rfl⟩
theorem eX3_takeIs_11 : sl_D YX3_takeIs 11 (.putfield 31) 3 14 := ⟨by decide +kernel, rfl⟩
theorem eX3_takeIs_14 : sl_B YX3_takeIs 14 (fun o => .goto o) 17 22 := ⟨8, by decide +kernel, rfl, by decide⟩
theorem eX3_takeIs_17 : sl_D YX3_takeIs 17 (.aload_n 0) 1 18 := ⟨by decide +kernel, rfl⟩
theorem eX3_takeIs_18 : sl_D YX3_takeIs 18 (.iconst 1) 1 19 := ⟨by decide +kernel, rfl⟩
theorem eX3_takeIs_19 : sl_D YX3_takeIs 19 (.invokevirtual 90) 3 22 := ⟨by decide +kernel, rfl⟩
theorem eX3_takeIs_22 : sl_D YX3_takeIs 22 (.return_) 1 23 := ⟨by decide +kernel, rfl⟩
theorem eX3_takeItem_0 : sl_D YX3_takeItem 0 (.aload_n 0) 1 1 := ⟨by decide +kernel, rfl⟩
theorem eX3_takeItem_1 : sl_D YX3_takeItem 1 (.getfield 31) 3 4 := ⟨by decide +kernel, rfl⟩
theorem eX3_takeItem_4 : sl_D YX3_takeItem 4 (.iconst 5) 1 5 := ⟨by decide +kernel, rfl⟩
theorem eX3_takeItem_5 : sl_B YX3_takeItem 5 (fun o => .if_icmp .ne o) 8 26 := ⟨21, by decide +kernel, rfl, by decide⟩
theorem eX3_takeItem_8 : sl_D YX3_takeItem 8 (.aload_n 0) 1 9 := ⟨by decide +kernel, rfl⟩
theorem eX3_takeItem_9 : sl_D YX3_takeItem 9 (.ldc 137) 2 11 := ⟨by decide +kernel, rfl⟩
theorem eX3_takeItem_11 : sl_D YX3_takeItem 11 (.invokevirtual 117) 3 14 := ⟨by decide +kernel, rfl⟩
theorem eX3_takeItem_14 : sl_B YX3_takeItem 14 (fun o => .ifCond .eq o) 17 26 := ⟨12, by decide +kernel, rfl, by decide⟩
theorem eX3_takeItem_17 : sl_D YX3_takeItem 17 (.aload_n 0) 1 18 := ⟨by decide +kernel, rfl⟩
theorem eX3_takeItem_18 : sl_D YX3_takeItem 18 (.bipush 6) 2 20 := ⟨by decide +kernel, rfl⟩
theorem eX3_takeItem_20 : sl_D YX3_takeItem 20 (.putfield 31) 3 23 := ⟨by decide +kernel, rfl⟩
theorem eX3_takeItem_23 : sl_B YX3_takeItem 23 (fun o => .goto o) 26 81 := ⟨58, by decide +kernel, rfl, by decide⟩
theorem eX3_takeItem_26 : sl_D YX3_takeItem 26 (.aload_n 0) 1 27 := ⟨by decide +kernel, rfl⟩
theorem eX3_takeItem_27 : sl_D YX3_takeItem 27 (.invokevirtual 160) 3 30 := ⟨by decide +kernel, rfl⟩
theorem eX3_takeItem_30 : sl_B YX3_takeItem 30 (fun o => .ifCond .eq o) 33 40 := ⟨10, by decide +kernel, rfl, by decide⟩
theorem eX3_takeItem_33 : sl_D YX3_takeItem 33 (.aload_n 0) 1 34 := ⟨by decide +kernel, rfl⟩
theorem eX3_takeItem_34 : sl_D YX3_takeItem 34 (.invokevirtual 173) 3 37 := ⟨by decide +kernel, rfl⟩
theorem eX3_takeItem_37 : sl_B YX3_takeItem 37 (fun o => .goto o) 40 81 := ⟨44, by decide +kernel, rfl, by decide⟩
theorem eX3_takeItem_40 : sl_D YX3_takeItem 40 (.aload_n 0) 1 41 := ⟨by decide +kernel, rfl⟩
theorem eX3_takeItem_41 : sl_D YX3_takeItem 41 (.getfield 60) 3 44 := ⟨by decide +kernel, rfl⟩
theorem eX3_takeItem_44 : sl_D YX3_takeItem 44 (.iconst 2) 1 45 := ⟨by decide +kernel, rfl⟩
theorem eX3_takeItem_45 : sl_B YX3_takeItem 45 (fun o => .if_icmp .ne o) 48 59 := ⟨14, by decide +kernel, rfl, by decide⟩
theorem eX3_takeItem_48 : sl_D YX3_takeItem 48 (.aload_n 0) 1 49 := ⟨by decide +kernel, rfl⟩
theorem eX3_takeItem_49 : sl_D YX3_takeItem 49 (.aload_n 0) 1 50 := ⟨by decide +kernel, rfl⟩
theorem eX3_takeItem_50 : sl_D YX3_takeItem 50 (.getfield 77) 3 53 := ⟨by decide +kernel, rfl⟩
theorem eX3_takeItem_53 : sl_D YX3_takeItem 53 (.invokevirtual 176) 3 56 := ⟨by decide +kernel, rfl⟩
theorem eX3_takeItem_56 : sl_B YX3_takeItem 56 (fun o => .goto o) 59 81 := ⟨25, by decide +kernel, rfl, by decide⟩
theorem eX3_takeItem_59 : sl_D YX3_takeItem 59 (.aload_n 0) 1 60 := ⟨by decide +kernel, rfl⟩
theorem eX3_takeItem_60 : sl_D YX3_takeItem 60 (.ldc 139) 2 62 := ⟨by decide +kernel, rfl⟩
theorem eX3_takeItem_62 : sl_D YX3_takeItem 62 (.invokevirtual 117) 3 65 := ⟨by decide +kernel, rfl⟩
theorem eX3_takeItem_65 : sl_B YX3_takeItem 65 (fun o => .ifCond .eq o) 68 76 := ⟨11, by decide +kernel, rfl, by decide⟩
theorem eX3_takeItem_68 : sl_D YX3_takeItem 68 (.aload_n 0) 1 69 := ⟨by decide +kernel, rfl⟩
theorem eX3_takeItem_69 : sl_D YX3_takeItem 69 (.iconst 0) 1 70 := ⟨by decide +kernel, rfl⟩
theorem eX3_takeItem_70 : sl_D YX3_takeItem 70 (.invokevirtual 176) 3 73 := ⟨by decide +kernel, rfl⟩
theorem eX3_takeItem_73 : sl_B YX3_takeItem 73 (fun o => .goto o) 76 81 := ⟨8, by decide +kernel, rfl, by decide⟩
theorem eX3_takeItem_76 : sl_D YX3_takeItem 76 (.aload_n 0) 1 77 := ⟨by decide +kernel, rfl⟩
theorem eX3_takeItem_77 : sl_D YX3_takeItem 77 (.iconst 1) 1 78 := ⟨by decide +kernel, rfl⟩
theorem eX3_takeItem_78 : sl_D YX3_takeItem 78 (.invokevirtual 90) 3 81 := ⟨by decide +kernel, rfl⟩
theorem eX3_takeItem_81 : sl_D YX3_takeItem 81 (.return_) 1 82 := ⟨by decide +kernel, rfl⟩
theorem eX3_takeNameItem_0 : sl_D YX3_takeNameItem 0 (.aload_n 0) 1 1 := ⟨by decide +kernel, rfl⟩
theorem eX3_takeNameItem_1 : sl_D YX3_takeNameItem 1 (.getfield 22) 3 4 := ⟨by decide +kernel, rfl⟩
theorem eX3_takeNameItem_4 : sl_D YX3_takeNameItem 4 (.getfield 170) 3 7 := ⟨by decide +kernel, rfl⟩
theorem eX3_takeNameItem_7 : sl_D YX3_takeNameItem 7 (.aload_n 0) 1 8 := ⟨by decide +kernel, rfl⟩
theorem eX3_takeNameItem_8 : sl_D YX3_takeNameItem 8 (.getfield 22) 3 11 := ⟨by decide +kernel, rfl⟩
theorem eX3_takeNameItem_11 : sl_D YX3_takeNameItem 11 (.getfield 123) 3 14 := ⟨by decide +kernel, rfl⟩
theorem eX3_takeNameItem_14 : sl_D YX3_takeNameItem 14 (.iaload) 1 15 := ⟨by decide +kernel, rfl⟩
theorem eX3_takeNameItem_15 : sl_D YX3_takeNameItem 15 (.istore_n 1) 1 16 := ⟨by decide +kernel, rfl⟩
theorem eX3_takeNameItem_16 : sl_D YX3_takeNameItem 16 (.iload_n 1) 1 17 := ⟨by decide +kernel, rfl⟩
theorem eX3_takeNameItem_17 : sl_B YX3_takeNameItem 17 (fun o => .ifCond .le o) 20 51 := ⟨34, by decide +kernel, rfl, by decide⟩
theorem eX3_takeNameItem_20 : sl_D YX3_takeNameItem 20 (.aload_n 0) 1 21 := ⟨by decide +kernel, rfl⟩
theorem eX3_takeNameItem_21 : sl_D YX3_takeNameItem 21 (.getfield 22) 3 24 := ⟨by decide +kernel, rfl⟩
theorem eX3_takeNameItem_24 : sl_D YX3_takeNameItem 24 (.aload_n 0) 1 25 := ⟨by decide +kernel, rfl⟩
theorem eX3_takeNameItem_25 : sl_D YX3_takeNameItem 25 (.getfield 22) 3 28 := ⟨by decide +kernel, rfl⟩
theorem eX3_takeNameItem_28 : sl_D YX3_takeNameItem 28 (.getfield 123) 3 31 := ⟨by decide +kernel, rfl⟩
theorem eX3_takeNameItem_31 : sl_D YX3_takeNameItem 31 (.iload_n 1) 1 32 := ⟨by decide +kernel, rfl⟩
theorem eX3_takeNameItem_32 : sl_D YX3_takeNameItem 32 (.iconst 1) 1 33 := ⟨by decide +kernel, rfl⟩
theorem eX3_takeNameItem_33 : sl_D YX3_takeNameItem 33 (.isub) 1 34 := ⟨by decide +kernel, rfl⟩
theorem eX3_takeNameItem_34 : sl_D YX3_takeNameItem 34 (.invokevirtual 179) 3 37 := ⟨by decide +kernel, rfl⟩
theorem eX3_takeNameItem_37 : sl_D YX3_takeNameItem 37 (.invokestatic 183) 3 40 := ⟨by decide +kernel, rfl⟩
theorem eX3_takeNameItem_40 : sl_B YX3_takeNameItem 40 (fun o => .ifCond .eq o) 43 51 := ⟨11, by decide +kernel, rfl, by decide⟩
theorem eX3_takeNameItem_43 : sl_D YX3_takeNameItem 43 (.aload_n 0) 1 44 := ⟨by decide +kernel, rfl⟩
theorem eX3_takeNameItem_44 : sl_D YX3_takeNameItem 44 (.iconst 3) 1 45 := ⟨by decide +kernel, rfl⟩
theorem eX3_takeNameItem_45 : sl_D YX3_takeNameItem 45 (.invokevirtual 90) 3 48 := ⟨by decide +kernel, rfl⟩
theorem eX3_takeNameItem_48 : sl_B YX3_takeNameItem 48 (fun o => .goto o) 51 82 := ⟨34, by decide +kernel, rfl, by decide⟩
theorem eX3_takeNameItem_51 : sl_D YX3_takeNameItem 51 (.iload_n 1) 1 52 := ⟨by decide +kernel, rfl⟩
theorem eX3_takeNameItem_52 : sl_D YX3_takeNameItem 52 (.iconst 5) 1 53 := ⟨by decide +kernel, rfl⟩
theorem eX3_takeNameItem_53 : sl_B YX3_takeNameItem 53 (fun o => .if_icmp .lt o) 56 64 := ⟨11, by decide +kernel, rfl, by decide⟩
theorem eX3_takeNameItem_56 : sl_D YX3_takeNameItem 56 (.aload_n 0) 1 57 := ⟨by decide +kernel, rfl⟩
theorem eX3_takeNameItem_57 : sl_D YX3_takeNameItem 57 (.iconst 4) 1 58 := ⟨by decide +kernel, rfl⟩
theorem eX3_takeNameItem_58 : sl_D YX3_takeNameItem 58 (.invokevirtual 90) 3 61 := ⟨by decide +kernel, rfl⟩
theorem eX3_takeNameItem_61 : sl_B YX3_takeNameItem 61 (fun o => .goto o) 64 82 := ⟨21, by decide +kernel, rfl, by decide⟩
theorem eX3_takeNameItem_64 : sl_D YX3_takeNameItem 64 (.aload_n 0) 1 65 := ⟨by decide +kernel, rfl⟩
theorem eX3_takeNameItem_65 : sl_D YX3_takeNameItem 65 (.invokevirtual 164) 3 68 := ⟨by decide +kernel, rfl⟩
theorem eX3_takeNameItem_68 : sl_D YX3_takeNameItem 68 (.istore_n 2) 1 69 := ⟨by decide +kernel, rfl⟩
theorem eX3_takeNameItem_69 : sl_D YX3_takeNameItem 69 (.iload_n 2) 1 70 := ⟨by decide +kernel, rfl⟩
theorem eX3_takeNameItem_70 : sl_D YX3_takeNameItem 70 (.iconst (-1)) 1 71 := ⟨by decide +kernel, rfl⟩
theorem eX3_takeNameItem_71 : sl_B YX3_takeNameItem 71 (fun o => .if_icmp .eq o) 74 82 := ⟨11, by decide +kernel, rfl, by decide⟩
theorem eX3_takeNameItem_74 : sl_D YX3_takeNameItem 74 (.aload_n 0) 1 75 := ⟨by decide +kernel, rfl⟩
theorem eX3_takeNameItem_75 : sl_D YX3_takeNameItem 75 (.bipush 100) 2 77 := ⟨by decide +kernel, rfl⟩
theorem eX3_takeNameItem_77 : sl_D YX3_takeNameItem 77 (.iload_n 2) 1 78 := ⟨by decide +kernel, rfl⟩
theorem eX3_takeNameItem_78 : sl_D YX3_takeNameItem 78 (.iadd) 1 79 := ⟨by decide +kernel, rfl⟩
theorem eX3_takeNameItem_79 : sl_D YX3_takeNameItem 79 (.invokevirtual 186) 3 82 := ⟨by decide +kernel, rfl⟩
theorem eX3_takeNameItem_82 : sl_D YX3_takeNameItem 82 (.return_) 1 83 := ⟨by decide +kernel, rfl⟩
theorem eX3_takeTerminalItem_0 : sl_D YX3_takeTerminalItem 0 (.aload_n 0) 1 1 := ⟨by decide +kernel, rfl⟩
theorem eX3_takeTerminalItem_1 : sl_D YX3_takeTerminalItem 1 (.getfield 22) 3 4 := ⟨by decide +kernel, rfl⟩
theorem eX3_takeTerminalItem_4 : sl_D YX3_takeTerminalItem 4 (.getfield 170) 3 7 := ⟨by decide +kernel, rfl⟩
theorem eX3_takeTerminalItem_7 : sl_D YX3_takeTerminalItem 7 (.aload_n 0) 1 8 := ⟨by decide +kernel, rfl⟩
theorem eX3_takeTerminalItem_8 : sl_D YX3_takeTerminalItem 8 (.getfield 22) 3 11 := ⟨by decide +kernel, rfl⟩
theorem eX3_takeTerminalItem_11 : sl_D YX3_takeTerminalItem 11 (.getfield 123) 3 14 := ⟨by decide +kernel, rfl⟩
theorem eX3_takeTerminalItem_14 : sl_D YX3_takeTerminalItem 14 (.iaload) 1 15 := ⟨by decide +kernel, rfl⟩
theorem eX3_takeTerminalItem_15 : sl_D YX3_takeTerminalItem 15 (.iconst 5) 1 16 := ⟨by decide +kernel, rfl⟩
theorem eX3_takeTerminalItem_16 : sl_B YX3_takeTerminalItem 16 (fun o => .if_icmp .lt o) 19 25 := ⟨9, by decide +kernel, rfl, by decide⟩
theorem eX3_takeTerminalItem_19 : sl_D YX3_takeTerminalItem 19 (.aload_n 0) 1 20 := ⟨by decide +kernel, rfl⟩
theorem eX3_takeTerminalItem_20 : sl_D YX3_takeTerminalItem 20 (.iconst 4) 1 21 := ⟨by decide +kernel, rfl⟩
theorem eX3_takeTerminalItem_21 : sl_D YX3_takeTerminalItem 21 (.invokevirtual 90) 3 24 := ⟨by decide +kernel, rfl⟩
theorem eX3_takeTerminalItem_24 : sl_D YX3_takeTerminalItem 24 (.return_) 1 25 := ⟨by decide +kernel, rfl⟩
theorem eX3_takeTerminalItem_25 : sl_D YX3_takeTerminalItem 25 (.aload_n 0) 1 26 := ⟨by decide +kernel, rfl⟩
theorem eX3_takeTerminalItem_26 : sl_D YX3_takeTerminalItem 26 (.iload_n 1) 1 27 := ⟨by decide +kernel, rfl⟩
theorem eX3_takeTerminalItem_27 : sl_D YX3_takeTerminalItem 27 (.invokevirtual 189) 3 30 := ⟨by decide +kernel, rfl⟩
theorem eX3_takeTerminalItem_30 : sl_D YX3_takeTerminalItem 30 (.istore_n 2) 1 31 := ⟨by decide +kernel, rfl⟩
theorem eX3_takeTerminalItem_31 : sl_D YX3_takeTerminalItem 31 (.iload_n 2) 1 32 := ⟨by decide +kernel, rfl⟩
theorem eX3_takeTerminalItem_32 : sl_D YX3_takeTerminalItem 32 (.iconst (-1)) 1 33 := ⟨by decide +kernel, rfl⟩
theorem eX3_takeTerminalItem_33 : sl_B YX3_takeTerminalItem 33 (fun o => .if_icmp .eq o) 36 41 := ⟨8, by decide +kernel, rfl, by decide⟩
theorem eX3_takeTerminalItem_36 : sl_D YX3_takeTerminalItem 36 (.aload_n 0) 1 37 := ⟨by decide +kernel, rfl⟩
theorem eX3_takeTerminalItem_37 : sl_D YX3_takeTerminalItem 37 (.iload_n 2) 1 38 := ⟨by decide +kernel, rfl⟩
theorem eX3_takeTerminalItem_38 : sl_D YX3_takeTerminalItem 38 (.invokevirtual 186) 3 41 := ⟨by decide +kernel, rfl⟩
theorem eX3_takeTerminalItem_41 : sl_D YX3_takeTerminalItem 41 (.return_) 1 42 := ⟨by decide +kernel, rfl⟩
theorem eX3_addItem_0 : sl_D YX3_addItem 0 (.aload_n 0) 1 1 := ⟨by decide +kernel, rfl⟩
theorem eX3_addItem_1 : sl_D YX3_addItem 1 (.getfield 22) 3 4 := ⟨by decide +kernel, rfl⟩
theorem eX3_addItem_4 : sl_D YX3_addItem 4 (.getfield 123) 3 7 := ⟨by decide +kernel, rfl⟩
theorem eX3_addItem_7 : sl_D YX3_addItem 7 (.istore_n 2) 1 8 := ⟨by decide +kernel, rfl⟩
theorem eX3_addItem_8 : sl_D YX3_addItem 8 (.aload_n 0) 1 9 := ⟨by decide +kernel, rfl⟩
theorem eX3_addItem_9 : sl_D YX3_addItem 9 (.getfield 22) 3 12 := ⟨by decide +kernel, rfl⟩
theorem eX3_addItem_12 : sl_D YX3_addItem 12 (.getfield 192) 3 15 := ⟨by decide +kernel, rfl⟩
theorem eX3_addItem_15 : sl_D YX3_addItem 15 (.iload_n 2) 1 16 := ⟨by decide +kernel, rfl⟩
theorem eX3_addItem_16 : sl_D YX3_addItem 16 (.iconst 5) 1 17 := ⟨by decide +kernel, rfl⟩
theorem eX3_addItem_17 : sl_D YX3_addItem 17 (.imul) 1 18 := ⟨by decide +kernel, rfl⟩
theorem eX3_addItem_18 : sl_D YX3_addItem 18 (.aload_n 0) 1 19 := ⟨by decide +kernel, rfl⟩
theorem eX3_addItem_19 : sl_D YX3_addItem 19 (.getfield 22) 3 22 := ⟨by decide +kernel, rfl⟩
theorem eX3_addItem_22 : sl_D YX3_addItem 22 (.getfield 170) 3 25 := ⟨by decide +kernel, rfl⟩
theorem eX3_addItem_25 : sl_D YX3_addItem 25 (.iload_n 2) 1 26 := ⟨by decide +kernel, rfl⟩
theorem eX3_addItem_26 : sl_D YX3_addItem 26 (.iaload) 1 27 := ⟨by decide +kernel, rfl⟩
theorem eX3_addItem_27 : sl_D YX3_addItem 27 (.iadd) 1 28 := ⟨by decide +kernel, rfl⟩
theorem eX3_addItem_28 : sl_D YX3_addItem 28 (.iload_n 1) 1 29 := ⟨by decide +kernel, rfl⟩
theorem eX3_addItem_29 : sl_D YX3_addItem 29 (.iastore) 1 30 := ⟨by decide +kernel, rfl⟩
theorem eX3_addItem_30 : sl_D YX3_addItem 30 (.aload_n 0) 1 31 := ⟨by decide +kernel, rfl⟩
theorem eX3_addItem_31 : sl_D YX3_addItem 31 (.getfield 22) 3 34 := ⟨by decide +kernel, rfl⟩
theorem eX3_addItem_34 : sl_D YX3_addItem 34 (.getfield 170) 3 37 := ⟨by decide +kernel, rfl⟩
theorem eX3_addItem_37 : sl_D YX3_addItem 37 (.iload_n 2) 1 38 := ⟨by decide +kernel, rfl⟩
theorem eX3_addItem_38 : sl_D YX3_addItem 38 (.dup2) 1 39 := ⟨by decide +kernel, rfl⟩
theorem eX3_addItem_39 : sl_D YX3_addItem 39 (.iaload) 1 40 := ⟨by decide +kernel, rfl⟩
theorem eX3_addItem_40 : sl_D YX3_addItem 40 (.iconst 1) 1 41 := ⟨by decide +kernel, rfl⟩
theorem eX3_addItem_41 : sl_D YX3_addItem 41 (.iadd) 1 42 := ⟨by decide +kernel, rfl⟩
theorem eX3_addItem_42 : sl_D YX3_addItem 42 (.iastore) 1 43 := ⟨by decide +kernel, rfl⟩
theorem eX3_addItem_43 : sl_D YX3_addItem 43 (.aload_n 0) 1 44 := ⟨by decide +kernel, rfl⟩
theorem eX3_addItem_44 : sl_D YX3_addItem 44 (.iconst 5) 1 45 := ⟨by decide +kernel, rfl⟩
theorem eX3_addItem_45 : sl_D YX3_addItem 45 (.putfield 31) 3 48 := ⟨by decide +kernel, rfl⟩
theorem eX3_addItem_48 : sl_D YX3_addItem 48 (.return_) 1 49 := ⟨by decide +kernel, rfl⟩
theorem eX3_takeDeed_0 : sl_D YX3_takeDeed 0 (.aload_n 0) 1 1 := ⟨by decide +kernel, rfl⟩
theorem eX3_takeDeed_1 : sl_D YX3_takeDeed 1 (.invokevirtual 195) 3 4 := ⟨by decide +kernel, rfl⟩
theorem eX3_takeDeed_4 : sl_D YX3_takeDeed 4 (.istore_n 1) 1 5 := ⟨by decide +kernel, rfl⟩
theorem eX3_takeDeed_5 : sl_D YX3_takeDeed 5 (.iload_n 1) 1 6 := ⟨by decide +kernel, rfl⟩
theorem eX3_takeDeed_6 : sl_D YX3_takeDeed 6 (.iconst (-1)) 1 7 := ⟨by decide +kernel, rfl⟩
theorem eX3_takeDeed_7 : sl_B YX3_takeDeed 7 (fun o => .if_icmp .ne o) 10 18 := ⟨11, by decide +kernel, rfl, by decide⟩
theorem eX3_takeDeed_10 : sl_D YX3_takeDeed 10 (.aload_n 0) 1 11 := ⟨by decide +kernel, rfl⟩
theorem eX3_takeDeed_11 : sl_D YX3_takeDeed 11 (.iconst 1) 1 12 := ⟨by decide +kernel, rfl⟩
theorem eX3_takeDeed_12 : sl_D YX3_takeDeed 12 (.invokevirtual 90) 3 15 := ⟨by decide +kernel, rfl⟩
theorem eX3_takeDeed_15 : sl_B YX3_takeDeed 15 (fun o => .goto o) 18 69 := ⟨54, by decide +kernel, rfl, by decide⟩
theorem eX3_takeDeed_18 : sl_D YX3_takeDeed 18 (.aload_n 0) 1 19 := ⟨by decide +kernel, rfl⟩
theorem eX3_takeDeed_19 : sl_D YX3_takeDeed 19 (.iload_n 1) 1 20 := ⟨by decide +kernel, rfl⟩
theorem eX3_takeDeed_20 : sl_D YX3_takeDeed 20 (.invokevirtual 198) 3 23 := ⟨by decide +kernel, rfl⟩
theorem eX3_takeDeed_23 : sl_B YX3_takeDeed 23 (fun o => .ifCond .ne o) 26 34 := ⟨11, by decide +kernel, rfl, by decide⟩
theorem eX3_takeDeed_26 : sl_D YX3_takeDeed 26 (.aload_n 0) 1 27 := ⟨by decide +kernel, rfl⟩
theorem eX3_takeDeed_27 : sl_D YX3_takeDeed 27 (.iconst 2) 1 28 := ⟨by decide +kernel, rfl⟩
theorem eX3_takeDeed_28 : sl_D YX3_takeDeed 28 (.invokevirtual 90) 3 31 := ⟨by decide +kernel, rfl⟩
theorem eX3_takeDeed_31 : sl_B YX3_takeDeed 31 (fun o => .goto o) 34 69 := ⟨38, by decide +kernel, rfl, by decide⟩
theorem eX3_takeDeed_34 : sl_D YX3_takeDeed 34 (.aload_n 0) 1 35 := ⟨by decide +kernel, rfl⟩
theorem eX3_takeDeed_35 : sl_D YX3_takeDeed 35 (.getfield 22) 3 38 := ⟨by decide +kernel, rfl⟩
theorem eX3_takeDeed_38 : sl_D YX3_takeDeed 38 (.getfield 201) 3 41 := ⟨by decide +kernel, rfl⟩
theorem eX3_takeDeed_41 : sl_D YX3_takeDeed 41 (.aload_n 0) 1 42 := ⟨by decide +kernel, rfl⟩
theorem eX3_takeDeed_42 : sl_D YX3_takeDeed 42 (.getfield 22) 3 45 := ⟨by decide +kernel, rfl⟩
theorem eX3_takeDeed_45 : sl_D YX3_takeDeed 45 (.getfield 123) 3 48 := ⟨by decide +kernel, rfl⟩
theorem eX3_takeDeed_48 : sl_D YX3_takeDeed 48 (.iload_n 1) 1 49 := ⟨by decide +kernel, rfl⟩
theorem eX3_takeDeed_49 : sl_D YX3_takeDeed 49 (.iastore) 1 50 := ⟨by decide +kernel, rfl⟩
theorem eX3_takeDeed_50 : sl_D YX3_takeDeed 50 (.aload_n 0) 1 51 := ⟨by decide +kernel, rfl⟩
theorem eX3_takeDeed_51 : sl_D YX3_takeDeed 51 (.getfield 22) 3 54 := ⟨by decide +kernel, rfl⟩
theorem eX3_takeDeed_54 : sl_D YX3_takeDeed 54 (.dup) 1 55 := ⟨by decide +kernel, rfl⟩
theorem eX3_takeDeed_55 : sl_D YX3_takeDeed 55 (.getfield 123) 3 58 := ⟨by decide +kernel, rfl⟩
theorem eX3_takeDeed_58 : sl_D YX3_takeDeed 58 (.iconst 1) 1 59 := ⟨by decide +kernel, rfl⟩
theorem eX3_takeDeed_59 : sl_D YX3_takeDeed 59 (.iadd) 1 60 := ⟨by decide +kernel, rfl⟩
theorem eX3_takeDeed_60 : sl_D YX3_takeDeed 60 (.putfield 123) 3 63 := ⟨by decide +kernel, rfl⟩
theorem eX3_takeDeed_63 : sl_D YX3_takeDeed 63 (.aload_n 0) 1 64 := ⟨by decide +kernel, rfl⟩
theorem eX3_takeDeed_64 : sl_D YX3_takeDeed 64 (.bipush 7) 2 66 := ⟨by decide +kernel, rfl⟩
theorem eX3_takeDeed_66 : sl_D YX3_takeDeed 66 (.putfield 31) 3 69 := ⟨by decide +kernel, rfl⟩
theorem eX3_takeDeed_69 : sl_D YX3_takeDeed 69 (.return_) 1 70 := ⟨by decide +kernel, rfl⟩
theorem eX3_deedOfWord_0 : sl_D YX3_deedOfWord 0 (.iconst 0) 1 1 := ⟨by decide +kernel, rfl⟩
