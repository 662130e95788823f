theorem eX12_next_75 : sl_D YX12_next 75 (.aload_n 0) 1 76 := ⟨by decide +kernel, rfl⟩
theorem eX12_next_76 : sl_D YX12_next 76 (.invokevirtual 184) 3 79 := ⟨by decide +kernel, rfl⟩
theorem eX12_next_79 : sl_B YX12_next 79 (fun o => .goto o) 82 123 := ⟨44, by decide +kernel, rfl, by decide⟩
theorem eX12_next_82 : sl_D YX12_next 82 (.aload_n 0) 1 83 := ⟨by decide +kernel, rfl⟩
theorem eX12_next_83 : sl_D YX12_next 83 (.iload_n 1) 1 84 := ⟨by decide +kernel, rfl⟩
theorem eX12_next_84 : sl_D YX12_next 84 (.bipush 59) 2 86 := ⟨by decide +kernel, rfl⟩
theorem eX12_next_86 : sl_B YX12_next 86 (fun o => .if_icmp .ne o) 89 93 := ⟨7, by decide +kernel, rfl, by decide⟩
theorem eX12_next_89 : sl_D YX12_next 89 (.iconst 4) 1 90 := ⟨by decide +kernel, rfl⟩
theorem eX12_next_90 : sl_B YX12_next 90 (fun o => .goto o) 93 105 := ⟨15, by decide +kernel, rfl, by decide⟩
theorem eX12_next_93 : sl_D YX12_next 93 (.iload_n 1) 1 94 := ⟨by decide +kernel, rfl⟩
theorem eX12_next_94 : sl_D YX12_next 94 (.invokestatic 187) 3 97 := ⟨by decide +kernel, rfl⟩
theorem eX12_next_97 : sl_B YX12_next 97 (fun o => .ifCond .eq o) 100 104 := ⟨7, by decide +kernel, rfl, by decide⟩
theorem eX12_next_100 : sl_D YX12_next 100 (.iconst 3) 1 101 := ⟨by decide +kernel, rfl⟩
theorem eX12_next_101 : sl_B YX12_next 101 (fun o => .goto o) 104 105 := ⟨4, by decide +kernel, rfl, by decide⟩
theorem eX12_next_104 : sl_D YX12_next 104 (.iconst 0) 1 105 := ⟨by decide +kernel, rfl⟩
theorem eX12_next_105 : sl_D YX12_next 105 (.putfield 177) 3 108 := ⟨by decide +kernel, rfl⟩
theorem eX12_next_108 : sl_D YX12_next 108 (.aload_n 0) 1 109 := ⟨by decide +kernel, rfl⟩
theorem eX12_next_109 : sl_D YX12_next 109 (.iload_n 1) 1 110 := ⟨by decide +kernel, rfl⟩
theorem eX12_next_110 : sl_D YX12_next 110 (.putfield 191) 3 113 := ⟨by decide +kernel, rfl⟩
theorem eX12_next_113 : sl_D YX12_next 113 (.aload_n 0) 1 114 := ⟨by decide +kernel, rfl⟩
theorem eX12_next_114 : sl_D YX12_next 114 (.dup) 1 115 := ⟨by decide +kernel, rfl⟩
theorem eX12_next_115 : sl_D YX12_next 115 (.getfield 168) 3 118 := ⟨by decide +kernel, rfl⟩
theorem eX12_next_118 : sl_D YX12_next 118 (.iconst 1) 1 119 := ⟨by decide +kernel, rfl⟩
theorem eX12_next_119 : sl_D YX12_next 119 (.iadd) 1 120 := ⟨by decide +kernel, rfl⟩
theorem eX12_next_120 : sl_D YX12_next 120 (.putfield 168) 3 123 := ⟨by decide +kernel, rfl⟩
theorem eX12_next_123 : sl_D YX12_next 123 (.return_) 1 124 := ⟨by decide +kernel, rfl⟩
theorem eX12_nextWord_0 : sl_D YX12_nextWord 0 (.aload_n 0) 1 1 := ⟨by decide +kernel, rfl⟩
theorem eX12_nextWord_1 : sl_D YX12_nextWord 1 (.lconst 0) 1 2 := ⟨by decide +kernel, rfl⟩
theorem eX12_nextWord_2 : sl_D YX12_nextWord 2 (.putfield 194) 3 5 := ⟨by decide +kernel, rfl⟩
theorem eX12_nextWord_5 : sl_D YX12_nextWord 5 (.aload_n 0) 1 6 := ⟨by decide +kernel, rfl⟩
theorem eX12_nextWord_6 : sl_D YX12_nextWord 6 (.aload_n 0) 1 7 := ⟨by decide +kernel, rfl⟩
theorem eX12_nextWord_7 : sl_D YX12_nextWord 7 (.getfield 168) 3 10 := ⟨by decide +kernel, rfl⟩
theorem eX12_nextWord_10 : sl_D YX12_nextWord 10 (.invokevirtual 171) 3 13 := ⟨by decide +kernel, rfl⟩
theorem eX12_nextWord_13 : sl_D YX12_nextWord 13 (.bipush 97) 2 15 := ⟨by decide +kernel, rfl⟩
theorem eX12_nextWord_15 : sl_D YX12_nextWord 15 (.bipush 122) 2 17 := ⟨by decide +kernel, rfl⟩
theorem eX12_nextWord_17 : sl_D YX12_nextWord 17 (.invokestatic 180) 3 20 := ⟨by decide +kernel, rfl⟩
theorem eX12_nextWord_20 : sl_B YX12_nextWord 20 (fun o => .ifCond .eq o) 23 71 := ⟨51, by decide +kernel, rfl, by decide⟩
theorem eX12_nextWord_23 : sl_D YX12_nextWord 23 (.aload_n 0) 1 24 := ⟨by decide +kernel, rfl⟩
theorem eX12_nextWord_24 : sl_D YX12_nextWord 24 (.getfield 168) 3 27 := ⟨by decide +kernel, rfl⟩
theorem eX12_nextWord_27 : sl_D YX12_nextWord 27 (.aload_n 0) 1 28 := ⟨by decide +kernel, rfl⟩
theorem eX12_nextWord_28 : sl_D YX12_nextWord 28 (.getfield 174) 3 31 := ⟨by decide +kernel, rfl⟩
theorem eX12_nextWord_31 : sl_D YX12_nextWord 31 (.isub) 1 32 := ⟨by decide +kernel, rfl⟩
theorem eX12_nextWord_32 : sl_D YX12_nextWord 32 (.bipush 6) 2 34 := ⟨by decide +kernel, rfl⟩
theorem eX12_nextWord_34 : sl_B YX12_nextWord 34 (fun o => .if_icmp .ge o) 37 58 := ⟨24, by decide +kernel, rfl, by decide⟩
theorem eX12_nextWord_37 : sl_D YX12_nextWord 37 (.aload_n 0) 1 38 := ⟨by decide +kernel, rfl⟩
theorem eX12_nextWord_38 : sl_D YX12_nextWord 38 (.aload_n 0) 1 39 := ⟨by decide +kernel, rfl⟩
theorem eX12_nextWord_39 : sl_D YX12_nextWord 39 (.getfield 194) 3 42 := ⟨by decide +kernel, rfl⟩
theorem eX12_nextWord_42 : sl_D YX12_nextWord 42 (.bipush 8) 2 44 := ⟨by decide +kernel, rfl⟩
theorem eX12_nextWord_44 : sl_D YX12_nextWord 44 (.lshl) 1 45 := ⟨by decide +kernel, rfl⟩
theorem eX12_nextWord_45 : sl_D YX12_nextWord 45 (.aload_n 0) 1 46 := ⟨by decide +kernel, rfl⟩
theorem eX12_nextWord_46 : sl_D YX12_nextWord 46 (.aload_n 0) 1 47 := ⟨by decide +kernel, rfl⟩
theorem eX12_nextWord_47 : sl_D YX12_nextWord 47 (.getfield 168) 3 50 := ⟨by decide +kernel, rfl⟩
theorem eX12_nextWord_50 : sl_D YX12_nextWord 50 (.invokevirtual 171) 3 53 := ⟨by decide +kernel, rfl⟩
theorem eX12_nextWord_53 : sl_D YX12_nextWord 53 (.i2l) 1 54 := ⟨by decide +kernel, rfl⟩
theorem eX12_nextWord_54 : sl_D YX12_nextWord 54 (.lor) 1 55 := ⟨by decide +kernel, rfl⟩
theorem eX12_nextWord_55 : sl_D YX12_nextWord 55 (.putfield 194) 3 58 := ⟨by decide +kernel, rfl⟩
theorem eX12_nextWord_58 : sl_D YX12_nextWord 58 (.aload_n 0) 1 59 := ⟨by decide +kernel, rfl⟩
theorem eX12_nextWord_59 : sl_D YX12_nextWord 59 (.dup) 1 60 := ⟨by decide +kernel, rfl⟩
theorem eX12_nextWord_60 : sl_D YX12_nextWord 60 (.getfield 168) 3 63 := ⟨by decide +kernel, rfl⟩
theorem eX12_nextWord_63 : sl_D YX12_nextWord 63 (.iconst 1) 1 64 := ⟨by decide +kernel, rfl⟩
theorem eX12_nextWord_64 : sl_D YX12_nextWord 64 (.iadd) 1 65 := ⟨by decide +kernel, rfl⟩
theorem eX12_nextWord_65 : sl_D YX12_nextWord 65 (.putfield 168) 3 68 := ⟨by decide +kernel, rfl⟩
theorem eX12_nextWord_68 : sl_B YX12_nextWord 68 (fun o => .goto o) 71 5 := ⟨-63, by decide +kernel, rfl, by decide⟩
theorem eX12_nextWord_71 : sl_D YX12_nextWord 71 (.aload_n 0) 1 72 := ⟨by decide +kernel, rfl⟩
theorem eX12_nextWord_72 : sl_D YX12_nextWord 72 (.aload_n 0) 1 73 := ⟨by decide +kernel, rfl⟩
theorem eX12_nextWord_73 : sl_D YX12_nextWord 73 (.getfield 168) 3 76 := ⟨by decide +kernel, rfl⟩
theorem eX12_nextWord_76 : sl_D YX12_nextWord 76 (.aload_n 0) 1 77 := ⟨by decide +kernel, rfl⟩
theorem eX12_nextWord_77 : sl_D YX12_nextWord 77 (.getfield 174) 3 80 := ⟨by decide +kernel, rfl⟩
theorem eX12_nextWord_80 : sl_D YX12_nextWord 80 (.isub) 1 81 := ⟨by decide +kernel, rfl⟩
theorem eX12_nextWord_81 : sl_D YX12_nextWord 81 (.bipush 6) 2 83 := ⟨by decide +kernel, rfl⟩
theorem eX12_nextWord_83 : sl_B YX12_nextWord 83 (fun o => .if_icmp .le o) 86 90 := ⟨7, by decide +kernel, rfl, by decide⟩
theorem eX12_nextWord_86 : sl_D YX12_nextWord 86 (.iconst 0) 1 87 := ⟨by decide +kernel, rfl⟩
theorem eX12_nextWord_87 : sl_B YX12_nextWord 87 (fun o => .goto o) 90 91 := ⟨4, by decide +kernel, rfl, by decide⟩
theorem eX12_nextWord_90 : sl_D YX12_nextWord 90 (.iconst 2) 1 91 := ⟨by decide +kernel, rfl⟩
theorem eX12_nextWord_91 : sl_D YX12_nextWord 91 (.putfield 177) 3 94 := ⟨by decide +kernel, rfl⟩
theorem eX12_nextWord_94 : sl_D YX12_nextWord 94 (.return_) 1 95 := ⟨by decide +kernel, rfl⟩
theorem eX12_flaw_0 : sl_D YX12_flaw 0 (.aload_n 0) 1 1 := ⟨by decide +kernel, rfl⟩
theorem eX12_flaw_1 : sl_D YX12_flaw 1 (.getfield 165) 3 4 := ⟨by decide +kernel, rfl⟩
theorem eX12_flaw_4 : sl_B YX12_flaw 4 (fun o => .ifCond .ne o) 7 12 := ⟨8, by decide +kernel, rfl, by decide⟩
theorem eX12_flaw_7 : sl_D YX12_flaw 7 (.aload_n 0) 1 8 := ⟨by decide +kernel, rfl⟩
theorem eX12_flaw_8 : sl_D YX12_flaw 8 (.iload_n 1) 1 9 := ⟨by decide +kernel, rfl⟩
theorem eX12_flaw_9 : sl_D YX12_flaw 9 (.putfield 165) 3 12 := ⟨by decide +kernel, rfl⟩
theorem eX12_flaw_12 : sl_D YX12_flaw 12 (.aload_n 0) 1 13 := ⟨by decide +kernel, rfl⟩
theorem eX12_flaw_13 : sl_D YX12_flaw 13 (.iconst 0) 1 14 := ⟨by decide +kernel, rfl⟩
theorem eX12_flaw_14 : sl_D YX12_flaw 14 (.putfield 177) 3 17 := ⟨by decide +kernel, rfl⟩
theorem eX12_flaw_17 : sl_D YX12_flaw 17 (.return_) 1 18 := ⟨by decide +kernel, rfl⟩
theorem eX12_isWord_0 : sl_D YX12_isWord 0 (.lconst 0) 1 1 := ⟨by decide +kernel, rfl⟩
theorem eX12_isWord_1 : sl_D YX12_isWord 1 (.lstore_n 3) 1 2 := ⟨by decide +kernel, rfl⟩
theorem eX12_isWord_2 : sl_D YX12_isWord 2 (.iconst 0) 1 3 := ⟨by decide +kernel, rfl⟩
theorem eX12_isWord_3 : sl_D YX12_isWord 3 (.istore 5) 2 5 := ⟨by decide +kernel, rfl⟩
theorem eX12_isWord_5 : sl_D YX12_isWord 5 (.iload 5) 2 7 := ⟨by decide +kernel, rfl⟩
theorem eX12_isWord_7 : sl_D YX12_isWord 7 (.aload_n 2) 1 8 := ⟨by decide +kernel, rfl⟩
theorem eX12_isWord_8 : sl_D YX12_isWord 8 (.invokevirtual 198) 3 11 := ⟨by decide +kernel, rfl⟩
theorem eX12_isWord_11 : sl_B YX12_isWord 11 (fun o => .if_icmp .ge o) 14 33 := ⟨22, by decide +kernel, rfl, by decide⟩
theorem eX12_isWord_14 : sl_D YX12_isWord 14 (.lload_n 3) 1 15 := ⟨by decide +kernel, rfl⟩
theorem eX12_isWord_15 : sl_D YX12_isWord 15 (.bipush 8) 2 17 := ⟨by decide +kernel, rfl⟩
theorem eX12_isWord_17 : sl_D YX12_isWord 17 (.lshl) 1 18 := ⟨by decide +kernel, rfl⟩
theorem eX12_isWord_18 : sl_D YX12_isWord 18 (.aload_n 2) 1 19 := ⟨by decide +kernel, rfl⟩
theorem eX12_isWord_19 : sl_D YX12_isWord 19 (.iload 5) 2 21 := ⟨by decide +kernel, rfl⟩
theorem eX12_isWord_21 : sl_D YX12_isWord 21 (.invokevirtual 204) 3 24 := ⟨by decide +kernel, rfl⟩
theorem eX12_isWord_24 : sl_D YX12_isWord 24 (.i2l) 1 25 := ⟨by decide +kernel, rfl⟩
theorem eX12_isWord_25 : sl_D YX12_isWord 25 (.lor) 1 26 := ⟨by decide +kernel, rfl⟩
theorem eX12_isWord_26 : sl_D YX12_isWord 26 (.lstore_n 3) 1 27 := ⟨by decide +kernel, rfl⟩
theorem eX12_isWord_27 : sl_D YX12_isWord 27 (.iinc 5 1) 3 30 := ⟨by decide +kernel, rfl⟩
theorem eX12_isWord_30 : sl_B YX12_isWord 30 (fun o => .goto o) 33 5 := ⟨-25, by decide +kernel, rfl, by decide⟩
theorem eX12_isWord_33 : sl_D YX12_isWord 33 (.lload_n 0) 1 34 := ⟨by decide +kernel, rfl⟩
theorem eX12_isWord_34 : sl_D YX12_isWord 34 (.lload_n 3) 1 35 := ⟨by decide +kernel, rfl⟩
theorem eX12_isWord_35 : sl_D YX12_isWord 35 (.lcmp) 1 36 := ⟨by decide +kernel, rfl⟩
theorem eX12_isWord_36 : sl_B YX12_isWord 36 (fun o => .ifCond .ne o) 39 43 := ⟨7, by decide +kernel, rfl, by decide⟩
theorem eX12_isWord_39 : sl_D YX12_isWord 39 (.iconst 1) 1 40 := ⟨by decide +kernel, rfl⟩
theorem eX12_isWord_40 : sl_B YX12_isWord 40 (fun o => .goto o) 43 44 := ⟨4, by decide +kernel, rfl, by decide⟩
theorem eX12_isWord_43 : sl_D YX12_isWord 43 (.iconst 0) 1 44 := ⟨by decide +kernel, rfl⟩
theorem eX12_isWord_44 : sl_D YX12_isWord 44 (.ireturn) 1 45 := ⟨by decide +kernel, rfl⟩
theorem eX12_isHere_0 : sl_D YX12_isHere 0 (.aload_n 0) 1 1 := ⟨by decide +kernel, rfl⟩
theorem eX12_isHere_1 : sl_D YX12_isHere 1 (.getfield 177) 3 4 := ⟨by decide +kernel, rfl⟩
theorem eX12_isHere_4 : sl_D YX12_isHere 4 (.iconst 2) 1 5 := ⟨by decide +kernel, rfl⟩
theorem eX12_isHere_5 : sl_B YX12_isHere 5 (fun o => .if_icmp .ne o) 8 23 := ⟨18, by decide +kernel, rfl, by decide⟩
theorem eX12_isHere_8 : sl_D YX12_isHere 8 (.aload_n 0) 1 9 := ⟨by decide +kernel, rfl⟩
theorem eX12_isHere_9 : sl_D YX12_isHere 9 (.getfield 194) 3 12 := ⟨by decide +kernel, rfl⟩
theorem eX12_isHere_12 : sl_D YX12_isHere 12 (.aload_n 1) 1 13 := ⟨by decide +kernel, rfl⟩
theorem eX12_isHere_13 : sl_D YX12_isHere 13 (.invokestatic 208) 3 16 := ⟨by decide +kernel, rfl⟩
theorem eX12_isHere_16 : sl_B YX12_isHere 16 (fun o => .ifCond .eq o) 19 23 := ⟨7, by decide +kernel, rfl, by decide⟩
theorem eX12_isHere_19 : sl_D YX12_isHere 19 (.iconst 1) 1 20 := ⟨by decide +kernel, rfl⟩
theorem eX12_isHere_20 : sl_B YX12_isHere 20 (fun o => .goto o) 23 24 := ⟨4, by decide +kernel, rfl, by decide⟩
theorem eX12_isHere_23 : sl_D YX12_isHere 23 (.iconst 0) 1 24 := ⟨by decide +kernel, rfl⟩
theorem eX12_isHere_24 : sl_D YX12_isHere 24 (.ireturn) 1 25 := ⟨by decide +kernel, rfl⟩
theorem eX12_needs_0 : sl_D YX12_needs 0 (.aload_n 0) 1 1 := ⟨by decide +kernel, rfl⟩
theorem eX12_needs_1 : sl_D YX12_needs 1 (.aload_n 1) 1 2 := ⟨by decide +kernel, rfl⟩
theorem eX12_needs_2 : sl_D YX12_needs 2 (.invokevirtual 212) 3 5 := ⟨by decide +kernel, rfl⟩
theorem eX12_needs_5 : sl_B YX12_needs 5 (fun o => .ifCond .ne o) 8 13 := ⟨8, by decide +kernel, rfl, by decide⟩
theorem eX12_needs_8 : sl_D YX12_needs 8 (.aload_n 0) 1 9 := ⟨by decide +kernel, rfl⟩
theorem eX12_needs_9 : sl_D YX12_needs 9 (.iconst 1) 1 10 := ⟨by decide +kernel, rfl⟩
theorem eX12_needs_10 : sl_D YX12_needs 10 (.invokevirtual 216) 3 13 := ⟨by decide +kernel, rfl⟩
theorem eX12_needs_13 : sl_D YX12_needs 13 (.aload_n 0) 1 14 := ⟨by decide +kernel, rfl⟩
theorem eX12_needs_14 : sl_D YX12_needs 14 (.invokevirtual 220) 3 17 := ⟨by decide +kernel, rfl⟩
theorem eX12_needs_17 : sl_D YX12_needs 17 (.return_) 1 18 := ⟨by decide +kernel, rfl⟩
theorem eX12_isName_0 : sl_D YX12_isName 0 (.aload_n 0) 1 1 := ⟨by decide +kernel, rfl⟩
theorem eX12_isName_1 : sl_D YX12_isName 1 (.getfield 177) 3 4 := ⟨by decide +kernel, rfl⟩
theorem eX12_isName_4 : sl_D YX12_isName 4 (.iconst 2) 1 5 := ⟨by decide +kernel, rfl⟩
theorem eX12_isName_5 : sl_B YX12_isName 5 (fun o => .if_icmp .ne o) 8 57 := ⟨52, by decide +kernel, rfl, by decide⟩
theorem eX12_isName_8 : sl_D YX12_isName 8 (.aload_n 0) 1 9 := ⟨by decide +kernel, rfl⟩
theorem eX12_isName_9 : sl_D YX12_isName 9 (.ldc 223) 2 11 := ⟨by decide +kernel, rfl⟩
theorem eX12_isName_11 : sl_D YX12_isName 11 (.invokevirtual 212) 3 14 := ⟨by decide +kernel, rfl⟩
theorem eX12_isName_14 : sl_B YX12_isName 14 (fun o => .ifCond .ne o) 17 57 := ⟨43, by decide +kernel, rfl, by decide⟩
theorem eX12_isName_17 : sl_D YX12_isName 17 (.aload_n 0) 1 18 := ⟨by decide +kernel, rfl⟩
theorem eX12_isName_18 : sl_D YX12_isName 18 (.ldc 225) 2 20 := ⟨by decide +kernel, rfl⟩
theorem eX12_isName_20 : sl_D YX12_isName 20 (.invokevirtual 212) 3 23 := ⟨by decide +kernel, rfl⟩
theorem eX12_isName_23 : sl_B YX12_isName 23 (fun o => .ifCond .ne o) 26 57 := ⟨34, by decide +kernel, rfl, by decide⟩
theorem eX12_isName_26 : sl_D YX12_isName 26 (.aload_n 0) 1 27 := ⟨by decide +kernel, rfl⟩
theorem eX12_isName_27 : sl_D YX12_isName 27 (.ldc 227) 2 29 := ⟨by decide +kernel, rfl⟩
theorem eX12_isName_29 : sl_D YX12_isName 29 (.invokevirtual 212) 3 32 := ⟨by decide +kernel, rfl⟩
theorem eX12_isName_32 : sl_B YX12_isName 32 (fun o => .ifCond .ne o) 35 57 := ⟨25, by decide +kernel, rfl, by decide⟩
theorem eX12_isName_35 : sl_D YX12_isName 35 (.aload_n 0) 1 36 := ⟨by decide +kernel, rfl⟩
theorem eX12_isName_36 : sl_D YX12_isName 36 (.ldc 229) 2 38 := ⟨by decide +kernel, rfl⟩
theorem eX12_isName_38 : sl_D YX12_isName 38 (.invokevirtual 212) 3 41 := ⟨by decide +kernel, rfl⟩
theorem eX12_isName_41 : sl_B YX12_isName 41 (fun o => .ifCond .ne o) 44 57 := ⟨16, by decide +kernel, rfl, by decide⟩
theorem eX12_isName_44 : sl_D YX12_isName 44 (.aload_n 0) 1 45 := ⟨by decide +kernel, rfl⟩
theorem eX12_isName_45 : sl_D YX12_isName 45 (.ldc 231) 2 47 := ⟨by decide +kernel, rfl⟩
theorem eX12_isName_47 : sl_D YX12_isName 47 (.invokevirtual 212) 3 50 := ⟨by decide +kernel, rfl⟩
theorem eX12_isName_50 : sl_B YX12_isName 50 (fun o => .ifCond .ne o) 53 57 := ⟨7, by decide +kernel, rfl, by decide⟩
theorem eX12_isName_53 : sl_D YX12_isName 53 (.iconst 1) 1 54 := ⟨by decide +kernel, rfl⟩
theorem eX12_isName_54 : sl_B YX12_isName 54 (fun o => .goto o) 57 58 := ⟨4, by decide +kernel, rfl, by decide⟩
theorem eX12_isName_57 : sl_D YX12_isName 57 (.iconst 0) 1 58 := ⟨by decide +kernel, rfl⟩
theorem eX12_isName_58 : sl_D YX12_isName 58 (.ireturn) 1 59 := ⟨by decide +kernel, rfl⟩
theorem eX12_nameHere_0 : sl_D YX12_nameHere 0 (.iconst 0) 1 1 := ⟨by decide +kernel, rfl⟩
theorem eX12_nameHere_1 : sl_D YX12_nameHere 1 (.istore_n 1) 1 2 := ⟨by decide +kernel, rfl⟩
theorem eX12_nameHere_2 : sl_D YX12_nameHere 2 (.iload_n 1) 1 3 := ⟨by decide +kernel, rfl⟩
theorem eX12_nameHere_3 : sl_D YX12_nameHere 3 (.aload_n 0) 1 4 := ⟨by decide +kernel, rfl⟩
theorem eX12_nameHere_4 : sl_D YX12_nameHere 4 (.getfield 233) 3 7 := ⟨by decide +kernel, rfl⟩
theorem eX12_nameHere_7 : sl_B YX12_nameHere 7 (fun o => .if_icmp .ge o) 10 32 := ⟨25, by decide +kernel, rfl, by decide⟩
theorem eX12_nameHere_10 : sl_D YX12_nameHere 10 (.aload_n 0) 1 11 := ⟨by decide +kernel, rfl⟩
theorem eX12_nameHere_11 : sl_D YX12_nameHere 11 (.getfield 44) 3 14 := ⟨by decide +kernel, rfl⟩
theorem eX12_nameHere_14 : sl_D YX12_nameHere 14 (.iload_n 1) 1 15 := ⟨by decide +kernel, rfl⟩
theorem eX12_nameHere_15 : sl_D YX12_nameHere 15 (.laload) 1 16 := ⟨by decide +kernel, rfl⟩
theorem eX12_nameHere_16 : sl_D YX12_nameHere 16 (.aload_n 0) 1 17 := ⟨by decide +kernel, rfl⟩
theorem eX12_nameHere_17 : sl_D YX12_nameHere 17 (.getfield 194) 3 20 := ⟨by decide +kernel, rfl⟩
theorem eX12_nameHere_20 : sl_D YX12_nameHere 20 (.lcmp) 1 21 := ⟨by decide +kernel, rfl⟩
theorem eX12_nameHere_21 : sl_B YX12_nameHere 21 (fun o => .ifCond .ne o) 24 26 := ⟨5, by decide +kernel, rfl, by decide⟩
theorem eX12_nameHere_24 : sl_D YX12_nameHere 24 (.iload_n 1) 1 25 := ⟨by decide +kernel, rfl⟩
theorem eX12_nameHere_25 : sl_D YX12_nameHere 25 (.ireturn) 1 26 := ⟨by decide +kernel, rfl⟩
theorem eX12_nameHere_26 : sl_D YX12_nameHere 26 (.iinc 1 1) 3 29 := ⟨by decide +kernel, rfl⟩
theorem eX12_nameHere_29 : sl_B YX12_nameHere 29 (fun o => .goto o) 32 2 := ⟨-27, by decide +kernel, rfl, by decide⟩
theorem eX12_nameHere_32 : sl_D YX12_nameHere 32 (.aload_n 0) 1 33 := ⟨by decide +kernel, rfl⟩
theorem eX12_nameHere_33 : sl_D YX12_nameHere 33 (.getfield 233) 3 36 := ⟨by decide +kernel, rfl⟩
theorem eX12_nameHere_36 : sl_D YX12_nameHere 36 (.bipush 6) 2 38 := ⟨by decide +kernel, rfl⟩
theorem eX12_nameHere_38 : sl_B YX12_nameHere 38 (fun o => .if_icmp .ne o) 41 48 := ⟨10, by decide +kernel, rfl, by decide⟩
theorem eX12_nameHere_41 : sl_D YX12_nameHere 41 (.aload_n 0) 1 42 := ⟨by decide +kernel, rfl⟩
theorem eX12_nameHere_42 : sl_D YX12_nameHere 42 (.iconst 4) 1 43 := ⟨by decide +kernel, rfl⟩
theorem eX12_nameHere_43 : sl_D YX12_nameHere 43 (.invokevirtual 216) 3 46 := ⟨by decide +kernel, rfl⟩
theorem eX12_nameHere_46 : sl_D YX12_nameHere 46 (.iconst 0) 1 47 := ⟨by decide +kernel, rfl⟩
theorem eX12_nameHere_47 : sl_D YX12_nameHere 47 (.ireturn) 1 48 := ⟨by decide +kernel, rfl⟩
theorem eX12_nameHere_48 : sl_D YX12_nameHere 48 (.aload_n 0) 1 49 := ⟨by decide +kernel, rfl⟩
theorem eX12_nameHere_49 : sl_D YX12_nameHere 49 (.getfield 44) 3 52 := ⟨by decide +kernel, rfl⟩
theorem eX12_nameHere_52 : sl_D YX12_nameHere 52 (.aload_n 0) 1 53 := ⟨by decide +kernel, rfl⟩
theorem eX12_nameHere_53 : sl_D YX12_nameHere 53 (.getfield 233) 3 56 := ⟨by decide +kernel, rfl⟩
theorem eX12_nameHere_56 : sl_D YX12_nameHere 56 (.aload_n 0) 1 57 := ⟨by decide +kernel, rfl⟩
theorem eX12_nameHere_57 : sl_D YX12_nameHere 57 (.getfield 194) 3 60 := ⟨by decide +kernel, rfl⟩
theorem eX12_nameHere_60 : sl_D YX12_nameHere 60 (.lastore) 1 61 := ⟨by decide +kernel, rfl⟩
theorem eX12_nameHere_61 : sl_D YX12_nameHere 61 (.aload_n 0) 1 62 := ⟨by decide +kernel, rfl⟩
theorem eX12_nameHere_62 : sl_D YX12_nameHere 62 (.dup) 1 63 := ⟨by decide +kernel, rfl⟩
theorem eX12_nameHere_63 : sl_D YX12_nameHere 63 (.getfield 233) 3 66 := ⟨by decide +kernel, rfl⟩
theorem eX12_nameHere_66 : sl_D YX12_nameHere 66 (.iconst 1) 1 67 := ⟨by decide +kernel, rfl⟩
theorem eX12_nameHere_67 : sl_D YX12_nameHere 67 (.iadd) 1 68 := ⟨by decide +kernel, rfl⟩
theorem eX12_nameHere_68 : sl_D YX12_nameHere 68 (.putfield 233) 3 71 := ⟨by decide +kernel, rfl⟩
theorem eX12_nameHere_71 : sl_D YX12_nameHere 71 (.aload_n 0) 1 72 := ⟨by decide +kernel, rfl⟩
theorem eX12_nameHere_72 : sl_D YX12_nameHere 72 (.getfield 233) 3 75 := ⟨by decide +kernel, rfl⟩
theorem eX12_nameHere_75 : sl_D YX12_nameHere 75 (.iconst 1) 1 76 := ⟨by decide +kernel, rfl⟩
theorem eX12_nameHere_76 : sl_D YX12_nameHere 76 (.isub) 1 77 := ⟨by decide +kernel, rfl⟩
theorem eX12_nameHere_77 : sl_D YX12_nameHere 77 (.ireturn) 1 78 := ⟨by decide +kernel, rfl⟩
theorem eX12_signHere_0 : sl_D YX12_signHere 0 (.iconst 0) 1 1 := ⟨by decide +kernel, rfl⟩
theorem eX12_signHere_1 : sl_D YX12_signHere 1 (.istore_n 2) 1 2 := ⟨by decide +kernel, rfl⟩
theorem eX12_signHere_2 : sl_D YX12_signHere 2 (.iload_n 2) 1 3 := ⟨by decide +kernel, rfl⟩
theorem eX12_signHere_3 : sl_D YX12_signHere 3 (.aload_n 0) 1 4 := ⟨by decide +kernel, rfl⟩
theorem eX12_signHere_4 : sl_D YX12_signHere 4 (.getfield 236) 3 7 := ⟨by decide +kernel, rfl⟩
theorem eX12_signHere_7 : sl_B YX12_signHere 7 (fun o => .if_icmp .ge o) 10 28 := ⟨21, by decide +kernel, rfl, by decide⟩
theorem eX12_signHere_10 : sl_D YX12_signHere 10 (.aload_n 0) 1 11 := ⟨by decide +kernel, rfl⟩
theorem eX12_signHere_11 : sl_D YX12_signHere 11 (.getfield 41) 3 14 := ⟨by decide +kernel, rfl⟩
theorem eX12_signHere_14 : sl_D YX12_signHere 14 (.iload_n 2) 1 15 := ⟨by decide +kernel, rfl⟩
theorem eX12_signHere_15 : sl_D YX12_signHere 15 (.iaload) 1 16 := ⟨by decide +kernel, rfl⟩
theorem eX12_signHere_16 : sl_D YX12_signHere 16 (.iload_n 1) 1 17 := ⟨by decide +kernel, rfl⟩
theorem eX12_signHere_17 : sl_B YX12_signHere 17 (fun o => .if_icmp .ne o) 20 22 := ⟨5, by decide +kernel, rfl, by decide⟩
theorem eX12_signHere_20 : sl_D YX12_signHere 20 (.iload_n 2) 1 21 := ⟨by decide +kernel, rfl⟩
theorem eX12_signHere_21 : sl_D YX12_signHere 21 (.ireturn) 1 22 := ⟨by decide +kernel, rfl⟩
theorem eX12_signHere_22 : sl_D YX12_signHere 22 (.iinc 2 1) 3 25 := ⟨by decide +kernel, rfl⟩
theorem eX12_signHere_25 : sl_B YX12_signHere 25 (fun o => .goto o) 28 2 := ⟨-23, by decide +kernel, rfl, by decide⟩
theorem eX12_signHere_28 : sl_D YX12_signHere 28 (.aload_n 0) 1 29 := ⟨by decide +kernel, rfl⟩
theorem eX12_signHere_29 : sl_D YX12_signHere 29 (.getfield 236) 3 32 := ⟨by decide +kernel, rfl⟩
theorem eX12_signHere_32 : sl_D YX12_signHere 32 (.bipush 11) 2 34 := ⟨by decide +kernel, rfl⟩
theorem eX12_signHere_34 : sl_B YX12_signHere 34 (fun o => .if_icmp .ne o) 37 44 := ⟨10, by decide +kernel, rfl, by decide⟩
theorem eX12_signHere_37 : sl_D YX12_signHere 37 (.aload_n 0) 1 38 := ⟨by decide +kernel, rfl⟩
theorem eX12_signHere_38 : sl_D YX12_signHere 38 (.iconst 4) 1 39 := ⟨by decide +kernel, rfl⟩
theorem eX12_signHere_39 : sl_D YX12_signHere 39 (.invokevirtual 216) 3 42 := ⟨by decide +kernel, rfl⟩
theorem eX12_signHere_42 : sl_D YX12_signHere 42 (.iconst 0) 1 43 := ⟨by decide +kernel, rfl⟩
theorem eX12_signHere_43 : sl_D YX12_signHere 43 (.ireturn) 1 44 := ⟨by decide +kernel, rfl⟩
theorem eX12_signHere_44 : sl_D YX12_signHere 44 (.aload_n 0) 1 45 := ⟨by decide +kernel, rfl⟩
theorem eX12_signHere_45 : sl_D YX12_signHere 45 (.getfield 41) 3 48 := ⟨by decide +kernel, rfl⟩
theorem eX12_signHere_48 : sl_D YX12_signHere 48 (.aload_n 0) 1 49 := ⟨by decide +kernel, rfl⟩
theorem eX12_signHere_49 : sl_D YX12_signHere 49 (.getfield 236) 3 52 := ⟨by decide +kernel, rfl⟩
theorem eX12_signHere_52 : sl_D YX12_signHere 52 (.iload_n 1) 1 53 := ⟨by decide +kernel, rfl⟩
theorem eX12_signHere_53 : sl_D YX12_signHere 53 (.iastore) 1 54 := ⟨by decide +kernel, rfl⟩
theorem eX12_signHere_54 : sl_D YX12_signHere 54 (.aload_n 0) 1 55 := ⟨by decide +kernel, rfl⟩
theorem eX12_signHere_55 : sl_D YX12_signHere 55 (.dup) 1 56 := ⟨by decide +kernel, rfl⟩
theorem eX12_signHere_56 : sl_D YX12_signHere 56 (.getfield 236) 3 59 := ⟨by decide +kernel, rfl⟩
theorem eX12_signHere_59 : sl_D YX12_signHere 59 (.iconst 1) 1 60 := ⟨by decide +kernel, rfl⟩
theorem eX12_signHere_60 : sl_D YX12_signHere 60 (.iadd) 1 61 := ⟨by decide +kernel, rfl⟩
theorem eX12_signHere_61 : sl_D YX12_signHere 61 (.putfield 236) 3 64 := ⟨by decide +kernel, rfl⟩
theorem eX12_signHere_64 : sl_D YX12_signHere 64 (.aload_n 0) 1 65 := ⟨by decide +kernel, rfl⟩
theorem eX12_signHere_65 : sl_D YX12_signHere 65 (.getfield 236) 3 68 := ⟨by decide +kernel, rfl⟩
theorem eX12_signHere_68 : sl_D YX12_signHere 68 (.iconst 1) 1 69 := ⟨by decide +kernel, rfl⟩
theorem eX12_signHere_69 : sl_D YX12_signHere 69 (.isub) 1 70 := ⟨by decide +kernel, rfl⟩
theorem eX12_signHere_70 : sl_D YX12_signHere 70 (.ireturn) 1 71 := ⟨by decide +kernel, rfl⟩
theorem eX12_readAll_0 : sl_D YX12_readAll 0 (.aload_n 0) 1 1 := ⟨by decide +kernel, rfl⟩
theorem eX12_readAll_1 : sl_D YX12_readAll 1 (.iconst 0) 1 2 := ⟨by decide +kernel, rfl⟩
theorem eX12_readAll_2 : sl_D YX12_readAll 2 (.putfield 239) 3 5 := ⟨by decide +kernel, rfl⟩
theorem eX12_readAll_5 : sl_D YX12_readAll 5 (.aload_n 0) 1 6 := ⟨by decide +kernel, rfl⟩
theorem eX12_readAll_6 : sl_D YX12_readAll 6 (.iconst 0) 1 7 := ⟨by decide +kernel, rfl⟩
theorem eX12_readAll_7 : sl_D YX12_readAll 7 (.putfield 233) 3 10 := ⟨by decide +kernel, rfl⟩
theorem eX12_readAll_10 : sl_D YX12_readAll 10 (.aload_n 0) 1 11 := ⟨by decide +kernel, rfl⟩
theorem eX12_readAll_11 : sl_D YX12_readAll 11 (.iconst 0) 1 12 := ⟨by decide +kernel, rfl⟩
theorem eX12_readAll_12 : sl_D YX12_readAll 12 (.putfield 236) 3 15 := ⟨by decide +kernel, rfl⟩
theorem eX12_readAll_15 : sl_D YX12_readAll 15 (.aload_n 0) 1 16 := ⟨by decide +kernel, rfl⟩
theorem eX12_readAll_16 : sl_D YX12_readAll 16 (.iconst (-1)) 1 17 := ⟨by decide +kernel, rfl⟩
theorem eX12_readAll_17 : sl_D YX12_readAll 17 (.putfield 242) 3 20 := ⟨by decide +kernel, rfl⟩
theorem eX12_readAll_20 : sl_D YX12_readAll 20 (.aload_n 0) 1 21 := ⟨by decide +kernel, rfl⟩
theorem eX12_readAll_21 : sl_D YX12_readAll 21 (.invokevirtual 220) 3 24 := ⟨by decide +kernel, rfl⟩
theorem eX12_readAll_24 : sl_D YX12_readAll 24 (.aload_n 0) 1 25 := ⟨by decide +kernel, rfl⟩
theorem eX12_readAll_25 : sl_D YX12_readAll 25 (.invokevirtual 245) 3 28 := ⟨by decide +kernel, rfl⟩
theorem eX12_readAll_28 : sl_D YX12_readAll 28 (.aload_n 0) 1 29 := ⟨by decide +kernel, rfl⟩
theorem eX12_readAll_29 : sl_D YX12_readAll 29 (.getfield 177) 3 32 := ⟨by decide +kernel, rfl⟩
theorem eX12_readAll_32 : sl_D YX12_readAll 32 (.iconst 4) 1 33 := ⟨by decide +kernel, rfl⟩
theorem eX12_readAll_33 : sl_B YX12_readAll 33 (fun o => .if_icmp .ne o) 36 47 := ⟨14, by decide +kernel, rfl, by decide⟩
theorem eX12_readAll_36 : sl_D YX12_readAll 36 (.aload_n 0) 1 37 := ⟨by decide +kernel, rfl⟩
theorem eX12_readAll_37 : sl_D YX12_readAll 37 (.invokevirtual 220) 3 40 := ⟨by decide +kernel, rfl⟩
theorem eX12_readAll_40 : sl_D YX12_readAll 40 (.aload_n 0) 1 41 := ⟨by decide +kernel, rfl⟩
theorem eX12_readAll_41 : sl_D YX12_readAll 41 (.invokevirtual 245) 3 44 := ⟨by decide +kernel, rfl⟩
theorem eX12_readAll_44 : sl_B YX12_readAll 44 (fun o => .goto o) 47 28 := ⟨-16, by decide +kernel, rfl, by decide⟩
theorem eX12_readAll_47 : sl_D YX12_readAll 47 (.aload_n 0) 1 48 := ⟨by decide +kernel, rfl⟩
theorem eX12_readAll_48 : sl_D YX12_readAll 48 (.getfield 177) 3 51 := ⟨by decide +kernel, rfl⟩
theorem eX12_readAll_51 : sl_D YX12_readAll 51 (.iconst 1) 1 52 := ⟨by decide +kernel, rfl⟩
theorem eX12_readAll_52 : sl_B YX12_readAll 52 (fun o => .if_icmp .eq o) 55 60 := ⟨8, by decide +kernel, rfl, by decide⟩
theorem eX12_readAll_55 : sl_D YX12_readAll 55 (.aload_n 0) 1 56 := ⟨by decide +kernel, rfl⟩
theorem eX12_readAll_56 : sl_D YX12_readAll 56 (.iconst 1) 1 57 := ⟨by decide +kernel, rfl⟩
theorem eX12_readAll_57 : sl_D YX12_readAll 57 (.invokevirtual 216) 3 60 := ⟨by decide +kernel, rfl⟩
theorem eX12_readAll_60 : sl_D YX12_readAll 60 (.aload_n 0) 1 61 := ⟨by decide +kernel, rfl⟩
theorem eX12_readAll_61 : sl_D YX12_readAll 61 (.getfield 165) 3 64 := ⟨by decide +kernel, rfl⟩
theorem eX12_readAll_64 : sl_B YX12_readAll 64 (fun o => .ifCond .ne o) 67 94 := ⟨30, by decide +kernel, rfl, by decide⟩
theorem eX12_readAll_67 : sl_D YX12_readAll 67 (.aload_n 0) 1 68 := ⟨by decide +kernel, rfl⟩
theorem eX12_readAll_68 : sl_D YX12_readAll 68 (.getfield 242) 3 71 := ⟨by decide +kernel, rfl⟩
theorem eX12_readAll_71 : sl_D YX12_readAll 71 (.iconst (-1)) 1 72 := ⟨by decide +kernel, rfl⟩
theorem eX12_readAll_72 : sl_B YX12_readAll 72 (fun o => .if_icmp .eq o) 75 89 := ⟨17, by decide +kernel, rfl, by decide⟩
theorem eX12_readAll_75 : sl_D YX12_readAll 75 (.aload_n 0) 1 76 := ⟨by decide +kernel, rfl⟩
theorem eX12_readAll_76 : sl_D YX12_readAll 76 (.getfield 239) 3 79 := ⟨by decide +kernel, rfl⟩
theorem eX12_readAll_79 : sl_B YX12_readAll 79 (fun o => .ifCond .eq o) 82 89 := ⟨10, by decide +kernel, rfl, by decide⟩
theorem eX12_readAll_82 : sl_D YX12_readAll 82 (.aload_n 0) 1 83 := ⟨by decide +kernel, rfl⟩
theorem eX12_readAll_83 : sl_D YX12_readAll 83 (.invokevirtual 248) 3 86 := ⟨by decide +kernel, rfl⟩
theorem eX12_readAll_86 : sl_B YX12_readAll 86 (fun o => .ifCond .ne o) 89 94 := ⟨8, by decide +kernel, rfl, by decide⟩
theorem eX12_readAll_89 : sl_D YX12_readAll 89 (.aload_n 0) 1 90 := ⟨by decide +kernel, rfl⟩
theorem eX12_readAll_90 : sl_D YX12_readAll 90 (.iconst 5) 1 91 := ⟨by decide +kernel, rfl⟩
theorem eX12_readAll_91 : sl_D YX12_readAll 91 (.invokevirtual 216) 3 94 := ⟨by decide +kernel, rfl⟩
theorem eX12_readAll_94 : sl_D YX12_readAll 94 (.return_) 1 95 := ⟨by decide +kernel, rfl⟩
theorem eX12_areHeads_0 : sl_D YX12_areHeads 0 (.iconst 0) 1 1 := ⟨by decide +kernel, rfl⟩
theorem eX12_areHeads_1 : sl_D YX12_areHeads 1 (.istore_n 1) 1 2 := ⟨by decide +kernel, rfl⟩
theorem eX12_areHeads_2 : sl_D YX12_areHeads 2 (.iload_n 1) 1 3 := ⟨by decide +kernel, rfl⟩
theorem eX12_areHeads_3 : sl_D YX12_areHeads 3 (.aload_n 0) 1 4 := ⟨by decide +kernel, rfl⟩
theorem eX12_areHeads_4 : sl_D YX12_areHeads 4 (.getfield 233) 3 7 := ⟨by decide +kernel, rfl⟩
theorem eX12_areHeads_7 : sl_B YX12_areHeads 7 (fun o => .if_icmp .ge o) 10 60 := ⟨53, by decide +kernel, rfl, by decide⟩
theorem eX12_areHeads_10 : sl_D YX12_areHeads 10 (.iconst 0) 1 11 := ⟨by decide +kernel, rfl⟩
theorem eX12_areHeads_11 : sl_D YX12_areHeads 11 (.istore_n 2) 1 12 := ⟨by decide +kernel, rfl⟩
theorem eX12_areHeads_12 : sl_D YX12_areHeads 12 (.iconst 0) 1 13 := ⟨by decide +kernel, rfl⟩
theorem eX12_areHeads_13 : sl_D YX12_areHeads 13 (.istore_n 3) 1 14 := ⟨by decide +kernel, rfl⟩
theorem eX12_areHeads_14 : sl_D YX12_areHeads 14 (.iload_n 3) 1 15 := ⟨by decide +kernel, rfl⟩
theorem eX12_areHeads_15 : sl_D YX12_areHeads 15 (.aload_n 0) 1 16 := ⟨by decide +kernel, rfl⟩
theorem eX12_areHeads_16 : sl_D YX12_areHeads 16 (.getfield 239) 3 19 := ⟨by decide +kernel, rfl⟩
theorem eX12_areHeads_19 : sl_B YX12_areHeads 19 (fun o => .if_icmp .ge o) 22 48 := ⟨29, by decide +kernel, rfl, by decide⟩
theorem eX12_areHeads_22 : sl_D YX12_areHeads 22 (.iload_n 2) 1 23 := ⟨by decide +kernel, rfl⟩
theorem eX12_areHeads_23 : sl_B YX12_areHeads 23 (fun o => .ifCond .ne o) 26 36 := ⟨13, by decide +kernel, rfl, by decide⟩
theorem eX12_areHeads_26 : sl_D YX12_areHeads 26 (.aload_n 0) 1 27 := ⟨by decide +kernel, rfl⟩
theorem eX12_areHeads_27 : sl_D YX12_areHeads 27 (.getfield 29) 3 30 := ⟨by decide +kernel, rfl⟩
theorem eX12_areHeads_30 : sl_D YX12_areHeads 30 (.iload_n 3) 1 31 := ⟨by decide +kernel, rfl⟩
theorem eX12_areHeads_31 : sl_D YX12_areHeads 31 (.iaload) 1 32 := ⟨by decide +kernel, rfl⟩
theorem eX12_areHeads_32 : sl_D YX12_areHeads 32 (.iload_n 1) 1 33 := ⟨by decide +kernel, rfl⟩
theorem eX12_areHeads_33 : sl_B YX12_areHeads 33 (fun o => .if_icmp .ne o) 36 40 := ⟨7, by decide +kernel, rfl, by decide⟩
theorem eX12_areHeads_36 : sl_D YX12_areHeads 36 (.iconst 1) 1 37 := ⟨by decide +kernel, rfl⟩
theorem eX12_areHeads_37 : sl_B YX12_areHeads 37 (fun o => .goto o) 40 41 := ⟨4, by decide +kernel, rfl, by decide⟩
theorem eX12_areHeads_40 : sl_D YX12_areHeads 40 (.iconst 0) 1 41 := ⟨by decide +kernel, rfl⟩
theorem eX12_areHeads_41 : sl_D YX12_areHeads 41 (.istore_n 2) 1 42 := ⟨by decide +kernel, rfl⟩
theorem eX12_areHeads_42 : sl_D YX12_areHeads 42 (.iinc 3 1) 3 45 := ⟨by decide +kernel, rfl⟩
theorem eX12_areHeads_45 : sl_B YX12_areHeads 45 (fun o => .goto o) 48 14 := ⟨-31, by decide +kernel, rfl, by decide⟩
theorem eX12_areHeads_48 : sl_D YX12_areHeads 48 (.iload_n 2) 1 49 := ⟨by decide +kernel, rfl⟩
theorem eX12_areHeads_49 : sl_B YX12_areHeads 49 (fun o => .ifCond .ne o) 52 54 := ⟨5, by decide +kernel, rfl, by decide⟩
theorem eX12_areHeads_52 : sl_D YX12_areHeads 52 (.iconst 0) 1 53 := ⟨by decide +kernel, rfl⟩
theorem eX12_areHeads_53 : sl_D YX12_areHeads 53 (.ireturn) 1 54 := ⟨by decide +kernel, rfl⟩
theorem eX12_areHeads_54 : sl_D YX12_areHeads 54 (.iinc 1 1) 3 57 := ⟨by decide +kernel, rfl⟩
theorem eX12_areHeads_57 : sl_B YX12_areHeads 57 (fun o => .goto o) 60 2 := ⟨-55, by decide +kernel, rfl, by decide⟩
theorem eX12_areHeads_60 : sl_D YX12_areHeads 60 (.iconst 1) 1 61 := ⟨by decide +kernel, rfl⟩
theorem eX12_areHeads_61 : sl_D YX12_areHeads 61 (.ireturn) 1 62 := ⟨by decide +kernel, rfl⟩
theorem eX12_readLine_0 : sl_D YX12_readLine 0 (.aload_n 0) 1 1 := ⟨by decide +kernel, rfl⟩
theorem eX12_readLine_1 : sl_D YX12_readLine 1 (.ldc 223) 2 3 := ⟨by decide +kernel, rfl⟩
theorem eX12_readLine_3 : sl_D YX12_readLine 3 (.invokevirtual 212) 3 6 := ⟨by decide +kernel, rfl⟩
theorem eX12_readLine_6 : sl_B YX12_readLine 6 (fun o => .ifCond .eq o) 9 16 := ⟨10, by decide +kernel, rfl, by decide⟩
theorem eX12_readLine_9 : sl_D YX12_readLine 9 (.aload_n 0) 1 10 := ⟨by decide +kernel, rfl⟩
theorem eX12_readLine_10 : sl_D YX12_readLine 10 (.invokevirtual 252) 3 13 := ⟨by decide +kernel, rfl⟩
theorem eX12_readLine_13 : sl_B YX12_readLine 13 (fun o => .goto o) 16 37 := ⟨24, by decide +kernel, rfl, by decide⟩
theorem eX12_readLine_16 : sl_D YX12_readLine 16 (.aload_n 0) 1 17 := ⟨by decide +kernel, rfl⟩
theorem eX12_readLine_17 : sl_D YX12_readLine 17 (.ldc 225) 2 19 := ⟨by decide +kernel, rfl⟩
theorem eX12_readLine_19 : sl_D YX12_readLine 19 (.invokevirtual 212) 3 22 := ⟨by decide +kernel, rfl⟩
theorem eX12_readLine_22 : sl_B YX12_readLine 22 (fun o => .ifCond .eq o) 25 32 := ⟨10, by decide +kernel, rfl, by decide⟩
theorem eX12_readLine_25 : sl_D YX12_readLine 25 (.aload_n 0) 1 26 := ⟨by decide +kernel, rfl⟩
theorem eX12_readLine_26 : sl_D YX12_readLine 26 (.invokevirtual 255) 3 29 := ⟨by decide +kernel, rfl⟩
theorem eX12_readLine_29 : sl_B YX12_readLine 29 (fun o => .goto o) 32 37 := ⟨8, by decide +kernel, rfl, by decide⟩
theorem eX12_readLine_32 : sl_D YX12_readLine 32 (.aload_n 0) 1 33 := ⟨by decide +kernel, rfl⟩
theorem eX12_readLine_33 : sl_D YX12_readLine 33 (.iconst 1) 1 34 := ⟨by decide +kernel, rfl⟩
theorem eX12_readLine_34 : sl_D YX12_readLine 34 (.invokevirtual 216) 3 37 := ⟨by decide +kernel, rfl⟩
theorem eX12_readLine_37 : sl_D YX12_readLine 37 (.return_) 1 38 := ⟨by decide +kernel, rfl⟩
theorem eX12_readDesk_0 : sl_D YX12_readDesk 0 (.aload_n 0) 1 1 := ⟨by decide +kernel, rfl⟩
theorem eX12_readDesk_1 : sl_D YX12_readDesk 1 (.getfield 242) 3 4 := ⟨by decide +kernel, rfl⟩
theorem eX12_readDesk_4 : sl_D YX12_readDesk 4 (.iconst (-1)) 1 5 := ⟨by decide +kernel, rfl⟩
theorem eX12_readDesk_5 : sl_B YX12_readDesk 5 (fun o => .if_icmp .eq o) 8 14 := ⟨9, by decide +kernel, rfl, by decide⟩
theorem eX12_readDesk_8 : sl_D YX12_readDesk 8 (.aload_n 0) 1 9 := ⟨by decide +kernel, rfl⟩
theorem eX12_readDesk_9 : sl_D YX12_readDesk 9 (.bipush 6) 2 11 := ⟨by decide +kernel, rfl⟩
theorem eX12_readDesk_11 : sl_D YX12_readDesk 11 (.invokevirtual 216) 3 14 := ⟨by decide +kernel, rfl⟩
theorem eX12_readDesk_14 : sl_D YX12_readDesk 14 (.aload_n 0) 1 15 := ⟨by decide +kernel, rfl⟩
theorem eX12_readDesk_15 : sl_D YX12_readDesk 15 (.invokevirtual 220) 3 18 := ⟨by decide +kernel, rfl⟩
theorem eX12_readDesk_18 : sl_D YX12_readDesk 18 (.aload_n 0) 1 19 := ⟨by decide +kernel, rfl⟩
theorem eX12_readDesk_19 : sl_D YX12_readDesk 19 (.ldc_w 258) 3 22 := ⟨by decide +kernel, rfl⟩
theorem eX12_readDesk_22 : sl_D YX12_readDesk 22 (.invokevirtual 212) 3 25 := ⟨by decide +kernel, rfl⟩
theorem eX12_readDesk_25 : sl_B YX12_readDesk 25 (fun o => .ifCond .eq o) 28 32 := ⟨7, by decide +kernel, rfl, by decide⟩
theorem eX12_readDesk_28 : sl_D YX12_readDesk 28 (.iconst 0) 1 29 := ⟨by decide +kernel, rfl⟩
theorem eX12_readDesk_29 : sl_B YX12_readDesk 29 (fun o => .goto o) 32 61 := ⟨32, by decide +kernel, rfl, by decide⟩
theorem eX12_readDesk_32 : sl_D YX12_readDesk 32 (.aload_n 0) 1 33 := ⟨by decide +kernel, rfl⟩
theorem eX12_readDesk_33 : sl_D YX12_readDesk 33 (.ldc_w 260) 3 36 := ⟨by decide +kernel, rfl⟩
theorem eX12_readDesk_36 : sl_D YX12_readDesk 36 (.invokevirtual 212) 3 39 := ⟨by decide +kernel, rfl⟩
theorem eX12_readDesk_39 : sl_B YX12_readDesk 39 (fun o => .ifCond .eq o) 42 46 := ⟨7, by decide +kernel, rfl, by decide⟩
theorem eX12_readDesk_42 : sl_D YX12_readDesk 42 (.iconst 1) 1 43 := ⟨by decide +kernel, rfl⟩
theorem eX12_readDesk_43 : sl_B YX12_readDesk 43 (fun o => .goto o) 46 61 := ⟨18, by decide +kernel, rfl, by decide⟩
theorem eX12_readDesk_46 : sl_D YX12_readDesk 46 (.aload_n 0) 1 47 := ⟨by decide +kernel, rfl⟩
theorem eX12_readDesk_47 : sl_D YX12_readDesk 47 (.ldc_w 262) 3 50 := ⟨by decide +kernel, rfl⟩
theorem eX12_readDesk_50 : sl_D YX12_readDesk 50 (.invokevirtual 212) 3 53 := ⟨by decide +kernel, rfl⟩
theorem eX12_readDesk_53 : sl_B YX12_readDesk 53 (fun o => .ifCond .eq o) 56 60 := ⟨7, by decide +kernel, rfl, by decide⟩
theorem eX12_readDesk_56 : sl_D YX12_readDesk 56 (.iconst 2) 1 57 := ⟨by decide +kernel, rfl⟩
theorem eX12_readDesk_57 : sl_B YX12_readDesk 57 (fun o => .goto o) 60 61 := ⟨4, by decide +kernel, rfl, by decide⟩
theorem eX12_readDesk_60 : sl_D YX12_readDesk 60 (.iconst (-1)) 1 61 := ⟨by decide +kernel, rfl⟩
theorem eX12_readDesk_61 : sl_D YX12_readDesk 61 (.istore_n 1) 1 62 := ⟨by decide +kernel, rfl⟩
theorem eX12_readDesk_62 : sl_D YX12_readDesk 62 (.iload_n 1) 1 63 := ⟨by decide +kernel, rfl⟩
theorem eX12_readDesk_63 : sl_D YX12_readDesk 63 (.iconst (-1)) 1 64 := ⟨by decide +kernel, rfl⟩
theorem eX12_readDesk_64 : sl_B YX12_readDesk 64 (fun o => .if_icmp .ne o) 67 72 := ⟨8, by decide +kernel, rfl, by decide⟩
theorem eX12_readDesk_67 : sl_D YX12_readDesk 67 (.aload_n 0) 1 68 := ⟨by decide +kernel, rfl⟩
theorem eX12_readDesk_68 : sl_D YX12_readDesk 68 (.iconst 1) 1 69 := ⟨by decide +kernel, rfl⟩
theorem eX12_readDesk_69 : sl_D YX12_readDesk 69 (.invokevirtual 216) 3 72 := ⟨by decide +kernel, rfl⟩
theorem eX12_readDesk_72 : sl_D YX12_readDesk 72 (.aload_n 0) 1 73 := ⟨by decide +kernel, rfl⟩
theorem eX12_readDesk_73 : sl_D YX12_readDesk 73 (.invokevirtual 220) 3 76 := ⟨by decide +kernel, rfl⟩
theorem eX12_readDesk_76 : sl_D YX12_readDesk 76 (.aload_n 0) 1 77 := ⟨by decide +kernel, rfl⟩
theorem eX12_readDesk_77 : sl_D YX12_readDesk 77 (.getfield 165) 3 80 := ⟨by decide +kernel, rfl⟩
theorem eX12_readDesk_80 : sl_B YX12_readDesk 80 (fun o => .ifCond .ne o) 83 88 := ⟨8, by decide +kernel, rfl, by decide⟩
theorem eX12_readDesk_83 : sl_D YX12_readDesk 83 (.aload_n 0) 1 84 := ⟨by decide +kernel, rfl⟩
theorem eX12_readDesk_84 : sl_D YX12_readDesk 84 (.iload_n 1) 1 85 := ⟨by decide +kernel, rfl⟩
theorem eX12_readDesk_85 : sl_D YX12_readDesk 85 (.putfield 242) 3 88 := ⟨by decide +kernel, rfl⟩
theorem eX12_readDesk_88 : sl_D YX12_readDesk 88 (.return_) 1 89 := ⟨by decide +kernel, rfl⟩
theorem eX12_readRule_0 : sl_D YX12_readRule 0 (.aload_n 0) 1 1 := ⟨by decide +kernel, rfl⟩
theorem eX12_readRule_1 : sl_D YX12_readRule 1 (.getfield 239) 3 4 := ⟨by decide +kernel, rfl⟩
theorem eX12_readRule_4 : sl_D YX12_readRule 4 (.bipush 12) 2 6 := ⟨by decide +kernel, rfl⟩
theorem eX12_readRule_6 : sl_B YX12_readRule 6 (fun o => .if_icmp .ne o) 9 14 := ⟨8, by decide +kernel, rfl, by decide⟩
theorem eX12_readRule_9 : sl_D YX12_readRule 9 (.aload_n 0) 1 10 := ⟨by decide +kernel, rfl⟩
theorem eX12_readRule_10 : sl_D YX12_readRule 10 (.iconst 4) 1 11 := ⟨by decide +kernel, rfl⟩
theorem eX12_readRule_11 : sl_D YX12_readRule 11 (.invokevirtual 216) 3 14 := ⟨by decide +kernel, rfl⟩
theorem eX12_readRule_14 : sl_D YX12_readRule 14 (.aload_n 0) 1 15 := ⟨by decide +kernel, rfl⟩
theorem eX12_readRule_15 : sl_D YX12_readRule 15 (.getfield 242) 3 18 := ⟨by decide +kernel, rfl⟩
theorem eX12_readRule_18 : sl_D YX12_readRule 18 (.iconst (-1)) 1 19 := ⟨by decide +kernel, rfl⟩
theorem eX12_readRule_19 : sl_B YX12_readRule 19 (fun o => .if_icmp .ne o) 22 27 := ⟨8, by decide +kernel, rfl, by decide⟩
theorem eX12_readRule_22 : sl_D YX12_readRule 22 (.aload_n 0) 1 23 := ⟨by decide +kernel, rfl⟩
theorem eX12_readRule_23 : sl_D YX12_readRule 23 (.iconst 5) 1 24 := ⟨by decide +kernel, rfl⟩
theorem eX12_readRule_24 : sl_D YX12_readRule 24 (.invokevirtual 216) 3 27 := ⟨by decide +kernel, rfl⟩
theorem eX12_readRule_27 : sl_D YX12_readRule 27 (.aload_n 0) 1 28 := ⟨by decide +kernel, rfl⟩
theorem eX12_readRule_28 : sl_D YX12_readRule 28 (.invokevirtual 220) 3 31 := ⟨by decide +kernel, rfl⟩
theorem eX12_readRule_31 : sl_D YX12_readRule 31 (.aload_n 0) 1 32 := ⟨by decide +kernel, rfl⟩
theorem eX12_readRule_32 : sl_D YX12_readRule 32 (.invokevirtual 264) 3 35 := ⟨by decide +kernel, rfl⟩
theorem eX12_readRule_35 : sl_B YX12_readRule 35 (fun o => .ifCond .ne o) 38 43 := ⟨8, by decide +kernel, rfl, by decide⟩
theorem eX12_readRule_38 : sl_D YX12_readRule 38 (.aload_n 0) 1 39 := ⟨by decide +kernel, rfl⟩
theorem eX12_readRule_39 : sl_D YX12_readRule 39 (.iconst 1) 1 40 := ⟨by decide +kernel, rfl⟩
theorem eX12_readRule_40 : sl_D YX12_readRule 40 (.invokevirtual 216) 3 43 := ⟨by decide +kernel, rfl⟩
theorem eX12_readRule_43 : sl_D YX12_readRule 43 (.aload_n 0) 1 44 := ⟨by decide +kernel, rfl⟩
theorem eX12_readRule_44 : sl_D YX12_readRule 44 (.getfield 165) 3 47 := ⟨by decide +kernel, rfl⟩
theorem eX12_readRule_47 : sl_B YX12_readRule 47 (fun o => .ifCond .le o) 50 54 := ⟨7, by decide +kernel, rfl, by decide⟩
theorem eX12_readRule_50 : sl_D YX12_readRule 50 (.iconst 0) 1 51 := ⟨by decide +kernel, rfl⟩
theorem eX12_readRule_51 : sl_B YX12_readRule 51 (fun o => .goto o) 54 58 := ⟨7, by decide +kernel, rfl, by decide⟩
theorem eX12_readRule_54 : sl_D YX12_readRule 54 (.aload_n 0) 1 55 := ⟨by decide +kernel, rfl⟩
theorem eX12_readRule_55 : sl_D YX12_readRule 55 (.invokevirtual 267) 3 58 := ⟨by decide +kernel, rfl⟩
theorem eX12_readRule_58 : sl_D YX12_readRule 58 (.istore_n 1) 1 59 := ⟨by decide +kernel, rfl⟩
theorem eX12_readRule_59 : sl_D YX12_readRule 59 (.aload_n 0) 1 60 := ⟨by decide +kernel, rfl⟩
theorem eX12_readRule_60 : sl_D YX12_readRule 60 (.invokevirtual 220) 3 63 := ⟨by decide +kernel, rfl⟩
theorem eX12_readRule_63 : sl_D YX12_readRule 63 (.aload_n 0) 1 64 := ⟨by decide +kernel, rfl⟩
theorem eX12_readRule_64 : sl_D YX12_readRule 64 (.ldc 227) 2 66 := ⟨by decide +kernel, rfl⟩
theorem eX12_readRule_66 : sl_D YX12_readRule 66 (.invokevirtual 270) 3 69 := ⟨by decide +kernel, rfl⟩
theorem eX12_readRule_69 : sl_D YX12_readRule 69 (.iconst 0) 1 70 := ⟨by decide +kernel, rfl⟩
theorem eX12_readRule_70 : sl_D YX12_readRule 70 (.istore_n 2) 1 71 := ⟨by decide +kernel, rfl⟩
theorem eX12_readRule_71 : sl_D YX12_readRule 71 (.aload_n 0) 1 72 := ⟨by decide +kernel, rfl⟩
theorem eX12_readRule_72 : sl_D YX12_readRule 72 (.iconst 0) 1 73 := ⟨by decide +kernel, rfl⟩
theorem eX12_readRule_73 : sl_D YX12_readRule 73 (.invokevirtual 274) 3 76 := ⟨by decide +kernel, rfl⟩
theorem eX12_readRule_76 : sl_D YX12_readRule 76 (.aload_n 0) 1 77 := ⟨by decide +kernel, rfl⟩
theorem eX12_readRule_77 : sl_D YX12_readRule 77 (.getfield 165) 3 80 := ⟨by decide +kernel, rfl⟩
theorem eX12_readRule_80 : sl_B YX12_readRule 80 (fun o => .ifCond .ne o) 83 103 := ⟨23, by decide +kernel, rfl, by decide⟩
theorem eX12_readRule_83 : sl_D YX12_readRule 83 (.aload_n 0) 1 84 := ⟨by decide +kernel, rfl⟩
theorem eX12_readRule_84 : sl_D YX12_readRule 84 (.ldc 229) 2 86 := ⟨by decide +kernel, rfl⟩
theorem eX12_readRule_86 : sl_D YX12_readRule 86 (.invokevirtual 212) 3 89 := ⟨by decide +kernel, rfl⟩
theorem eX12_readRule_89 : sl_B YX12_readRule 89 (fun o => .ifCond .ne o) 92 103 := ⟨14, by decide +kernel, rfl, by decide⟩
theorem eX12_readRule_92 : sl_D YX12_readRule 92 (.iinc 2 1) 3 95 := ⟨by decide +kernel, rfl⟩
theorem eX12_readRule_95 : sl_D YX12_readRule 95 (.aload_n 0) 1 96 := ⟨by decide +kernel, rfl⟩
theorem eX12_readRule_96 : sl_D YX12_readRule 96 (.iload_n 2) 1 97 := ⟨by decide +kernel, rfl⟩
theorem eX12_readRule_97 : sl_D YX12_readRule 97 (.invokevirtual 274) 3 100 := ⟨by decide +kernel, rfl⟩
theorem eX12_readRule_100 : sl_B YX12_readRule 100 (fun o => .goto o) 103 76 := ⟨-24, by decide +kernel, rfl, by decide⟩
theorem eX12_readRule_103 : sl_D YX12_readRule 103 (.iinc 2 1) 3 106 := ⟨by decide +kernel, rfl⟩
theorem eX12_readRule_106 : sl_D YX12_readRule 106 (.aload_n 0) 1 107 := ⟨by decide +kernel, rfl⟩
theorem eX12_readRule_107 : sl_D YX12_readRule 107 (.invokevirtual 220) 3 110 := ⟨by decide +kernel, rfl⟩
theorem eX12_readRule_110 : sl_D YX12_readRule 110 (.aload_n 0) 1 111 := ⟨by decide +kernel, rfl⟩
theorem eX12_readRule_111 : sl_D YX12_readRule 111 (.invokevirtual 277) 3 114 := ⟨by decide +kernel, rfl⟩
theorem eX12_readRule_114 : sl_D YX12_readRule 114 (.istore_n 3) 1 115 := ⟨by decide +kernel, rfl⟩
theorem eX12_readRule_115 : sl_D YX12_readRule 115 (.aload_n 0) 1 116 := ⟨by decide +kernel, rfl⟩
theorem eX12_readRule_116 : sl_D YX12_readRule 116 (.getfield 165) 3 119 := ⟨by decide +kernel, rfl⟩
theorem eX12_readRule_119 : sl_B YX12_readRule 119 (fun o => .ifCond .ne o) 122 136 := ⟨17, by decide +kernel, rfl, by decide⟩
theorem eX12_readRule_122 : sl_D YX12_readRule 122 (.aload_n 0) 1 123 := ⟨by decide +kernel, rfl⟩
theorem eX12_readRule_123 : sl_D YX12_readRule 123 (.iload_n 3) 1 124 := ⟨by decide +kernel, rfl⟩
theorem eX12_readRule_124 : sl_D YX12_readRule 124 (.iload_n 2) 1 125 := ⟨by decide +kernel, rfl⟩
theorem eX12_readRule_125 : sl_D YX12_readRule 125 (.invokevirtual 280) 3 128 := ⟨by decide +kernel, rfl⟩
theorem eX12_readRule_128 : sl_B YX12_readRule 128 (fun o => .ifCond .ne o) 131 136 := ⟨8, by decide +kernel, rfl, by decide⟩
theorem eX12_readRule_131 : sl_D YX12_readRule 131 (.aload_n 0) 1 132 := ⟨by decide +kernel, rfl⟩
theorem eX12_readRule_132 : sl_D YX12_readRule 132 (.iconst 2) 1 133 := ⟨by decide +kernel, rfl⟩
theorem eX12_readRule_133 : sl_D YX12_readRule 133 (.invokevirtual 216) 3 136 := ⟨by decide +kernel, rfl⟩
theorem eX12_readRule_136 : sl_D YX12_readRule 136 (.aload_n 0) 1 137 := ⟨by decide +kernel, rfl⟩
theorem eX12_readRule_137 : sl_D YX12_readRule 137 (.invokevirtual 220) 3 140 := ⟨by decide +kernel, rfl⟩
theorem eX12_readRule_140 : sl_D YX12_readRule 140 (.aload_n 0) 1 141 := ⟨by decide +kernel, rfl⟩
theorem eX12_readRule_141 : sl_D YX12_readRule 141 (.getfield 165) 3 144 := ⟨by decide +kernel, rfl⟩
theorem eX12_readRule_144 : sl_B YX12_readRule 144 (fun o => .ifCond .le o) 147 148 := ⟨4, by decide +kernel, rfl, by decide⟩
theorem eX12_readRule_147 : sl_D YX12_readRule 147 (.return_) 1 148 := ⟨by decide +kernel, rfl⟩
theorem eX12_readRule_148 : sl_D YX12_readRule 148 (.aload_n 0) 1 149 := ⟨by decide +kernel, rfl⟩
theorem eX12_readRule_149 : sl_D YX12_readRule 149 (.getfield 29) 3 152 := ⟨by decide +kernel, rfl⟩
theorem eX12_readRule_152 : sl_D YX12_readRule 152 (.aload_n 0) 1 153 := ⟨by decide +kernel, rfl⟩
theorem eX12_readRule_153 : sl_D YX12_readRule 153 (.getfield 239) 3 156 := ⟨by decide +kernel, rfl⟩
theorem eX12_readRule_156 : sl_D YX12_readRule 156 (.iload_n 1) 1 157 := ⟨by decide +kernel, rfl⟩
theorem eX12_readRule_157 : sl_D YX12_readRule 157 (.iastore) 1 158 := ⟨by decide +kernel, rfl⟩
theorem eX12_readRule_158 : sl_D YX12_readRule 158 (.aload_n 0) 1 159 := ⟨by decide +kernel, rfl⟩
theorem eX12_readRule_159 : sl_D YX12_readRule 159 (.getfield 35) 3 162 := ⟨by decide +kernel, rfl⟩
theorem eX12_readRule_162 : sl_D YX12_readRule 162 (.aload_n 0) 1 163 := ⟨by decide +kernel, rfl⟩
theorem eX12_readRule_163 : sl_D YX12_readRule 163 (.getfield 239) 3 166 := ⟨by decide +kernel, rfl⟩
theorem eX12_readRule_166 : sl_D YX12_readRule 166 (.iload_n 2) 1 167 := ⟨by decide +kernel, rfl⟩
theorem eX12_readRule_167 : sl_D YX12_readRule 167 (.iastore) 1 168 := ⟨by decide +kernel, rfl⟩
theorem eX12_readRule_168 : sl_D YX12_readRule 168 (.aload_n 0) 1 169 := ⟨by decide +kernel, rfl⟩
theorem eX12_readRule_169 : sl_D YX12_readRule 169 (.getfield 38) 3 172 := ⟨by decide +kernel, rfl⟩
theorem eX12_readRule_172 : sl_D YX12_readRule 172 (.aload_n 0) 1 173 := ⟨by decide +kernel, rfl⟩
theorem eX12_readRule_173 : sl_D YX12_readRule 173 (.getfield 239) 3 176 := ⟨by decide +kernel, rfl⟩
theorem eX12_readRule_176 : sl_D YX12_readRule 176 (.iload_n 3) 1 177 := ⟨by decide +kernel, rfl⟩
theorem eX12_readRule_177 : sl_D YX12_readRule 177 (.iastore) 1 178 := ⟨by decide +kernel, rfl⟩
theorem eX12_readRule_178 : sl_D YX12_readRule 178 (.aload_n 0) 1 179 := ⟨by decide +kernel, rfl⟩
theorem eX12_readRule_179 : sl_D YX12_readRule 179 (.dup) 1 180 := ⟨by decide +kernel, rfl⟩
theorem eX12_readRule_180 : sl_D YX12_readRule 180 (.getfield 239) 3 183 := ⟨by decide +kernel, rfl⟩
theorem eX12_readRule_183 : sl_D YX12_readRule 183 (.iconst 1) 1 184 := ⟨by decide +kernel, rfl⟩
theorem eX12_readRule_184 : sl_D YX12_readRule 184 (.iadd) 1 185 := ⟨by decide +kernel, rfl⟩
theorem eX12_readRule_185 : sl_D YX12_readRule 185 (.putfield 239) 3 188 := ⟨by decide +kernel, rfl⟩
theorem eX12_readRule_188 : sl_D YX12_readRule 188 (.return_) 1 189 := ⟨by decide +kernel, rfl⟩
theorem eX12_itemOf_0 : sl_D YX12_itemOf 0 (.aload_n 0) 1 1 := ⟨by decide +kernel, rfl⟩
theorem eX12_itemOf_1 : sl_D YX12_itemOf 1 (.getfield 32) 3 4 := ⟨by decide +kernel, rfl⟩
theorem eX12_itemOf_4 : sl_D YX12_itemOf 4 (.iconst 5) 1 5 := ⟨by decide +kernel, rfl⟩
theorem eX12_itemOf_5 : sl_D YX12_itemOf 5 (.aload_n 0) 1 6 := ⟨by decide +kernel, rfl⟩
theorem eX12_itemOf_6 : sl_D YX12_itemOf 6 (.getfield 239) 3 9 := ⟨by decide +kernel, rfl⟩
theorem eX12_itemOf_9 : sl_D YX12_itemOf 9 (.imul) 1 10 := ⟨by decide +kernel, rfl⟩
theorem eX12_itemOf_10 : sl_D YX12_itemOf 10 (.iload_n 1) 1 11 := ⟨by decide +kernel, rfl⟩
theorem eX12_itemOf_11 : sl_D YX12_itemOf 11 (.iadd) 1 12 := ⟨by decide +kernel, rfl⟩
theorem eX12_itemOf_12 : sl_D YX12_itemOf 12 (.iaload) 1 13 := ⟨by decide +kernel, rfl⟩
theorem eX12_itemOf_13 : sl_D YX12_itemOf 13 (.ireturn) 1 14 := ⟨by decide +kernel, rfl⟩
theorem eX12_readItem_0 : sl_D YX12_readItem 0 (.aload_n 0) 1 1 := ⟨by decide +kernel, rfl⟩
theorem eX12_readItem_1 : sl_D YX12_readItem 1 (.ldc 231) 2 3 := ⟨by decide +kernel, rfl⟩
theorem eX12_readItem_3 : sl_D YX12_readItem 3 (.invokevirtual 212) 3 6 := ⟨by decide +kernel, rfl⟩
theorem eX12_readItem_6 : sl_D YX12_readItem 6 (.istore_n 2) 1 7 := ⟨by decide +kernel, rfl⟩
theorem eX12_readItem_7 : sl_D YX12_readItem 7 (.aload_n 0) 1 8 := ⟨by decide +kernel, rfl⟩
theorem eX12_readItem_8 : sl_D YX12_readItem 8 (.invokevirtual 264) 3 11 := ⟨by decide +kernel, rfl⟩
theorem eX12_readItem_11 : sl_D YX12_readItem 11 (.istore_n 3) 1 12 := ⟨by decide +kernel, rfl⟩
theorem eX12_readItem_12 : sl_D YX12_readItem 12 (.iload_n 2) 1 13 := ⟨by decide +kernel, rfl⟩
theorem eX12_readItem_13 : sl_B YX12_readItem 13 (fun o => .ifCond .ne o) 16 33 := ⟨20, by decide +kernel, rfl, by decide⟩
theorem eX12_readItem_16 : sl_D YX12_readItem 16 (.iload_n 3) 1 17 := ⟨by decide +kernel, rfl⟩
theorem eX12_readItem_17 : sl_B YX12_readItem 17 (fun o => .ifCond .ne o) 20 33 := ⟨16, by decide +kernel, rfl, by decide⟩
theorem eX12_readItem_20 : sl_D YX12_readItem 20 (.aload_n 0) 1 21 := ⟨by decide +kernel, rfl⟩
theorem eX12_readItem_21 : sl_D YX12_readItem 21 (.getfield 177) 3 24 := ⟨by decide +kernel, rfl⟩
theorem eX12_readItem_24 : sl_D YX12_readItem 24 (.iconst 3) 1 25 := ⟨by decide +kernel, rfl⟩
theorem eX12_readItem_25 : sl_B YX12_readItem 25 (fun o => .if_icmp .eq o) 28 33 := ⟨8, by decide +kernel, rfl, by decide⟩
theorem eX12_readItem_28 : sl_D YX12_readItem 28 (.aload_n 0) 1 29 := ⟨by decide +kernel, rfl⟩
theorem eX12_readItem_29 : sl_D YX12_readItem 29 (.iconst 1) 1 30 := ⟨by decide +kernel, rfl⟩
theorem eX12_readItem_30 : sl_D YX12_readItem 30 (.invokevirtual 216) 3 33 := ⟨by decide +kernel, rfl⟩
theorem eX12_readItem_33 : sl_D YX12_readItem 33 (.aload_n 0) 1 34 := ⟨by decide +kernel, rfl⟩
theorem eX12_readItem_34 : sl_D YX12_readItem 34 (.getfield 165) 3 37 := ⟨by decide +kernel, rfl⟩
theorem eX12_readItem_37 : sl_B YX12_readItem 37 (fun o => .ifCond .ne o) 40 70 := ⟨33, by decide +kernel, rfl, by decide⟩
theorem eX12_readItem_40 : sl_D YX12_readItem 40 (.iload_n 3) 1 41 := ⟨by decide +kernel, rfl⟩
theorem eX12_readItem_41 : sl_B YX12_readItem 41 (fun o => .ifCond .eq o) 44 70 := ⟨29, by decide +kernel, rfl, by decide⟩
theorem eX12_readItem_44 : sl_D YX12_readItem 44 (.iload_n 1) 1 45 := ⟨by decide +kernel, rfl⟩
theorem eX12_readItem_45 : sl_B YX12_readItem 45 (fun o => .ifCond .le o) 48 70 := ⟨25, by decide +kernel, rfl, by decide⟩
theorem eX12_readItem_48 : sl_D YX12_readItem 48 (.iload_n 1) 1 49 := ⟨by decide +kernel, rfl⟩
theorem eX12_readItem_49 : sl_D YX12_readItem 49 (.iconst 5) 1 50 := ⟨by decide +kernel, rfl⟩
theorem eX12_readItem_50 : sl_B YX12_readItem 50 (fun o => .if_icmp .gt o) 53 70 := ⟨20, by decide +kernel, rfl, by decide⟩
theorem eX12_readItem_53 : sl_D YX12_readItem 53 (.aload_n 0) 1 54 := ⟨by decide +kernel, rfl⟩
theorem eX12_readItem_54 : sl_D YX12_readItem 54 (.iload_n 1) 1 55 := ⟨by decide +kernel, rfl⟩
theorem eX12_readItem_55 : sl_D YX12_readItem 55 (.iconst 1) 1 56 := ⟨by decide +kernel, rfl⟩
theorem eX12_readItem_56 : sl_D YX12_readItem 56 (.isub) 1 57 := ⟨by decide +kernel, rfl⟩
theorem eX12_readItem_57 : sl_D YX12_readItem 57 (.invokevirtual 284) 3 60 := ⟨by decide +kernel, rfl⟩
theorem eX12_readItem_60 : sl_D YX12_readItem 60 (.bipush 100) 2 62 := ⟨by decide +kernel, rfl⟩
theorem eX12_readItem_62 : sl_B YX12_readItem 62 (fun o => .if_icmp .lt o) 65 70 := ⟨8, by decide +kernel, rfl, by decide⟩
theorem eX12_readItem_65 : sl_D YX12_readItem 65 (.aload_n 0) 1 66 := ⟨by decide +kernel, rfl⟩
theorem eX12_readItem_66 : sl_D YX12_readItem 66 (.iconst 3) 1 67 := ⟨by decide +kernel, rfl⟩
theorem eX12_readItem_67 : sl_D YX12_readItem 67 (.invokevirtual 216) 3 70 := ⟨by decide +kernel, rfl⟩
theorem eX12_readItem_70 : sl_D YX12_readItem 70 (.aload_n 0) 1 71 := ⟨by decide +kernel, rfl⟩
theorem eX12_readItem_71 : sl_D YX12_readItem 71 (.getfield 165) 3 74 := ⟨by decide +kernel, rfl⟩
theorem eX12_readItem_74 : sl_B YX12_readItem 74 (fun o => .ifCond .ne o) 77 87 := ⟨13, by decide +kernel, rfl, by decide⟩
theorem eX12_readItem_77 : sl_D YX12_readItem 77 (.iload_n 1) 1 78 := ⟨by decide +kernel, rfl⟩
theorem eX12_readItem_78 : sl_D YX12_readItem 78 (.iconst 5) 1 79 := ⟨by decide +kernel, rfl⟩
theorem eX12_readItem_79 : sl_B YX12_readItem 79 (fun o => .if_icmp .ne o) 82 87 := ⟨8, by decide +kernel, rfl, by decide⟩
theorem eX12_readItem_82 : sl_D YX12_readItem 82 (.aload_n 0) 1 83 := ⟨by decide +kernel, rfl⟩
theorem eX12_readItem_83 : sl_D YX12_readItem 83 (.iconst 4) 1 84 := ⟨by decide +kernel, rfl⟩
theorem eX12_readItem_84 : sl_D YX12_readItem 84 (.invokevirtual 216) 3 87 := ⟨by decide +kernel, rfl⟩
theorem eX12_readItem_87 : sl_D YX12_readItem 87 (.aload_n 0) 1 88 := ⟨by decide +kernel, rfl⟩
theorem eX12_readItem_88 : sl_D YX12_readItem 88 (.getfield 165) 3 91 := ⟨by decide +kernel, rfl⟩
theorem eX12_readItem_91 : sl_B YX12_readItem 91 (fun o => .ifCond .le o) 94 95 := ⟨4, by decide +kernel, rfl, by decide⟩
theorem eX12_readItem_94 : sl_D YX12_readItem 94 (.return_) 1 95 := ⟨by decide +kernel, rfl⟩
theorem eX12_readItem_95 : sl_D YX12_readItem 95 (.iload_n 3) 1 96 := ⟨by decide +kernel, rfl⟩
theorem eX12_readItem_96 : sl_B YX12_readItem 96 (fun o => .ifCond .eq o) 99 109 := ⟨13, by decide +kernel, rfl, by decide⟩
theorem eX12_readItem_99 : sl_D YX12_readItem 99 (.bipush 100) 2 101 := ⟨by decide +kernel, rfl⟩
theorem eX12_readItem_101 : sl_D YX12_readItem 101 (.aload_n 0) 1 102 := ⟨by decide +kernel, rfl⟩
theorem eX12_readItem_102 : sl_D YX12_readItem 102 (.invokevirtual 267) 3 105 := ⟨by decide +kernel, rfl⟩
theorem eX12_readItem_105 : sl_D YX12_readItem 105 (.iadd) 1 106 := ⟨by decide +kernel, rfl⟩
theorem eX12_readItem_106 : sl_B YX12_readItem 106 (fun o => .goto o) 109 125 := ⟨19, by decide +kernel, rfl, by decide⟩
theorem eX12_readItem_109 : sl_D YX12_readItem 109 (.aload_n 0) 1 110 := ⟨by decide +kernel, rfl⟩
theorem eX12_readItem_110 : sl_D YX12_readItem 110 (.iload_n 2) 1 111 := ⟨by decide +kernel, rfl⟩
theorem eX12_readItem_111 : sl_B YX12_readItem 111 (fun o => .ifCond .eq o) 114 118 := ⟨7, by decide +kernel, rfl, by decide⟩
theorem eX12_readItem_114 : sl_D YX12_readItem 114 (.iconst 0) 1 115 := ⟨by decide +kernel, rfl⟩
theorem eX12_readItem_115 : sl_B YX12_readItem 115 (fun o => .goto o) 118 122 := ⟨7, by decide +kernel, rfl, by decide⟩
theorem eX12_readItem_118 : sl_D YX12_readItem 118 (.aload_n 0) 1 119 := ⟨by decide +kernel, rfl⟩
theorem eX12_readItem_119 : sl_D YX12_readItem 119 (.getfield 191) 3 122 := ⟨by decide +kernel, rfl⟩
theorem eX12_readItem_122 : sl_D YX12_readItem 122 (.invokevirtual 287) 3 125 := ⟨by decide +kernel, rfl⟩
theorem eX12_readItem_125 : sl_D YX12_readItem 125 (.istore 4) 2 127 := ⟨by decide +kernel, rfl⟩
theorem eX12_readItem_127 : sl_D YX12_readItem 127 (.aload_n 0) 1 128 := ⟨by decide +kernel, rfl⟩
theorem eX12_readItem_128 : sl_D YX12_readItem 128 (.invokevirtual 220) 3 131 := ⟨by decide +kernel, rfl⟩
theorem eX12_readItem_131 : sl_D YX12_readItem 131 (.aload_n 0) 1 132 := ⟨by decide +kernel, rfl⟩
theorem eX12_readItem_132 : sl_D YX12_readItem 132 (.getfield 165) 3 135 := ⟨by decide +kernel, rfl⟩
theorem eX12_readItem_135 : sl_B YX12_readItem 135 (fun o => .ifCond .ne o) 138 153 := ⟨18, by decide +kernel, rfl, by decide⟩
theorem eX12_readItem_138 : sl_D YX12_readItem 138 (.aload_n 0) 1 139 := ⟨by decide +kernel, rfl⟩
theorem eX12_readItem_139 : sl_D YX12_readItem 139 (.getfield 32) 3 142 := ⟨by decide +kernel, rfl⟩
theorem eX12_readItem_142 : sl_D YX12_readItem 142 (.iconst 5) 1 143 := ⟨by decide +kernel, rfl⟩
theorem eX12_readItem_143 : sl_D YX12_readItem 143 (.aload_n 0) 1 144 := ⟨by decide +kernel, rfl⟩
theorem eX12_readItem_144 : sl_D YX12_readItem 144 (.getfield 239) 3 147 := ⟨by decide +kernel, rfl⟩
theorem eX12_readItem_147 : sl_D YX12_readItem 147 (.imul) 1 148 := ⟨by decide +kernel, rfl⟩
theorem eX12_readItem_148 : sl_D YX12_readItem 148 (.iload_n 1) 1 149 := ⟨by decide +kernel, rfl⟩
theorem eX12_readItem_149 : sl_D YX12_readItem 149 (.iadd) 1 150 := ⟨by decide +kernel, rfl⟩
theorem eX12_readItem_150 : sl_D YX12_readItem 150 (.iload 4) 2 152 := ⟨by decide +kernel, rfl⟩
theorem eX12_readItem_152 : sl_D YX12_readItem 152 (.iastore) 1 153 := ⟨by decide +kernel, rfl⟩
theorem eX12_readItem_153 : sl_D YX12_readItem 153 (.return_) 1 154 := ⟨by decide +kernel, rfl⟩
theorem eX12_deedHere_0 : sl_D YX12_deedHere 0 (.aload_n 0) 1 1 := ⟨by decide +kernel, rfl⟩
theorem eX12_deedHere_1 : sl_D YX12_deedHere 1 (.ldc_w 290) 3 4 := ⟨by decide +kernel, rfl⟩
theorem eX12_deedHere_4 : sl_D YX12_deedHere 4 (.invokevirtual 212) 3 7 := ⟨by decide +kernel, rfl⟩
theorem eX12_deedHere_7 : sl_B YX12_deedHere 7 (fun o => .ifCond .eq o) 10 14 := ⟨7, by decide +kernel, rfl, by decide⟩
theorem eX12_deedHere_10 : sl_D YX12_deedHere 10 (.iconst 0) 1 11 := ⟨by decide +kernel, rfl⟩
theorem eX12_deedHere_11 : sl_B YX12_deedHere 11 (fun o => .goto o) 14 129 := ⟨118, by decide +kernel, rfl, by decide⟩
theorem eX12_deedHere_14 : sl_D YX12_deedHere 14 (.aload_n 0) 1 15 := ⟨by decide +kernel, rfl⟩
theorem eX12_deedHere_15 : sl_D YX12_deedHere 15 (.ldc_w 292) 3 18 := ⟨by decide +kernel, rfl⟩
theorem eX12_deedHere_18 : sl_D YX12_deedHere 18 (.invokevirtual 212) 3 21 := ⟨by decide +kernel, rfl⟩
theorem eX12_deedHere_21 : sl_B YX12_deedHere 21 (fun o => .ifCond .eq o) 24 28 := ⟨7, by decide +kernel, rfl, by decide⟩
theorem eX12_deedHere_24 : sl_D YX12_deedHere 24 (.iconst 1) 1 25 := ⟨by decide +kernel, rfl⟩
theorem eX12_deedHere_25 : sl_B YX12_deedHere 25 (fun o => .goto o) 28 129 := ⟨104, by decide +kernel, rfl, by decide⟩
theorem eX12_deedHere_28 : sl_D YX12_deedHere 28 (.aload_n 0) 1 29 := ⟨by decide +kernel, rfl⟩
theorem eX12_deedHere_29 : sl_D YX12_deedHere 29 (.ldc_w 294) 3 32 := ⟨by decide +kernel, rfl⟩
theorem eX12_deedHere_32 : sl_D YX12_deedHere 32 (.invokevirtual 212) 3 35 := ⟨by decide +kernel, rfl⟩
theorem eX12_deedHere_35 : sl_B YX12_deedHere 35 (fun o => .ifCond .eq o) 38 42 := ⟨7, by decide +kernel, rfl, by decide⟩
theorem eX12_deedHere_38 : sl_D YX12_deedHere 38 (.iconst 2) 1 39 := ⟨by decide +kernel, rfl⟩
theorem eX12_deedHere_39 : sl_B YX12_deedHere 39 (fun o => .goto o) 42 129 := ⟨90, by decide +kernel, rfl, by decide⟩
theorem eX12_deedHere_42 : sl_D YX12_deedHere 42 (.aload_n 0) 1 43 := ⟨by decide +kernel, rfl⟩
theorem eX12_deedHere_43 : sl_D YX12_deedHere 43 (.ldc_w 296) 3 46 := ⟨by decide +kernel, rfl⟩
theorem eX12_deedHere_46 : sl_D YX12_deedHere 46 (.invokevirtual 212) 3 49 := ⟨by decide +kernel, rfl⟩
theorem eX12_deedHere_49 : sl_B YX12_deedHere 49 (fun o => .ifCond .eq o) 52 56 := ⟨7, by decide +kernel, rfl, by decide⟩
theorem eX12_deedHere_52 : sl_D YX12_deedHere 52 (.iconst 3) 1 53 := ⟨by decide +kernel, rfl⟩
theorem eX12_deedHere_53 : sl_B YX12_deedHere 53 (fun o => .goto o) 56 129 := ⟨76, by decide +kernel, rfl, by decide⟩
theorem eX12_deedHere_56 : sl_D YX12_deedHere 56 (.aload_n 0) 1 57 := ⟨by decide +kernel, rfl⟩
theorem eX12_deedHere_57 : sl_D YX12_deedHere 57 (.ldc_w 298) 3 60 := ⟨by decide +kernel, rfl⟩
theorem eX12_deedHere_60 : sl_D YX12_deedHere 60 (.invokevirtual 212) 3 63 := ⟨by decide +kernel, rfl⟩
theorem eX12_deedHere_63 : sl_B YX12_deedHere 63 (fun o => .ifCond .eq o) 66 70 := ⟨7, by decide +kernel, rfl, by decide⟩
theorem eX12_deedHere_66 : sl_D YX12_deedHere 66 (.iconst 4) 1 67 := ⟨by decide +kernel, rfl⟩
theorem eX12_deedHere_67 : sl_B YX12_deedHere 67 (fun o => .goto o) 70 129 := ⟨62, by decide +kernel, rfl, by decide⟩
theorem eX12_deedHere_70 : sl_D YX12_deedHere 70 (.aload_n 0) 1 71 := ⟨by decide +kernel, rfl⟩
theorem eX12_deedHere_71 : sl_D YX12_deedHere 71 (.ldc_w 300) 3 74 := ⟨by decide +kernel, rfl⟩
theorem eX12_deedHere_74 : sl_D YX12_deedHere 74 (.invokevirtual 212) 3 77 := ⟨by decide +kernel, rfl⟩
theorem eX12_deedHere_77 : sl_B YX12_deedHere 77 (fun o => .ifCond .eq o) 80 84 := ⟨7, by decide +kernel, rfl, by decide⟩
theorem eX12_deedHere_80 : sl_D YX12_deedHere 80 (.iconst 5) 1 81 := ⟨by decide +kernel, rfl⟩
theorem eX12_deedHere_81 : sl_B YX12_deedHere 81 (fun o => .goto o) 84 129 := ⟨48, by decide +kernel, rfl, by decide⟩
theorem eX12_deedHere_84 : sl_D YX12_deedHere 84 (.aload_n 0) 1 85 := ⟨by decide +kernel, rfl⟩
theorem eX12_deedHere_85 : sl_D YX12_deedHere 85 (.ldc_w 260) 3 88 := ⟨by decide +kernel, rfl⟩
theorem eX12_deedHere_88 : sl_D YX12_deedHere 88 (.invokevirtual 212) 3 91 := ⟨by decide +kernel, rfl⟩
theorem eX12_deedHere_91 : sl_B YX12_deedHere 91 (fun o => .ifCond .eq o) 94 99 := ⟨8, by decide +kernel, rfl, by decide⟩
theorem eX12_deedHere_94 : sl_D YX12_deedHere 94 (.bipush 6) 2 96 := ⟨by decide +kernel, rfl⟩
theorem eX12_deedHere_96 : sl_B YX12_deedHere 96 (fun o => .goto o) 99 129 := ⟨33, by decide +kernel, rfl, by decide⟩
theorem eX12_deedHere_99 : sl_D YX12_deedHere 99 (.aload_n 0) 1 100 := ⟨by decide +kernel, rfl⟩
theorem eX12_deedHere_100 : sl_D YX12_deedHere 100 (.ldc_w 262) 3 103 := ⟨by decide +kernel, rfl⟩
theorem eX12_deedHere_103 : sl_D YX12_deedHere 103 (.invokevirtual 212) 3 106 := ⟨by decide +kernel, rfl⟩
theorem eX12_deedHere_106 : sl_B YX12_deedHere 106 (fun o => .ifCond .eq o) 109 114 := ⟨8, by decide +kernel, rfl, by decide⟩
theorem eX12_deedHere_109 : sl_D YX12_deedHere 109 (.bipush 7) 2 111 := ⟨by decide +kernel, rfl⟩
theorem eX12_deedHere_111 : sl_B YX12_deedHere 111 (fun o => .goto o) 114 129 := ⟨18, by decide +kernel, rfl, by decide⟩
theorem eX12_deedHere_114 : sl_D YX12_deedHere 114 (.aload_n 0) 1 115 := ⟨by decide +kernel, rfl⟩
theorem eX12_deedHere_115 : sl_D YX12_deedHere 115 (.ldc 231) 2 117 := ⟨by decide +kernel, rfl⟩
theorem eX12_deedHere_117 : sl_D YX12_deedHere 117 (.invokevirtual 212) 3 120 := ⟨by decide +kernel, rfl⟩
theorem eX12_deedHere_120 : sl_B YX12_deedHere 120 (fun o => .ifCond .eq o) 123 128 := ⟨8, by decide +kernel, rfl, by decide⟩
theorem eX12_deedHere_123 : sl_D YX12_deedHere 123 (.bipush 8) 2 125 := ⟨by decide +kernel, rfl⟩
theorem eX12_deedHere_125 : sl_B YX12_deedHere 125 (fun o => .goto o) 128 129 := ⟨4, by decide +kernel, rfl, by decide⟩
theorem eX12_deedHere_128 : sl_D YX12_deedHere 128 (.iconst (-1)) 1 129 := ⟨by decide +kernel, rfl⟩
theorem eX12_deedHere_129 : sl_D YX12_deedHere 129 (.istore_n 1) 1 130 := ⟨by decide +kernel, rfl⟩
theorem eX12_deedHere_130 : sl_D YX12_deedHere 130 (.iload_n 1) 1 131 := ⟨by decide +kernel, rfl⟩
theorem eX12_deedHere_131 : sl_D YX12_deedHere 131 (.iconst (-1)) 1 132 := ⟨by decide +kernel, rfl⟩
theorem eX12_deedHere_132 : sl_B YX12_deedHere 132 (fun o => .if_icmp .ne o) 135 140 := ⟨8, by decide +kernel, rfl, by decide⟩
theorem eX12_deedHere_135 : sl_D YX12_deedHere 135 (.aload_n 0) 1 136 := ⟨by decide +kernel, rfl⟩
theorem eX12_deedHere_136 : sl_D YX12_deedHere 136 (.iconst 1) 1 137 := ⟨by decide +kernel, rfl⟩
theorem eX12_deedHere_137 : sl_D YX12_deedHere 137 (.invokevirtual 216) 3 140 := ⟨by decide +kernel, rfl⟩
theorem eX12_deedHere_140 : sl_D YX12_deedHere 140 (.iload_n 1) 1 141 := ⟨by decide +kernel, rfl⟩
theorem eX12_deedHere_141 : sl_D YX12_deedHere 141 (.ireturn) 1 142 := ⟨by decide +kernel, rfl⟩
theorem eX12_goesWith_0 : sl_D YX12_goesWith 0 (.iconst 0) 1 1 := ⟨by decide +kernel, rfl⟩
theorem eX12_goesWith_1 : sl_D YX12_goesWith 1 (.istore_n 3) 1 2 := ⟨by decide +kernel, rfl⟩
theorem eX12_goesWith_2 : sl_D YX12_goesWith 2 (.iconst 0) 1 3 := ⟨by decide +kernel, rfl⟩
theorem eX12_goesWith_3 : sl_D YX12_goesWith 3 (.istore 4) 2 5 := ⟨by decide +kernel, rfl⟩
theorem eX12_goesWith_5 : sl_D YX12_goesWith 5 (.iload 4) 2 7 := ⟨by decide +kernel, rfl⟩
theorem eX12_goesWith_7 : sl_D YX12_goesWith 7 (.iload_n 2) 1 8 := ⟨by decide +kernel, rfl⟩
theorem eX12_goesWith_8 : sl_B YX12_goesWith 8 (fun o => .if_icmp .ge o) 11 36 := ⟨28, by decide +kernel, rfl, by decide⟩
theorem eX12_goesWith_11 : sl_D YX12_goesWith 11 (.iload_n 3) 1 12 := ⟨by decide +kernel, rfl⟩
theorem eX12_goesWith_12 : sl_D YX12_goesWith 12 (.aload_n 0) 1 13 := ⟨by decide +kernel, rfl⟩
theorem eX12_goesWith_13 : sl_D YX12_goesWith 13 (.iload 4) 2 15 := ⟨by decide +kernel, rfl⟩
theorem eX12_goesWith_15 : sl_D YX12_goesWith 15 (.invokevirtual 284) 3 18 := ⟨by decide +kernel, rfl⟩
theorem eX12_goesWith_18 : sl_D YX12_goesWith 18 (.bipush 100) 2 20 := ⟨by decide +kernel, rfl⟩
theorem eX12_goesWith_20 : sl_B YX12_goesWith 20 (fun o => .if_icmp .lt o) 23 27 := ⟨7, by decide +kernel, rfl, by decide⟩
theorem eX12_goesWith_23 : sl_D YX12_goesWith 23 (.iconst 1) 1 24 := ⟨by decide +kernel, rfl⟩
theorem eX12_goesWith_24 : sl_B YX12_goesWith 24 (fun o => .goto o) 27 28 := ⟨4, by decide +kernel, rfl, by decide⟩
theorem eX12_goesWith_27 : sl_D YX12_goesWith 27 (.iconst 0) 1 28 := ⟨by decide +kernel, rfl⟩
theorem eX12_goesWith_28 : sl_D YX12_goesWith 28 (.iadd) 1 29 := ⟨by decide +kernel, rfl⟩
theorem eX12_goesWith_29 : sl_D YX12_goesWith 29 (.istore_n 3) 1 30 := ⟨by decide +kernel, rfl⟩
theorem eX12_goesWith_30 : sl_D YX12_goesWith 30 (.iinc 4 1) 3 33 := ⟨by decide +kernel, rfl⟩
theorem eX12_goesWith_33 : sl_B YX12_goesWith 33 (fun o => .goto o) 36 5 := ⟨-28, by decide +kernel, rfl, by decide⟩
theorem eX12_goesWith_36 : sl_D YX12_goesWith 36 (.iload_n 1) 1 37 := ⟨by decide +kernel, rfl⟩
theorem eX12_goesWith_37 : sl_D YX12_goesWith 37 (.bipush 8) 2 39 := ⟨by decide +kernel, rfl⟩
theorem eX12_goesWith_39 : sl_B YX12_goesWith 39 (fun o => .if_icmp .ne o) 42 76 := ⟨37, by decide +kernel, rfl, by decide⟩
theorem eX12_goesWith_42 : sl_D YX12_goesWith 42 (.iload_n 2) 1 43 := ⟨by decide +kernel, rfl⟩
theorem eX12_goesWith_43 : sl_D YX12_goesWith 43 (.iconst 1) 1 44 := ⟨by decide +kernel, rfl⟩
theorem eX12_goesWith_44 : sl_B YX12_goesWith 44 (fun o => .if_icmp .ne o) 47 74 := ⟨30, by decide +kernel, rfl, by decide⟩
theorem eX12_goesWith_47 : sl_D YX12_goesWith 47 (.aload_n 0) 1 48 := ⟨by decide +kernel, rfl⟩
theorem eX12_goesWith_48 : sl_D YX12_goesWith 48 (.iconst 0) 1 49 := ⟨by decide +kernel, rfl⟩
theorem eX12_goesWith_49 : sl_D YX12_goesWith 49 (.invokevirtual 284) 3 52 := ⟨by decide +kernel, rfl⟩
theorem eX12_goesWith_52 : sl_D YX12_goesWith 52 (.bipush 100) 2 54 := ⟨by decide +kernel, rfl⟩
theorem eX12_goesWith_54 : sl_B YX12_goesWith 54 (fun o => .if_icmp .ge o) 57 74 := ⟨20, by decide +kernel, rfl, by decide⟩
theorem eX12_goesWith_57 : sl_D YX12_goesWith 57 (.aload_n 0) 1 58 := ⟨by decide +kernel, rfl⟩
theorem eX12_goesWith_58 : sl_D YX12_goesWith 58 (.getfield 41) 3 61 := ⟨by decide +kernel, rfl⟩
theorem eX12_goesWith_61 : sl_D YX12_goesWith 61 (.aload_n 0) 1 62 := ⟨by decide +kernel, rfl⟩
theorem eX12_goesWith_62 : sl_D YX12_goesWith 62 (.iconst 0) 1 63 := ⟨by decide +kernel, rfl⟩
theorem eX12_goesWith_63 : sl_D YX12_goesWith 63 (.invokevirtual 284) 3 66 := ⟨by decide +kernel, rfl⟩
theorem eX12_goesWith_66 : sl_D YX12_goesWith 66 (.iaload) 1 67 := ⟨by decide +kernel, rfl⟩
theorem eX12_goesWith_67 : sl_B YX12_goesWith 67 (fun o => .ifCond .ne o) 70 74 := ⟨7, by decide +kernel, rfl, by decide⟩
theorem eX12_goesWith_70 : sl_D YX12_goesWith 70 (.iconst 1) 1 71 := ⟨by decide +kernel, rfl⟩
theorem eX12_goesWith_71 : sl_B YX12_goesWith 71 (fun o => .goto o) 74 75 := ⟨4, by decide +kernel, rfl, by decide⟩
theorem eX12_goesWith_74 : sl_D YX12_goesWith 74 (.iconst 0) 1 75 := ⟨by decide +kernel, rfl⟩
theorem eX12_goesWith_75 : sl_D YX12_goesWith 75 (.ireturn) 1 76 := ⟨by decide +kernel, rfl⟩
theorem eX12_goesWith_76 : sl_D YX12_goesWith 76 (.iload_n 3) 1 77 := ⟨by decide +kernel, rfl⟩
theorem eX12_goesWith_77 : sl_D YX12_goesWith 77 (.iload_n 1) 1 78 := ⟨by decide +kernel, rfl⟩
theorem eX12_goesWith_78 : sl_D YX12_goesWith 78 (.iconst 3) 1 79 := ⟨by decide +kernel, rfl⟩
theorem eX12_goesWith_79 : sl_B YX12_goesWith 79 (fun o => .if_icmp .gt o) 82 86 := ⟨7, by decide +kernel, rfl, by decide⟩
theorem eX12_goesWith_82 : sl_D YX12_goesWith 82 (.iconst 2) 1 83 := ⟨by decide +kernel, rfl⟩
theorem eX12_goesWith_83 : sl_B YX12_goesWith 83 (fun o => .goto o) 86 87 := ⟨4, by decide +kernel, rfl, by decide⟩
theorem eX12_goesWith_86 : sl_D YX12_goesWith 86 (.iconst 1) 1 87 := ⟨by decide +kernel, rfl⟩
theorem eX12_goesWith_87 : sl_B YX12_goesWith 87 (fun o => .if_icmp .ne o) 90 94 := ⟨7, by decide +kernel, rfl, by decide⟩
theorem eX12_goesWith_90 : sl_D YX12_goesWith 90 (.iconst 1) 1 91 := ⟨by decide +kernel, rfl⟩
theorem eX12_goesWith_91 : sl_B YX12_goesWith 91 (fun o => .goto o) 94 95 := ⟨4, by decide +kernel, rfl, by decide⟩
theorem eX12_goesWith_94 : sl_D YX12_goesWith 94 (.iconst 0) 1 95 := ⟨by decide +kernel, rfl⟩
theorem eX12_goesWith_95 : sl_D YX12_goesWith 95 (.ireturn) 1 96 := ⟨by decide +kernel, rfl⟩
theorem eX12_feed_0 : sl_D YX12_feed 0 (.aload_n 0) 1 1 := ⟨by decide +kernel, rfl⟩
theorem eX12_feed_1 : sl_D YX12_feed 1 (.iconst 0) 1 2 := ⟨by decide +kernel, rfl⟩
theorem eX12_feed_2 : sl_D YX12_feed 2 (.putfield 149) 3 5 := ⟨by decide +kernel, rfl⟩
theorem eX12_feed_5 : sl_D YX12_feed 5 (.aload_n 0) 1 6 := ⟨by decide +kernel, rfl⟩
theorem eX12_feed_6 : sl_D YX12_feed 6 (.getfield 302) 3 9 := ⟨by decide +kernel, rfl⟩
theorem eX12_feed_9 : sl_D YX12_feed 9 (.bipush 20) 2 11 := ⟨by decide +kernel, rfl⟩
theorem eX12_feed_11 : sl_D YX12_feed 11 (.iadd) 1 12 := ⟨by decide +kernel, rfl⟩
theorem eX12_feed_12 : sl_D YX12_feed 12 (.sipush 900) 3 15 := ⟨by decide +kernel, rfl⟩
theorem eX12_feed_15 : sl_B YX12_feed 15 (fun o => .if_icmp .le o) 18 20 := ⟨5, by decide +kernel, rfl, by decide⟩
theorem eX12_feed_18 : sl_D YX12_feed 18 (.iconst (-1)) 1 19 := ⟨by decide +kernel, rfl⟩
theorem eX12_feed_19 : sl_D YX12_feed 19 (.ireturn) 1 20 := ⟨by decide +kernel, rfl⟩
theorem eX12_feed_20 : sl_D YX12_feed 20 (.iconst 0) 1 21 := ⟨by decide +kernel, rfl⟩
theorem eX12_feed_21 : sl_D YX12_feed 21 (.istore 6) 2 23 := ⟨by decide +kernel, rfl⟩
theorem eX12_feed_23 : sl_D YX12_feed 23 (.iload 6) 2 25 := ⟨by decide +kernel, rfl⟩
theorem eX12_feed_25 : sl_D YX12_feed 25 (.bipush 20) 2 27 := ⟨by decide +kernel, rfl⟩
theorem eX12_feed_27 : sl_B YX12_feed 27 (fun o => .if_icmp .ge o) 30 117 := ⟨90, by decide +kernel, rfl, by decide⟩
theorem eX12_feed_30 : sl_D YX12_feed 30 (.iload 6) 2 32 := ⟨by decide +kernel, rfl⟩
theorem eX12_feed_32 : sl_D YX12_feed 32 (.iconst 4) 1 33 := ⟨by decide +kernel, rfl⟩
theorem eX12_feed_33 : sl_B YX12_feed 33 (fun o => .if_icmp .ge o) 36 40 := ⟨7, by decide +kernel, rfl, by decide⟩
theorem eX12_feed_36 : sl_D YX12_feed 36 (.iload_n 1) 1 37 := ⟨by decide +kernel, rfl⟩
theorem eX12_feed_37 : sl_B YX12_feed 37 (fun o => .goto o) 40 76 := ⟨39, by decide +kernel, rfl, by decide⟩
theorem eX12_feed_40 : sl_D YX12_feed 40 (.iload 6) 2 42 := ⟨by decide +kernel, rfl⟩
theorem eX12_feed_42 : sl_D YX12_feed 42 (.bipush 8) 2 44 := ⟨by decide +kernel, rfl⟩
theorem eX12_feed_44 : sl_B YX12_feed 44 (fun o => .if_icmp .ge o) 47 51 := ⟨7, by decide +kernel, rfl, by decide⟩
theorem eX12_feed_47 : sl_D YX12_feed 47 (.iload_n 2) 1 48 := ⟨by decide +kernel, rfl⟩
theorem eX12_feed_48 : sl_B YX12_feed 48 (fun o => .goto o) 51 76 := ⟨28, by decide +kernel, rfl, by decide⟩
theorem eX12_feed_51 : sl_D YX12_feed 51 (.iload 6) 2 53 := ⟨by decide +kernel, rfl⟩
theorem eX12_feed_53 : sl_D YX12_feed 53 (.bipush 12) 2 55 := ⟨by decide +kernel, rfl⟩
theorem eX12_feed_55 : sl_B YX12_feed 55 (fun o => .if_icmp .ge o) 58 62 := ⟨7, by decide +kernel, rfl, by decide⟩
theorem eX12_feed_58 : sl_D YX12_feed 58 (.iload_n 3) 1 59 := ⟨by decide +kernel, rfl⟩
theorem eX12_feed_59 : sl_B YX12_feed 59 (fun o => .goto o) 62 76 := ⟨17, by decide +kernel, rfl, by decide⟩
theorem eX12_feed_62 : sl_D YX12_feed 62 (.iload 6) 2 64 := ⟨by decide +kernel, rfl⟩
theorem eX12_feed_64 : sl_D YX12_feed 64 (.bipush 16) 2 66 := ⟨by decide +kernel, rfl⟩
theorem eX12_feed_66 : sl_B YX12_feed 66 (fun o => .if_icmp .ge o) 69 74 := ⟨8, by decide +kernel, rfl, by decide⟩
theorem eX12_feed_69 : sl_D YX12_feed 69 (.iload 4) 2 71 := ⟨by decide +kernel, rfl⟩
theorem eX12_feed_71 : sl_B YX12_feed 71 (fun o => .goto o) 74 76 := ⟨5, by decide +kernel, rfl, by decide⟩
theorem eX12_feed_74 : sl_D YX12_feed 74 (.iload 5) 2 76 := ⟨by decide +kernel, rfl⟩
theorem eX12_feed_76 : sl_D YX12_feed 76 (.istore 7) 2 78 := ⟨by decide +kernel, rfl⟩
theorem eX12_feed_78 : sl_D YX12_feed 78 (.aload_n 0) 1 79 := ⟨by decide +kernel, rfl⟩
theorem eX12_feed_79 : sl_D YX12_feed 79 (.getfield 54) 3 82 := ⟨by decide +kernel, rfl⟩
theorem eX12_feed_82 : sl_D YX12_feed 82 (.aload_n 0) 1 83 := ⟨by decide +kernel, rfl⟩
theorem eX12_feed_83 : sl_D YX12_feed 83 (.getfield 302) 3 86 := ⟨by decide +kernel, rfl⟩
theorem eX12_feed_86 : sl_D YX12_feed 86 (.iload 7) 2 88 := ⟨by decide +kernel, rfl⟩
theorem eX12_feed_88 : sl_D YX12_feed 88 (.bipush 24) 2 90 := ⟨by decide +kernel, rfl⟩
theorem eX12_feed_90 : sl_D YX12_feed 90 (.bipush 8) 2 92 := ⟨by decide +kernel, rfl⟩
theorem eX12_feed_92 : sl_D YX12_feed 92 (.iload 6) 2 94 := ⟨by decide +kernel, rfl⟩
theorem eX12_feed_94 : sl_D YX12_feed 94 (.iconst 4) 1 95 := ⟨by decide +kernel, rfl⟩
theorem eX12_feed_95 : sl_D YX12_feed 95 (.irem) 1 96 := ⟨by decide +kernel, rfl⟩
theorem eX12_feed_96 : sl_D YX12_feed 96 (.imul) 1 97 := ⟨by decide +kernel, rfl⟩
theorem eX12_feed_97 : sl_D YX12_feed 97 (.isub) 1 98 := ⟨by decide +kernel, rfl⟩
theorem eX12_feed_98 : sl_D YX12_feed 98 (.ishr) 1 99 := ⟨by decide +kernel, rfl⟩
theorem eX12_feed_99 : sl_D YX12_feed 99 (.i2b) 1 100 := ⟨by decide +kernel, rfl⟩
theorem eX12_feed_100 : sl_D YX12_feed 100 (.bastore) 1 101 := ⟨by decide +kernel, rfl⟩
theorem eX12_feed_101 : sl_D YX12_feed 101 (.aload_n 0) 1 102 := ⟨by decide +kernel, rfl⟩
theorem eX12_feed_102 : sl_D YX12_feed 102 (.dup) 1 103 := ⟨by decide +kernel, rfl⟩
theorem eX12_feed_103 : sl_D YX12_feed 103 (.getfield 302) 3 106 := ⟨by decide +kernel, rfl⟩
theorem eX12_feed_106 : sl_D YX12_feed 106 (.iconst 1) 1 107 := ⟨by decide +kernel, rfl⟩
theorem eX12_feed_107 : sl_D YX12_feed 107 (.iadd) 1 108 := ⟨by decide +kernel, rfl⟩
theorem eX12_feed_108 : sl_D YX12_feed 108 (.putfield 302) 3 111 := ⟨by decide +kernel, rfl⟩
theorem eX12_feed_111 : sl_D YX12_feed 111 (.iinc 6 1) 3 114 := ⟨by decide +kernel, rfl⟩
theorem eX12_feed_114 : sl_B YX12_feed 114 (fun o => .goto o) 117 23 := ⟨-91, by decide +kernel, rfl, by decide⟩
theorem eX12_feed_117 : sl_D YX12_feed 117 (.aload_n 0) 1 118 := ⟨by decide +kernel, rfl⟩
theorem eX12_feed_118 : sl_D YX12_feed 118 (.getfield 302) 3 121 := ⟨by decide +kernel, rfl⟩
theorem eX12_feed_121 : sl_D YX12_feed 121 (.ireturn) 1 122 := ⟨by decide +kernel, rfl⟩
theorem eX12_grammar_0 : sl_D YX12_grammar 0 (.aload_n 0) 1 1 := ⟨by decide +kernel, rfl⟩
theorem eX12_grammar_1 : sl_D YX12_grammar 1 (.iconst 0) 1 2 := ⟨by decide +kernel, rfl⟩
theorem eX12_grammar_2 : sl_D YX12_grammar 2 (.putfield 149) 3 5 := ⟨by decide +kernel, rfl⟩
theorem eX12_grammar_5 : sl_D YX12_grammar 5 (.iload_n 1) 1 6 := ⟨by decide +kernel, rfl⟩
theorem eX12_grammar_6 : sl_B YX12_grammar 6 (fun o => .ifCond .lt o) 9 17 := ⟨11, by decide +kernel, rfl, by decide⟩
theorem eX12_grammar_9 : sl_D YX12_grammar 9 (.iload_n 1) 1 10 := ⟨by decide +kernel, rfl⟩
theorem eX12_grammar_10 : sl_D YX12_grammar 10 (.aload_n 0) 1 11 := ⟨by decide +kernel, rfl⟩
theorem eX12_grammar_11 : sl_D YX12_grammar 11 (.getfield 302) 3 14 := ⟨by decide +kernel, rfl⟩
theorem eX12_grammar_14 : sl_B YX12_grammar 14 (fun o => .if_icmp .le o) 17 23 := ⟨9, by decide +kernel, rfl, by decide⟩
theorem eX12_grammar_17 : sl_D YX12_grammar 17 (.aload_n 0) 1 18 := ⟨by decide +kernel, rfl⟩
theorem eX12_grammar_18 : sl_D YX12_grammar 18 (.iconst 2) 1 19 := ⟨by decide +kernel, rfl⟩
theorem eX12_grammar_19 : sl_D YX12_grammar 19 (.invokevirtual 155) 3 22 := ⟨by decide +kernel, rfl⟩
theorem eX12_grammar_22 : sl_D YX12_grammar 22 (.ireturn) 1 23 := ⟨by decide +kernel, rfl⟩
theorem eX12_grammar_23 : sl_D YX12_grammar 23 (.aload_n 0) 1 24 := ⟨by decide +kernel, rfl⟩
theorem eX12_grammar_24 : sl_D YX12_grammar 24 (.iload_n 1) 1 25 := ⟨by decide +kernel, rfl⟩
theorem eX12_grammar_25 : sl_D YX12_grammar 25 (.putfield 162) 3 28 := ⟨by decide +kernel, rfl⟩
theorem eX12_grammar_28 : sl_D YX12_grammar 28 (.aload_n 0) 1 29 := ⟨by decide +kernel, rfl⟩
theorem eX12_grammar_29 : sl_D YX12_grammar 29 (.iconst 0) 1 30 := ⟨by decide +kernel, rfl⟩
theorem eX12_grammar_30 : sl_D YX12_grammar 30 (.putfield 302) 3 33 := ⟨by decide +kernel, rfl⟩
theorem eX12_grammar_33 : sl_D YX12_grammar 33 (.aload_n 0) 1 34 := ⟨by decide +kernel, rfl⟩
theorem eX12_grammar_34 : sl_D YX12_grammar 34 (.iconst 0) 1 35 := ⟨by decide +kernel, rfl⟩
theorem eX12_grammar_35 : sl_D YX12_grammar 35 (.putfield 168) 3 38 := ⟨by decide +kernel, rfl⟩
theorem eX12_grammar_38 : sl_D YX12_grammar 38 (.aload_n 0) 1 39 := ⟨by decide +kernel, rfl⟩
theorem eX12_grammar_39 : sl_D YX12_grammar 39 (.iconst 0) 1 40 := ⟨by decide +kernel, rfl⟩
theorem eX12_grammar_40 : sl_D YX12_grammar 40 (.putfield 165) 3 43 := ⟨by decide +kernel, rfl⟩
theorem eX12_grammar_43 : sl_D YX12_grammar 43 (.aload_n 0) 1 44 := ⟨by decide +kernel, rfl⟩
theorem eX12_grammar_44 : sl_D YX12_grammar 44 (.invokevirtual 305) 3 47 := ⟨by decide +kernel, rfl⟩
theorem eX12_grammar_47 : sl_D YX12_grammar 47 (.aload_n 0) 1 48 := ⟨by decide +kernel, rfl⟩
theorem eX12_grammar_48 : sl_D YX12_grammar 48 (.getfield 165) 3 51 := ⟨by decide +kernel, rfl⟩
theorem eX12_grammar_51 : sl_B YX12_grammar 51 (fun o => .ifCond .le o) 54 69 := ⟨18, by decide +kernel, rfl, by decide⟩
theorem eX12_grammar_54 : sl_D YX12_grammar 54 (.aload_n 0) 1 55 := ⟨by decide +kernel, rfl⟩
theorem eX12_grammar_55 : sl_D YX12_grammar 55 (.iconst 4) 1 56 := ⟨by decide +kernel, rfl⟩
theorem eX12_grammar_56 : sl_D YX12_grammar 56 (.putfield 152) 3 59 := ⟨by decide +kernel, rfl⟩
theorem eX12_grammar_59 : sl_D YX12_grammar 59 (.aload_n 0) 1 60 := ⟨by decide +kernel, rfl⟩
theorem eX12_grammar_60 : sl_D YX12_grammar 60 (.aload_n 0) 1 61 := ⟨by decide +kernel, rfl⟩
theorem eX12_grammar_61 : sl_D YX12_grammar 61 (.getfield 174) 3 64 := ⟨by decide +kernel, rfl⟩
theorem eX12_grammar_64 : sl_D YX12_grammar 64 (.putfield 9) 3 67 := ⟨by decide +kernel, rfl⟩
theorem eX12_grammar_67 : sl_D YX12_grammar 67 (.iconst (-1)) 1 68 := ⟨by decide +kernel, rfl⟩
theorem eX12_grammar_68 : sl_D YX12_grammar 68 (.ireturn) 1 69 := ⟨by decide +kernel, rfl⟩
theorem eX12_grammar_69 : sl_D YX12_grammar 69 (.aload_n 0) 1 70 := ⟨by decide +kernel, rfl⟩
theorem eX12_grammar_70 : sl_D YX12_grammar 70 (.invokevirtual 308) 3 73 := ⟨by decide +kernel, rfl⟩
theorem eX12_grammar_73 : sl_D YX12_grammar 73 (.aload_n 0) 1 74 := ⟨by decide +kernel, rfl⟩
theorem eX12_grammar_74 : sl_D YX12_grammar 74 (.aload_n 0) 1 75 := ⟨by decide +kernel, rfl⟩
theorem eX12_grammar_75 : sl_D YX12_grammar 75 (.getfield 311) 3 78 := ⟨by decide +kernel, rfl⟩
theorem eX12_grammar_78 : sl_D YX12_grammar 78 (.invokevirtual 314) 3 81 := ⟨by decide +kernel, rfl⟩
theorem eX12_grammar_81 : sl_D YX12_grammar 81 (.ireturn) 1 82 := ⟨by decide +kernel, rfl⟩
theorem eX12_takesOver_0 : sl_D YX12_takesOver 0 (.aload_n 0) 1 1 := ⟨by decide +kernel, rfl⟩
theorem eX12_takesOver_1 : sl_D YX12_takesOver 1 (.iconst 1) 1 2 := ⟨by decide +kernel, rfl⟩
theorem eX12_takesOver_2 : sl_D YX12_takesOver 2 (.putfield 317) 3 5 := ⟨by decide +kernel, rfl⟩
theorem eX12_takesOver_5 : sl_D YX12_takesOver 5 (.aload_n 0) 1 6 := ⟨by decide +kernel, rfl⟩
theorem eX12_takesOver_6 : sl_D YX12_takesOver 6 (.aload_n 0) 1 7 := ⟨by decide +kernel, rfl⟩
theorem eX12_takesOver_7 : sl_D YX12_takesOver 7 (.getfield 239) 3 10 := ⟨by decide +kernel, rfl⟩
theorem eX12_takesOver_10 : sl_D YX12_takesOver 10 (.putfield 311) 3 13 := ⟨by decide +kernel, rfl⟩
theorem eX12_takesOver_13 : sl_D YX12_takesOver 13 (.aload_n 0) 1 14 := ⟨by decide +kernel, rfl⟩
theorem eX12_takesOver_14 : sl_D YX12_takesOver 14 (.aload_n 0) 1 15 := ⟨by decide +kernel, rfl⟩
theorem eX12_takesOver_15 : sl_D YX12_takesOver 15 (.getfield 233) 3 18 := ⟨by decide +kernel, rfl⟩
theorem eX12_takesOver_18 : sl_D YX12_takesOver 18 (.putfield 321) 3 21 := ⟨by decide +kernel, rfl⟩
theorem eX12_takesOver_21 : sl_D YX12_takesOver 21 (.aload_n 0) 1 22 := ⟨by decide +kernel, rfl⟩
theorem eX12_takesOver_22 : sl_D YX12_takesOver 22 (.aload_n 0) 1 23 := ⟨by decide +kernel, rfl⟩
theorem eX12_takesOver_23 : sl_D YX12_takesOver 23 (.getfield 236) 3 26 := ⟨by decide +kernel, rfl⟩
theorem eX12_takesOver_26 : sl_D YX12_takesOver 26 (.putfield 324) 3 29 := ⟨by decide +kernel, rfl⟩
theorem eX12_takesOver_29 : sl_D YX12_takesOver 29 (.aload_n 0) 1 30 := ⟨by decide +kernel, rfl⟩
theorem eX12_takesOver_30 : sl_D YX12_takesOver 30 (.aload_n 0) 1 31 := ⟨by decide +kernel, rfl⟩
theorem eX12_takesOver_31 : sl_D YX12_takesOver 31 (.getfield 242) 3 34 := ⟨by decide +kernel, rfl⟩
theorem eX12_takesOver_34 : sl_D YX12_takesOver 34 (.putfield 327) 3 37 := ⟨by decide +kernel, rfl⟩
theorem eX12_takesOver_37 : sl_D YX12_takesOver 37 (.iconst 0) 1 38 := ⟨by decide +kernel, rfl⟩
theorem eX12_takesOver_38 : sl_D YX12_takesOver 38 (.istore_n 1) 1 39 := ⟨by decide +kernel, rfl⟩
theorem eX12_takesOver_39 : sl_D YX12_takesOver 39 (.iload_n 1) 1 40 := ⟨by decide +kernel, rfl⟩
theorem eX12_takesOver_40 : sl_D YX12_takesOver 40 (.bipush 12) 2 42 := ⟨by decide +kernel, rfl⟩
theorem eX12_takesOver_42 : sl_B YX12_takesOver 42 (fun o => .if_icmp .ge o) 45 87 := ⟨45, by decide +kernel, rfl, by decide⟩
theorem eX12_takesOver_45 : sl_D YX12_takesOver 45 (.aload_n 0) 1 46 := ⟨by decide +kernel, rfl⟩
theorem eX12_takesOver_46 : sl_D YX12_takesOver 46 (.getfield 13) 3 49 := ⟨by decide +kernel, rfl⟩
theorem eX12_takesOver_49 : sl_D YX12_takesOver 49 (.iload_n 1) 1 50 := ⟨by decide +kernel, rfl⟩
theorem eX12_takesOver_50 : sl_D YX12_takesOver 50 (.aload_n 0) 1 51 := ⟨by decide +kernel, rfl⟩
theorem eX12_takesOver_51 : sl_D YX12_takesOver 51 (.getfield 29) 3 54 := ⟨by decide +kernel, rfl⟩
theorem eX12_takesOver_54 : sl_D YX12_takesOver 54 (.iload_n 1) 1 55 := ⟨by decide +kernel, rfl⟩
theorem eX12_takesOver_55 : sl_D YX12_takesOver 55 (.iaload) 1 56 := ⟨by decide +kernel, rfl⟩
theorem eX12_takesOver_56 : sl_D YX12_takesOver 56 (.iastore) 1 57 := ⟨by decide +kernel, rfl⟩
theorem eX12_takesOver_57 : sl_D YX12_takesOver 57 (.aload_n 0) 1 58 := ⟨by decide +kernel, rfl⟩
theorem eX12_takesOver_58 : sl_D YX12_takesOver 58 (.getfield 20) 3 61 := ⟨by decide +kernel, rfl⟩
theorem eX12_takesOver_61 : sl_D YX12_takesOver 61 (.iload_n 1) 1 62 := ⟨by decide +kernel, rfl⟩
theorem eX12_takesOver_62 : sl_D YX12_takesOver 62 (.aload_n 0) 1 63 := ⟨by decide +kernel, rfl⟩
theorem eX12_takesOver_63 : sl_D YX12_takesOver 63 (.getfield 35) 3 66 := ⟨by decide +kernel, rfl⟩
theorem eX12_takesOver_66 : sl_D YX12_takesOver 66 (.iload_n 1) 1 67 := ⟨by decide +kernel, rfl⟩
theorem eX12_takesOver_67 : sl_D YX12_takesOver 67 (.iaload) 1 68 := ⟨by decide +kernel, rfl⟩
theorem eX12_takesOver_68 : sl_D YX12_takesOver 68 (.iastore) 1 69 := ⟨by decide +kernel, rfl⟩
theorem eX12_takesOver_69 : sl_D YX12_takesOver 69 (.aload_n 0) 1 70 := ⟨by decide +kernel, rfl⟩
theorem eX12_takesOver_70 : sl_D YX12_takesOver 70 (.getfield 23) 3 73 := ⟨by decide +kernel, rfl⟩
theorem eX12_takesOver_73 : sl_D YX12_takesOver 73 (.iload_n 1) 1 74 := ⟨by decide +kernel, rfl⟩
theorem eX12_takesOver_74 : sl_D YX12_takesOver 74 (.aload_n 0) 1 75 := ⟨by decide +kernel, rfl⟩
theorem eX12_takesOver_75 : sl_D YX12_takesOver 75 (.getfield 38) 3 78 := ⟨by decide +kernel, rfl⟩
theorem eX12_takesOver_78 : sl_D YX12_takesOver 78 (.iload_n 1) 1 79 := ⟨by decide +kernel, rfl⟩
theorem eX12_takesOver_79 : sl_D YX12_takesOver 79 (.iaload) 1 80 := ⟨by decide +kernel, rfl⟩
theorem eX12_takesOver_80 : sl_D YX12_takesOver 80 (.iastore) 1 81 := ⟨by decide +kernel, rfl⟩
theorem eX12_takesOver_81 : sl_D YX12_takesOver 81 (.iinc 1 1) 3 84 := ⟨by decide +kernel, rfl⟩
theorem eX12_takesOver_84 : sl_B YX12_takesOver 84 (fun o => .goto o) 87 39 := ⟨-45, by decide +kernel, rfl, by decide⟩
theorem eX12_takesOver_87 : sl_D YX12_takesOver 87 (.iconst 0) 1 88 := ⟨by decide +kernel, rfl⟩
theorem eX12_takesOver_88 : sl_D YX12_takesOver 88 (.istore_n 1) 1 89 := ⟨by decide +kernel, rfl⟩
theorem eX12_takesOver_89 : sl_D YX12_takesOver 89 (.iload_n 1) 1 90 := ⟨by decide +kernel, rfl⟩
theorem eX12_takesOver_90 : sl_D YX12_takesOver 90 (.bipush 60) 2 92 := ⟨by decide +kernel, rfl⟩
theorem eX12_takesOver_92 : sl_B YX12_takesOver 92 (fun o => .if_icmp .ge o) 95 113 := ⟨21, by decide +kernel, rfl, by decide⟩
theorem eX12_takesOver_95 : sl_D YX12_takesOver 95 (.aload_n 0) 1 96 := ⟨by decide +kernel, rfl⟩
theorem eX12_takesOver_96 : sl_D YX12_takesOver 96 (.getfield 17) 3 99 := ⟨by decide +kernel, rfl⟩
theorem eX12_takesOver_99 : sl_D YX12_takesOver 99 (.iload_n 1) 1 100 := ⟨by decide +kernel, rfl⟩
theorem eX12_takesOver_100 : sl_D YX12_takesOver 100 (.aload_n 0) 1 101 := ⟨by decide +kernel, rfl⟩
theorem eX12_takesOver_101 : sl_D YX12_takesOver 101 (.getfield 32) 3 104 := ⟨by decide +kernel, rfl⟩
theorem eX12_takesOver_104 : sl_D YX12_takesOver 104 (.iload_n 1) 1 105 := ⟨by decide +kernel, rfl⟩
theorem eX12_takesOver_105 : sl_D YX12_takesOver 105 (.iaload) 1 106 := ⟨by decide +kernel, rfl⟩
theorem eX12_takesOver_106 : sl_D YX12_takesOver 106 (.iastore) 1 107 := ⟨by decide +kernel, rfl⟩
theorem eX12_takesOver_107 : sl_D YX12_takesOver 107 (.iinc 1 1) 3 110 := ⟨by decide +kernel, rfl⟩
theorem eX12_takesOver_110 : sl_B YX12_takesOver 110 (fun o => .goto o) 113 89 := ⟨-21, by decide +kernel, rfl, by decide⟩
theorem eX12_takesOver_113 : sl_D YX12_takesOver 113 (.iconst 0) 1 114 := ⟨by decide +kernel, rfl⟩
theorem eX12_takesOver_114 : sl_D YX12_takesOver 114 (.istore_n 1) 1 115 := ⟨by decide +kernel, rfl⟩
theorem eX12_takesOver_115 : sl_D YX12_takesOver 115 (.iload_n 1) 1 116 := ⟨by decide +kernel, rfl⟩
theorem eX12_takesOver_116 : sl_D YX12_takesOver 116 (.bipush 11) 2 118 := ⟨by decide +kernel, rfl⟩
theorem eX12_takesOver_118 : sl_B YX12_takesOver 118 (fun o => .if_icmp .ge o) 121 139 := ⟨21, by decide +kernel, rfl, by decide⟩
theorem eX12_takesOver_121 : sl_D YX12_takesOver 121 (.aload_n 0) 1 122 := ⟨by decide +kernel, rfl⟩
theorem eX12_takesOver_122 : sl_D YX12_takesOver 122 (.getfield 26) 3 125 := ⟨by decide +kernel, rfl⟩
theorem eX12_takesOver_125 : sl_D YX12_takesOver 125 (.iload_n 1) 1 126 := ⟨by decide +kernel, rfl⟩
theorem eX12_takesOver_126 : sl_D YX12_takesOver 126 (.aload_n 0) 1 127 := ⟨by decide +kernel, rfl⟩
theorem eX12_takesOver_127 : sl_D YX12_takesOver 127 (.getfield 41) 3 130 := ⟨by decide +kernel, rfl⟩
theorem eX12_takesOver_130 : sl_D YX12_takesOver 130 (.iload_n 1) 1 131 := ⟨by decide +kernel, rfl⟩
theorem eX12_takesOver_131 : sl_D YX12_takesOver 131 (.iaload) 1 132 := ⟨by decide +kernel, rfl⟩
theorem eX12_takesOver_132 : sl_D YX12_takesOver 132 (.iastore) 1 133 := ⟨by decide +kernel, rfl⟩
theorem eX12_takesOver_133 : sl_D YX12_takesOver 133 (.iinc 1 1) 3 136 := ⟨by decide +kernel, rfl⟩
theorem eX12_takesOver_136 : sl_B YX12_takesOver 136 (fun o => .goto o) 139 115 := ⟨-21, by decide +kernel, rfl, by decide⟩
theorem eX12_takesOver_139 : sl_D YX12_takesOver 139 (.aload_n 0) 1 140 := ⟨by decide +kernel, rfl⟩
theorem eX12_takesOver_140 : sl_D YX12_takesOver 140 (.iconst 0) 1 141 := ⟨by decide +kernel, rfl⟩
theorem eX12_takesOver_141 : sl_D YX12_takesOver 141 (.putfield 330) 3 144 := ⟨by decide +kernel, rfl⟩
theorem eX12_takesOver_144 : sl_D YX12_takesOver 144 (.aload_n 0) 1 145 := ⟨by decide +kernel, rfl⟩
theorem eX12_takesOver_145 : sl_D YX12_takesOver 145 (.iconst 0) 1 146 := ⟨by decide +kernel, rfl⟩
theorem eX12_takesOver_146 : sl_D YX12_takesOver 146 (.putfield 333) 3 149 := ⟨by decide +kernel, rfl⟩
theorem eX12_takesOver_149 : sl_D YX12_takesOver 149 (.aload_n 0) 1 150 := ⟨by decide +kernel, rfl⟩
theorem eX12_takesOver_150 : sl_D YX12_takesOver 150 (.iconst 0) 1 151 := ⟨by decide +kernel, rfl⟩
theorem eX12_takesOver_151 : sl_D YX12_takesOver 151 (.putfield 336) 3 154 := ⟨by decide +kernel, rfl⟩
theorem eX12_takesOver_154 : sl_D YX12_takesOver 154 (.aload_n 0) 1 155 := ⟨by decide +kernel, rfl⟩
theorem eX12_takesOver_155 : sl_D YX12_takesOver 155 (.invokevirtual 339) 3 158 := ⟨by decide +kernel, rfl⟩
theorem eX12_takesOver_158 : sl_D YX12_takesOver 158 (.return_) 1 159 := ⟨by decide +kernel, rfl⟩
theorem eX12_fault_0 : sl_D YX12_fault 0 (.aload_n 0) 1 1 := ⟨by decide +kernel, rfl⟩
theorem eX12_fault_1 : sl_D YX12_fault 1 (.iconst 0) 1 2 := ⟨by decide +kernel, rfl⟩
theorem eX12_fault_2 : sl_D YX12_fault 2 (.putfield 149) 3 5 := ⟨by decide +kernel, rfl⟩
theorem eX12_fault_5 : sl_D YX12_fault 5 (.aload_n 0) 1 6 := ⟨by decide +kernel, rfl⟩
theorem eX12_fault_6 : sl_D YX12_fault 6 (.getfield 165) 3 9 := ⟨by decide +kernel, rfl⟩
theorem eX12_fault_9 : sl_D YX12_fault 9 (.ireturn) 1 10 := ⟨by decide +kernel, rfl⟩
theorem eX12_where_0 : sl_D YX12_where 0 (.aload_n 0) 1 1 := ⟨by decide +kernel, rfl⟩
theorem eX12_where_1 : sl_D YX12_where 1 (.iconst 0) 1 2 := ⟨by decide +kernel, rfl⟩
theorem eX12_where_2 : sl_D YX12_where 2 (.putfield 149) 3 5 := ⟨by decide +kernel, rfl⟩
theorem eX12_where_5 : sl_D YX12_where 5 (.aload_n 0) 1 6 := ⟨by decide +kernel, rfl⟩
theorem eX12_where_6 : sl_D YX12_where 6 (.getfield 9) 3 9 := ⟨by decide +kernel, rfl⟩
theorem eX12_where_9 : sl_D YX12_where 9 (.ireturn) 1 10 := ⟨by decide +kernel, rfl⟩
theorem eX12_about_0 : sl_D YX12_about 0 (.aload_n 0) 1 1 := ⟨by decide +kernel, rfl⟩
theorem eX12_about_1 : sl_D YX12_about 1 (.iconst 0) 1 2 := ⟨by decide +kernel, rfl⟩
theorem eX12_about_2 : sl_D YX12_about 2 (.putfield 149) 3 5 := ⟨by decide +kernel, rfl⟩
theorem eX12_about_5 : sl_D YX12_about 5 (.aload_n 0) 1 6 := ⟨by decide +kernel, rfl⟩
theorem eX12_about_6 : sl_D YX12_about 6 (.getfield 317) 3 9 := ⟨by decide +kernel, rfl⟩
theorem eX12_about_9 : sl_B YX12_about 9 (fun o => .ifCond .ne o) 12 18 := ⟨9, by decide +kernel, rfl, by decide⟩
theorem eX12_about_12 : sl_D YX12_about 12 (.aload_n 0) 1 13 := ⟨by decide +kernel, rfl⟩
theorem eX12_about_13 : sl_D YX12_about 13 (.iconst 1) 1 14 := ⟨by decide +kernel, rfl⟩
theorem eX12_about_14 : sl_D YX12_about 14 (.invokevirtual 155) 3 17 := ⟨by decide +kernel, rfl⟩
theorem eX12_about_17 : sl_D YX12_about 17 (.ireturn) 1 18 := ⟨by decide +kernel, rfl⟩
theorem eX12_about_18 : sl_D YX12_about 18 (.iload_n 1) 1 19 := ⟨by decide +kernel, rfl⟩
theorem eX12_about_19 : decode YX12_about.2.1 19 = .ok (.tableswitch 65 0 3 #[29, 38, 47, 56], 29) := by decide +kernel
theorem eX12_about_48 : sl_D YX12_about 48 (.aload_n 0) 1 49 := ⟨by decide +kernel, rfl⟩
theorem eX12_about_49 : sl_D YX12_about 49 (.aload_n 0) 1 50 := ⟨by decide +kernel, rfl⟩
theorem eX12_about_50 : sl_D YX12_about 50 (.getfield 327) 3 53 := ⟨by decide +kernel, rfl⟩
theorem eX12_about_53 : sl_D YX12_about 53 (.invokevirtual 314) 3 56 := ⟨by decide +kernel, rfl⟩
theorem eX12_about_56 : sl_D YX12_about 56 (.ireturn) 1 57 := ⟨by decide +kernel, rfl⟩
theorem eX12_about_57 : sl_D YX12_about 57 (.aload_n 0) 1 58 := ⟨by decide +kernel, rfl⟩
theorem eX12_about_58 : sl_D YX12_about 58 (.aload_n 0) 1 59 := ⟨by decide +kernel, rfl⟩
theorem eX12_about_59 : sl_D YX12_about 59 (.getfield 311) 3 62 := ⟨by decide +kernel, rfl⟩
theorem eX12_about_62 : sl_D YX12_about 62 (.invokevirtual 314) 3 65 := ⟨by decide +kernel, rfl⟩
theorem eX12_about_65 : sl_D YX12_about 65 (.ireturn) 1 66 := ⟨by decide +kernel, rfl⟩
theorem eX12_about_66 : sl_D YX12_about 66 (.aload_n 0) 1 67 := ⟨by decide +kernel, rfl⟩
theorem eX12_about_67 : sl_D YX12_about 67 (.aload_n 0) 1 68 := ⟨by decide +kernel, rfl⟩
theorem eX12_about_68 : sl_D YX12_about 68 (.getfield 321) 3 71 := ⟨by decide +kernel, rfl⟩
theorem eX12_about_71 : sl_D YX12_about 71 (.invokevirtual 314) 3 74 := ⟨by decide +kernel, rfl⟩
theorem eX12_about_74 : sl_D YX12_about 74 (.ireturn) 1 75 := ⟨by decide +kernel, rfl⟩
theorem eX12_about_75 : sl_D YX12_about 75 (.aload_n 0) 1 76 := ⟨by decide +kernel, rfl⟩
theorem eX12_about_76 : sl_D YX12_about 76 (.aload_n 0) 1 77 := ⟨by decide +kernel, rfl⟩
theorem eX12_about_77 : sl_D YX12_about 77 (.getfield 324) 3 80 := ⟨by decide +kernel, rfl⟩
theorem eX12_about_80 : sl_D YX12_about 80 (.invokevirtual 314) 3 83 := ⟨by decide +kernel, rfl⟩
theorem eX12_about_83 : sl_D YX12_about 83 (.ireturn) 1 84 := ⟨by decide +kernel, rfl⟩
theorem eX12_about_84 : sl_D YX12_about 84 (.aload_n 0) 1 85 := ⟨by decide +kernel, rfl⟩
theorem eX12_about_85 : sl_D YX12_about 85 (.iconst 1) 1 86 := ⟨by decide +kernel, rfl⟩
theorem eX12_about_86 : sl_D YX12_about 86 (.invokevirtual 155) 3 89 := ⟨by decide +kernel, rfl⟩
theorem eX12_about_89 : sl_D YX12_about 89 (.ireturn) 1 90 := ⟨by decide +kernel, rfl⟩
theorem eX12_isRule_0 : sl_D YX12_isRule 0 (.aload_n 0) 1 1 := ⟨by decide +kernel, rfl⟩
theorem eX12_isRule_1 : sl_D YX12_isRule 1 (.getfield 317) 3 4 := ⟨by decide +kernel, rfl⟩
theorem eX12_isRule_4 : sl_B YX12_isRule 4 (fun o => .ifCond .eq o) 7 25 := ⟨21, by decide +kernel, rfl, by decide⟩
theorem eX12_isRule_7 : sl_D YX12_isRule 7 (.iload_n 1) 1 8 := ⟨by decide +kernel, rfl⟩
theorem eX12_isRule_8 : sl_D YX12_isRule 8 (.iconst 0) 1 9 := ⟨by decide +kernel, rfl⟩
theorem eX12_isRule_9 : sl_D YX12_isRule 9 (.aload_n 0) 1 10 := ⟨by decide +kernel, rfl⟩
theorem eX12_isRule_10 : sl_D YX12_isRule 10 (.getfield 311) 3 13 := ⟨by decide +kernel, rfl⟩
theorem eX12_isRule_13 : sl_D YX12_isRule 13 (.iconst 1) 1 14 := ⟨by decide +kernel, rfl⟩
theorem eX12_isRule_14 : sl_D YX12_isRule 14 (.isub) 1 15 := ⟨by decide +kernel, rfl⟩
theorem eX12_isRule_15 : sl_D YX12_isRule 15 (.invokestatic 180) 3 18 := ⟨by decide +kernel, rfl⟩
theorem eX12_isRule_18 : sl_B YX12_isRule 18 (fun o => .ifCond .eq o) 21 25 := ⟨7, by decide +kernel, rfl, by decide⟩
theorem eX12_isRule_21 : sl_D YX12_isRule 21 (.iconst 1) 1 22 := ⟨by decide +kernel, rfl⟩
theorem eX12_isRule_22 : sl_B YX12_isRule 22 (fun o => .goto o) 25 26 := ⟨4, by decide +kernel, rfl, by decide⟩
theorem eX12_isRule_25 : sl_D YX12_isRule 25 (.iconst 0) 1 26 := ⟨by decide +kernel, rfl⟩
theorem eX12_isRule_26 : sl_D YX12_isRule 26 (.ireturn) 1 27 := ⟨by decide +kernel, rfl⟩
theorem eX12_serves_0 : sl_D YX12_serves 0 (.aload_n 0) 1 1 := ⟨by decide +kernel, rfl⟩
theorem eX12_serves_1 : sl_D YX12_serves 1 (.getfield 330) 3 4 := ⟨by decide +kernel, rfl⟩
theorem eX12_serves_4 : sl_D YX12_serves 4 (.iload_n 1) 1 5 := ⟨by decide +kernel, rfl⟩
theorem eX12_serves_5 : sl_D YX12_serves 5 (.invokestatic 342) 3 8 := ⟨by decide +kernel, rfl⟩
theorem eX12_serves_8 : sl_B YX12_serves 8 (fun o => .ifCond .ne o) 11 15 := ⟨7, by decide +kernel, rfl, by decide⟩
theorem eX12_serves_11 : sl_D YX12_serves 11 (.iconst 1) 1 12 := ⟨by decide +kernel, rfl⟩
theorem eX12_serves_12 : sl_B YX12_serves 12 (fun o => .goto o) 15 16 := ⟨4, by decide +kernel, rfl, by decide⟩
theorem eX12_serves_15 : sl_D YX12_serves 15 (.iconst 0) 1 16 := ⟨by decide +kernel, rfl⟩
theorem eX12_serves_16 : sl_D YX12_serves 16 (.ireturn) 1 17 := ⟨by decide +kernel, rfl⟩
theorem eX12_at_0 : sl_D YX12_at 0 (.aload_n 0) 1 1 := ⟨by decide +kernel, rfl⟩
theorem eX12_at_1 : sl_D YX12_at 1 (.getfield 17) 3 4 := ⟨by decide +kernel, rfl⟩
theorem eX12_at_4 : sl_D YX12_at 4 (.iconst 5) 1 5 := ⟨by decide +kernel, rfl⟩
theorem eX12_at_5 : sl_D YX12_at 5 (.iload_n 1) 1 6 := ⟨by decide +kernel, rfl⟩
theorem eX12_at_6 : sl_D YX12_at 6 (.imul) 1 7 := ⟨by decide +kernel, rfl⟩
theorem eX12_at_7 : sl_D YX12_at 7 (.iload_n 2) 1 8 := ⟨by decide +kernel, rfl⟩
theorem eX12_at_8 : sl_D YX12_at 8 (.iadd) 1 9 := ⟨by decide +kernel, rfl⟩
theorem eX12_at_9 : sl_D YX12_at 9 (.iaload) 1 10 := ⟨by decide +kernel, rfl⟩
theorem eX12_at_10 : sl_D YX12_at 10 (.ireturn) 1 11 := ⟨by decide +kernel, rfl⟩
theorem eX12_rule_0 : sl_D YX12_rule 0 (.aload_n 0) 1 1 := ⟨by decide +kernel, rfl⟩
theorem eX12_rule_1 : sl_D YX12_rule 1 (.iconst 0) 1 2 := ⟨by decide +kernel, rfl⟩
theorem eX12_rule_2 : sl_D YX12_rule 2 (.putfield 149) 3 5 := ⟨by decide +kernel, rfl⟩
theorem eX12_rule_5 : sl_D YX12_rule 5 (.aload_n 0) 1 6 := ⟨by decide +kernel, rfl⟩
theorem eX12_rule_6 : sl_D YX12_rule 6 (.iload_n 1) 1 7 := ⟨by decide +kernel, rfl⟩
theorem eX12_rule_7 : sl_D YX12_rule 7 (.invokevirtual 345) 3 10 := ⟨by decide +kernel, rfl⟩
theorem eX12_rule_10 : sl_B YX12_rule 10 (fun o => .ifCond .ne o) 13 19 := ⟨9, by decide +kernel, rfl, by decide⟩
theorem eX12_rule_13 : sl_D YX12_rule 13 (.aload_n 0) 1 14 := ⟨by decide +kernel, rfl⟩
theorem eX12_rule_14 : sl_D YX12_rule 14 (.iconst 1) 1 15 := ⟨by decide +kernel, rfl⟩
theorem eX12_rule_15 : sl_D YX12_rule 15 (.invokevirtual 155) 3 18 := ⟨by decide +kernel, rfl⟩
theorem eX12_rule_18 : sl_D YX12_rule 18 (.ireturn) 1 19 := ⟨by decide +kernel, rfl⟩
theorem eX12_rule_19 : sl_D YX12_rule 19 (.iload_n 2) 1 20 := ⟨by decide +kernel, rfl⟩
theorem eX12_rule_20 : decode YX12_rule.2.1 20 = .ok (.tableswitch 83 0 3 #[32, 43, 54, 65], 32) := by decide +kernel
theorem eX12_rule_52 : sl_D YX12_rule 52 (.aload_n 0) 1 53 := ⟨by decide +kernel, rfl⟩
theorem eX12_rule_53 : sl_D YX12_rule 53 (.aload_n 0) 1 54 := ⟨by decide +kernel, rfl⟩
theorem eX12_rule_54 : sl_D YX12_rule 54 (.getfield 13) 3 57 := ⟨by decide +kernel, rfl⟩
theorem eX12_rule_57 : sl_D YX12_rule 57 (.iload_n 1) 1 58 := ⟨by decide +kernel, rfl⟩
theorem eX12_rule_58 : sl_D YX12_rule 58 (.iaload) 1 59 := ⟨by decide +kernel, rfl⟩
theorem eX12_rule_59 : sl_D YX12_rule 59 (.invokevirtual 314) 3 62 := ⟨by decide +kernel, rfl⟩
theorem eX12_rule_62 : sl_D YX12_rule 62 (.ireturn) 1 63 := ⟨by decide +kernel, rfl⟩
theorem eX12_rule_63 : sl_D YX12_rule 63 (.aload_n 0) 1 64 := ⟨by decide +kernel, rfl⟩
theorem eX12_rule_64 : sl_D YX12_rule 64 (.aload_n 0) 1 65 := ⟨by decide +kernel, rfl⟩
theorem eX12_rule_65 : sl_D YX12_rule 65 (.getfield 20) 3 68 := ⟨by decide +kernel, rfl⟩
theorem eX12_rule_68 : sl_D YX12_rule 68 (.iload_n 1) 1 69 := ⟨by decide +kernel, rfl⟩
theorem eX12_rule_69 : sl_D YX12_rule 69 (.iaload) 1 70 := ⟨by decide +kernel, rfl⟩
theorem eX12_rule_70 : sl_D YX12_rule 70 (.invokevirtual 314) 3 73 := ⟨by decide +kernel, rfl⟩
theorem eX12_rule_73 : sl_D YX12_rule 73 (.ireturn) 1 74 := ⟨by decide +kernel, rfl⟩
theorem eX12_rule_74 : sl_D YX12_rule 74 (.aload_n 0) 1 75 := ⟨by decide +kernel, rfl⟩
theorem eX12_rule_75 : sl_D YX12_rule 75 (.aload_n 0) 1 76 := ⟨by decide +kernel, rfl⟩
theorem eX12_rule_76 : sl_D YX12_rule 76 (.getfield 23) 3 79 := ⟨by decide +kernel, rfl⟩
theorem eX12_rule_79 : sl_D YX12_rule 79 (.iload_n 1) 1 80 := ⟨by decide +kernel, rfl⟩
theorem eX12_rule_80 : sl_D YX12_rule 80 (.iaload) 1 81 := ⟨by decide +kernel, rfl⟩
theorem eX12_rule_81 : sl_D YX12_rule 81 (.invokevirtual 314) 3 84 := ⟨by decide +kernel, rfl⟩
theorem eX12_rule_84 : sl_D YX12_rule 84 (.ireturn) 1 85 := ⟨by decide +kernel, rfl⟩
theorem eX12_rule_85 : sl_D YX12_rule 85 (.aload_n 0) 1 86 := ⟨by decide +kernel, rfl⟩
theorem eX12_rule_86 : sl_D YX12_rule 86 (.aload_n 0) 1 87 := ⟨by decide +kernel, rfl⟩
theorem eX12_rule_87 : sl_D YX12_rule 87 (.iload_n 1) 1 88 := ⟨by decide +kernel, rfl⟩
theorem eX12_rule_88 : sl_D YX12_rule 88 (.invokevirtual 348) 3 91 := ⟨by decide +kernel, rfl⟩
theorem eX12_rule_91 : sl_B YX12_rule 91 (fun o => .ifCond .eq o) 94 98 := ⟨7, by decide +kernel, rfl, by decide⟩
theorem eX12_rule_94 : sl_D YX12_rule 94 (.iconst 0) 1 95 := ⟨by decide +kernel, rfl⟩
theorem eX12_rule_95 : sl_B YX12_rule 95 (fun o => .goto o) 98 99 := ⟨4, by decide +kernel, rfl, by decide⟩
theorem eX12_rule_98 : sl_D YX12_rule 98 (.iconst 1) 1 99 := ⟨by decide +kernel, rfl⟩
theorem eX12_rule_99 : sl_D YX12_rule 99 (.invokevirtual 314) 3 102 := ⟨by decide +kernel, rfl⟩
theorem eX12_rule_102 : sl_D YX12_rule 102 (.ireturn) 1 103 := ⟨by decide +kernel, rfl⟩
theorem eX12_rule_103 : sl_D YX12_rule 103 (.aload_n 0) 1 104 := ⟨by decide +kernel, rfl⟩
theorem eX12_rule_104 : sl_D YX12_rule 104 (.iconst 1) 1 105 := ⟨by decide +kernel, rfl⟩
theorem eX12_rule_105 : sl_D YX12_rule 105 (.invokevirtual 155) 3 108 := ⟨by decide +kernel, rfl⟩
theorem eX12_rule_108 : sl_D YX12_rule 108 (.ireturn) 1 109 := ⟨by decide +kernel, rfl⟩
theorem eX12_item_0 : sl_D YX12_item 0 (.aload_n 0) 1 1 := ⟨by decide +kernel, rfl⟩
theorem eX12_item_1 : sl_D YX12_item 1 (.iconst 0) 1 2 := ⟨by decide +kernel, rfl⟩
theorem eX12_item_2 : sl_D YX12_item 2 (.putfield 149) 3 5 := ⟨by decide +kernel, rfl⟩
theorem eX12_item_5 : sl_D YX12_item 5 (.aload_n 0) 1 6 := ⟨by decide +kernel, rfl⟩
theorem eX12_item_6 : sl_D YX12_item 6 (.iload_n 1) 1 7 := ⟨by decide +kernel, rfl⟩
theorem eX12_item_7 : sl_D YX12_item 7 (.invokevirtual 345) 3 10 := ⟨by decide +kernel, rfl⟩
theorem eX12_item_10 : sl_B YX12_item 10 (fun o => .ifCond .eq o) 13 42 := ⟨32, by decide +kernel, rfl, by decide⟩
theorem eX12_item_13 : sl_D YX12_item 13 (.iload_n 2) 1 14 := ⟨by decide +kernel, rfl⟩
theorem eX12_item_14 : sl_D YX12_item 14 (.iconst 0) 1 15 := ⟨by decide +kernel, rfl⟩
theorem eX12_item_15 : sl_D YX12_item 15 (.aload_n 0) 1 16 := ⟨by decide +kernel, rfl⟩
theorem eX12_item_16 : sl_D YX12_item 16 (.getfield 20) 3 19 := ⟨by decide +kernel, rfl⟩
theorem eX12_item_19 : sl_D YX12_item 19 (.iload_n 1) 1 20 := ⟨by decide +kernel, rfl⟩
theorem eX12_item_20 : sl_D YX12_item 20 (.iaload) 1 21 := ⟨by decide +kernel, rfl⟩
theorem eX12_item_21 : sl_D YX12_item 21 (.iconst 1) 1 22 := ⟨by decide +kernel, rfl⟩
theorem eX12_item_22 : sl_D YX12_item 22 (.isub) 1 23 := ⟨by decide +kernel, rfl⟩
theorem eX12_item_23 : sl_D YX12_item 23 (.invokestatic 180) 3 26 := ⟨by decide +kernel, rfl⟩
theorem eX12_item_26 : sl_B YX12_item 26 (fun o => .ifCond .eq o) 29 42 := ⟨16, by decide +kernel, rfl, by decide⟩
theorem eX12_item_29 : sl_D YX12_item 29 (.aload_n 0) 1 30 := ⟨by decide +kernel, rfl⟩
theorem eX12_item_30 : sl_D YX12_item 30 (.aload_n 0) 1 31 := ⟨by decide +kernel, rfl⟩
theorem eX12_item_31 : sl_D YX12_item 31 (.iload_n 1) 1 32 := ⟨by decide +kernel, rfl⟩
theorem eX12_item_32 : sl_D YX12_item 32 (.iload_n 2) 1 33 := ⟨by decide +kernel, rfl⟩
theorem eX12_item_33 : sl_D YX12_item 33 (.invokevirtual 351) 3 36 := ⟨by decide +kernel, rfl⟩
theorem eX12_item_36 : sl_D YX12_item 36 (.invokevirtual 314) 3 39 := ⟨by decide +kernel, rfl⟩
theorem eX12_item_39 : sl_B YX12_item 39 (fun o => .goto o) 42 47 := ⟨8, by decide +kernel, rfl, by decide⟩
theorem eX12_item_42 : sl_D YX12_item 42 (.aload_n 0) 1 43 := ⟨by decide +kernel, rfl⟩
theorem eX12_item_43 : sl_D YX12_item 43 (.iconst 1) 1 44 := ⟨by decide +kernel, rfl⟩
theorem eX12_item_44 : sl_D YX12_item 44 (.invokevirtual 155) 3 47 := ⟨by decide +kernel, rfl⟩
theorem eX12_item_47 : sl_D YX12_item 47 (.ireturn) 1 48 := ⟨by decide +kernel, rfl⟩
theorem eX12_isTerminal_0 : sl_D YX12_isTerminal 0 (.aload_n 0) 1 1 := ⟨by decide +kernel, rfl⟩
theorem eX12_isTerminal_1 : sl_D YX12_isTerminal 1 (.getfield 317) 3 4 := ⟨by decide +kernel, rfl⟩
theorem eX12_isTerminal_4 : sl_B YX12_isTerminal 4 (fun o => .ifCond .eq o) 7 23 := ⟨19, by decide +kernel, rfl, by decide⟩
theorem eX12_isTerminal_7 : sl_D YX12_isTerminal 7 (.iload_n 1) 1 8 := ⟨by decide +kernel, rfl⟩
theorem eX12_isTerminal_8 : sl_D YX12_isTerminal 8 (.iconst 0) 1 9 := ⟨by decide +kernel, rfl⟩
theorem eX12_isTerminal_9 : sl_D YX12_isTerminal 9 (.aload_n 0) 1 10 := ⟨by decide +kernel, rfl⟩
theorem eX12_isTerminal_10 : sl_D YX12_isTerminal 10 (.getfield 324) 3 13 := ⟨by decide +kernel, rfl⟩
theorem eX12_isTerminal_13 : sl_D YX12_isTerminal 13 (.invokestatic 180) 3 16 := ⟨by decide +kernel, rfl⟩
theorem eX12_isTerminal_16 : sl_B YX12_isTerminal 16 (fun o => .ifCond .eq o) 19 23 := ⟨7, by decide +kernel, rfl, by decide⟩
theorem eX12_isTerminal_19 : sl_D YX12_isTerminal 19 (.iconst 1) 1 20 := ⟨by decide +kernel, rfl⟩
theorem eX12_isTerminal_20 : sl_B YX12_isTerminal 20 (fun o => .goto o) 23 24 := ⟨4, by decide +kernel, rfl, by decide⟩
theorem eX12_isTerminal_23 : sl_D YX12_isTerminal 23 (.iconst 0) 1 24 := ⟨by decide +kernel, rfl⟩
theorem eX12_isTerminal_24 : sl_D YX12_isTerminal 24 (.ireturn) 1 25 := ⟨by decide +kernel, rfl⟩
theorem eX12_sign_0 : sl_D YX12_sign 0 (.aload_n 0) 1 1 := ⟨by decide +kernel, rfl⟩
theorem eX12_sign_1 : sl_D YX12_sign 1 (.iconst 0) 1 2 := ⟨by decide +kernel, rfl⟩
theorem eX12_sign_2 : sl_D YX12_sign 2 (.putfield 149) 3 5 := ⟨by decide +kernel, rfl⟩
theorem eX12_sign_5 : sl_D YX12_sign 5 (.aload_n 0) 1 6 := ⟨by decide +kernel, rfl⟩
theorem eX12_sign_6 : sl_D YX12_sign 6 (.iload_n 1) 1 7 := ⟨by decide +kernel, rfl⟩
theorem eX12_sign_7 : sl_D YX12_sign 7 (.invokevirtual 354) 3 10 := ⟨by decide +kernel, rfl⟩
theorem eX12_sign_10 : sl_B YX12_sign 10 (fun o => .ifCond .ne o) 13 19 := ⟨9, by decide +kernel, rfl, by decide⟩
theorem eX12_sign_13 : sl_D YX12_sign 13 (.aload_n 0) 1 14 := ⟨by decide +kernel, rfl⟩
theorem eX12_sign_14 : sl_D YX12_sign 14 (.iconst 1) 1 15 := ⟨by decide +kernel, rfl⟩
theorem eX12_sign_15 : sl_D YX12_sign 15 (.invokevirtual 155) 3 18 := ⟨by decide +kernel, rfl⟩
theorem eX12_sign_18 : sl_D YX12_sign 18 (.ireturn) 1 19 := ⟨by decide +kernel, rfl⟩
theorem eX12_sign_19 : sl_D YX12_sign 19 (.aload_n 0) 1 20 := ⟨by decide +kernel, rfl⟩
theorem eX12_sign_20 : sl_D YX12_sign 20 (.iload_n 1) 1 21 := ⟨by decide +kernel, rfl⟩
theorem eX12_sign_21 : sl_D YX12_sign 21 (.aload_n 0) 1 22 := ⟨by decide +kernel, rfl⟩
theorem eX12_sign_22 : sl_D YX12_sign 22 (.getfield 324) 3 25 := ⟨by decide +kernel, rfl⟩
theorem eX12_sign_25 : sl_B YX12_sign 25 (fun o => .if_icmp .ne o) 28 33 := ⟨8, by decide +kernel, rfl, by decide⟩
theorem eX12_sign_28 : sl_D YX12_sign 28 (.bipush (-2)) 2 30 := ⟨by decide +kernel, rfl⟩
theorem eX12_sign_30 : sl_B YX12_sign 30 (fun o => .goto o) 33 39 := ⟨9, by decide +kernel, rfl, by decide⟩
theorem eX12_sign_33 : sl_D YX12_sign 33 (.aload_n 0) 1 34 := ⟨by decide +kernel, rfl⟩
theorem eX12_sign_34 : sl_D YX12_sign 34 (.getfield 26) 3 37 := ⟨by decide +kernel, rfl⟩
theorem eX12_sign_37 : sl_D YX12_sign 37 (.iload_n 1) 1 38 := ⟨by decide +kernel, rfl⟩
theorem eX12_sign_38 : sl_D YX12_sign 38 (.iaload) 1 39 := ⟨by decide +kernel, rfl⟩
theorem eX12_sign_39 : sl_D YX12_sign 39 (.invokevirtual 314) 3 42 := ⟨by decide +kernel, rfl⟩
theorem eX12_sign_42 : sl_D YX12_sign 42 (.ireturn) 1 43 := ⟨by decide +kernel, rfl⟩
theorem eX12_relationOf_0 : sl_D YX12_relationOf 0 (.aload_n 0) 1 1 := ⟨by decide +kernel, rfl⟩
theorem eX12_relationOf_1 : sl_D YX12_relationOf 1 (.getfield 64) 3 4 := ⟨by decide +kernel, rfl⟩
theorem eX12_relationOf_4 : sl_D YX12_relationOf 4 (.bipush 12) 2 6 := ⟨by decide +kernel, rfl⟩
theorem eX12_relationOf_6 : sl_D YX12_relationOf 6 (.iload_n 1) 1 7 := ⟨by decide +kernel, rfl⟩
theorem eX12_relationOf_7 : sl_D YX12_relationOf 7 (.imul) 1 8 := ⟨by decide +kernel, rfl⟩
theorem eX12_relationOf_8 : sl_D YX12_relationOf 8 (.iload_n 2) 1 9 := ⟨by decide +kernel, rfl⟩
theorem eX12_relationOf_9 : sl_D YX12_relationOf 9 (.iadd) 1 10 := ⟨by decide +kernel, rfl⟩
theorem eX12_relationOf_10 : sl_D YX12_relationOf 10 (.iaload) 1 11 := ⟨by decide +kernel, rfl⟩
theorem eX12_relationOf_11 : sl_D YX12_relationOf 11 (.ireturn) 1 12 := ⟨by decide +kernel, rfl⟩
theorem eX12_lays_0 : sl_D YX12_lays 0 (.iconst 0) 1 1 := ⟨by decide +kernel, rfl⟩
theorem eX12_lays_1 : sl_D YX12_lays 1 (.istore_n 1) 1 2 := ⟨by decide +kernel, rfl⟩
theorem eX12_lays_2 : sl_D YX12_lays 2 (.iload_n 1) 1 3 := ⟨by decide +kernel, rfl⟩
theorem eX12_lays_3 : sl_D YX12_lays 3 (.bipush 6) 2 5 := ⟨by decide +kernel, rfl⟩
theorem eX12_lays_5 : sl_B YX12_lays 5 (fun o => .if_icmp .ge o) 8 28 := ⟨23, by decide +kernel, rfl, by decide⟩
theorem eX12_lays_8 : sl_D YX12_lays 8 (.aload_n 0) 1 9 := ⟨by decide +kernel, rfl⟩
theorem eX12_lays_9 : sl_D YX12_lays 9 (.getfield 58) 3 12 := ⟨by decide +kernel, rfl⟩
theorem eX12_lays_12 : sl_D YX12_lays 12 (.iload_n 1) 1 13 := ⟨by decide +kernel, rfl⟩
theorem eX12_lays_13 : sl_D YX12_lays 13 (.iconst 0) 1 14 := ⟨by decide +kernel, rfl⟩
theorem eX12_lays_14 : sl_D YX12_lays 14 (.iastore) 1 15 := ⟨by decide +kernel, rfl⟩
theorem eX12_lays_15 : sl_D YX12_lays 15 (.aload_n 0) 1 16 := ⟨by decide +kernel, rfl⟩
theorem eX12_lays_16 : sl_D YX12_lays 16 (.getfield 61) 3 19 := ⟨by decide +kernel, rfl⟩
theorem eX12_lays_19 : sl_D YX12_lays 19 (.iload_n 1) 1 20 := ⟨by decide +kernel, rfl⟩
theorem eX12_lays_20 : sl_D YX12_lays 20 (.iconst 0) 1 21 := ⟨by decide +kernel, rfl⟩
theorem eX12_lays_21 : sl_D YX12_lays 21 (.iastore) 1 22 := ⟨by decide +kernel, rfl⟩
theorem eX12_lays_22 : sl_D YX12_lays 22 (.iinc 1 1) 3 25 := ⟨by decide +kernel, rfl⟩
theorem eX12_lays_25 : sl_B YX12_lays 25 (fun o => .goto o) 28 2 := ⟨-23, by decide +kernel, rfl, by decide⟩
theorem eX12_lays_28 : sl_D YX12_lays 28 (.iconst 1) 1 29 := ⟨by decide +kernel, rfl⟩
theorem eX12_lays_29 : sl_D YX12_lays 29 (.istore_n 1) 1 30 := ⟨by decide +kernel, rfl⟩
theorem eX12_lays_30 : sl_D YX12_lays 30 (.iload_n 1) 1 31 := ⟨by decide +kernel, rfl⟩
theorem eX12_lays_31 : sl_B YX12_lays 31 (fun o => .ifCond .eq o) 34 106 := ⟨75, by decide +kernel, rfl, by decide⟩
theorem eX12_lays_34 : sl_D YX12_lays 34 (.iconst 0) 1 35 := ⟨by decide +kernel, rfl⟩
theorem eX12_lays_35 : sl_D YX12_lays 35 (.istore_n 1) 1 36 := ⟨by decide +kernel, rfl⟩
theorem eX12_lays_36 : sl_D YX12_lays 36 (.iconst 0) 1 37 := ⟨by decide +kernel, rfl⟩
theorem eX12_lays_37 : sl_D YX12_lays 37 (.istore_n 2) 1 38 := ⟨by decide +kernel, rfl⟩
theorem eX12_lays_38 : sl_D YX12_lays 38 (.iload_n 2) 1 39 := ⟨by decide +kernel, rfl⟩
theorem eX12_lays_39 : sl_D YX12_lays 39 (.aload_n 0) 1 40 := ⟨by decide +kernel, rfl⟩
theorem eX12_lays_40 : sl_D YX12_lays 40 (.getfield 311) 3 43 := ⟨by decide +kernel, rfl⟩
theorem eX12_lays_43 : sl_B YX12_lays 43 (fun o => .if_icmp .ge o) 46 103 := ⟨60, by decide +kernel, rfl, by decide⟩
theorem eX12_lays_46 : sl_D YX12_lays 46 (.aload_n 0) 1 47 := ⟨by decide +kernel, rfl⟩
theorem eX12_lays_47 : sl_D YX12_lays 47 (.iload_n 2) 1 48 := ⟨by decide +kernel, rfl⟩
theorem eX12_lays_48 : sl_D YX12_lays 48 (.invokevirtual 348) 3 51 := ⟨by decide +kernel, rfl⟩
theorem eX12_lays_51 : sl_B YX12_lays 51 (fun o => .ifCond .eq o) 54 87 := ⟨36, by decide +kernel, rfl, by decide⟩
theorem eX12_lays_54 : sl_D YX12_lays 54 (.aload_n 0) 1 55 := ⟨by decide +kernel, rfl⟩
theorem eX12_lays_55 : sl_D YX12_lays 55 (.iload_n 2) 1 56 := ⟨by decide +kernel, rfl⟩
theorem eX12_lays_56 : sl_D YX12_lays 56 (.aload_n 0) 1 57 := ⟨by decide +kernel, rfl⟩
theorem eX12_lays_57 : sl_D YX12_lays 57 (.getfield 58) 3 60 := ⟨by decide +kernel, rfl⟩
theorem eX12_lays_60 : sl_D YX12_lays 60 (.iconst 0) 1 61 := ⟨by decide +kernel, rfl⟩
theorem eX12_lays_61 : sl_D YX12_lays 61 (.iconst 1) 1 62 := ⟨by decide +kernel, rfl⟩
theorem eX12_lays_62 : sl_D YX12_lays 62 (.invokevirtual 357) 3 65 := ⟨by decide +kernel, rfl⟩
theorem eX12_lays_65 : sl_D YX12_lays 65 (.aload_n 0) 1 66 := ⟨by decide +kernel, rfl⟩
theorem eX12_lays_66 : sl_D YX12_lays 66 (.iload_n 2) 1 67 := ⟨by decide +kernel, rfl⟩
theorem eX12_lays_67 : sl_D YX12_lays 67 (.aload_n 0) 1 68 := ⟨by decide +kernel, rfl⟩
theorem eX12_lays_68 : sl_D YX12_lays 68 (.getfield 61) 3 71 := ⟨by decide +kernel, rfl⟩
theorem eX12_lays_71 : sl_D YX12_lays 71 (.aload_n 0) 1 72 := ⟨by decide +kernel, rfl⟩
theorem eX12_lays_72 : sl_D YX12_lays 72 (.getfield 20) 3 75 := ⟨by decide +kernel, rfl⟩
theorem eX12_lays_75 : sl_D YX12_lays 75 (.iload_n 2) 1 76 := ⟨by decide +kernel, rfl⟩
theorem eX12_lays_76 : sl_D YX12_lays 76 (.iaload) 1 77 := ⟨by decide +kernel, rfl⟩
theorem eX12_lays_77 : sl_D YX12_lays 77 (.iconst 1) 1 78 := ⟨by decide +kernel, rfl⟩
theorem eX12_lays_78 : sl_D YX12_lays 78 (.isub) 1 79 := ⟨by decide +kernel, rfl⟩
theorem eX12_lays_79 : sl_D YX12_lays 79 (.iconst (-1)) 1 80 := ⟨by decide +kernel, rfl⟩
theorem eX12_lays_80 : sl_D YX12_lays 80 (.invokevirtual 357) 3 83 := ⟨by decide +kernel, rfl⟩
theorem eX12_lays_83 : sl_D YX12_lays 83 (.ior) 1 84 := ⟨by decide +kernel, rfl⟩
theorem eX12_lays_84 : sl_B YX12_lays 84 (fun o => .ifCond .ne o) 87 91 := ⟨7, by decide +kernel, rfl, by decide⟩
theorem eX12_lays_87 : sl_D YX12_lays 87 (.iload_n 1) 1 88 := ⟨by decide +kernel, rfl⟩
theorem eX12_lays_88 : sl_B YX12_lays 88 (fun o => .ifCond .eq o) 91 95 := ⟨7, by decide +kernel, rfl, by decide⟩
theorem eX12_lays_91 : sl_D YX12_lays 91 (.iconst 1) 1 92 := ⟨by decide +kernel, rfl⟩
theorem eX12_lays_92 : sl_B YX12_lays 92 (fun o => .goto o) 95 96 := ⟨4, by decide +kernel, rfl, by decide⟩
theorem eX12_lays_95 : sl_D YX12_lays 95 (.iconst 0) 1 96 := ⟨by decide +kernel, rfl⟩
theorem eX12_lays_96 : sl_D YX12_lays 96 (.istore_n 1) 1 97 := ⟨by decide +kernel, rfl⟩
theorem eX12_lays_97 : sl_D YX12_lays 97 (.iinc 2 1) 3 100 := ⟨by decide +kernel, rfl⟩
theorem eX12_lays_100 : sl_B YX12_lays 100 (fun o => .goto o) 103 38 := ⟨-62, by decide +kernel, rfl, by decide⟩
theorem eX12_lays_103 : sl_B YX12_lays 103 (fun o => .goto o) 106 30 := ⟨-73, by decide +kernel, rfl, by decide⟩
theorem eX12_lays_106 : sl_D YX12_lays 106 (.iconst 0) 1 107 := ⟨by decide +kernel, rfl⟩
theorem eX12_lays_107 : sl_D YX12_lays 107 (.istore_n 2) 1 108 := ⟨by decide +kernel, rfl⟩
theorem eX12_lays_108 : sl_D YX12_lays 108 (.iload_n 2) 1 109 := ⟨by decide +kernel, rfl⟩
theorem eX12_lays_109 : sl_D YX12_lays 109 (.aload_n 0) 1 110 := ⟨by decide +kernel, rfl⟩
theorem eX12_lays_110 : sl_D YX12_lays 110 (.getfield 64) 3 113 := ⟨by decide +kernel, rfl⟩
theorem eX12_lays_113 : sl_D YX12_lays 113 (.arraylength) 1 114 := ⟨by decide +kernel, rfl⟩
theorem eX12_lays_114 : sl_B YX12_lays 114 (fun o => .if_icmp .ge o) 117 130 := ⟨16, by decide +kernel, rfl, by decide⟩
theorem eX12_lays_117 : sl_D YX12_lays 117 (.aload_n 0) 1 118 := ⟨by decide +kernel, rfl⟩
theorem eX12_lays_118 : sl_D YX12_lays 118 (.getfield 64) 3 121 := ⟨by decide +kernel, rfl⟩
theorem eX12_lays_121 : sl_D YX12_lays 121 (.iload_n 2) 1 122 := ⟨by decide +kernel, rfl⟩
theorem eX12_lays_122 : sl_D YX12_lays 122 (.iconst 0) 1 123 := ⟨by decide +kernel, rfl⟩
theorem eX12_lays_123 : sl_D YX12_lays 123 (.iastore) 1 124 := ⟨by decide +kernel, rfl⟩
theorem eX12_lays_124 : sl_D YX12_lays 124 (.iinc 2 1) 3 127 := ⟨by decide +kernel, rfl⟩
theorem eX12_lays_127 : sl_B YX12_lays 127 (fun o => .goto o) 130 108 := ⟨-19, by decide +kernel, rfl, by decide⟩
theorem eX12_lays_130 : sl_D YX12_lays 130 (.iconst 0) 1 131 := ⟨by decide +kernel, rfl⟩
theorem eX12_lays_131 : sl_D YX12_lays 131 (.istore_n 2) 1 132 := ⟨by decide +kernel, rfl⟩
theorem eX12_lays_132 : sl_D YX12_lays 132 (.iload_n 2) 1 133 := ⟨by decide +kernel, rfl⟩
theorem eX12_lays_133 : sl_D YX12_lays 133 (.aload_n 0) 1 134 := ⟨by decide +kernel, rfl⟩
theorem eX12_lays_134 : sl_D YX12_lays 134 (.getfield 311) 3 137 := ⟨by decide +kernel, rfl⟩
theorem eX12_lays_137 : sl_B YX12_lays 137 (fun o => .if_icmp .ge o) 140 159 := ⟨22, by decide +kernel, rfl, by decide⟩
theorem eX12_lays_140 : sl_D YX12_lays 140 (.aload_n 0) 1 141 := ⟨by decide +kernel, rfl⟩
theorem eX12_lays_141 : sl_D YX12_lays 141 (.iload_n 2) 1 142 := ⟨by decide +kernel, rfl⟩
theorem eX12_lays_142 : sl_D YX12_lays 142 (.invokevirtual 348) 3 145 := ⟨by decide +kernel, rfl⟩
theorem eX12_lays_145 : sl_B YX12_lays 145 (fun o => .ifCond .eq o) 148 153 := ⟨8, by decide +kernel, rfl, by decide⟩
theorem eX12_lays_148 : sl_D YX12_lays 148 (.aload_n 0) 1 149 := ⟨by decide +kernel, rfl⟩
theorem eX12_lays_149 : sl_D YX12_lays 149 (.iload_n 2) 1 150 := ⟨by decide +kernel, rfl⟩
theorem eX12_lays_150 : sl_D YX12_lays 150 (.invokevirtual 361) 3 153 := ⟨by decide +kernel, rfl⟩
theorem eX12_lays_153 : sl_D YX12_lays 153 (.iinc 2 1) 3 156 := ⟨by decide +kernel, rfl⟩
theorem eX12_lays_156 : sl_B YX12_lays 156 (fun o => .goto o) 159 132 := ⟨-24, by decide +kernel, rfl, by decide⟩
theorem eX12_lays_159 : sl_D YX12_lays 159 (.iconst 0) 1 160 := ⟨by decide +kernel, rfl⟩
theorem eX12_lays_160 : sl_D YX12_lays 160 (.istore_n 2) 1 161 := ⟨by decide +kernel, rfl⟩
theorem eX12_lays_161 : sl_D YX12_lays 161 (.iload_n 2) 1 162 := ⟨by decide +kernel, rfl⟩
theorem eX12_lays_162 : sl_D YX12_lays 162 (.aload_n 0) 1 163 := ⟨by decide +kernel, rfl⟩
theorem eX12_lays_163 : sl_D YX12_lays 163 (.getfield 324) 3 166 := ⟨by decide +kernel, rfl⟩
theorem eX12_lays_166 : sl_B YX12_lays 166 (fun o => .if_icmp .ge o) 169 221 := ⟨55, by decide +kernel, rfl, by decide⟩
theorem eX12_lays_169 : sl_D YX12_lays 169 (.aload_n 0) 1 170 := ⟨by decide +kernel, rfl⟩
theorem eX12_lays_170 : sl_D YX12_lays 170 (.getfield 58) 3 173 := ⟨by decide +kernel, rfl⟩
theorem eX12_lays_173 : sl_D YX12_lays 173 (.iconst 0) 1 174 := ⟨by decide +kernel, rfl⟩
theorem eX12_lays_174 : sl_D YX12_lays 174 (.iaload) 1 175 := ⟨by decide +kernel, rfl⟩
theorem eX12_lays_175 : sl_D YX12_lays 175 (.iload_n 2) 1 176 := ⟨by decide +kernel, rfl⟩
theorem eX12_lays_176 : sl_D YX12_lays 176 (.invokestatic 342) 3 179 := ⟨by decide +kernel, rfl⟩
theorem eX12_lays_179 : sl_B YX12_lays 179 (fun o => .ifCond .eq o) 182 192 := ⟨13, by decide +kernel, rfl, by decide⟩
theorem eX12_lays_182 : sl_D YX12_lays 182 (.aload_n 0) 1 183 := ⟨by decide +kernel, rfl⟩
theorem eX12_lays_183 : sl_D YX12_lays 183 (.aload_n 0) 1 184 := ⟨by decide +kernel, rfl⟩
theorem eX12_lays_184 : sl_D YX12_lays 184 (.getfield 324) 3 187 := ⟨by decide +kernel, rfl⟩
theorem eX12_lays_187 : sl_D YX12_lays 187 (.iload_n 2) 1 188 := ⟨by decide +kernel, rfl⟩
theorem eX12_lays_188 : sl_D YX12_lays 188 (.iconst 1) 1 189 := ⟨by decide +kernel, rfl⟩
theorem eX12_lays_189 : sl_D YX12_lays 189 (.invokevirtual 364) 3 192 := ⟨by decide +kernel, rfl⟩
theorem eX12_lays_192 : sl_D YX12_lays 192 (.aload_n 0) 1 193 := ⟨by decide +kernel, rfl⟩
theorem eX12_lays_193 : sl_D YX12_lays 193 (.getfield 61) 3 196 := ⟨by decide +kernel, rfl⟩
theorem eX12_lays_196 : sl_D YX12_lays 196 (.iconst 0) 1 197 := ⟨by decide +kernel, rfl⟩
theorem eX12_lays_197 : sl_D YX12_lays 197 (.iaload) 1 198 := ⟨by decide +kernel, rfl⟩
theorem eX12_lays_198 : sl_D YX12_lays 198 (.iload_n 2) 1 199 := ⟨by decide +kernel, rfl⟩
theorem eX12_lays_199 : sl_D YX12_lays 199 (.invokestatic 342) 3 202 := ⟨by decide +kernel, rfl⟩
theorem eX12_lays_202 : sl_B YX12_lays 202 (fun o => .ifCond .eq o) 205 215 := ⟨13, by decide +kernel, rfl, by decide⟩
theorem eX12_lays_205 : sl_D YX12_lays 205 (.aload_n 0) 1 206 := ⟨by decide +kernel, rfl⟩
theorem eX12_lays_206 : sl_D YX12_lays 206 (.iload_n 2) 1 207 := ⟨by decide +kernel, rfl⟩
theorem eX12_lays_207 : sl_D YX12_lays 207 (.aload_n 0) 1 208 := ⟨by decide +kernel, rfl⟩
theorem eX12_lays_208 : sl_D YX12_lays 208 (.getfield 324) 3 211 := ⟨by decide +kernel, rfl⟩
theorem eX12_lays_211 : sl_D YX12_lays 211 (.iconst 4) 1 212 := ⟨by decide +kernel, rfl⟩
theorem eX12_lays_212 : sl_D YX12_lays 212 (.invokevirtual 364) 3 215 := ⟨by decide +kernel, rfl⟩
theorem eX12_lays_215 : sl_D YX12_lays 215 (.iinc 2 1) 3 218 := ⟨by decide +kernel, rfl⟩
theorem eX12_lays_218 : sl_B YX12_lays 218 (fun o => .goto o) 221 161 := ⟨-57, by decide +kernel, rfl, by decide⟩
theorem eX12_lays_221 : sl_D YX12_lays 221 (.aload_n 0) 1 222 := ⟨by decide +kernel, rfl⟩
theorem eX12_lays_222 : sl_D YX12_lays 222 (.invokevirtual 368) 3 225 := ⟨by decide +kernel, rfl⟩
theorem eX12_lays_225 : sl_D YX12_lays 225 (.return_) 1 226 := ⟨by decide +kernel, rfl⟩
theorem eX12_laysEdge_0 : sl_D YX12_laysEdge 0 (.aload_n 2) 1 1 := ⟨by decide +kernel, rfl⟩
theorem eX12_laysEdge_1 : sl_D YX12_laysEdge 1 (.aload_n 0) 1 2 := ⟨by decide +kernel, rfl⟩
theorem eX12_laysEdge_2 : sl_D YX12_laysEdge 2 (.getfield 13) 3 5 := ⟨by decide +kernel, rfl⟩
theorem eX12_laysEdge_5 : sl_D YX12_laysEdge 5 (.iload_n 1) 1 6 := ⟨by decide +kernel, rfl⟩
theorem eX12_laysEdge_6 : sl_D YX12_laysEdge 6 (.iaload) 1 7 := ⟨by decide +kernel, rfl⟩
theorem eX12_laysEdge_7 : sl_D YX12_laysEdge 7 (.iaload) 1 8 := ⟨by decide +kernel, rfl⟩
theorem eX12_laysEdge_8 : sl_D YX12_laysEdge 8 (.istore 5) 2 10 := ⟨by decide +kernel, rfl⟩
theorem eX12_laysEdge_10 : sl_D YX12_laysEdge 10 (.aload_n 0) 1 11 := ⟨by decide +kernel, rfl⟩
theorem eX12_laysEdge_11 : sl_D YX12_laysEdge 11 (.iload_n 1) 1 12 := ⟨by decide +kernel, rfl⟩
theorem eX12_laysEdge_12 : sl_D YX12_laysEdge 12 (.iload_n 3) 1 13 := ⟨by decide +kernel, rfl⟩
theorem eX12_laysEdge_13 : sl_D YX12_laysEdge 13 (.invokevirtual 351) 3 16 := ⟨by decide +kernel, rfl⟩
theorem eX12_laysEdge_16 : sl_D YX12_laysEdge 16 (.istore 6) 2 18 := ⟨by decide +kernel, rfl⟩
theorem eX12_laysEdge_18 : sl_D YX12_laysEdge 18 (.iload 6) 2 20 := ⟨by decide +kernel, rfl⟩
theorem eX12_laysEdge_20 : sl_D YX12_laysEdge 20 (.bipush 100) 2 22 := ⟨by decide +kernel, rfl⟩
theorem eX12_laysEdge_22 : sl_B YX12_laysEdge 22 (fun o => .if_icmp .lt o) 25 35 := ⟨13, by decide +kernel, rfl, by decide⟩
theorem eX12_laysEdge_25 : sl_D YX12_laysEdge 25 (.aload_n 2) 1 26 := ⟨by decide +kernel, rfl⟩
theorem eX12_laysEdge_26 : sl_D YX12_laysEdge 26 (.iload 6) 2 28 := ⟨by decide +kernel, rfl⟩
theorem eX12_laysEdge_28 : sl_D YX12_laysEdge 28 (.bipush 100) 2 30 := ⟨by decide +kernel, rfl⟩
theorem eX12_laysEdge_30 : sl_D YX12_laysEdge 30 (.isub) 1 31 := ⟨by decide +kernel, rfl⟩
theorem eX12_laysEdge_31 : sl_D YX12_laysEdge 31 (.iaload) 1 32 := ⟨by decide +kernel, rfl⟩
theorem eX12_laysEdge_32 : sl_B YX12_laysEdge 32 (fun o => .goto o) 35 39 := ⟨7, by decide +kernel, rfl, by decide⟩
theorem eX12_laysEdge_35 : sl_D YX12_laysEdge 35 (.iconst 1) 1 36 := ⟨by decide +kernel, rfl⟩
theorem eX12_laysEdge_36 : sl_D YX12_laysEdge 36 (.iload 6) 2 38 := ⟨by decide +kernel, rfl⟩
theorem eX12_laysEdge_38 : sl_D YX12_laysEdge 38 (.ishl) 1 39 := ⟨by decide +kernel, rfl⟩
theorem eX12_laysEdge_39 : sl_D YX12_laysEdge 39 (.istore 7) 2 41 := ⟨by decide +kernel, rfl⟩
theorem eX12_laysEdge_41 : sl_D YX12_laysEdge 41 (.iload 6) 2 43 := ⟨by decide +kernel, rfl⟩
theorem eX12_laysEdge_43 : sl_D YX12_laysEdge 43 (.bipush 100) 2 45 := ⟨by decide +kernel, rfl⟩
theorem eX12_laysEdge_45 : sl_B YX12_laysEdge 45 (fun o => .if_icmp .lt o) 48 74 := ⟨29, by decide +kernel, rfl, by decide⟩
theorem eX12_laysEdge_48 : sl_D YX12_laysEdge 48 (.aload_n 0) 1 49 := ⟨by decide +kernel, rfl⟩
theorem eX12_laysEdge_49 : sl_D YX12_laysEdge 49 (.getfield 20) 3 52 := ⟨by decide +kernel, rfl⟩
theorem eX12_laysEdge_52 : sl_D YX12_laysEdge 52 (.iload_n 1) 1 53 := ⟨by decide +kernel, rfl⟩
theorem eX12_laysEdge_53 : sl_D YX12_laysEdge 53 (.iaload) 1 54 := ⟨by decide +kernel, rfl⟩
theorem eX12_laysEdge_54 : sl_D YX12_laysEdge 54 (.iconst 1) 1 55 := ⟨by decide +kernel, rfl⟩
theorem eX12_laysEdge_55 : sl_B YX12_laysEdge 55 (fun o => .if_icmp .le o) 58 74 := ⟨19, by decide +kernel, rfl, by decide⟩
theorem eX12_laysEdge_58 : sl_D YX12_laysEdge 58 (.iload 7) 2 60 := ⟨by decide +kernel, rfl⟩
theorem eX12_laysEdge_60 : sl_D YX12_laysEdge 60 (.iconst 1) 1 61 := ⟨by decide +kernel, rfl⟩
theorem eX12_laysEdge_61 : sl_D YX12_laysEdge 61 (.aload_n 0) 1 62 := ⟨by decide +kernel, rfl⟩
theorem eX12_laysEdge_62 : sl_D YX12_laysEdge 62 (.iload_n 1) 1 63 := ⟨by decide +kernel, rfl⟩
theorem eX12_laysEdge_63 : sl_D YX12_laysEdge 63 (.iload_n 3) 1 64 := ⟨by decide +kernel, rfl⟩
theorem eX12_laysEdge_64 : sl_D YX12_laysEdge 64 (.iload 4) 2 66 := ⟨by decide +kernel, rfl⟩
theorem eX12_laysEdge_66 : sl_D YX12_laysEdge 66 (.iadd) 1 67 := ⟨by decide +kernel, rfl⟩
theorem eX12_laysEdge_67 : sl_D YX12_laysEdge 67 (.invokevirtual 351) 3 70 := ⟨by decide +kernel, rfl⟩
theorem eX12_laysEdge_70 : sl_D YX12_laysEdge 70 (.ishl) 1 71 := ⟨by decide +kernel, rfl⟩
theorem eX12_laysEdge_71 : sl_D YX12_laysEdge 71 (.ior) 1 72 := ⟨by decide +kernel, rfl⟩
theorem eX12_laysEdge_72 : sl_D YX12_laysEdge 72 (.istore 7) 2 74 := ⟨by decide +kernel, rfl⟩
theorem eX12_laysEdge_74 : sl_D YX12_laysEdge 74 (.aload_n 2) 1 75 := ⟨by decide +kernel, rfl⟩
theorem eX12_laysEdge_75 : sl_D YX12_laysEdge 75 (.aload_n 0) 1 76 := ⟨by decide +kernel, rfl⟩
theorem eX12_laysEdge_76 : sl_D YX12_laysEdge 76 (.getfield 13) 3 79 := ⟨by decide +kernel, rfl⟩
theorem eX12_laysEdge_79 : sl_D YX12_laysEdge 79 (.iload_n 1) 1 80 := ⟨by decide +kernel, rfl⟩
theorem eX12_laysEdge_80 : sl_D YX12_laysEdge 80 (.iaload) 1 81 := ⟨by decide +kernel, rfl⟩
theorem eX12_laysEdge_81 : sl_D YX12_laysEdge 81 (.dup2) 1 82 := ⟨by decide +kernel, rfl⟩
theorem eX12_laysEdge_82 : sl_D YX12_laysEdge 82 (.iaload) 1 83 := ⟨by decide +kernel, rfl⟩
theorem eX12_laysEdge_83 : sl_D YX12_laysEdge 83 (.iload 7) 2 85 := ⟨by decide +kernel, rfl⟩
theorem eX12_laysEdge_85 : sl_D YX12_laysEdge 85 (.ior) 1 86 := ⟨by decide +kernel, rfl⟩
theorem eX12_laysEdge_86 : sl_D YX12_laysEdge 86 (.iastore) 1 87 := ⟨by decide +kernel, rfl⟩
theorem eX12_laysEdge_87 : sl_D YX12_laysEdge 87 (.aload_n 2) 1 88 := ⟨by decide +kernel, rfl⟩
theorem eX12_laysEdge_88 : sl_D YX12_laysEdge 88 (.aload_n 0) 1 89 := ⟨by decide +kernel, rfl⟩
theorem eX12_laysEdge_89 : sl_D YX12_laysEdge 89 (.getfield 13) 3 92 := ⟨by decide +kernel, rfl⟩
theorem eX12_laysEdge_92 : sl_D YX12_laysEdge 92 (.iload_n 1) 1 93 := ⟨by decide +kernel, rfl⟩
theorem eX12_laysEdge_93 : sl_D YX12_laysEdge 93 (.iaload) 1 94 := ⟨by decide +kernel, rfl⟩
theorem eX12_laysEdge_94 : sl_D YX12_laysEdge 94 (.iaload) 1 95 := ⟨by decide +kernel, rfl⟩
theorem eX12_laysEdge_95 : sl_D YX12_laysEdge 95 (.iload 5) 2 97 := ⟨by decide +kernel, rfl⟩
theorem eX12_laysEdge_97 : sl_B YX12_laysEdge 97 (fun o => .if_icmp .eq o) 100 104 := ⟨7, by decide +kernel, rfl, by decide⟩
theorem eX12_laysEdge_100 : sl_D YX12_laysEdge 100 (.iconst 1) 1 101 := ⟨by decide +kernel, rfl⟩
theorem eX12_laysEdge_101 : sl_B YX12_laysEdge 101 (fun o => .goto o) 104 105 := ⟨4, by decide +kernel, rfl, by decide⟩
theorem eX12_laysEdge_104 : sl_D YX12_laysEdge 104 (.iconst 0) 1 105 := ⟨by decide +kernel, rfl⟩
theorem eX12_laysEdge_105 : sl_D YX12_laysEdge 105 (.ireturn) 1 106 := ⟨by decide +kernel, rfl⟩
theorem eX12_relates_0 : sl_D YX12_relates 0 (.aload_n 0) 1 1 := ⟨by decide +kernel, rfl⟩
theorem eX12_relates_1 : sl_D YX12_relates 1 (.getfield 64) 3 4 := ⟨by decide +kernel, rfl⟩
theorem eX12_relates_4 : sl_D YX12_relates 4 (.bipush 12) 2 6 := ⟨by decide +kernel, rfl⟩
theorem eX12_relates_6 : sl_D YX12_relates 6 (.iload_n 1) 1 7 := ⟨by decide +kernel, rfl⟩
theorem eX12_relates_7 : sl_D YX12_relates 7 (.imul) 1 8 := ⟨by decide +kernel, rfl⟩
theorem eX12_relates_8 : sl_D YX12_relates 8 (.iload_n 2) 1 9 := ⟨by decide +kernel, rfl⟩
theorem eX12_relates_9 : sl_D YX12_relates 9 (.iadd) 1 10 := ⟨by decide +kernel, rfl⟩
theorem eX12_relates_10 : sl_D YX12_relates 10 (.dup2) 1 11 := ⟨by decide +kernel, rfl⟩
theorem eX12_relates_11 : sl_D YX12_relates 11 (.iaload) 1 12 := ⟨by decide +kernel, rfl⟩
theorem eX12_relates_12 : sl_D YX12_relates 12 (.iload_n 3) 1 13 := ⟨by decide +kernel, rfl⟩
theorem eX12_relates_13 : sl_D YX12_relates 13 (.ior) 1 14 := ⟨by decide +kernel, rfl⟩
theorem eX12_relates_14 : sl_D YX12_relates 14 (.iastore) 1 15 := ⟨by decide +kernel, rfl⟩
theorem eX12_relates_15 : sl_D YX12_relates 15 (.return_) 1 16 := ⟨by decide +kernel, rfl⟩
theorem eX12_laysRelations_0 : sl_D YX12_laysRelations 0 (.iconst 0) 1 1 := ⟨by decide +kernel, rfl⟩
theorem eX12_laysRelations_1 : sl_D YX12_laysRelations 1 (.istore_n 2) 1 2 := ⟨by decide +kernel, rfl⟩
theorem eX12_laysRelations_2 : sl_D YX12_laysRelations 2 (.iload_n 2) 1 3 := ⟨by decide +kernel, rfl⟩
theorem eX12_laysRelations_3 : sl_D YX12_laysRelations 3 (.iconst 1) 1 4 := ⟨by decide +kernel, rfl⟩
theorem eX12_laysRelations_4 : sl_D YX12_laysRelations 4 (.iadd) 1 5 := ⟨by decide +kernel, rfl⟩
theorem eX12_laysRelations_5 : sl_D YX12_laysRelations 5 (.aload_n 0) 1 6 := ⟨by decide +kernel, rfl⟩
theorem eX12_laysRelations_6 : sl_D YX12_laysRelations 6 (.getfield 20) 3 9 := ⟨by decide +kernel, rfl⟩
theorem eX12_laysRelations_9 : sl_D YX12_laysRelations 9 (.iload_n 1) 1 10 := ⟨by decide +kernel, rfl⟩
theorem eX12_laysRelations_10 : sl_D YX12_laysRelations 10 (.iaload) 1 11 := ⟨by decide +kernel, rfl⟩
theorem eX12_laysRelations_11 : sl_B YX12_laysRelations 11 (fun o => .if_icmp .ge o) 14 186 := ⟨175, by decide +kernel, rfl, by decide⟩
theorem eX12_laysRelations_14 : sl_D YX12_laysRelations 14 (.aload_n 0) 1 15 := ⟨by decide +kernel, rfl⟩
theorem eX12_laysRelations_15 : sl_D YX12_laysRelations 15 (.iload_n 1) 1 16 := ⟨by decide +kernel, rfl⟩
theorem eX12_laysRelations_16 : sl_D YX12_laysRelations 16 (.iload_n 2) 1 17 := ⟨by decide +kernel, rfl⟩
theorem eX12_laysRelations_17 : sl_D YX12_laysRelations 17 (.invokevirtual 351) 3 20 := ⟨by decide +kernel, rfl⟩
theorem eX12_laysRelations_20 : sl_D YX12_laysRelations 20 (.istore_n 3) 1 21 := ⟨by decide +kernel, rfl⟩
theorem eX12_laysRelations_21 : sl_D YX12_laysRelations 21 (.aload_n 0) 1 22 := ⟨by decide +kernel, rfl⟩
theorem eX12_laysRelations_22 : sl_D YX12_laysRelations 22 (.iload_n 1) 1 23 := ⟨by decide +kernel, rfl⟩
theorem eX12_laysRelations_23 : sl_D YX12_laysRelations 23 (.iload_n 2) 1 24 := ⟨by decide +kernel, rfl⟩
theorem eX12_laysRelations_24 : sl_D YX12_laysRelations 24 (.iconst 1) 1 25 := ⟨by decide +kernel, rfl⟩
theorem eX12_laysRelations_25 : sl_D YX12_laysRelations 25 (.iadd) 1 26 := ⟨by decide +kernel, rfl⟩
theorem eX12_laysRelations_26 : sl_D YX12_laysRelations 26 (.invokevirtual 351) 3 29 := ⟨by decide +kernel, rfl⟩
theorem eX12_laysRelations_29 : sl_D YX12_laysRelations 29 (.istore 4) 2 31 := ⟨by decide +kernel, rfl⟩
theorem eX12_laysRelations_31 : sl_D YX12_laysRelations 31 (.iload_n 3) 1 32 := ⟨by decide +kernel, rfl⟩
theorem eX12_laysRelations_32 : sl_D YX12_laysRelations 32 (.bipush 100) 2 34 := ⟨by decide +kernel, rfl⟩
theorem eX12_laysRelations_34 : sl_B YX12_laysRelations 34 (fun o => .if_icmp .ge o) 37 52 := ⟨18, by decide +kernel, rfl, by decide⟩
theorem eX12_laysRelations_37 : sl_D YX12_laysRelations 37 (.iload 4) 2 39 := ⟨by decide +kernel, rfl⟩
theorem eX12_laysRelations_39 : sl_D YX12_laysRelations 39 (.bipush 100) 2 41 := ⟨by decide +kernel, rfl⟩
theorem eX12_laysRelations_41 : sl_B YX12_laysRelations 41 (fun o => .if_icmp .ge o) 44 52 := ⟨11, by decide +kernel, rfl, by decide⟩
theorem eX12_laysRelations_44 : sl_D YX12_laysRelations 44 (.aload_n 0) 1 45 := ⟨by decide +kernel, rfl⟩
theorem eX12_laysRelations_45 : sl_D YX12_laysRelations 45 (.iload_n 3) 1 46 := ⟨by decide +kernel, rfl⟩
theorem eX12_laysRelations_46 : sl_D YX12_laysRelations 46 (.iload 4) 2 48 := ⟨by decide +kernel, rfl⟩
theorem eX12_laysRelations_48 : sl_D YX12_laysRelations 48 (.iconst 2) 1 49 := ⟨by decide +kernel, rfl⟩
theorem eX12_laysRelations_49 : sl_D YX12_laysRelations 49 (.invokevirtual 364) 3 52 := ⟨by decide +kernel, rfl⟩
theorem eX12_laysRelations_52 : sl_D YX12_laysRelations 52 (.iload_n 3) 1 53 := ⟨by decide +kernel, rfl⟩
theorem eX12_laysRelations_53 : sl_D YX12_laysRelations 53 (.bipush 100) 2 55 := ⟨by decide +kernel, rfl⟩
theorem eX12_laysRelations_55 : sl_B YX12_laysRelations 55 (fun o => .if_icmp .ge o) 58 91 := ⟨36, by decide +kernel, rfl, by decide⟩
theorem eX12_laysRelations_58 : sl_D YX12_laysRelations 58 (.iload 4) 2 60 := ⟨by decide +kernel, rfl⟩
theorem eX12_laysRelations_60 : sl_D YX12_laysRelations 60 (.bipush 100) 2 62 := ⟨by decide +kernel, rfl⟩
theorem eX12_laysRelations_62 : sl_B YX12_laysRelations 62 (fun o => .if_icmp .lt o) 65 91 := ⟨29, by decide +kernel, rfl, by decide⟩
theorem eX12_laysRelations_65 : sl_D YX12_laysRelations 65 (.iload_n 2) 1 66 := ⟨by decide +kernel, rfl⟩
theorem eX12_laysRelations_66 : sl_D YX12_laysRelations 66 (.iconst 2) 1 67 := ⟨by decide +kernel, rfl⟩
theorem eX12_laysRelations_67 : sl_D YX12_laysRelations 67 (.iadd) 1 68 := ⟨by decide +kernel, rfl⟩
theorem eX12_laysRelations_68 : sl_D YX12_laysRelations 68 (.aload_n 0) 1 69 := ⟨by decide +kernel, rfl⟩
theorem eX12_laysRelations_69 : sl_D YX12_laysRelations 69 (.getfield 20) 3 72 := ⟨by decide +kernel, rfl⟩
theorem eX12_laysRelations_72 : sl_D YX12_laysRelations 72 (.iload_n 1) 1 73 := ⟨by decide +kernel, rfl⟩
theorem eX12_laysRelations_73 : sl_D YX12_laysRelations 73 (.iaload) 1 74 := ⟨by decide +kernel, rfl⟩
theorem eX12_laysRelations_74 : sl_B YX12_laysRelations 74 (fun o => .if_icmp .ge o) 77 91 := ⟨17, by decide +kernel, rfl, by decide⟩
theorem eX12_laysRelations_77 : sl_D YX12_laysRelations 77 (.aload_n 0) 1 78 := ⟨by decide +kernel, rfl⟩
theorem eX12_laysRelations_78 : sl_D YX12_laysRelations 78 (.iload_n 3) 1 79 := ⟨by decide +kernel, rfl⟩
theorem eX12_laysRelations_79 : sl_D YX12_laysRelations 79 (.aload_n 0) 1 80 := ⟨by decide +kernel, rfl⟩
theorem eX12_laysRelations_80 : sl_D YX12_laysRelations 80 (.iload_n 1) 1 81 := ⟨by decide +kernel, rfl⟩
theorem eX12_laysRelations_81 : sl_D YX12_laysRelations 81 (.iload_n 2) 1 82 := ⟨by decide +kernel, rfl⟩
theorem eX12_laysRelations_82 : sl_D YX12_laysRelations 82 (.iconst 2) 1 83 := ⟨by decide +kernel, rfl⟩
theorem eX12_laysRelations_83 : sl_D YX12_laysRelations 83 (.iadd) 1 84 := ⟨by decide +kernel, rfl⟩
theorem eX12_laysRelations_84 : sl_D YX12_laysRelations 84 (.invokevirtual 351) 3 87 := ⟨by decide +kernel, rfl⟩
theorem eX12_laysRelations_87 : sl_D YX12_laysRelations 87 (.iconst 2) 1 88 := ⟨by decide +kernel, rfl⟩
theorem eX12_laysRelations_88 : sl_D YX12_laysRelations 88 (.invokevirtual 364) 3 91 := ⟨by decide +kernel, rfl⟩
theorem eX12_laysRelations_91 : sl_D YX12_laysRelations 91 (.iconst 0) 1 92 := ⟨by decide +kernel, rfl⟩
theorem eX12_laysRelations_92 : sl_D YX12_laysRelations 92 (.istore 5) 2 94 := ⟨by decide +kernel, rfl⟩
theorem eX12_laysRelations_94 : sl_D YX12_laysRelations 94 (.iload 5) 2 96 := ⟨by decide +kernel, rfl⟩
theorem eX12_laysRelations_96 : sl_D YX12_laysRelations 96 (.aload_n 0) 1 97 := ⟨by decide +kernel, rfl⟩
theorem eX12_laysRelations_97 : sl_D YX12_laysRelations 97 (.getfield 324) 3 100 := ⟨by decide +kernel, rfl⟩
theorem eX12_laysRelations_100 : sl_B YX12_laysRelations 100 (fun o => .if_icmp .ge o) 103 180 := ⟨80, by decide +kernel, rfl, by decide⟩
theorem eX12_laysRelations_103 : sl_D YX12_laysRelations 103 (.iload_n 3) 1 104 := ⟨by decide +kernel, rfl⟩
theorem eX12_laysRelations_104 : sl_D YX12_laysRelations 104 (.bipush 100) 2 106 := ⟨by decide +kernel, rfl⟩
theorem eX12_laysRelations_106 : sl_B YX12_laysRelations 106 (fun o => .if_icmp .ge o) 109 142 := ⟨36, by decide +kernel, rfl, by decide⟩
theorem eX12_laysRelations_109 : sl_D YX12_laysRelations 109 (.iload 4) 2 111 := ⟨by decide +kernel, rfl⟩
theorem eX12_laysRelations_111 : sl_D YX12_laysRelations 111 (.bipush 100) 2 113 := ⟨by decide +kernel, rfl⟩
theorem eX12_laysRelations_113 : sl_B YX12_laysRelations 113 (fun o => .if_icmp .lt o) 116 142 := ⟨29, by decide +kernel, rfl, by decide⟩
theorem eX12_laysRelations_116 : sl_D YX12_laysRelations 116 (.aload_n 0) 1 117 := ⟨by decide +kernel, rfl⟩
theorem eX12_laysRelations_117 : sl_D YX12_laysRelations 117 (.getfield 58) 3 120 := ⟨by decide +kernel, rfl⟩
theorem eX12_laysRelations_120 : sl_D YX12_laysRelations 120 (.iload 4) 2 122 := ⟨by decide +kernel, rfl⟩
theorem eX12_laysRelations_122 : sl_D YX12_laysRelations 122 (.bipush 100) 2 124 := ⟨by decide +kernel, rfl⟩
theorem eX12_laysRelations_124 : sl_D YX12_laysRelations 124 (.isub) 1 125 := ⟨by decide +kernel, rfl⟩
theorem eX12_laysRelations_125 : sl_D YX12_laysRelations 125 (.iaload) 1 126 := ⟨by decide +kernel, rfl⟩
theorem eX12_laysRelations_126 : sl_D YX12_laysRelations 126 (.iload 5) 2 128 := ⟨by decide +kernel, rfl⟩
theorem eX12_laysRelations_128 : sl_D YX12_laysRelations 128 (.invokestatic 342) 3 131 := ⟨by decide +kernel, rfl⟩
