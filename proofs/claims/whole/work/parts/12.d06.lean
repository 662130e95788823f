theorem eX12_relates__57 : sl_D YX12_relates_ 57 (.iload 4) 2 59 := ⟨by decide +kernel, rfl⟩
theorem eX12_relates__59 : sl_D YX12_relates_ 59 (.iload 5) 2 61 := ⟨by decide +kernel, rfl⟩
theorem eX12_relates__61 : sl_B YX12_relates_ 61 (fun o => .if_icmp .le o) 64 68 := ⟨7, by decide +kernel, rfl, by decide⟩
theorem eX12_relates__64 : sl_D YX12_relates_ 64 (.iconst 4) 1 65 := ⟨by decide +kernel, rfl⟩
theorem eX12_relates__65 : sl_B YX12_relates_ 65 (fun o => .goto o) 68 69 := ⟨4, by decide +kernel, rfl, by decide⟩
theorem eX12_relates__68 : sl_D YX12_relates_ 68 (.iconst 0) 1 69 := ⟨by decide +kernel, rfl⟩
theorem eX12_relates__69 : sl_D YX12_relates_ 69 (.ireturn) 1 70 := ⟨by decide +kernel, rfl⟩
theorem eX12_relates__70 : sl_D YX12_relates_ 70 (.iload 4) 2 72 := ⟨by decide +kernel, rfl⟩
theorem eX12_relates__72 : sl_D YX12_relates_ 72 (.iload 5) 2 74 := ⟨by decide +kernel, rfl⟩
theorem eX12_relates__74 : sl_B YX12_relates_ 74 (fun o => .if_icmp .ge o) 77 81 := ⟨7, by decide +kernel, rfl, by decide⟩
theorem eX12_relates__77 : sl_D YX12_relates_ 77 (.iconst 1) 1 78 := ⟨by decide +kernel, rfl⟩
theorem eX12_relates__78 : sl_B YX12_relates_ 78 (fun o => .goto o) 81 93 := ⟨15, by decide +kernel, rfl, by decide⟩
theorem eX12_relates__81 : sl_D YX12_relates_ 81 (.iload 4) 2 83 := ⟨by decide +kernel, rfl⟩
theorem eX12_relates__83 : sl_D YX12_relates_ 83 (.iload 5) 2 85 := ⟨by decide +kernel, rfl⟩
theorem eX12_relates__85 : sl_B YX12_relates_ 85 (fun o => .if_icmp .ne o) 88 92 := ⟨7, by decide +kernel, rfl, by decide⟩
theorem eX12_relates__88 : sl_D YX12_relates_ 88 (.iconst 2) 1 89 := ⟨by decide +kernel, rfl⟩
theorem eX12_relates__89 : sl_B YX12_relates_ 89 (fun o => .goto o) 92 93 := ⟨4, by decide +kernel, rfl, by decide⟩
theorem eX12_relates__92 : sl_D YX12_relates_ 92 (.iconst 4) 1 93 := ⟨by decide +kernel, rfl⟩
theorem eX12_relates__93 : sl_D YX12_relates_ 93 (.ireturn) 1 94 := ⟨by decide +kernel, rfl⟩
theorem eX12_reads_0 : sl_D YX12_reads 0 (.aload_n 0) 1 1 := ⟨by decide +kernel, rfl⟩
theorem eX12_reads_1 : sl_D YX12_reads 1 (.iconst 0) 1 2 := ⟨by decide +kernel, rfl⟩
theorem eX12_reads_2 : sl_D YX12_reads 2 (.putfield 438) 3 5 := ⟨by decide +kernel, rfl⟩
theorem eX12_reads_5 : sl_D YX12_reads 5 (.aload_n 0) 1 6 := ⟨by decide +kernel, rfl⟩
theorem eX12_reads_6 : sl_D YX12_reads 6 (.getfield 98) 3 9 := ⟨by decide +kernel, rfl⟩
theorem eX12_reads_9 : sl_D YX12_reads 9 (.iconst 0) 1 10 := ⟨by decide +kernel, rfl⟩
theorem eX12_reads_10 : sl_D YX12_reads 10 (.aload_n 0) 1 11 := ⟨by decide +kernel, rfl⟩
theorem eX12_reads_11 : sl_D YX12_reads 11 (.getfield 324) 3 14 := ⟨by decide +kernel, rfl⟩
theorem eX12_reads_14 : sl_D YX12_reads 14 (.iastore) 1 15 := ⟨by decide +kernel, rfl⟩
theorem eX12_reads_15 : sl_D YX12_reads 15 (.aload_n 0) 1 16 := ⟨by decide +kernel, rfl⟩
theorem eX12_reads_16 : sl_D YX12_reads 16 (.getfield 110) 3 19 := ⟨by decide +kernel, rfl⟩
theorem eX12_reads_19 : sl_D YX12_reads 19 (.iconst 0) 1 20 := ⟨by decide +kernel, rfl⟩
theorem eX12_reads_20 : sl_D YX12_reads 20 (.iconst 0) 1 21 := ⟨by decide +kernel, rfl⟩
theorem eX12_reads_21 : sl_D YX12_reads 21 (.bastore) 1 22 := ⟨by decide +kernel, rfl⟩
theorem eX12_reads_22 : sl_D YX12_reads 22 (.aload_n 0) 1 23 := ⟨by decide +kernel, rfl⟩
theorem eX12_reads_23 : sl_D YX12_reads 23 (.iconst 0) 1 24 := ⟨by decide +kernel, rfl⟩
theorem eX12_reads_24 : sl_D YX12_reads 24 (.putfield 441) 3 27 := ⟨by decide +kernel, rfl⟩
theorem eX12_reads_27 : sl_D YX12_reads 27 (.aload_n 0) 1 28 := ⟨by decide +kernel, rfl⟩
theorem eX12_reads_28 : sl_D YX12_reads 28 (.iconst 0) 1 29 := ⟨by decide +kernel, rfl⟩
theorem eX12_reads_29 : sl_D YX12_reads 29 (.putfield 444) 3 32 := ⟨by decide +kernel, rfl⟩
theorem eX12_reads_32 : sl_D YX12_reads 32 (.aload_n 0) 1 33 := ⟨by decide +kernel, rfl⟩
theorem eX12_reads_33 : sl_D YX12_reads 33 (.iconst 0) 1 34 := ⟨by decide +kernel, rfl⟩
theorem eX12_reads_34 : sl_D YX12_reads 34 (.putfield 447) 3 37 := ⟨by decide +kernel, rfl⟩
theorem eX12_reads_37 : sl_D YX12_reads 37 (.aload_n 0) 1 38 := ⟨by decide +kernel, rfl⟩
theorem eX12_reads_38 : sl_D YX12_reads 38 (.iconst 0) 1 39 := ⟨by decide +kernel, rfl⟩
theorem eX12_reads_39 : sl_D YX12_reads 39 (.putfield 450) 3 42 := ⟨by decide +kernel, rfl⟩
theorem eX12_reads_42 : sl_D YX12_reads 42 (.iconst 0) 1 43 := ⟨by decide +kernel, rfl⟩
theorem eX12_reads_43 : sl_D YX12_reads 43 (.istore_n 2) 1 44 := ⟨by decide +kernel, rfl⟩
theorem eX12_reads_44 : sl_D YX12_reads 44 (.aload_n 0) 1 45 := ⟨by decide +kernel, rfl⟩
theorem eX12_reads_45 : sl_D YX12_reads 45 (.getfield 441) 3 48 := ⟨by decide +kernel, rfl⟩
theorem eX12_reads_48 : sl_B YX12_reads 48 (fun o => .ifCond .ne o) 51 200 := ⟨152, by decide +kernel, rfl, by decide⟩
theorem eX12_reads_51 : sl_D YX12_reads 51 (.aload_n 0) 1 52 := ⟨by decide +kernel, rfl⟩
theorem eX12_reads_52 : sl_D YX12_reads 52 (.getfield 86) 3 55 := ⟨by decide +kernel, rfl⟩
theorem eX12_reads_55 : sl_D YX12_reads 55 (.iload_n 2) 1 56 := ⟨by decide +kernel, rfl⟩
theorem eX12_reads_56 : sl_D YX12_reads 56 (.iaload) 1 57 := ⟨by decide +kernel, rfl⟩
theorem eX12_reads_57 : sl_D YX12_reads 57 (.istore_n 3) 1 58 := ⟨by decide +kernel, rfl⟩
theorem eX12_reads_58 : sl_D YX12_reads 58 (.aload_n 0) 1 59 := ⟨by decide +kernel, rfl⟩
theorem eX12_reads_59 : sl_D YX12_reads 59 (.getfield 98) 3 62 := ⟨by decide +kernel, rfl⟩
theorem eX12_reads_62 : sl_D YX12_reads 62 (.aload_n 0) 1 63 := ⟨by decide +kernel, rfl⟩
theorem eX12_reads_63 : sl_D YX12_reads 63 (.getfield 438) 3 66 := ⟨by decide +kernel, rfl⟩
theorem eX12_reads_66 : sl_D YX12_reads 66 (.iaload) 1 67 := ⟨by decide +kernel, rfl⟩
theorem eX12_reads_67 : sl_D YX12_reads 67 (.istore 4) 2 69 := ⟨by decide +kernel, rfl⟩
theorem eX12_reads_69 : sl_D YX12_reads 69 (.aload_n 0) 1 70 := ⟨by decide +kernel, rfl⟩
theorem eX12_reads_70 : sl_D YX12_reads 70 (.aload_n 0) 1 71 := ⟨by decide +kernel, rfl⟩
theorem eX12_reads_71 : sl_D YX12_reads 71 (.getfield 89) 3 74 := ⟨by decide +kernel, rfl⟩
theorem eX12_reads_74 : sl_D YX12_reads 74 (.iload_n 2) 1 75 := ⟨by decide +kernel, rfl⟩
theorem eX12_reads_75 : sl_D YX12_reads 75 (.iaload) 1 76 := ⟨by decide +kernel, rfl⟩
theorem eX12_reads_76 : sl_D YX12_reads 76 (.putfield 453) 3 79 := ⟨by decide +kernel, rfl⟩
theorem eX12_reads_79 : sl_D YX12_reads 79 (.iload_n 3) 1 80 := ⟨by decide +kernel, rfl⟩
theorem eX12_reads_80 : sl_D YX12_reads 80 (.iconst (-1)) 1 81 := ⟨by decide +kernel, rfl⟩
theorem eX12_reads_81 : sl_B YX12_reads 81 (fun o => .if_icmp .ne o) 84 92 := ⟨11, by decide +kernel, rfl, by decide⟩
theorem eX12_reads_84 : sl_D YX12_reads 84 (.aload_n 0) 1 85 := ⟨by decide +kernel, rfl⟩
theorem eX12_reads_85 : sl_D YX12_reads 85 (.iconst 2) 1 86 := ⟨by decide +kernel, rfl⟩
theorem eX12_reads_86 : sl_D YX12_reads 86 (.putfield 441) 3 89 := ⟨by decide +kernel, rfl⟩
theorem eX12_reads_89 : sl_B YX12_reads 89 (fun o => .goto o) 92 197 := ⟨108, by decide +kernel, rfl, by decide⟩
theorem eX12_reads_92 : sl_D YX12_reads 92 (.iload 4) 2 94 := ⟨by decide +kernel, rfl⟩
theorem eX12_reads_94 : sl_D YX12_reads 94 (.aload_n 0) 1 95 := ⟨by decide +kernel, rfl⟩
theorem eX12_reads_95 : sl_D YX12_reads 95 (.getfield 324) 3 98 := ⟨by decide +kernel, rfl⟩
theorem eX12_reads_98 : sl_B YX12_reads 98 (fun o => .if_icmp .ne o) 101 124 := ⟨26, by decide +kernel, rfl, by decide⟩
theorem eX12_reads_101 : sl_D YX12_reads 101 (.iload_n 3) 1 102 := ⟨by decide +kernel, rfl⟩
theorem eX12_reads_102 : sl_D YX12_reads 102 (.aload_n 0) 1 103 := ⟨by decide +kernel, rfl⟩
theorem eX12_reads_103 : sl_D YX12_reads 103 (.getfield 324) 3 106 := ⟨by decide +kernel, rfl⟩
theorem eX12_reads_106 : sl_B YX12_reads 106 (fun o => .if_icmp .ne o) 109 124 := ⟨18, by decide +kernel, rfl, by decide⟩
theorem eX12_reads_109 : sl_D YX12_reads 109 (.aload_n 0) 1 110 := ⟨by decide +kernel, rfl⟩
theorem eX12_reads_110 : sl_D YX12_reads 110 (.getfield 110) 3 113 := ⟨by decide +kernel, rfl⟩
theorem eX12_reads_113 : sl_D YX12_reads 113 (.iconst 0) 1 114 := ⟨by decide +kernel, rfl⟩
theorem eX12_reads_114 : sl_D YX12_reads 114 (.baload) 1 115 := ⟨by decide +kernel, rfl⟩
theorem eX12_reads_115 : sl_B YX12_reads 115 (fun o => .ifCond .ne o) 118 123 := ⟨8, by decide +kernel, rfl, by decide⟩
theorem eX12_reads_118 : sl_D YX12_reads 118 (.aload_n 0) 1 119 := ⟨by decide +kernel, rfl⟩
theorem eX12_reads_119 : sl_D YX12_reads 119 (.iconst 4) 1 120 := ⟨by decide +kernel, rfl⟩
theorem eX12_reads_120 : sl_D YX12_reads 120 (.putfield 441) 3 123 := ⟨by decide +kernel, rfl⟩
theorem eX12_reads_123 : sl_D YX12_reads 123 (.return_) 1 124 := ⟨by decide +kernel, rfl⟩
theorem eX12_reads_124 : sl_D YX12_reads 124 (.aload_n 0) 1 125 := ⟨by decide +kernel, rfl⟩
theorem eX12_reads_125 : sl_D YX12_reads 125 (.iload 4) 2 127 := ⟨by decide +kernel, rfl⟩
theorem eX12_reads_127 : sl_D YX12_reads 127 (.iload_n 3) 1 128 := ⟨by decide +kernel, rfl⟩
theorem eX12_reads_128 : sl_D YX12_reads 128 (.iload_n 1) 1 129 := ⟨by decide +kernel, rfl⟩
theorem eX12_reads_129 : sl_D YX12_reads 129 (.iconst 1) 1 130 := ⟨by decide +kernel, rfl⟩
theorem eX12_reads_130 : sl_B YX12_reads 130 (fun o => .if_icmp .ne o) 133 137 := ⟨7, by decide +kernel, rfl, by decide⟩
theorem eX12_reads_133 : sl_D YX12_reads 133 (.iconst 1) 1 134 := ⟨by decide +kernel, rfl⟩
theorem eX12_reads_134 : sl_B YX12_reads 134 (fun o => .goto o) 137 138 := ⟨4, by decide +kernel, rfl, by decide⟩
theorem eX12_reads_137 : sl_D YX12_reads 137 (.iconst 0) 1 138 := ⟨by decide +kernel, rfl⟩
theorem eX12_reads_138 : sl_D YX12_reads 138 (.invokevirtual 456) 3 141 := ⟨by decide +kernel, rfl⟩
theorem eX12_reads_141 : sl_D YX12_reads 141 (.istore 5) 2 143 := ⟨by decide +kernel, rfl⟩
theorem eX12_reads_143 : sl_D YX12_reads 143 (.iload 5) 2 145 := ⟨by decide +kernel, rfl⟩
theorem eX12_reads_145 : sl_D YX12_reads 145 (.iconst 1) 1 146 := ⟨by decide +kernel, rfl⟩
theorem eX12_reads_146 : sl_B YX12_reads 146 (fun o => .if_icmp .eq o) 149 155 := ⟨9, by decide +kernel, rfl, by decide⟩
theorem eX12_reads_149 : sl_D YX12_reads 149 (.iload 5) 2 151 := ⟨by decide +kernel, rfl⟩
theorem eX12_reads_151 : sl_D YX12_reads 151 (.iconst 2) 1 152 := ⟨by decide +kernel, rfl⟩
theorem eX12_reads_152 : sl_B YX12_reads 152 (fun o => .if_icmp .ne o) 155 169 := ⟨17, by decide +kernel, rfl, by decide⟩
theorem eX12_reads_155 : sl_D YX12_reads 155 (.aload_n 0) 1 156 := ⟨by decide +kernel, rfl⟩
theorem eX12_reads_156 : sl_D YX12_reads 156 (.iload_n 2) 1 157 := ⟨by decide +kernel, rfl⟩
theorem eX12_reads_157 : sl_D YX12_reads 157 (.invokevirtual 459) 3 160 := ⟨by decide +kernel, rfl⟩
theorem eX12_reads_160 : sl_B YX12_reads 160 (fun o => .ifCond .eq o) 163 197 := ⟨37, by decide +kernel, rfl, by decide⟩
theorem eX12_reads_163 : sl_D YX12_reads 163 (.iinc 2 1) 3 166 := ⟨by decide +kernel, rfl⟩
theorem eX12_reads_166 : sl_B YX12_reads 166 (fun o => .goto o) 169 197 := ⟨31, by decide +kernel, rfl, by decide⟩
theorem eX12_reads_169 : sl_D YX12_reads 169 (.iload 5) 2 171 := ⟨by decide +kernel, rfl⟩
theorem eX12_reads_171 : sl_D YX12_reads 171 (.iconst 4) 1 172 := ⟨by decide +kernel, rfl⟩
theorem eX12_reads_172 : sl_B YX12_reads 172 (fun o => .if_icmp .ne o) 175 192 := ⟨20, by decide +kernel, rfl, by decide⟩
theorem eX12_reads_175 : sl_D YX12_reads 175 (.aload_n 0) 1 176 := ⟨by decide +kernel, rfl⟩
theorem eX12_reads_176 : sl_D YX12_reads 176 (.iload_n 1) 1 177 := ⟨by decide +kernel, rfl⟩
theorem eX12_reads_177 : sl_D YX12_reads 177 (.iconst 1) 1 178 := ⟨by decide +kernel, rfl⟩
theorem eX12_reads_178 : sl_B YX12_reads 178 (fun o => .if_icmp .ne o) 181 185 := ⟨7, by decide +kernel, rfl, by decide⟩
theorem eX12_reads_181 : sl_D YX12_reads 181 (.iconst 1) 1 182 := ⟨by decide +kernel, rfl⟩
theorem eX12_reads_182 : sl_B YX12_reads 182 (fun o => .goto o) 185 186 := ⟨4, by decide +kernel, rfl, by decide⟩
theorem eX12_reads_185 : sl_D YX12_reads 185 (.iconst 0) 1 186 := ⟨by decide +kernel, rfl⟩
theorem eX12_reads_186 : sl_D YX12_reads 186 (.invokevirtual 462) 3 189 := ⟨by decide +kernel, rfl⟩
theorem eX12_reads_189 : sl_B YX12_reads 189 (fun o => .goto o) 192 197 := ⟨8, by decide +kernel, rfl, by decide⟩
theorem eX12_reads_192 : sl_D YX12_reads 192 (.aload_n 0) 1 193 := ⟨by decide +kernel, rfl⟩
theorem eX12_reads_193 : sl_D YX12_reads 193 (.iconst 3) 1 194 := ⟨by decide +kernel, rfl⟩
theorem eX12_reads_194 : sl_D YX12_reads 194 (.putfield 441) 3 197 := ⟨by decide +kernel, rfl⟩
theorem eX12_reads_197 : sl_B YX12_reads 197 (fun o => .goto o) 200 44 := ⟨-153, by decide +kernel, rfl, by decide⟩
theorem eX12_reads_200 : sl_D YX12_reads 200 (.return_) 1 201 := ⟨by decide +kernel, rfl⟩
theorem eX12_stacks_0 : sl_D YX12_stacks 0 (.aload_n 0) 1 1 := ⟨by decide +kernel, rfl⟩
theorem eX12_stacks_1 : sl_D YX12_stacks 1 (.getfield 438) 3 4 := ⟨by decide +kernel, rfl⟩
theorem eX12_stacks_4 : sl_D YX12_stacks 4 (.bipush 15) 2 6 := ⟨by decide +kernel, rfl⟩
theorem eX12_stacks_6 : sl_B YX12_stacks 6 (fun o => .if_icmp .ne o) 9 17 := ⟨11, by decide +kernel, rfl, by decide⟩
theorem eX12_stacks_9 : sl_D YX12_stacks 9 (.aload_n 0) 1 10 := ⟨by decide +kernel, rfl⟩
theorem eX12_stacks_10 : sl_D YX12_stacks 10 (.bipush 7) 2 12 := ⟨by decide +kernel, rfl⟩
theorem eX12_stacks_12 : sl_D YX12_stacks 12 (.putfield 441) 3 15 := ⟨by decide +kernel, rfl⟩
theorem eX12_stacks_15 : sl_D YX12_stacks 15 (.iconst 0) 1 16 := ⟨by decide +kernel, rfl⟩
theorem eX12_stacks_16 : sl_D YX12_stacks 16 (.ireturn) 1 17 := ⟨by decide +kernel, rfl⟩
theorem eX12_stacks_17 : sl_D YX12_stacks 17 (.aload_n 0) 1 18 := ⟨by decide +kernel, rfl⟩
theorem eX12_stacks_18 : sl_D YX12_stacks 18 (.dup) 1 19 := ⟨by decide +kernel, rfl⟩
theorem eX12_stacks_19 : sl_D YX12_stacks 19 (.getfield 438) 3 22 := ⟨by decide +kernel, rfl⟩
theorem eX12_stacks_22 : sl_D YX12_stacks 22 (.iconst 1) 1 23 := ⟨by decide +kernel, rfl⟩
theorem eX12_stacks_23 : sl_D YX12_stacks 23 (.iadd) 1 24 := ⟨by decide +kernel, rfl⟩
theorem eX12_stacks_24 : sl_D YX12_stacks 24 (.putfield 438) 3 27 := ⟨by decide +kernel, rfl⟩
theorem eX12_stacks_27 : sl_D YX12_stacks 27 (.aload_n 0) 1 28 := ⟨by decide +kernel, rfl⟩
theorem eX12_stacks_28 : sl_D YX12_stacks 28 (.getfield 98) 3 31 := ⟨by decide +kernel, rfl⟩
theorem eX12_stacks_31 : sl_D YX12_stacks 31 (.aload_n 0) 1 32 := ⟨by decide +kernel, rfl⟩
theorem eX12_stacks_32 : sl_D YX12_stacks 32 (.getfield 438) 3 35 := ⟨by decide +kernel, rfl⟩
theorem eX12_stacks_35 : sl_D YX12_stacks 35 (.aload_n 0) 1 36 := ⟨by decide +kernel, rfl⟩
theorem eX12_stacks_36 : sl_D YX12_stacks 36 (.getfield 86) 3 39 := ⟨by decide +kernel, rfl⟩
theorem eX12_stacks_39 : sl_D YX12_stacks 39 (.iload_n 1) 1 40 := ⟨by decide +kernel, rfl⟩
theorem eX12_stacks_40 : sl_D YX12_stacks 40 (.iaload) 1 41 := ⟨by decide +kernel, rfl⟩
theorem eX12_stacks_41 : sl_D YX12_stacks 41 (.iastore) 1 42 := ⟨by decide +kernel, rfl⟩
theorem eX12_stacks_42 : sl_D YX12_stacks 42 (.aload_n 0) 1 43 := ⟨by decide +kernel, rfl⟩
theorem eX12_stacks_43 : sl_D YX12_stacks 43 (.getfield 104) 3 46 := ⟨by decide +kernel, rfl⟩
theorem eX12_stacks_46 : sl_D YX12_stacks 46 (.aload_n 0) 1 47 := ⟨by decide +kernel, rfl⟩
theorem eX12_stacks_47 : sl_D YX12_stacks 47 (.getfield 438) 3 50 := ⟨by decide +kernel, rfl⟩
theorem eX12_stacks_50 : sl_D YX12_stacks 50 (.aload_n 0) 1 51 := ⟨by decide +kernel, rfl⟩
theorem eX12_stacks_51 : sl_D YX12_stacks 51 (.getfield 92) 3 54 := ⟨by decide +kernel, rfl⟩
theorem eX12_stacks_54 : sl_D YX12_stacks 54 (.iload_n 1) 1 55 := ⟨by decide +kernel, rfl⟩
theorem eX12_stacks_55 : sl_D YX12_stacks 55 (.iaload) 1 56 := ⟨by decide +kernel, rfl⟩
theorem eX12_stacks_56 : sl_D YX12_stacks 56 (.iastore) 1 57 := ⟨by decide +kernel, rfl⟩
theorem eX12_stacks_57 : sl_D YX12_stacks 57 (.aload_n 0) 1 58 := ⟨by decide +kernel, rfl⟩
theorem eX12_stacks_58 : sl_D YX12_stacks 58 (.getfield 116) 3 61 := ⟨by decide +kernel, rfl⟩
theorem eX12_stacks_61 : sl_D YX12_stacks 61 (.aload_n 0) 1 62 := ⟨by decide +kernel, rfl⟩
theorem eX12_stacks_62 : sl_D YX12_stacks 62 (.getfield 438) 3 65 := ⟨by decide +kernel, rfl⟩
theorem eX12_stacks_65 : sl_D YX12_stacks 65 (.aload_n 0) 1 66 := ⟨by decide +kernel, rfl⟩
theorem eX12_stacks_66 : sl_D YX12_stacks 66 (.getfield 95) 3 69 := ⟨by decide +kernel, rfl⟩
theorem eX12_stacks_69 : sl_D YX12_stacks 69 (.iload_n 1) 1 70 := ⟨by decide +kernel, rfl⟩
theorem eX12_stacks_70 : sl_D YX12_stacks 70 (.baload) 1 71 := ⟨by decide +kernel, rfl⟩
theorem eX12_stacks_71 : sl_D YX12_stacks 71 (.bastore) 1 72 := ⟨by decide +kernel, rfl⟩
theorem eX12_stacks_72 : sl_D YX12_stacks 72 (.aload_n 0) 1 73 := ⟨by decide +kernel, rfl⟩
theorem eX12_stacks_73 : sl_D YX12_stacks 73 (.getfield 110) 3 76 := ⟨by decide +kernel, rfl⟩
theorem eX12_stacks_76 : sl_D YX12_stacks 76 (.aload_n 0) 1 77 := ⟨by decide +kernel, rfl⟩
theorem eX12_stacks_77 : sl_D YX12_stacks 77 (.getfield 438) 3 80 := ⟨by decide +kernel, rfl⟩
theorem eX12_stacks_80 : sl_D YX12_stacks 80 (.iconst 0) 1 81 := ⟨by decide +kernel, rfl⟩
theorem eX12_stacks_81 : sl_D YX12_stacks 81 (.bastore) 1 82 := ⟨by decide +kernel, rfl⟩
theorem eX12_stacks_82 : sl_D YX12_stacks 82 (.aload_n 0) 1 83 := ⟨by decide +kernel, rfl⟩
theorem eX12_stacks_83 : sl_D YX12_stacks 83 (.dup) 1 84 := ⟨by decide +kernel, rfl⟩
theorem eX12_stacks_84 : sl_D YX12_stacks 84 (.getfield 444) 3 87 := ⟨by decide +kernel, rfl⟩
theorem eX12_stacks_87 : sl_D YX12_stacks 87 (.iconst 1) 1 88 := ⟨by decide +kernel, rfl⟩
theorem eX12_stacks_88 : sl_D YX12_stacks 88 (.iadd) 1 89 := ⟨by decide +kernel, rfl⟩
theorem eX12_stacks_89 : sl_D YX12_stacks 89 (.putfield 444) 3 92 := ⟨by decide +kernel, rfl⟩
theorem eX12_stacks_92 : sl_D YX12_stacks 92 (.aload_n 0) 1 93 := ⟨by decide +kernel, rfl⟩
theorem eX12_stacks_93 : sl_D YX12_stacks 93 (.getfield 438) 3 96 := ⟨by decide +kernel, rfl⟩
theorem eX12_stacks_96 : sl_D YX12_stacks 96 (.aload_n 0) 1 97 := ⟨by decide +kernel, rfl⟩
theorem eX12_stacks_97 : sl_D YX12_stacks 97 (.getfield 450) 3 100 := ⟨by decide +kernel, rfl⟩
theorem eX12_stacks_100 : sl_B YX12_stacks 100 (fun o => .if_icmp .le o) 103 111 := ⟨11, by decide +kernel, rfl, by decide⟩
theorem eX12_stacks_103 : sl_D YX12_stacks 103 (.aload_n 0) 1 104 := ⟨by decide +kernel, rfl⟩
theorem eX12_stacks_104 : sl_D YX12_stacks 104 (.aload_n 0) 1 105 := ⟨by decide +kernel, rfl⟩
theorem eX12_stacks_105 : sl_D YX12_stacks 105 (.getfield 438) 3 108 := ⟨by decide +kernel, rfl⟩
theorem eX12_stacks_108 : sl_D YX12_stacks 108 (.putfield 450) 3 111 := ⟨by decide +kernel, rfl⟩
theorem eX12_stacks_111 : sl_D YX12_stacks 111 (.iconst 1) 1 112 := ⟨by decide +kernel, rfl⟩
theorem eX12_stacks_112 : sl_D YX12_stacks 112 (.ireturn) 1 113 := ⟨by decide +kernel, rfl⟩
theorem eX12_takesValue_0 : sl_D YX12_takesValue 0 (.aload_n 0) 1 1 := ⟨by decide +kernel, rfl⟩
theorem eX12_takesValue_1 : sl_D YX12_takesValue 1 (.getfield 110) 3 4 := ⟨by decide +kernel, rfl⟩
theorem eX12_takesValue_4 : sl_D YX12_takesValue 4 (.iload_n 1) 1 5 := ⟨by decide +kernel, rfl⟩
theorem eX12_takesValue_5 : sl_D YX12_takesValue 5 (.baload) 1 6 := ⟨by decide +kernel, rfl⟩
theorem eX12_takesValue_6 : sl_B YX12_takesValue 6 (fun o => .ifCond .ne o) 9 10 := ⟨4, by decide +kernel, rfl, by decide⟩
theorem eX12_takesValue_9 : sl_D YX12_takesValue 9 (.return_) 1 10 := ⟨by decide +kernel, rfl⟩
theorem eX12_takesValue_10 : sl_D YX12_takesValue 10 (.aload_n 0) 1 11 := ⟨by decide +kernel, rfl⟩
theorem eX12_takesValue_11 : sl_D YX12_takesValue 11 (.getfield 119) 3 14 := ⟨by decide +kernel, rfl⟩
theorem eX12_takesValue_14 : sl_D YX12_takesValue 14 (.aload_n 0) 1 15 := ⟨by decide +kernel, rfl⟩
theorem eX12_takesValue_15 : sl_D YX12_takesValue 15 (.getfield 466) 3 18 := ⟨by decide +kernel, rfl⟩
theorem eX12_takesValue_18 : sl_D YX12_takesValue 18 (.bipush 100) 2 20 := ⟨by decide +kernel, rfl⟩
theorem eX12_takesValue_20 : sl_D YX12_takesValue 20 (.iastore) 1 21 := ⟨by decide +kernel, rfl⟩
theorem eX12_takesValue_21 : sl_D YX12_takesValue 21 (.aload_n 0) 1 22 := ⟨by decide +kernel, rfl⟩
theorem eX12_takesValue_22 : sl_D YX12_takesValue 22 (.dup) 1 23 := ⟨by decide +kernel, rfl⟩
theorem eX12_takesValue_23 : sl_D YX12_takesValue 23 (.getfield 466) 3 26 := ⟨by decide +kernel, rfl⟩
theorem eX12_takesValue_26 : sl_D YX12_takesValue 26 (.iconst 1) 1 27 := ⟨by decide +kernel, rfl⟩
theorem eX12_takesValue_27 : sl_D YX12_takesValue 27 (.iadd) 1 28 := ⟨by decide +kernel, rfl⟩
theorem eX12_takesValue_28 : sl_D YX12_takesValue 28 (.putfield 466) 3 31 := ⟨by decide +kernel, rfl⟩
theorem eX12_takesValue_31 : sl_D YX12_takesValue 31 (.aload_n 0) 1 32 := ⟨by decide +kernel, rfl⟩
theorem eX12_takesValue_32 : sl_D YX12_takesValue 32 (.getfield 122) 3 35 := ⟨by decide +kernel, rfl⟩
theorem eX12_takesValue_35 : sl_D YX12_takesValue 35 (.aload_n 0) 1 36 := ⟨by decide +kernel, rfl⟩
theorem eX12_takesValue_36 : sl_D YX12_takesValue 36 (.getfield 469) 3 39 := ⟨by decide +kernel, rfl⟩
theorem eX12_takesValue_39 : sl_D YX12_takesValue 39 (.aload_n 0) 1 40 := ⟨by decide +kernel, rfl⟩
theorem eX12_takesValue_40 : sl_D YX12_takesValue 40 (.getfield 101) 3 43 := ⟨by decide +kernel, rfl⟩
theorem eX12_takesValue_43 : sl_D YX12_takesValue 43 (.iload_n 1) 1 44 := ⟨by decide +kernel, rfl⟩
theorem eX12_takesValue_44 : sl_D YX12_takesValue 44 (.iaload) 1 45 := ⟨by decide +kernel, rfl⟩
theorem eX12_takesValue_45 : sl_D YX12_takesValue 45 (.iastore) 1 46 := ⟨by decide +kernel, rfl⟩
theorem eX12_takesValue_46 : sl_D YX12_takesValue 46 (.aload_n 0) 1 47 := ⟨by decide +kernel, rfl⟩
theorem eX12_takesValue_47 : sl_D YX12_takesValue 47 (.getfield 146) 3 50 := ⟨by decide +kernel, rfl⟩
theorem eX12_takesValue_50 : sl_D YX12_takesValue 50 (.aload_n 0) 1 51 := ⟨by decide +kernel, rfl⟩
theorem eX12_takesValue_51 : sl_D YX12_takesValue 51 (.getfield 469) 3 54 := ⟨by decide +kernel, rfl⟩
theorem eX12_takesValue_54 : sl_D YX12_takesValue 54 (.aload_n 0) 1 55 := ⟨by decide +kernel, rfl⟩
theorem eX12_takesValue_55 : sl_D YX12_takesValue 55 (.getfield 113) 3 58 := ⟨by decide +kernel, rfl⟩
theorem eX12_takesValue_58 : sl_D YX12_takesValue 58 (.iload_n 1) 1 59 := ⟨by decide +kernel, rfl⟩
theorem eX12_takesValue_59 : sl_D YX12_takesValue 59 (.baload) 1 60 := ⟨by decide +kernel, rfl⟩
theorem eX12_takesValue_60 : sl_D YX12_takesValue 60 (.bastore) 1 61 := ⟨by decide +kernel, rfl⟩
theorem eX12_takesValue_61 : sl_D YX12_takesValue 61 (.aload_n 0) 1 62 := ⟨by decide +kernel, rfl⟩
theorem eX12_takesValue_62 : sl_D YX12_takesValue 62 (.getfield 125) 3 65 := ⟨by decide +kernel, rfl⟩
theorem eX12_takesValue_65 : sl_D YX12_takesValue 65 (.aload_n 0) 1 66 := ⟨by decide +kernel, rfl⟩
theorem eX12_takesValue_66 : sl_D YX12_takesValue 66 (.getfield 469) 3 69 := ⟨by decide +kernel, rfl⟩
theorem eX12_takesValue_69 : sl_D YX12_takesValue 69 (.aload_n 0) 1 70 := ⟨by decide +kernel, rfl⟩
theorem eX12_takesValue_70 : sl_D YX12_takesValue 70 (.getfield 128) 3 73 := ⟨by decide +kernel, rfl⟩
theorem eX12_takesValue_73 : sl_D YX12_takesValue 73 (.iload_n 1) 1 74 := ⟨by decide +kernel, rfl⟩
theorem eX12_takesValue_74 : sl_D YX12_takesValue 74 (.iaload) 1 75 := ⟨by decide +kernel, rfl⟩
theorem eX12_takesValue_75 : sl_D YX12_takesValue 75 (.iastore) 1 76 := ⟨by decide +kernel, rfl⟩
theorem eX12_takesValue_76 : sl_D YX12_takesValue 76 (.aload_n 0) 1 77 := ⟨by decide +kernel, rfl⟩
theorem eX12_takesValue_77 : sl_D YX12_takesValue 77 (.dup) 1 78 := ⟨by decide +kernel, rfl⟩
theorem eX12_takesValue_78 : sl_D YX12_takesValue 78 (.getfield 469) 3 81 := ⟨by decide +kernel, rfl⟩
theorem eX12_takesValue_81 : sl_D YX12_takesValue 81 (.iconst 1) 1 82 := ⟨by decide +kernel, rfl⟩
theorem eX12_takesValue_82 : sl_D YX12_takesValue 82 (.iadd) 1 83 := ⟨by decide +kernel, rfl⟩
theorem eX12_takesValue_83 : sl_D YX12_takesValue 83 (.putfield 469) 3 86 := ⟨by decide +kernel, rfl⟩
theorem eX12_takesValue_86 : sl_D YX12_takesValue 86 (.return_) 1 87 := ⟨by decide +kernel, rfl⟩
theorem eX12_reduces_0 : sl_D YX12_reduces 0 (.aload_n 0) 1 1 := ⟨by decide +kernel, rfl⟩
theorem eX12_reduces_1 : sl_D YX12_reduces 1 (.getfield 438) 3 4 := ⟨by decide +kernel, rfl⟩
theorem eX12_reduces_4 : sl_D YX12_reduces 4 (.istore_n 2) 1 5 := ⟨by decide +kernel, rfl⟩
theorem eX12_reduces_5 : sl_D YX12_reduces 5 (.iload_n 2) 1 6 := ⟨by decide +kernel, rfl⟩
theorem eX12_reduces_6 : sl_D YX12_reduces 6 (.iconst 1) 1 7 := ⟨by decide +kernel, rfl⟩
theorem eX12_reduces_7 : sl_B YX12_reduces 7 (fun o => .if_icmp .le o) 10 39 := ⟨32, by decide +kernel, rfl, by decide⟩
theorem eX12_reduces_10 : sl_D YX12_reduces 10 (.aload_n 0) 1 11 := ⟨by decide +kernel, rfl⟩
theorem eX12_reduces_11 : sl_D YX12_reduces 11 (.aload_n 0) 1 12 := ⟨by decide +kernel, rfl⟩
theorem eX12_reduces_12 : sl_D YX12_reduces 12 (.getfield 98) 3 15 := ⟨by decide +kernel, rfl⟩
theorem eX12_reduces_15 : sl_D YX12_reduces 15 (.iload_n 2) 1 16 := ⟨by decide +kernel, rfl⟩
theorem eX12_reduces_16 : sl_D YX12_reduces 16 (.iconst 1) 1 17 := ⟨by decide +kernel, rfl⟩
theorem eX12_reduces_17 : sl_D YX12_reduces 17 (.isub) 1 18 := ⟨by decide +kernel, rfl⟩
theorem eX12_reduces_18 : sl_D YX12_reduces 18 (.iaload) 1 19 := ⟨by decide +kernel, rfl⟩
theorem eX12_reduces_19 : sl_D YX12_reduces 19 (.aload_n 0) 1 20 := ⟨by decide +kernel, rfl⟩
theorem eX12_reduces_20 : sl_D YX12_reduces 20 (.getfield 98) 3 23 := ⟨by decide +kernel, rfl⟩
theorem eX12_reduces_23 : sl_D YX12_reduces 23 (.iload_n 2) 1 24 := ⟨by decide +kernel, rfl⟩
theorem eX12_reduces_24 : sl_D YX12_reduces 24 (.iaload) 1 25 := ⟨by decide +kernel, rfl⟩
theorem eX12_reduces_25 : sl_D YX12_reduces 25 (.iload_n 1) 1 26 := ⟨by decide +kernel, rfl⟩
theorem eX12_reduces_26 : sl_D YX12_reduces 26 (.invokevirtual 456) 3 29 := ⟨by decide +kernel, rfl⟩
theorem eX12_reduces_29 : sl_D YX12_reduces 29 (.iconst 2) 1 30 := ⟨by decide +kernel, rfl⟩
theorem eX12_reduces_30 : sl_B YX12_reduces 30 (fun o => .if_icmp .ne o) 33 39 := ⟨9, by decide +kernel, rfl, by decide⟩
theorem eX12_reduces_33 : sl_D YX12_reduces 33 (.iinc 2 (-1)) 3 36 := ⟨by decide +kernel, rfl⟩
theorem eX12_reduces_36 : sl_B YX12_reduces 36 (fun o => .goto o) 39 5 := ⟨-31, by decide +kernel, rfl, by decide⟩
theorem eX12_reduces_39 : sl_D YX12_reduces 39 (.aload_n 0) 1 40 := ⟨by decide +kernel, rfl⟩
theorem eX12_reduces_40 : sl_D YX12_reduces 40 (.iconst 0) 1 41 := ⟨by decide +kernel, rfl⟩
theorem eX12_reduces_41 : sl_D YX12_reduces 41 (.putfield 466) 3 44 := ⟨by decide +kernel, rfl⟩
theorem eX12_reduces_44 : sl_D YX12_reduces 44 (.aload_n 0) 1 45 := ⟨by decide +kernel, rfl⟩
theorem eX12_reduces_45 : sl_D YX12_reduces 45 (.iconst 0) 1 46 := ⟨by decide +kernel, rfl⟩
theorem eX12_reduces_46 : sl_D YX12_reduces 46 (.putfield 469) 3 49 := ⟨by decide +kernel, rfl⟩
theorem eX12_reduces_49 : sl_D YX12_reduces 49 (.aload_n 0) 1 50 := ⟨by decide +kernel, rfl⟩
theorem eX12_reduces_50 : sl_D YX12_reduces 50 (.iload_n 2) 1 51 := ⟨by decide +kernel, rfl⟩
theorem eX12_reduces_51 : sl_D YX12_reduces 51 (.iconst 1) 1 52 := ⟨by decide +kernel, rfl⟩
theorem eX12_reduces_52 : sl_D YX12_reduces 52 (.isub) 1 53 := ⟨by decide +kernel, rfl⟩
theorem eX12_reduces_53 : sl_D YX12_reduces 53 (.invokevirtual 472) 3 56 := ⟨by decide +kernel, rfl⟩
theorem eX12_reduces_56 : sl_D YX12_reduces 56 (.iload_n 2) 1 57 := ⟨by decide +kernel, rfl⟩
theorem eX12_reduces_57 : sl_D YX12_reduces 57 (.istore_n 3) 1 58 := ⟨by decide +kernel, rfl⟩
theorem eX12_reduces_58 : sl_D YX12_reduces 58 (.iload_n 3) 1 59 := ⟨by decide +kernel, rfl⟩
theorem eX12_reduces_59 : sl_D YX12_reduces 59 (.aload_n 0) 1 60 := ⟨by decide +kernel, rfl⟩
theorem eX12_reduces_60 : sl_D YX12_reduces 60 (.getfield 438) 3 63 := ⟨by decide +kernel, rfl⟩
theorem eX12_reduces_63 : sl_B YX12_reduces 63 (fun o => .if_icmp .gt o) 66 102 := ⟨39, by decide +kernel, rfl, by decide⟩
theorem eX12_reduces_66 : sl_D YX12_reduces 66 (.aload_n 0) 1 67 := ⟨by decide +kernel, rfl⟩
theorem eX12_reduces_67 : sl_D YX12_reduces 67 (.getfield 119) 3 70 := ⟨by decide +kernel, rfl⟩
theorem eX12_reduces_70 : sl_D YX12_reduces 70 (.aload_n 0) 1 71 := ⟨by decide +kernel, rfl⟩
theorem eX12_reduces_71 : sl_D YX12_reduces 71 (.getfield 466) 3 74 := ⟨by decide +kernel, rfl⟩
theorem eX12_reduces_74 : sl_D YX12_reduces 74 (.aload_n 0) 1 75 := ⟨by decide +kernel, rfl⟩
theorem eX12_reduces_75 : sl_D YX12_reduces 75 (.getfield 98) 3 78 := ⟨by decide +kernel, rfl⟩
theorem eX12_reduces_78 : sl_D YX12_reduces 78 (.iload_n 3) 1 79 := ⟨by decide +kernel, rfl⟩
theorem eX12_reduces_79 : sl_D YX12_reduces 79 (.iaload) 1 80 := ⟨by decide +kernel, rfl⟩
theorem eX12_reduces_80 : sl_D YX12_reduces 80 (.iastore) 1 81 := ⟨by decide +kernel, rfl⟩
theorem eX12_reduces_81 : sl_D YX12_reduces 81 (.aload_n 0) 1 82 := ⟨by decide +kernel, rfl⟩
theorem eX12_reduces_82 : sl_D YX12_reduces 82 (.dup) 1 83 := ⟨by decide +kernel, rfl⟩
theorem eX12_reduces_83 : sl_D YX12_reduces 83 (.getfield 466) 3 86 := ⟨by decide +kernel, rfl⟩
theorem eX12_reduces_86 : sl_D YX12_reduces 86 (.iconst 1) 1 87 := ⟨by decide +kernel, rfl⟩
theorem eX12_reduces_87 : sl_D YX12_reduces 87 (.iadd) 1 88 := ⟨by decide +kernel, rfl⟩
theorem eX12_reduces_88 : sl_D YX12_reduces 88 (.putfield 466) 3 91 := ⟨by decide +kernel, rfl⟩
theorem eX12_reduces_91 : sl_D YX12_reduces 91 (.aload_n 0) 1 92 := ⟨by decide +kernel, rfl⟩
theorem eX12_reduces_92 : sl_D YX12_reduces 92 (.iload_n 3) 1 93 := ⟨by decide +kernel, rfl⟩
theorem eX12_reduces_93 : sl_D YX12_reduces 93 (.invokevirtual 472) 3 96 := ⟨by decide +kernel, rfl⟩
theorem eX12_reduces_96 : sl_D YX12_reduces 96 (.iinc 3 1) 3 99 := ⟨by decide +kernel, rfl⟩
theorem eX12_reduces_99 : sl_B YX12_reduces 99 (fun o => .goto o) 102 58 := ⟨-41, by decide +kernel, rfl, by decide⟩
theorem eX12_reduces_102 : sl_D YX12_reduces 102 (.aload_n 0) 1 103 := ⟨by decide +kernel, rfl⟩
theorem eX12_reduces_103 : sl_D YX12_reduces 103 (.invokevirtual 475) 3 106 := ⟨by decide +kernel, rfl⟩
theorem eX12_reduces_106 : sl_D YX12_reduces 106 (.istore_n 3) 1 107 := ⟨by decide +kernel, rfl⟩
theorem eX12_reduces_107 : sl_D YX12_reduces 107 (.iload_n 3) 1 108 := ⟨by decide +kernel, rfl⟩
theorem eX12_reduces_108 : sl_D YX12_reduces 108 (.iconst (-1)) 1 109 := ⟨by decide +kernel, rfl⟩
theorem eX12_reduces_109 : sl_B YX12_reduces 109 (fun o => .if_icmp .ne o) 112 118 := ⟨9, by decide +kernel, rfl, by decide⟩
theorem eX12_reduces_112 : sl_D YX12_reduces 112 (.aload_n 0) 1 113 := ⟨by decide +kernel, rfl⟩
theorem eX12_reduces_113 : sl_D YX12_reduces 113 (.iconst 4) 1 114 := ⟨by decide +kernel, rfl⟩
theorem eX12_reduces_114 : sl_D YX12_reduces 114 (.putfield 441) 3 117 := ⟨by decide +kernel, rfl⟩
theorem eX12_reduces_117 : sl_D YX12_reduces 117 (.return_) 1 118 := ⟨by decide +kernel, rfl⟩
theorem eX12_reduces_118 : sl_D YX12_reduces 118 (.aload_n 0) 1 119 := ⟨by decide +kernel, rfl⟩
theorem eX12_reduces_119 : sl_D YX12_reduces 119 (.iload_n 3) 1 120 := ⟨by decide +kernel, rfl⟩
theorem eX12_reduces_120 : sl_D YX12_reduces 120 (.iload_n 2) 1 121 := ⟨by decide +kernel, rfl⟩
theorem eX12_reduces_121 : sl_D YX12_reduces 121 (.invokevirtual 478) 3 124 := ⟨by decide +kernel, rfl⟩
theorem eX12_reduces_124 : sl_D YX12_reduces 124 (.aload_n 0) 1 125 := ⟨by decide +kernel, rfl⟩
theorem eX12_reduces_125 : sl_D YX12_reduces 125 (.getfield 441) 3 128 := ⟨by decide +kernel, rfl⟩
theorem eX12_reduces_128 : sl_B YX12_reduces 128 (fun o => .ifCond .le o) 131 132 := ⟨4, by decide +kernel, rfl, by decide⟩
theorem eX12_reduces_131 : sl_D YX12_reduces 131 (.return_) 1 132 := ⟨by decide +kernel, rfl⟩
theorem eX12_reduces_132 : sl_D YX12_reduces 132 (.aload_n 0) 1 133 := ⟨by decide +kernel, rfl⟩
theorem eX12_reduces_133 : sl_D YX12_reduces 133 (.getfield 110) 3 136 := ⟨by decide +kernel, rfl⟩
theorem eX12_reduces_136 : sl_D YX12_reduces 136 (.iload_n 2) 1 137 := ⟨by decide +kernel, rfl⟩
theorem eX12_reduces_137 : sl_D YX12_reduces 137 (.iconst 1) 1 138 := ⟨by decide +kernel, rfl⟩
theorem eX12_reduces_138 : sl_D YX12_reduces 138 (.isub) 1 139 := ⟨by decide +kernel, rfl⟩
theorem eX12_reduces_139 : sl_D YX12_reduces 139 (.iconst 1) 1 140 := ⟨by decide +kernel, rfl⟩
theorem eX12_reduces_140 : sl_D YX12_reduces 140 (.bastore) 1 141 := ⟨by decide +kernel, rfl⟩
theorem eX12_reduces_141 : sl_D YX12_reduces 141 (.aload_n 0) 1 142 := ⟨by decide +kernel, rfl⟩
theorem eX12_reduces_142 : sl_D YX12_reduces 142 (.getfield 101) 3 145 := ⟨by decide +kernel, rfl⟩
theorem eX12_reduces_145 : sl_D YX12_reduces 145 (.iload_n 2) 1 146 := ⟨by decide +kernel, rfl⟩
theorem eX12_reduces_146 : sl_D YX12_reduces 146 (.iconst 1) 1 147 := ⟨by decide +kernel, rfl⟩
theorem eX12_reduces_147 : sl_D YX12_reduces 147 (.isub) 1 148 := ⟨by decide +kernel, rfl⟩
theorem eX12_reduces_148 : sl_D YX12_reduces 148 (.aload_n 0) 1 149 := ⟨by decide +kernel, rfl⟩
theorem eX12_reduces_149 : sl_D YX12_reduces 149 (.getfield 480) 3 152 := ⟨by decide +kernel, rfl⟩
theorem eX12_reduces_152 : sl_D YX12_reduces 152 (.iastore) 1 153 := ⟨by decide +kernel, rfl⟩
theorem eX12_reduces_153 : sl_D YX12_reduces 153 (.aload_n 0) 1 154 := ⟨by decide +kernel, rfl⟩
theorem eX12_reduces_154 : sl_D YX12_reduces 154 (.getfield 113) 3 157 := ⟨by decide +kernel, rfl⟩
theorem eX12_reduces_157 : sl_D YX12_reduces 157 (.iload_n 2) 1 158 := ⟨by decide +kernel, rfl⟩
theorem eX12_reduces_158 : sl_D YX12_reduces 158 (.iconst 1) 1 159 := ⟨by decide +kernel, rfl⟩
theorem eX12_reduces_159 : sl_D YX12_reduces 159 (.isub) 1 160 := ⟨by decide +kernel, rfl⟩
theorem eX12_reduces_160 : sl_D YX12_reduces 160 (.aload_n 0) 1 161 := ⟨by decide +kernel, rfl⟩
theorem eX12_reduces_161 : sl_D YX12_reduces 161 (.getfield 483) 3 164 := ⟨by decide +kernel, rfl⟩
theorem eX12_reduces_164 : sl_D YX12_reduces 164 (.bastore) 1 165 := ⟨by decide +kernel, rfl⟩
theorem eX12_reduces_165 : sl_D YX12_reduces 165 (.aload_n 0) 1 166 := ⟨by decide +kernel, rfl⟩
theorem eX12_reduces_166 : sl_D YX12_reduces 166 (.iload_n 2) 1 167 := ⟨by decide +kernel, rfl⟩
theorem eX12_reduces_167 : sl_D YX12_reduces 167 (.iconst 1) 1 168 := ⟨by decide +kernel, rfl⟩
theorem eX12_reduces_168 : sl_D YX12_reduces 168 (.isub) 1 169 := ⟨by decide +kernel, rfl⟩
theorem eX12_reduces_169 : sl_D YX12_reduces 169 (.putfield 438) 3 172 := ⟨by decide +kernel, rfl⟩
theorem eX12_reduces_172 : sl_D YX12_reduces 172 (.aload_n 0) 1 173 := ⟨by decide +kernel, rfl⟩
theorem eX12_reduces_173 : sl_D YX12_reduces 173 (.getfield 128) 3 176 := ⟨by decide +kernel, rfl⟩
theorem eX12_reduces_176 : sl_D YX12_reduces 176 (.aload_n 0) 1 177 := ⟨by decide +kernel, rfl⟩
theorem eX12_reduces_177 : sl_D YX12_reduces 177 (.getfield 438) 3 180 := ⟨by decide +kernel, rfl⟩
theorem eX12_reduces_180 : sl_D YX12_reduces 180 (.aload_n 0) 1 181 := ⟨by decide +kernel, rfl⟩
theorem eX12_reduces_181 : sl_D YX12_reduces 181 (.getfield 447) 3 184 := ⟨by decide +kernel, rfl⟩
theorem eX12_reduces_184 : sl_D YX12_reduces 184 (.iastore) 1 185 := ⟨by decide +kernel, rfl⟩
theorem eX12_reduces_185 : sl_D YX12_reduces 185 (.aload_n 0) 1 186 := ⟨by decide +kernel, rfl⟩
theorem eX12_reduces_186 : sl_D YX12_reduces 186 (.aload_n 0) 1 187 := ⟨by decide +kernel, rfl⟩
theorem eX12_reduces_187 : sl_D YX12_reduces 187 (.getfield 447) 3 190 := ⟨by decide +kernel, rfl⟩
theorem eX12_reduces_190 : sl_D YX12_reduces 190 (.invokevirtual 486) 3 193 := ⟨by decide +kernel, rfl⟩
theorem eX12_reduces_193 : sl_D YX12_reduces 193 (.aload_n 0) 1 194 := ⟨by decide +kernel, rfl⟩
theorem eX12_reduces_194 : sl_D YX12_reduces 194 (.getfield 107) 3 197 := ⟨by decide +kernel, rfl⟩
theorem eX12_reduces_197 : sl_D YX12_reduces 197 (.aload_n 0) 1 198 := ⟨by decide +kernel, rfl⟩
theorem eX12_reduces_198 : sl_D YX12_reduces 198 (.getfield 447) 3 201 := ⟨by decide +kernel, rfl⟩
theorem eX12_reduces_201 : sl_D YX12_reduces 201 (.iload_n 3) 1 202 := ⟨by decide +kernel, rfl⟩
theorem eX12_reduces_202 : sl_D YX12_reduces 202 (.iastore) 1 203 := ⟨by decide +kernel, rfl⟩
theorem eX12_reduces_203 : sl_D YX12_reduces 203 (.aload_n 0) 1 204 := ⟨by decide +kernel, rfl⟩
theorem eX12_reduces_204 : sl_D YX12_reduces 204 (.dup) 1 205 := ⟨by decide +kernel, rfl⟩
theorem eX12_reduces_205 : sl_D YX12_reduces 205 (.getfield 447) 3 208 := ⟨by decide +kernel, rfl⟩
theorem eX12_reduces_208 : sl_D YX12_reduces 208 (.iconst 1) 1 209 := ⟨by decide +kernel, rfl⟩
theorem eX12_reduces_209 : sl_D YX12_reduces 209 (.iadd) 1 210 := ⟨by decide +kernel, rfl⟩
theorem eX12_reduces_210 : sl_D YX12_reduces 210 (.putfield 447) 3 213 := ⟨by decide +kernel, rfl⟩
theorem eX12_reduces_213 : sl_D YX12_reduces 213 (.aload_n 0) 1 214 := ⟨by decide +kernel, rfl⟩
theorem eX12_reduces_214 : sl_D YX12_reduces 214 (.dup) 1 215 := ⟨by decide +kernel, rfl⟩
theorem eX12_reduces_215 : sl_D YX12_reduces 215 (.getfield 444) 3 218 := ⟨by decide +kernel, rfl⟩
theorem eX12_reduces_218 : sl_D YX12_reduces 218 (.iconst 1) 1 219 := ⟨by decide +kernel, rfl⟩
theorem eX12_reduces_219 : sl_D YX12_reduces 219 (.iadd) 1 220 := ⟨by decide +kernel, rfl⟩
theorem eX12_reduces_220 : sl_D YX12_reduces 220 (.putfield 444) 3 223 := ⟨by decide +kernel, rfl⟩
theorem eX12_reduces_223 : sl_D YX12_reduces 223 (.return_) 1 224 := ⟨by decide +kernel, rfl⟩
theorem eX12_laysNode_0 : sl_D YX12_laysNode 0 (.aload_n 0) 1 1 := ⟨by decide +kernel, rfl⟩
theorem eX12_laysNode_1 : sl_D YX12_laysNode 1 (.getfield 131) 3 4 := ⟨by decide +kernel, rfl⟩
theorem eX12_laysNode_4 : sl_D YX12_laysNode 4 (.iload_n 1) 1 5 := ⟨by decide +kernel, rfl⟩
theorem eX12_laysNode_5 : sl_D YX12_laysNode 5 (.aload_n 0) 1 6 := ⟨by decide +kernel, rfl⟩
theorem eX12_laysNode_6 : sl_D YX12_laysNode 6 (.getfield 469) 3 9 := ⟨by decide +kernel, rfl⟩
theorem eX12_laysNode_9 : sl_B YX12_laysNode 9 (fun o => .ifCond .le o) 12 21 := ⟨12, by decide +kernel, rfl, by decide⟩
theorem eX12_laysNode_12 : sl_D YX12_laysNode 12 (.aload_n 0) 1 13 := ⟨by decide +kernel, rfl⟩
theorem eX12_laysNode_13 : sl_D YX12_laysNode 13 (.getfield 125) 3 16 := ⟨by decide +kernel, rfl⟩
theorem eX12_laysNode_16 : sl_D YX12_laysNode 16 (.iconst 0) 1 17 := ⟨by decide +kernel, rfl⟩
theorem eX12_laysNode_17 : sl_D YX12_laysNode 17 (.iaload) 1 18 := ⟨by decide +kernel, rfl⟩
theorem eX12_laysNode_18 : sl_B YX12_laysNode 18 (fun o => .goto o) 21 23 := ⟨5, by decide +kernel, rfl, by decide⟩
theorem eX12_laysNode_21 : sl_D YX12_laysNode 21 (.bipush (-2)) 2 23 := ⟨by decide +kernel, rfl⟩
theorem eX12_laysNode_23 : sl_D YX12_laysNode 23 (.iastore) 1 24 := ⟨by decide +kernel, rfl⟩
theorem eX12_laysNode_24 : sl_D YX12_laysNode 24 (.aload_n 0) 1 25 := ⟨by decide +kernel, rfl⟩
theorem eX12_laysNode_25 : sl_D YX12_laysNode 25 (.getfield 134) 3 28 := ⟨by decide +kernel, rfl⟩
theorem eX12_laysNode_28 : sl_D YX12_laysNode 28 (.iload_n 1) 1 29 := ⟨by decide +kernel, rfl⟩
theorem eX12_laysNode_29 : sl_D YX12_laysNode 29 (.aload_n 0) 1 30 := ⟨by decide +kernel, rfl⟩
theorem eX12_laysNode_30 : sl_D YX12_laysNode 30 (.getfield 469) 3 33 := ⟨by decide +kernel, rfl⟩
theorem eX12_laysNode_33 : sl_D YX12_laysNode 33 (.iconst 1) 1 34 := ⟨by decide +kernel, rfl⟩
theorem eX12_laysNode_34 : sl_B YX12_laysNode 34 (fun o => .if_icmp .le o) 37 46 := ⟨12, by decide +kernel, rfl, by decide⟩
theorem eX12_laysNode_37 : sl_D YX12_laysNode 37 (.aload_n 0) 1 38 := ⟨by decide +kernel, rfl⟩
theorem eX12_laysNode_38 : sl_D YX12_laysNode 38 (.getfield 125) 3 41 := ⟨by decide +kernel, rfl⟩
theorem eX12_laysNode_41 : sl_D YX12_laysNode 41 (.iconst 1) 1 42 := ⟨by decide +kernel, rfl⟩
theorem eX12_laysNode_42 : sl_D YX12_laysNode 42 (.iaload) 1 43 := ⟨by decide +kernel, rfl⟩
theorem eX12_laysNode_43 : sl_B YX12_laysNode 43 (fun o => .goto o) 46 48 := ⟨5, by decide +kernel, rfl, by decide⟩
theorem eX12_laysNode_46 : sl_D YX12_laysNode 46 (.bipush (-2)) 2 48 := ⟨by decide +kernel, rfl⟩
theorem eX12_laysNode_48 : sl_D YX12_laysNode 48 (.iastore) 1 49 := ⟨by decide +kernel, rfl⟩
theorem eX12_laysNode_49 : sl_D YX12_laysNode 49 (.iconst 0) 1 50 := ⟨by decide +kernel, rfl⟩
theorem eX12_laysNode_50 : sl_D YX12_laysNode 50 (.istore_n 2) 1 51 := ⟨by decide +kernel, rfl⟩
theorem eX12_laysNode_51 : sl_D YX12_laysNode 51 (.iconst 0) 1 52 := ⟨by decide +kernel, rfl⟩
theorem eX12_laysNode_52 : sl_D YX12_laysNode 52 (.istore_n 3) 1 53 := ⟨by decide +kernel, rfl⟩
theorem eX12_laysNode_53 : sl_D YX12_laysNode 53 (.iload_n 3) 1 54 := ⟨by decide +kernel, rfl⟩
theorem eX12_laysNode_54 : sl_D YX12_laysNode 54 (.aload_n 0) 1 55 := ⟨by decide +kernel, rfl⟩
theorem eX12_laysNode_55 : sl_D YX12_laysNode 55 (.getfield 469) 3 58 := ⟨by decide +kernel, rfl⟩
theorem eX12_laysNode_58 : sl_B YX12_laysNode 58 (fun o => .if_icmp .ge o) 61 94 := ⟨36, by decide +kernel, rfl, by decide⟩
theorem eX12_laysNode_61 : sl_D YX12_laysNode 61 (.aload_n 0) 1 62 := ⟨by decide +kernel, rfl⟩
theorem eX12_laysNode_62 : sl_D YX12_laysNode 62 (.getfield 137) 3 65 := ⟨by decide +kernel, rfl⟩
theorem eX12_laysNode_65 : sl_D YX12_laysNode 65 (.aload_n 0) 1 66 := ⟨by decide +kernel, rfl⟩
theorem eX12_laysNode_66 : sl_D YX12_laysNode 66 (.getfield 125) 3 69 := ⟨by decide +kernel, rfl⟩
theorem eX12_laysNode_69 : sl_D YX12_laysNode 69 (.iload_n 3) 1 70 := ⟨by decide +kernel, rfl⟩
theorem eX12_laysNode_70 : sl_D YX12_laysNode 70 (.iaload) 1 71 := ⟨by decide +kernel, rfl⟩
theorem eX12_laysNode_71 : sl_D YX12_laysNode 71 (.iaload) 1 72 := ⟨by decide +kernel, rfl⟩
theorem eX12_laysNode_72 : sl_D YX12_laysNode 72 (.iload_n 2) 1 73 := ⟨by decide +kernel, rfl⟩
theorem eX12_laysNode_73 : sl_B YX12_laysNode 73 (fun o => .if_icmp .le o) 76 88 := ⟨15, by decide +kernel, rfl, by decide⟩
theorem eX12_laysNode_76 : sl_D YX12_laysNode 76 (.aload_n 0) 1 77 := ⟨by decide +kernel, rfl⟩
theorem eX12_laysNode_77 : sl_D YX12_laysNode 77 (.getfield 137) 3 80 := ⟨by decide +kernel, rfl⟩
theorem eX12_laysNode_80 : sl_D YX12_laysNode 80 (.aload_n 0) 1 81 := ⟨by decide +kernel, rfl⟩
theorem eX12_laysNode_81 : sl_D YX12_laysNode 81 (.getfield 125) 3 84 := ⟨by decide +kernel, rfl⟩
theorem eX12_laysNode_84 : sl_D YX12_laysNode 84 (.iload_n 3) 1 85 := ⟨by decide +kernel, rfl⟩
theorem eX12_laysNode_85 : sl_D YX12_laysNode 85 (.iaload) 1 86 := ⟨by decide +kernel, rfl⟩
theorem eX12_laysNode_86 : sl_D YX12_laysNode 86 (.iaload) 1 87 := ⟨by decide +kernel, rfl⟩
theorem eX12_laysNode_87 : sl_D YX12_laysNode 87 (.istore_n 2) 1 88 := ⟨by decide +kernel, rfl⟩
theorem eX12_laysNode_88 : sl_D YX12_laysNode 88 (.iinc 3 1) 3 91 := ⟨by decide +kernel, rfl⟩
theorem eX12_laysNode_91 : sl_B YX12_laysNode 91 (fun o => .goto o) 94 53 := ⟨-38, by decide +kernel, rfl, by decide⟩
theorem eX12_laysNode_94 : sl_D YX12_laysNode 94 (.aload_n 0) 1 95 := ⟨by decide +kernel, rfl⟩
theorem eX12_laysNode_95 : sl_D YX12_laysNode 95 (.getfield 137) 3 98 := ⟨by decide +kernel, rfl⟩
theorem eX12_laysNode_98 : sl_D YX12_laysNode 98 (.iload_n 1) 1 99 := ⟨by decide +kernel, rfl⟩
theorem eX12_laysNode_99 : sl_D YX12_laysNode 99 (.iload_n 2) 1 100 := ⟨by decide +kernel, rfl⟩
theorem eX12_laysNode_100 : sl_D YX12_laysNode 100 (.iconst 1) 1 101 := ⟨by decide +kernel, rfl⟩
theorem eX12_laysNode_101 : sl_D YX12_laysNode 101 (.iadd) 1 102 := ⟨by decide +kernel, rfl⟩
theorem eX12_laysNode_102 : sl_D YX12_laysNode 102 (.iastore) 1 103 := ⟨by decide +kernel, rfl⟩
theorem eX12_laysNode_103 : sl_D YX12_laysNode 103 (.aload_n 0) 1 104 := ⟨by decide +kernel, rfl⟩
theorem eX12_laysNode_104 : sl_D YX12_laysNode 104 (.getfield 140) 3 107 := ⟨by decide +kernel, rfl⟩
theorem eX12_laysNode_107 : sl_D YX12_laysNode 107 (.iload_n 1) 1 108 := ⟨by decide +kernel, rfl⟩
theorem eX12_laysNode_108 : sl_D YX12_laysNode 108 (.aload_n 0) 1 109 := ⟨by decide +kernel, rfl⟩
theorem eX12_laysNode_109 : sl_D YX12_laysNode 109 (.getfield 480) 3 112 := ⟨by decide +kernel, rfl⟩
theorem eX12_laysNode_112 : sl_D YX12_laysNode 112 (.iastore) 1 113 := ⟨by decide +kernel, rfl⟩
theorem eX12_laysNode_113 : sl_D YX12_laysNode 113 (.aload_n 0) 1 114 := ⟨by decide +kernel, rfl⟩
theorem eX12_laysNode_114 : sl_D YX12_laysNode 114 (.getfield 143) 3 117 := ⟨by decide +kernel, rfl⟩
theorem eX12_laysNode_117 : sl_D YX12_laysNode 117 (.iload_n 1) 1 118 := ⟨by decide +kernel, rfl⟩
theorem eX12_laysNode_118 : sl_D YX12_laysNode 118 (.aload_n 0) 1 119 := ⟨by decide +kernel, rfl⟩
theorem eX12_laysNode_119 : sl_D YX12_laysNode 119 (.getfield 483) 3 122 := ⟨by decide +kernel, rfl⟩
theorem eX12_laysNode_122 : sl_D YX12_laysNode 122 (.bastore) 1 123 := ⟨by decide +kernel, rfl⟩
theorem eX12_laysNode_123 : sl_D YX12_laysNode 123 (.return_) 1 124 := ⟨by decide +kernel, rfl⟩
theorem eX12_ruleOf_0 : sl_D YX12_ruleOf 0 (.iconst 0) 1 1 := ⟨by decide +kernel, rfl⟩
theorem eX12_ruleOf_1 : sl_D YX12_ruleOf 1 (.istore_n 1) 1 2 := ⟨by decide +kernel, rfl⟩
theorem eX12_ruleOf_2 : sl_D YX12_ruleOf 2 (.iload_n 1) 1 3 := ⟨by decide +kernel, rfl⟩
theorem eX12_ruleOf_3 : sl_D YX12_ruleOf 3 (.aload_n 0) 1 4 := ⟨by decide +kernel, rfl⟩
theorem eX12_ruleOf_4 : sl_D YX12_ruleOf 4 (.getfield 311) 3 7 := ⟨by decide +kernel, rfl⟩
theorem eX12_ruleOf_7 : sl_B YX12_ruleOf 7 (fun o => .if_icmp .ge o) 10 120 := ⟨113, by decide +kernel, rfl, by decide⟩
theorem eX12_ruleOf_10 : sl_D YX12_ruleOf 10 (.aload_n 0) 1 11 := ⟨by decide +kernel, rfl⟩
theorem eX12_ruleOf_11 : sl_D YX12_ruleOf 11 (.iload_n 1) 1 12 := ⟨by decide +kernel, rfl⟩
theorem eX12_ruleOf_12 : sl_D YX12_ruleOf 12 (.invokevirtual 348) 3 15 := ⟨by decide +kernel, rfl⟩
theorem eX12_ruleOf_15 : sl_B YX12_ruleOf 15 (fun o => .ifCond .eq o) 18 35 := ⟨20, by decide +kernel, rfl, by decide⟩
theorem eX12_ruleOf_18 : sl_D YX12_ruleOf 18 (.aload_n 0) 1 19 := ⟨by decide +kernel, rfl⟩
theorem eX12_ruleOf_19 : sl_D YX12_ruleOf 19 (.getfield 20) 3 22 := ⟨by decide +kernel, rfl⟩
theorem eX12_ruleOf_22 : sl_D YX12_ruleOf 22 (.iload_n 1) 1 23 := ⟨by decide +kernel, rfl⟩
theorem eX12_ruleOf_23 : sl_D YX12_ruleOf 23 (.iaload) 1 24 := ⟨by decide +kernel, rfl⟩
theorem eX12_ruleOf_24 : sl_D YX12_ruleOf 24 (.aload_n 0) 1 25 := ⟨by decide +kernel, rfl⟩
theorem eX12_ruleOf_25 : sl_D YX12_ruleOf 25 (.getfield 466) 3 28 := ⟨by decide +kernel, rfl⟩
theorem eX12_ruleOf_28 : sl_B YX12_ruleOf 28 (fun o => .if_icmp .ne o) 31 35 := ⟨7, by decide +kernel, rfl, by decide⟩
theorem eX12_ruleOf_31 : sl_D YX12_ruleOf 31 (.iconst 1) 1 32 := ⟨by decide +kernel, rfl⟩
theorem eX12_ruleOf_32 : sl_B YX12_ruleOf 32 (fun o => .goto o) 35 36 := ⟨4, by decide +kernel, rfl, by decide⟩
theorem eX12_ruleOf_35 : sl_D YX12_ruleOf 35 (.iconst 0) 1 36 := ⟨by decide +kernel, rfl⟩
theorem eX12_ruleOf_36 : sl_D YX12_ruleOf 36 (.istore_n 2) 1 37 := ⟨by decide +kernel, rfl⟩
theorem eX12_ruleOf_37 : sl_D YX12_ruleOf 37 (.iconst 0) 1 38 := ⟨by decide +kernel, rfl⟩
theorem eX12_ruleOf_38 : sl_D YX12_ruleOf 38 (.istore_n 3) 1 39 := ⟨by decide +kernel, rfl⟩
theorem eX12_ruleOf_39 : sl_D YX12_ruleOf 39 (.iload_n 2) 1 40 := ⟨by decide +kernel, rfl⟩
theorem eX12_ruleOf_40 : sl_B YX12_ruleOf 40 (fun o => .ifCond .eq o) 43 108 := ⟨68, by decide +kernel, rfl, by decide⟩
theorem eX12_ruleOf_43 : sl_D YX12_ruleOf 43 (.iload_n 3) 1 44 := ⟨by decide +kernel, rfl⟩
theorem eX12_ruleOf_44 : sl_D YX12_ruleOf 44 (.aload_n 0) 1 45 := ⟨by decide +kernel, rfl⟩
theorem eX12_ruleOf_45 : sl_D YX12_ruleOf 45 (.getfield 466) 3 48 := ⟨by decide +kernel, rfl⟩
theorem eX12_ruleOf_48 : sl_B YX12_ruleOf 48 (fun o => .if_icmp .ge o) 51 108 := ⟨60, by decide +kernel, rfl, by decide⟩
theorem eX12_ruleOf_51 : sl_D YX12_ruleOf 51 (.aload_n 0) 1 52 := ⟨by decide +kernel, rfl⟩
theorem eX12_ruleOf_52 : sl_D YX12_ruleOf 52 (.iload_n 1) 1 53 := ⟨by decide +kernel, rfl⟩
theorem eX12_ruleOf_53 : sl_D YX12_ruleOf 53 (.iload_n 3) 1 54 := ⟨by decide +kernel, rfl⟩
theorem eX12_ruleOf_54 : sl_D YX12_ruleOf 54 (.invokevirtual 351) 3 57 := ⟨by decide +kernel, rfl⟩
theorem eX12_ruleOf_57 : sl_D YX12_ruleOf 57 (.bipush 100) 2 59 := ⟨by decide +kernel, rfl⟩
theorem eX12_ruleOf_59 : sl_B YX12_ruleOf 59 (fun o => .if_icmp .lt o) 62 81 := ⟨22, by decide +kernel, rfl, by decide⟩
theorem eX12_ruleOf_62 : sl_D YX12_ruleOf 62 (.aload_n 0) 1 63 := ⟨by decide +kernel, rfl⟩
theorem eX12_ruleOf_63 : sl_D YX12_ruleOf 63 (.getfield 119) 3 66 := ⟨by decide +kernel, rfl⟩
theorem eX12_ruleOf_66 : sl_D YX12_ruleOf 66 (.iload_n 3) 1 67 := ⟨by decide +kernel, rfl⟩
theorem eX12_ruleOf_67 : sl_D YX12_ruleOf 67 (.iaload) 1 68 := ⟨by decide +kernel, rfl⟩
theorem eX12_ruleOf_68 : sl_D YX12_ruleOf 68 (.bipush 100) 2 70 := ⟨by decide +kernel, rfl⟩
theorem eX12_ruleOf_70 : sl_B YX12_ruleOf 70 (fun o => .if_icmp .ne o) 73 77 := ⟨7, by decide +kernel, rfl, by decide⟩
theorem eX12_ruleOf_73 : sl_D YX12_ruleOf 73 (.iconst 1) 1 74 := ⟨by decide +kernel, rfl⟩
theorem eX12_ruleOf_74 : sl_B YX12_ruleOf 74 (fun o => .goto o) 77 101 := ⟨27, by decide +kernel, rfl, by decide⟩
theorem eX12_ruleOf_77 : sl_D YX12_ruleOf 77 (.iconst 0) 1 78 := ⟨by decide +kernel, rfl⟩
theorem eX12_ruleOf_78 : sl_B YX12_ruleOf 78 (fun o => .goto o) 81 101 := ⟨23, by decide +kernel, rfl, by decide⟩
theorem eX12_ruleOf_81 : sl_D YX12_ruleOf 81 (.aload_n 0) 1 82 := ⟨by decide +kernel, rfl⟩
theorem eX12_ruleOf_82 : sl_D YX12_ruleOf 82 (.iload_n 1) 1 83 := ⟨by decide +kernel, rfl⟩
theorem eX12_ruleOf_83 : sl_D YX12_ruleOf 83 (.iload_n 3) 1 84 := ⟨by decide +kernel, rfl⟩
theorem eX12_ruleOf_84 : sl_D YX12_ruleOf 84 (.invokevirtual 351) 3 87 := ⟨by decide +kernel, rfl⟩
theorem eX12_ruleOf_87 : sl_D YX12_ruleOf 87 (.aload_n 0) 1 88 := ⟨by decide +kernel, rfl⟩
theorem eX12_ruleOf_88 : sl_D YX12_ruleOf 88 (.getfield 119) 3 91 := ⟨by decide +kernel, rfl⟩
theorem eX12_ruleOf_91 : sl_D YX12_ruleOf 91 (.iload_n 3) 1 92 := ⟨by decide +kernel, rfl⟩
theorem eX12_ruleOf_92 : sl_D YX12_ruleOf 92 (.iaload) 1 93 := ⟨by decide +kernel, rfl⟩
theorem eX12_ruleOf_93 : sl_B YX12_ruleOf 93 (fun o => .if_icmp .ne o) 96 100 := ⟨7, by decide +kernel, rfl, by decide⟩
theorem eX12_ruleOf_96 : sl_D YX12_ruleOf 96 (.iconst 1) 1 97 := ⟨by decide +kernel, rfl⟩
theorem eX12_ruleOf_97 : sl_B YX12_ruleOf 97 (fun o => .goto o) 100 101 := ⟨4, by decide +kernel, rfl, by decide⟩
theorem eX12_ruleOf_100 : sl_D YX12_ruleOf 100 (.iconst 0) 1 101 := ⟨by decide +kernel, rfl⟩
theorem eX12_ruleOf_101 : sl_D YX12_ruleOf 101 (.istore_n 2) 1 102 := ⟨by decide +kernel, rfl⟩
theorem eX12_ruleOf_102 : sl_D YX12_ruleOf 102 (.iinc 3 1) 3 105 := ⟨by decide +kernel, rfl⟩
theorem eX12_ruleOf_105 : sl_B YX12_ruleOf 105 (fun o => .goto o) 108 39 := ⟨-66, by decide +kernel, rfl, by decide⟩
theorem eX12_ruleOf_108 : sl_D YX12_ruleOf 108 (.iload_n 2) 1 109 := ⟨by decide +kernel, rfl⟩
theorem eX12_ruleOf_109 : sl_B YX12_ruleOf 109 (fun o => .ifCond .eq o) 112 114 := ⟨5, by decide +kernel, rfl, by decide⟩
theorem eX12_ruleOf_112 : sl_D YX12_ruleOf 112 (.iload_n 1) 1 113 := ⟨by decide +kernel, rfl⟩
theorem eX12_ruleOf_113 : sl_D YX12_ruleOf 113 (.ireturn) 1 114 := ⟨by decide +kernel, rfl⟩
theorem eX12_ruleOf_114 : sl_D YX12_ruleOf 114 (.iinc 1 1) 3 117 := ⟨by decide +kernel, rfl⟩
theorem eX12_ruleOf_117 : sl_B YX12_ruleOf 117 (fun o => .goto o) 120 2 := ⟨-115, by decide +kernel, rfl, by decide⟩
theorem eX12_ruleOf_120 : sl_D YX12_ruleOf 120 (.iconst (-1)) 1 121 := ⟨by decide +kernel, rfl⟩
theorem eX12_ruleOf_121 : sl_D YX12_ruleOf 121 (.ireturn) 1 122 := ⟨by decide +kernel, rfl⟩
theorem eX12_real_0 : sl_D YX12_real 0 (.aload_n 0) 1 1 := ⟨by decide +kernel, rfl⟩
theorem eX12_real_1 : sl_D YX12_real 1 (.getfield 146) 3 4 := ⟨by decide +kernel, rfl⟩
theorem eX12_real_4 : sl_D YX12_real 4 (.iload_n 1) 1 5 := ⟨by decide +kernel, rfl⟩
theorem eX12_real_5 : sl_D YX12_real 5 (.baload) 1 6 := ⟨by decide +kernel, rfl⟩
theorem eX12_real_6 : sl_B YX12_real 6 (fun o => .ifCond .eq o) 9 21 := ⟨15, by decide +kernel, rfl, by decide⟩
theorem eX12_real_9 : sl_D YX12_real 9 (.aload_n 0) 1 10 := ⟨by decide +kernel, rfl⟩
theorem eX12_real_10 : sl_D YX12_real 10 (.getfield 122) 3 13 := ⟨by decide +kernel, rfl⟩
theorem eX12_real_13 : sl_D YX12_real 13 (.iload_n 1) 1 14 := ⟨by decide +kernel, rfl⟩
theorem eX12_real_14 : sl_D YX12_real 14 (.iaload) 1 15 := ⟨by decide +kernel, rfl⟩
theorem eX12_real_15 : sl_D YX12_real 15 (.invokestatic 489) 3 18 := ⟨by decide +kernel, rfl⟩
theorem eX12_real_18 : sl_B YX12_real 18 (fun o => .goto o) 21 28 := ⟨10, by decide +kernel, rfl, by decide⟩
theorem eX12_real_21 : sl_D YX12_real 21 (.aload_n 0) 1 22 := ⟨by decide +kernel, rfl⟩
theorem eX12_real_22 : sl_D YX12_real 22 (.getfield 122) 3 25 := ⟨by decide +kernel, rfl⟩
theorem eX12_real_25 : sl_D YX12_real 25 (.iload_n 1) 1 26 := ⟨by decide +kernel, rfl⟩
theorem eX12_real_26 : sl_D YX12_real 26 (.iaload) 1 27 := ⟨by decide +kernel, rfl⟩
theorem eX12_real_27 : sl_D YX12_real 27 (.i2f) 1 28 := ⟨by decide +kernel, rfl⟩
theorem eX12_real_28 : sl_D YX12_real 28 (.freturn) 1 29 := ⟨by decide +kernel, rfl⟩
theorem eX12_makes_0 : sl_D YX12_makes 0 (.aload_n 0) 1 1 := ⟨by decide +kernel, rfl⟩
theorem eX12_makes_1 : sl_D YX12_makes 1 (.iconst 0) 1 2 := ⟨by decide +kernel, rfl⟩
theorem eX12_makes_2 : sl_D YX12_makes 2 (.putfield 483) 3 5 := ⟨by decide +kernel, rfl⟩
theorem eX12_makes_5 : sl_D YX12_makes 5 (.aload_n 0) 1 6 := ⟨by decide +kernel, rfl⟩
theorem eX12_makes_6 : sl_D YX12_makes 6 (.iload_n 1) 1 7 := ⟨by decide +kernel, rfl⟩
theorem eX12_makes_7 : sl_D YX12_makes 7 (.putfield 480) 3 10 := ⟨by decide +kernel, rfl⟩
theorem eX12_makes_10 : sl_D YX12_makes 10 (.return_) 1 11 := ⟨by decide +kernel, rfl⟩
theorem eX12_makesReal_0 : sl_D YX12_makesReal 0 (.aload_n 0) 1 1 := ⟨by decide +kernel, rfl⟩
theorem eX12_makesReal_1 : sl_D YX12_makesReal 1 (.iconst 1) 1 2 := ⟨by decide +kernel, rfl⟩
theorem eX12_makesReal_2 : sl_D YX12_makesReal 2 (.putfield 483) 3 5 := ⟨by decide +kernel, rfl⟩
theorem eX12_makesReal_5 : sl_D YX12_makesReal 5 (.aload_n 0) 1 6 := ⟨by decide +kernel, rfl⟩
theorem eX12_makesReal_6 : sl_D YX12_makesReal 6 (.fload_n 1) 1 7 := ⟨by decide +kernel, rfl⟩
theorem eX12_makesReal_7 : sl_D YX12_makesReal 7 (.invokestatic 432) 3 10 := ⟨by decide +kernel, rfl⟩
theorem eX12_makesReal_10 : sl_D YX12_makesReal 10 (.putfield 480) 3 13 := ⟨by decide +kernel, rfl⟩
theorem eX12_makesReal_13 : sl_D YX12_makesReal 13 (.return_) 1 14 := ⟨by decide +kernel, rfl⟩
theorem eX12_does_0 : sl_D YX12_does 0 (.aload_n 0) 1 1 := ⟨by decide +kernel, rfl⟩
theorem eX12_does_1 : sl_D YX12_does 1 (.getfield 23) 3 4 := ⟨by decide +kernel, rfl⟩
theorem eX12_does_4 : sl_D YX12_does 4 (.iload_n 1) 1 5 := ⟨by decide +kernel, rfl⟩
theorem eX12_does_5 : sl_D YX12_does 5 (.iaload) 1 6 := ⟨by decide +kernel, rfl⟩
theorem eX12_does_6 : decode YX12_does.2.1 6 = .ok (.tableswitch 159 4 8 #[57, 93, 116, 147, 34], 34) := by decide +kernel
theorem eX12_does_40 : sl_D YX12_does 40 (.aload_n 0) 1 41 := ⟨by decide +kernel, rfl⟩
theorem eX12_does_41 : sl_D YX12_does 41 (.aload_n 0) 1 42 := ⟨by decide +kernel, rfl⟩
theorem eX12_does_42 : sl_D YX12_does 42 (.getfield 104) 3 45 := ⟨by decide +kernel, rfl⟩
theorem eX12_does_45 : sl_D YX12_does 45 (.iload_n 2) 1 46 := ⟨by decide +kernel, rfl⟩
theorem eX12_does_46 : sl_D YX12_does 46 (.iaload) 1 47 := ⟨by decide +kernel, rfl⟩
theorem eX12_does_47 : sl_D YX12_does 47 (.putfield 480) 3 50 := ⟨by decide +kernel, rfl⟩
theorem eX12_does_50 : sl_D YX12_does 50 (.aload_n 0) 1 51 := ⟨by decide +kernel, rfl⟩
theorem eX12_does_51 : sl_D YX12_does 51 (.aload_n 0) 1 52 := ⟨by decide +kernel, rfl⟩
theorem eX12_does_52 : sl_D YX12_does 52 (.getfield 116) 3 55 := ⟨by decide +kernel, rfl⟩
theorem eX12_does_55 : sl_D YX12_does 55 (.iload_n 2) 1 56 := ⟨by decide +kernel, rfl⟩
theorem eX12_does_56 : sl_D YX12_does 56 (.baload) 1 57 := ⟨by decide +kernel, rfl⟩
theorem eX12_does_57 : sl_D YX12_does 57 (.putfield 483) 3 60 := ⟨by decide +kernel, rfl⟩
theorem eX12_does_60 : sl_B YX12_does 60 (fun o => .goto o) 63 228 := ⟨168, by decide +kernel, rfl, by decide⟩
theorem eX12_does_63 : sl_D YX12_does 63 (.aload_n 0) 1 64 := ⟨by decide +kernel, rfl⟩
theorem eX12_does_64 : sl_D YX12_does 64 (.getfield 146) 3 67 := ⟨by decide +kernel, rfl⟩
theorem eX12_does_67 : sl_D YX12_does 67 (.iconst 0) 1 68 := ⟨by decide +kernel, rfl⟩
theorem eX12_does_68 : sl_D YX12_does 68 (.baload) 1 69 := ⟨by decide +kernel, rfl⟩
theorem eX12_does_69 : sl_B YX12_does 69 (fun o => .ifCond .eq o) 72 85 := ⟨16, by decide +kernel, rfl, by decide⟩
theorem eX12_does_72 : sl_D YX12_does 72 (.aload_n 0) 1 73 := ⟨by decide +kernel, rfl⟩
theorem eX12_does_73 : sl_D YX12_does 73 (.aload_n 0) 1 74 := ⟨by decide +kernel, rfl⟩
theorem eX12_does_74 : sl_D YX12_does 74 (.iconst 0) 1 75 := ⟨by decide +kernel, rfl⟩
theorem eX12_does_75 : sl_D YX12_does 75 (.invokevirtual 493) 3 78 := ⟨by decide +kernel, rfl⟩
theorem eX12_does_78 : sl_D YX12_does 78 (.fneg) 1 79 := ⟨by decide +kernel, rfl⟩
theorem eX12_does_79 : sl_D YX12_does 79 (.invokevirtual 495) 3 82 := ⟨by decide +kernel, rfl⟩
theorem eX12_does_82 : sl_B YX12_does 82 (fun o => .goto o) 85 228 := ⟨146, by decide +kernel, rfl, by decide⟩
theorem eX12_does_85 : sl_D YX12_does 85 (.aload_n 0) 1 86 := ⟨by decide +kernel, rfl⟩
theorem eX12_does_86 : sl_D YX12_does 86 (.aload_n 0) 1 87 := ⟨by decide +kernel, rfl⟩
theorem eX12_does_87 : sl_D YX12_does 87 (.getfield 122) 3 90 := ⟨by decide +kernel, rfl⟩
theorem eX12_does_90 : sl_D YX12_does 90 (.iconst 0) 1 91 := ⟨by decide +kernel, rfl⟩
theorem eX12_does_91 : sl_D YX12_does 91 (.iaload) 1 92 := ⟨by decide +kernel, rfl⟩
theorem eX12_does_92 : sl_D YX12_does 92 (.ineg) 1 93 := ⟨by decide +kernel, rfl⟩
theorem eX12_does_93 : sl_D YX12_does 93 (.invokevirtual 499) 3 96 := ⟨by decide +kernel, rfl⟩
theorem eX12_does_96 : sl_B YX12_does 96 (fun o => .goto o) 99 228 := ⟨132, by decide +kernel, rfl, by decide⟩
theorem eX12_does_99 : sl_D YX12_does 99 (.aload_n 0) 1 100 := ⟨by decide +kernel, rfl⟩
theorem eX12_does_100 : sl_D YX12_does 100 (.aload_n 0) 1 101 := ⟨by decide +kernel, rfl⟩
theorem eX12_does_101 : sl_D YX12_does 101 (.getfield 122) 3 104 := ⟨by decide +kernel, rfl⟩
theorem eX12_does_104 : sl_D YX12_does 104 (.iconst 0) 1 105 := ⟨by decide +kernel, rfl⟩
theorem eX12_does_105 : sl_D YX12_does 105 (.iaload) 1 106 := ⟨by decide +kernel, rfl⟩
theorem eX12_does_106 : sl_D YX12_does 106 (.putfield 480) 3 109 := ⟨by decide +kernel, rfl⟩
theorem eX12_does_109 : sl_D YX12_does 109 (.aload_n 0) 1 110 := ⟨by decide +kernel, rfl⟩
theorem eX12_does_110 : sl_D YX12_does 110 (.aload_n 0) 1 111 := ⟨by decide +kernel, rfl⟩
theorem eX12_does_111 : sl_D YX12_does 111 (.getfield 146) 3 114 := ⟨by decide +kernel, rfl⟩
theorem eX12_does_114 : sl_D YX12_does 114 (.iconst 0) 1 115 := ⟨by decide +kernel, rfl⟩
theorem eX12_does_115 : sl_D YX12_does 115 (.baload) 1 116 := ⟨by decide +kernel, rfl⟩
theorem eX12_does_116 : sl_D YX12_does 116 (.putfield 483) 3 119 := ⟨by decide +kernel, rfl⟩
theorem eX12_does_119 : sl_B YX12_does 119 (fun o => .goto o) 122 228 := ⟨109, by decide +kernel, rfl, by decide⟩
theorem eX12_does_122 : sl_D YX12_does 122 (.aload_n 0) 1 123 := ⟨by decide +kernel, rfl⟩
theorem eX12_does_123 : sl_D YX12_does 123 (.aload_n 0) 1 124 := ⟨by decide +kernel, rfl⟩
theorem eX12_does_124 : sl_D YX12_does 124 (.getfield 146) 3 127 := ⟨by decide +kernel, rfl⟩
theorem eX12_does_127 : sl_D YX12_does 127 (.iconst 0) 1 128 := ⟨by decide +kernel, rfl⟩
theorem eX12_does_128 : sl_D YX12_does 128 (.baload) 1 129 := ⟨by decide +kernel, rfl⟩
theorem eX12_does_129 : sl_B YX12_does 129 (fun o => .ifCond .eq o) 132 141 := ⟨12, by decide +kernel, rfl, by decide⟩
theorem eX12_does_132 : sl_D YX12_does 132 (.aload_n 0) 1 133 := ⟨by decide +kernel, rfl⟩
theorem eX12_does_133 : sl_D YX12_does 133 (.iconst 0) 1 134 := ⟨by decide +kernel, rfl⟩
theorem eX12_does_134 : sl_D YX12_does 134 (.invokevirtual 493) 3 137 := ⟨by decide +kernel, rfl⟩
theorem eX12_does_137 : sl_D YX12_does 137 (.f2i) 1 138 := ⟨by decide +kernel, rfl⟩
theorem eX12_does_138 : sl_B YX12_does 138 (fun o => .goto o) 141 147 := ⟨9, by decide +kernel, rfl, by decide⟩
theorem eX12_does_141 : sl_D YX12_does 141 (.aload_n 0) 1 142 := ⟨by decide +kernel, rfl⟩
theorem eX12_does_142 : sl_D YX12_does 142 (.getfield 122) 3 145 := ⟨by decide +kernel, rfl⟩
theorem eX12_does_145 : sl_D YX12_does 145 (.iconst 0) 1 146 := ⟨by decide +kernel, rfl⟩
theorem eX12_does_146 : sl_D YX12_does 146 (.iaload) 1 147 := ⟨by decide +kernel, rfl⟩
theorem eX12_does_147 : sl_D YX12_does 147 (.invokevirtual 499) 3 150 := ⟨by decide +kernel, rfl⟩
theorem eX12_does_150 : sl_B YX12_does 150 (fun o => .goto o) 153 228 := ⟨78, by decide +kernel, rfl, by decide⟩
theorem eX12_does_153 : sl_D YX12_does 153 (.aload_n 0) 1 154 := ⟨by decide +kernel, rfl⟩
theorem eX12_does_154 : sl_D YX12_does 154 (.aload_n 0) 1 155 := ⟨by decide +kernel, rfl⟩
theorem eX12_does_155 : sl_D YX12_does 155 (.iconst 0) 1 156 := ⟨by decide +kernel, rfl⟩
theorem eX12_does_156 : sl_D YX12_does 156 (.invokevirtual 493) 3 159 := ⟨by decide +kernel, rfl⟩
theorem eX12_does_159 : sl_D YX12_does 159 (.invokevirtual 495) 3 162 := ⟨by decide +kernel, rfl⟩
theorem eX12_does_162 : sl_B YX12_does 162 (fun o => .goto o) 165 228 := ⟨66, by decide +kernel, rfl, by decide⟩
theorem eX12_does_165 : sl_D YX12_does 165 (.aload_n 0) 1 166 := ⟨by decide +kernel, rfl⟩
theorem eX12_does_166 : sl_D YX12_does 166 (.getfield 146) 3 169 := ⟨by decide +kernel, rfl⟩
theorem eX12_does_169 : sl_D YX12_does 169 (.iconst 0) 1 170 := ⟨by decide +kernel, rfl⟩
theorem eX12_does_170 : sl_D YX12_does 170 (.baload) 1 171 := ⟨by decide +kernel, rfl⟩
theorem eX12_does_171 : sl_B YX12_does 171 (fun o => .ifCond .ne o) 174 183 := ⟨12, by decide +kernel, rfl, by decide⟩
theorem eX12_does_174 : sl_D YX12_does 174 (.aload_n 0) 1 175 := ⟨by decide +kernel, rfl⟩
theorem eX12_does_175 : sl_D YX12_does 175 (.getfield 146) 3 178 := ⟨by decide +kernel, rfl⟩
theorem eX12_does_178 : sl_D YX12_does 178 (.iconst 1) 1 179 := ⟨by decide +kernel, rfl⟩
theorem eX12_does_179 : sl_D YX12_does 179 (.baload) 1 180 := ⟨by decide +kernel, rfl⟩
theorem eX12_does_180 : sl_B YX12_does 180 (fun o => .ifCond .eq o) 183 206 := ⟨26, by decide +kernel, rfl, by decide⟩
theorem eX12_does_183 : sl_D YX12_does 183 (.aload_n 0) 1 184 := ⟨by decide +kernel, rfl⟩
theorem eX12_does_184 : sl_D YX12_does 184 (.aload_n 0) 1 185 := ⟨by decide +kernel, rfl⟩
theorem eX12_does_185 : sl_D YX12_does 185 (.getfield 23) 3 188 := ⟨by decide +kernel, rfl⟩
theorem eX12_does_188 : sl_D YX12_does 188 (.iload_n 1) 1 189 := ⟨by decide +kernel, rfl⟩
theorem eX12_does_189 : sl_D YX12_does 189 (.iaload) 1 190 := ⟨by decide +kernel, rfl⟩
theorem eX12_does_190 : sl_D YX12_does 190 (.aload_n 0) 1 191 := ⟨by decide +kernel, rfl⟩
theorem eX12_does_191 : sl_D YX12_does 191 (.iconst 0) 1 192 := ⟨by decide +kernel, rfl⟩
theorem eX12_does_192 : sl_D YX12_does 192 (.invokevirtual 493) 3 195 := ⟨by decide +kernel, rfl⟩
theorem eX12_does_195 : sl_D YX12_does 195 (.aload_n 0) 1 196 := ⟨by decide +kernel, rfl⟩
theorem eX12_does_196 : sl_D YX12_does 196 (.iconst 1) 1 197 := ⟨by decide +kernel, rfl⟩
theorem eX12_does_197 : sl_D YX12_does 197 (.invokevirtual 493) 3 200 := ⟨by decide +kernel, rfl⟩
theorem eX12_does_200 : sl_D YX12_does 200 (.invokevirtual 502) 3 203 := ⟨by decide +kernel, rfl⟩
theorem eX12_does_203 : sl_B YX12_does 203 (fun o => .goto o) 206 228 := ⟨25, by decide +kernel, rfl, by decide⟩
theorem eX12_does_206 : sl_D YX12_does 206 (.aload_n 0) 1 207 := ⟨by decide +kernel, rfl⟩
theorem eX12_does_207 : sl_D YX12_does 207 (.aload_n 0) 1 208 := ⟨by decide +kernel, rfl⟩
theorem eX12_does_208 : sl_D YX12_does 208 (.getfield 23) 3 211 := ⟨by decide +kernel, rfl⟩
theorem eX12_does_211 : sl_D YX12_does 211 (.iload_n 1) 1 212 := ⟨by decide +kernel, rfl⟩
theorem eX12_does_212 : sl_D YX12_does 212 (.iaload) 1 213 := ⟨by decide +kernel, rfl⟩
theorem eX12_does_213 : sl_D YX12_does 213 (.aload_n 0) 1 214 := ⟨by decide +kernel, rfl⟩
theorem eX12_does_214 : sl_D YX12_does 214 (.getfield 122) 3 217 := ⟨by decide +kernel, rfl⟩
theorem eX12_does_217 : sl_D YX12_does 217 (.iconst 0) 1 218 := ⟨by decide +kernel, rfl⟩
theorem eX12_does_218 : sl_D YX12_does 218 (.iaload) 1 219 := ⟨by decide +kernel, rfl⟩
theorem eX12_does_219 : sl_D YX12_does 219 (.aload_n 0) 1 220 := ⟨by decide +kernel, rfl⟩
theorem eX12_does_220 : sl_D YX12_does 220 (.getfield 122) 3 223 := ⟨by decide +kernel, rfl⟩
theorem eX12_does_223 : sl_D YX12_does 223 (.iconst 1) 1 224 := ⟨by decide +kernel, rfl⟩
theorem eX12_does_224 : sl_D YX12_does 224 (.iaload) 1 225 := ⟨by decide +kernel, rfl⟩
theorem eX12_does_225 : sl_D YX12_does 225 (.invokevirtual 506) 3 228 := ⟨by decide +kernel, rfl⟩
theorem eX12_does_228 : sl_D YX12_does 228 (.aload_n 0) 1 229 := ⟨by decide +kernel, rfl⟩
theorem eX12_does_229 : sl_D YX12_does 229 (.getfield 441) 3 232 := ⟨by decide +kernel, rfl⟩
theorem eX12_does_232 : sl_B YX12_does 232 (fun o => .ifCond .ne o) 235 270 := ⟨38, by decide +kernel, rfl, by decide⟩
theorem eX12_does_235 : sl_D YX12_does 235 (.aload_n 0) 1 236 := ⟨by decide +kernel, rfl⟩
theorem eX12_does_236 : sl_D YX12_does 236 (.getfield 327) 3 239 := ⟨by decide +kernel, rfl⟩
theorem eX12_does_239 : sl_D YX12_does 239 (.iconst 1) 1 240 := ⟨by decide +kernel, rfl⟩
theorem eX12_does_240 : sl_B YX12_does 240 (fun o => .if_icmp .ne o) 243 250 := ⟨10, by decide +kernel, rfl, by decide⟩
theorem eX12_does_243 : sl_D YX12_does 243 (.aload_n 0) 1 244 := ⟨by decide +kernel, rfl⟩
theorem eX12_does_244 : sl_D YX12_does 244 (.getfield 483) 3 247 := ⟨by decide +kernel, rfl⟩
theorem eX12_does_247 : sl_B YX12_does 247 (fun o => .ifCond .ne o) 250 265 := ⟨18, by decide +kernel, rfl, by decide⟩
theorem eX12_does_250 : sl_D YX12_does 250 (.aload_n 0) 1 251 := ⟨by decide +kernel, rfl⟩
theorem eX12_does_251 : sl_D YX12_does 251 (.getfield 327) 3 254 := ⟨by decide +kernel, rfl⟩
theorem eX12_does_254 : sl_D YX12_does 254 (.iconst 2) 1 255 := ⟨by decide +kernel, rfl⟩
theorem eX12_does_255 : sl_B YX12_does 255 (fun o => .if_icmp .ne o) 258 270 := ⟨15, by decide +kernel, rfl, by decide⟩
theorem eX12_does_258 : sl_D YX12_does 258 (.aload_n 0) 1 259 := ⟨by decide +kernel, rfl⟩
theorem eX12_does_259 : sl_D YX12_does 259 (.getfield 483) 3 262 := ⟨by decide +kernel, rfl⟩
theorem eX12_does_262 : sl_B YX12_does 262 (fun o => .ifCond .ne o) 265 270 := ⟨8, by decide +kernel, rfl, by decide⟩
theorem eX12_does_265 : sl_D YX12_does 265 (.aload_n 0) 1 266 := ⟨by decide +kernel, rfl⟩
theorem eX12_does_266 : sl_D YX12_does 266 (.iconst 5) 1 267 := ⟨by decide +kernel, rfl⟩
theorem eX12_does_267 : sl_D YX12_does 267 (.putfield 441) 3 270 := ⟨by decide +kernel, rfl⟩
theorem eX12_does_270 : sl_D YX12_does 270 (.return_) 1 271 := ⟨by decide +kernel, rfl⟩
theorem eX12_doesReals_0 : sl_D YX12_doesReals 0 (.aload_n 0) 1 1 := ⟨by decide +kernel, rfl⟩
theorem eX12_doesReals_1 : sl_D YX12_doesReals 1 (.iload_n 1) 1 2 := ⟨by decide +kernel, rfl⟩
theorem eX12_doesReals_2 : sl_B YX12_doesReals 2 (fun o => .ifCond .ne o) 5 11 := ⟨9, by decide +kernel, rfl, by decide⟩
theorem eX12_doesReals_5 : sl_D YX12_doesReals 5 (.fload_n 2) 1 6 := ⟨by decide +kernel, rfl⟩
theorem eX12_doesReals_6 : sl_D YX12_doesReals 6 (.fload_n 3) 1 7 := ⟨by decide +kernel, rfl⟩
theorem eX12_doesReals_7 : sl_D YX12_doesReals 7 (.fadd) 1 8 := ⟨by decide +kernel, rfl⟩
theorem eX12_doesReals_8 : sl_B YX12_doesReals 8 (fun o => .goto o) 11 36 := ⟨28, by decide +kernel, rfl, by decide⟩
theorem eX12_doesReals_11 : sl_D YX12_doesReals 11 (.iload_n 1) 1 12 := ⟨by decide +kernel, rfl⟩
theorem eX12_doesReals_12 : sl_D YX12_doesReals 12 (.iconst 1) 1 13 := ⟨by decide +kernel, rfl⟩
theorem eX12_doesReals_13 : sl_B YX12_doesReals 13 (fun o => .if_icmp .ne o) 16 22 := ⟨9, by decide +kernel, rfl, by decide⟩
theorem eX12_doesReals_16 : sl_D YX12_doesReals 16 (.fload_n 2) 1 17 := ⟨by decide +kernel, rfl⟩
theorem eX12_doesReals_17 : sl_D YX12_doesReals 17 (.fload_n 3) 1 18 := ⟨by decide +kernel, rfl⟩
theorem eX12_doesReals_18 : sl_D YX12_doesReals 18 (.fsub) 1 19 := ⟨by decide +kernel, rfl⟩
theorem eX12_doesReals_19 : sl_B YX12_doesReals 19 (fun o => .goto o) 22 36 := ⟨17, by decide +kernel, rfl, by decide⟩
theorem eX12_doesReals_22 : sl_D YX12_doesReals 22 (.iload_n 1) 1 23 := ⟨by decide +kernel, rfl⟩
theorem eX12_doesReals_23 : sl_D YX12_doesReals 23 (.iconst 2) 1 24 := ⟨by decide +kernel, rfl⟩
theorem eX12_doesReals_24 : sl_B YX12_doesReals 24 (fun o => .if_icmp .ne o) 27 33 := ⟨9, by decide +kernel, rfl, by decide⟩
theorem eX12_doesReals_27 : sl_D YX12_doesReals 27 (.fload_n 2) 1 28 := ⟨by decide +kernel, rfl⟩
theorem eX12_doesReals_28 : sl_D YX12_doesReals 28 (.fload_n 3) 1 29 := ⟨by decide +kernel, rfl⟩
theorem eX12_doesReals_29 : sl_D YX12_doesReals 29 (.fmul) 1 30 := ⟨by decide +kernel, rfl⟩
theorem eX12_doesReals_30 : sl_B YX12_doesReals 30 (fun o => .goto o) 33 36 := ⟨6, by decide +kernel, rfl, by decide⟩
theorem eX12_doesReals_33 : sl_D YX12_doesReals 33 (.fload_n 2) 1 34 := ⟨by decide +kernel, rfl⟩
theorem eX12_doesReals_34 : sl_D YX12_doesReals 34 (.fload_n 3) 1 35 := ⟨by decide +kernel, rfl⟩
theorem eX12_doesReals_35 : sl_D YX12_doesReals 35 (.fdiv) 1 36 := ⟨by decide +kernel, rfl⟩
theorem eX12_doesReals_36 : sl_D YX12_doesReals 36 (.invokevirtual 495) 3 39 := ⟨by decide +kernel, rfl⟩
theorem eX12_doesReals_39 : sl_D YX12_doesReals 39 (.return_) 1 40 := ⟨by decide +kernel, rfl⟩
theorem eX12_doesWholes_0 : sl_D YX12_doesWholes 0 (.iload_n 1) 1 1 := ⟨by decide +kernel, rfl⟩
theorem eX12_doesWholes_1 : sl_D YX12_doesWholes 1 (.iconst 3) 1 2 := ⟨by decide +kernel, rfl⟩
theorem eX12_doesWholes_2 : sl_B YX12_doesWholes 2 (fun o => .if_icmp .ne o) 5 18 := ⟨16, by decide +kernel, rfl, by decide⟩
theorem eX12_doesWholes_5 : sl_D YX12_doesWholes 5 (.iload_n 3) 1 6 := ⟨by decide +kernel, rfl⟩
theorem eX12_doesWholes_6 : sl_B YX12_doesWholes 6 (fun o => .ifCond .ne o) 9 18 := ⟨12, by decide +kernel, rfl, by decide⟩
theorem eX12_doesWholes_9 : sl_D YX12_doesWholes 9 (.aload_n 0) 1 10 := ⟨by decide +kernel, rfl⟩
theorem eX12_doesWholes_10 : sl_D YX12_doesWholes 10 (.bipush 6) 2 12 := ⟨by decide +kernel, rfl⟩
theorem eX12_doesWholes_12 : sl_D YX12_doesWholes 12 (.putfield 441) 3 15 := ⟨by decide +kernel, rfl⟩
theorem eX12_doesWholes_15 : sl_B YX12_doesWholes 15 (fun o => .goto o) 18 57 := ⟨42, by decide +kernel, rfl, by decide⟩
theorem eX12_doesWholes_18 : sl_D YX12_doesWholes 18 (.aload_n 0) 1 19 := ⟨by decide +kernel, rfl⟩
theorem eX12_doesWholes_19 : sl_D YX12_doesWholes 19 (.iload_n 1) 1 20 := ⟨by decide +kernel, rfl⟩
theorem eX12_doesWholes_20 : sl_B YX12_doesWholes 20 (fun o => .ifCond .ne o) 23 29 := ⟨9, by decide +kernel, rfl, by decide⟩
theorem eX12_doesWholes_23 : sl_D YX12_doesWholes 23 (.iload_n 2) 1 24 := ⟨by decide +kernel, rfl⟩
theorem eX12_doesWholes_24 : sl_D YX12_doesWholes 24 (.iload_n 3) 1 25 := ⟨by decide +kernel, rfl⟩
theorem eX12_doesWholes_25 : sl_D YX12_doesWholes 25 (.iadd) 1 26 := ⟨by decide +kernel, rfl⟩
theorem eX12_doesWholes_26 : sl_B YX12_doesWholes 26 (fun o => .goto o) 29 54 := ⟨28, by decide +kernel, rfl, by decide⟩
theorem eX12_doesWholes_29 : sl_D YX12_doesWholes 29 (.iload_n 1) 1 30 := ⟨by decide +kernel, rfl⟩
theorem eX12_doesWholes_30 : sl_D YX12_doesWholes 30 (.iconst 1) 1 31 := ⟨by decide +kernel, rfl⟩
theorem eX12_doesWholes_31 : sl_B YX12_doesWholes 31 (fun o => .if_icmp .ne o) 34 40 := ⟨9, by decide +kernel, rfl, by decide⟩
theorem eX12_doesWholes_34 : sl_D YX12_doesWholes 34 (.iload_n 2) 1 35 := ⟨by decide +kernel, rfl⟩
theorem eX12_doesWholes_35 : sl_D YX12_doesWholes 35 (.iload_n 3) 1 36 := ⟨by decide +kernel, rfl⟩
theorem eX12_doesWholes_36 : sl_D YX12_doesWholes 36 (.isub) 1 37 := ⟨by decide +kernel, rfl⟩
theorem eX12_doesWholes_37 : sl_B YX12_doesWholes 37 (fun o => .goto o) 40 54 := ⟨17, by decide +kernel, rfl, by decide⟩
theorem eX12_doesWholes_40 : sl_D YX12_doesWholes 40 (.iload_n 1) 1 41 := ⟨by decide +kernel, rfl⟩
theorem eX12_doesWholes_41 : sl_D YX12_doesWholes 41 (.iconst 2) 1 42 := ⟨by decide +kernel, rfl⟩
theorem eX12_doesWholes_42 : sl_B YX12_doesWholes 42 (fun o => .if_icmp .ne o) 45 51 := ⟨9, by decide +kernel, rfl, by decide⟩
theorem eX12_doesWholes_45 : sl_D YX12_doesWholes 45 (.iload_n 2) 1 46 := ⟨by decide +kernel, rfl⟩
theorem eX12_doesWholes_46 : sl_D YX12_doesWholes 46 (.iload_n 3) 1 47 := ⟨by decide +kernel, rfl⟩
theorem eX12_doesWholes_47 : sl_D YX12_doesWholes 47 (.imul) 1 48 := ⟨by decide +kernel, rfl⟩
theorem eX12_doesWholes_48 : sl_B YX12_doesWholes 48 (fun o => .goto o) 51 54 := ⟨6, by decide +kernel, rfl, by decide⟩
theorem eX12_doesWholes_51 : sl_D YX12_doesWholes 51 (.iload_n 2) 1 52 := ⟨by decide +kernel, rfl⟩
theorem eX12_doesWholes_52 : sl_D YX12_doesWholes 52 (.iload_n 3) 1 53 := ⟨by decide +kernel, rfl⟩
theorem eX12_doesWholes_53 : sl_D YX12_doesWholes 53 (.idiv) 1 54 := ⟨by decide +kernel, rfl⟩
theorem eX12_doesWholes_54 : sl_D YX12_doesWholes 54 (.invokevirtual 499) 3 57 := ⟨by decide +kernel, rfl⟩
theorem eX12_doesWholes_57 : sl_D YX12_doesWholes 57 (.return_) 1 58 := ⟨by decide +kernel, rfl⟩
theorem eX12_canRead_0 : sl_D YX12_canRead 0 (.iload_n 1) 1 1 := ⟨by decide +kernel, rfl⟩
theorem eX12_canRead_1 : sl_B YX12_canRead 1 (fun o => .ifCond .ne o) 4 19 := ⟨18, by decide +kernel, rfl, by decide⟩
theorem eX12_canRead_4 : sl_D YX12_canRead 4 (.aload_n 0) 1 5 := ⟨by decide +kernel, rfl⟩
theorem eX12_canRead_5 : sl_D YX12_canRead 5 (.invokevirtual 377) 3 8 := ⟨by decide +kernel, rfl⟩
theorem eX12_canRead_8 : sl_B YX12_canRead 8 (fun o => .ifCond .ne o) 11 15 := ⟨7, by decide +kernel, rfl, by decide⟩
theorem eX12_canRead_11 : sl_D YX12_canRead 11 (.iconst 1) 1 12 := ⟨by decide +kernel, rfl⟩
theorem eX12_canRead_12 : sl_B YX12_canRead 12 (fun o => .goto o) 15 23 := ⟨11, by decide +kernel, rfl, by decide⟩
theorem eX12_canRead_15 : sl_D YX12_canRead 15 (.iconst 0) 1 16 := ⟨by decide +kernel, rfl⟩
theorem eX12_canRead_16 : sl_B YX12_canRead 16 (fun o => .goto o) 19 23 := ⟨7, by decide +kernel, rfl, by decide⟩
theorem eX12_canRead_19 : sl_D YX12_canRead 19 (.aload_n 0) 1 20 := ⟨by decide +kernel, rfl⟩
theorem eX12_canRead_20 : sl_D YX12_canRead 20 (.invokevirtual 405) 3 23 := ⟨by decide +kernel, rfl⟩
theorem eX12_canRead_23 : sl_D YX12_canRead 23 (.ireturn) 1 24 := ⟨by decide +kernel, rfl⟩
theorem eX12_told_0 : sl_D YX12_told 0 (.aload_n 0) 1 1 := ⟨by decide +kernel, rfl⟩
theorem eX12_told_1 : sl_D YX12_told 1 (.getfield 441) 3 4 := ⟨by decide +kernel, rfl⟩
theorem eX12_told_4 : sl_B YX12_told 4 (fun o => .ifCond .ne o) 7 16 := ⟨12, by decide +kernel, rfl, by decide⟩
theorem eX12_told_7 : sl_D YX12_told 7 (.aload_n 0) 1 8 := ⟨by decide +kernel, rfl⟩
theorem eX12_told_8 : sl_D YX12_told 8 (.aload_n 0) 1 9 := ⟨by decide +kernel, rfl⟩
theorem eX12_told_9 : sl_D YX12_told 9 (.getfield 444) 3 12 := ⟨by decide +kernel, rfl⟩
theorem eX12_told_12 : sl_D YX12_told 12 (.invokevirtual 314) 3 15 := ⟨by decide +kernel, rfl⟩
theorem eX12_told_15 : sl_D YX12_told 15 (.ireturn) 1 16 := ⟨by decide +kernel, rfl⟩
theorem eX12_told_16 : sl_D YX12_told 16 (.aload_n 0) 1 17 := ⟨by decide +kernel, rfl⟩
theorem eX12_told_17 : sl_D YX12_told 17 (.bipush 6) 2 19 := ⟨by decide +kernel, rfl⟩
theorem eX12_told_19 : sl_D YX12_told 19 (.invokevirtual 155) 3 22 := ⟨by decide +kernel, rfl⟩
theorem eX12_told_22 : sl_D YX12_told 22 (.pop) 1 23 := ⟨by decide +kernel, rfl⟩
theorem eX12_told_23 : sl_D YX12_told 23 (.aload_n 0) 1 24 := ⟨by decide +kernel, rfl⟩
theorem eX12_told_24 : sl_D YX12_told 24 (.aload_n 0) 1 25 := ⟨by decide +kernel, rfl⟩
theorem eX12_told_25 : sl_D YX12_told 25 (.getfield 453) 3 28 := ⟨by decide +kernel, rfl⟩
theorem eX12_told_28 : sl_D YX12_told 28 (.putfield 9) 3 31 := ⟨by decide +kernel, rfl⟩
theorem eX12_told_31 : sl_D YX12_told 31 (.iconst (-1)) 1 32 := ⟨by decide +kernel, rfl⟩
theorem eX12_told_32 : sl_D YX12_told 32 (.ireturn) 1 33 := ⟨by decide +kernel, rfl⟩
theorem eX12_readsBy_0 : sl_D YX12_readsBy 0 (.aload_n 0) 1 1 := ⟨by decide +kernel, rfl⟩
theorem eX12_readsBy_1 : sl_D YX12_readsBy 1 (.getfield 509) 3 4 := ⟨by decide +kernel, rfl⟩
theorem eX12_readsBy_4 : sl_D YX12_readsBy 4 (.iconst (-1)) 1 5 := ⟨by decide +kernel, rfl⟩
theorem eX12_readsBy_5 : sl_B YX12_readsBy 5 (fun o => .if_icmp .ne o) 8 14 := ⟨9, by decide +kernel, rfl, by decide⟩
theorem eX12_readsBy_8 : sl_D YX12_readsBy 8 (.aload_n 0) 1 9 := ⟨by decide +kernel, rfl⟩
theorem eX12_readsBy_9 : sl_D YX12_readsBy 9 (.iload_n 1) 1 10 := ⟨by decide +kernel, rfl⟩
theorem eX12_readsBy_10 : sl_D YX12_readsBy 10 (.invokevirtual 512) 3 13 := ⟨by decide +kernel, rfl⟩
theorem eX12_readsBy_13 : sl_D YX12_readsBy 13 (.return_) 1 14 := ⟨by decide +kernel, rfl⟩
theorem eX12_readsBy_14 : sl_D YX12_readsBy 14 (.aload_n 0) 1 15 := ⟨by decide +kernel, rfl⟩
theorem eX12_readsBy_15 : sl_D YX12_readsBy 15 (.iconst 1) 1 16 := ⟨by decide +kernel, rfl⟩
theorem eX12_readsBy_16 : sl_D YX12_readsBy 16 (.putfield 441) 3 19 := ⟨by decide +kernel, rfl⟩
theorem eX12_readsBy_19 : sl_D YX12_readsBy 19 (.aload_n 0) 1 20 := ⟨by decide +kernel, rfl⟩
theorem eX12_readsBy_20 : sl_D YX12_readsBy 20 (.aload_n 0) 1 21 := ⟨by decide +kernel, rfl⟩
theorem eX12_readsBy_21 : sl_D YX12_readsBy 21 (.getfield 509) 3 24 := ⟨by decide +kernel, rfl⟩
theorem eX12_readsBy_24 : sl_D YX12_readsBy 24 (.putfield 453) 3 27 := ⟨by decide +kernel, rfl⟩
theorem eX12_readsBy_27 : sl_D YX12_readsBy 27 (.aload_n 0) 1 28 := ⟨by decide +kernel, rfl⟩
theorem eX12_readsBy_28 : sl_D YX12_readsBy 28 (.iconst 0) 1 29 := ⟨by decide +kernel, rfl⟩
theorem eX12_readsBy_29 : sl_D YX12_readsBy 29 (.putfield 444) 3 32 := ⟨by decide +kernel, rfl⟩
theorem eX12_readsBy_32 : sl_D YX12_readsBy 32 (.aload_n 0) 1 33 := ⟨by decide +kernel, rfl⟩
theorem eX12_readsBy_33 : sl_D YX12_readsBy 33 (.iconst 0) 1 34 := ⟨by decide +kernel, rfl⟩
theorem eX12_readsBy_34 : sl_D YX12_readsBy 34 (.putfield 447) 3 37 := ⟨by decide +kernel, rfl⟩
theorem eX12_readsBy_37 : sl_D YX12_readsBy 37 (.aload_n 0) 1 38 := ⟨by decide +kernel, rfl⟩
theorem eX12_readsBy_38 : sl_D YX12_readsBy 38 (.iconst 0) 1 39 := ⟨by decide +kernel, rfl⟩
theorem eX12_readsBy_39 : sl_D YX12_readsBy 39 (.putfield 450) 3 42 := ⟨by decide +kernel, rfl⟩
theorem eX12_readsBy_42 : sl_D YX12_readsBy 42 (.return_) 1 43 := ⟨by decide +kernel, rfl⟩
theorem eX12_formula_0 : sl_D YX12_formula 0 (.aload_n 0) 1 1 := ⟨by decide +kernel, rfl⟩
theorem eX12_formula_1 : sl_D YX12_formula 1 (.iconst 0) 1 2 := ⟨by decide +kernel, rfl⟩
theorem eX12_formula_2 : sl_D YX12_formula 2 (.putfield 149) 3 5 := ⟨by decide +kernel, rfl⟩
theorem eX12_formula_5 : sl_D YX12_formula 5 (.aload_n 0) 1 6 := ⟨by decide +kernel, rfl⟩
theorem eX12_formula_6 : sl_D YX12_formula 6 (.getfield 317) 3 9 := ⟨by decide +kernel, rfl⟩
theorem eX12_formula_9 : sl_B YX12_formula 9 (fun o => .ifCond .eq o) 12 21 := ⟨12, by decide +kernel, rfl, by decide⟩
theorem eX12_formula_12 : sl_D YX12_formula 12 (.iload_n 2) 1 13 := ⟨by decide +kernel, rfl⟩
theorem eX12_formula_13 : sl_D YX12_formula 13 (.iconst 0) 1 14 := ⟨by decide +kernel, rfl⟩
theorem eX12_formula_14 : sl_D YX12_formula 14 (.iconst 1) 1 15 := ⟨by decide +kernel, rfl⟩
theorem eX12_formula_15 : sl_D YX12_formula 15 (.invokestatic 180) 3 18 := ⟨by decide +kernel, rfl⟩
theorem eX12_formula_18 : sl_B YX12_formula 18 (fun o => .ifCond .ne o) 21 27 := ⟨9, by decide +kernel, rfl, by decide⟩
theorem eX12_formula_21 : sl_D YX12_formula 21 (.aload_n 0) 1 22 := ⟨by decide +kernel, rfl⟩
theorem eX12_formula_22 : sl_D YX12_formula 22 (.iconst 1) 1 23 := ⟨by decide +kernel, rfl⟩
theorem eX12_formula_23 : sl_D YX12_formula 23 (.invokevirtual 155) 3 26 := ⟨by decide +kernel, rfl⟩
theorem eX12_formula_26 : sl_D YX12_formula 26 (.ireturn) 1 27 := ⟨by decide +kernel, rfl⟩
theorem eX12_formula_27 : sl_D YX12_formula 27 (.iload_n 1) 1 28 := ⟨by decide +kernel, rfl⟩
theorem eX12_formula_28 : sl_B YX12_formula 28 (fun o => .ifCond .lt o) 31 39 := ⟨11, by decide +kernel, rfl, by decide⟩
theorem eX12_formula_31 : sl_D YX12_formula 31 (.iload_n 1) 1 32 := ⟨by decide +kernel, rfl⟩
theorem eX12_formula_32 : sl_D YX12_formula 32 (.aload_n 0) 1 33 := ⟨by decide +kernel, rfl⟩
theorem eX12_formula_33 : sl_D YX12_formula 33 (.getfield 302) 3 36 := ⟨by decide +kernel, rfl⟩
theorem eX12_formula_36 : sl_B YX12_formula 36 (fun o => .if_icmp .le o) 39 45 := ⟨9, by decide +kernel, rfl, by decide⟩
theorem eX12_formula_39 : sl_D YX12_formula 39 (.aload_n 0) 1 40 := ⟨by decide +kernel, rfl⟩
theorem eX12_formula_40 : sl_D YX12_formula 40 (.iconst 2) 1 41 := ⟨by decide +kernel, rfl⟩
theorem eX12_formula_41 : sl_D YX12_formula 41 (.invokevirtual 155) 3 44 := ⟨by decide +kernel, rfl⟩
theorem eX12_formula_44 : sl_D YX12_formula 44 (.ireturn) 1 45 := ⟨by decide +kernel, rfl⟩
theorem eX12_formula_45 : sl_D YX12_formula 45 (.aload_n 0) 1 46 := ⟨by decide +kernel, rfl⟩
theorem eX12_formula_46 : sl_D YX12_formula 46 (.iload_n 2) 1 47 := ⟨by decide +kernel, rfl⟩
theorem eX12_formula_47 : sl_D YX12_formula 47 (.invokevirtual 515) 3 50 := ⟨by decide +kernel, rfl⟩
theorem eX12_formula_50 : sl_B YX12_formula 50 (fun o => .ifCond .ne o) 53 59 := ⟨9, by decide +kernel, rfl, by decide⟩
theorem eX12_formula_53 : sl_D YX12_formula 53 (.aload_n 0) 1 54 := ⟨by decide +kernel, rfl⟩
theorem eX12_formula_54 : sl_D YX12_formula 54 (.iconst 5) 1 55 := ⟨by decide +kernel, rfl⟩
theorem eX12_formula_55 : sl_D YX12_formula 55 (.invokevirtual 155) 3 58 := ⟨by decide +kernel, rfl⟩
theorem eX12_formula_58 : sl_D YX12_formula 58 (.ireturn) 1 59 := ⟨by decide +kernel, rfl⟩
theorem eX12_formula_59 : sl_D YX12_formula 59 (.aload_n 0) 1 60 := ⟨by decide +kernel, rfl⟩
theorem eX12_formula_60 : sl_D YX12_formula 60 (.iload_n 1) 1 61 := ⟨by decide +kernel, rfl⟩
theorem eX12_formula_61 : sl_D YX12_formula 61 (.putfield 162) 3 64 := ⟨by decide +kernel, rfl⟩
theorem eX12_formula_64 : sl_D YX12_formula 64 (.aload_n 0) 1 65 := ⟨by decide +kernel, rfl⟩
theorem eX12_formula_65 : sl_D YX12_formula 65 (.iconst 0) 1 66 := ⟨by decide +kernel, rfl⟩
theorem eX12_formula_66 : sl_D YX12_formula 66 (.putfield 302) 3 69 := ⟨by decide +kernel, rfl⟩
theorem eX12_formula_69 : sl_D YX12_formula 69 (.aload_n 0) 1 70 := ⟨by decide +kernel, rfl⟩
theorem eX12_formula_70 : sl_D YX12_formula 70 (.aload_n 0) 1 71 := ⟨by decide +kernel, rfl⟩
theorem eX12_formula_71 : sl_D YX12_formula 71 (.invokevirtual 518) 3 74 := ⟨by decide +kernel, rfl⟩
theorem eX12_formula_74 : sl_D YX12_formula 74 (.putfield 509) 3 77 := ⟨by decide +kernel, rfl⟩
theorem eX12_formula_77 : sl_D YX12_formula 77 (.aload_n 0) 1 78 := ⟨by decide +kernel, rfl⟩
theorem eX12_formula_78 : sl_D YX12_formula 78 (.getfield 509) 3 81 := ⟨by decide +kernel, rfl⟩
theorem eX12_formula_81 : sl_D YX12_formula 81 (.iconst (-1)) 1 82 := ⟨by decide +kernel, rfl⟩
theorem eX12_formula_82 : sl_B YX12_formula 82 (fun o => .if_icmp .eq o) 85 90 := ⟨8, by decide +kernel, rfl, by decide⟩
theorem eX12_formula_85 : sl_D YX12_formula 85 (.aload_n 0) 1 86 := ⟨by decide +kernel, rfl⟩
theorem eX12_formula_86 : sl_D YX12_formula 86 (.iconst 0) 1 87 := ⟨by decide +kernel, rfl⟩
theorem eX12_formula_87 : sl_D YX12_formula 87 (.putfield 417) 3 90 := ⟨by decide +kernel, rfl⟩
theorem eX12_formula_90 : sl_D YX12_formula 90 (.aload_n 0) 1 91 := ⟨by decide +kernel, rfl⟩
theorem eX12_formula_91 : sl_D YX12_formula 91 (.iconst 1) 1 92 := ⟨by decide +kernel, rfl⟩
theorem eX12_formula_92 : sl_D YX12_formula 92 (.putfield 336) 3 95 := ⟨by decide +kernel, rfl⟩
theorem eX12_formula_95 : sl_D YX12_formula 95 (.aload_n 0) 1 96 := ⟨by decide +kernel, rfl⟩
theorem eX12_formula_96 : sl_D YX12_formula 96 (.iload_n 2) 1 97 := ⟨by decide +kernel, rfl⟩
theorem eX12_formula_97 : sl_D YX12_formula 97 (.putfield 521) 3 100 := ⟨by decide +kernel, rfl⟩
theorem eX12_formula_100 : sl_D YX12_formula 100 (.aload_n 0) 1 101 := ⟨by decide +kernel, rfl⟩
theorem eX12_formula_101 : sl_D YX12_formula 101 (.iload_n 2) 1 102 := ⟨by decide +kernel, rfl⟩
theorem eX12_formula_102 : sl_D YX12_formula 102 (.invokevirtual 524) 3 105 := ⟨by decide +kernel, rfl⟩
theorem eX12_formula_105 : sl_D YX12_formula 105 (.aload_n 0) 1 106 := ⟨by decide +kernel, rfl⟩
theorem eX12_formula_106 : sl_D YX12_formula 106 (.invokevirtual 527) 3 109 := ⟨by decide +kernel, rfl⟩
theorem eX12_formula_109 : sl_D YX12_formula 109 (.ireturn) 1 110 := ⟨by decide +kernel, rfl⟩
theorem eX12_isAsked_0 : sl_D YX12_isAsked 0 (.aload_n 0) 1 1 := ⟨by decide +kernel, rfl⟩
theorem eX12_isAsked_1 : sl_D YX12_isAsked 1 (.getfield 317) 3 4 := ⟨by decide +kernel, rfl⟩
theorem eX12_isAsked_4 : sl_B YX12_isAsked 4 (fun o => .ifCond .eq o) 7 27 := ⟨23, by decide +kernel, rfl, by decide⟩
theorem eX12_isAsked_7 : sl_D YX12_isAsked 7 (.aload_n 0) 1 8 := ⟨by decide +kernel, rfl⟩
theorem eX12_isAsked_8 : sl_D YX12_isAsked 8 (.getfield 336) 3 11 := ⟨by decide +kernel, rfl⟩
theorem eX12_isAsked_11 : sl_B YX12_isAsked 11 (fun o => .ifCond .eq o) 14 27 := ⟨16, by decide +kernel, rfl, by decide⟩
theorem eX12_isAsked_14 : sl_D YX12_isAsked 14 (.iload_n 1) 1 15 := ⟨by decide +kernel, rfl⟩
theorem eX12_isAsked_15 : sl_D YX12_isAsked 15 (.iconst 0) 1 16 := ⟨by decide +kernel, rfl⟩
theorem eX12_isAsked_16 : sl_D YX12_isAsked 16 (.iload_n 2) 1 17 := ⟨by decide +kernel, rfl⟩
theorem eX12_isAsked_17 : sl_D YX12_isAsked 17 (.invokestatic 180) 3 20 := ⟨by decide +kernel, rfl⟩
theorem eX12_isAsked_20 : sl_B YX12_isAsked 20 (fun o => .ifCond .eq o) 23 27 := ⟨7, by decide +kernel, rfl, by decide⟩
theorem eX12_isAsked_23 : sl_D YX12_isAsked 23 (.iconst 1) 1 24 := ⟨by decide +kernel, rfl⟩
theorem eX12_isAsked_24 : sl_B YX12_isAsked 24 (fun o => .goto o) 27 28 := ⟨4, by decide +kernel, rfl, by decide⟩
theorem eX12_isAsked_27 : sl_D YX12_isAsked 27 (.iconst 0) 1 28 := ⟨by decide +kernel, rfl⟩
theorem eX12_isAsked_28 : sl_D YX12_isAsked 28 (.ireturn) 1 29 := ⟨by decide +kernel, rfl⟩
theorem eX12_read_0 : sl_D YX12_read 0 (.aload_n 0) 1 1 := ⟨by decide +kernel, rfl⟩
theorem eX12_read_1 : sl_D YX12_read 1 (.iconst 0) 1 2 := ⟨by decide +kernel, rfl⟩
theorem eX12_read_2 : sl_D YX12_read 2 (.putfield 149) 3 5 := ⟨by decide +kernel, rfl⟩
theorem eX12_read_5 : sl_D YX12_read 5 (.aload_n 0) 1 6 := ⟨by decide +kernel, rfl⟩
theorem eX12_read_6 : sl_D YX12_read 6 (.iload_n 1) 1 7 := ⟨by decide +kernel, rfl⟩
theorem eX12_read_7 : sl_D YX12_read 7 (.iconst 4) 1 8 := ⟨by decide +kernel, rfl⟩
theorem eX12_read_8 : sl_D YX12_read 8 (.invokevirtual 530) 3 11 := ⟨by decide +kernel, rfl⟩
theorem eX12_read_11 : sl_B YX12_read 11 (fun o => .ifCond .ne o) 14 20 := ⟨9, by decide +kernel, rfl, by decide⟩
theorem eX12_read_14 : sl_D YX12_read 14 (.aload_n 0) 1 15 := ⟨by decide +kernel, rfl⟩
theorem eX12_read_15 : sl_D YX12_read 15 (.iconst 1) 1 16 := ⟨by decide +kernel, rfl⟩
theorem eX12_read_16 : sl_D YX12_read 16 (.invokevirtual 155) 3 19 := ⟨by decide +kernel, rfl⟩
theorem eX12_read_19 : sl_D YX12_read 19 (.ireturn) 1 20 := ⟨by decide +kernel, rfl⟩
theorem eX12_read_20 : sl_D YX12_read 20 (.aload_n 0) 1 21 := ⟨by decide +kernel, rfl⟩
theorem eX12_read_21 : sl_D YX12_read 21 (.aload_n 0) 1 22 := ⟨by decide +kernel, rfl⟩
theorem eX12_read_22 : sl_D YX12_read 22 (.getfield 521) 3 25 := ⟨by decide +kernel, rfl⟩
theorem eX12_read_25 : sl_D YX12_read 25 (.invokevirtual 524) 3 28 := ⟨by decide +kernel, rfl⟩
theorem eX12_read_28 : sl_D YX12_read 28 (.iload_n 1) 1 29 := ⟨by decide +kernel, rfl⟩
theorem eX12_read_29 : decode YX12_read.2.1 29 = .ok (.tableswitch 67 0 3 #[31, 40, 49, 58], 31) := by decide +kernel
theorem eX12_read_60 : sl_D YX12_read 60 (.aload_n 0) 1 61 := ⟨by decide +kernel, rfl⟩
theorem eX12_read_61 : sl_D YX12_read 61 (.aload_n 0) 1 62 := ⟨by decide +kernel, rfl⟩
theorem eX12_read_62 : sl_D YX12_read 62 (.getfield 441) 3 65 := ⟨by decide +kernel, rfl⟩
theorem eX12_read_65 : sl_D YX12_read 65 (.invokevirtual 314) 3 68 := ⟨by decide +kernel, rfl⟩
theorem eX12_read_68 : sl_D YX12_read 68 (.ireturn) 1 69 := ⟨by decide +kernel, rfl⟩
theorem eX12_read_69 : sl_D YX12_read 69 (.aload_n 0) 1 70 := ⟨by decide +kernel, rfl⟩
theorem eX12_read_70 : sl_D YX12_read 70 (.aload_n 0) 1 71 := ⟨by decide +kernel, rfl⟩
theorem eX12_read_71 : sl_D YX12_read 71 (.getfield 417) 3 74 := ⟨by decide +kernel, rfl⟩
theorem eX12_read_74 : sl_D YX12_read 74 (.invokevirtual 314) 3 77 := ⟨by decide +kernel, rfl⟩
theorem eX12_read_77 : sl_D YX12_read 77 (.ireturn) 1 78 := ⟨by decide +kernel, rfl⟩
theorem eX12_read_78 : sl_D YX12_read 78 (.aload_n 0) 1 79 := ⟨by decide +kernel, rfl⟩
theorem eX12_read_79 : sl_D YX12_read 79 (.aload_n 0) 1 80 := ⟨by decide +kernel, rfl⟩
theorem eX12_read_80 : sl_D YX12_read 80 (.getfield 444) 3 83 := ⟨by decide +kernel, rfl⟩
theorem eX12_read_83 : sl_D YX12_read 83 (.invokevirtual 314) 3 86 := ⟨by decide +kernel, rfl⟩
theorem eX12_read_86 : sl_D YX12_read 86 (.ireturn) 1 87 := ⟨by decide +kernel, rfl⟩
theorem eX12_read_87 : sl_D YX12_read 87 (.aload_n 0) 1 88 := ⟨by decide +kernel, rfl⟩
theorem eX12_read_88 : sl_D YX12_read 88 (.aload_n 0) 1 89 := ⟨by decide +kernel, rfl⟩
theorem eX12_read_89 : sl_D YX12_read 89 (.getfield 447) 3 92 := ⟨by decide +kernel, rfl⟩
theorem eX12_read_92 : sl_D YX12_read 92 (.invokevirtual 314) 3 95 := ⟨by decide +kernel, rfl⟩
theorem eX12_read_95 : sl_D YX12_read 95 (.ireturn) 1 96 := ⟨by decide +kernel, rfl⟩
theorem eX12_read_96 : sl_D YX12_read 96 (.aload_n 0) 1 97 := ⟨by decide +kernel, rfl⟩
theorem eX12_read_97 : sl_D YX12_read 97 (.aload_n 0) 1 98 := ⟨by decide +kernel, rfl⟩
theorem eX12_read_98 : sl_D YX12_read 98 (.getfield 450) 3 101 := ⟨by decide +kernel, rfl⟩
theorem eX12_read_101 : sl_D YX12_read 101 (.invokevirtual 314) 3 104 := ⟨by decide +kernel, rfl⟩
theorem eX12_read_104 : sl_D YX12_read 104 (.ireturn) 1 105 := ⟨by decide +kernel, rfl⟩
theorem eX12_reduced_0 : sl_D YX12_reduced 0 (.aload_n 0) 1 1 := ⟨by decide +kernel, rfl⟩
theorem eX12_reduced_1 : sl_D YX12_reduced 1 (.iconst 0) 1 2 := ⟨by decide +kernel, rfl⟩
theorem eX12_reduced_2 : sl_D YX12_reduced 2 (.putfield 149) 3 5 := ⟨by decide +kernel, rfl⟩
theorem eX12_reduced_5 : sl_D YX12_reduced 5 (.aload_n 0) 1 6 := ⟨by decide +kernel, rfl⟩
theorem eX12_reduced_6 : sl_D YX12_reduced 6 (.iconst 0) 1 7 := ⟨by decide +kernel, rfl⟩
theorem eX12_reduced_7 : sl_D YX12_reduced 7 (.iconst 0) 1 8 := ⟨by decide +kernel, rfl⟩
theorem eX12_reduced_8 : sl_D YX12_reduced 8 (.invokevirtual 530) 3 11 := ⟨by decide +kernel, rfl⟩
theorem eX12_reduced_11 : sl_B YX12_reduced 11 (fun o => .ifCond .ne o) 14 20 := ⟨9, by decide +kernel, rfl, by decide⟩
theorem eX12_reduced_14 : sl_D YX12_reduced 14 (.aload_n 0) 1 15 := ⟨by decide +kernel, rfl⟩
theorem eX12_reduced_15 : sl_D YX12_reduced 15 (.iconst 1) 1 16 := ⟨by decide +kernel, rfl⟩
theorem eX12_reduced_16 : sl_D YX12_reduced 16 (.invokevirtual 155) 3 19 := ⟨by decide +kernel, rfl⟩
theorem eX12_reduced_19 : sl_D YX12_reduced 19 (.ireturn) 1 20 := ⟨by decide +kernel, rfl⟩
theorem eX12_reduced_20 : sl_D YX12_reduced 20 (.aload_n 0) 1 21 := ⟨by decide +kernel, rfl⟩
theorem eX12_reduced_21 : sl_D YX12_reduced 21 (.aload_n 0) 1 22 := ⟨by decide +kernel, rfl⟩
theorem eX12_reduced_22 : sl_D YX12_reduced 22 (.getfield 521) 3 25 := ⟨by decide +kernel, rfl⟩
theorem eX12_reduced_25 : sl_D YX12_reduced 25 (.invokevirtual 524) 3 28 := ⟨by decide +kernel, rfl⟩
theorem eX12_reduced_28 : sl_D YX12_reduced 28 (.iload_n 1) 1 29 := ⟨by decide +kernel, rfl⟩
theorem eX12_reduced_29 : sl_D YX12_reduced 29 (.iconst 0) 1 30 := ⟨by decide +kernel, rfl⟩
theorem eX12_reduced_30 : sl_D YX12_reduced 30 (.aload_n 0) 1 31 := ⟨by decide +kernel, rfl⟩
theorem eX12_reduced_31 : sl_D YX12_reduced 31 (.getfield 447) 3 34 := ⟨by decide +kernel, rfl⟩
theorem eX12_reduced_34 : sl_D YX12_reduced 34 (.iconst 1) 1 35 := ⟨by decide +kernel, rfl⟩
theorem eX12_reduced_35 : sl_D YX12_reduced 35 (.isub) 1 36 := ⟨by decide +kernel, rfl⟩
theorem eX12_reduced_36 : sl_D YX12_reduced 36 (.invokestatic 180) 3 39 := ⟨by decide +kernel, rfl⟩
theorem eX12_reduced_39 : sl_B YX12_reduced 39 (fun o => .ifCond .eq o) 42 55 := ⟨16, by decide +kernel, rfl, by decide⟩
theorem eX12_reduced_42 : sl_D YX12_reduced 42 (.aload_n 0) 1 43 := ⟨by decide +kernel, rfl⟩
theorem eX12_reduced_43 : sl_D YX12_reduced 43 (.aload_n 0) 1 44 := ⟨by decide +kernel, rfl⟩
theorem eX12_reduced_44 : sl_D YX12_reduced 44 (.getfield 107) 3 47 := ⟨by decide +kernel, rfl⟩
theorem eX12_reduced_47 : sl_D YX12_reduced 47 (.iload_n 1) 1 48 := ⟨by decide +kernel, rfl⟩
theorem eX12_reduced_48 : sl_D YX12_reduced 48 (.iaload) 1 49 := ⟨by decide +kernel, rfl⟩
theorem eX12_reduced_49 : sl_D YX12_reduced 49 (.invokevirtual 314) 3 52 := ⟨by decide +kernel, rfl⟩
theorem eX12_reduced_52 : sl_B YX12_reduced 52 (fun o => .goto o) 55 60 := ⟨8, by decide +kernel, rfl, by decide⟩
theorem eX12_reduced_55 : sl_D YX12_reduced 55 (.aload_n 0) 1 56 := ⟨by decide +kernel, rfl⟩
theorem eX12_reduced_56 : sl_D YX12_reduced 56 (.iconst 1) 1 57 := ⟨by decide +kernel, rfl⟩
theorem eX12_reduced_57 : sl_D YX12_reduced 57 (.invokevirtual 155) 3 60 := ⟨by decide +kernel, rfl⟩
theorem eX12_reduced_60 : sl_D YX12_reduced 60 (.ireturn) 1 61 := ⟨by decide +kernel, rfl⟩
theorem eX12_isNode_0 : sl_D YX12_isNode 0 (.aload_n 0) 1 1 := ⟨by decide +kernel, rfl⟩
theorem eX12_isNode_1 : sl_D YX12_isNode 1 (.iconst 0) 1 2 := ⟨by decide +kernel, rfl⟩
theorem eX12_isNode_2 : sl_D YX12_isNode 2 (.iconst 0) 1 3 := ⟨by decide +kernel, rfl⟩
theorem eX12_isNode_3 : sl_D YX12_isNode 3 (.invokevirtual 530) 3 6 := ⟨by decide +kernel, rfl⟩
theorem eX12_isNode_6 : sl_B YX12_isNode 6 (fun o => .ifCond .ne o) 9 11 := ⟨5, by decide +kernel, rfl, by decide⟩
theorem eX12_isNode_9 : sl_D YX12_isNode 9 (.iconst 0) 1 10 := ⟨by decide +kernel, rfl⟩
theorem eX12_isNode_10 : sl_D YX12_isNode 10 (.ireturn) 1 11 := ⟨by decide +kernel, rfl⟩
theorem eX12_isNode_11 : sl_D YX12_isNode 11 (.aload_n 0) 1 12 := ⟨by decide +kernel, rfl⟩
theorem eX12_isNode_12 : sl_D YX12_isNode 12 (.aload_n 0) 1 13 := ⟨by decide +kernel, rfl⟩
theorem eX12_isNode_13 : sl_D YX12_isNode 13 (.getfield 521) 3 16 := ⟨by decide +kernel, rfl⟩
theorem eX12_isNode_16 : sl_D YX12_isNode 16 (.invokevirtual 524) 3 19 := ⟨by decide +kernel, rfl⟩
theorem eX12_isNode_19 : sl_D YX12_isNode 19 (.iload_n 1) 1 20 := ⟨by decide +kernel, rfl⟩
theorem eX12_isNode_20 : sl_D YX12_isNode 20 (.iconst 0) 1 21 := ⟨by decide +kernel, rfl⟩
theorem eX12_isNode_21 : sl_D YX12_isNode 21 (.aload_n 0) 1 22 := ⟨by decide +kernel, rfl⟩
theorem eX12_isNode_22 : sl_D YX12_isNode 22 (.getfield 447) 3 25 := ⟨by decide +kernel, rfl⟩
theorem eX12_isNode_25 : sl_D YX12_isNode 25 (.iconst 1) 1 26 := ⟨by decide +kernel, rfl⟩
theorem eX12_isNode_26 : sl_D YX12_isNode 26 (.isub) 1 27 := ⟨by decide +kernel, rfl⟩
theorem eX12_isNode_27 : sl_D YX12_isNode 27 (.invokestatic 180) 3 30 := ⟨by decide +kernel, rfl⟩
theorem eX12_isNode_30 : sl_D YX12_isNode 30 (.ireturn) 1 31 := ⟨by decide +kernel, rfl⟩
theorem eX12_node_0 : sl_D YX12_node 0 (.aload_n 0) 1 1 := ⟨by decide +kernel, rfl⟩
theorem eX12_node_1 : sl_D YX12_node 1 (.iconst 0) 1 2 := ⟨by decide +kernel, rfl⟩
theorem eX12_node_2 : sl_D YX12_node 2 (.putfield 149) 3 5 := ⟨by decide +kernel, rfl⟩
theorem eX12_node_5 : sl_D YX12_node 5 (.iload_n 2) 1 6 := ⟨by decide +kernel, rfl⟩
theorem eX12_node_6 : sl_D YX12_node 6 (.iconst 0) 1 7 := ⟨by decide +kernel, rfl⟩
theorem eX12_node_7 : sl_D YX12_node 7 (.iconst 4) 1 8 := ⟨by decide +kernel, rfl⟩
theorem eX12_node_8 : sl_D YX12_node 8 (.invokestatic 180) 3 11 := ⟨by decide +kernel, rfl⟩
theorem eX12_node_11 : sl_B YX12_node 11 (fun o => .ifCond .eq o) 14 22 := ⟨11, by decide +kernel, rfl, by decide⟩
theorem eX12_node_14 : sl_D YX12_node 14 (.aload_n 0) 1 15 := ⟨by decide +kernel, rfl⟩
theorem eX12_node_15 : sl_D YX12_node 15 (.iload_n 1) 1 16 := ⟨by decide +kernel, rfl⟩
theorem eX12_node_16 : sl_D YX12_node 16 (.invokevirtual 533) 3 19 := ⟨by decide +kernel, rfl⟩
theorem eX12_node_19 : sl_B YX12_node 19 (fun o => .ifCond .ne o) 22 28 := ⟨9, by decide +kernel, rfl, by decide⟩
theorem eX12_node_22 : sl_D YX12_node 22 (.aload_n 0) 1 23 := ⟨by decide +kernel, rfl⟩
theorem eX12_node_23 : sl_D YX12_node 23 (.iconst 1) 1 24 := ⟨by decide +kernel, rfl⟩
theorem eX12_node_24 : sl_D YX12_node 24 (.invokevirtual 536) 3 27 := ⟨by decide +kernel, rfl⟩
theorem eX12_node_27 : sl_D YX12_node 27 (.ireturn) 1 28 := ⟨by decide +kernel, rfl⟩
theorem eX12_node_28 : sl_D YX12_node 28 (.iload_n 2) 1 29 := ⟨by decide +kernel, rfl⟩
theorem eX12_node_29 : decode YX12_node.2.1 29 = .ok (.tableswitch 83 0 3 #[31, 42, 53, 64], 31) := by decide +kernel
theorem eX12_node_60 : sl_D YX12_node 60 (.aload_n 0) 1 61 := ⟨by decide +kernel, rfl⟩
theorem eX12_node_61 : sl_D YX12_node 61 (.aload_n 0) 1 62 := ⟨by decide +kernel, rfl⟩
theorem eX12_node_62 : sl_D YX12_node 62 (.getfield 131) 3 65 := ⟨by decide +kernel, rfl⟩
theorem eX12_node_65 : sl_D YX12_node 65 (.iload_n 1) 1 66 := ⟨by decide +kernel, rfl⟩
theorem eX12_node_66 : sl_D YX12_node 66 (.iaload) 1 67 := ⟨by decide +kernel, rfl⟩
theorem eX12_node_67 : sl_D YX12_node 67 (.invokevirtual 314) 3 70 := ⟨by decide +kernel, rfl⟩
theorem eX12_node_70 : sl_D YX12_node 70 (.ireturn) 1 71 := ⟨by decide +kernel, rfl⟩
theorem eX12_node_71 : sl_D YX12_node 71 (.aload_n 0) 1 72 := ⟨by decide +kernel, rfl⟩
theorem eX12_node_72 : sl_D YX12_node 72 (.aload_n 0) 1 73 := ⟨by decide +kernel, rfl⟩
theorem eX12_node_73 : sl_D YX12_node 73 (.getfield 134) 3 76 := ⟨by decide +kernel, rfl⟩
theorem eX12_node_76 : sl_D YX12_node 76 (.iload_n 1) 1 77 := ⟨by decide +kernel, rfl⟩
theorem eX12_node_77 : sl_D YX12_node 77 (.iaload) 1 78 := ⟨by decide +kernel, rfl⟩
theorem eX12_node_78 : sl_D YX12_node 78 (.invokevirtual 314) 3 81 := ⟨by decide +kernel, rfl⟩
theorem eX12_node_81 : sl_D YX12_node 81 (.ireturn) 1 82 := ⟨by decide +kernel, rfl⟩
theorem eX12_node_82 : sl_D YX12_node 82 (.aload_n 0) 1 83 := ⟨by decide +kernel, rfl⟩
theorem eX12_node_83 : sl_D YX12_node 83 (.aload_n 0) 1 84 := ⟨by decide +kernel, rfl⟩
theorem eX12_node_84 : sl_D YX12_node 84 (.getfield 137) 3 87 := ⟨by decide +kernel, rfl⟩
theorem eX12_node_87 : sl_D YX12_node 87 (.iload_n 1) 1 88 := ⟨by decide +kernel, rfl⟩
theorem eX12_node_88 : sl_D YX12_node 88 (.iaload) 1 89 := ⟨by decide +kernel, rfl⟩
theorem eX12_node_89 : sl_D YX12_node 89 (.invokevirtual 314) 3 92 := ⟨by decide +kernel, rfl⟩
theorem eX12_node_92 : sl_D YX12_node 92 (.ireturn) 1 93 := ⟨by decide +kernel, rfl⟩
theorem eX12_node_93 : sl_D YX12_node 93 (.aload_n 0) 1 94 := ⟨by decide +kernel, rfl⟩
theorem eX12_node_94 : sl_D YX12_node 94 (.aload_n 0) 1 95 := ⟨by decide +kernel, rfl⟩
theorem eX12_node_95 : sl_D YX12_node 95 (.getfield 143) 3 98 := ⟨by decide +kernel, rfl⟩
theorem eX12_node_98 : sl_D YX12_node 98 (.iload_n 1) 1 99 := ⟨by decide +kernel, rfl⟩
theorem eX12_node_99 : sl_D YX12_node 99 (.baload) 1 100 := ⟨by decide +kernel, rfl⟩
theorem eX12_node_100 : sl_B YX12_node 100 (fun o => .ifCond .eq o) 103 107 := ⟨7, by decide +kernel, rfl, by decide⟩
theorem eX12_node_103 : sl_D YX12_node 103 (.iconst 1) 1 104 := ⟨by decide +kernel, rfl⟩
theorem eX12_node_104 : sl_B YX12_node 104 (fun o => .goto o) 107 108 := ⟨4, by decide +kernel, rfl, by decide⟩
theorem eX12_node_107 : sl_D YX12_node 107 (.iconst 0) 1 108 := ⟨by decide +kernel, rfl⟩
theorem eX12_node_108 : sl_D YX12_node 108 (.invokevirtual 314) 3 111 := ⟨by decide +kernel, rfl⟩
theorem eX12_node_111 : sl_D YX12_node 111 (.ireturn) 1 112 := ⟨by decide +kernel, rfl⟩
theorem eX12_node_112 : sl_D YX12_node 112 (.aload_n 0) 1 113 := ⟨by decide +kernel, rfl⟩
theorem eX12_node_113 : sl_D YX12_node 113 (.aload_n 0) 1 114 := ⟨by decide +kernel, rfl⟩
theorem eX12_node_114 : sl_D YX12_node 114 (.getfield 140) 3 117 := ⟨by decide +kernel, rfl⟩
theorem eX12_node_117 : sl_D YX12_node 117 (.iload_n 1) 1 118 := ⟨by decide +kernel, rfl⟩
theorem eX12_node_118 : sl_D YX12_node 118 (.iaload) 1 119 := ⟨by decide +kernel, rfl⟩
theorem eX12_node_119 : sl_D YX12_node 119 (.invokevirtual 314) 3 122 := ⟨by decide +kernel, rfl⟩
theorem eX12_node_122 : sl_D YX12_node 122 (.ireturn) 1 123 := ⟨by decide +kernel, rfl⟩
theorem eX12_countUnder_0 : sl_D YX12_countUnder 0 (.iload_n 1) 1 1 := ⟨by decide +kernel, rfl⟩
theorem eX12_countUnder_1 : sl_D YX12_countUnder 1 (.bipush (-2)) 2 3 := ⟨by decide +kernel, rfl⟩
theorem eX12_countUnder_3 : sl_B YX12_countUnder 3 (fun o => .if_icmp .ne o) 6 10 := ⟨7, by decide +kernel, rfl, by decide⟩
theorem eX12_countUnder_6 : sl_D YX12_countUnder 6 (.iconst 0) 1 7 := ⟨by decide +kernel, rfl⟩
theorem eX12_countUnder_7 : sl_B YX12_countUnder 7 (fun o => .goto o) 10 33 := ⟨26, by decide +kernel, rfl, by decide⟩
theorem eX12_countUnder_10 : sl_D YX12_countUnder 10 (.iconst 1) 1 11 := ⟨by decide +kernel, rfl⟩
theorem eX12_countUnder_11 : sl_D YX12_countUnder 11 (.aload_n 0) 1 12 := ⟨by decide +kernel, rfl⟩
theorem eX12_countUnder_12 : sl_D YX12_countUnder 12 (.aload_n 0) 1 13 := ⟨by decide +kernel, rfl⟩
theorem eX12_countUnder_13 : sl_D YX12_countUnder 13 (.getfield 131) 3 16 := ⟨by decide +kernel, rfl⟩
theorem eX12_countUnder_16 : sl_D YX12_countUnder 16 (.iload_n 1) 1 17 := ⟨by decide +kernel, rfl⟩
theorem eX12_countUnder_17 : sl_D YX12_countUnder 17 (.iaload) 1 18 := ⟨by decide +kernel, rfl⟩
theorem eX12_countUnder_18 : sl_D YX12_countUnder 18 (.invokevirtual 539) 3 21 := ⟨by decide +kernel, rfl⟩
theorem eX12_countUnder_21 : sl_D YX12_countUnder 21 (.iadd) 1 22 := ⟨by decide +kernel, rfl⟩
theorem eX12_countUnder_22 : sl_D YX12_countUnder 22 (.aload_n 0) 1 23 := ⟨by decide +kernel, rfl⟩
theorem eX12_countUnder_23 : sl_D YX12_countUnder 23 (.aload_n 0) 1 24 := ⟨by decide +kernel, rfl⟩
theorem eX12_countUnder_24 : sl_D YX12_countUnder 24 (.getfield 134) 3 27 := ⟨by decide +kernel, rfl⟩
theorem eX12_countUnder_27 : sl_D YX12_countUnder 27 (.iload_n 1) 1 28 := ⟨by decide +kernel, rfl⟩
theorem eX12_countUnder_28 : sl_D YX12_countUnder 28 (.iaload) 1 29 := ⟨by decide +kernel, rfl⟩
theorem eX12_countUnder_29 : sl_D YX12_countUnder 29 (.invokevirtual 539) 3 32 := ⟨by decide +kernel, rfl⟩
theorem eX12_countUnder_32 : sl_D YX12_countUnder 32 (.iadd) 1 33 := ⟨by decide +kernel, rfl⟩
theorem eX12_countUnder_33 : sl_D YX12_countUnder 33 (.ireturn) 1 34 := ⟨by decide +kernel, rfl⟩
theorem eX12_under_0 : sl_D YX12_under 0 (.aload_n 0) 1 1 := ⟨by decide +kernel, rfl⟩
theorem eX12_under_1 : sl_D YX12_under 1 (.iconst 0) 1 2 := ⟨by decide +kernel, rfl⟩
theorem eX12_under_2 : sl_D YX12_under 2 (.putfield 149) 3 5 := ⟨by decide +kernel, rfl⟩
theorem eX12_under_5 : sl_D YX12_under 5 (.aload_n 0) 1 6 := ⟨by decide +kernel, rfl⟩
theorem eX12_under_6 : sl_D YX12_under 6 (.iload_n 1) 1 7 := ⟨by decide +kernel, rfl⟩
theorem eX12_under_7 : sl_D YX12_under 7 (.invokevirtual 533) 3 10 := ⟨by decide +kernel, rfl⟩
theorem eX12_under_10 : sl_B YX12_under 10 (fun o => .ifCond .eq o) 13 28 := ⟨18, by decide +kernel, rfl, by decide⟩
theorem eX12_under_13 : sl_D YX12_under 13 (.iload_n 2) 1 14 := ⟨by decide +kernel, rfl⟩
theorem eX12_under_14 : sl_D YX12_under 14 (.iconst 0) 1 15 := ⟨by decide +kernel, rfl⟩
theorem eX12_under_15 : sl_D YX12_under 15 (.aload_n 0) 1 16 := ⟨by decide +kernel, rfl⟩
theorem eX12_under_16 : sl_D YX12_under 16 (.iload_n 1) 1 17 := ⟨by decide +kernel, rfl⟩
theorem eX12_under_17 : sl_D YX12_under 17 (.invokevirtual 539) 3 20 := ⟨by decide +kernel, rfl⟩
theorem eX12_under_20 : sl_D YX12_under 20 (.iconst 1) 1 21 := ⟨by decide +kernel, rfl⟩
theorem eX12_under_21 : sl_D YX12_under 21 (.isub) 1 22 := ⟨by decide +kernel, rfl⟩
theorem eX12_under_22 : sl_D YX12_under 22 (.invokestatic 180) 3 25 := ⟨by decide +kernel, rfl⟩
theorem eX12_under_25 : sl_B YX12_under 25 (fun o => .ifCond .ne o) 28 34 := ⟨9, by decide +kernel, rfl, by decide⟩
theorem eX12_under_28 : sl_D YX12_under 28 (.aload_n 0) 1 29 := ⟨by decide +kernel, rfl⟩
theorem eX12_under_29 : sl_D YX12_under 29 (.iconst 1) 1 30 := ⟨by decide +kernel, rfl⟩
theorem eX12_under_30 : sl_D YX12_under 30 (.invokevirtual 155) 3 33 := ⟨by decide +kernel, rfl⟩
theorem eX12_under_33 : sl_D YX12_under 33 (.ireturn) 1 34 := ⟨by decide +kernel, rfl⟩
theorem eX12_under_34 : sl_D YX12_under 34 (.iload_n 1) 1 35 := ⟨by decide +kernel, rfl⟩
theorem eX12_under_35 : sl_D YX12_under 35 (.istore_n 3) 1 36 := ⟨by decide +kernel, rfl⟩
theorem eX12_under_36 : sl_D YX12_under 36 (.iload_n 2) 1 37 := ⟨by decide +kernel, rfl⟩
theorem eX12_under_37 : sl_D YX12_under 37 (.istore 4) 2 39 := ⟨by decide +kernel, rfl⟩
theorem eX12_under_39 : sl_D YX12_under 39 (.iload 4) 2 41 := ⟨by decide +kernel, rfl⟩
theorem eX12_under_41 : sl_B YX12_under 41 (fun o => .ifCond .le o) 44 93 := ⟨52, by decide +kernel, rfl, by decide⟩
theorem eX12_under_44 : sl_D YX12_under 44 (.aload_n 0) 1 45 := ⟨by decide +kernel, rfl⟩
theorem eX12_under_45 : sl_D YX12_under 45 (.aload_n 0) 1 46 := ⟨by decide +kernel, rfl⟩
theorem eX12_under_46 : sl_D YX12_under 46 (.getfield 131) 3 49 := ⟨by decide +kernel, rfl⟩
theorem eX12_under_49 : sl_D YX12_under 49 (.iload_n 3) 1 50 := ⟨by decide +kernel, rfl⟩
theorem eX12_under_50 : sl_D YX12_under 50 (.iaload) 1 51 := ⟨by decide +kernel, rfl⟩
theorem eX12_under_51 : sl_D YX12_under 51 (.invokevirtual 539) 3 54 := ⟨by decide +kernel, rfl⟩
theorem eX12_under_54 : sl_D YX12_under 54 (.istore 5) 2 56 := ⟨by decide +kernel, rfl⟩
theorem eX12_under_56 : sl_D YX12_under 56 (.iinc 4 (-1)) 3 59 := ⟨by decide +kernel, rfl⟩
theorem eX12_under_59 : sl_D YX12_under 59 (.iload 4) 2 61 := ⟨by decide +kernel, rfl⟩
theorem eX12_under_61 : sl_D YX12_under 61 (.iload 5) 2 63 := ⟨by decide +kernel, rfl⟩
theorem eX12_under_63 : sl_B YX12_under 63 (fun o => .if_icmp .ge o) 66 76 := ⟨13, by decide +kernel, rfl, by decide⟩
theorem eX12_under_66 : sl_D YX12_under 66 (.aload_n 0) 1 67 := ⟨by decide +kernel, rfl⟩
theorem eX12_under_67 : sl_D YX12_under 67 (.getfield 131) 3 70 := ⟨by decide +kernel, rfl⟩
theorem eX12_under_70 : sl_D YX12_under 70 (.iload_n 3) 1 71 := ⟨by decide +kernel, rfl⟩
theorem eX12_under_71 : sl_D YX12_under 71 (.iaload) 1 72 := ⟨by decide +kernel, rfl⟩
theorem eX12_under_72 : sl_D YX12_under 72 (.istore_n 3) 1 73 := ⟨by decide +kernel, rfl⟩
theorem eX12_under_73 : sl_B YX12_under 73 (fun o => .goto o) 76 90 := ⟨17, by decide +kernel, rfl, by decide⟩
theorem eX12_under_76 : sl_D YX12_under 76 (.iload 4) 2 78 := ⟨by decide +kernel, rfl⟩
theorem eX12_under_78 : sl_D YX12_under 78 (.iload 5) 2 80 := ⟨by decide +kernel, rfl⟩
theorem eX12_under_80 : sl_D YX12_under 80 (.isub) 1 81 := ⟨by decide +kernel, rfl⟩
theorem eX12_under_81 : sl_D YX12_under 81 (.istore 4) 2 83 := ⟨by decide +kernel, rfl⟩
theorem eX12_under_83 : sl_D YX12_under 83 (.aload_n 0) 1 84 := ⟨by decide +kernel, rfl⟩
theorem eX12_under_84 : sl_D YX12_under 84 (.getfield 134) 3 87 := ⟨by decide +kernel, rfl⟩
theorem eX12_under_87 : sl_D YX12_under 87 (.iload_n 3) 1 88 := ⟨by decide +kernel, rfl⟩
theorem eX12_under_88 : sl_D YX12_under 88 (.iaload) 1 89 := ⟨by decide +kernel, rfl⟩
theorem eX12_under_89 : sl_D YX12_under 89 (.istore_n 3) 1 90 := ⟨by decide +kernel, rfl⟩
theorem eX12_under_90 : sl_B YX12_under 90 (fun o => .goto o) 93 39 := ⟨-51, by decide +kernel, rfl, by decide⟩
theorem eX12_under_93 : sl_D YX12_under 93 (.aload_n 0) 1 94 := ⟨by decide +kernel, rfl⟩
theorem eX12_under_94 : sl_D YX12_under 94 (.iload_n 3) 1 95 := ⟨by decide +kernel, rfl⟩
theorem eX12_under_95 : sl_D YX12_under 95 (.invokevirtual 314) 3 98 := ⟨by decide +kernel, rfl⟩
theorem eX12_under_98 : sl_D YX12_under 98 (.ireturn) 1 99 := ⟨by decide +kernel, rfl⟩
theorem eX12_hasIt_0 : sl_D YX12_hasIt 0 (.aload_n 0) 1 1 := ⟨by decide +kernel, rfl⟩
theorem eX12_hasIt_1 : sl_D YX12_hasIt 1 (.iconst 0) 1 2 := ⟨by decide +kernel, rfl⟩
theorem eX12_hasIt_2 : sl_D YX12_hasIt 2 (.iconst 0) 1 3 := ⟨by decide +kernel, rfl⟩
theorem eX12_hasIt_3 : sl_D YX12_hasIt 3 (.invokevirtual 530) 3 6 := ⟨by decide +kernel, rfl⟩
theorem eX12_hasIt_6 : sl_B YX12_hasIt 6 (fun o => .ifCond .ne o) 9 11 := ⟨5, by decide +kernel, rfl, by decide⟩
theorem eX12_hasIt_9 : sl_D YX12_hasIt 9 (.iconst 0) 1 10 := ⟨by decide +kernel, rfl⟩
theorem eX12_hasIt_10 : sl_D YX12_hasIt 10 (.ireturn) 1 11 := ⟨by decide +kernel, rfl⟩
theorem eX12_hasIt_11 : sl_D YX12_hasIt 11 (.aload_n 0) 1 12 := ⟨by decide +kernel, rfl⟩
theorem eX12_hasIt_12 : sl_D YX12_hasIt 12 (.aload_n 0) 1 13 := ⟨by decide +kernel, rfl⟩
theorem eX12_hasIt_13 : sl_D YX12_hasIt 13 (.getfield 521) 3 16 := ⟨by decide +kernel, rfl⟩
theorem eX12_hasIt_16 : sl_D YX12_hasIt 16 (.invokevirtual 524) 3 19 := ⟨by decide +kernel, rfl⟩
theorem eX12_hasIt_19 : sl_D YX12_hasIt 19 (.aload_n 0) 1 20 := ⟨by decide +kernel, rfl⟩
theorem eX12_hasIt_20 : sl_D YX12_hasIt 20 (.getfield 441) 3 23 := ⟨by decide +kernel, rfl⟩
theorem eX12_hasIt_23 : sl_B YX12_hasIt 23 (fun o => .ifCond .ne o) 26 30 := ⟨7, by decide +kernel, rfl, by decide⟩
theorem eX12_hasIt_26 : sl_D YX12_hasIt 26 (.iconst 1) 1 27 := ⟨by decide +kernel, rfl⟩
theorem eX12_hasIt_27 : sl_B YX12_hasIt 27 (fun o => .goto o) 30 31 := ⟨4, by decide +kernel, rfl, by decide⟩
theorem eX12_hasIt_30 : sl_D YX12_hasIt 30 (.iconst 0) 1 31 := ⟨by decide +kernel, rfl⟩
theorem eX12_hasIt_31 : sl_D YX12_hasIt 31 (.ireturn) 1 32 := ⟨by decide +kernel, rfl⟩
theorem eX12_value_0 : sl_D YX12_value 0 (.aload_n 0) 1 1 := ⟨by decide +kernel, rfl⟩
theorem eX12_value_1 : sl_D YX12_value 1 (.iconst 0) 1 2 := ⟨by decide +kernel, rfl⟩
theorem eX12_value_2 : sl_D YX12_value 2 (.putfield 149) 3 5 := ⟨by decide +kernel, rfl⟩
theorem eX12_value_5 : sl_D YX12_value 5 (.iload_n 1) 1 6 := ⟨by decide +kernel, rfl⟩
theorem eX12_value_6 : sl_D YX12_value 6 (.iconst 0) 1 7 := ⟨by decide +kernel, rfl⟩
theorem eX12_value_7 : sl_D YX12_value 7 (.iconst 2) 1 8 := ⟨by decide +kernel, rfl⟩
theorem eX12_value_8 : sl_D YX12_value 8 (.invokestatic 180) 3 11 := ⟨by decide +kernel, rfl⟩
theorem eX12_value_11 : sl_B YX12_value 11 (fun o => .ifCond .eq o) 14 21 := ⟨10, by decide +kernel, rfl, by decide⟩
theorem eX12_value_14 : sl_D YX12_value 14 (.aload_n 0) 1 15 := ⟨by decide +kernel, rfl⟩
theorem eX12_value_15 : sl_D YX12_value 15 (.invokevirtual 542) 3 18 := ⟨by decide +kernel, rfl⟩
theorem eX12_value_18 : sl_B YX12_value 18 (fun o => .ifCond .ne o) 21 27 := ⟨9, by decide +kernel, rfl, by decide⟩
theorem eX12_value_21 : sl_D YX12_value 21 (.aload_n 0) 1 22 := ⟨by decide +kernel, rfl⟩
theorem eX12_value_22 : sl_D YX12_value 22 (.iconst 1) 1 23 := ⟨by decide +kernel, rfl⟩
theorem eX12_value_23 : sl_D YX12_value 23 (.invokevirtual 536) 3 26 := ⟨by decide +kernel, rfl⟩
theorem eX12_value_26 : sl_D YX12_value 26 (.ireturn) 1 27 := ⟨by decide +kernel, rfl⟩
theorem eX12_value_27 : sl_D YX12_value 27 (.iload_n 1) 1 28 := ⟨by decide +kernel, rfl⟩
theorem eX12_value_28 : sl_B YX12_value 28 (fun o => .ifCond .ne o) 31 50 := ⟨22, by decide +kernel, rfl, by decide⟩
theorem eX12_value_31 : sl_D YX12_value 31 (.aload_n 0) 1 32 := ⟨by decide +kernel, rfl⟩
theorem eX12_value_32 : sl_D YX12_value 32 (.aload_n 0) 1 33 := ⟨by decide +kernel, rfl⟩
theorem eX12_value_33 : sl_D YX12_value 33 (.getfield 113) 3 36 := ⟨by decide +kernel, rfl⟩
theorem eX12_value_36 : sl_D YX12_value 36 (.iconst 0) 1 37 := ⟨by decide +kernel, rfl⟩
theorem eX12_value_37 : sl_D YX12_value 37 (.baload) 1 38 := ⟨by decide +kernel, rfl⟩
theorem eX12_value_38 : sl_B YX12_value 38 (fun o => .ifCond .eq o) 41 45 := ⟨7, by decide +kernel, rfl, by decide⟩
theorem eX12_value_41 : sl_D YX12_value 41 (.iconst 1) 1 42 := ⟨by decide +kernel, rfl⟩
theorem eX12_value_42 : sl_B YX12_value 42 (fun o => .goto o) 45 46 := ⟨4, by decide +kernel, rfl, by decide⟩
theorem eX12_value_45 : sl_D YX12_value 45 (.iconst 0) 1 46 := ⟨by decide +kernel, rfl⟩
theorem eX12_value_46 : sl_D YX12_value 46 (.invokevirtual 314) 3 49 := ⟨by decide +kernel, rfl⟩
theorem eX12_value_49 : sl_D YX12_value 49 (.ireturn) 1 50 := ⟨by decide +kernel, rfl⟩
theorem eX12_value_50 : sl_D YX12_value 50 (.iload_n 1) 1 51 := ⟨by decide +kernel, rfl⟩
theorem eX12_value_51 : sl_D YX12_value 51 (.iconst 1) 1 52 := ⟨by decide +kernel, rfl⟩
theorem eX12_value_52 : sl_B YX12_value 52 (fun o => .if_icmp .ne o) 55 66 := ⟨14, by decide +kernel, rfl, by decide⟩
theorem eX12_value_55 : sl_D YX12_value 55 (.aload_n 0) 1 56 := ⟨by decide +kernel, rfl⟩
theorem eX12_value_56 : sl_D YX12_value 56 (.aload_n 0) 1 57 := ⟨by decide +kernel, rfl⟩
theorem eX12_value_57 : sl_D YX12_value 57 (.getfield 101) 3 60 := ⟨by decide +kernel, rfl⟩
theorem eX12_value_60 : sl_D YX12_value 60 (.iconst 0) 1 61 := ⟨by decide +kernel, rfl⟩
theorem eX12_value_61 : sl_D YX12_value 61 (.iaload) 1 62 := ⟨by decide +kernel, rfl⟩
theorem eX12_value_62 : sl_D YX12_value 62 (.invokevirtual 314) 3 65 := ⟨by decide +kernel, rfl⟩
theorem eX12_value_65 : sl_D YX12_value 65 (.ireturn) 1 66 := ⟨by decide +kernel, rfl⟩
theorem eX12_value_66 : sl_D YX12_value 66 (.aload_n 0) 1 67 := ⟨by decide +kernel, rfl⟩
theorem eX12_value_67 : sl_D YX12_value 67 (.aload_n 0) 1 68 := ⟨by decide +kernel, rfl⟩
theorem eX12_value_68 : sl_D YX12_value 68 (.getfield 113) 3 71 := ⟨by decide +kernel, rfl⟩
theorem eX12_value_71 : sl_D YX12_value 71 (.iconst 0) 1 72 := ⟨by decide +kernel, rfl⟩
theorem eX12_value_72 : sl_D YX12_value 72 (.baload) 1 73 := ⟨by decide +kernel, rfl⟩
theorem eX12_value_73 : sl_B YX12_value 73 (fun o => .ifCond .eq o) 76 89 := ⟨16, by decide +kernel, rfl, by decide⟩
theorem eX12_value_76 : sl_D YX12_value 76 (.aload_n 0) 1 77 := ⟨by decide +kernel, rfl⟩
theorem eX12_value_77 : sl_D YX12_value 77 (.getfield 101) 3 80 := ⟨by decide +kernel, rfl⟩
theorem eX12_value_80 : sl_D YX12_value 80 (.iconst 0) 1 81 := ⟨by decide +kernel, rfl⟩
theorem eX12_value_81 : sl_D YX12_value 81 (.iaload) 1 82 := ⟨by decide +kernel, rfl⟩
theorem eX12_value_82 : sl_D YX12_value 82 (.invokestatic 489) 3 85 := ⟨by decide +kernel, rfl⟩
theorem eX12_value_85 : sl_D YX12_value 85 (.f2i) 1 86 := ⟨by decide +kernel, rfl⟩
theorem eX12_value_86 : sl_B YX12_value 86 (fun o => .goto o) 89 95 := ⟨9, by decide +kernel, rfl, by decide⟩
theorem eX12_value_89 : sl_D YX12_value 89 (.aload_n 0) 1 90 := ⟨by decide +kernel, rfl⟩
theorem eX12_value_90 : sl_D YX12_value 90 (.getfield 101) 3 93 := ⟨by decide +kernel, rfl⟩
theorem eX12_value_93 : sl_D YX12_value 93 (.iconst 0) 1 94 := ⟨by decide +kernel, rfl⟩
theorem eX12_value_94 : sl_D YX12_value 94 (.iaload) 1 95 := ⟨by decide +kernel, rfl⟩
theorem eX12_value_95 : sl_D YX12_value 95 (.invokevirtual 314) 3 98 := ⟨by decide +kernel, rfl⟩
theorem eX12_value_98 : sl_D YX12_value 98 (.ireturn) 1 99 := ⟨by decide +kernel, rfl⟩
theorem eX12_third_0 : sl_D YX12_third 0 (.aload_n 0) 1 1 := ⟨by decide +kernel, rfl⟩
theorem eX12_third_1 : sl_D YX12_third 1 (.iconst 0) 1 2 := ⟨by decide +kernel, rfl⟩
theorem eX12_third_2 : sl_D YX12_third 2 (.putfield 149) 3 5 := ⟨by decide +kernel, rfl⟩
theorem eX12_third_5 : sl_D YX12_third 5 (.aload_n 0) 1 6 := ⟨by decide +kernel, rfl⟩
theorem eX12_third_6 : sl_D YX12_third 6 (.invokevirtual 542) 3 9 := ⟨by decide +kernel, rfl⟩
theorem eX12_third_9 : sl_B YX12_third 9 (fun o => .ifCond .ne o) 12 22 := ⟨13, by decide +kernel, rfl, by decide⟩
theorem eX12_third_12 : sl_D YX12_third 12 (.aload_n 0) 1 13 := ⟨by decide +kernel, rfl⟩
theorem eX12_third_13 : sl_D YX12_third 13 (.iconst 1) 1 14 := ⟨by decide +kernel, rfl⟩
theorem eX12_third_14 : sl_D YX12_third 14 (.invokevirtual 155) 3 17 := ⟨by decide +kernel, rfl⟩
theorem eX12_third_17 : sl_D YX12_third 17 (.pop) 1 18 := ⟨by decide +kernel, rfl⟩
theorem eX12_third_18 : sl_D YX12_third 18 (.ldc2_w 547) 3 21 := ⟨by decide +kernel, rfl⟩
theorem eX12_third_21 : sl_D YX12_third 21 (.lreturn) 1 22 := ⟨by decide +kernel, rfl⟩
theorem eX12_third_22 : sl_D YX12_third 22 (.aload_n 0) 1 23 := ⟨by decide +kernel, rfl⟩
theorem eX12_third_23 : sl_D YX12_third 23 (.getfield 113) 3 26 := ⟨by decide +kernel, rfl⟩
theorem eX12_third_26 : sl_D YX12_third 26 (.iconst 0) 1 27 := ⟨by decide +kernel, rfl⟩
theorem eX12_third_27 : sl_D YX12_third 27 (.baload) 1 28 := ⟨by decide +kernel, rfl⟩
theorem eX12_third_28 : sl_B YX12_third 28 (fun o => .ifCond .eq o) 31 44 := ⟨16, by decide +kernel, rfl, by decide⟩
theorem eX12_third_31 : sl_D YX12_third 31 (.aload_n 0) 1 32 := ⟨by decide +kernel, rfl⟩
theorem eX12_third_32 : sl_D YX12_third 32 (.getfield 101) 3 35 := ⟨by decide +kernel, rfl⟩
theorem eX12_third_35 : sl_D YX12_third 35 (.iconst 0) 1 36 := ⟨by decide +kernel, rfl⟩
theorem eX12_third_36 : sl_D YX12_third 36 (.iaload) 1 37 := ⟨by decide +kernel, rfl⟩
theorem eX12_third_37 : sl_D YX12_third 37 (.invokestatic 489) 3 40 := ⟨by decide +kernel, rfl⟩
theorem eX12_third_40 : sl_D YX12_third 40 (.f2d) 1 41 := ⟨by decide +kernel, rfl⟩
theorem eX12_third_41 : sl_B YX12_third 41 (fun o => .goto o) 44 51 := ⟨10, by decide +kernel, rfl, by decide⟩
theorem eX12_third_44 : sl_D YX12_third 44 (.aload_n 0) 1 45 := ⟨by decide +kernel, rfl⟩
theorem eX12_third_45 : sl_D YX12_third 45 (.getfield 101) 3 48 := ⟨by decide +kernel, rfl⟩
theorem eX12_third_48 : sl_D YX12_third 48 (.iconst 0) 1 49 := ⟨by decide +kernel, rfl⟩
theorem eX12_third_49 : sl_D YX12_third 49 (.iaload) 1 50 := ⟨by decide +kernel, rfl⟩
theorem eX12_third_50 : sl_D YX12_third 50 (.i2d) 1 51 := ⟨by decide +kernel, rfl⟩
theorem eX12_third_51 : sl_D YX12_third 51 (.dstore_n 1) 1 52 := ⟨by decide +kernel, rfl⟩
theorem eX12_third_52 : sl_D YX12_third 52 (.aload_n 0) 1 53 := ⟨by decide +kernel, rfl⟩
theorem eX12_third_53 : sl_D YX12_third 53 (.iconst 0) 1 54 := ⟨by decide +kernel, rfl⟩
theorem eX12_third_54 : sl_D YX12_third 54 (.invokevirtual 314) 3 57 := ⟨by decide +kernel, rfl⟩
theorem eX12_third_57 : sl_D YX12_third 57 (.pop) 1 58 := ⟨by decide +kernel, rfl⟩
theorem eX12_third_58 : sl_D YX12_third 58 (.dload_n 1) 1 59 := ⟨by decide +kernel, rfl⟩
theorem eX12_third_59 : sl_D YX12_third 59 (.ldc2_w 549) 3 62 := ⟨by decide +kernel, rfl⟩
theorem eX12_third_62 : sl_D YX12_third 62 (.ddiv) 1 63 := ⟨by decide +kernel, rfl⟩
theorem eX12_third_63 : sl_D YX12_third 63 (.invokestatic 551) 3 66 := ⟨by decide +kernel, rfl⟩
theorem eX12_third_66 : sl_D YX12_third 66 (.lreturn) 1 67 := ⟨by decide +kernel, rfl⟩
theorem eX12_otherwise_0 : sl_D YX12_otherwise 0 (.aload_n 0) 1 1 := ⟨by decide +kernel, rfl⟩
theorem eX12_otherwise_1 : sl_D YX12_otherwise 1 (.iconst 0) 1 2 := ⟨by decide +kernel, rfl⟩
theorem eX12_otherwise_2 : sl_D YX12_otherwise 2 (.putfield 149) 3 5 := ⟨by decide +kernel, rfl⟩
theorem eX12_otherwise_5 : sl_D YX12_otherwise 5 (.aload_n 0) 1 6 := ⟨by decide +kernel, rfl⟩
theorem eX12_otherwise_6 : sl_D YX12_otherwise 6 (.iconst 0) 1 7 := ⟨by decide +kernel, rfl⟩
theorem eX12_otherwise_7 : sl_D YX12_otherwise 7 (.iconst 0) 1 8 := ⟨by decide +kernel, rfl⟩
theorem eX12_otherwise_8 : sl_D YX12_otherwise 8 (.invokevirtual 530) 3 11 := ⟨by decide +kernel, rfl⟩
theorem eX12_otherwise_11 : sl_B YX12_otherwise 11 (fun o => .ifCond .ne o) 14 20 := ⟨9, by decide +kernel, rfl, by decide⟩
theorem eX12_otherwise_14 : sl_D YX12_otherwise 14 (.aload_n 0) 1 15 := ⟨by decide +kernel, rfl⟩
theorem eX12_otherwise_15 : sl_D YX12_otherwise 15 (.iconst 1) 1 16 := ⟨by decide +kernel, rfl⟩
theorem eX12_otherwise_16 : sl_D YX12_otherwise 16 (.invokevirtual 155) 3 19 := ⟨by decide +kernel, rfl⟩
theorem eX12_otherwise_19 : sl_D YX12_otherwise 19 (.ireturn) 1 20 := ⟨by decide +kernel, rfl⟩
theorem eX12_otherwise_20 : sl_D YX12_otherwise 20 (.aload_n 0) 1 21 := ⟨by decide +kernel, rfl⟩
theorem eX12_otherwise_21 : sl_D YX12_otherwise 21 (.iconst 1) 1 22 := ⟨by decide +kernel, rfl⟩
theorem eX12_otherwise_22 : sl_D YX12_otherwise 22 (.aload_n 0) 1 23 := ⟨by decide +kernel, rfl⟩
theorem eX12_otherwise_23 : sl_D YX12_otherwise 23 (.getfield 521) 3 26 := ⟨by decide +kernel, rfl⟩
theorem eX12_otherwise_26 : sl_D YX12_otherwise 26 (.isub) 1 27 := ⟨by decide +kernel, rfl⟩
theorem eX12_otherwise_27 : sl_D YX12_otherwise 27 (.invokevirtual 515) 3 30 := ⟨by decide +kernel, rfl⟩
theorem eX12_otherwise_30 : sl_B YX12_otherwise 30 (fun o => .ifCond .ne o) 33 39 := ⟨9, by decide +kernel, rfl, by decide⟩
theorem eX12_otherwise_33 : sl_D YX12_otherwise 33 (.aload_n 0) 1 34 := ⟨by decide +kernel, rfl⟩
theorem eX12_otherwise_34 : sl_D YX12_otherwise 34 (.iconst 5) 1 35 := ⟨by decide +kernel, rfl⟩
theorem eX12_otherwise_35 : sl_D YX12_otherwise 35 (.invokevirtual 155) 3 38 := ⟨by decide +kernel, rfl⟩
theorem eX12_otherwise_38 : sl_D YX12_otherwise 38 (.ireturn) 1 39 := ⟨by decide +kernel, rfl⟩
theorem eX12_otherwise_39 : sl_D YX12_otherwise 39 (.aload_n 0) 1 40 := ⟨by decide +kernel, rfl⟩
theorem eX12_otherwise_40 : sl_D YX12_otherwise 40 (.iconst 1) 1 41 := ⟨by decide +kernel, rfl⟩
theorem eX12_otherwise_41 : sl_D YX12_otherwise 41 (.aload_n 0) 1 42 := ⟨by decide +kernel, rfl⟩
theorem eX12_otherwise_42 : sl_D YX12_otherwise 42 (.getfield 521) 3 45 := ⟨by decide +kernel, rfl⟩
theorem eX12_otherwise_45 : sl_D YX12_otherwise 45 (.isub) 1 46 := ⟨by decide +kernel, rfl⟩
theorem eX12_otherwise_46 : sl_D YX12_otherwise 46 (.invokevirtual 524) 3 49 := ⟨by decide +kernel, rfl⟩
theorem eX12_otherwise_49 : sl_D YX12_otherwise 49 (.aload_n 0) 1 50 := ⟨by decide +kernel, rfl⟩
theorem eX12_otherwise_50 : sl_D YX12_otherwise 50 (.invokevirtual 527) 3 53 := ⟨by decide +kernel, rfl⟩
theorem eX12_otherwise_53 : sl_D YX12_otherwise 53 (.ireturn) 1 54 := ⟨by decide +kernel, rfl⟩
theorem eX12_later_0 : sl_D YX12_later 0 (.aload_n 0) 1 1 := ⟨by decide +kernel, rfl⟩
theorem eX12_later_1 : sl_D YX12_later 1 (.iconst 0) 1 2 := ⟨by decide +kernel, rfl⟩
theorem eX12_later_2 : sl_D YX12_later 2 (.putfield 149) 3 5 := ⟨by decide +kernel, rfl⟩
theorem eX12_later_5 : sl_D YX12_later 5 (.aload_n 0) 1 6 := ⟨by decide +kernel, rfl⟩
theorem eX12_later_6 : sl_D YX12_later 6 (.iconst 0) 1 7 := ⟨by decide +kernel, rfl⟩
theorem eX12_later_7 : sl_D YX12_later 7 (.iconst 0) 1 8 := ⟨by decide +kernel, rfl⟩
theorem eX12_later_8 : sl_D YX12_later 8 (.invokevirtual 530) 3 11 := ⟨by decide +kernel, rfl⟩
theorem eX12_later_11 : sl_B YX12_later 11 (fun o => .ifCond .ne o) 14 20 := ⟨9, by decide +kernel, rfl, by decide⟩
theorem eX12_later_14 : sl_D YX12_later 14 (.aload_n 0) 1 15 := ⟨by decide +kernel, rfl⟩
theorem eX12_later_15 : sl_D YX12_later 15 (.iconst 1) 1 16 := ⟨by decide +kernel, rfl⟩
theorem eX12_later_16 : sl_D YX12_later 16 (.invokevirtual 155) 3 19 := ⟨by decide +kernel, rfl⟩
theorem eX12_later_19 : sl_D YX12_later 19 (.ireturn) 1 20 := ⟨by decide +kernel, rfl⟩
theorem eX12_later_20 : sl_D YX12_later 20 (.aload_n 0) 1 21 := ⟨by decide +kernel, rfl⟩
theorem eX12_later_21 : sl_D YX12_later 21 (.iconst 0) 1 22 := ⟨by decide +kernel, rfl⟩
theorem eX12_later_22 : sl_D YX12_later 22 (.invokevirtual 515) 3 25 := ⟨by decide +kernel, rfl⟩
theorem eX12_later_25 : sl_B YX12_later 25 (fun o => .ifCond .eq o) 28 36 := ⟨11, by decide +kernel, rfl, by decide⟩
theorem eX12_later_28 : sl_D YX12_later 28 (.aload_n 0) 1 29 := ⟨by decide +kernel, rfl⟩
theorem eX12_later_29 : sl_D YX12_later 29 (.iconst 1) 1 30 := ⟨by decide +kernel, rfl⟩
theorem eX12_later_30 : sl_D YX12_later 30 (.invokevirtual 515) 3 33 := ⟨by decide +kernel, rfl⟩
theorem eX12_later_33 : sl_B YX12_later 33 (fun o => .ifCond .ne o) 36 42 := ⟨9, by decide +kernel, rfl, by decide⟩
theorem eX12_later_36 : sl_D YX12_later 36 (.aload_n 0) 1 37 := ⟨by decide +kernel, rfl⟩
theorem eX12_later_37 : sl_D YX12_later 37 (.iconst 5) 1 38 := ⟨by decide +kernel, rfl⟩
theorem eX12_later_38 : sl_D YX12_later 38 (.invokevirtual 155) 3 41 := ⟨by decide +kernel, rfl⟩
theorem eX12_later_41 : sl_D YX12_later 41 (.ireturn) 1 42 := ⟨by decide +kernel, rfl⟩
theorem eX12_later_42 : sl_D YX12_later 42 (.aload_n 0) 1 43 := ⟨by decide +kernel, rfl⟩
theorem eX12_later_43 : sl_D YX12_later 43 (.iconst 0) 1 44 := ⟨by decide +kernel, rfl⟩
theorem eX12_later_44 : sl_D YX12_later 44 (.invokevirtual 524) 3 47 := ⟨by decide +kernel, rfl⟩
theorem eX12_later_47 : sl_D YX12_later 47 (.aload_n 0) 1 48 := ⟨by decide +kernel, rfl⟩
theorem eX12_later_48 : sl_D YX12_later 48 (.getfield 444) 3 51 := ⟨by decide +kernel, rfl⟩
theorem eX12_later_51 : sl_D YX12_later 51 (.istore_n 1) 1 52 := ⟨by decide +kernel, rfl⟩
theorem eX12_later_52 : sl_D YX12_later 52 (.aload_n 0) 1 53 := ⟨by decide +kernel, rfl⟩
theorem eX12_later_53 : sl_D YX12_later 53 (.iconst 1) 1 54 := ⟨by decide +kernel, rfl⟩
theorem eX12_later_54 : sl_D YX12_later 54 (.invokevirtual 524) 3 57 := ⟨by decide +kernel, rfl⟩
theorem eX12_later_57 : sl_D YX12_later 57 (.aload_n 0) 1 58 := ⟨by decide +kernel, rfl⟩
theorem eX12_later_58 : sl_D YX12_later 58 (.aload_n 0) 1 59 := ⟨by decide +kernel, rfl⟩
theorem eX12_later_59 : sl_D YX12_later 59 (.getfield 444) 3 62 := ⟨by decide +kernel, rfl⟩
theorem eX12_later_62 : sl_D YX12_later 62 (.iload_n 1) 1 63 := ⟨by decide +kernel, rfl⟩
theorem eX12_later_63 : sl_D YX12_later 63 (.isub) 1 64 := ⟨by decide +kernel, rfl⟩
theorem eX12_later_64 : sl_D YX12_later 64 (.invokevirtual 314) 3 67 := ⟨by decide +kernel, rfl⟩
theorem eX12_later_67 : sl_D YX12_later 67 (.ireturn) 1 68 := ⟨by decide +kernel, rfl⟩
theorem eX12_remembers_0 : sl_D YX12_remembers 0 (.aload_n 0) 1 1 := ⟨by decide +kernel, rfl⟩
theorem eX12_remembers_1 : sl_D YX12_remembers 1 (.getfield 333) 3 4 := ⟨by decide +kernel, rfl⟩
theorem eX12_remembers_4 : sl_D YX12_remembers 4 (.bipush 10) 2 6 := ⟨by decide +kernel, rfl⟩
theorem eX12_remembers_6 : sl_B YX12_remembers 6 (fun o => .if_icmp .ne o) 9 61 := ⟨55, by decide +kernel, rfl, by decide⟩
theorem eX12_remembers_9 : sl_D YX12_remembers 9 (.iconst 1) 1 10 := ⟨by decide +kernel, rfl⟩
theorem eX12_remembers_10 : sl_D YX12_remembers 10 (.istore_n 1) 1 11 := ⟨by decide +kernel, rfl⟩
theorem eX12_remembers_11 : sl_D YX12_remembers 11 (.iload_n 1) 1 12 := ⟨by decide +kernel, rfl⟩
theorem eX12_remembers_12 : sl_D YX12_remembers 12 (.bipush 10) 2 14 := ⟨by decide +kernel, rfl⟩
theorem eX12_remembers_14 : sl_B YX12_remembers 14 (fun o => .if_icmp .ge o) 17 51 := ⟨37, by decide +kernel, rfl, by decide⟩
theorem eX12_remembers_17 : sl_D YX12_remembers 17 (.aload_n 0) 1 18 := ⟨by decide +kernel, rfl⟩
theorem eX12_remembers_18 : sl_D YX12_remembers 18 (.getfield 48) 3 21 := ⟨by decide +kernel, rfl⟩
theorem eX12_remembers_21 : sl_D YX12_remembers 21 (.iload_n 1) 1 22 := ⟨by decide +kernel, rfl⟩
theorem eX12_remembers_22 : sl_D YX12_remembers 22 (.iconst 1) 1 23 := ⟨by decide +kernel, rfl⟩
theorem eX12_remembers_23 : sl_D YX12_remembers 23 (.isub) 1 24 := ⟨by decide +kernel, rfl⟩
theorem eX12_remembers_24 : sl_D YX12_remembers 24 (.aload_n 0) 1 25 := ⟨by decide +kernel, rfl⟩
theorem eX12_remembers_25 : sl_D YX12_remembers 25 (.getfield 48) 3 28 := ⟨by decide +kernel, rfl⟩
theorem eX12_remembers_28 : sl_D YX12_remembers 28 (.iload_n 1) 1 29 := ⟨by decide +kernel, rfl⟩
theorem eX12_remembers_29 : sl_D YX12_remembers 29 (.iaload) 1 30 := ⟨by decide +kernel, rfl⟩
theorem eX12_remembers_30 : sl_D YX12_remembers 30 (.iastore) 1 31 := ⟨by decide +kernel, rfl⟩
theorem eX12_remembers_31 : sl_D YX12_remembers 31 (.aload_n 0) 1 32 := ⟨by decide +kernel, rfl⟩
theorem eX12_remembers_32 : sl_D YX12_remembers 32 (.getfield 51) 3 35 := ⟨by decide +kernel, rfl⟩
theorem eX12_remembers_35 : sl_D YX12_remembers 35 (.iload_n 1) 1 36 := ⟨by decide +kernel, rfl⟩
theorem eX12_remembers_36 : sl_D YX12_remembers 36 (.iconst 1) 1 37 := ⟨by decide +kernel, rfl⟩
theorem eX12_remembers_37 : sl_D YX12_remembers 37 (.isub) 1 38 := ⟨by decide +kernel, rfl⟩
theorem eX12_remembers_38 : sl_D YX12_remembers 38 (.aload_n 0) 1 39 := ⟨by decide +kernel, rfl⟩
theorem eX12_remembers_39 : sl_D YX12_remembers 39 (.getfield 51) 3 42 := ⟨by decide +kernel, rfl⟩
theorem eX12_remembers_42 : sl_D YX12_remembers 42 (.iload_n 1) 1 43 := ⟨by decide +kernel, rfl⟩
theorem eX12_remembers_43 : sl_D YX12_remembers 43 (.iaload) 1 44 := ⟨by decide +kernel, rfl⟩
theorem eX12_remembers_44 : sl_D YX12_remembers 44 (.iastore) 1 45 := ⟨by decide +kernel, rfl⟩
theorem eX12_remembers_45 : sl_D YX12_remembers 45 (.iinc 1 1) 3 48 := ⟨by decide +kernel, rfl⟩
theorem eX12_remembers_48 : sl_B YX12_remembers 48 (fun o => .goto o) 51 11 := ⟨-37, by decide +kernel, rfl, by decide⟩
theorem eX12_remembers_51 : sl_D YX12_remembers 51 (.aload_n 0) 1 52 := ⟨by decide +kernel, rfl⟩
theorem eX12_remembers_52 : sl_D YX12_remembers 52 (.dup) 1 53 := ⟨by decide +kernel, rfl⟩
theorem eX12_remembers_53 : sl_D YX12_remembers 53 (.getfield 333) 3 56 := ⟨by decide +kernel, rfl⟩
theorem eX12_remembers_56 : sl_D YX12_remembers 56 (.iconst 1) 1 57 := ⟨by decide +kernel, rfl⟩
theorem eX12_remembers_57 : sl_D YX12_remembers 57 (.isub) 1 58 := ⟨by decide +kernel, rfl⟩
theorem eX12_remembers_58 : sl_D YX12_remembers 58 (.putfield 333) 3 61 := ⟨by decide +kernel, rfl⟩
theorem eX12_remembers_61 : sl_D YX12_remembers 61 (.aload_n 0) 1 62 := ⟨by decide +kernel, rfl⟩
theorem eX12_remembers_62 : sl_D YX12_remembers 62 (.getfield 48) 3 65 := ⟨by decide +kernel, rfl⟩
theorem eX12_remembers_65 : sl_D YX12_remembers 65 (.aload_n 0) 1 66 := ⟨by decide +kernel, rfl⟩
theorem eX12_remembers_66 : sl_D YX12_remembers 66 (.getfield 333) 3 69 := ⟨by decide +kernel, rfl⟩
theorem eX12_remembers_69 : sl_D YX12_remembers 69 (.aload_n 0) 1 70 := ⟨by decide +kernel, rfl⟩
theorem eX12_remembers_70 : sl_D YX12_remembers 70 (.getfield 327) 3 73 := ⟨by decide +kernel, rfl⟩
theorem eX12_remembers_73 : sl_D YX12_remembers 73 (.iastore) 1 74 := ⟨by decide +kernel, rfl⟩
theorem eX12_remembers_74 : sl_D YX12_remembers 74 (.aload_n 0) 1 75 := ⟨by decide +kernel, rfl⟩
theorem eX12_remembers_75 : sl_D YX12_remembers 75 (.getfield 51) 3 78 := ⟨by decide +kernel, rfl⟩
theorem eX12_remembers_78 : sl_D YX12_remembers 78 (.aload_n 0) 1 79 := ⟨by decide +kernel, rfl⟩
theorem eX12_remembers_79 : sl_D YX12_remembers 79 (.getfield 333) 3 82 := ⟨by decide +kernel, rfl⟩
theorem eX12_remembers_82 : sl_D YX12_remembers 82 (.aload_n 0) 1 83 := ⟨by decide +kernel, rfl⟩
theorem eX12_remembers_83 : sl_D YX12_remembers 83 (.getfield 330) 3 86 := ⟨by decide +kernel, rfl⟩
theorem eX12_remembers_86 : sl_D YX12_remembers 86 (.iastore) 1 87 := ⟨by decide +kernel, rfl⟩
theorem eX12_remembers_87 : sl_D YX12_remembers 87 (.aload_n 0) 1 88 := ⟨by decide +kernel, rfl⟩
theorem eX12_remembers_88 : sl_D YX12_remembers 88 (.dup) 1 89 := ⟨by decide +kernel, rfl⟩
theorem eX12_remembers_89 : sl_D YX12_remembers 89 (.getfield 333) 3 92 := ⟨by decide +kernel, rfl⟩
theorem eX12_remembers_92 : sl_D YX12_remembers 92 (.iconst 1) 1 93 := ⟨by decide +kernel, rfl⟩
theorem eX12_remembers_93 : sl_D YX12_remembers 93 (.iadd) 1 94 := ⟨by decide +kernel, rfl⟩
theorem eX12_remembers_94 : sl_D YX12_remembers 94 (.putfield 333) 3 97 := ⟨by decide +kernel, rfl⟩
theorem eX12_remembers_97 : sl_D YX12_remembers 97 (.aload_n 0) 1 98 := ⟨by decide +kernel, rfl⟩
theorem eX12_remembers_98 : sl_D YX12_remembers 98 (.iconst 0) 1 99 := ⟨by decide +kernel, rfl⟩
theorem eX12_remembers_99 : sl_D YX12_remembers 99 (.putfield 336) 3 102 := ⟨by decide +kernel, rfl⟩
theorem eX12_remembers_102 : sl_D YX12_remembers 102 (.return_) 1 103 := ⟨by decide +kernel, rfl⟩
theorem eX12_asideMany_0 : sl_D YX12_asideMany 0 (.iconst 0) 1 1 := ⟨by decide +kernel, rfl⟩
theorem eX12_asideMany_1 : sl_D YX12_asideMany 1 (.istore_n 1) 1 2 := ⟨by decide +kernel, rfl⟩
theorem eX12_asideMany_2 : sl_D YX12_asideMany 2 (.iconst 0) 1 3 := ⟨by decide +kernel, rfl⟩
theorem eX12_asideMany_3 : sl_D YX12_asideMany 3 (.istore_n 2) 1 4 := ⟨by decide +kernel, rfl⟩
theorem eX12_asideMany_4 : sl_D YX12_asideMany 4 (.iload_n 2) 1 5 := ⟨by decide +kernel, rfl⟩
theorem eX12_asideMany_5 : sl_D YX12_asideMany 5 (.aload_n 0) 1 6 := ⟨by decide +kernel, rfl⟩
theorem eX12_asideMany_6 : sl_D YX12_asideMany 6 (.getfield 311) 3 9 := ⟨by decide +kernel, rfl⟩
theorem eX12_asideMany_9 : sl_B YX12_asideMany 9 (fun o => .if_icmp .ge o) 12 34 := ⟨25, by decide +kernel, rfl, by decide⟩
theorem eX12_asideMany_12 : sl_D YX12_asideMany 12 (.iload_n 1) 1 13 := ⟨by decide +kernel, rfl⟩
theorem eX12_asideMany_13 : sl_D YX12_asideMany 13 (.aload_n 0) 1 14 := ⟨by decide +kernel, rfl⟩
theorem eX12_asideMany_14 : sl_D YX12_asideMany 14 (.iload_n 2) 1 15 := ⟨by decide +kernel, rfl⟩
theorem eX12_asideMany_15 : sl_D YX12_asideMany 15 (.invokevirtual 348) 3 18 := ⟨by decide +kernel, rfl⟩
theorem eX12_asideMany_18 : sl_B YX12_asideMany 18 (fun o => .ifCond .eq o) 21 25 := ⟨7, by decide +kernel, rfl, by decide⟩
theorem eX12_asideMany_21 : sl_D YX12_asideMany 21 (.iconst 0) 1 22 := ⟨by decide +kernel, rfl⟩
theorem eX12_asideMany_22 : sl_B YX12_asideMany 22 (fun o => .goto o) 25 26 := ⟨4, by decide +kernel, rfl, by decide⟩
theorem eX12_asideMany_25 : sl_D YX12_asideMany 25 (.iconst 1) 1 26 := ⟨by decide +kernel, rfl⟩
theorem eX12_asideMany_26 : sl_D YX12_asideMany 26 (.iadd) 1 27 := ⟨by decide +kernel, rfl⟩
theorem eX12_asideMany_27 : sl_D YX12_asideMany 27 (.istore_n 1) 1 28 := ⟨by decide +kernel, rfl⟩
theorem eX12_asideMany_28 : sl_D YX12_asideMany 28 (.iinc 2 1) 3 31 := ⟨by decide +kernel, rfl⟩
theorem eX12_asideMany_31 : sl_B YX12_asideMany 31 (fun o => .goto o) 34 4 := ⟨-27, by decide +kernel, rfl, by decide⟩
theorem eX12_asideMany_34 : sl_D YX12_asideMany 34 (.iload_n 1) 1 35 := ⟨by decide +kernel, rfl⟩
theorem eX12_asideMany_35 : sl_D YX12_asideMany 35 (.ireturn) 1 36 := ⟨by decide +kernel, rfl⟩
theorem eX12_aside_0 : sl_D YX12_aside 0 (.aload_n 0) 1 1 := ⟨by decide +kernel, rfl⟩
theorem eX12_aside_1 : sl_D YX12_aside 1 (.iconst 0) 1 2 := ⟨by decide +kernel, rfl⟩
theorem eX12_aside_2 : sl_D YX12_aside 2 (.putfield 149) 3 5 := ⟨by decide +kernel, rfl⟩
theorem eX12_aside_5 : sl_D YX12_aside 5 (.aload_n 0) 1 6 := ⟨by decide +kernel, rfl⟩
theorem eX12_aside_6 : sl_D YX12_aside 6 (.iload_n 1) 1 7 := ⟨by decide +kernel, rfl⟩
theorem eX12_aside_7 : sl_D YX12_aside 7 (.invokevirtual 345) 3 10 := ⟨by decide +kernel, rfl⟩
theorem eX12_aside_10 : sl_B YX12_aside 10 (fun o => .ifCond .ne o) 13 19 := ⟨9, by decide +kernel, rfl, by decide⟩
theorem eX12_aside_13 : sl_D YX12_aside 13 (.aload_n 0) 1 14 := ⟨by decide +kernel, rfl⟩
theorem eX12_aside_14 : sl_D YX12_aside 14 (.iconst 1) 1 15 := ⟨by decide +kernel, rfl⟩
theorem eX12_aside_15 : sl_D YX12_aside 15 (.invokevirtual 155) 3 18 := ⟨by decide +kernel, rfl⟩
theorem eX12_aside_18 : sl_D YX12_aside 18 (.ireturn) 1 19 := ⟨by decide +kernel, rfl⟩
theorem eX12_aside_19 : sl_D YX12_aside 19 (.iload_n 2) 1 20 := ⟨by decide +kernel, rfl⟩
theorem eX12_aside_20 : sl_D YX12_aside 20 (.iconst 0) 1 21 := ⟨by decide +kernel, rfl⟩
theorem eX12_aside_21 : sl_D YX12_aside 21 (.iconst 1) 1 22 := ⟨by decide +kernel, rfl⟩
theorem eX12_aside_22 : sl_D YX12_aside 22 (.invokestatic 180) 3 25 := ⟨by decide +kernel, rfl⟩
theorem eX12_aside_25 : sl_B YX12_aside 25 (fun o => .ifCond .ne o) 28 34 := ⟨9, by decide +kernel, rfl, by decide⟩
