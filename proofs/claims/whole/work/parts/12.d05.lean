theorem eX12_laysRelations_131 : sl_B YX12_laysRelations 131 (fun o => .ifCond .eq o) 134 142 := ⟨11, by decide +kernel, rfl, by decide⟩
theorem eX12_laysRelations_134 : sl_D YX12_laysRelations 134 (.aload_n 0) 1 135 := ⟨by decide +kernel, rfl⟩
theorem eX12_laysRelations_135 : sl_D YX12_laysRelations 135 (.iload_n 3) 1 136 := ⟨by decide +kernel, rfl⟩
theorem eX12_laysRelations_136 : sl_D YX12_laysRelations 136 (.iload 5) 2 138 := ⟨by decide +kernel, rfl⟩
theorem eX12_laysRelations_138 : sl_D YX12_laysRelations 138 (.iconst 1) 1 139 := ⟨by decide +kernel, rfl⟩
theorem eX12_laysRelations_139 : sl_D YX12_laysRelations 139 (.invokevirtual 364) 3 142 := ⟨by decide +kernel, rfl⟩
theorem eX12_laysRelations_142 : sl_D YX12_laysRelations 142 (.iload_n 3) 1 143 := ⟨by decide +kernel, rfl⟩
theorem eX12_laysRelations_143 : sl_D YX12_laysRelations 143 (.bipush 100) 2 145 := ⟨by decide +kernel, rfl⟩
theorem eX12_laysRelations_145 : sl_B YX12_laysRelations 145 (fun o => .if_icmp .lt o) 148 174 := ⟨29, by decide +kernel, rfl, by decide⟩
theorem eX12_laysRelations_148 : sl_D YX12_laysRelations 148 (.aload_n 0) 1 149 := ⟨by decide +kernel, rfl⟩
theorem eX12_laysRelations_149 : sl_D YX12_laysRelations 149 (.getfield 61) 3 152 := ⟨by decide +kernel, rfl⟩
theorem eX12_laysRelations_152 : sl_D YX12_laysRelations 152 (.iload_n 3) 1 153 := ⟨by decide +kernel, rfl⟩
theorem eX12_laysRelations_153 : sl_D YX12_laysRelations 153 (.bipush 100) 2 155 := ⟨by decide +kernel, rfl⟩
theorem eX12_laysRelations_155 : sl_D YX12_laysRelations 155 (.isub) 1 156 := ⟨by decide +kernel, rfl⟩
theorem eX12_laysRelations_156 : sl_D YX12_laysRelations 156 (.iaload) 1 157 := ⟨by decide +kernel, rfl⟩
theorem eX12_laysRelations_157 : sl_D YX12_laysRelations 157 (.iload 5) 2 159 := ⟨by decide +kernel, rfl⟩
theorem eX12_laysRelations_159 : sl_D YX12_laysRelations 159 (.invokestatic 342) 3 162 := ⟨by decide +kernel, rfl⟩
theorem eX12_laysRelations_162 : sl_B YX12_laysRelations 162 (fun o => .ifCond .eq o) 165 174 := ⟨12, by decide +kernel, rfl, by decide⟩
theorem eX12_laysRelations_165 : sl_D YX12_laysRelations 165 (.aload_n 0) 1 166 := ⟨by decide +kernel, rfl⟩
theorem eX12_laysRelations_166 : sl_D YX12_laysRelations 166 (.iload 5) 2 168 := ⟨by decide +kernel, rfl⟩
theorem eX12_laysRelations_168 : sl_D YX12_laysRelations 168 (.iload 4) 2 170 := ⟨by decide +kernel, rfl⟩
theorem eX12_laysRelations_170 : sl_D YX12_laysRelations 170 (.iconst 4) 1 171 := ⟨by decide +kernel, rfl⟩
theorem eX12_laysRelations_171 : sl_D YX12_laysRelations 171 (.invokevirtual 364) 3 174 := ⟨by decide +kernel, rfl⟩
theorem eX12_laysRelations_174 : sl_D YX12_laysRelations 174 (.iinc 5 1) 3 177 := ⟨by decide +kernel, rfl⟩
theorem eX12_laysRelations_177 : sl_B YX12_laysRelations 177 (fun o => .goto o) 180 94 := ⟨-83, by decide +kernel, rfl, by decide⟩
theorem eX12_laysRelations_180 : sl_D YX12_laysRelations 180 (.iinc 2 1) 3 183 := ⟨by decide +kernel, rfl⟩
theorem eX12_laysRelations_183 : sl_B YX12_laysRelations 183 (fun o => .goto o) 186 2 := ⟨-181, by decide +kernel, rfl, by decide⟩
theorem eX12_laysRelations_186 : sl_D YX12_laysRelations 186 (.return_) 1 187 := ⟨by decide +kernel, rfl⟩
theorem eX12_edge_0 : sl_D YX12_edge 0 (.aload_n 0) 1 1 := ⟨by decide +kernel, rfl⟩
theorem eX12_edge_1 : sl_D YX12_edge 1 (.iconst 0) 1 2 := ⟨by decide +kernel, rfl⟩
theorem eX12_edge_2 : sl_D YX12_edge 2 (.putfield 149) 3 5 := ⟨by decide +kernel, rfl⟩
theorem eX12_edge_5 : sl_D YX12_edge 5 (.aload_n 0) 1 6 := ⟨by decide +kernel, rfl⟩
theorem eX12_edge_6 : sl_D YX12_edge 6 (.getfield 317) 3 9 := ⟨by decide +kernel, rfl⟩
theorem eX12_edge_9 : sl_B YX12_edge 9 (fun o => .ifCond .eq o) 12 35 := ⟨26, by decide +kernel, rfl, by decide⟩
theorem eX12_edge_12 : sl_D YX12_edge 12 (.iload_n 1) 1 13 := ⟨by decide +kernel, rfl⟩
theorem eX12_edge_13 : sl_D YX12_edge 13 (.iconst 0) 1 14 := ⟨by decide +kernel, rfl⟩
theorem eX12_edge_14 : sl_D YX12_edge 14 (.aload_n 0) 1 15 := ⟨by decide +kernel, rfl⟩
theorem eX12_edge_15 : sl_D YX12_edge 15 (.getfield 321) 3 18 := ⟨by decide +kernel, rfl⟩
theorem eX12_edge_18 : sl_D YX12_edge 18 (.iconst 1) 1 19 := ⟨by decide +kernel, rfl⟩
theorem eX12_edge_19 : sl_D YX12_edge 19 (.isub) 1 20 := ⟨by decide +kernel, rfl⟩
theorem eX12_edge_20 : sl_D YX12_edge 20 (.invokestatic 180) 3 23 := ⟨by decide +kernel, rfl⟩
theorem eX12_edge_23 : sl_B YX12_edge 23 (fun o => .ifCond .eq o) 26 35 := ⟨12, by decide +kernel, rfl, by decide⟩
theorem eX12_edge_26 : sl_D YX12_edge 26 (.iload_n 2) 1 27 := ⟨by decide +kernel, rfl⟩
theorem eX12_edge_27 : sl_D YX12_edge 27 (.iconst 0) 1 28 := ⟨by decide +kernel, rfl⟩
theorem eX12_edge_28 : sl_D YX12_edge 28 (.iconst 1) 1 29 := ⟨by decide +kernel, rfl⟩
theorem eX12_edge_29 : sl_D YX12_edge 29 (.invokestatic 180) 3 32 := ⟨by decide +kernel, rfl⟩
theorem eX12_edge_32 : sl_B YX12_edge 32 (fun o => .ifCond .ne o) 35 41 := ⟨9, by decide +kernel, rfl, by decide⟩
theorem eX12_edge_35 : sl_D YX12_edge 35 (.aload_n 0) 1 36 := ⟨by decide +kernel, rfl⟩
theorem eX12_edge_36 : sl_D YX12_edge 36 (.iconst 1) 1 37 := ⟨by decide +kernel, rfl⟩
theorem eX12_edge_37 : sl_D YX12_edge 37 (.invokevirtual 155) 3 40 := ⟨by decide +kernel, rfl⟩
theorem eX12_edge_40 : sl_D YX12_edge 40 (.ireturn) 1 41 := ⟨by decide +kernel, rfl⟩
theorem eX12_edge_41 : sl_D YX12_edge 41 (.aload_n 0) 1 42 := ⟨by decide +kernel, rfl⟩
theorem eX12_edge_42 : sl_D YX12_edge 42 (.iload_n 2) 1 43 := ⟨by decide +kernel, rfl⟩
theorem eX12_edge_43 : sl_B YX12_edge 43 (fun o => .ifCond .ne o) 46 55 := ⟨12, by decide +kernel, rfl, by decide⟩
theorem eX12_edge_46 : sl_D YX12_edge 46 (.aload_n 0) 1 47 := ⟨by decide +kernel, rfl⟩
theorem eX12_edge_47 : sl_D YX12_edge 47 (.getfield 58) 3 50 := ⟨by decide +kernel, rfl⟩
theorem eX12_edge_50 : sl_D YX12_edge 50 (.iload_n 1) 1 51 := ⟨by decide +kernel, rfl⟩
theorem eX12_edge_51 : sl_D YX12_edge 51 (.iaload) 1 52 := ⟨by decide +kernel, rfl⟩
theorem eX12_edge_52 : sl_B YX12_edge 52 (fun o => .goto o) 55 61 := ⟨9, by decide +kernel, rfl, by decide⟩
theorem eX12_edge_55 : sl_D YX12_edge 55 (.aload_n 0) 1 56 := ⟨by decide +kernel, rfl⟩
theorem eX12_edge_56 : sl_D YX12_edge 56 (.getfield 61) 3 59 := ⟨by decide +kernel, rfl⟩
theorem eX12_edge_59 : sl_D YX12_edge 59 (.iload_n 1) 1 60 := ⟨by decide +kernel, rfl⟩
theorem eX12_edge_60 : sl_D YX12_edge 60 (.iaload) 1 61 := ⟨by decide +kernel, rfl⟩
theorem eX12_edge_61 : sl_D YX12_edge 61 (.invokevirtual 314) 3 64 := ⟨by decide +kernel, rfl⟩
theorem eX12_edge_64 : sl_D YX12_edge 64 (.ireturn) 1 65 := ⟨by decide +kernel, rfl⟩
theorem eX12_relation_0 : sl_D YX12_relation 0 (.aload_n 0) 1 1 := ⟨by decide +kernel, rfl⟩
theorem eX12_relation_1 : sl_D YX12_relation 1 (.iconst 0) 1 2 := ⟨by decide +kernel, rfl⟩
theorem eX12_relation_2 : sl_D YX12_relation 2 (.putfield 149) 3 5 := ⟨by decide +kernel, rfl⟩
theorem eX12_relation_5 : sl_D YX12_relation 5 (.aload_n 0) 1 6 := ⟨by decide +kernel, rfl⟩
theorem eX12_relation_6 : sl_D YX12_relation 6 (.iload_n 1) 1 7 := ⟨by decide +kernel, rfl⟩
theorem eX12_relation_7 : sl_D YX12_relation 7 (.invokevirtual 354) 3 10 := ⟨by decide +kernel, rfl⟩
theorem eX12_relation_10 : sl_B YX12_relation 10 (fun o => .ifCond .eq o) 13 34 := ⟨24, by decide +kernel, rfl, by decide⟩
theorem eX12_relation_13 : sl_D YX12_relation 13 (.aload_n 0) 1 14 := ⟨by decide +kernel, rfl⟩
theorem eX12_relation_14 : sl_D YX12_relation 14 (.iload_n 2) 1 15 := ⟨by decide +kernel, rfl⟩
theorem eX12_relation_15 : sl_D YX12_relation 15 (.invokevirtual 354) 3 18 := ⟨by decide +kernel, rfl⟩
theorem eX12_relation_18 : sl_B YX12_relation 18 (fun o => .ifCond .eq o) 21 34 := ⟨16, by decide +kernel, rfl, by decide⟩
theorem eX12_relation_21 : sl_D YX12_relation 21 (.aload_n 0) 1 22 := ⟨by decide +kernel, rfl⟩
theorem eX12_relation_22 : sl_D YX12_relation 22 (.aload_n 0) 1 23 := ⟨by decide +kernel, rfl⟩
theorem eX12_relation_23 : sl_D YX12_relation 23 (.iload_n 1) 1 24 := ⟨by decide +kernel, rfl⟩
theorem eX12_relation_24 : sl_D YX12_relation 24 (.iload_n 2) 1 25 := ⟨by decide +kernel, rfl⟩
theorem eX12_relation_25 : sl_D YX12_relation 25 (.invokevirtual 371) 3 28 := ⟨by decide +kernel, rfl⟩
theorem eX12_relation_28 : sl_D YX12_relation 28 (.invokevirtual 314) 3 31 := ⟨by decide +kernel, rfl⟩
theorem eX12_relation_31 : sl_B YX12_relation 31 (fun o => .goto o) 34 39 := ⟨8, by decide +kernel, rfl, by decide⟩
theorem eX12_relation_34 : sl_D YX12_relation 34 (.aload_n 0) 1 35 := ⟨by decide +kernel, rfl⟩
theorem eX12_relation_35 : sl_D YX12_relation 35 (.iconst 1) 1 36 := ⟨by decide +kernel, rfl⟩
theorem eX12_relation_36 : sl_D YX12_relation 36 (.invokevirtual 155) 3 39 := ⟨by decide +kernel, rfl⟩
theorem eX12_relation_39 : sl_D YX12_relation 39 (.ireturn) 1 40 := ⟨by decide +kernel, rfl⟩
theorem eX12_related_0 : sl_D YX12_related 0 (.aload_n 0) 1 1 := ⟨by decide +kernel, rfl⟩
theorem eX12_related_1 : sl_D YX12_related 1 (.iconst 0) 1 2 := ⟨by decide +kernel, rfl⟩
theorem eX12_related_2 : sl_D YX12_related 2 (.putfield 149) 3 5 := ⟨by decide +kernel, rfl⟩
theorem eX12_related_5 : sl_D YX12_related 5 (.aload_n 0) 1 6 := ⟨by decide +kernel, rfl⟩
theorem eX12_related_6 : sl_D YX12_related 6 (.getfield 317) 3 9 := ⟨by decide +kernel, rfl⟩
theorem eX12_related_9 : sl_B YX12_related 9 (fun o => .ifCond .ne o) 12 18 := ⟨9, by decide +kernel, rfl, by decide⟩
theorem eX12_related_12 : sl_D YX12_related 12 (.aload_n 0) 1 13 := ⟨by decide +kernel, rfl⟩
theorem eX12_related_13 : sl_D YX12_related 13 (.iconst 1) 1 14 := ⟨by decide +kernel, rfl⟩
theorem eX12_related_14 : sl_D YX12_related 14 (.invokevirtual 155) 3 17 := ⟨by decide +kernel, rfl⟩
theorem eX12_related_17 : sl_D YX12_related 17 (.ireturn) 1 18 := ⟨by decide +kernel, rfl⟩
theorem eX12_related_18 : sl_D YX12_related 18 (.iload_n 1) 1 19 := ⟨by decide +kernel, rfl⟩
theorem eX12_related_19 : sl_D YX12_related 19 (.iconst 1) 1 20 := ⟨by decide +kernel, rfl⟩
theorem eX12_related_20 : sl_B YX12_related 20 (fun o => .if_icmp .eq o) 23 39 := ⟨19, by decide +kernel, rfl, by decide⟩
theorem eX12_related_23 : sl_D YX12_related 23 (.iload_n 1) 1 24 := ⟨by decide +kernel, rfl⟩
theorem eX12_related_24 : sl_D YX12_related 24 (.iconst 2) 1 25 := ⟨by decide +kernel, rfl⟩
theorem eX12_related_25 : sl_B YX12_related 25 (fun o => .if_icmp .eq o) 28 39 := ⟨14, by decide +kernel, rfl, by decide⟩
theorem eX12_related_28 : sl_D YX12_related 28 (.iload_n 1) 1 29 := ⟨by decide +kernel, rfl⟩
theorem eX12_related_29 : sl_D YX12_related 29 (.iconst 4) 1 30 := ⟨by decide +kernel, rfl⟩
theorem eX12_related_30 : sl_B YX12_related 30 (fun o => .if_icmp .eq o) 33 39 := ⟨9, by decide +kernel, rfl, by decide⟩
theorem eX12_related_33 : sl_D YX12_related 33 (.aload_n 0) 1 34 := ⟨by decide +kernel, rfl⟩
theorem eX12_related_34 : sl_D YX12_related 34 (.iconst 2) 1 35 := ⟨by decide +kernel, rfl⟩
theorem eX12_related_35 : sl_D YX12_related 35 (.invokevirtual 155) 3 38 := ⟨by decide +kernel, rfl⟩
theorem eX12_related_38 : sl_D YX12_related 38 (.ireturn) 1 39 := ⟨by decide +kernel, rfl⟩
theorem eX12_related_39 : sl_D YX12_related 39 (.iconst 0) 1 40 := ⟨by decide +kernel, rfl⟩
theorem eX12_related_40 : sl_D YX12_related 40 (.istore_n 2) 1 41 := ⟨by decide +kernel, rfl⟩
theorem eX12_related_41 : sl_D YX12_related 41 (.iconst 0) 1 42 := ⟨by decide +kernel, rfl⟩
theorem eX12_related_42 : sl_D YX12_related 42 (.istore_n 3) 1 43 := ⟨by decide +kernel, rfl⟩
theorem eX12_related_43 : sl_D YX12_related 43 (.iload_n 3) 1 44 := ⟨by decide +kernel, rfl⟩
theorem eX12_related_44 : sl_D YX12_related 44 (.aload_n 0) 1 45 := ⟨by decide +kernel, rfl⟩
theorem eX12_related_45 : sl_D YX12_related 45 (.getfield 324) 3 48 := ⟨by decide +kernel, rfl⟩
theorem eX12_related_48 : sl_B YX12_related 48 (fun o => .if_icmp .gt o) 51 95 := ⟨47, by decide +kernel, rfl, by decide⟩
theorem eX12_related_51 : sl_D YX12_related 51 (.iconst 0) 1 52 := ⟨by decide +kernel, rfl⟩
theorem eX12_related_52 : sl_D YX12_related 52 (.istore 4) 2 54 := ⟨by decide +kernel, rfl⟩
theorem eX12_related_54 : sl_D YX12_related 54 (.iload 4) 2 56 := ⟨by decide +kernel, rfl⟩
theorem eX12_related_56 : sl_D YX12_related 56 (.aload_n 0) 1 57 := ⟨by decide +kernel, rfl⟩
theorem eX12_related_57 : sl_D YX12_related 57 (.getfield 324) 3 60 := ⟨by decide +kernel, rfl⟩
theorem eX12_related_60 : sl_B YX12_related 60 (fun o => .if_icmp .gt o) 63 89 := ⟨29, by decide +kernel, rfl, by decide⟩
theorem eX12_related_63 : sl_D YX12_related 63 (.iload_n 2) 1 64 := ⟨by decide +kernel, rfl⟩
theorem eX12_related_64 : sl_D YX12_related 64 (.aload_n 0) 1 65 := ⟨by decide +kernel, rfl⟩
theorem eX12_related_65 : sl_D YX12_related 65 (.iload_n 3) 1 66 := ⟨by decide +kernel, rfl⟩
theorem eX12_related_66 : sl_D YX12_related 66 (.iload 4) 2 68 := ⟨by decide +kernel, rfl⟩
theorem eX12_related_68 : sl_D YX12_related 68 (.invokevirtual 371) 3 71 := ⟨by decide +kernel, rfl⟩
theorem eX12_related_71 : sl_D YX12_related 71 (.iload_n 1) 1 72 := ⟨by decide +kernel, rfl⟩
theorem eX12_related_72 : sl_D YX12_related 72 (.iand) 1 73 := ⟨by decide +kernel, rfl⟩
theorem eX12_related_73 : sl_B YX12_related 73 (fun o => .ifCond .eq o) 76 80 := ⟨7, by decide +kernel, rfl, by decide⟩
theorem eX12_related_76 : sl_D YX12_related 76 (.iconst 1) 1 77 := ⟨by decide +kernel, rfl⟩
theorem eX12_related_77 : sl_B YX12_related 77 (fun o => .goto o) 80 81 := ⟨4, by decide +kernel, rfl, by decide⟩
theorem eX12_related_80 : sl_D YX12_related 80 (.iconst 0) 1 81 := ⟨by decide +kernel, rfl⟩
theorem eX12_related_81 : sl_D YX12_related 81 (.iadd) 1 82 := ⟨by decide +kernel, rfl⟩
theorem eX12_related_82 : sl_D YX12_related 82 (.istore_n 2) 1 83 := ⟨by decide +kernel, rfl⟩
theorem eX12_related_83 : sl_D YX12_related 83 (.iinc 4 1) 3 86 := ⟨by decide +kernel, rfl⟩
theorem eX12_related_86 : sl_B YX12_related 86 (fun o => .goto o) 89 54 := ⟨-32, by decide +kernel, rfl, by decide⟩
theorem eX12_related_89 : sl_D YX12_related 89 (.iinc 3 1) 3 92 := ⟨by decide +kernel, rfl⟩
theorem eX12_related_92 : sl_B YX12_related 92 (fun o => .goto o) 95 43 := ⟨-49, by decide +kernel, rfl, by decide⟩
theorem eX12_related_95 : sl_D YX12_related 95 (.aload_n 0) 1 96 := ⟨by decide +kernel, rfl⟩
theorem eX12_related_96 : sl_D YX12_related 96 (.iload_n 2) 1 97 := ⟨by decide +kernel, rfl⟩
theorem eX12_related_97 : sl_D YX12_related 97 (.invokevirtual 314) 3 100 := ⟨by decide +kernel, rfl⟩
theorem eX12_related_100 : sl_D YX12_related 100 (.ireturn) 1 101 := ⟨by decide +kernel, rfl⟩
theorem eX12_isClash_0 : sl_D YX12_isClash 0 (.iload_n 1) 1 1 := ⟨by decide +kernel, rfl⟩
theorem eX12_isClash_1 : sl_D YX12_isClash 1 (.iload_n 1) 1 2 := ⟨by decide +kernel, rfl⟩
theorem eX12_isClash_2 : sl_D YX12_isClash 2 (.iconst 1) 1 3 := ⟨by decide +kernel, rfl⟩
theorem eX12_isClash_3 : sl_D YX12_isClash 3 (.isub) 1 4 := ⟨by decide +kernel, rfl⟩
theorem eX12_isClash_4 : sl_D YX12_isClash 4 (.iand) 1 5 := ⟨by decide +kernel, rfl⟩
theorem eX12_isClash_5 : sl_B YX12_isClash 5 (fun o => .ifCond .eq o) 8 12 := ⟨7, by decide +kernel, rfl, by decide⟩
theorem eX12_isClash_8 : sl_D YX12_isClash 8 (.iconst 1) 1 9 := ⟨by decide +kernel, rfl⟩
theorem eX12_isClash_9 : sl_B YX12_isClash 9 (fun o => .goto o) 12 13 := ⟨4, by decide +kernel, rfl, by decide⟩
theorem eX12_isClash_12 : sl_D YX12_isClash 12 (.iconst 0) 1 13 := ⟨by decide +kernel, rfl⟩
theorem eX12_isClash_13 : sl_D YX12_isClash 13 (.ireturn) 1 14 := ⟨by decide +kernel, rfl⟩
theorem eX12_clashMany_0 : sl_D YX12_clashMany 0 (.iconst 0) 1 1 := ⟨by decide +kernel, rfl⟩
theorem eX12_clashMany_1 : sl_D YX12_clashMany 1 (.istore_n 1) 1 2 := ⟨by decide +kernel, rfl⟩
theorem eX12_clashMany_2 : sl_D YX12_clashMany 2 (.iconst 0) 1 3 := ⟨by decide +kernel, rfl⟩
theorem eX12_clashMany_3 : sl_D YX12_clashMany 3 (.istore_n 2) 1 4 := ⟨by decide +kernel, rfl⟩
theorem eX12_clashMany_4 : sl_D YX12_clashMany 4 (.iload_n 2) 1 5 := ⟨by decide +kernel, rfl⟩
theorem eX12_clashMany_5 : sl_D YX12_clashMany 5 (.aload_n 0) 1 6 := ⟨by decide +kernel, rfl⟩
theorem eX12_clashMany_6 : sl_D YX12_clashMany 6 (.getfield 324) 3 9 := ⟨by decide +kernel, rfl⟩
theorem eX12_clashMany_9 : sl_B YX12_clashMany 9 (fun o => .if_icmp .gt o) 12 55 := ⟨46, by decide +kernel, rfl, by decide⟩
theorem eX12_clashMany_12 : sl_D YX12_clashMany 12 (.iconst 0) 1 13 := ⟨by decide +kernel, rfl⟩
theorem eX12_clashMany_13 : sl_D YX12_clashMany 13 (.istore_n 3) 1 14 := ⟨by decide +kernel, rfl⟩
theorem eX12_clashMany_14 : sl_D YX12_clashMany 14 (.iload_n 3) 1 15 := ⟨by decide +kernel, rfl⟩
theorem eX12_clashMany_15 : sl_D YX12_clashMany 15 (.aload_n 0) 1 16 := ⟨by decide +kernel, rfl⟩
theorem eX12_clashMany_16 : sl_D YX12_clashMany 16 (.getfield 324) 3 19 := ⟨by decide +kernel, rfl⟩
theorem eX12_clashMany_19 : sl_B YX12_clashMany 19 (fun o => .if_icmp .gt o) 22 49 := ⟨30, by decide +kernel, rfl, by decide⟩
theorem eX12_clashMany_22 : sl_D YX12_clashMany 22 (.iload_n 1) 1 23 := ⟨by decide +kernel, rfl⟩
theorem eX12_clashMany_23 : sl_D YX12_clashMany 23 (.aload_n 0) 1 24 := ⟨by decide +kernel, rfl⟩
theorem eX12_clashMany_24 : sl_D YX12_clashMany 24 (.aload_n 0) 1 25 := ⟨by decide +kernel, rfl⟩
theorem eX12_clashMany_25 : sl_D YX12_clashMany 25 (.iload_n 2) 1 26 := ⟨by decide +kernel, rfl⟩
theorem eX12_clashMany_26 : sl_D YX12_clashMany 26 (.iload_n 3) 1 27 := ⟨by decide +kernel, rfl⟩
theorem eX12_clashMany_27 : sl_D YX12_clashMany 27 (.invokevirtual 371) 3 30 := ⟨by decide +kernel, rfl⟩
theorem eX12_clashMany_30 : sl_D YX12_clashMany 30 (.invokevirtual 374) 3 33 := ⟨by decide +kernel, rfl⟩
theorem eX12_clashMany_33 : sl_B YX12_clashMany 33 (fun o => .ifCond .eq o) 36 40 := ⟨7, by decide +kernel, rfl, by decide⟩
theorem eX12_clashMany_36 : sl_D YX12_clashMany 36 (.iconst 1) 1 37 := ⟨by decide +kernel, rfl⟩
theorem eX12_clashMany_37 : sl_B YX12_clashMany 37 (fun o => .goto o) 40 41 := ⟨4, by decide +kernel, rfl, by decide⟩
theorem eX12_clashMany_40 : sl_D YX12_clashMany 40 (.iconst 0) 1 41 := ⟨by decide +kernel, rfl⟩
theorem eX12_clashMany_41 : sl_D YX12_clashMany 41 (.iadd) 1 42 := ⟨by decide +kernel, rfl⟩
theorem eX12_clashMany_42 : sl_D YX12_clashMany 42 (.istore_n 1) 1 43 := ⟨by decide +kernel, rfl⟩
theorem eX12_clashMany_43 : sl_D YX12_clashMany 43 (.iinc 3 1) 3 46 := ⟨by decide +kernel, rfl⟩
theorem eX12_clashMany_46 : sl_B YX12_clashMany 46 (fun o => .goto o) 49 14 := ⟨-32, by decide +kernel, rfl, by decide⟩
theorem eX12_clashMany_49 : sl_D YX12_clashMany 49 (.iinc 2 1) 3 52 := ⟨by decide +kernel, rfl⟩
theorem eX12_clashMany_52 : sl_B YX12_clashMany 52 (fun o => .goto o) 55 4 := ⟨-48, by decide +kernel, rfl, by decide⟩
theorem eX12_clashMany_55 : sl_D YX12_clashMany 55 (.iload_n 1) 1 56 := ⟨by decide +kernel, rfl⟩
theorem eX12_clashMany_56 : sl_D YX12_clashMany 56 (.ireturn) 1 57 := ⟨by decide +kernel, rfl⟩
theorem eX12_clashes_0 : sl_D YX12_clashes 0 (.aload_n 0) 1 1 := ⟨by decide +kernel, rfl⟩
theorem eX12_clashes_1 : sl_D YX12_clashes 1 (.iconst 0) 1 2 := ⟨by decide +kernel, rfl⟩
theorem eX12_clashes_2 : sl_D YX12_clashes 2 (.putfield 149) 3 5 := ⟨by decide +kernel, rfl⟩
theorem eX12_clashes_5 : sl_D YX12_clashes 5 (.aload_n 0) 1 6 := ⟨by decide +kernel, rfl⟩
theorem eX12_clashes_6 : sl_D YX12_clashes 6 (.getfield 317) 3 9 := ⟨by decide +kernel, rfl⟩
theorem eX12_clashes_9 : sl_B YX12_clashes 9 (fun o => .ifCond .eq o) 12 23 := ⟨14, by decide +kernel, rfl, by decide⟩
theorem eX12_clashes_12 : sl_D YX12_clashes 12 (.aload_n 0) 1 13 := ⟨by decide +kernel, rfl⟩
theorem eX12_clashes_13 : sl_D YX12_clashes 13 (.aload_n 0) 1 14 := ⟨by decide +kernel, rfl⟩
theorem eX12_clashes_14 : sl_D YX12_clashes 14 (.invokevirtual 377) 3 17 := ⟨by decide +kernel, rfl⟩
theorem eX12_clashes_17 : sl_D YX12_clashes 17 (.invokevirtual 314) 3 20 := ⟨by decide +kernel, rfl⟩
theorem eX12_clashes_20 : sl_B YX12_clashes 20 (fun o => .goto o) 23 28 := ⟨8, by decide +kernel, rfl, by decide⟩
theorem eX12_clashes_23 : sl_D YX12_clashes 23 (.aload_n 0) 1 24 := ⟨by decide +kernel, rfl⟩
theorem eX12_clashes_24 : sl_D YX12_clashes 24 (.iconst 1) 1 25 := ⟨by decide +kernel, rfl⟩
theorem eX12_clashes_25 : sl_D YX12_clashes 25 (.invokevirtual 155) 3 28 := ⟨by decide +kernel, rfl⟩
theorem eX12_clashes_28 : sl_D YX12_clashes 28 (.ireturn) 1 29 := ⟨by decide +kernel, rfl⟩
theorem eX12_clash_0 : sl_D YX12_clash 0 (.aload_n 0) 1 1 := ⟨by decide +kernel, rfl⟩
theorem eX12_clash_1 : sl_D YX12_clash 1 (.iconst 0) 1 2 := ⟨by decide +kernel, rfl⟩
theorem eX12_clash_2 : sl_D YX12_clash 2 (.putfield 149) 3 5 := ⟨by decide +kernel, rfl⟩
theorem eX12_clash_5 : sl_D YX12_clash 5 (.aload_n 0) 1 6 := ⟨by decide +kernel, rfl⟩
theorem eX12_clash_6 : sl_D YX12_clash 6 (.getfield 317) 3 9 := ⟨by decide +kernel, rfl⟩
theorem eX12_clash_9 : sl_B YX12_clash 9 (fun o => .ifCond .ne o) 12 18 := ⟨9, by decide +kernel, rfl, by decide⟩
theorem eX12_clash_12 : sl_D YX12_clash 12 (.aload_n 0) 1 13 := ⟨by decide +kernel, rfl⟩
theorem eX12_clash_13 : sl_D YX12_clash 13 (.iconst 1) 1 14 := ⟨by decide +kernel, rfl⟩
theorem eX12_clash_14 : sl_D YX12_clash 14 (.invokevirtual 155) 3 17 := ⟨by decide +kernel, rfl⟩
theorem eX12_clash_17 : sl_D YX12_clash 17 (.ireturn) 1 18 := ⟨by decide +kernel, rfl⟩
theorem eX12_clash_18 : sl_D YX12_clash 18 (.iconst 0) 1 19 := ⟨by decide +kernel, rfl⟩
theorem eX12_clash_19 : sl_D YX12_clash 19 (.istore_n 2) 1 20 := ⟨by decide +kernel, rfl⟩
theorem eX12_clash_20 : sl_D YX12_clash 20 (.iconst 0) 1 21 := ⟨by decide +kernel, rfl⟩
theorem eX12_clash_21 : sl_D YX12_clash 21 (.istore_n 3) 1 22 := ⟨by decide +kernel, rfl⟩
theorem eX12_clash_22 : sl_D YX12_clash 22 (.iload_n 3) 1 23 := ⟨by decide +kernel, rfl⟩
theorem eX12_clash_23 : sl_D YX12_clash 23 (.aload_n 0) 1 24 := ⟨by decide +kernel, rfl⟩
theorem eX12_clash_24 : sl_D YX12_clash 24 (.getfield 324) 3 27 := ⟨by decide +kernel, rfl⟩
theorem eX12_clash_27 : sl_B YX12_clash 27 (fun o => .if_icmp .gt o) 30 91 := ⟨64, by decide +kernel, rfl, by decide⟩
theorem eX12_clash_30 : sl_D YX12_clash 30 (.iconst 0) 1 31 := ⟨by decide +kernel, rfl⟩
theorem eX12_clash_31 : sl_D YX12_clash 31 (.istore 4) 2 33 := ⟨by decide +kernel, rfl⟩
theorem eX12_clash_33 : sl_D YX12_clash 33 (.iload 4) 2 35 := ⟨by decide +kernel, rfl⟩
theorem eX12_clash_35 : sl_D YX12_clash 35 (.aload_n 0) 1 36 := ⟨by decide +kernel, rfl⟩
theorem eX12_clash_36 : sl_D YX12_clash 36 (.getfield 324) 3 39 := ⟨by decide +kernel, rfl⟩
theorem eX12_clash_39 : sl_B YX12_clash 39 (fun o => .if_icmp .gt o) 42 85 := ⟨46, by decide +kernel, rfl, by decide⟩
theorem eX12_clash_42 : sl_D YX12_clash 42 (.aload_n 0) 1 43 := ⟨by decide +kernel, rfl⟩
theorem eX12_clash_43 : sl_D YX12_clash 43 (.aload_n 0) 1 44 := ⟨by decide +kernel, rfl⟩
theorem eX12_clash_44 : sl_D YX12_clash 44 (.iload_n 3) 1 45 := ⟨by decide +kernel, rfl⟩
theorem eX12_clash_45 : sl_D YX12_clash 45 (.iload 4) 2 47 := ⟨by decide +kernel, rfl⟩
theorem eX12_clash_47 : sl_D YX12_clash 47 (.invokevirtual 371) 3 50 := ⟨by decide +kernel, rfl⟩
theorem eX12_clash_50 : sl_D YX12_clash 50 (.invokevirtual 374) 3 53 := ⟨by decide +kernel, rfl⟩
theorem eX12_clash_53 : sl_B YX12_clash 53 (fun o => .ifCond .ne o) 56 59 := ⟨6, by decide +kernel, rfl, by decide⟩
theorem eX12_clash_56 : sl_B YX12_clash 56 (fun o => .goto o) 59 79 := ⟨23, by decide +kernel, rfl, by decide⟩
theorem eX12_clash_59 : sl_D YX12_clash 59 (.iload_n 2) 1 60 := ⟨by decide +kernel, rfl⟩
theorem eX12_clash_60 : sl_D YX12_clash 60 (.iload_n 1) 1 61 := ⟨by decide +kernel, rfl⟩
theorem eX12_clash_61 : sl_B YX12_clash 61 (fun o => .if_icmp .ne o) 64 76 := ⟨15, by decide +kernel, rfl, by decide⟩
theorem eX12_clash_64 : sl_D YX12_clash 64 (.aload_n 0) 1 65 := ⟨by decide +kernel, rfl⟩
theorem eX12_clash_65 : sl_D YX12_clash 65 (.bipush 16) 2 67 := ⟨by decide +kernel, rfl⟩
theorem eX12_clash_67 : sl_D YX12_clash 67 (.iload_n 3) 1 68 := ⟨by decide +kernel, rfl⟩
theorem eX12_clash_68 : sl_D YX12_clash 68 (.imul) 1 69 := ⟨by decide +kernel, rfl⟩
theorem eX12_clash_69 : sl_D YX12_clash 69 (.iload 4) 2 71 := ⟨by decide +kernel, rfl⟩
theorem eX12_clash_71 : sl_D YX12_clash 71 (.iadd) 1 72 := ⟨by decide +kernel, rfl⟩
theorem eX12_clash_72 : sl_D YX12_clash 72 (.invokevirtual 314) 3 75 := ⟨by decide +kernel, rfl⟩
theorem eX12_clash_75 : sl_D YX12_clash 75 (.ireturn) 1 76 := ⟨by decide +kernel, rfl⟩
theorem eX12_clash_76 : sl_D YX12_clash 76 (.iinc 2 1) 3 79 := ⟨by decide +kernel, rfl⟩
theorem eX12_clash_79 : sl_D YX12_clash 79 (.iinc 4 1) 3 82 := ⟨by decide +kernel, rfl⟩
theorem eX12_clash_82 : sl_B YX12_clash 82 (fun o => .goto o) 85 33 := ⟨-49, by decide +kernel, rfl, by decide⟩
theorem eX12_clash_85 : sl_D YX12_clash 85 (.iinc 3 1) 3 88 := ⟨by decide +kernel, rfl⟩
theorem eX12_clash_88 : sl_B YX12_clash 88 (fun o => .goto o) 91 22 := ⟨-66, by decide +kernel, rfl, by decide⟩
theorem eX12_clash_91 : sl_D YX12_clash 91 (.aload_n 0) 1 92 := ⟨by decide +kernel, rfl⟩
theorem eX12_clash_92 : sl_D YX12_clash 92 (.iconst 1) 1 93 := ⟨by decide +kernel, rfl⟩
theorem eX12_clash_93 : sl_D YX12_clash 93 (.invokevirtual 155) 3 96 := ⟨by decide +kernel, rfl⟩
theorem eX12_clash_96 : sl_D YX12_clash 96 (.ireturn) 1 97 := ⟨by decide +kernel, rfl⟩
theorem eX12_hasSkeleton_0 : sl_D YX12_hasSkeleton 0 (.aload_n 0) 1 1 := ⟨by decide +kernel, rfl⟩
theorem eX12_hasSkeleton_1 : sl_D YX12_hasSkeleton 1 (.getfield 20) 3 4 := ⟨by decide +kernel, rfl⟩
theorem eX12_hasSkeleton_4 : sl_D YX12_hasSkeleton 4 (.iload_n 1) 1 5 := ⟨by decide +kernel, rfl⟩
theorem eX12_hasSkeleton_5 : sl_D YX12_hasSkeleton 5 (.iaload) 1 6 := ⟨by decide +kernel, rfl⟩
theorem eX12_hasSkeleton_6 : sl_D YX12_hasSkeleton 6 (.iconst 1) 1 7 := ⟨by decide +kernel, rfl⟩
theorem eX12_hasSkeleton_7 : sl_B YX12_hasSkeleton 7 (fun o => .if_icmp .gt o) 10 21 := ⟨14, by decide +kernel, rfl, by decide⟩
theorem eX12_hasSkeleton_10 : sl_D YX12_hasSkeleton 10 (.aload_n 0) 1 11 := ⟨by decide +kernel, rfl⟩
theorem eX12_hasSkeleton_11 : sl_D YX12_hasSkeleton 11 (.iload_n 1) 1 12 := ⟨by decide +kernel, rfl⟩
theorem eX12_hasSkeleton_12 : sl_D YX12_hasSkeleton 12 (.iconst 0) 1 13 := ⟨by decide +kernel, rfl⟩
theorem eX12_hasSkeleton_13 : sl_D YX12_hasSkeleton 13 (.invokevirtual 351) 3 16 := ⟨by decide +kernel, rfl⟩
theorem eX12_hasSkeleton_16 : sl_D YX12_hasSkeleton 16 (.bipush 100) 2 18 := ⟨by decide +kernel, rfl⟩
theorem eX12_hasSkeleton_18 : sl_B YX12_hasSkeleton 18 (fun o => .if_icmp .ge o) 21 25 := ⟨7, by decide +kernel, rfl, by decide⟩
theorem eX12_hasSkeleton_21 : sl_D YX12_hasSkeleton 21 (.iconst 1) 1 22 := ⟨by decide +kernel, rfl⟩
theorem eX12_hasSkeleton_22 : sl_B YX12_hasSkeleton 22 (fun o => .goto o) 25 26 := ⟨4, by decide +kernel, rfl, by decide⟩
theorem eX12_hasSkeleton_25 : sl_D YX12_hasSkeleton 25 (.iconst 0) 1 26 := ⟨by decide +kernel, rfl⟩
theorem eX12_hasSkeleton_26 : sl_D YX12_hasSkeleton 26 (.ireturn) 1 27 := ⟨by decide +kernel, rfl⟩
theorem eX12_areAlike_0 : sl_D YX12_areAlike 0 (.aload_n 0) 1 1 := ⟨by decide +kernel, rfl⟩
theorem eX12_areAlike_1 : sl_D YX12_areAlike 1 (.getfield 20) 3 4 := ⟨by decide +kernel, rfl⟩
theorem eX12_areAlike_4 : sl_D YX12_areAlike 4 (.iload_n 1) 1 5 := ⟨by decide +kernel, rfl⟩
theorem eX12_areAlike_5 : sl_D YX12_areAlike 5 (.iaload) 1 6 := ⟨by decide +kernel, rfl⟩
theorem eX12_areAlike_6 : sl_D YX12_areAlike 6 (.aload_n 0) 1 7 := ⟨by decide +kernel, rfl⟩
theorem eX12_areAlike_7 : sl_D YX12_areAlike 7 (.getfield 20) 3 10 := ⟨by decide +kernel, rfl⟩
theorem eX12_areAlike_10 : sl_D YX12_areAlike 10 (.iload_n 2) 1 11 := ⟨by decide +kernel, rfl⟩
theorem eX12_areAlike_11 : sl_D YX12_areAlike 11 (.iaload) 1 12 := ⟨by decide +kernel, rfl⟩
theorem eX12_areAlike_12 : sl_B YX12_areAlike 12 (fun o => .if_icmp .eq o) 15 17 := ⟨5, by decide +kernel, rfl, by decide⟩
theorem eX12_areAlike_15 : sl_D YX12_areAlike 15 (.iconst 0) 1 16 := ⟨by decide +kernel, rfl⟩
theorem eX12_areAlike_16 : sl_D YX12_areAlike 16 (.ireturn) 1 17 := ⟨by decide +kernel, rfl⟩
theorem eX12_areAlike_17 : sl_D YX12_areAlike 17 (.iconst 0) 1 18 := ⟨by decide +kernel, rfl⟩
theorem eX12_areAlike_18 : sl_D YX12_areAlike 18 (.istore_n 3) 1 19 := ⟨by decide +kernel, rfl⟩
theorem eX12_areAlike_19 : sl_D YX12_areAlike 19 (.iload_n 3) 1 20 := ⟨by decide +kernel, rfl⟩
theorem eX12_areAlike_20 : sl_D YX12_areAlike 20 (.aload_n 0) 1 21 := ⟨by decide +kernel, rfl⟩
theorem eX12_areAlike_21 : sl_D YX12_areAlike 21 (.getfield 20) 3 24 := ⟨by decide +kernel, rfl⟩
theorem eX12_areAlike_24 : sl_D YX12_areAlike 24 (.iload_n 1) 1 25 := ⟨by decide +kernel, rfl⟩
theorem eX12_areAlike_25 : sl_D YX12_areAlike 25 (.iaload) 1 26 := ⟨by decide +kernel, rfl⟩
theorem eX12_areAlike_26 : sl_B YX12_areAlike 26 (fun o => .if_icmp .ge o) 29 74 := ⟨48, by decide +kernel, rfl, by decide⟩
theorem eX12_areAlike_29 : sl_D YX12_areAlike 29 (.aload_n 0) 1 30 := ⟨by decide +kernel, rfl⟩
theorem eX12_areAlike_30 : sl_D YX12_areAlike 30 (.iload_n 1) 1 31 := ⟨by decide +kernel, rfl⟩
theorem eX12_areAlike_31 : sl_D YX12_areAlike 31 (.iload_n 3) 1 32 := ⟨by decide +kernel, rfl⟩
theorem eX12_areAlike_32 : sl_D YX12_areAlike 32 (.invokevirtual 351) 3 35 := ⟨by decide +kernel, rfl⟩
theorem eX12_areAlike_35 : sl_D YX12_areAlike 35 (.istore 4) 2 37 := ⟨by decide +kernel, rfl⟩
theorem eX12_areAlike_37 : sl_D YX12_areAlike 37 (.aload_n 0) 1 38 := ⟨by decide +kernel, rfl⟩
theorem eX12_areAlike_38 : sl_D YX12_areAlike 38 (.iload_n 2) 1 39 := ⟨by decide +kernel, rfl⟩
theorem eX12_areAlike_39 : sl_D YX12_areAlike 39 (.iload_n 3) 1 40 := ⟨by decide +kernel, rfl⟩
theorem eX12_areAlike_40 : sl_D YX12_areAlike 40 (.invokevirtual 351) 3 43 := ⟨by decide +kernel, rfl⟩
theorem eX12_areAlike_43 : sl_D YX12_areAlike 43 (.istore 5) 2 45 := ⟨by decide +kernel, rfl⟩
theorem eX12_areAlike_45 : sl_D YX12_areAlike 45 (.iload 4) 2 47 := ⟨by decide +kernel, rfl⟩
theorem eX12_areAlike_47 : sl_D YX12_areAlike 47 (.iload 5) 2 49 := ⟨by decide +kernel, rfl⟩
theorem eX12_areAlike_49 : sl_B YX12_areAlike 49 (fun o => .if_icmp .eq o) 52 68 := ⟨19, by decide +kernel, rfl, by decide⟩
theorem eX12_areAlike_52 : sl_D YX12_areAlike 52 (.iload 4) 2 54 := ⟨by decide +kernel, rfl⟩
theorem eX12_areAlike_54 : sl_D YX12_areAlike 54 (.bipush 100) 2 56 := ⟨by decide +kernel, rfl⟩
theorem eX12_areAlike_56 : sl_B YX12_areAlike 56 (fun o => .if_icmp .lt o) 59 66 := ⟨10, by decide +kernel, rfl, by decide⟩
theorem eX12_areAlike_59 : sl_D YX12_areAlike 59 (.iload 5) 2 61 := ⟨by decide +kernel, rfl⟩
theorem eX12_areAlike_61 : sl_D YX12_areAlike 61 (.bipush 100) 2 63 := ⟨by decide +kernel, rfl⟩
theorem eX12_areAlike_63 : sl_B YX12_areAlike 63 (fun o => .if_icmp .ge o) 66 68 := ⟨5, by decide +kernel, rfl, by decide⟩
theorem eX12_areAlike_66 : sl_D YX12_areAlike 66 (.iconst 0) 1 67 := ⟨by decide +kernel, rfl⟩
theorem eX12_areAlike_67 : sl_D YX12_areAlike 67 (.ireturn) 1 68 := ⟨by decide +kernel, rfl⟩
theorem eX12_areAlike_68 : sl_D YX12_areAlike 68 (.iinc 3 1) 3 71 := ⟨by decide +kernel, rfl⟩
theorem eX12_areAlike_71 : sl_B YX12_areAlike 71 (fun o => .goto o) 74 19 := ⟨-52, by decide +kernel, rfl, by decide⟩
theorem eX12_areAlike_74 : sl_D YX12_areAlike 74 (.iconst 1) 1 75 := ⟨by decide +kernel, rfl⟩
theorem eX12_areAlike_75 : sl_D YX12_areAlike 75 (.ireturn) 1 76 := ⟨by decide +kernel, rfl⟩
theorem eX12_doubles_0 : sl_D YX12_doubles 0 (.aload_n 0) 1 1 := ⟨by decide +kernel, rfl⟩
theorem eX12_doubles_1 : sl_D YX12_doubles 1 (.iconst 0) 1 2 := ⟨by decide +kernel, rfl⟩
theorem eX12_doubles_2 : sl_D YX12_doubles 2 (.putfield 149) 3 5 := ⟨by decide +kernel, rfl⟩
theorem eX12_doubles_5 : sl_D YX12_doubles 5 (.aload_n 0) 1 6 := ⟨by decide +kernel, rfl⟩
theorem eX12_doubles_6 : sl_D YX12_doubles 6 (.getfield 317) 3 9 := ⟨by decide +kernel, rfl⟩
theorem eX12_doubles_9 : sl_B YX12_doubles 9 (fun o => .ifCond .ne o) 12 18 := ⟨9, by decide +kernel, rfl, by decide⟩
theorem eX12_doubles_12 : sl_D YX12_doubles 12 (.aload_n 0) 1 13 := ⟨by decide +kernel, rfl⟩
theorem eX12_doubles_13 : sl_D YX12_doubles 13 (.iconst 1) 1 14 := ⟨by decide +kernel, rfl⟩
theorem eX12_doubles_14 : sl_D YX12_doubles 14 (.invokevirtual 155) 3 17 := ⟨by decide +kernel, rfl⟩
theorem eX12_doubles_17 : sl_D YX12_doubles 17 (.ireturn) 1 18 := ⟨by decide +kernel, rfl⟩
theorem eX12_doubles_18 : sl_D YX12_doubles 18 (.iconst 0) 1 19 := ⟨by decide +kernel, rfl⟩
theorem eX12_doubles_19 : sl_D YX12_doubles 19 (.istore_n 1) 1 20 := ⟨by decide +kernel, rfl⟩
theorem eX12_doubles_20 : sl_D YX12_doubles 20 (.iconst 0) 1 21 := ⟨by decide +kernel, rfl⟩
theorem eX12_doubles_21 : sl_D YX12_doubles 21 (.istore_n 2) 1 22 := ⟨by decide +kernel, rfl⟩
theorem eX12_doubles_22 : sl_D YX12_doubles 22 (.iload_n 2) 1 23 := ⟨by decide +kernel, rfl⟩
theorem eX12_doubles_23 : sl_D YX12_doubles 23 (.aload_n 0) 1 24 := ⟨by decide +kernel, rfl⟩
theorem eX12_doubles_24 : sl_D YX12_doubles 24 (.getfield 311) 3 27 := ⟨by decide +kernel, rfl⟩
theorem eX12_doubles_27 : sl_B YX12_doubles 27 (fun o => .if_icmp .ge o) 30 88 := ⟨61, by decide +kernel, rfl, by decide⟩
theorem eX12_doubles_30 : sl_D YX12_doubles 30 (.iconst 0) 1 31 := ⟨by decide +kernel, rfl⟩
theorem eX12_doubles_31 : sl_D YX12_doubles 31 (.istore_n 3) 1 32 := ⟨by decide +kernel, rfl⟩
theorem eX12_doubles_32 : sl_D YX12_doubles 32 (.iload_n 3) 1 33 := ⟨by decide +kernel, rfl⟩
theorem eX12_doubles_33 : sl_D YX12_doubles 33 (.iload_n 2) 1 34 := ⟨by decide +kernel, rfl⟩
theorem eX12_doubles_34 : sl_B YX12_doubles 34 (fun o => .if_icmp .ge o) 37 82 := ⟨48, by decide +kernel, rfl, by decide⟩
theorem eX12_doubles_37 : sl_D YX12_doubles 37 (.aload_n 0) 1 38 := ⟨by decide +kernel, rfl⟩
theorem eX12_doubles_38 : sl_D YX12_doubles 38 (.iload_n 2) 1 39 := ⟨by decide +kernel, rfl⟩
theorem eX12_doubles_39 : sl_D YX12_doubles 39 (.invokevirtual 348) 3 42 := ⟨by decide +kernel, rfl⟩
theorem eX12_doubles_42 : sl_B YX12_doubles 42 (fun o => .ifCond .eq o) 45 76 := ⟨34, by decide +kernel, rfl, by decide⟩
theorem eX12_doubles_45 : sl_D YX12_doubles 45 (.aload_n 0) 1 46 := ⟨by decide +kernel, rfl⟩
theorem eX12_doubles_46 : sl_D YX12_doubles 46 (.iload_n 3) 1 47 := ⟨by decide +kernel, rfl⟩
theorem eX12_doubles_47 : sl_D YX12_doubles 47 (.invokevirtual 348) 3 50 := ⟨by decide +kernel, rfl⟩
theorem eX12_doubles_50 : sl_B YX12_doubles 50 (fun o => .ifCond .eq o) 53 76 := ⟨26, by decide +kernel, rfl, by decide⟩
theorem eX12_doubles_53 : sl_D YX12_doubles 53 (.aload_n 0) 1 54 := ⟨by decide +kernel, rfl⟩
theorem eX12_doubles_54 : sl_D YX12_doubles 54 (.iload_n 2) 1 55 := ⟨by decide +kernel, rfl⟩
theorem eX12_doubles_55 : sl_D YX12_doubles 55 (.invokevirtual 380) 3 58 := ⟨by decide +kernel, rfl⟩
theorem eX12_doubles_58 : sl_B YX12_doubles 58 (fun o => .ifCond .eq o) 61 76 := ⟨18, by decide +kernel, rfl, by decide⟩
theorem eX12_doubles_61 : sl_D YX12_doubles 61 (.aload_n 0) 1 62 := ⟨by decide +kernel, rfl⟩
theorem eX12_doubles_62 : sl_D YX12_doubles 62 (.iload_n 2) 1 63 := ⟨by decide +kernel, rfl⟩
theorem eX12_doubles_63 : sl_D YX12_doubles 63 (.iload_n 3) 1 64 := ⟨by decide +kernel, rfl⟩
theorem eX12_doubles_64 : sl_D YX12_doubles 64 (.invokevirtual 383) 3 67 := ⟨by decide +kernel, rfl⟩
theorem eX12_doubles_67 : sl_B YX12_doubles 67 (fun o => .ifCond .eq o) 70 76 := ⟨9, by decide +kernel, rfl, by decide⟩
theorem eX12_doubles_70 : sl_D YX12_doubles 70 (.iload_n 1) 1 71 := ⟨by decide +kernel, rfl⟩
theorem eX12_doubles_71 : sl_D YX12_doubles 71 (.iconst 1) 1 72 := ⟨by decide +kernel, rfl⟩
theorem eX12_doubles_72 : sl_D YX12_doubles 72 (.iload_n 2) 1 73 := ⟨by decide +kernel, rfl⟩
theorem eX12_doubles_73 : sl_D YX12_doubles 73 (.ishl) 1 74 := ⟨by decide +kernel, rfl⟩
theorem eX12_doubles_74 : sl_D YX12_doubles 74 (.ior) 1 75 := ⟨by decide +kernel, rfl⟩
theorem eX12_doubles_75 : sl_D YX12_doubles 75 (.istore_n 1) 1 76 := ⟨by decide +kernel, rfl⟩
theorem eX12_doubles_76 : sl_D YX12_doubles 76 (.iinc 3 1) 3 79 := ⟨by decide +kernel, rfl⟩
theorem eX12_doubles_79 : sl_B YX12_doubles 79 (fun o => .goto o) 82 32 := ⟨-47, by decide +kernel, rfl, by decide⟩
theorem eX12_doubles_82 : sl_D YX12_doubles 82 (.iinc 2 1) 3 85 := ⟨by decide +kernel, rfl⟩
theorem eX12_doubles_85 : sl_B YX12_doubles 85 (fun o => .goto o) 88 22 := ⟨-63, by decide +kernel, rfl, by decide⟩
theorem eX12_doubles_88 : sl_D YX12_doubles 88 (.aload_n 0) 1 89 := ⟨by decide +kernel, rfl⟩
theorem eX12_doubles_89 : sl_D YX12_doubles 89 (.iload_n 1) 1 90 := ⟨by decide +kernel, rfl⟩
theorem eX12_doubles_90 : sl_D YX12_doubles 90 (.invokevirtual 314) 3 93 := ⟨by decide +kernel, rfl⟩
theorem eX12_doubles_93 : sl_D YX12_doubles 93 (.ireturn) 1 94 := ⟨by decide +kernel, rfl⟩
theorem eX12_isPoint_0 : sl_D YX12_isPoint 0 (.iload_n 1) 1 1 := ⟨by decide +kernel, rfl⟩
theorem eX12_isPoint_1 : sl_D YX12_isPoint 1 (.bipush 16) 2 3 := ⟨by decide +kernel, rfl⟩
theorem eX12_isPoint_3 : sl_D YX12_isPoint 3 (.irem) 1 4 := ⟨by decide +kernel, rfl⟩
theorem eX12_isPoint_4 : sl_D YX12_isPoint 4 (.aload_n 0) 1 5 := ⟨by decide +kernel, rfl⟩
theorem eX12_isPoint_5 : sl_D YX12_isPoint 5 (.getfield 324) 3 8 := ⟨by decide +kernel, rfl⟩
theorem eX12_isPoint_8 : sl_B YX12_isPoint 8 (fun o => .if_icmp .gt o) 11 15 := ⟨7, by decide +kernel, rfl, by decide⟩
theorem eX12_isPoint_11 : sl_D YX12_isPoint 11 (.iconst 1) 1 12 := ⟨by decide +kernel, rfl⟩
theorem eX12_isPoint_12 : sl_B YX12_isPoint 12 (fun o => .goto o) 15 16 := ⟨4, by decide +kernel, rfl, by decide⟩
theorem eX12_isPoint_15 : sl_D YX12_isPoint 15 (.iconst 0) 1 16 := ⟨by decide +kernel, rfl⟩
theorem eX12_isPoint_16 : sl_D YX12_isPoint 16 (.ireturn) 1 17 := ⟨by decide +kernel, rfl⟩
theorem eX12_isKnot_0 : sl_D YX12_isKnot 0 (.aload_n 0) 1 1 := ⟨by decide +kernel, rfl⟩
theorem eX12_isKnot_1 : sl_D YX12_isKnot 1 (.iload_n 1) 1 2 := ⟨by decide +kernel, rfl⟩
theorem eX12_isKnot_2 : sl_D YX12_isKnot 2 (.invokevirtual 386) 3 5 := ⟨by decide +kernel, rfl⟩
theorem eX12_isKnot_5 : sl_B YX12_isKnot 5 (fun o => .ifCond .eq o) 8 22 := ⟨17, by decide +kernel, rfl, by decide⟩
theorem eX12_isKnot_8 : sl_D YX12_isKnot 8 (.aload_n 0) 1 9 := ⟨by decide +kernel, rfl⟩
theorem eX12_isKnot_9 : sl_D YX12_isKnot 9 (.getfield 67) 3 12 := ⟨by decide +kernel, rfl⟩
theorem eX12_isKnot_12 : sl_D YX12_isKnot 12 (.iload_n 1) 1 13 := ⟨by decide +kernel, rfl⟩
theorem eX12_isKnot_13 : sl_D YX12_isKnot 13 (.iaload) 1 14 := ⟨by decide +kernel, rfl⟩
theorem eX12_isKnot_14 : sl_D YX12_isKnot 14 (.iload_n 1) 1 15 := ⟨by decide +kernel, rfl⟩
theorem eX12_isKnot_15 : sl_B YX12_isKnot 15 (fun o => .if_icmp .ne o) 18 22 := ⟨7, by decide +kernel, rfl, by decide⟩
theorem eX12_isKnot_18 : sl_D YX12_isKnot 18 (.iconst 1) 1 19 := ⟨by decide +kernel, rfl⟩
theorem eX12_isKnot_19 : sl_B YX12_isKnot 19 (fun o => .goto o) 22 23 := ⟨4, by decide +kernel, rfl, by decide⟩
theorem eX12_isKnot_22 : sl_D YX12_isKnot 22 (.iconst 0) 1 23 := ⟨by decide +kernel, rfl⟩
theorem eX12_isKnot_23 : sl_D YX12_isKnot 23 (.ireturn) 1 24 := ⟨by decide +kernel, rfl⟩
theorem eX12_joins_0 : sl_D YX12_joins 0 (.aload_n 0) 1 1 := ⟨by decide +kernel, rfl⟩
theorem eX12_joins_1 : sl_D YX12_joins 1 (.getfield 67) 3 4 := ⟨by decide +kernel, rfl⟩
theorem eX12_joins_4 : sl_D YX12_joins 4 (.iload_n 1) 1 5 := ⟨by decide +kernel, rfl⟩
theorem eX12_joins_5 : sl_D YX12_joins 5 (.iaload) 1 6 := ⟨by decide +kernel, rfl⟩
theorem eX12_joins_6 : sl_D YX12_joins 6 (.istore_n 3) 1 7 := ⟨by decide +kernel, rfl⟩
theorem eX12_joins_7 : sl_D YX12_joins 7 (.aload_n 0) 1 8 := ⟨by decide +kernel, rfl⟩
theorem eX12_joins_8 : sl_D YX12_joins 8 (.getfield 67) 3 11 := ⟨by decide +kernel, rfl⟩
theorem eX12_joins_11 : sl_D YX12_joins 11 (.iload_n 2) 1 12 := ⟨by decide +kernel, rfl⟩
theorem eX12_joins_12 : sl_D YX12_joins 12 (.iaload) 1 13 := ⟨by decide +kernel, rfl⟩
theorem eX12_joins_13 : sl_D YX12_joins 13 (.istore 4) 2 15 := ⟨by decide +kernel, rfl⟩
theorem eX12_joins_15 : sl_D YX12_joins 15 (.iload_n 3) 1 16 := ⟨by decide +kernel, rfl⟩
theorem eX12_joins_16 : sl_D YX12_joins 16 (.iload 4) 2 18 := ⟨by decide +kernel, rfl⟩
theorem eX12_joins_18 : sl_B YX12_joins 18 (fun o => .if_icmp .ge o) 21 25 := ⟨7, by decide +kernel, rfl, by decide⟩
theorem eX12_joins_21 : sl_D YX12_joins 21 (.iload_n 3) 1 22 := ⟨by decide +kernel, rfl⟩
theorem eX12_joins_22 : sl_B YX12_joins 22 (fun o => .goto o) 25 27 := ⟨5, by decide +kernel, rfl, by decide⟩
theorem eX12_joins_25 : sl_D YX12_joins 25 (.iload 4) 2 27 := ⟨by decide +kernel, rfl⟩
theorem eX12_joins_27 : sl_D YX12_joins 27 (.istore 5) 2 29 := ⟨by decide +kernel, rfl⟩
theorem eX12_joins_29 : sl_D YX12_joins 29 (.iconst 0) 1 30 := ⟨by decide +kernel, rfl⟩
theorem eX12_joins_30 : sl_D YX12_joins 30 (.istore 6) 2 32 := ⟨by decide +kernel, rfl⟩
theorem eX12_joins_32 : sl_D YX12_joins 32 (.iload 6) 2 34 := ⟨by decide +kernel, rfl⟩
theorem eX12_joins_34 : sl_D YX12_joins 34 (.bipush 32) 2 36 := ⟨by decide +kernel, rfl⟩
theorem eX12_joins_36 : sl_B YX12_joins 36 (fun o => .if_icmp .ge o) 39 77 := ⟨41, by decide +kernel, rfl, by decide⟩
theorem eX12_joins_39 : sl_D YX12_joins 39 (.aload_n 0) 1 40 := ⟨by decide +kernel, rfl⟩
theorem eX12_joins_40 : sl_D YX12_joins 40 (.getfield 67) 3 43 := ⟨by decide +kernel, rfl⟩
theorem eX12_joins_43 : sl_D YX12_joins 43 (.iload 6) 2 45 := ⟨by decide +kernel, rfl⟩
theorem eX12_joins_45 : sl_D YX12_joins 45 (.iaload) 1 46 := ⟨by decide +kernel, rfl⟩
theorem eX12_joins_46 : sl_D YX12_joins 46 (.iload_n 3) 1 47 := ⟨by decide +kernel, rfl⟩
theorem eX12_joins_47 : sl_B YX12_joins 47 (fun o => .if_icmp .eq o) 50 62 := ⟨15, by decide +kernel, rfl, by decide⟩
theorem eX12_joins_50 : sl_D YX12_joins 50 (.aload_n 0) 1 51 := ⟨by decide +kernel, rfl⟩
theorem eX12_joins_51 : sl_D YX12_joins 51 (.getfield 67) 3 54 := ⟨by decide +kernel, rfl⟩
theorem eX12_joins_54 : sl_D YX12_joins 54 (.iload 6) 2 56 := ⟨by decide +kernel, rfl⟩
theorem eX12_joins_56 : sl_D YX12_joins 56 (.iaload) 1 57 := ⟨by decide +kernel, rfl⟩
theorem eX12_joins_57 : sl_D YX12_joins 57 (.iload 4) 2 59 := ⟨by decide +kernel, rfl⟩
theorem eX12_joins_59 : sl_B YX12_joins 59 (fun o => .if_icmp .ne o) 62 71 := ⟨12, by decide +kernel, rfl, by decide⟩
theorem eX12_joins_62 : sl_D YX12_joins 62 (.aload_n 0) 1 63 := ⟨by decide +kernel, rfl⟩
theorem eX12_joins_63 : sl_D YX12_joins 63 (.getfield 67) 3 66 := ⟨by decide +kernel, rfl⟩
theorem eX12_joins_66 : sl_D YX12_joins 66 (.iload 6) 2 68 := ⟨by decide +kernel, rfl⟩
theorem eX12_joins_68 : sl_D YX12_joins 68 (.iload 5) 2 70 := ⟨by decide +kernel, rfl⟩
theorem eX12_joins_70 : sl_D YX12_joins 70 (.iastore) 1 71 := ⟨by decide +kernel, rfl⟩
theorem eX12_joins_71 : sl_D YX12_joins 71 (.iinc 6 1) 3 74 := ⟨by decide +kernel, rfl⟩
theorem eX12_joins_74 : sl_B YX12_joins 74 (fun o => .goto o) 77 32 := ⟨-42, by decide +kernel, rfl, by decide⟩
theorem eX12_joins_77 : sl_D YX12_joins 77 (.return_) 1 78 := ⟨by decide +kernel, rfl⟩
theorem eX12_laysPoints_0 : sl_D YX12_laysPoints 0 (.iconst 0) 1 1 := ⟨by decide +kernel, rfl⟩
theorem eX12_laysPoints_1 : sl_D YX12_laysPoints 1 (.istore_n 1) 1 2 := ⟨by decide +kernel, rfl⟩
theorem eX12_laysPoints_2 : sl_D YX12_laysPoints 2 (.iload_n 1) 1 3 := ⟨by decide +kernel, rfl⟩
theorem eX12_laysPoints_3 : sl_D YX12_laysPoints 3 (.bipush 32) 2 5 := ⟨by decide +kernel, rfl⟩
theorem eX12_laysPoints_5 : sl_B YX12_laysPoints 5 (fun o => .if_icmp .ge o) 8 21 := ⟨16, by decide +kernel, rfl, by decide⟩
theorem eX12_laysPoints_8 : sl_D YX12_laysPoints 8 (.aload_n 0) 1 9 := ⟨by decide +kernel, rfl⟩
theorem eX12_laysPoints_9 : sl_D YX12_laysPoints 9 (.getfield 67) 3 12 := ⟨by decide +kernel, rfl⟩
theorem eX12_laysPoints_12 : sl_D YX12_laysPoints 12 (.iload_n 1) 1 13 := ⟨by decide +kernel, rfl⟩
theorem eX12_laysPoints_13 : sl_D YX12_laysPoints 13 (.iload_n 1) 1 14 := ⟨by decide +kernel, rfl⟩
theorem eX12_laysPoints_14 : sl_D YX12_laysPoints 14 (.iastore) 1 15 := ⟨by decide +kernel, rfl⟩
theorem eX12_laysPoints_15 : sl_D YX12_laysPoints 15 (.iinc 1 1) 3 18 := ⟨by decide +kernel, rfl⟩
theorem eX12_laysPoints_18 : sl_B YX12_laysPoints 18 (fun o => .goto o) 21 2 := ⟨-16, by decide +kernel, rfl, by decide⟩
theorem eX12_laysPoints_21 : sl_D YX12_laysPoints 21 (.iconst 0) 1 22 := ⟨by decide +kernel, rfl⟩
theorem eX12_laysPoints_22 : sl_D YX12_laysPoints 22 (.istore_n 1) 1 23 := ⟨by decide +kernel, rfl⟩
theorem eX12_laysPoints_23 : sl_D YX12_laysPoints 23 (.iload_n 1) 1 24 := ⟨by decide +kernel, rfl⟩
theorem eX12_laysPoints_24 : sl_D YX12_laysPoints 24 (.aload_n 0) 1 25 := ⟨by decide +kernel, rfl⟩
theorem eX12_laysPoints_25 : sl_D YX12_laysPoints 25 (.getfield 324) 3 28 := ⟨by decide +kernel, rfl⟩
theorem eX12_laysPoints_28 : sl_B YX12_laysPoints 28 (fun o => .if_icmp .gt o) 31 73 := ⟨45, by decide +kernel, rfl, by decide⟩
theorem eX12_laysPoints_31 : sl_D YX12_laysPoints 31 (.iconst 0) 1 32 := ⟨by decide +kernel, rfl⟩
theorem eX12_laysPoints_32 : sl_D YX12_laysPoints 32 (.istore_n 2) 1 33 := ⟨by decide +kernel, rfl⟩
theorem eX12_laysPoints_33 : sl_D YX12_laysPoints 33 (.iload_n 2) 1 34 := ⟨by decide +kernel, rfl⟩
theorem eX12_laysPoints_34 : sl_D YX12_laysPoints 34 (.aload_n 0) 1 35 := ⟨by decide +kernel, rfl⟩
theorem eX12_laysPoints_35 : sl_D YX12_laysPoints 35 (.getfield 324) 3 38 := ⟨by decide +kernel, rfl⟩
theorem eX12_laysPoints_38 : sl_B YX12_laysPoints 38 (fun o => .if_icmp .gt o) 41 67 := ⟨29, by decide +kernel, rfl, by decide⟩
theorem eX12_laysPoints_41 : sl_D YX12_laysPoints 41 (.aload_n 0) 1 42 := ⟨by decide +kernel, rfl⟩
theorem eX12_laysPoints_42 : sl_D YX12_laysPoints 42 (.iload_n 1) 1 43 := ⟨by decide +kernel, rfl⟩
theorem eX12_laysPoints_43 : sl_D YX12_laysPoints 43 (.iload_n 2) 1 44 := ⟨by decide +kernel, rfl⟩
theorem eX12_laysPoints_44 : sl_D YX12_laysPoints 44 (.invokevirtual 371) 3 47 := ⟨by decide +kernel, rfl⟩
theorem eX12_laysPoints_47 : sl_D YX12_laysPoints 47 (.iconst 2) 1 48 := ⟨by decide +kernel, rfl⟩
theorem eX12_laysPoints_48 : sl_D YX12_laysPoints 48 (.iand) 1 49 := ⟨by decide +kernel, rfl⟩
theorem eX12_laysPoints_49 : sl_B YX12_laysPoints 49 (fun o => .ifCond .eq o) 52 61 := ⟨12, by decide +kernel, rfl, by decide⟩
theorem eX12_laysPoints_52 : sl_D YX12_laysPoints 52 (.aload_n 0) 1 53 := ⟨by decide +kernel, rfl⟩
theorem eX12_laysPoints_53 : sl_D YX12_laysPoints 53 (.iload_n 1) 1 54 := ⟨by decide +kernel, rfl⟩
theorem eX12_laysPoints_54 : sl_D YX12_laysPoints 54 (.bipush 16) 2 56 := ⟨by decide +kernel, rfl⟩
theorem eX12_laysPoints_56 : sl_D YX12_laysPoints 56 (.iload_n 2) 1 57 := ⟨by decide +kernel, rfl⟩
theorem eX12_laysPoints_57 : sl_D YX12_laysPoints 57 (.iadd) 1 58 := ⟨by decide +kernel, rfl⟩
theorem eX12_laysPoints_58 : sl_D YX12_laysPoints 58 (.invokevirtual 389) 3 61 := ⟨by decide +kernel, rfl⟩
theorem eX12_laysPoints_61 : sl_D YX12_laysPoints 61 (.iinc 2 1) 3 64 := ⟨by decide +kernel, rfl⟩
theorem eX12_laysPoints_64 : sl_B YX12_laysPoints 64 (fun o => .goto o) 67 33 := ⟨-31, by decide +kernel, rfl, by decide⟩
theorem eX12_laysPoints_67 : sl_D YX12_laysPoints 67 (.iinc 1 1) 3 70 := ⟨by decide +kernel, rfl⟩
theorem eX12_laysPoints_70 : sl_B YX12_laysPoints 70 (fun o => .goto o) 73 23 := ⟨-47, by decide +kernel, rfl, by decide⟩
theorem eX12_laysPoints_73 : sl_D YX12_laysPoints 73 (.iconst 0) 1 74 := ⟨by decide +kernel, rfl⟩
theorem eX12_laysPoints_74 : sl_D YX12_laysPoints 74 (.istore_n 1) 1 75 := ⟨by decide +kernel, rfl⟩
theorem eX12_laysPoints_75 : sl_D YX12_laysPoints 75 (.iload_n 1) 1 76 := ⟨by decide +kernel, rfl⟩
theorem eX12_laysPoints_76 : sl_D YX12_laysPoints 76 (.aload_n 0) 1 77 := ⟨by decide +kernel, rfl⟩
theorem eX12_laysPoints_77 : sl_D YX12_laysPoints 77 (.getfield 76) 3 80 := ⟨by decide +kernel, rfl⟩
theorem eX12_laysPoints_80 : sl_D YX12_laysPoints 80 (.arraylength) 1 81 := ⟨by decide +kernel, rfl⟩
theorem eX12_laysPoints_81 : sl_B YX12_laysPoints 81 (fun o => .if_icmp .ge o) 84 97 := ⟨16, by decide +kernel, rfl, by decide⟩
theorem eX12_laysPoints_84 : sl_D YX12_laysPoints 84 (.aload_n 0) 1 85 := ⟨by decide +kernel, rfl⟩
theorem eX12_laysPoints_85 : sl_D YX12_laysPoints 85 (.getfield 76) 3 88 := ⟨by decide +kernel, rfl⟩
theorem eX12_laysPoints_88 : sl_D YX12_laysPoints 88 (.iload_n 1) 1 89 := ⟨by decide +kernel, rfl⟩
theorem eX12_laysPoints_89 : sl_D YX12_laysPoints 89 (.iconst 0) 1 90 := ⟨by decide +kernel, rfl⟩
theorem eX12_laysPoints_90 : sl_D YX12_laysPoints 90 (.bastore) 1 91 := ⟨by decide +kernel, rfl⟩
theorem eX12_laysPoints_91 : sl_D YX12_laysPoints 91 (.iinc 1 1) 3 94 := ⟨by decide +kernel, rfl⟩
theorem eX12_laysPoints_94 : sl_B YX12_laysPoints 94 (fun o => .goto o) 97 75 := ⟨-19, by decide +kernel, rfl, by decide⟩
theorem eX12_laysPoints_97 : sl_D YX12_laysPoints 97 (.iconst 0) 1 98 := ⟨by decide +kernel, rfl⟩
theorem eX12_laysPoints_98 : sl_D YX12_laysPoints 98 (.istore_n 1) 1 99 := ⟨by decide +kernel, rfl⟩
theorem eX12_laysPoints_99 : sl_D YX12_laysPoints 99 (.iload_n 1) 1 100 := ⟨by decide +kernel, rfl⟩
theorem eX12_laysPoints_100 : sl_D YX12_laysPoints 100 (.aload_n 0) 1 101 := ⟨by decide +kernel, rfl⟩
theorem eX12_laysPoints_101 : sl_D YX12_laysPoints 101 (.getfield 324) 3 104 := ⟨by decide +kernel, rfl⟩
theorem eX12_laysPoints_104 : sl_B YX12_laysPoints 104 (fun o => .if_icmp .gt o) 107 201 := ⟨97, by decide +kernel, rfl, by decide⟩
theorem eX12_laysPoints_107 : sl_D YX12_laysPoints 107 (.iconst 0) 1 108 := ⟨by decide +kernel, rfl⟩
theorem eX12_laysPoints_108 : sl_D YX12_laysPoints 108 (.istore_n 2) 1 109 := ⟨by decide +kernel, rfl⟩
theorem eX12_laysPoints_109 : sl_D YX12_laysPoints 109 (.iload_n 2) 1 110 := ⟨by decide +kernel, rfl⟩
theorem eX12_laysPoints_110 : sl_D YX12_laysPoints 110 (.aload_n 0) 1 111 := ⟨by decide +kernel, rfl⟩
theorem eX12_laysPoints_111 : sl_D YX12_laysPoints 111 (.getfield 324) 3 114 := ⟨by decide +kernel, rfl⟩
theorem eX12_laysPoints_114 : sl_B YX12_laysPoints 114 (fun o => .if_icmp .gt o) 117 195 := ⟨81, by decide +kernel, rfl, by decide⟩
theorem eX12_laysPoints_117 : sl_D YX12_laysPoints 117 (.aload_n 0) 1 118 := ⟨by decide +kernel, rfl⟩
theorem eX12_laysPoints_118 : sl_D YX12_laysPoints 118 (.iload_n 1) 1 119 := ⟨by decide +kernel, rfl⟩
theorem eX12_laysPoints_119 : sl_D YX12_laysPoints 119 (.iload_n 2) 1 120 := ⟨by decide +kernel, rfl⟩
theorem eX12_laysPoints_120 : sl_D YX12_laysPoints 120 (.invokevirtual 371) 3 123 := ⟨by decide +kernel, rfl⟩
theorem eX12_laysPoints_123 : sl_D YX12_laysPoints 123 (.iconst 1) 1 124 := ⟨by decide +kernel, rfl⟩
theorem eX12_laysPoints_124 : sl_D YX12_laysPoints 124 (.iand) 1 125 := ⟨by decide +kernel, rfl⟩
theorem eX12_laysPoints_125 : sl_B YX12_laysPoints 125 (fun o => .ifCond .eq o) 128 153 := ⟨28, by decide +kernel, rfl, by decide⟩
theorem eX12_laysPoints_128 : sl_D YX12_laysPoints 128 (.aload_n 0) 1 129 := ⟨by decide +kernel, rfl⟩
theorem eX12_laysPoints_129 : sl_D YX12_laysPoints 129 (.getfield 76) 3 132 := ⟨by decide +kernel, rfl⟩
theorem eX12_laysPoints_132 : sl_D YX12_laysPoints 132 (.bipush 32) 2 134 := ⟨by decide +kernel, rfl⟩
theorem eX12_laysPoints_134 : sl_D YX12_laysPoints 134 (.aload_n 0) 1 135 := ⟨by decide +kernel, rfl⟩
theorem eX12_laysPoints_135 : sl_D YX12_laysPoints 135 (.getfield 67) 3 138 := ⟨by decide +kernel, rfl⟩
theorem eX12_laysPoints_138 : sl_D YX12_laysPoints 138 (.bipush 16) 2 140 := ⟨by decide +kernel, rfl⟩
theorem eX12_laysPoints_140 : sl_D YX12_laysPoints 140 (.iload_n 2) 1 141 := ⟨by decide +kernel, rfl⟩
theorem eX12_laysPoints_141 : sl_D YX12_laysPoints 141 (.iadd) 1 142 := ⟨by decide +kernel, rfl⟩
theorem eX12_laysPoints_142 : sl_D YX12_laysPoints 142 (.iaload) 1 143 := ⟨by decide +kernel, rfl⟩
theorem eX12_laysPoints_143 : sl_D YX12_laysPoints 143 (.imul) 1 144 := ⟨by decide +kernel, rfl⟩
theorem eX12_laysPoints_144 : sl_D YX12_laysPoints 144 (.aload_n 0) 1 145 := ⟨by decide +kernel, rfl⟩
theorem eX12_laysPoints_145 : sl_D YX12_laysPoints 145 (.getfield 67) 3 148 := ⟨by decide +kernel, rfl⟩
theorem eX12_laysPoints_148 : sl_D YX12_laysPoints 148 (.iload_n 1) 1 149 := ⟨by decide +kernel, rfl⟩
theorem eX12_laysPoints_149 : sl_D YX12_laysPoints 149 (.iaload) 1 150 := ⟨by decide +kernel, rfl⟩
theorem eX12_laysPoints_150 : sl_D YX12_laysPoints 150 (.iadd) 1 151 := ⟨by decide +kernel, rfl⟩
theorem eX12_laysPoints_151 : sl_D YX12_laysPoints 151 (.iconst 1) 1 152 := ⟨by decide +kernel, rfl⟩
theorem eX12_laysPoints_152 : sl_D YX12_laysPoints 152 (.bastore) 1 153 := ⟨by decide +kernel, rfl⟩
theorem eX12_laysPoints_153 : sl_D YX12_laysPoints 153 (.aload_n 0) 1 154 := ⟨by decide +kernel, rfl⟩
theorem eX12_laysPoints_154 : sl_D YX12_laysPoints 154 (.iload_n 1) 1 155 := ⟨by decide +kernel, rfl⟩
theorem eX12_laysPoints_155 : sl_D YX12_laysPoints 155 (.iload_n 2) 1 156 := ⟨by decide +kernel, rfl⟩
theorem eX12_laysPoints_156 : sl_D YX12_laysPoints 156 (.invokevirtual 371) 3 159 := ⟨by decide +kernel, rfl⟩
theorem eX12_laysPoints_159 : sl_D YX12_laysPoints 159 (.iconst 4) 1 160 := ⟨by decide +kernel, rfl⟩
theorem eX12_laysPoints_160 : sl_D YX12_laysPoints 160 (.iand) 1 161 := ⟨by decide +kernel, rfl⟩
theorem eX12_laysPoints_161 : sl_B YX12_laysPoints 161 (fun o => .ifCond .eq o) 164 189 := ⟨28, by decide +kernel, rfl, by decide⟩
theorem eX12_laysPoints_164 : sl_D YX12_laysPoints 164 (.aload_n 0) 1 165 := ⟨by decide +kernel, rfl⟩
theorem eX12_laysPoints_165 : sl_D YX12_laysPoints 165 (.getfield 76) 3 168 := ⟨by decide +kernel, rfl⟩
theorem eX12_laysPoints_168 : sl_D YX12_laysPoints 168 (.bipush 32) 2 170 := ⟨by decide +kernel, rfl⟩
theorem eX12_laysPoints_170 : sl_D YX12_laysPoints 170 (.aload_n 0) 1 171 := ⟨by decide +kernel, rfl⟩
theorem eX12_laysPoints_171 : sl_D YX12_laysPoints 171 (.getfield 67) 3 174 := ⟨by decide +kernel, rfl⟩
theorem eX12_laysPoints_174 : sl_D YX12_laysPoints 174 (.iload_n 1) 1 175 := ⟨by decide +kernel, rfl⟩
theorem eX12_laysPoints_175 : sl_D YX12_laysPoints 175 (.iaload) 1 176 := ⟨by decide +kernel, rfl⟩
theorem eX12_laysPoints_176 : sl_D YX12_laysPoints 176 (.imul) 1 177 := ⟨by decide +kernel, rfl⟩
theorem eX12_laysPoints_177 : sl_D YX12_laysPoints 177 (.aload_n 0) 1 178 := ⟨by decide +kernel, rfl⟩
theorem eX12_laysPoints_178 : sl_D YX12_laysPoints 178 (.getfield 67) 3 181 := ⟨by decide +kernel, rfl⟩
theorem eX12_laysPoints_181 : sl_D YX12_laysPoints 181 (.bipush 16) 2 183 := ⟨by decide +kernel, rfl⟩
theorem eX12_laysPoints_183 : sl_D YX12_laysPoints 183 (.iload_n 2) 1 184 := ⟨by decide +kernel, rfl⟩
theorem eX12_laysPoints_184 : sl_D YX12_laysPoints 184 (.iadd) 1 185 := ⟨by decide +kernel, rfl⟩
theorem eX12_laysPoints_185 : sl_D YX12_laysPoints 185 (.iaload) 1 186 := ⟨by decide +kernel, rfl⟩
theorem eX12_laysPoints_186 : sl_D YX12_laysPoints 186 (.iadd) 1 187 := ⟨by decide +kernel, rfl⟩
theorem eX12_laysPoints_187 : sl_D YX12_laysPoints 187 (.iconst 1) 1 188 := ⟨by decide +kernel, rfl⟩
theorem eX12_laysPoints_188 : sl_D YX12_laysPoints 188 (.bastore) 1 189 := ⟨by decide +kernel, rfl⟩
theorem eX12_laysPoints_189 : sl_D YX12_laysPoints 189 (.iinc 2 1) 3 192 := ⟨by decide +kernel, rfl⟩
theorem eX12_laysPoints_192 : sl_B YX12_laysPoints 192 (fun o => .goto o) 195 109 := ⟨-83, by decide +kernel, rfl, by decide⟩
theorem eX12_laysPoints_195 : sl_D YX12_laysPoints 195 (.iinc 1 1) 3 198 := ⟨by decide +kernel, rfl⟩
theorem eX12_laysPoints_198 : sl_B YX12_laysPoints 198 (fun o => .goto o) 201 99 := ⟨-99, by decide +kernel, rfl, by decide⟩
theorem eX12_laysPoints_201 : sl_D YX12_laysPoints 201 (.iconst 0) 1 202 := ⟨by decide +kernel, rfl⟩
theorem eX12_laysPoints_202 : sl_D YX12_laysPoints 202 (.istore_n 1) 1 203 := ⟨by decide +kernel, rfl⟩
theorem eX12_laysPoints_203 : sl_D YX12_laysPoints 203 (.iload_n 1) 1 204 := ⟨by decide +kernel, rfl⟩
theorem eX12_laysPoints_204 : sl_D YX12_laysPoints 204 (.aload_n 0) 1 205 := ⟨by decide +kernel, rfl⟩
theorem eX12_laysPoints_205 : sl_D YX12_laysPoints 205 (.getfield 76) 3 208 := ⟨by decide +kernel, rfl⟩
theorem eX12_laysPoints_208 : sl_D YX12_laysPoints 208 (.arraylength) 1 209 := ⟨by decide +kernel, rfl⟩
theorem eX12_laysPoints_209 : sl_B YX12_laysPoints 209 (fun o => .if_icmp .ge o) 212 230 := ⟨21, by decide +kernel, rfl, by decide⟩
theorem eX12_laysPoints_212 : sl_D YX12_laysPoints 212 (.aload_n 0) 1 213 := ⟨by decide +kernel, rfl⟩
theorem eX12_laysPoints_213 : sl_D YX12_laysPoints 213 (.getfield 80) 3 216 := ⟨by decide +kernel, rfl⟩
theorem eX12_laysPoints_216 : sl_D YX12_laysPoints 216 (.iload_n 1) 1 217 := ⟨by decide +kernel, rfl⟩
theorem eX12_laysPoints_217 : sl_D YX12_laysPoints 217 (.aload_n 0) 1 218 := ⟨by decide +kernel, rfl⟩
theorem eX12_laysPoints_218 : sl_D YX12_laysPoints 218 (.getfield 76) 3 221 := ⟨by decide +kernel, rfl⟩
theorem eX12_laysPoints_221 : sl_D YX12_laysPoints 221 (.iload_n 1) 1 222 := ⟨by decide +kernel, rfl⟩
theorem eX12_laysPoints_222 : sl_D YX12_laysPoints 222 (.baload) 1 223 := ⟨by decide +kernel, rfl⟩
theorem eX12_laysPoints_223 : sl_D YX12_laysPoints 223 (.bastore) 1 224 := ⟨by decide +kernel, rfl⟩
theorem eX12_laysPoints_224 : sl_D YX12_laysPoints 224 (.iinc 1 1) 3 227 := ⟨by decide +kernel, rfl⟩
theorem eX12_laysPoints_227 : sl_B YX12_laysPoints 227 (fun o => .goto o) 230 203 := ⟨-24, by decide +kernel, rfl, by decide⟩
theorem eX12_laysPoints_230 : sl_D YX12_laysPoints 230 (.iconst 0) 1 231 := ⟨by decide +kernel, rfl⟩
theorem eX12_laysPoints_231 : sl_D YX12_laysPoints 231 (.istore_n 1) 1 232 := ⟨by decide +kernel, rfl⟩
theorem eX12_laysPoints_232 : sl_D YX12_laysPoints 232 (.iload_n 1) 1 233 := ⟨by decide +kernel, rfl⟩
theorem eX12_laysPoints_233 : sl_D YX12_laysPoints 233 (.bipush 32) 2 235 := ⟨by decide +kernel, rfl⟩
theorem eX12_laysPoints_235 : sl_B YX12_laysPoints 235 (fun o => .if_icmp .ge o) 238 312 := ⟨77, by decide +kernel, rfl, by decide⟩
theorem eX12_laysPoints_238 : sl_D YX12_laysPoints 238 (.iconst 0) 1 239 := ⟨by decide +kernel, rfl⟩
theorem eX12_laysPoints_239 : sl_D YX12_laysPoints 239 (.istore_n 2) 1 240 := ⟨by decide +kernel, rfl⟩
theorem eX12_laysPoints_240 : sl_D YX12_laysPoints 240 (.iload_n 2) 1 241 := ⟨by decide +kernel, rfl⟩
theorem eX12_laysPoints_241 : sl_D YX12_laysPoints 241 (.bipush 32) 2 243 := ⟨by decide +kernel, rfl⟩
theorem eX12_laysPoints_243 : sl_B YX12_laysPoints 243 (fun o => .if_icmp .ge o) 246 306 := ⟨63, by decide +kernel, rfl, by decide⟩
theorem eX12_laysPoints_246 : sl_D YX12_laysPoints 246 (.iconst 0) 1 247 := ⟨by decide +kernel, rfl⟩
theorem eX12_laysPoints_247 : sl_D YX12_laysPoints 247 (.istore_n 3) 1 248 := ⟨by decide +kernel, rfl⟩
theorem eX12_laysPoints_248 : sl_D YX12_laysPoints 248 (.iload_n 3) 1 249 := ⟨by decide +kernel, rfl⟩
theorem eX12_laysPoints_249 : sl_D YX12_laysPoints 249 (.bipush 32) 2 251 := ⟨by decide +kernel, rfl⟩
theorem eX12_laysPoints_251 : sl_B YX12_laysPoints 251 (fun o => .if_icmp .ge o) 254 300 := ⟨49, by decide +kernel, rfl, by decide⟩
theorem eX12_laysPoints_254 : sl_D YX12_laysPoints 254 (.aload_n 0) 1 255 := ⟨by decide +kernel, rfl⟩
theorem eX12_laysPoints_255 : sl_D YX12_laysPoints 255 (.getfield 80) 3 258 := ⟨by decide +kernel, rfl⟩
theorem eX12_laysPoints_258 : sl_D YX12_laysPoints 258 (.bipush 32) 2 260 := ⟨by decide +kernel, rfl⟩
theorem eX12_laysPoints_260 : sl_D YX12_laysPoints 260 (.iload_n 2) 1 261 := ⟨by decide +kernel, rfl⟩
theorem eX12_laysPoints_261 : sl_D YX12_laysPoints 261 (.imul) 1 262 := ⟨by decide +kernel, rfl⟩
theorem eX12_laysPoints_262 : sl_D YX12_laysPoints 262 (.iload_n 1) 1 263 := ⟨by decide +kernel, rfl⟩
theorem eX12_laysPoints_263 : sl_D YX12_laysPoints 263 (.iadd) 1 264 := ⟨by decide +kernel, rfl⟩
theorem eX12_laysPoints_264 : sl_D YX12_laysPoints 264 (.baload) 1 265 := ⟨by decide +kernel, rfl⟩
theorem eX12_laysPoints_265 : sl_B YX12_laysPoints 265 (fun o => .ifCond .eq o) 268 294 := ⟨29, by decide +kernel, rfl, by decide⟩
theorem eX12_laysPoints_268 : sl_D YX12_laysPoints 268 (.aload_n 0) 1 269 := ⟨by decide +kernel, rfl⟩
theorem eX12_laysPoints_269 : sl_D YX12_laysPoints 269 (.getfield 80) 3 272 := ⟨by decide +kernel, rfl⟩
theorem eX12_laysPoints_272 : sl_D YX12_laysPoints 272 (.bipush 32) 2 274 := ⟨by decide +kernel, rfl⟩
theorem eX12_laysPoints_274 : sl_D YX12_laysPoints 274 (.iload_n 1) 1 275 := ⟨by decide +kernel, rfl⟩
theorem eX12_laysPoints_275 : sl_D YX12_laysPoints 275 (.imul) 1 276 := ⟨by decide +kernel, rfl⟩
theorem eX12_laysPoints_276 : sl_D YX12_laysPoints 276 (.iload_n 3) 1 277 := ⟨by decide +kernel, rfl⟩
theorem eX12_laysPoints_277 : sl_D YX12_laysPoints 277 (.iadd) 1 278 := ⟨by decide +kernel, rfl⟩
theorem eX12_laysPoints_278 : sl_D YX12_laysPoints 278 (.baload) 1 279 := ⟨by decide +kernel, rfl⟩
theorem eX12_laysPoints_279 : sl_B YX12_laysPoints 279 (fun o => .ifCond .eq o) 282 294 := ⟨15, by decide +kernel, rfl, by decide⟩
theorem eX12_laysPoints_282 : sl_D YX12_laysPoints 282 (.aload_n 0) 1 283 := ⟨by decide +kernel, rfl⟩
theorem eX12_laysPoints_283 : sl_D YX12_laysPoints 283 (.getfield 80) 3 286 := ⟨by decide +kernel, rfl⟩
theorem eX12_laysPoints_286 : sl_D YX12_laysPoints 286 (.bipush 32) 2 288 := ⟨by decide +kernel, rfl⟩
theorem eX12_laysPoints_288 : sl_D YX12_laysPoints 288 (.iload_n 2) 1 289 := ⟨by decide +kernel, rfl⟩
theorem eX12_laysPoints_289 : sl_D YX12_laysPoints 289 (.imul) 1 290 := ⟨by decide +kernel, rfl⟩
theorem eX12_laysPoints_290 : sl_D YX12_laysPoints 290 (.iload_n 3) 1 291 := ⟨by decide +kernel, rfl⟩
theorem eX12_laysPoints_291 : sl_D YX12_laysPoints 291 (.iadd) 1 292 := ⟨by decide +kernel, rfl⟩
theorem eX12_laysPoints_292 : sl_D YX12_laysPoints 292 (.iconst 1) 1 293 := ⟨by decide +kernel, rfl⟩
theorem eX12_laysPoints_293 : sl_D YX12_laysPoints 293 (.bastore) 1 294 := ⟨by decide +kernel, rfl⟩
theorem eX12_laysPoints_294 : sl_D YX12_laysPoints 294 (.iinc 3 1) 3 297 := ⟨by decide +kernel, rfl⟩
theorem eX12_laysPoints_297 : sl_B YX12_laysPoints 297 (fun o => .goto o) 300 248 := ⟨-49, by decide +kernel, rfl, by decide⟩
theorem eX12_laysPoints_300 : sl_D YX12_laysPoints 300 (.iinc 2 1) 3 303 := ⟨by decide +kernel, rfl⟩
theorem eX12_laysPoints_303 : sl_B YX12_laysPoints 303 (fun o => .goto o) 306 240 := ⟨-63, by decide +kernel, rfl, by decide⟩
theorem eX12_laysPoints_306 : sl_D YX12_laysPoints 306 (.iinc 1 1) 3 309 := ⟨by decide +kernel, rfl⟩
theorem eX12_laysPoints_309 : sl_B YX12_laysPoints 309 (fun o => .goto o) 312 232 := ⟨-77, by decide +kernel, rfl, by decide⟩
theorem eX12_laysPoints_312 : sl_D YX12_laysPoints 312 (.aload_n 0) 1 313 := ⟨by decide +kernel, rfl⟩
theorem eX12_laysPoints_313 : sl_D YX12_laysPoints 313 (.invokevirtual 393) 3 316 := ⟨by decide +kernel, rfl⟩
theorem eX12_laysPoints_316 : sl_D YX12_laysPoints 316 (.aload_n 0) 1 317 := ⟨by decide +kernel, rfl⟩
theorem eX12_laysPoints_317 : sl_D YX12_laysPoints 317 (.getfield 396) 3 320 := ⟨by decide +kernel, rfl⟩
theorem eX12_laysPoints_320 : sl_B YX12_laysPoints 320 (fun o => .ifCond .ne o) 323 327 := ⟨7, by decide +kernel, rfl, by decide⟩
theorem eX12_laysPoints_323 : sl_D YX12_laysPoints 323 (.aload_n 0) 1 324 := ⟨by decide +kernel, rfl⟩
theorem eX12_laysPoints_324 : sl_D YX12_laysPoints 324 (.invokevirtual 399) 3 327 := ⟨by decide +kernel, rfl⟩
theorem eX12_laysPoints_327 : sl_D YX12_laysPoints 327 (.return_) 1 328 := ⟨by decide +kernel, rfl⟩
theorem eX12_laysHighs_0 : sl_D YX12_laysHighs 0 (.iconst 0) 1 1 := ⟨by decide +kernel, rfl⟩
theorem eX12_laysHighs_1 : sl_D YX12_laysHighs 1 (.istore_n 1) 1 2 := ⟨by decide +kernel, rfl⟩
theorem eX12_laysHighs_2 : sl_D YX12_laysHighs 2 (.iload_n 1) 1 3 := ⟨by decide +kernel, rfl⟩
theorem eX12_laysHighs_3 : sl_D YX12_laysHighs 3 (.bipush 32) 2 5 := ⟨by decide +kernel, rfl⟩
theorem eX12_laysHighs_5 : sl_B YX12_laysHighs 5 (fun o => .if_icmp .ge o) 8 21 := ⟨16, by decide +kernel, rfl, by decide⟩
theorem eX12_laysHighs_8 : sl_D YX12_laysHighs 8 (.aload_n 0) 1 9 := ⟨by decide +kernel, rfl⟩
theorem eX12_laysHighs_9 : sl_D YX12_laysHighs 9 (.getfield 70) 3 12 := ⟨by decide +kernel, rfl⟩
theorem eX12_laysHighs_12 : sl_D YX12_laysHighs 12 (.iload_n 1) 1 13 := ⟨by decide +kernel, rfl⟩
theorem eX12_laysHighs_13 : sl_D YX12_laysHighs 13 (.iconst 0) 1 14 := ⟨by decide +kernel, rfl⟩
theorem eX12_laysHighs_14 : sl_D YX12_laysHighs 14 (.iastore) 1 15 := ⟨by decide +kernel, rfl⟩
theorem eX12_laysHighs_15 : sl_D YX12_laysHighs 15 (.iinc 1 1) 3 18 := ⟨by decide +kernel, rfl⟩
theorem eX12_laysHighs_18 : sl_B YX12_laysHighs 18 (fun o => .goto o) 21 2 := ⟨-16, by decide +kernel, rfl, by decide⟩
theorem eX12_laysHighs_21 : sl_D YX12_laysHighs 21 (.iconst 0) 1 22 := ⟨by decide +kernel, rfl⟩
theorem eX12_laysHighs_22 : sl_D YX12_laysHighs 22 (.istore_n 1) 1 23 := ⟨by decide +kernel, rfl⟩
theorem eX12_laysHighs_23 : sl_D YX12_laysHighs 23 (.iload_n 1) 1 24 := ⟨by decide +kernel, rfl⟩
theorem eX12_laysHighs_24 : sl_D YX12_laysHighs 24 (.bipush 32) 2 26 := ⟨by decide +kernel, rfl⟩
theorem eX12_laysHighs_26 : sl_B YX12_laysHighs 26 (fun o => .if_icmp .ge o) 29 108 := ⟨82, by decide +kernel, rfl, by decide⟩
theorem eX12_laysHighs_29 : sl_D YX12_laysHighs 29 (.iconst 0) 1 30 := ⟨by decide +kernel, rfl⟩
theorem eX12_laysHighs_30 : sl_D YX12_laysHighs 30 (.istore_n 2) 1 31 := ⟨by decide +kernel, rfl⟩
theorem eX12_laysHighs_31 : sl_D YX12_laysHighs 31 (.iload_n 2) 1 32 := ⟨by decide +kernel, rfl⟩
theorem eX12_laysHighs_32 : sl_D YX12_laysHighs 32 (.bipush 32) 2 34 := ⟨by decide +kernel, rfl⟩
theorem eX12_laysHighs_34 : sl_B YX12_laysHighs 34 (fun o => .if_icmp .ge o) 37 102 := ⟨68, by decide +kernel, rfl, by decide⟩
theorem eX12_laysHighs_37 : sl_D YX12_laysHighs 37 (.iconst 0) 1 38 := ⟨by decide +kernel, rfl⟩
theorem eX12_laysHighs_38 : sl_D YX12_laysHighs 38 (.istore_n 3) 1 39 := ⟨by decide +kernel, rfl⟩
theorem eX12_laysHighs_39 : sl_D YX12_laysHighs 39 (.iload_n 3) 1 40 := ⟨by decide +kernel, rfl⟩
theorem eX12_laysHighs_40 : sl_D YX12_laysHighs 40 (.bipush 32) 2 42 := ⟨by decide +kernel, rfl⟩
theorem eX12_laysHighs_42 : sl_B YX12_laysHighs 42 (fun o => .if_icmp .ge o) 45 96 := ⟨54, by decide +kernel, rfl, by decide⟩
theorem eX12_laysHighs_45 : sl_D YX12_laysHighs 45 (.aload_n 0) 1 46 := ⟨by decide +kernel, rfl⟩
theorem eX12_laysHighs_46 : sl_D YX12_laysHighs 46 (.getfield 76) 3 49 := ⟨by decide +kernel, rfl⟩
theorem eX12_laysHighs_49 : sl_D YX12_laysHighs 49 (.bipush 32) 2 51 := ⟨by decide +kernel, rfl⟩
theorem eX12_laysHighs_51 : sl_D YX12_laysHighs 51 (.iload_n 2) 1 52 := ⟨by decide +kernel, rfl⟩
theorem eX12_laysHighs_52 : sl_D YX12_laysHighs 52 (.imul) 1 53 := ⟨by decide +kernel, rfl⟩
theorem eX12_laysHighs_53 : sl_D YX12_laysHighs 53 (.iload_n 3) 1 54 := ⟨by decide +kernel, rfl⟩
theorem eX12_laysHighs_54 : sl_D YX12_laysHighs 54 (.iadd) 1 55 := ⟨by decide +kernel, rfl⟩
theorem eX12_laysHighs_55 : sl_D YX12_laysHighs 55 (.baload) 1 56 := ⟨by decide +kernel, rfl⟩
theorem eX12_laysHighs_56 : sl_B YX12_laysHighs 56 (fun o => .ifCond .eq o) 59 90 := ⟨34, by decide +kernel, rfl, by decide⟩
theorem eX12_laysHighs_59 : sl_D YX12_laysHighs 59 (.aload_n 0) 1 60 := ⟨by decide +kernel, rfl⟩
theorem eX12_laysHighs_60 : sl_D YX12_laysHighs 60 (.getfield 70) 3 63 := ⟨by decide +kernel, rfl⟩
theorem eX12_laysHighs_63 : sl_D YX12_laysHighs 63 (.iload_n 3) 1 64 := ⟨by decide +kernel, rfl⟩
theorem eX12_laysHighs_64 : sl_D YX12_laysHighs 64 (.iaload) 1 65 := ⟨by decide +kernel, rfl⟩
theorem eX12_laysHighs_65 : sl_D YX12_laysHighs 65 (.iconst 1) 1 66 := ⟨by decide +kernel, rfl⟩
theorem eX12_laysHighs_66 : sl_D YX12_laysHighs 66 (.iadd) 1 67 := ⟨by decide +kernel, rfl⟩
theorem eX12_laysHighs_67 : sl_D YX12_laysHighs 67 (.aload_n 0) 1 68 := ⟨by decide +kernel, rfl⟩
theorem eX12_laysHighs_68 : sl_D YX12_laysHighs 68 (.getfield 70) 3 71 := ⟨by decide +kernel, rfl⟩
theorem eX12_laysHighs_71 : sl_D YX12_laysHighs 71 (.iload_n 2) 1 72 := ⟨by decide +kernel, rfl⟩
theorem eX12_laysHighs_72 : sl_D YX12_laysHighs 72 (.iaload) 1 73 := ⟨by decide +kernel, rfl⟩
theorem eX12_laysHighs_73 : sl_B YX12_laysHighs 73 (fun o => .if_icmp .le o) 76 90 := ⟨17, by decide +kernel, rfl, by decide⟩
theorem eX12_laysHighs_76 : sl_D YX12_laysHighs 76 (.aload_n 0) 1 77 := ⟨by decide +kernel, rfl⟩
theorem eX12_laysHighs_77 : sl_D YX12_laysHighs 77 (.getfield 70) 3 80 := ⟨by decide +kernel, rfl⟩
theorem eX12_laysHighs_80 : sl_D YX12_laysHighs 80 (.iload_n 2) 1 81 := ⟨by decide +kernel, rfl⟩
theorem eX12_laysHighs_81 : sl_D YX12_laysHighs 81 (.aload_n 0) 1 82 := ⟨by decide +kernel, rfl⟩
theorem eX12_laysHighs_82 : sl_D YX12_laysHighs 82 (.getfield 70) 3 85 := ⟨by decide +kernel, rfl⟩
theorem eX12_laysHighs_85 : sl_D YX12_laysHighs 85 (.iload_n 3) 1 86 := ⟨by decide +kernel, rfl⟩
theorem eX12_laysHighs_86 : sl_D YX12_laysHighs 86 (.iaload) 1 87 := ⟨by decide +kernel, rfl⟩
theorem eX12_laysHighs_87 : sl_D YX12_laysHighs 87 (.iconst 1) 1 88 := ⟨by decide +kernel, rfl⟩
theorem eX12_laysHighs_88 : sl_D YX12_laysHighs 88 (.iadd) 1 89 := ⟨by decide +kernel, rfl⟩
theorem eX12_laysHighs_89 : sl_D YX12_laysHighs 89 (.iastore) 1 90 := ⟨by decide +kernel, rfl⟩
theorem eX12_laysHighs_90 : sl_D YX12_laysHighs 90 (.iinc 3 1) 3 93 := ⟨by decide +kernel, rfl⟩
theorem eX12_laysHighs_93 : sl_B YX12_laysHighs 93 (fun o => .goto o) 96 39 := ⟨-54, by decide +kernel, rfl, by decide⟩
theorem eX12_laysHighs_96 : sl_D YX12_laysHighs 96 (.iinc 2 1) 3 99 := ⟨by decide +kernel, rfl⟩
theorem eX12_laysHighs_99 : sl_B YX12_laysHighs 99 (fun o => .goto o) 102 31 := ⟨-68, by decide +kernel, rfl, by decide⟩
theorem eX12_laysHighs_102 : sl_D YX12_laysHighs 102 (.iinc 1 1) 3 105 := ⟨by decide +kernel, rfl⟩
theorem eX12_laysHighs_105 : sl_B YX12_laysHighs 105 (fun o => .goto o) 108 23 := ⟨-82, by decide +kernel, rfl, by decide⟩
theorem eX12_laysHighs_108 : sl_D YX12_laysHighs 108 (.return_) 1 109 := ⟨by decide +kernel, rfl⟩
theorem eX12_laysBack_0 : sl_D YX12_laysBack 0 (.iconst 0) 1 1 := ⟨by decide +kernel, rfl⟩
theorem eX12_laysBack_1 : sl_D YX12_laysBack 1 (.istore_n 2) 1 2 := ⟨by decide +kernel, rfl⟩
theorem eX12_laysBack_2 : sl_D YX12_laysBack 2 (.iload_n 2) 1 3 := ⟨by decide +kernel, rfl⟩
theorem eX12_laysBack_3 : sl_D YX12_laysBack 3 (.bipush 32) 2 5 := ⟨by decide +kernel, rfl⟩
theorem eX12_laysBack_5 : sl_B YX12_laysBack 5 (fun o => .if_icmp .ge o) 8 30 := ⟨25, by decide +kernel, rfl, by decide⟩
theorem eX12_laysBack_8 : sl_D YX12_laysBack 8 (.aload_n 0) 1 9 := ⟨by decide +kernel, rfl⟩
theorem eX12_laysBack_9 : sl_D YX12_laysBack 9 (.getfield 73) 3 12 := ⟨by decide +kernel, rfl⟩
theorem eX12_laysBack_12 : sl_D YX12_laysBack 12 (.iload_n 2) 1 13 := ⟨by decide +kernel, rfl⟩
theorem eX12_laysBack_13 : sl_D YX12_laysBack 13 (.iload_n 2) 1 14 := ⟨by decide +kernel, rfl⟩
theorem eX12_laysBack_14 : sl_D YX12_laysBack 14 (.iload_n 1) 1 15 := ⟨by decide +kernel, rfl⟩
theorem eX12_laysBack_15 : sl_B YX12_laysBack 15 (fun o => .if_icmp .ne o) 18 22 := ⟨7, by decide +kernel, rfl, by decide⟩
theorem eX12_laysBack_18 : sl_D YX12_laysBack 18 (.iconst 0) 1 19 := ⟨by decide +kernel, rfl⟩
theorem eX12_laysBack_19 : sl_B YX12_laysBack 19 (fun o => .goto o) 22 23 := ⟨4, by decide +kernel, rfl, by decide⟩
theorem eX12_laysBack_22 : sl_D YX12_laysBack 22 (.iconst (-1)) 1 23 := ⟨by decide +kernel, rfl⟩
theorem eX12_laysBack_23 : sl_D YX12_laysBack 23 (.iastore) 1 24 := ⟨by decide +kernel, rfl⟩
theorem eX12_laysBack_24 : sl_D YX12_laysBack 24 (.iinc 2 1) 3 27 := ⟨by decide +kernel, rfl⟩
theorem eX12_laysBack_27 : sl_B YX12_laysBack 27 (fun o => .goto o) 30 2 := ⟨-25, by decide +kernel, rfl, by decide⟩
theorem eX12_laysBack_30 : sl_D YX12_laysBack 30 (.iconst 1) 1 31 := ⟨by decide +kernel, rfl⟩
theorem eX12_laysBack_31 : sl_D YX12_laysBack 31 (.istore_n 2) 1 32 := ⟨by decide +kernel, rfl⟩
theorem eX12_laysBack_32 : sl_D YX12_laysBack 32 (.iload_n 2) 1 33 := ⟨by decide +kernel, rfl⟩
theorem eX12_laysBack_33 : sl_D YX12_laysBack 33 (.bipush 32) 2 35 := ⟨by decide +kernel, rfl⟩
theorem eX12_laysBack_35 : sl_B YX12_laysBack 35 (fun o => .if_icmp .gt o) 38 122 := ⟨87, by decide +kernel, rfl, by decide⟩
theorem eX12_laysBack_38 : sl_D YX12_laysBack 38 (.iconst 0) 1 39 := ⟨by decide +kernel, rfl⟩
theorem eX12_laysBack_39 : sl_D YX12_laysBack 39 (.istore_n 3) 1 40 := ⟨by decide +kernel, rfl⟩
theorem eX12_laysBack_40 : sl_D YX12_laysBack 40 (.iload_n 3) 1 41 := ⟨by decide +kernel, rfl⟩
theorem eX12_laysBack_41 : sl_D YX12_laysBack 41 (.bipush 32) 2 43 := ⟨by decide +kernel, rfl⟩
theorem eX12_laysBack_43 : sl_B YX12_laysBack 43 (fun o => .if_icmp .ge o) 46 116 := ⟨73, by decide +kernel, rfl, by decide⟩
theorem eX12_laysBack_46 : sl_D YX12_laysBack 46 (.aload_n 0) 1 47 := ⟨by decide +kernel, rfl⟩
theorem eX12_laysBack_47 : sl_D YX12_laysBack 47 (.getfield 73) 3 50 := ⟨by decide +kernel, rfl⟩
theorem eX12_laysBack_50 : sl_D YX12_laysBack 50 (.iload_n 3) 1 51 := ⟨by decide +kernel, rfl⟩
theorem eX12_laysBack_51 : sl_D YX12_laysBack 51 (.iaload) 1 52 := ⟨by decide +kernel, rfl⟩
theorem eX12_laysBack_52 : sl_D YX12_laysBack 52 (.iconst (-1)) 1 53 := ⟨by decide +kernel, rfl⟩
theorem eX12_laysBack_53 : sl_B YX12_laysBack 53 (fun o => .if_icmp .eq o) 56 59 := ⟨6, by decide +kernel, rfl, by decide⟩
theorem eX12_laysBack_56 : sl_B YX12_laysBack 56 (fun o => .goto o) 59 110 := ⟨54, by decide +kernel, rfl, by decide⟩
theorem eX12_laysBack_59 : sl_D YX12_laysBack 59 (.iconst 0) 1 60 := ⟨by decide +kernel, rfl⟩
theorem eX12_laysBack_60 : sl_D YX12_laysBack 60 (.istore 4) 2 62 := ⟨by decide +kernel, rfl⟩
theorem eX12_laysBack_62 : sl_D YX12_laysBack 62 (.iload 4) 2 64 := ⟨by decide +kernel, rfl⟩
theorem eX12_laysBack_64 : sl_D YX12_laysBack 64 (.bipush 32) 2 66 := ⟨by decide +kernel, rfl⟩
theorem eX12_laysBack_66 : sl_B YX12_laysBack 66 (fun o => .if_icmp .ge o) 69 110 := ⟨44, by decide +kernel, rfl, by decide⟩
theorem eX12_laysBack_69 : sl_D YX12_laysBack 69 (.aload_n 0) 1 70 := ⟨by decide +kernel, rfl⟩
theorem eX12_laysBack_70 : sl_D YX12_laysBack 70 (.getfield 76) 3 73 := ⟨by decide +kernel, rfl⟩
theorem eX12_laysBack_73 : sl_D YX12_laysBack 73 (.bipush 32) 2 75 := ⟨by decide +kernel, rfl⟩
theorem eX12_laysBack_75 : sl_D YX12_laysBack 75 (.iload_n 3) 1 76 := ⟨by decide +kernel, rfl⟩
theorem eX12_laysBack_76 : sl_D YX12_laysBack 76 (.imul) 1 77 := ⟨by decide +kernel, rfl⟩
theorem eX12_laysBack_77 : sl_D YX12_laysBack 77 (.iload 4) 2 79 := ⟨by decide +kernel, rfl⟩
theorem eX12_laysBack_79 : sl_D YX12_laysBack 79 (.iadd) 1 80 := ⟨by decide +kernel, rfl⟩
theorem eX12_laysBack_80 : sl_D YX12_laysBack 80 (.baload) 1 81 := ⟨by decide +kernel, rfl⟩
theorem eX12_laysBack_81 : sl_B YX12_laysBack 81 (fun o => .ifCond .eq o) 84 104 := ⟨23, by decide +kernel, rfl, by decide⟩
theorem eX12_laysBack_84 : sl_D YX12_laysBack 84 (.aload_n 0) 1 85 := ⟨by decide +kernel, rfl⟩
theorem eX12_laysBack_85 : sl_D YX12_laysBack 85 (.getfield 73) 3 88 := ⟨by decide +kernel, rfl⟩
theorem eX12_laysBack_88 : sl_D YX12_laysBack 88 (.iload 4) 2 90 := ⟨by decide +kernel, rfl⟩
theorem eX12_laysBack_90 : sl_D YX12_laysBack 90 (.iaload) 1 91 := ⟨by decide +kernel, rfl⟩
theorem eX12_laysBack_91 : sl_D YX12_laysBack 91 (.iload_n 2) 1 92 := ⟨by decide +kernel, rfl⟩
theorem eX12_laysBack_92 : sl_D YX12_laysBack 92 (.iconst 1) 1 93 := ⟨by decide +kernel, rfl⟩
theorem eX12_laysBack_93 : sl_D YX12_laysBack 93 (.isub) 1 94 := ⟨by decide +kernel, rfl⟩
theorem eX12_laysBack_94 : sl_B YX12_laysBack 94 (fun o => .if_icmp .ne o) 97 104 := ⟨10, by decide +kernel, rfl, by decide⟩
theorem eX12_laysBack_97 : sl_D YX12_laysBack 97 (.aload_n 0) 1 98 := ⟨by decide +kernel, rfl⟩
theorem eX12_laysBack_98 : sl_D YX12_laysBack 98 (.getfield 73) 3 101 := ⟨by decide +kernel, rfl⟩
theorem eX12_laysBack_101 : sl_D YX12_laysBack 101 (.iload_n 3) 1 102 := ⟨by decide +kernel, rfl⟩
theorem eX12_laysBack_102 : sl_D YX12_laysBack 102 (.iload_n 2) 1 103 := ⟨by decide +kernel, rfl⟩
theorem eX12_laysBack_103 : sl_D YX12_laysBack 103 (.iastore) 1 104 := ⟨by decide +kernel, rfl⟩
theorem eX12_laysBack_104 : sl_D YX12_laysBack 104 (.iinc 4 1) 3 107 := ⟨by decide +kernel, rfl⟩
theorem eX12_laysBack_107 : sl_B YX12_laysBack 107 (fun o => .goto o) 110 62 := ⟨-45, by decide +kernel, rfl, by decide⟩
theorem eX12_laysBack_110 : sl_D YX12_laysBack 110 (.iinc 3 1) 3 113 := ⟨by decide +kernel, rfl⟩
theorem eX12_laysBack_113 : sl_B YX12_laysBack 113 (fun o => .goto o) 116 40 := ⟨-73, by decide +kernel, rfl, by decide⟩
theorem eX12_laysBack_116 : sl_D YX12_laysBack 116 (.iinc 2 1) 3 119 := ⟨by decide +kernel, rfl⟩
theorem eX12_laysBack_119 : sl_B YX12_laysBack 119 (fun o => .goto o) 122 32 := ⟨-87, by decide +kernel, rfl, by decide⟩
theorem eX12_laysBack_122 : sl_D YX12_laysBack 122 (.return_) 1 123 := ⟨by decide +kernel, rfl⟩
theorem eX12_laysRing_0 : sl_D YX12_laysRing 0 (.aload_n 0) 1 1 := ⟨by decide +kernel, rfl⟩
theorem eX12_laysRing_1 : sl_D YX12_laysRing 1 (.iconst 0) 1 2 := ⟨by decide +kernel, rfl⟩
theorem eX12_laysRing_2 : sl_D YX12_laysRing 2 (.putfield 396) 3 5 := ⟨by decide +kernel, rfl⟩
theorem eX12_laysRing_5 : sl_D YX12_laysRing 5 (.iconst (-1)) 1 6 := ⟨by decide +kernel, rfl⟩
theorem eX12_laysRing_6 : sl_D YX12_laysRing 6 (.istore_n 1) 1 7 := ⟨by decide +kernel, rfl⟩
theorem eX12_laysRing_7 : sl_D YX12_laysRing 7 (.bipush 31) 2 9 := ⟨by decide +kernel, rfl⟩
theorem eX12_laysRing_9 : sl_D YX12_laysRing 9 (.istore_n 2) 1 10 := ⟨by decide +kernel, rfl⟩
theorem eX12_laysRing_10 : sl_D YX12_laysRing 10 (.iload_n 2) 1 11 := ⟨by decide +kernel, rfl⟩
theorem eX12_laysRing_11 : sl_B YX12_laysRing 11 (fun o => .ifCond .lt o) 14 36 := ⟨25, by decide +kernel, rfl, by decide⟩
theorem eX12_laysRing_14 : sl_D YX12_laysRing 14 (.aload_n 0) 1 15 := ⟨by decide +kernel, rfl⟩
theorem eX12_laysRing_15 : sl_D YX12_laysRing 15 (.getfield 80) 3 18 := ⟨by decide +kernel, rfl⟩
theorem eX12_laysRing_18 : sl_D YX12_laysRing 18 (.bipush 32) 2 20 := ⟨by decide +kernel, rfl⟩
theorem eX12_laysRing_20 : sl_D YX12_laysRing 20 (.iload_n 2) 1 21 := ⟨by decide +kernel, rfl⟩
theorem eX12_laysRing_21 : sl_D YX12_laysRing 21 (.imul) 1 22 := ⟨by decide +kernel, rfl⟩
theorem eX12_laysRing_22 : sl_D YX12_laysRing 22 (.iload_n 2) 1 23 := ⟨by decide +kernel, rfl⟩
theorem eX12_laysRing_23 : sl_D YX12_laysRing 23 (.iadd) 1 24 := ⟨by decide +kernel, rfl⟩
theorem eX12_laysRing_24 : sl_D YX12_laysRing 24 (.baload) 1 25 := ⟨by decide +kernel, rfl⟩
theorem eX12_laysRing_25 : sl_B YX12_laysRing 25 (fun o => .ifCond .eq o) 28 30 := ⟨5, by decide +kernel, rfl, by decide⟩
theorem eX12_laysRing_28 : sl_D YX12_laysRing 28 (.iload_n 2) 1 29 := ⟨by decide +kernel, rfl⟩
theorem eX12_laysRing_29 : sl_D YX12_laysRing 29 (.istore_n 1) 1 30 := ⟨by decide +kernel, rfl⟩
theorem eX12_laysRing_30 : sl_D YX12_laysRing 30 (.iinc 2 (-1)) 3 33 := ⟨by decide +kernel, rfl⟩
theorem eX12_laysRing_33 : sl_B YX12_laysRing 33 (fun o => .goto o) 36 10 := ⟨-23, by decide +kernel, rfl, by decide⟩
theorem eX12_laysRing_36 : sl_D YX12_laysRing 36 (.iload_n 1) 1 37 := ⟨by decide +kernel, rfl⟩
theorem eX12_laysRing_37 : sl_D YX12_laysRing 37 (.iconst (-1)) 1 38 := ⟨by decide +kernel, rfl⟩
theorem eX12_laysRing_38 : sl_B YX12_laysRing 38 (fun o => .if_icmp .ne o) 41 42 := ⟨4, by decide +kernel, rfl, by decide⟩
theorem eX12_laysRing_41 : sl_D YX12_laysRing 41 (.return_) 1 42 := ⟨by decide +kernel, rfl⟩
theorem eX12_laysRing_42 : sl_D YX12_laysRing 42 (.aload_n 0) 1 43 := ⟨by decide +kernel, rfl⟩
theorem eX12_laysRing_43 : sl_D YX12_laysRing 43 (.iload_n 1) 1 44 := ⟨by decide +kernel, rfl⟩
theorem eX12_laysRing_44 : sl_D YX12_laysRing 44 (.invokevirtual 402) 3 47 := ⟨by decide +kernel, rfl⟩
theorem eX12_laysRing_47 : sl_D YX12_laysRing 47 (.iconst (-1)) 1 48 := ⟨by decide +kernel, rfl⟩
theorem eX12_laysRing_48 : sl_D YX12_laysRing 48 (.istore_n 2) 1 49 := ⟨by decide +kernel, rfl⟩
theorem eX12_laysRing_49 : sl_D YX12_laysRing 49 (.iconst 0) 1 50 := ⟨by decide +kernel, rfl⟩
theorem eX12_laysRing_50 : sl_D YX12_laysRing 50 (.istore_n 3) 1 51 := ⟨by decide +kernel, rfl⟩
theorem eX12_laysRing_51 : sl_D YX12_laysRing 51 (.iload_n 3) 1 52 := ⟨by decide +kernel, rfl⟩
theorem eX12_laysRing_52 : sl_D YX12_laysRing 52 (.bipush 32) 2 54 := ⟨by decide +kernel, rfl⟩
theorem eX12_laysRing_54 : sl_B YX12_laysRing 54 (fun o => .if_icmp .ge o) 57 109 := ⟨55, by decide +kernel, rfl, by decide⟩
theorem eX12_laysRing_57 : sl_D YX12_laysRing 57 (.aload_n 0) 1 58 := ⟨by decide +kernel, rfl⟩
theorem eX12_laysRing_58 : sl_D YX12_laysRing 58 (.getfield 76) 3 61 := ⟨by decide +kernel, rfl⟩
theorem eX12_laysRing_61 : sl_D YX12_laysRing 61 (.bipush 32) 2 63 := ⟨by decide +kernel, rfl⟩
theorem eX12_laysRing_63 : sl_D YX12_laysRing 63 (.iload_n 1) 1 64 := ⟨by decide +kernel, rfl⟩
theorem eX12_laysRing_64 : sl_D YX12_laysRing 64 (.imul) 1 65 := ⟨by decide +kernel, rfl⟩
theorem eX12_laysRing_65 : sl_D YX12_laysRing 65 (.iload_n 3) 1 66 := ⟨by decide +kernel, rfl⟩
theorem eX12_laysRing_66 : sl_D YX12_laysRing 66 (.iadd) 1 67 := ⟨by decide +kernel, rfl⟩
theorem eX12_laysRing_67 : sl_D YX12_laysRing 67 (.baload) 1 68 := ⟨by decide +kernel, rfl⟩
theorem eX12_laysRing_68 : sl_B YX12_laysRing 68 (fun o => .ifCond .eq o) 71 103 := ⟨35, by decide +kernel, rfl, by decide⟩
theorem eX12_laysRing_71 : sl_D YX12_laysRing 71 (.aload_n 0) 1 72 := ⟨by decide +kernel, rfl⟩
theorem eX12_laysRing_72 : sl_D YX12_laysRing 72 (.getfield 73) 3 75 := ⟨by decide +kernel, rfl⟩
theorem eX12_laysRing_75 : sl_D YX12_laysRing 75 (.iload_n 3) 1 76 := ⟨by decide +kernel, rfl⟩
theorem eX12_laysRing_76 : sl_D YX12_laysRing 76 (.iaload) 1 77 := ⟨by decide +kernel, rfl⟩
theorem eX12_laysRing_77 : sl_D YX12_laysRing 77 (.iconst (-1)) 1 78 := ⟨by decide +kernel, rfl⟩
theorem eX12_laysRing_78 : sl_B YX12_laysRing 78 (fun o => .if_icmp .eq o) 81 103 := ⟨25, by decide +kernel, rfl, by decide⟩
theorem eX12_laysRing_81 : sl_D YX12_laysRing 81 (.iload_n 2) 1 82 := ⟨by decide +kernel, rfl⟩
theorem eX12_laysRing_82 : sl_D YX12_laysRing 82 (.iconst (-1)) 1 83 := ⟨by decide +kernel, rfl⟩
theorem eX12_laysRing_83 : sl_B YX12_laysRing 83 (fun o => .if_icmp .eq o) 86 96 := ⟨13, by decide +kernel, rfl, by decide⟩
theorem eX12_laysRing_86 : sl_D YX12_laysRing 86 (.aload_n 0) 1 87 := ⟨by decide +kernel, rfl⟩
theorem eX12_laysRing_87 : sl_D YX12_laysRing 87 (.getfield 73) 3 90 := ⟨by decide +kernel, rfl⟩
theorem eX12_laysRing_90 : sl_D YX12_laysRing 90 (.iload_n 3) 1 91 := ⟨by decide +kernel, rfl⟩
theorem eX12_laysRing_91 : sl_D YX12_laysRing 91 (.iaload) 1 92 := ⟨by decide +kernel, rfl⟩
theorem eX12_laysRing_92 : sl_D YX12_laysRing 92 (.iload_n 2) 1 93 := ⟨by decide +kernel, rfl⟩
theorem eX12_laysRing_93 : sl_B YX12_laysRing 93 (fun o => .if_icmp .ge o) 96 103 := ⟨10, by decide +kernel, rfl, by decide⟩
theorem eX12_laysRing_96 : sl_D YX12_laysRing 96 (.aload_n 0) 1 97 := ⟨by decide +kernel, rfl⟩
theorem eX12_laysRing_97 : sl_D YX12_laysRing 97 (.getfield 73) 3 100 := ⟨by decide +kernel, rfl⟩
theorem eX12_laysRing_100 : sl_D YX12_laysRing 100 (.iload_n 3) 1 101 := ⟨by decide +kernel, rfl⟩
theorem eX12_laysRing_101 : sl_D YX12_laysRing 101 (.iaload) 1 102 := ⟨by decide +kernel, rfl⟩
theorem eX12_laysRing_102 : sl_D YX12_laysRing 102 (.istore_n 2) 1 103 := ⟨by decide +kernel, rfl⟩
theorem eX12_laysRing_103 : sl_D YX12_laysRing 103 (.iinc 3 1) 3 106 := ⟨by decide +kernel, rfl⟩
theorem eX12_laysRing_106 : sl_B YX12_laysRing 106 (fun o => .goto o) 109 51 := ⟨-55, by decide +kernel, rfl, by decide⟩
theorem eX12_laysRing_109 : sl_D YX12_laysRing 109 (.iload_n 1) 1 110 := ⟨by decide +kernel, rfl⟩
theorem eX12_laysRing_110 : sl_D YX12_laysRing 110 (.istore_n 3) 1 111 := ⟨by decide +kernel, rfl⟩
theorem eX12_laysRing_111 : sl_D YX12_laysRing 111 (.aload_n 0) 1 112 := ⟨by decide +kernel, rfl⟩
theorem eX12_laysRing_112 : sl_D YX12_laysRing 112 (.getfield 396) 3 115 := ⟨by decide +kernel, rfl⟩
theorem eX12_laysRing_115 : sl_B YX12_laysRing 115 (fun o => .ifCond .eq o) 118 123 := ⟨8, by decide +kernel, rfl, by decide⟩
theorem eX12_laysRing_118 : sl_D YX12_laysRing 118 (.iload_n 3) 1 119 := ⟨by decide +kernel, rfl⟩
theorem eX12_laysRing_119 : sl_D YX12_laysRing 119 (.iload_n 1) 1 120 := ⟨by decide +kernel, rfl⟩
theorem eX12_laysRing_120 : sl_B YX12_laysRing 120 (fun o => .if_icmp .eq o) 123 187 := ⟨67, by decide +kernel, rfl, by decide⟩
theorem eX12_laysRing_123 : sl_D YX12_laysRing 123 (.aload_n 0) 1 124 := ⟨by decide +kernel, rfl⟩
theorem eX12_laysRing_124 : sl_D YX12_laysRing 124 (.getfield 83) 3 127 := ⟨by decide +kernel, rfl⟩
theorem eX12_laysRing_127 : sl_D YX12_laysRing 127 (.aload_n 0) 1 128 := ⟨by decide +kernel, rfl⟩
theorem eX12_laysRing_128 : sl_D YX12_laysRing 128 (.getfield 396) 3 131 := ⟨by decide +kernel, rfl⟩
theorem eX12_laysRing_131 : sl_D YX12_laysRing 131 (.iload_n 3) 1 132 := ⟨by decide +kernel, rfl⟩
theorem eX12_laysRing_132 : sl_D YX12_laysRing 132 (.iastore) 1 133 := ⟨by decide +kernel, rfl⟩
theorem eX12_laysRing_133 : sl_D YX12_laysRing 133 (.aload_n 0) 1 134 := ⟨by decide +kernel, rfl⟩
theorem eX12_laysRing_134 : sl_D YX12_laysRing 134 (.dup) 1 135 := ⟨by decide +kernel, rfl⟩
theorem eX12_laysRing_135 : sl_D YX12_laysRing 135 (.getfield 396) 3 138 := ⟨by decide +kernel, rfl⟩
theorem eX12_laysRing_138 : sl_D YX12_laysRing 138 (.iconst 1) 1 139 := ⟨by decide +kernel, rfl⟩
theorem eX12_laysRing_139 : sl_D YX12_laysRing 139 (.iadd) 1 140 := ⟨by decide +kernel, rfl⟩
theorem eX12_laysRing_140 : sl_D YX12_laysRing 140 (.putfield 396) 3 143 := ⟨by decide +kernel, rfl⟩
theorem eX12_laysRing_143 : sl_D YX12_laysRing 143 (.iconst 0) 1 144 := ⟨by decide +kernel, rfl⟩
theorem eX12_laysRing_144 : sl_D YX12_laysRing 144 (.istore 4) 2 146 := ⟨by decide +kernel, rfl⟩
theorem eX12_laysRing_146 : sl_D YX12_laysRing 146 (.aload_n 0) 1 147 := ⟨by decide +kernel, rfl⟩
theorem eX12_laysRing_147 : sl_D YX12_laysRing 147 (.getfield 76) 3 150 := ⟨by decide +kernel, rfl⟩
theorem eX12_laysRing_150 : sl_D YX12_laysRing 150 (.bipush 32) 2 152 := ⟨by decide +kernel, rfl⟩
theorem eX12_laysRing_152 : sl_D YX12_laysRing 152 (.iload_n 3) 1 153 := ⟨by decide +kernel, rfl⟩
theorem eX12_laysRing_153 : sl_D YX12_laysRing 153 (.imul) 1 154 := ⟨by decide +kernel, rfl⟩
theorem eX12_laysRing_154 : sl_D YX12_laysRing 154 (.iload 4) 2 156 := ⟨by decide +kernel, rfl⟩
theorem eX12_laysRing_156 : sl_D YX12_laysRing 156 (.iadd) 1 157 := ⟨by decide +kernel, rfl⟩
theorem eX12_laysRing_157 : sl_D YX12_laysRing 157 (.baload) 1 158 := ⟨by decide +kernel, rfl⟩
theorem eX12_laysRing_158 : sl_B YX12_laysRing 158 (fun o => .ifCond .eq o) 161 172 := ⟨14, by decide +kernel, rfl, by decide⟩
theorem eX12_laysRing_161 : sl_D YX12_laysRing 161 (.aload_n 0) 1 162 := ⟨by decide +kernel, rfl⟩
theorem eX12_laysRing_162 : sl_D YX12_laysRing 162 (.getfield 73) 3 165 := ⟨by decide +kernel, rfl⟩
theorem eX12_laysRing_165 : sl_D YX12_laysRing 165 (.iload 4) 2 167 := ⟨by decide +kernel, rfl⟩
theorem eX12_laysRing_167 : sl_D YX12_laysRing 167 (.iaload) 1 168 := ⟨by decide +kernel, rfl⟩
theorem eX12_laysRing_168 : sl_D YX12_laysRing 168 (.iload_n 2) 1 169 := ⟨by decide +kernel, rfl⟩
theorem eX12_laysRing_169 : sl_B YX12_laysRing 169 (fun o => .if_icmp .eq o) 172 178 := ⟨9, by decide +kernel, rfl, by decide⟩
theorem eX12_laysRing_172 : sl_D YX12_laysRing 172 (.iinc 4 1) 3 175 := ⟨by decide +kernel, rfl⟩
theorem eX12_laysRing_175 : sl_B YX12_laysRing 175 (fun o => .goto o) 178 146 := ⟨-29, by decide +kernel, rfl, by decide⟩
theorem eX12_laysRing_178 : sl_D YX12_laysRing 178 (.iload 4) 2 180 := ⟨by decide +kernel, rfl⟩
theorem eX12_laysRing_180 : sl_D YX12_laysRing 180 (.istore_n 3) 1 181 := ⟨by decide +kernel, rfl⟩
theorem eX12_laysRing_181 : sl_D YX12_laysRing 181 (.iinc 2 (-1)) 3 184 := ⟨by decide +kernel, rfl⟩
theorem eX12_laysRing_184 : sl_B YX12_laysRing 184 (fun o => .goto o) 187 111 := ⟨-73, by decide +kernel, rfl, by decide⟩
theorem eX12_laysRing_187 : sl_D YX12_laysRing 187 (.return_) 1 188 := ⟨by decide +kernel, rfl⟩
theorem eX12_hasNumbers_0 : sl_D YX12_hasNumbers 0 (.aload_n 0) 1 1 := ⟨by decide +kernel, rfl⟩
theorem eX12_hasNumbers_1 : sl_D YX12_hasNumbers 1 (.getfield 396) 3 4 := ⟨by decide +kernel, rfl⟩
theorem eX12_hasNumbers_4 : sl_B YX12_hasNumbers 4 (fun o => .ifCond .ne o) 7 11 := ⟨7, by decide +kernel, rfl, by decide⟩
theorem eX12_hasNumbers_7 : sl_D YX12_hasNumbers 7 (.iconst 1) 1 8 := ⟨by decide +kernel, rfl⟩
theorem eX12_hasNumbers_8 : sl_B YX12_hasNumbers 8 (fun o => .goto o) 11 12 := ⟨4, by decide +kernel, rfl, by decide⟩
theorem eX12_hasNumbers_11 : sl_D YX12_hasNumbers 11 (.iconst 0) 1 12 := ⟨by decide +kernel, rfl⟩
theorem eX12_hasNumbers_12 : sl_D YX12_hasNumbers 12 (.ireturn) 1 13 := ⟨by decide +kernel, rfl⟩
theorem eX12_numberOf_0 : sl_D YX12_numberOf 0 (.aload_n 0) 1 1 := ⟨by decide +kernel, rfl⟩
theorem eX12_numberOf_1 : sl_D YX12_numberOf 1 (.getfield 70) 3 4 := ⟨by decide +kernel, rfl⟩
theorem eX12_numberOf_4 : sl_D YX12_numberOf 4 (.aload_n 0) 1 5 := ⟨by decide +kernel, rfl⟩
theorem eX12_numberOf_5 : sl_D YX12_numberOf 5 (.getfield 67) 3 8 := ⟨by decide +kernel, rfl⟩
theorem eX12_numberOf_8 : sl_D YX12_numberOf 8 (.iload_n 1) 1 9 := ⟨by decide +kernel, rfl⟩
theorem eX12_numberOf_9 : sl_D YX12_numberOf 9 (.iaload) 1 10 := ⟨by decide +kernel, rfl⟩
theorem eX12_numberOf_10 : sl_D YX12_numberOf 10 (.iaload) 1 11 := ⟨by decide +kernel, rfl⟩
theorem eX12_numberOf_11 : sl_D YX12_numberOf 11 (.ireturn) 1 12 := ⟨by decide +kernel, rfl⟩
theorem eX12_function_0 : sl_D YX12_function 0 (.aload_n 0) 1 1 := ⟨by decide +kernel, rfl⟩
theorem eX12_function_1 : sl_D YX12_function 1 (.iconst 0) 1 2 := ⟨by decide +kernel, rfl⟩
theorem eX12_function_2 : sl_D YX12_function 2 (.putfield 149) 3 5 := ⟨by decide +kernel, rfl⟩
theorem eX12_function_5 : sl_D YX12_function 5 (.aload_n 0) 1 6 := ⟨by decide +kernel, rfl⟩
theorem eX12_function_6 : sl_D YX12_function 6 (.iload_n 1) 1 7 := ⟨by decide +kernel, rfl⟩
theorem eX12_function_7 : sl_D YX12_function 7 (.invokevirtual 354) 3 10 := ⟨by decide +kernel, rfl⟩
theorem eX12_function_10 : sl_B YX12_function 10 (fun o => .ifCond .eq o) 13 22 := ⟨12, by decide +kernel, rfl, by decide⟩
theorem eX12_function_13 : sl_D YX12_function 13 (.iload_n 2) 1 14 := ⟨by decide +kernel, rfl⟩
theorem eX12_function_14 : sl_D YX12_function 14 (.iconst 0) 1 15 := ⟨by decide +kernel, rfl⟩
theorem eX12_function_15 : sl_D YX12_function 15 (.iconst 1) 1 16 := ⟨by decide +kernel, rfl⟩
theorem eX12_function_16 : sl_D YX12_function 16 (.invokestatic 180) 3 19 := ⟨by decide +kernel, rfl⟩
theorem eX12_function_19 : sl_B YX12_function 19 (fun o => .ifCond .ne o) 22 28 := ⟨9, by decide +kernel, rfl, by decide⟩
theorem eX12_function_22 : sl_D YX12_function 22 (.aload_n 0) 1 23 := ⟨by decide +kernel, rfl⟩
theorem eX12_function_23 : sl_D YX12_function 23 (.iconst 1) 1 24 := ⟨by decide +kernel, rfl⟩
theorem eX12_function_24 : sl_D YX12_function 24 (.invokevirtual 155) 3 27 := ⟨by decide +kernel, rfl⟩
theorem eX12_function_27 : sl_D YX12_function 27 (.ireturn) 1 28 := ⟨by decide +kernel, rfl⟩
theorem eX12_function_28 : sl_D YX12_function 28 (.aload_n 0) 1 29 := ⟨by decide +kernel, rfl⟩
theorem eX12_function_29 : sl_D YX12_function 29 (.invokevirtual 405) 3 32 := ⟨by decide +kernel, rfl⟩
theorem eX12_function_32 : sl_B YX12_function 32 (fun o => .ifCond .eq o) 35 52 := ⟨20, by decide +kernel, rfl, by decide⟩
theorem eX12_function_35 : sl_D YX12_function 35 (.aload_n 0) 1 36 := ⟨by decide +kernel, rfl⟩
theorem eX12_function_36 : sl_D YX12_function 36 (.aload_n 0) 1 37 := ⟨by decide +kernel, rfl⟩
theorem eX12_function_37 : sl_D YX12_function 37 (.bipush 16) 2 39 := ⟨by decide +kernel, rfl⟩
theorem eX12_function_39 : sl_D YX12_function 39 (.iload_n 2) 1 40 := ⟨by decide +kernel, rfl⟩
theorem eX12_function_40 : sl_D YX12_function 40 (.imul) 1 41 := ⟨by decide +kernel, rfl⟩
theorem eX12_function_41 : sl_D YX12_function 41 (.iload_n 1) 1 42 := ⟨by decide +kernel, rfl⟩
theorem eX12_function_42 : sl_D YX12_function 42 (.iadd) 1 43 := ⟨by decide +kernel, rfl⟩
theorem eX12_function_43 : sl_D YX12_function 43 (.invokevirtual 408) 3 46 := ⟨by decide +kernel, rfl⟩
theorem eX12_function_46 : sl_D YX12_function 46 (.invokevirtual 314) 3 49 := ⟨by decide +kernel, rfl⟩
theorem eX12_function_49 : sl_B YX12_function 49 (fun o => .goto o) 52 57 := ⟨8, by decide +kernel, rfl, by decide⟩
theorem eX12_function_52 : sl_D YX12_function 52 (.aload_n 0) 1 53 := ⟨by decide +kernel, rfl⟩
theorem eX12_function_53 : sl_D YX12_function 53 (.iconst 5) 1 54 := ⟨by decide +kernel, rfl⟩
theorem eX12_function_54 : sl_D YX12_function 54 (.invokevirtual 155) 3 57 := ⟨by decide +kernel, rfl⟩
theorem eX12_function_57 : sl_D YX12_function 57 (.ireturn) 1 58 := ⟨by decide +kernel, rfl⟩
theorem eX12_highest_0 : sl_D YX12_highest 0 (.aload_n 0) 1 1 := ⟨by decide +kernel, rfl⟩
theorem eX12_highest_1 : sl_D YX12_highest 1 (.iconst 0) 1 2 := ⟨by decide +kernel, rfl⟩
theorem eX12_highest_2 : sl_D YX12_highest 2 (.putfield 149) 3 5 := ⟨by decide +kernel, rfl⟩
theorem eX12_highest_5 : sl_D YX12_highest 5 (.aload_n 0) 1 6 := ⟨by decide +kernel, rfl⟩
theorem eX12_highest_6 : sl_D YX12_highest 6 (.getfield 317) 3 9 := ⟨by decide +kernel, rfl⟩
theorem eX12_highest_9 : sl_B YX12_highest 9 (fun o => .ifCond .ne o) 12 18 := ⟨9, by decide +kernel, rfl, by decide⟩
theorem eX12_highest_12 : sl_D YX12_highest 12 (.aload_n 0) 1 13 := ⟨by decide +kernel, rfl⟩
theorem eX12_highest_13 : sl_D YX12_highest 13 (.iconst 1) 1 14 := ⟨by decide +kernel, rfl⟩
theorem eX12_highest_14 : sl_D YX12_highest 14 (.invokevirtual 155) 3 17 := ⟨by decide +kernel, rfl⟩
theorem eX12_highest_17 : sl_D YX12_highest 17 (.ireturn) 1 18 := ⟨by decide +kernel, rfl⟩
theorem eX12_highest_18 : sl_D YX12_highest 18 (.aload_n 0) 1 19 := ⟨by decide +kernel, rfl⟩
theorem eX12_highest_19 : sl_D YX12_highest 19 (.invokevirtual 405) 3 22 := ⟨by decide +kernel, rfl⟩
theorem eX12_highest_22 : sl_B YX12_highest 22 (fun o => .ifCond .ne o) 25 31 := ⟨9, by decide +kernel, rfl, by decide⟩
theorem eX12_highest_25 : sl_D YX12_highest 25 (.aload_n 0) 1 26 := ⟨by decide +kernel, rfl⟩
theorem eX12_highest_26 : sl_D YX12_highest 26 (.iconst 5) 1 27 := ⟨by decide +kernel, rfl⟩
theorem eX12_highest_27 : sl_D YX12_highest 27 (.invokevirtual 155) 3 30 := ⟨by decide +kernel, rfl⟩
theorem eX12_highest_30 : sl_D YX12_highest 30 (.ireturn) 1 31 := ⟨by decide +kernel, rfl⟩
theorem eX12_highest_31 : sl_D YX12_highest 31 (.iconst 0) 1 32 := ⟨by decide +kernel, rfl⟩
theorem eX12_highest_32 : sl_D YX12_highest 32 (.istore_n 1) 1 33 := ⟨by decide +kernel, rfl⟩
theorem eX12_highest_33 : sl_D YX12_highest 33 (.iconst 0) 1 34 := ⟨by decide +kernel, rfl⟩
theorem eX12_highest_34 : sl_D YX12_highest 34 (.istore_n 2) 1 35 := ⟨by decide +kernel, rfl⟩
theorem eX12_highest_35 : sl_D YX12_highest 35 (.iload_n 2) 1 36 := ⟨by decide +kernel, rfl⟩
theorem eX12_highest_36 : sl_D YX12_highest 36 (.bipush 32) 2 38 := ⟨by decide +kernel, rfl⟩
theorem eX12_highest_38 : sl_B YX12_highest 38 (fun o => .if_icmp .ge o) 41 70 := ⟨32, by decide +kernel, rfl, by decide⟩
theorem eX12_highest_41 : sl_D YX12_highest 41 (.aload_n 0) 1 42 := ⟨by decide +kernel, rfl⟩
theorem eX12_highest_42 : sl_D YX12_highest 42 (.iload_n 2) 1 43 := ⟨by decide +kernel, rfl⟩
theorem eX12_highest_43 : sl_D YX12_highest 43 (.invokevirtual 386) 3 46 := ⟨by decide +kernel, rfl⟩
theorem eX12_highest_46 : sl_B YX12_highest 46 (fun o => .ifCond .eq o) 49 64 := ⟨18, by decide +kernel, rfl, by decide⟩
theorem eX12_highest_49 : sl_D YX12_highest 49 (.aload_n 0) 1 50 := ⟨by decide +kernel, rfl⟩
theorem eX12_highest_50 : sl_D YX12_highest 50 (.iload_n 2) 1 51 := ⟨by decide +kernel, rfl⟩
theorem eX12_highest_51 : sl_D YX12_highest 51 (.invokevirtual 408) 3 54 := ⟨by decide +kernel, rfl⟩
theorem eX12_highest_54 : sl_D YX12_highest 54 (.iload_n 1) 1 55 := ⟨by decide +kernel, rfl⟩
theorem eX12_highest_55 : sl_B YX12_highest 55 (fun o => .if_icmp .le o) 58 64 := ⟨9, by decide +kernel, rfl, by decide⟩
theorem eX12_highest_58 : sl_D YX12_highest 58 (.aload_n 0) 1 59 := ⟨by decide +kernel, rfl⟩
theorem eX12_highest_59 : sl_D YX12_highest 59 (.iload_n 2) 1 60 := ⟨by decide +kernel, rfl⟩
theorem eX12_highest_60 : sl_D YX12_highest 60 (.invokevirtual 408) 3 63 := ⟨by decide +kernel, rfl⟩
theorem eX12_highest_63 : sl_D YX12_highest 63 (.istore_n 1) 1 64 := ⟨by decide +kernel, rfl⟩
theorem eX12_highest_64 : sl_D YX12_highest 64 (.iinc 2 1) 3 67 := ⟨by decide +kernel, rfl⟩
theorem eX12_highest_67 : sl_B YX12_highest 67 (fun o => .goto o) 70 35 := ⟨-32, by decide +kernel, rfl, by decide⟩
theorem eX12_highest_70 : sl_D YX12_highest 70 (.aload_n 0) 1 71 := ⟨by decide +kernel, rfl⟩
theorem eX12_highest_71 : sl_D YX12_highest 71 (.iload_n 1) 1 72 := ⟨by decide +kernel, rfl⟩
theorem eX12_highest_72 : sl_D YX12_highest 72 (.invokevirtual 314) 3 75 := ⟨by decide +kernel, rfl⟩
theorem eX12_highest_75 : sl_D YX12_highest 75 (.ireturn) 1 76 := ⟨by decide +kernel, rfl⟩
theorem eX12_isHidden_0 : sl_D YX12_isHidden 0 (.aload_n 0) 1 1 := ⟨by decide +kernel, rfl⟩
theorem eX12_isHidden_1 : sl_D YX12_isHidden 1 (.iload_n 1) 1 2 := ⟨by decide +kernel, rfl⟩
theorem eX12_isHidden_2 : sl_D YX12_isHidden 2 (.invokevirtual 408) 3 5 := ⟨by decide +kernel, rfl⟩
theorem eX12_isHidden_5 : sl_D YX12_isHidden 5 (.istore 4) 2 7 := ⟨by decide +kernel, rfl⟩
theorem eX12_isHidden_7 : sl_D YX12_isHidden 7 (.aload_n 0) 1 8 := ⟨by decide +kernel, rfl⟩
theorem eX12_isHidden_8 : sl_D YX12_isHidden 8 (.bipush 16) 2 10 := ⟨by decide +kernel, rfl⟩
theorem eX12_isHidden_10 : sl_D YX12_isHidden 10 (.iload_n 2) 1 11 := ⟨by decide +kernel, rfl⟩
theorem eX12_isHidden_11 : sl_D YX12_isHidden 11 (.iadd) 1 12 := ⟨by decide +kernel, rfl⟩
theorem eX12_isHidden_12 : sl_D YX12_isHidden 12 (.invokevirtual 408) 3 15 := ⟨by decide +kernel, rfl⟩
theorem eX12_isHidden_15 : sl_D YX12_isHidden 15 (.istore 5) 2 17 := ⟨by decide +kernel, rfl⟩
theorem eX12_isHidden_17 : sl_D YX12_isHidden 17 (.aload_n 0) 1 18 := ⟨by decide +kernel, rfl⟩
theorem eX12_isHidden_18 : sl_D YX12_isHidden 18 (.iload_n 1) 1 19 := ⟨by decide +kernel, rfl⟩
theorem eX12_isHidden_19 : sl_D YX12_isHidden 19 (.iload_n 2) 1 20 := ⟨by decide +kernel, rfl⟩
theorem eX12_isHidden_20 : sl_D YX12_isHidden 20 (.invokevirtual 371) 3 23 := ⟨by decide +kernel, rfl⟩
theorem eX12_isHidden_23 : sl_B YX12_isHidden 23 (fun o => .ifCond .ne o) 26 57 := ⟨34, by decide +kernel, rfl, by decide⟩
theorem eX12_isHidden_26 : sl_D YX12_isHidden 26 (.iload_n 3) 1 27 := ⟨by decide +kernel, rfl⟩
theorem eX12_isHidden_27 : sl_D YX12_isHidden 27 (.iload 4) 2 29 := ⟨by decide +kernel, rfl⟩
theorem eX12_isHidden_29 : sl_D YX12_isHidden 29 (.iload 5) 2 31 := ⟨by decide +kernel, rfl⟩
theorem eX12_isHidden_31 : sl_B YX12_isHidden 31 (fun o => .if_icmp .ge o) 34 38 := ⟨7, by decide +kernel, rfl, by decide⟩
theorem eX12_isHidden_34 : sl_D YX12_isHidden 34 (.iconst 1) 1 35 := ⟨by decide +kernel, rfl⟩
theorem eX12_isHidden_35 : sl_B YX12_isHidden 35 (fun o => .goto o) 38 50 := ⟨15, by decide +kernel, rfl, by decide⟩
theorem eX12_isHidden_38 : sl_D YX12_isHidden 38 (.iload 4) 2 40 := ⟨by decide +kernel, rfl⟩
theorem eX12_isHidden_40 : sl_D YX12_isHidden 40 (.iload 5) 2 42 := ⟨by decide +kernel, rfl⟩
theorem eX12_isHidden_42 : sl_B YX12_isHidden 42 (fun o => .if_icmp .ne o) 45 49 := ⟨7, by decide +kernel, rfl, by decide⟩
theorem eX12_isHidden_45 : sl_D YX12_isHidden 45 (.iconst 2) 1 46 := ⟨by decide +kernel, rfl⟩
theorem eX12_isHidden_46 : sl_B YX12_isHidden 46 (fun o => .goto o) 49 50 := ⟨4, by decide +kernel, rfl, by decide⟩
theorem eX12_isHidden_49 : sl_D YX12_isHidden 49 (.iconst 4) 1 50 := ⟨by decide +kernel, rfl⟩
theorem eX12_isHidden_50 : sl_B YX12_isHidden 50 (fun o => .if_icmp .ne o) 53 57 := ⟨7, by decide +kernel, rfl, by decide⟩
theorem eX12_isHidden_53 : sl_D YX12_isHidden 53 (.iconst 1) 1 54 := ⟨by decide +kernel, rfl⟩
theorem eX12_isHidden_54 : sl_B YX12_isHidden 54 (fun o => .goto o) 57 58 := ⟨4, by decide +kernel, rfl, by decide⟩
theorem eX12_isHidden_57 : sl_D YX12_isHidden 57 (.iconst 0) 1 58 := ⟨by decide +kernel, rfl⟩
theorem eX12_isHidden_58 : sl_D YX12_isHidden 58 (.ireturn) 1 59 := ⟨by decide +kernel, rfl⟩
theorem eX12_hidden_0 : sl_D YX12_hidden 0 (.aload_n 0) 1 1 := ⟨by decide +kernel, rfl⟩
theorem eX12_hidden_1 : sl_D YX12_hidden 1 (.iconst 0) 1 2 := ⟨by decide +kernel, rfl⟩
theorem eX12_hidden_2 : sl_D YX12_hidden 2 (.putfield 149) 3 5 := ⟨by decide +kernel, rfl⟩
theorem eX12_hidden_5 : sl_D YX12_hidden 5 (.aload_n 0) 1 6 := ⟨by decide +kernel, rfl⟩
theorem eX12_hidden_6 : sl_D YX12_hidden 6 (.getfield 317) 3 9 := ⟨by decide +kernel, rfl⟩
theorem eX12_hidden_9 : sl_B YX12_hidden 9 (fun o => .ifCond .ne o) 12 18 := ⟨9, by decide +kernel, rfl, by decide⟩
theorem eX12_hidden_12 : sl_D YX12_hidden 12 (.aload_n 0) 1 13 := ⟨by decide +kernel, rfl⟩
theorem eX12_hidden_13 : sl_D YX12_hidden 13 (.iconst 1) 1 14 := ⟨by decide +kernel, rfl⟩
theorem eX12_hidden_14 : sl_D YX12_hidden 14 (.invokevirtual 155) 3 17 := ⟨by decide +kernel, rfl⟩
theorem eX12_hidden_17 : sl_D YX12_hidden 17 (.ireturn) 1 18 := ⟨by decide +kernel, rfl⟩
theorem eX12_hidden_18 : sl_D YX12_hidden 18 (.iload_n 1) 1 19 := ⟨by decide +kernel, rfl⟩
theorem eX12_hidden_19 : sl_D YX12_hidden 19 (.iconst 1) 1 20 := ⟨by decide +kernel, rfl⟩
theorem eX12_hidden_20 : sl_B YX12_hidden 20 (fun o => .if_icmp .eq o) 23 39 := ⟨19, by decide +kernel, rfl, by decide⟩
theorem eX12_hidden_23 : sl_D YX12_hidden 23 (.iload_n 1) 1 24 := ⟨by decide +kernel, rfl⟩
theorem eX12_hidden_24 : sl_D YX12_hidden 24 (.iconst 2) 1 25 := ⟨by decide +kernel, rfl⟩
theorem eX12_hidden_25 : sl_B YX12_hidden 25 (fun o => .if_icmp .eq o) 28 39 := ⟨14, by decide +kernel, rfl, by decide⟩
theorem eX12_hidden_28 : sl_D YX12_hidden 28 (.iload_n 1) 1 29 := ⟨by decide +kernel, rfl⟩
theorem eX12_hidden_29 : sl_D YX12_hidden 29 (.iconst 4) 1 30 := ⟨by decide +kernel, rfl⟩
theorem eX12_hidden_30 : sl_B YX12_hidden 30 (fun o => .if_icmp .eq o) 33 39 := ⟨9, by decide +kernel, rfl, by decide⟩
theorem eX12_hidden_33 : sl_D YX12_hidden 33 (.aload_n 0) 1 34 := ⟨by decide +kernel, rfl⟩
theorem eX12_hidden_34 : sl_D YX12_hidden 34 (.iconst 2) 1 35 := ⟨by decide +kernel, rfl⟩
theorem eX12_hidden_35 : sl_D YX12_hidden 35 (.invokevirtual 155) 3 38 := ⟨by decide +kernel, rfl⟩
theorem eX12_hidden_38 : sl_D YX12_hidden 38 (.ireturn) 1 39 := ⟨by decide +kernel, rfl⟩
theorem eX12_hidden_39 : sl_D YX12_hidden 39 (.aload_n 0) 1 40 := ⟨by decide +kernel, rfl⟩
theorem eX12_hidden_40 : sl_D YX12_hidden 40 (.invokevirtual 405) 3 43 := ⟨by decide +kernel, rfl⟩
theorem eX12_hidden_43 : sl_B YX12_hidden 43 (fun o => .ifCond .ne o) 46 52 := ⟨9, by decide +kernel, rfl, by decide⟩
theorem eX12_hidden_46 : sl_D YX12_hidden 46 (.aload_n 0) 1 47 := ⟨by decide +kernel, rfl⟩
theorem eX12_hidden_47 : sl_D YX12_hidden 47 (.iconst 5) 1 48 := ⟨by decide +kernel, rfl⟩
theorem eX12_hidden_48 : sl_D YX12_hidden 48 (.invokevirtual 155) 3 51 := ⟨by decide +kernel, rfl⟩
theorem eX12_hidden_51 : sl_D YX12_hidden 51 (.ireturn) 1 52 := ⟨by decide +kernel, rfl⟩
theorem eX12_hidden_52 : sl_D YX12_hidden 52 (.iconst 0) 1 53 := ⟨by decide +kernel, rfl⟩
theorem eX12_hidden_53 : sl_D YX12_hidden 53 (.istore_n 2) 1 54 := ⟨by decide +kernel, rfl⟩
theorem eX12_hidden_54 : sl_D YX12_hidden 54 (.iconst 0) 1 55 := ⟨by decide +kernel, rfl⟩
theorem eX12_hidden_55 : sl_D YX12_hidden 55 (.istore_n 3) 1 56 := ⟨by decide +kernel, rfl⟩
theorem eX12_hidden_56 : sl_D YX12_hidden 56 (.iload_n 3) 1 57 := ⟨by decide +kernel, rfl⟩
theorem eX12_hidden_57 : sl_D YX12_hidden 57 (.aload_n 0) 1 58 := ⟨by decide +kernel, rfl⟩
theorem eX12_hidden_58 : sl_D YX12_hidden 58 (.getfield 324) 3 61 := ⟨by decide +kernel, rfl⟩
theorem eX12_hidden_61 : sl_B YX12_hidden 61 (fun o => .if_icmp .gt o) 64 107 := ⟨46, by decide +kernel, rfl, by decide⟩
theorem eX12_hidden_64 : sl_D YX12_hidden 64 (.iconst 0) 1 65 := ⟨by decide +kernel, rfl⟩
theorem eX12_hidden_65 : sl_D YX12_hidden 65 (.istore 4) 2 67 := ⟨by decide +kernel, rfl⟩
theorem eX12_hidden_67 : sl_D YX12_hidden 67 (.iload 4) 2 69 := ⟨by decide +kernel, rfl⟩
theorem eX12_hidden_69 : sl_D YX12_hidden 69 (.aload_n 0) 1 70 := ⟨by decide +kernel, rfl⟩
theorem eX12_hidden_70 : sl_D YX12_hidden 70 (.getfield 324) 3 73 := ⟨by decide +kernel, rfl⟩
theorem eX12_hidden_73 : sl_B YX12_hidden 73 (fun o => .if_icmp .gt o) 76 101 := ⟨28, by decide +kernel, rfl, by decide⟩
theorem eX12_hidden_76 : sl_D YX12_hidden 76 (.iload_n 2) 1 77 := ⟨by decide +kernel, rfl⟩
theorem eX12_hidden_77 : sl_D YX12_hidden 77 (.aload_n 0) 1 78 := ⟨by decide +kernel, rfl⟩
theorem eX12_hidden_78 : sl_D YX12_hidden 78 (.iload_n 3) 1 79 := ⟨by decide +kernel, rfl⟩
theorem eX12_hidden_79 : sl_D YX12_hidden 79 (.iload 4) 2 81 := ⟨by decide +kernel, rfl⟩
theorem eX12_hidden_81 : sl_D YX12_hidden 81 (.iload_n 1) 1 82 := ⟨by decide +kernel, rfl⟩
theorem eX12_hidden_82 : sl_D YX12_hidden 82 (.invokevirtual 411) 3 85 := ⟨by decide +kernel, rfl⟩
theorem eX12_hidden_85 : sl_B YX12_hidden 85 (fun o => .ifCond .eq o) 88 92 := ⟨7, by decide +kernel, rfl, by decide⟩
theorem eX12_hidden_88 : sl_D YX12_hidden 88 (.iconst 1) 1 89 := ⟨by decide +kernel, rfl⟩
theorem eX12_hidden_89 : sl_B YX12_hidden 89 (fun o => .goto o) 92 93 := ⟨4, by decide +kernel, rfl, by decide⟩
theorem eX12_hidden_92 : sl_D YX12_hidden 92 (.iconst 0) 1 93 := ⟨by decide +kernel, rfl⟩
theorem eX12_hidden_93 : sl_D YX12_hidden 93 (.iadd) 1 94 := ⟨by decide +kernel, rfl⟩
theorem eX12_hidden_94 : sl_D YX12_hidden 94 (.istore_n 2) 1 95 := ⟨by decide +kernel, rfl⟩
theorem eX12_hidden_95 : sl_D YX12_hidden 95 (.iinc 4 1) 3 98 := ⟨by decide +kernel, rfl⟩
theorem eX12_hidden_98 : sl_B YX12_hidden 98 (fun o => .goto o) 101 67 := ⟨-31, by decide +kernel, rfl, by decide⟩
theorem eX12_hidden_101 : sl_D YX12_hidden 101 (.iinc 3 1) 3 104 := ⟨by decide +kernel, rfl⟩
theorem eX12_hidden_104 : sl_B YX12_hidden 104 (fun o => .goto o) 107 56 := ⟨-48, by decide +kernel, rfl, by decide⟩
theorem eX12_hidden_107 : sl_D YX12_hidden 107 (.aload_n 0) 1 108 := ⟨by decide +kernel, rfl⟩
theorem eX12_hidden_108 : sl_D YX12_hidden 108 (.iload_n 2) 1 109 := ⟨by decide +kernel, rfl⟩
theorem eX12_hidden_109 : sl_D YX12_hidden 109 (.invokevirtual 314) 3 112 := ⟨by decide +kernel, rfl⟩
theorem eX12_hidden_112 : sl_D YX12_hidden 112 (.ireturn) 1 113 := ⟨by decide +kernel, rfl⟩
theorem eX12_knotted_0 : sl_D YX12_knotted 0 (.aload_n 0) 1 1 := ⟨by decide +kernel, rfl⟩
theorem eX12_knotted_1 : sl_D YX12_knotted 1 (.iconst 0) 1 2 := ⟨by decide +kernel, rfl⟩
theorem eX12_knotted_2 : sl_D YX12_knotted 2 (.putfield 149) 3 5 := ⟨by decide +kernel, rfl⟩
theorem eX12_knotted_5 : sl_D YX12_knotted 5 (.aload_n 0) 1 6 := ⟨by decide +kernel, rfl⟩
theorem eX12_knotted_6 : sl_D YX12_knotted 6 (.getfield 317) 3 9 := ⟨by decide +kernel, rfl⟩
theorem eX12_knotted_9 : sl_B YX12_knotted 9 (fun o => .ifCond .ne o) 12 18 := ⟨9, by decide +kernel, rfl, by decide⟩
theorem eX12_knotted_12 : sl_D YX12_knotted 12 (.aload_n 0) 1 13 := ⟨by decide +kernel, rfl⟩
theorem eX12_knotted_13 : sl_D YX12_knotted 13 (.iconst 1) 1 14 := ⟨by decide +kernel, rfl⟩
theorem eX12_knotted_14 : sl_D YX12_knotted 14 (.invokevirtual 155) 3 17 := ⟨by decide +kernel, rfl⟩
theorem eX12_knotted_17 : sl_D YX12_knotted 17 (.ireturn) 1 18 := ⟨by decide +kernel, rfl⟩
theorem eX12_knotted_18 : sl_D YX12_knotted 18 (.iconst 0) 1 19 := ⟨by decide +kernel, rfl⟩
theorem eX12_knotted_19 : sl_D YX12_knotted 19 (.istore_n 1) 1 20 := ⟨by decide +kernel, rfl⟩
theorem eX12_knotted_20 : sl_D YX12_knotted 20 (.iconst 0) 1 21 := ⟨by decide +kernel, rfl⟩
theorem eX12_knotted_21 : sl_D YX12_knotted 21 (.istore_n 2) 1 22 := ⟨by decide +kernel, rfl⟩
theorem eX12_knotted_22 : sl_D YX12_knotted 22 (.iload_n 2) 1 23 := ⟨by decide +kernel, rfl⟩
theorem eX12_knotted_23 : sl_D YX12_knotted 23 (.bipush 32) 2 25 := ⟨by decide +kernel, rfl⟩
theorem eX12_knotted_25 : sl_B YX12_knotted 25 (fun o => .if_icmp .ge o) 28 50 := ⟨25, by decide +kernel, rfl, by decide⟩
theorem eX12_knotted_28 : sl_D YX12_knotted 28 (.iload_n 1) 1 29 := ⟨by decide +kernel, rfl⟩
theorem eX12_knotted_29 : sl_D YX12_knotted 29 (.aload_n 0) 1 30 := ⟨by decide +kernel, rfl⟩
theorem eX12_knotted_30 : sl_D YX12_knotted 30 (.iload_n 2) 1 31 := ⟨by decide +kernel, rfl⟩
theorem eX12_knotted_31 : sl_D YX12_knotted 31 (.invokevirtual 414) 3 34 := ⟨by decide +kernel, rfl⟩
theorem eX12_knotted_34 : sl_B YX12_knotted 34 (fun o => .ifCond .eq o) 37 41 := ⟨7, by decide +kernel, rfl, by decide⟩
theorem eX12_knotted_37 : sl_D YX12_knotted 37 (.iconst 1) 1 38 := ⟨by decide +kernel, rfl⟩
theorem eX12_knotted_38 : sl_B YX12_knotted 38 (fun o => .goto o) 41 42 := ⟨4, by decide +kernel, rfl, by decide⟩
theorem eX12_knotted_41 : sl_D YX12_knotted 41 (.iconst 0) 1 42 := ⟨by decide +kernel, rfl⟩
theorem eX12_knotted_42 : sl_D YX12_knotted 42 (.iadd) 1 43 := ⟨by decide +kernel, rfl⟩
theorem eX12_knotted_43 : sl_D YX12_knotted 43 (.istore_n 1) 1 44 := ⟨by decide +kernel, rfl⟩
theorem eX12_knotted_44 : sl_D YX12_knotted 44 (.iinc 2 1) 3 47 := ⟨by decide +kernel, rfl⟩
theorem eX12_knotted_47 : sl_B YX12_knotted 47 (fun o => .goto o) 50 22 := ⟨-25, by decide +kernel, rfl, by decide⟩
theorem eX12_knotted_50 : sl_D YX12_knotted 50 (.aload_n 0) 1 51 := ⟨by decide +kernel, rfl⟩
theorem eX12_knotted_51 : sl_D YX12_knotted 51 (.iload_n 1) 1 52 := ⟨by decide +kernel, rfl⟩
theorem eX12_knotted_52 : sl_D YX12_knotted 52 (.invokevirtual 314) 3 55 := ⟨by decide +kernel, rfl⟩
theorem eX12_knotted_55 : sl_D YX12_knotted 55 (.ireturn) 1 56 := ⟨by decide +kernel, rfl⟩
theorem eX12_ring_0 : sl_D YX12_ring 0 (.aload_n 0) 1 1 := ⟨by decide +kernel, rfl⟩
theorem eX12_ring_1 : sl_D YX12_ring 1 (.iconst 0) 1 2 := ⟨by decide +kernel, rfl⟩
theorem eX12_ring_2 : sl_D YX12_ring 2 (.putfield 149) 3 5 := ⟨by decide +kernel, rfl⟩
theorem eX12_ring_5 : sl_D YX12_ring 5 (.aload_n 0) 1 6 := ⟨by decide +kernel, rfl⟩
theorem eX12_ring_6 : sl_D YX12_ring 6 (.getfield 317) 3 9 := ⟨by decide +kernel, rfl⟩
theorem eX12_ring_9 : sl_B YX12_ring 9 (fun o => .ifCond .eq o) 12 23 := ⟨14, by decide +kernel, rfl, by decide⟩
theorem eX12_ring_12 : sl_D YX12_ring 12 (.aload_n 0) 1 13 := ⟨by decide +kernel, rfl⟩
theorem eX12_ring_13 : sl_D YX12_ring 13 (.aload_n 0) 1 14 := ⟨by decide +kernel, rfl⟩
theorem eX12_ring_14 : sl_D YX12_ring 14 (.getfield 396) 3 17 := ⟨by decide +kernel, rfl⟩
theorem eX12_ring_17 : sl_D YX12_ring 17 (.invokevirtual 314) 3 20 := ⟨by decide +kernel, rfl⟩
theorem eX12_ring_20 : sl_B YX12_ring 20 (fun o => .goto o) 23 28 := ⟨8, by decide +kernel, rfl, by decide⟩
theorem eX12_ring_23 : sl_D YX12_ring 23 (.aload_n 0) 1 24 := ⟨by decide +kernel, rfl⟩
theorem eX12_ring_24 : sl_D YX12_ring 24 (.iconst 1) 1 25 := ⟨by decide +kernel, rfl⟩
theorem eX12_ring_25 : sl_D YX12_ring 25 (.invokevirtual 155) 3 28 := ⟨by decide +kernel, rfl⟩
theorem eX12_ring_28 : sl_D YX12_ring 28 (.ireturn) 1 29 := ⟨by decide +kernel, rfl⟩
theorem eX12_ringAt_0 : sl_D YX12_ringAt 0 (.aload_n 0) 1 1 := ⟨by decide +kernel, rfl⟩
theorem eX12_ringAt_1 : sl_D YX12_ringAt 1 (.iconst 0) 1 2 := ⟨by decide +kernel, rfl⟩
theorem eX12_ringAt_2 : sl_D YX12_ringAt 2 (.putfield 149) 3 5 := ⟨by decide +kernel, rfl⟩
theorem eX12_ringAt_5 : sl_D YX12_ringAt 5 (.aload_n 0) 1 6 := ⟨by decide +kernel, rfl⟩
theorem eX12_ringAt_6 : sl_D YX12_ringAt 6 (.getfield 317) 3 9 := ⟨by decide +kernel, rfl⟩
theorem eX12_ringAt_9 : sl_B YX12_ringAt 9 (fun o => .ifCond .eq o) 12 39 := ⟨30, by decide +kernel, rfl, by decide⟩
theorem eX12_ringAt_12 : sl_D YX12_ringAt 12 (.iload_n 1) 1 13 := ⟨by decide +kernel, rfl⟩
theorem eX12_ringAt_13 : sl_D YX12_ringAt 13 (.iconst 0) 1 14 := ⟨by decide +kernel, rfl⟩
theorem eX12_ringAt_14 : sl_D YX12_ringAt 14 (.aload_n 0) 1 15 := ⟨by decide +kernel, rfl⟩
theorem eX12_ringAt_15 : sl_D YX12_ringAt 15 (.getfield 396) 3 18 := ⟨by decide +kernel, rfl⟩
theorem eX12_ringAt_18 : sl_D YX12_ringAt 18 (.iconst 1) 1 19 := ⟨by decide +kernel, rfl⟩
theorem eX12_ringAt_19 : sl_D YX12_ringAt 19 (.isub) 1 20 := ⟨by decide +kernel, rfl⟩
theorem eX12_ringAt_20 : sl_D YX12_ringAt 20 (.invokestatic 180) 3 23 := ⟨by decide +kernel, rfl⟩
theorem eX12_ringAt_23 : sl_B YX12_ringAt 23 (fun o => .ifCond .eq o) 26 39 := ⟨16, by decide +kernel, rfl, by decide⟩
theorem eX12_ringAt_26 : sl_D YX12_ringAt 26 (.aload_n 0) 1 27 := ⟨by decide +kernel, rfl⟩
theorem eX12_ringAt_27 : sl_D YX12_ringAt 27 (.aload_n 0) 1 28 := ⟨by decide +kernel, rfl⟩
theorem eX12_ringAt_28 : sl_D YX12_ringAt 28 (.getfield 83) 3 31 := ⟨by decide +kernel, rfl⟩
theorem eX12_ringAt_31 : sl_D YX12_ringAt 31 (.iload_n 1) 1 32 := ⟨by decide +kernel, rfl⟩
theorem eX12_ringAt_32 : sl_D YX12_ringAt 32 (.iaload) 1 33 := ⟨by decide +kernel, rfl⟩
theorem eX12_ringAt_33 : sl_D YX12_ringAt 33 (.invokevirtual 314) 3 36 := ⟨by decide +kernel, rfl⟩
theorem eX12_ringAt_36 : sl_B YX12_ringAt 36 (fun o => .goto o) 39 44 := ⟨8, by decide +kernel, rfl, by decide⟩
theorem eX12_ringAt_39 : sl_D YX12_ringAt 39 (.aload_n 0) 1 40 := ⟨by decide +kernel, rfl⟩
theorem eX12_ringAt_40 : sl_D YX12_ringAt 40 (.iconst 1) 1 41 := ⟨by decide +kernel, rfl⟩
theorem eX12_ringAt_41 : sl_D YX12_ringAt 41 (.invokevirtual 155) 3 44 := ⟨by decide +kernel, rfl⟩
theorem eX12_ringAt_44 : sl_D YX12_ringAt 44 (.ireturn) 1 45 := ⟨by decide +kernel, rfl⟩
theorem eX12_terminalOf_0 : sl_D YX12_terminalOf 0 (.iconst 0) 1 1 := ⟨by decide +kernel, rfl⟩
theorem eX12_terminalOf_1 : sl_D YX12_terminalOf 1 (.istore_n 2) 1 2 := ⟨by decide +kernel, rfl⟩
theorem eX12_terminalOf_2 : sl_D YX12_terminalOf 2 (.iload_n 2) 1 3 := ⟨by decide +kernel, rfl⟩
theorem eX12_terminalOf_3 : sl_D YX12_terminalOf 3 (.aload_n 0) 1 4 := ⟨by decide +kernel, rfl⟩
theorem eX12_terminalOf_4 : sl_D YX12_terminalOf 4 (.getfield 324) 3 7 := ⟨by decide +kernel, rfl⟩
theorem eX12_terminalOf_7 : sl_B YX12_terminalOf 7 (fun o => .if_icmp .ge o) 10 28 := ⟨21, by decide +kernel, rfl, by decide⟩
theorem eX12_terminalOf_10 : sl_D YX12_terminalOf 10 (.aload_n 0) 1 11 := ⟨by decide +kernel, rfl⟩
theorem eX12_terminalOf_11 : sl_D YX12_terminalOf 11 (.getfield 26) 3 14 := ⟨by decide +kernel, rfl⟩
theorem eX12_terminalOf_14 : sl_D YX12_terminalOf 14 (.iload_n 2) 1 15 := ⟨by decide +kernel, rfl⟩
theorem eX12_terminalOf_15 : sl_D YX12_terminalOf 15 (.iaload) 1 16 := ⟨by decide +kernel, rfl⟩
theorem eX12_terminalOf_16 : sl_D YX12_terminalOf 16 (.iload_n 1) 1 17 := ⟨by decide +kernel, rfl⟩
theorem eX12_terminalOf_17 : sl_B YX12_terminalOf 17 (fun o => .if_icmp .ne o) 20 22 := ⟨5, by decide +kernel, rfl, by decide⟩
theorem eX12_terminalOf_20 : sl_D YX12_terminalOf 20 (.iload_n 2) 1 21 := ⟨by decide +kernel, rfl⟩
theorem eX12_terminalOf_21 : sl_D YX12_terminalOf 21 (.ireturn) 1 22 := ⟨by decide +kernel, rfl⟩
theorem eX12_terminalOf_22 : sl_D YX12_terminalOf 22 (.iinc 2 1) 3 25 := ⟨by decide +kernel, rfl⟩
theorem eX12_terminalOf_25 : sl_B YX12_terminalOf 25 (fun o => .goto o) 28 2 := ⟨-23, by decide +kernel, rfl, by decide⟩
theorem eX12_terminalOf_28 : sl_D YX12_terminalOf 28 (.iconst (-1)) 1 29 := ⟨by decide +kernel, rfl⟩
theorem eX12_terminalOf_29 : sl_D YX12_terminalOf 29 (.ireturn) 1 30 := ⟨by decide +kernel, rfl⟩
theorem eX12_isDigit_0 : sl_D YX12_isDigit 0 (.aload_n 0) 1 1 := ⟨by decide +kernel, rfl⟩
theorem eX12_isDigit_1 : sl_D YX12_isDigit 1 (.iload_n 1) 1 2 := ⟨by decide +kernel, rfl⟩
theorem eX12_isDigit_2 : sl_D YX12_isDigit 2 (.invokevirtual 171) 3 5 := ⟨by decide +kernel, rfl⟩
theorem eX12_isDigit_5 : sl_D YX12_isDigit 5 (.bipush 48) 2 7 := ⟨by decide +kernel, rfl⟩
theorem eX12_isDigit_7 : sl_D YX12_isDigit 7 (.bipush 57) 2 9 := ⟨by decide +kernel, rfl⟩
theorem eX12_isDigit_9 : sl_D YX12_isDigit 9 (.invokestatic 180) 3 12 := ⟨by decide +kernel, rfl⟩
theorem eX12_isDigit_12 : sl_D YX12_isDigit 12 (.ireturn) 1 13 := ⟨by decide +kernel, rfl⟩
theorem eX12_scans_0 : sl_D YX12_scans 0 (.aload_n 0) 1 1 := ⟨by decide +kernel, rfl⟩
theorem eX12_scans_1 : sl_D YX12_scans 1 (.iconst 0) 1 2 := ⟨by decide +kernel, rfl⟩
theorem eX12_scans_2 : sl_D YX12_scans 2 (.putfield 417) 3 5 := ⟨by decide +kernel, rfl⟩
theorem eX12_scans_5 : sl_D YX12_scans 5 (.iconst 0) 1 6 := ⟨by decide +kernel, rfl⟩
theorem eX12_scans_6 : sl_D YX12_scans 6 (.istore_n 1) 1 7 := ⟨by decide +kernel, rfl⟩
theorem eX12_scans_7 : sl_D YX12_scans 7 (.aload_n 0) 1 8 := ⟨by decide +kernel, rfl⟩
theorem eX12_scans_8 : sl_D YX12_scans 8 (.iload_n 1) 1 9 := ⟨by decide +kernel, rfl⟩
theorem eX12_scans_9 : sl_D YX12_scans 9 (.invokevirtual 171) 3 12 := ⟨by decide +kernel, rfl⟩
theorem eX12_scans_12 : sl_D YX12_scans 12 (.bipush 32) 2 14 := ⟨by decide +kernel, rfl⟩
theorem eX12_scans_14 : sl_B YX12_scans 14 (fun o => .if_icmp .ne o) 17 23 := ⟨9, by decide +kernel, rfl, by decide⟩
theorem eX12_scans_17 : sl_D YX12_scans 17 (.iinc 1 1) 3 20 := ⟨by decide +kernel, rfl⟩
theorem eX12_scans_20 : sl_B YX12_scans 20 (fun o => .goto o) 23 7 := ⟨-13, by decide +kernel, rfl, by decide⟩
theorem eX12_scans_23 : sl_D YX12_scans 23 (.aload_n 0) 1 24 := ⟨by decide +kernel, rfl⟩
theorem eX12_scans_24 : sl_D YX12_scans 24 (.iload_n 1) 1 25 := ⟨by decide +kernel, rfl⟩
theorem eX12_scans_25 : sl_D YX12_scans 25 (.invokevirtual 171) 3 28 := ⟨by decide +kernel, rfl⟩
theorem eX12_scans_28 : sl_D YX12_scans 28 (.iconst (-1)) 1 29 := ⟨by decide +kernel, rfl⟩
theorem eX12_scans_29 : sl_B YX12_scans 29 (fun o => .if_icmp .ne o) 32 35 := ⟨6, by decide +kernel, rfl, by decide⟩
theorem eX12_scans_32 : sl_B YX12_scans 32 (fun o => .goto o) 35 143 := ⟨111, by decide +kernel, rfl, by decide⟩
theorem eX12_scans_35 : sl_D YX12_scans 35 (.aload_n 0) 1 36 := ⟨by decide +kernel, rfl⟩
theorem eX12_scans_36 : sl_D YX12_scans 36 (.getfield 417) 3 39 := ⟨by decide +kernel, rfl⟩
theorem eX12_scans_39 : sl_D YX12_scans 39 (.bipush 60) 2 41 := ⟨by decide +kernel, rfl⟩
theorem eX12_scans_41 : sl_B YX12_scans 41 (fun o => .if_icmp .ne o) 44 46 := ⟨5, by decide +kernel, rfl, by decide⟩
theorem eX12_scans_44 : sl_D YX12_scans 44 (.iload_n 1) 1 45 := ⟨by decide +kernel, rfl⟩
theorem eX12_scans_45 : sl_D YX12_scans 45 (.ireturn) 1 46 := ⟨by decide +kernel, rfl⟩
theorem eX12_scans_46 : sl_D YX12_scans 46 (.aload_n 0) 1 47 := ⟨by decide +kernel, rfl⟩
theorem eX12_scans_47 : sl_D YX12_scans 47 (.getfield 89) 3 50 := ⟨by decide +kernel, rfl⟩
theorem eX12_scans_50 : sl_D YX12_scans 50 (.aload_n 0) 1 51 := ⟨by decide +kernel, rfl⟩
theorem eX12_scans_51 : sl_D YX12_scans 51 (.getfield 417) 3 54 := ⟨by decide +kernel, rfl⟩
theorem eX12_scans_54 : sl_D YX12_scans 54 (.iload_n 1) 1 55 := ⟨by decide +kernel, rfl⟩
theorem eX12_scans_55 : sl_D YX12_scans 55 (.iastore) 1 56 := ⟨by decide +kernel, rfl⟩
theorem eX12_scans_56 : sl_D YX12_scans 56 (.aload_n 0) 1 57 := ⟨by decide +kernel, rfl⟩
theorem eX12_scans_57 : sl_D YX12_scans 57 (.iload_n 1) 1 58 := ⟨by decide +kernel, rfl⟩
theorem eX12_scans_58 : sl_D YX12_scans 58 (.invokevirtual 420) 3 61 := ⟨by decide +kernel, rfl⟩
theorem eX12_scans_61 : sl_B YX12_scans 61 (fun o => .ifCond .eq o) 64 72 := ⟨11, by decide +kernel, rfl, by decide⟩
theorem eX12_scans_64 : sl_D YX12_scans 64 (.aload_n 0) 1 65 := ⟨by decide +kernel, rfl⟩
theorem eX12_scans_65 : sl_D YX12_scans 65 (.iload_n 1) 1 66 := ⟨by decide +kernel, rfl⟩
theorem eX12_scans_66 : sl_D YX12_scans 66 (.invokevirtual 423) 3 69 := ⟨by decide +kernel, rfl⟩
theorem eX12_scans_69 : sl_B YX12_scans 69 (fun o => .goto o) 72 90 := ⟨21, by decide +kernel, rfl, by decide⟩
theorem eX12_scans_72 : sl_D YX12_scans 72 (.aload_n 0) 1 73 := ⟨by decide +kernel, rfl⟩
theorem eX12_scans_73 : sl_D YX12_scans 73 (.iload_n 1) 1 74 := ⟨by decide +kernel, rfl⟩
theorem eX12_scans_74 : sl_D YX12_scans 74 (.invokevirtual 171) 3 77 := ⟨by decide +kernel, rfl⟩
theorem eX12_scans_77 : sl_D YX12_scans 77 (.invokestatic 187) 3 80 := ⟨by decide +kernel, rfl⟩
theorem eX12_scans_80 : sl_B YX12_scans 80 (fun o => .ifCond .eq o) 83 89 := ⟨9, by decide +kernel, rfl, by decide⟩
theorem eX12_scans_83 : sl_D YX12_scans 83 (.iload_n 1) 1 84 := ⟨by decide +kernel, rfl⟩
theorem eX12_scans_84 : sl_D YX12_scans 84 (.iconst 1) 1 85 := ⟨by decide +kernel, rfl⟩
theorem eX12_scans_85 : sl_D YX12_scans 85 (.iadd) 1 86 := ⟨by decide +kernel, rfl⟩
theorem eX12_scans_86 : sl_B YX12_scans 86 (fun o => .goto o) 89 90 := ⟨4, by decide +kernel, rfl, by decide⟩
theorem eX12_scans_89 : sl_D YX12_scans 89 (.iconst (-1)) 1 90 := ⟨by decide +kernel, rfl⟩
theorem eX12_scans_90 : sl_D YX12_scans 90 (.istore_n 2) 1 91 := ⟨by decide +kernel, rfl⟩
theorem eX12_scans_91 : sl_D YX12_scans 91 (.iload_n 2) 1 92 := ⟨by decide +kernel, rfl⟩
theorem eX12_scans_92 : sl_D YX12_scans 92 (.iconst (-1)) 1 93 := ⟨by decide +kernel, rfl⟩
theorem eX12_scans_93 : sl_B YX12_scans 93 (fun o => .if_icmp .ne o) 96 98 := ⟨5, by decide +kernel, rfl, by decide⟩
theorem eX12_scans_96 : sl_D YX12_scans 96 (.iload_n 1) 1 97 := ⟨by decide +kernel, rfl⟩
theorem eX12_scans_97 : sl_D YX12_scans 97 (.ireturn) 1 98 := ⟨by decide +kernel, rfl⟩
theorem eX12_scans_98 : sl_D YX12_scans 98 (.aload_n 0) 1 99 := ⟨by decide +kernel, rfl⟩
theorem eX12_scans_99 : sl_D YX12_scans 99 (.getfield 86) 3 102 := ⟨by decide +kernel, rfl⟩
theorem eX12_scans_102 : sl_D YX12_scans 102 (.aload_n 0) 1 103 := ⟨by decide +kernel, rfl⟩
theorem eX12_scans_103 : sl_D YX12_scans 103 (.getfield 417) 3 106 := ⟨by decide +kernel, rfl⟩
theorem eX12_scans_106 : sl_D YX12_scans 106 (.aload_n 0) 1 107 := ⟨by decide +kernel, rfl⟩
theorem eX12_scans_107 : sl_D YX12_scans 107 (.aload_n 0) 1 108 := ⟨by decide +kernel, rfl⟩
theorem eX12_scans_108 : sl_D YX12_scans 108 (.iload_n 1) 1 109 := ⟨by decide +kernel, rfl⟩
theorem eX12_scans_109 : sl_D YX12_scans 109 (.invokevirtual 420) 3 112 := ⟨by decide +kernel, rfl⟩
theorem eX12_scans_112 : sl_B YX12_scans 112 (fun o => .ifCond .eq o) 115 119 := ⟨7, by decide +kernel, rfl, by decide⟩
theorem eX12_scans_115 : sl_D YX12_scans 115 (.iconst 0) 1 116 := ⟨by decide +kernel, rfl⟩
theorem eX12_scans_116 : sl_B YX12_scans 116 (fun o => .goto o) 119 124 := ⟨8, by decide +kernel, rfl, by decide⟩
theorem eX12_scans_119 : sl_D YX12_scans 119 (.aload_n 0) 1 120 := ⟨by decide +kernel, rfl⟩
theorem eX12_scans_120 : sl_D YX12_scans 120 (.iload_n 1) 1 121 := ⟨by decide +kernel, rfl⟩
theorem eX12_scans_121 : sl_D YX12_scans 121 (.invokevirtual 171) 3 124 := ⟨by decide +kernel, rfl⟩
theorem eX12_scans_124 : sl_D YX12_scans 124 (.invokevirtual 426) 3 127 := ⟨by decide +kernel, rfl⟩
theorem eX12_scans_127 : sl_D YX12_scans 127 (.iastore) 1 128 := ⟨by decide +kernel, rfl⟩
theorem eX12_scans_128 : sl_D YX12_scans 128 (.aload_n 0) 1 129 := ⟨by decide +kernel, rfl⟩
theorem eX12_scans_129 : sl_D YX12_scans 129 (.dup) 1 130 := ⟨by decide +kernel, rfl⟩
theorem eX12_scans_130 : sl_D YX12_scans 130 (.getfield 417) 3 133 := ⟨by decide +kernel, rfl⟩
theorem eX12_scans_133 : sl_D YX12_scans 133 (.iconst 1) 1 134 := ⟨by decide +kernel, rfl⟩
theorem eX12_scans_134 : sl_D YX12_scans 134 (.iadd) 1 135 := ⟨by decide +kernel, rfl⟩
theorem eX12_scans_135 : sl_D YX12_scans 135 (.putfield 417) 3 138 := ⟨by decide +kernel, rfl⟩
theorem eX12_scans_138 : sl_D YX12_scans 138 (.iload_n 2) 1 139 := ⟨by decide +kernel, rfl⟩
theorem eX12_scans_139 : sl_D YX12_scans 139 (.istore_n 1) 1 140 := ⟨by decide +kernel, rfl⟩
theorem eX12_scans_140 : sl_B YX12_scans 140 (fun o => .goto o) 143 7 := ⟨-133, by decide +kernel, rfl, by decide⟩
theorem eX12_scans_143 : sl_D YX12_scans 143 (.aload_n 0) 1 144 := ⟨by decide +kernel, rfl⟩
theorem eX12_scans_144 : sl_D YX12_scans 144 (.getfield 86) 3 147 := ⟨by decide +kernel, rfl⟩
theorem eX12_scans_147 : sl_D YX12_scans 147 (.aload_n 0) 1 148 := ⟨by decide +kernel, rfl⟩
theorem eX12_scans_148 : sl_D YX12_scans 148 (.getfield 417) 3 151 := ⟨by decide +kernel, rfl⟩
theorem eX12_scans_151 : sl_D YX12_scans 151 (.aload_n 0) 1 152 := ⟨by decide +kernel, rfl⟩
theorem eX12_scans_152 : sl_D YX12_scans 152 (.getfield 324) 3 155 := ⟨by decide +kernel, rfl⟩
theorem eX12_scans_155 : sl_D YX12_scans 155 (.iastore) 1 156 := ⟨by decide +kernel, rfl⟩
theorem eX12_scans_156 : sl_D YX12_scans 156 (.aload_n 0) 1 157 := ⟨by decide +kernel, rfl⟩
theorem eX12_scans_157 : sl_D YX12_scans 157 (.getfield 89) 3 160 := ⟨by decide +kernel, rfl⟩
theorem eX12_scans_160 : sl_D YX12_scans 160 (.aload_n 0) 1 161 := ⟨by decide +kernel, rfl⟩
theorem eX12_scans_161 : sl_D YX12_scans 161 (.getfield 417) 3 164 := ⟨by decide +kernel, rfl⟩
theorem eX12_scans_164 : sl_D YX12_scans 164 (.aload_n 0) 1 165 := ⟨by decide +kernel, rfl⟩
theorem eX12_scans_165 : sl_D YX12_scans 165 (.getfield 162) 3 168 := ⟨by decide +kernel, rfl⟩
theorem eX12_scans_168 : sl_D YX12_scans 168 (.iastore) 1 169 := ⟨by decide +kernel, rfl⟩
theorem eX12_scans_169 : sl_D YX12_scans 169 (.iconst (-1)) 1 170 := ⟨by decide +kernel, rfl⟩
theorem eX12_scans_170 : sl_D YX12_scans 170 (.ireturn) 1 171 := ⟨by decide +kernel, rfl⟩
theorem eX12_scansNumber_0 : sl_D YX12_scansNumber 0 (.iload_n 1) 1 1 := ⟨by decide +kernel, rfl⟩
theorem eX12_scansNumber_1 : sl_D YX12_scansNumber 1 (.istore_n 2) 1 2 := ⟨by decide +kernel, rfl⟩
theorem eX12_scansNumber_2 : sl_D YX12_scansNumber 2 (.iconst 0) 1 3 := ⟨by decide +kernel, rfl⟩
theorem eX12_scansNumber_3 : sl_D YX12_scansNumber 3 (.istore_n 3) 1 4 := ⟨by decide +kernel, rfl⟩
theorem eX12_scansNumber_4 : sl_D YX12_scansNumber 4 (.aload_n 0) 1 5 := ⟨by decide +kernel, rfl⟩
theorem eX12_scansNumber_5 : sl_D YX12_scansNumber 5 (.iload_n 2) 1 6 := ⟨by decide +kernel, rfl⟩
theorem eX12_scansNumber_6 : sl_D YX12_scansNumber 6 (.invokevirtual 420) 3 9 := ⟨by decide +kernel, rfl⟩
theorem eX12_scansNumber_9 : sl_B YX12_scansNumber 9 (fun o => .ifCond .eq o) 12 40 := ⟨31, by decide +kernel, rfl, by decide⟩
theorem eX12_scansNumber_12 : sl_D YX12_scansNumber 12 (.iload_n 2) 1 13 := ⟨by decide +kernel, rfl⟩
theorem eX12_scansNumber_13 : sl_D YX12_scansNumber 13 (.iload_n 1) 1 14 := ⟨by decide +kernel, rfl⟩
theorem eX12_scansNumber_14 : sl_D YX12_scansNumber 14 (.isub) 1 15 := ⟨by decide +kernel, rfl⟩
theorem eX12_scansNumber_15 : sl_D YX12_scansNumber 15 (.bipush 7) 2 17 := ⟨by decide +kernel, rfl⟩
theorem eX12_scansNumber_17 : sl_B YX12_scansNumber 17 (fun o => .if_icmp .ge o) 20 34 := ⟨17, by decide +kernel, rfl, by decide⟩
theorem eX12_scansNumber_20 : sl_D YX12_scansNumber 20 (.bipush 10) 2 22 := ⟨by decide +kernel, rfl⟩
theorem eX12_scansNumber_22 : sl_D YX12_scansNumber 22 (.iload_n 3) 1 23 := ⟨by decide +kernel, rfl⟩
theorem eX12_scansNumber_23 : sl_D YX12_scansNumber 23 (.imul) 1 24 := ⟨by decide +kernel, rfl⟩
theorem eX12_scansNumber_24 : sl_D YX12_scansNumber 24 (.aload_n 0) 1 25 := ⟨by decide +kernel, rfl⟩
theorem eX12_scansNumber_25 : sl_D YX12_scansNumber 25 (.iload_n 2) 1 26 := ⟨by decide +kernel, rfl⟩
theorem eX12_scansNumber_26 : sl_D YX12_scansNumber 26 (.invokevirtual 171) 3 29 := ⟨by decide +kernel, rfl⟩
theorem eX12_scansNumber_29 : sl_D YX12_scansNumber 29 (.iadd) 1 30 := ⟨by decide +kernel, rfl⟩
theorem eX12_scansNumber_30 : sl_D YX12_scansNumber 30 (.bipush 48) 2 32 := ⟨by decide +kernel, rfl⟩
theorem eX12_scansNumber_32 : sl_D YX12_scansNumber 32 (.isub) 1 33 := ⟨by decide +kernel, rfl⟩
theorem eX12_scansNumber_33 : sl_D YX12_scansNumber 33 (.istore_n 3) 1 34 := ⟨by decide +kernel, rfl⟩
theorem eX12_scansNumber_34 : sl_D YX12_scansNumber 34 (.iinc 2 1) 3 37 := ⟨by decide +kernel, rfl⟩
theorem eX12_scansNumber_37 : sl_B YX12_scansNumber 37 (fun o => .goto o) 40 4 := ⟨-33, by decide +kernel, rfl, by decide⟩
theorem eX12_scansNumber_40 : sl_D YX12_scansNumber 40 (.iload_n 2) 1 41 := ⟨by decide +kernel, rfl⟩
theorem eX12_scansNumber_41 : sl_D YX12_scansNumber 41 (.iload_n 1) 1 42 := ⟨by decide +kernel, rfl⟩
theorem eX12_scansNumber_42 : sl_D YX12_scansNumber 42 (.isub) 1 43 := ⟨by decide +kernel, rfl⟩
theorem eX12_scansNumber_43 : sl_D YX12_scansNumber 43 (.iconst 4) 1 44 := ⟨by decide +kernel, rfl⟩
theorem eX12_scansNumber_44 : sl_B YX12_scansNumber 44 (fun o => .if_icmp .le o) 47 49 := ⟨5, by decide +kernel, rfl, by decide⟩
theorem eX12_scansNumber_47 : sl_D YX12_scansNumber 47 (.iconst (-1)) 1 48 := ⟨by decide +kernel, rfl⟩
theorem eX12_scansNumber_48 : sl_D YX12_scansNumber 48 (.ireturn) 1 49 := ⟨by decide +kernel, rfl⟩
theorem eX12_scansNumber_49 : sl_D YX12_scansNumber 49 (.aload_n 0) 1 50 := ⟨by decide +kernel, rfl⟩
theorem eX12_scansNumber_50 : sl_D YX12_scansNumber 50 (.getfield 92) 3 53 := ⟨by decide +kernel, rfl⟩
theorem eX12_scansNumber_53 : sl_D YX12_scansNumber 53 (.aload_n 0) 1 54 := ⟨by decide +kernel, rfl⟩
theorem eX12_scansNumber_54 : sl_D YX12_scansNumber 54 (.getfield 417) 3 57 := ⟨by decide +kernel, rfl⟩
theorem eX12_scansNumber_57 : sl_D YX12_scansNumber 57 (.iload_n 3) 1 58 := ⟨by decide +kernel, rfl⟩
theorem eX12_scansNumber_58 : sl_D YX12_scansNumber 58 (.iastore) 1 59 := ⟨by decide +kernel, rfl⟩
theorem eX12_scansNumber_59 : sl_D YX12_scansNumber 59 (.aload_n 0) 1 60 := ⟨by decide +kernel, rfl⟩
theorem eX12_scansNumber_60 : sl_D YX12_scansNumber 60 (.getfield 95) 3 63 := ⟨by decide +kernel, rfl⟩
theorem eX12_scansNumber_63 : sl_D YX12_scansNumber 63 (.aload_n 0) 1 64 := ⟨by decide +kernel, rfl⟩
theorem eX12_scansNumber_64 : sl_D YX12_scansNumber 64 (.getfield 417) 3 67 := ⟨by decide +kernel, rfl⟩
theorem eX12_scansNumber_67 : sl_D YX12_scansNumber 67 (.aload_n 0) 1 68 := ⟨by decide +kernel, rfl⟩
theorem eX12_scansNumber_68 : sl_D YX12_scansNumber 68 (.iload_n 2) 1 69 := ⟨by decide +kernel, rfl⟩
theorem eX12_scansNumber_69 : sl_D YX12_scansNumber 69 (.invokevirtual 171) 3 72 := ⟨by decide +kernel, rfl⟩
theorem eX12_scansNumber_72 : sl_D YX12_scansNumber 72 (.bipush 46) 2 74 := ⟨by decide +kernel, rfl⟩
theorem eX12_scansNumber_74 : sl_B YX12_scansNumber 74 (fun o => .if_icmp .ne o) 77 81 := ⟨7, by decide +kernel, rfl, by decide⟩
theorem eX12_scansNumber_77 : sl_D YX12_scansNumber 77 (.iconst 1) 1 78 := ⟨by decide +kernel, rfl⟩
theorem eX12_scansNumber_78 : sl_B YX12_scansNumber 78 (fun o => .goto o) 81 82 := ⟨4, by decide +kernel, rfl, by decide⟩
theorem eX12_scansNumber_81 : sl_D YX12_scansNumber 81 (.iconst 0) 1 82 := ⟨by decide +kernel, rfl⟩
theorem eX12_scansNumber_82 : sl_D YX12_scansNumber 82 (.bastore) 1 83 := ⟨by decide +kernel, rfl⟩
theorem eX12_scansNumber_83 : sl_D YX12_scansNumber 83 (.aload_n 0) 1 84 := ⟨by decide +kernel, rfl⟩
theorem eX12_scansNumber_84 : sl_D YX12_scansNumber 84 (.getfield 95) 3 87 := ⟨by decide +kernel, rfl⟩
theorem eX12_scansNumber_87 : sl_D YX12_scansNumber 87 (.aload_n 0) 1 88 := ⟨by decide +kernel, rfl⟩
theorem eX12_scansNumber_88 : sl_D YX12_scansNumber 88 (.getfield 417) 3 91 := ⟨by decide +kernel, rfl⟩
theorem eX12_scansNumber_91 : sl_D YX12_scansNumber 91 (.baload) 1 92 := ⟨by decide +kernel, rfl⟩
theorem eX12_scansNumber_92 : sl_B YX12_scansNumber 92 (fun o => .ifCond .ne o) 95 97 := ⟨5, by decide +kernel, rfl, by decide⟩
theorem eX12_scansNumber_95 : sl_D YX12_scansNumber 95 (.iload_n 2) 1 96 := ⟨by decide +kernel, rfl⟩
theorem eX12_scansNumber_96 : sl_D YX12_scansNumber 96 (.ireturn) 1 97 := ⟨by decide +kernel, rfl⟩
theorem eX12_scansNumber_97 : sl_D YX12_scansNumber 97 (.iload_n 2) 1 98 := ⟨by decide +kernel, rfl⟩
theorem eX12_scansNumber_98 : sl_D YX12_scansNumber 98 (.istore 4) 2 100 := ⟨by decide +kernel, rfl⟩
theorem eX12_scansNumber_100 : sl_D YX12_scansNumber 100 (.iinc 2 1) 3 103 := ⟨by decide +kernel, rfl⟩
theorem eX12_scansNumber_103 : sl_D YX12_scansNumber 103 (.aload_n 0) 1 104 := ⟨by decide +kernel, rfl⟩
theorem eX12_scansNumber_104 : sl_D YX12_scansNumber 104 (.iload_n 2) 1 105 := ⟨by decide +kernel, rfl⟩
theorem eX12_scansNumber_105 : sl_D YX12_scansNumber 105 (.invokevirtual 420) 3 108 := ⟨by decide +kernel, rfl⟩
theorem eX12_scansNumber_108 : sl_B YX12_scansNumber 108 (fun o => .ifCond .eq o) 111 139 := ⟨31, by decide +kernel, rfl, by decide⟩
theorem eX12_scansNumber_111 : sl_D YX12_scansNumber 111 (.iload_n 2) 1 112 := ⟨by decide +kernel, rfl⟩
theorem eX12_scansNumber_112 : sl_D YX12_scansNumber 112 (.iload 4) 2 114 := ⟨by decide +kernel, rfl⟩
theorem eX12_scansNumber_114 : sl_D YX12_scansNumber 114 (.isub) 1 115 := ⟨by decide +kernel, rfl⟩
theorem eX12_scansNumber_115 : sl_D YX12_scansNumber 115 (.iconst 4) 1 116 := ⟨by decide +kernel, rfl⟩
theorem eX12_scansNumber_116 : sl_B YX12_scansNumber 116 (fun o => .if_icmp .ge o) 119 133 := ⟨17, by decide +kernel, rfl, by decide⟩
theorem eX12_scansNumber_119 : sl_D YX12_scansNumber 119 (.bipush 10) 2 121 := ⟨by decide +kernel, rfl⟩
theorem eX12_scansNumber_121 : sl_D YX12_scansNumber 121 (.iload_n 3) 1 122 := ⟨by decide +kernel, rfl⟩
theorem eX12_scansNumber_122 : sl_D YX12_scansNumber 122 (.imul) 1 123 := ⟨by decide +kernel, rfl⟩
theorem eX12_scansNumber_123 : sl_D YX12_scansNumber 123 (.aload_n 0) 1 124 := ⟨by decide +kernel, rfl⟩
theorem eX12_scansNumber_124 : sl_D YX12_scansNumber 124 (.iload_n 2) 1 125 := ⟨by decide +kernel, rfl⟩
theorem eX12_scansNumber_125 : sl_D YX12_scansNumber 125 (.invokevirtual 171) 3 128 := ⟨by decide +kernel, rfl⟩
theorem eX12_scansNumber_128 : sl_D YX12_scansNumber 128 (.iadd) 1 129 := ⟨by decide +kernel, rfl⟩
theorem eX12_scansNumber_129 : sl_D YX12_scansNumber 129 (.bipush 48) 2 131 := ⟨by decide +kernel, rfl⟩
theorem eX12_scansNumber_131 : sl_D YX12_scansNumber 131 (.isub) 1 132 := ⟨by decide +kernel, rfl⟩
theorem eX12_scansNumber_132 : sl_D YX12_scansNumber 132 (.istore_n 3) 1 133 := ⟨by decide +kernel, rfl⟩
theorem eX12_scansNumber_133 : sl_D YX12_scansNumber 133 (.iinc 2 1) 3 136 := ⟨by decide +kernel, rfl⟩
theorem eX12_scansNumber_136 : sl_B YX12_scansNumber 136 (fun o => .goto o) 139 103 := ⟨-33, by decide +kernel, rfl, by decide⟩
theorem eX12_scansNumber_139 : sl_D YX12_scansNumber 139 (.iload_n 2) 1 140 := ⟨by decide +kernel, rfl⟩
theorem eX12_scansNumber_140 : sl_D YX12_scansNumber 140 (.iload 4) 2 142 := ⟨by decide +kernel, rfl⟩
theorem eX12_scansNumber_142 : sl_D YX12_scansNumber 142 (.isub) 1 143 := ⟨by decide +kernel, rfl⟩
theorem eX12_scansNumber_143 : sl_D YX12_scansNumber 143 (.iconst 1) 1 144 := ⟨by decide +kernel, rfl⟩
theorem eX12_scansNumber_144 : sl_D YX12_scansNumber 144 (.isub) 1 145 := ⟨by decide +kernel, rfl⟩
theorem eX12_scansNumber_145 : sl_D YX12_scansNumber 145 (.istore 5) 2 147 := ⟨by decide +kernel, rfl⟩
theorem eX12_scansNumber_147 : sl_D YX12_scansNumber 147 (.iload 5) 2 149 := ⟨by decide +kernel, rfl⟩
theorem eX12_scansNumber_149 : sl_D YX12_scansNumber 149 (.iconst 1) 1 150 := ⟨by decide +kernel, rfl⟩
theorem eX12_scansNumber_150 : sl_D YX12_scansNumber 150 (.iconst 3) 1 151 := ⟨by decide +kernel, rfl⟩
theorem eX12_scansNumber_151 : sl_D YX12_scansNumber 151 (.invokestatic 180) 3 154 := ⟨by decide +kernel, rfl⟩
theorem eX12_scansNumber_154 : sl_B YX12_scansNumber 154 (fun o => .ifCond .ne o) 157 159 := ⟨5, by decide +kernel, rfl, by decide⟩
theorem eX12_scansNumber_157 : sl_D YX12_scansNumber 157 (.iconst (-1)) 1 158 := ⟨by decide +kernel, rfl⟩
theorem eX12_scansNumber_158 : sl_D YX12_scansNumber 158 (.ireturn) 1 159 := ⟨by decide +kernel, rfl⟩
theorem eX12_scansNumber_159 : sl_D YX12_scansNumber 159 (.aload_n 0) 1 160 := ⟨by decide +kernel, rfl⟩
theorem eX12_scansNumber_160 : sl_D YX12_scansNumber 160 (.getfield 92) 3 163 := ⟨by decide +kernel, rfl⟩
theorem eX12_scansNumber_163 : sl_D YX12_scansNumber 163 (.aload_n 0) 1 164 := ⟨by decide +kernel, rfl⟩
theorem eX12_scansNumber_164 : sl_D YX12_scansNumber 164 (.getfield 417) 3 167 := ⟨by decide +kernel, rfl⟩
theorem eX12_scansNumber_167 : sl_D YX12_scansNumber 167 (.iload_n 3) 1 168 := ⟨by decide +kernel, rfl⟩
theorem eX12_scansNumber_168 : sl_D YX12_scansNumber 168 (.i2f) 1 169 := ⟨by decide +kernel, rfl⟩
theorem eX12_scansNumber_169 : sl_D YX12_scansNumber 169 (.iload 5) 2 171 := ⟨by decide +kernel, rfl⟩
theorem eX12_scansNumber_171 : sl_D YX12_scansNumber 171 (.iconst 1) 1 172 := ⟨by decide +kernel, rfl⟩
theorem eX12_scansNumber_172 : sl_B YX12_scansNumber 172 (fun o => .if_icmp .ne o) 175 181 := ⟨9, by decide +kernel, rfl, by decide⟩
theorem eX12_scansNumber_175 : sl_D YX12_scansNumber 175 (.ldc_w 429) 3 178 := ⟨by decide +kernel, rfl⟩
theorem eX12_scansNumber_178 : sl_B YX12_scansNumber 178 (fun o => .goto o) 181 196 := ⟨18, by decide +kernel, rfl, by decide⟩
theorem eX12_scansNumber_181 : sl_D YX12_scansNumber 181 (.iload 5) 2 183 := ⟨by decide +kernel, rfl⟩
theorem eX12_scansNumber_183 : sl_D YX12_scansNumber 183 (.iconst 2) 1 184 := ⟨by decide +kernel, rfl⟩
theorem eX12_scansNumber_184 : sl_B YX12_scansNumber 184 (fun o => .if_icmp .ne o) 187 193 := ⟨9, by decide +kernel, rfl, by decide⟩
theorem eX12_scansNumber_187 : sl_D YX12_scansNumber 187 (.ldc_w 430) 3 190 := ⟨by decide +kernel, rfl⟩
theorem eX12_scansNumber_190 : sl_B YX12_scansNumber 190 (fun o => .goto o) 193 196 := ⟨6, by decide +kernel, rfl, by decide⟩
theorem eX12_scansNumber_193 : sl_D YX12_scansNumber 193 (.ldc_w 431) 3 196 := ⟨by decide +kernel, rfl⟩
theorem eX12_scansNumber_196 : sl_D YX12_scansNumber 196 (.fdiv) 1 197 := ⟨by decide +kernel, rfl⟩
theorem eX12_scansNumber_197 : sl_D YX12_scansNumber 197 (.invokestatic 432) 3 200 := ⟨by decide +kernel, rfl⟩
theorem eX12_scansNumber_200 : sl_D YX12_scansNumber 200 (.iastore) 1 201 := ⟨by decide +kernel, rfl⟩
theorem eX12_scansNumber_201 : sl_D YX12_scansNumber 201 (.iload_n 2) 1 202 := ⟨by decide +kernel, rfl⟩
theorem eX12_scansNumber_202 : sl_D YX12_scansNumber 202 (.ireturn) 1 203 := ⟨by decide +kernel, rfl⟩
theorem eX12_relates__0 : sl_D YX12_relates_ 0 (.iload_n 3) 1 1 := ⟨by decide +kernel, rfl⟩
theorem eX12_relates__1 : sl_B YX12_relates_ 1 (fun o => .ifCond .ne o) 4 11 := ⟨10, by decide +kernel, rfl, by decide⟩
theorem eX12_relates__4 : sl_D YX12_relates_ 4 (.aload_n 0) 1 5 := ⟨by decide +kernel, rfl⟩
theorem eX12_relates__5 : sl_D YX12_relates_ 5 (.iload_n 1) 1 6 := ⟨by decide +kernel, rfl⟩
theorem eX12_relates__6 : sl_D YX12_relates_ 6 (.iload_n 2) 1 7 := ⟨by decide +kernel, rfl⟩
theorem eX12_relates__7 : sl_D YX12_relates_ 7 (.invokevirtual 371) 3 10 := ⟨by decide +kernel, rfl⟩
theorem eX12_relates__10 : sl_D YX12_relates_ 10 (.ireturn) 1 11 := ⟨by decide +kernel, rfl⟩
theorem eX12_relates__11 : sl_D YX12_relates_ 11 (.aload_n 0) 1 12 := ⟨by decide +kernel, rfl⟩
theorem eX12_relates__12 : sl_D YX12_relates_ 12 (.iload_n 1) 1 13 := ⟨by decide +kernel, rfl⟩
theorem eX12_relates__13 : sl_D YX12_relates_ 13 (.invokevirtual 408) 3 16 := ⟨by decide +kernel, rfl⟩
theorem eX12_relates__16 : sl_D YX12_relates_ 16 (.istore 4) 2 18 := ⟨by decide +kernel, rfl⟩
theorem eX12_relates__18 : sl_D YX12_relates_ 18 (.aload_n 0) 1 19 := ⟨by decide +kernel, rfl⟩
theorem eX12_relates__19 : sl_D YX12_relates_ 19 (.bipush 16) 2 21 := ⟨by decide +kernel, rfl⟩
theorem eX12_relates__21 : sl_D YX12_relates_ 21 (.iload_n 2) 1 22 := ⟨by decide +kernel, rfl⟩
theorem eX12_relates__22 : sl_D YX12_relates_ 22 (.iadd) 1 23 := ⟨by decide +kernel, rfl⟩
theorem eX12_relates__23 : sl_D YX12_relates_ 23 (.invokevirtual 408) 3 26 := ⟨by decide +kernel, rfl⟩
theorem eX12_relates__26 : sl_D YX12_relates_ 26 (.istore 5) 2 28 := ⟨by decide +kernel, rfl⟩
theorem eX12_relates__28 : sl_D YX12_relates_ 28 (.iload_n 1) 1 29 := ⟨by decide +kernel, rfl⟩
theorem eX12_relates__29 : sl_D YX12_relates_ 29 (.aload_n 0) 1 30 := ⟨by decide +kernel, rfl⟩
theorem eX12_relates__30 : sl_D YX12_relates_ 30 (.getfield 324) 3 33 := ⟨by decide +kernel, rfl⟩
theorem eX12_relates__33 : sl_B YX12_relates_ 33 (fun o => .if_icmp .ne o) 36 49 := ⟨16, by decide +kernel, rfl, by decide⟩
theorem eX12_relates__36 : sl_D YX12_relates_ 36 (.iload 4) 2 38 := ⟨by decide +kernel, rfl⟩
theorem eX12_relates__38 : sl_D YX12_relates_ 38 (.iload 5) 2 40 := ⟨by decide +kernel, rfl⟩
theorem eX12_relates__40 : sl_B YX12_relates_ 40 (fun o => .if_icmp .ge o) 43 47 := ⟨7, by decide +kernel, rfl, by decide⟩
theorem eX12_relates__43 : sl_D YX12_relates_ 43 (.iconst 1) 1 44 := ⟨by decide +kernel, rfl⟩
theorem eX12_relates__44 : sl_B YX12_relates_ 44 (fun o => .goto o) 47 48 := ⟨4, by decide +kernel, rfl, by decide⟩
theorem eX12_relates__47 : sl_D YX12_relates_ 47 (.iconst 0) 1 48 := ⟨by decide +kernel, rfl⟩
theorem eX12_relates__48 : sl_D YX12_relates_ 48 (.ireturn) 1 49 := ⟨by decide +kernel, rfl⟩
theorem eX12_relates__49 : sl_D YX12_relates_ 49 (.iload_n 2) 1 50 := ⟨by decide +kernel, rfl⟩
theorem eX12_relates__50 : sl_D YX12_relates_ 50 (.aload_n 0) 1 51 := ⟨by decide +kernel, rfl⟩
theorem eX12_relates__51 : sl_D YX12_relates_ 51 (.getfield 324) 3 54 := ⟨by decide +kernel, rfl⟩
theorem eX12_relates__54 : sl_B YX12_relates_ 54 (fun o => .if_icmp .ne o) 57 70 := ⟨16, by decide +kernel, rfl, by decide⟩
