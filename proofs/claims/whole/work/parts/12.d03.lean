theorem eX11_about_70 : sl_D YX11_about 70 (.getfield 16) 3 73 := ⟨by decide +kernel, rfl⟩
theorem eX11_about_73 : sl_D YX11_about 73 (.getfield 122) 3 76 := ⟨by decide +kernel, rfl⟩
theorem eX11_about_76 : sl_D YX11_about 76 (.invokevirtual 110) 3 79 := ⟨by decide +kernel, rfl⟩
theorem eX11_about_79 : sl_D YX11_about 79 (.ireturn) 1 80 := ⟨by decide +kernel, rfl⟩
theorem eX11_about_80 : sl_D YX11_about 80 (.aload_n 0) 1 81 := ⟨by decide +kernel, rfl⟩
theorem eX11_about_81 : sl_D YX11_about 81 (.aload_n 0) 1 82 := ⟨by decide +kernel, rfl⟩
theorem eX11_about_82 : sl_D YX11_about 82 (.getfield 16) 3 85 := ⟨by decide +kernel, rfl⟩
theorem eX11_about_85 : sl_D YX11_about 85 (.getfield 125) 3 88 := ⟨by decide +kernel, rfl⟩
theorem eX11_about_88 : sl_D YX11_about 88 (.invokevirtual 110) 3 91 := ⟨by decide +kernel, rfl⟩
theorem eX11_about_91 : sl_D YX11_about 91 (.ireturn) 1 92 := ⟨by decide +kernel, rfl⟩
theorem eX11_about_92 : sl_D YX11_about 92 (.aload_n 0) 1 93 := ⟨by decide +kernel, rfl⟩
theorem eX11_about_93 : sl_D YX11_about 93 (.iconst 1) 1 94 := ⟨by decide +kernel, rfl⟩
theorem eX11_about_94 : sl_D YX11_about 94 (.invokevirtual 76) 3 97 := ⟨by decide +kernel, rfl⟩
theorem eX11_about_97 : sl_D YX11_about 97 (.ireturn) 1 98 := ⟨by decide +kernel, rfl⟩
theorem eX11_rule_0 : sl_D YX11_rule 0 (.aload_n 0) 1 1 := ⟨by decide +kernel, rfl⟩
theorem eX11_rule_1 : sl_D YX11_rule 1 (.iload_n 1) 1 2 := ⟨by decide +kernel, rfl⟩
theorem eX11_rule_2 : sl_D YX11_rule 2 (.invokevirtual 128) 3 5 := ⟨by decide +kernel, rfl⟩
theorem eX11_rule_5 : sl_B YX11_rule 5 (fun o => .ifCond .ne o) 8 14 := ⟨9, by decide +kernel, rfl, by decide⟩
theorem eX11_rule_8 : sl_D YX11_rule 8 (.aload_n 0) 1 9 := ⟨by decide +kernel, rfl⟩
theorem eX11_rule_9 : sl_D YX11_rule 9 (.iconst 1) 1 10 := ⟨by decide +kernel, rfl⟩
theorem eX11_rule_10 : sl_D YX11_rule 10 (.invokevirtual 76) 3 13 := ⟨by decide +kernel, rfl⟩
theorem eX11_rule_13 : sl_D YX11_rule 13 (.ireturn) 1 14 := ⟨by decide +kernel, rfl⟩
theorem eX11_rule_14 : sl_D YX11_rule 14 (.iload_n 2) 1 15 := ⟨by decide +kernel, rfl⟩
theorem eX11_rule_15 : decode YX11_rule.2.1 15 = .ok (.tableswitch 93 0 3 #[29, 43, 57, 71], 29) := by decide +kernel
theorem eX11_rule_44 : sl_D YX11_rule 44 (.aload_n 0) 1 45 := ⟨by decide +kernel, rfl⟩
theorem eX11_rule_45 : sl_D YX11_rule 45 (.aload_n 0) 1 46 := ⟨by decide +kernel, rfl⟩
theorem eX11_rule_46 : sl_D YX11_rule 46 (.getfield 16) 3 49 := ⟨by decide +kernel, rfl⟩
theorem eX11_rule_49 : sl_D YX11_rule 49 (.getfield 132) 3 52 := ⟨by decide +kernel, rfl⟩
theorem eX11_rule_52 : sl_D YX11_rule 52 (.iload_n 1) 1 53 := ⟨by decide +kernel, rfl⟩
theorem eX11_rule_53 : sl_D YX11_rule 53 (.iaload) 1 54 := ⟨by decide +kernel, rfl⟩
theorem eX11_rule_54 : sl_D YX11_rule 54 (.invokevirtual 110) 3 57 := ⟨by decide +kernel, rfl⟩
theorem eX11_rule_57 : sl_D YX11_rule 57 (.ireturn) 1 58 := ⟨by decide +kernel, rfl⟩
theorem eX11_rule_58 : sl_D YX11_rule 58 (.aload_n 0) 1 59 := ⟨by decide +kernel, rfl⟩
theorem eX11_rule_59 : sl_D YX11_rule 59 (.aload_n 0) 1 60 := ⟨by decide +kernel, rfl⟩
theorem eX11_rule_60 : sl_D YX11_rule 60 (.getfield 16) 3 63 := ⟨by decide +kernel, rfl⟩
theorem eX11_rule_63 : sl_D YX11_rule 63 (.getfield 136) 3 66 := ⟨by decide +kernel, rfl⟩
theorem eX11_rule_66 : sl_D YX11_rule 66 (.iload_n 1) 1 67 := ⟨by decide +kernel, rfl⟩
theorem eX11_rule_67 : sl_D YX11_rule 67 (.iaload) 1 68 := ⟨by decide +kernel, rfl⟩
theorem eX11_rule_68 : sl_D YX11_rule 68 (.invokevirtual 110) 3 71 := ⟨by decide +kernel, rfl⟩
theorem eX11_rule_71 : sl_D YX11_rule 71 (.ireturn) 1 72 := ⟨by decide +kernel, rfl⟩
theorem eX11_rule_72 : sl_D YX11_rule 72 (.aload_n 0) 1 73 := ⟨by decide +kernel, rfl⟩
theorem eX11_rule_73 : sl_D YX11_rule 73 (.aload_n 0) 1 74 := ⟨by decide +kernel, rfl⟩
theorem eX11_rule_74 : sl_D YX11_rule 74 (.getfield 16) 3 77 := ⟨by decide +kernel, rfl⟩
theorem eX11_rule_77 : sl_D YX11_rule 77 (.getfield 139) 3 80 := ⟨by decide +kernel, rfl⟩
theorem eX11_rule_80 : sl_D YX11_rule 80 (.iload_n 1) 1 81 := ⟨by decide +kernel, rfl⟩
theorem eX11_rule_81 : sl_D YX11_rule 81 (.iaload) 1 82 := ⟨by decide +kernel, rfl⟩
theorem eX11_rule_82 : sl_D YX11_rule 82 (.invokevirtual 110) 3 85 := ⟨by decide +kernel, rfl⟩
theorem eX11_rule_85 : sl_D YX11_rule 85 (.ireturn) 1 86 := ⟨by decide +kernel, rfl⟩
theorem eX11_rule_86 : sl_D YX11_rule 86 (.aload_n 0) 1 87 := ⟨by decide +kernel, rfl⟩
theorem eX11_rule_87 : sl_D YX11_rule 87 (.aload_n 0) 1 88 := ⟨by decide +kernel, rfl⟩
theorem eX11_rule_88 : sl_D YX11_rule 88 (.getfield 16) 3 91 := ⟨by decide +kernel, rfl⟩
theorem eX11_rule_91 : sl_D YX11_rule 91 (.getfield 142) 3 94 := ⟨by decide +kernel, rfl⟩
theorem eX11_rule_94 : sl_D YX11_rule 94 (.iload_n 1) 1 95 := ⟨by decide +kernel, rfl⟩
theorem eX11_rule_95 : sl_D YX11_rule 95 (.baload) 1 96 := ⟨by decide +kernel, rfl⟩
theorem eX11_rule_96 : sl_B YX11_rule 96 (fun o => .ifCond .eq o) 99 103 := ⟨7, by decide +kernel, rfl, by decide⟩
theorem eX11_rule_99 : sl_D YX11_rule 99 (.iconst 1) 1 100 := ⟨by decide +kernel, rfl⟩
theorem eX11_rule_100 : sl_B YX11_rule 100 (fun o => .goto o) 103 104 := ⟨4, by decide +kernel, rfl, by decide⟩
theorem eX11_rule_103 : sl_D YX11_rule 103 (.iconst 0) 1 104 := ⟨by decide +kernel, rfl⟩
theorem eX11_rule_104 : sl_D YX11_rule 104 (.invokevirtual 110) 3 107 := ⟨by decide +kernel, rfl⟩
theorem eX11_rule_107 : sl_D YX11_rule 107 (.ireturn) 1 108 := ⟨by decide +kernel, rfl⟩
theorem eX11_rule_108 : sl_D YX11_rule 108 (.aload_n 0) 1 109 := ⟨by decide +kernel, rfl⟩
theorem eX11_rule_109 : sl_D YX11_rule 109 (.iconst 1) 1 110 := ⟨by decide +kernel, rfl⟩
theorem eX11_rule_110 : sl_D YX11_rule 110 (.invokevirtual 76) 3 113 := ⟨by decide +kernel, rfl⟩
theorem eX11_rule_113 : sl_D YX11_rule 113 (.ireturn) 1 114 := ⟨by decide +kernel, rfl⟩
theorem eX11_item_0 : sl_D YX11_item 0 (.aload_n 0) 1 1 := ⟨by decide +kernel, rfl⟩
theorem eX11_item_1 : sl_D YX11_item 1 (.iload_n 1) 1 2 := ⟨by decide +kernel, rfl⟩
theorem eX11_item_2 : sl_D YX11_item 2 (.invokevirtual 128) 3 5 := ⟨by decide +kernel, rfl⟩
theorem eX11_item_5 : sl_B YX11_item 5 (fun o => .ifCond .eq o) 8 25 := ⟨20, by decide +kernel, rfl, by decide⟩
theorem eX11_item_8 : sl_D YX11_item 8 (.iload_n 2) 1 9 := ⟨by decide +kernel, rfl⟩
theorem eX11_item_9 : sl_B YX11_item 9 (fun o => .ifCond .lt o) 12 25 := ⟨16, by decide +kernel, rfl, by decide⟩
theorem eX11_item_12 : sl_D YX11_item 12 (.iload_n 2) 1 13 := ⟨by decide +kernel, rfl⟩
theorem eX11_item_13 : sl_D YX11_item 13 (.aload_n 0) 1 14 := ⟨by decide +kernel, rfl⟩
theorem eX11_item_14 : sl_D YX11_item 14 (.getfield 16) 3 17 := ⟨by decide +kernel, rfl⟩
theorem eX11_item_17 : sl_D YX11_item 17 (.getfield 136) 3 20 := ⟨by decide +kernel, rfl⟩
theorem eX11_item_20 : sl_D YX11_item 20 (.iload_n 1) 1 21 := ⟨by decide +kernel, rfl⟩
theorem eX11_item_21 : sl_D YX11_item 21 (.iaload) 1 22 := ⟨by decide +kernel, rfl⟩
theorem eX11_item_22 : sl_B YX11_item 22 (fun o => .if_icmp .lt o) 25 31 := ⟨9, by decide +kernel, rfl, by decide⟩
theorem eX11_item_25 : sl_D YX11_item 25 (.aload_n 0) 1 26 := ⟨by decide +kernel, rfl⟩
theorem eX11_item_26 : sl_D YX11_item 26 (.iconst 1) 1 27 := ⟨by decide +kernel, rfl⟩
theorem eX11_item_27 : sl_D YX11_item 27 (.invokevirtual 76) 3 30 := ⟨by decide +kernel, rfl⟩
theorem eX11_item_30 : sl_D YX11_item 30 (.ireturn) 1 31 := ⟨by decide +kernel, rfl⟩
theorem eX11_item_31 : sl_D YX11_item 31 (.aload_n 0) 1 32 := ⟨by decide +kernel, rfl⟩
theorem eX11_item_32 : sl_D YX11_item 32 (.aload_n 0) 1 33 := ⟨by decide +kernel, rfl⟩
theorem eX11_item_33 : sl_D YX11_item 33 (.getfield 16) 3 36 := ⟨by decide +kernel, rfl⟩
theorem eX11_item_36 : sl_D YX11_item 36 (.iload_n 1) 1 37 := ⟨by decide +kernel, rfl⟩
theorem eX11_item_37 : sl_D YX11_item 37 (.iload_n 2) 1 38 := ⟨by decide +kernel, rfl⟩
theorem eX11_item_38 : sl_D YX11_item 38 (.invokevirtual 146) 3 41 := ⟨by decide +kernel, rfl⟩
theorem eX11_item_41 : sl_D YX11_item 41 (.invokevirtual 110) 3 44 := ⟨by decide +kernel, rfl⟩
theorem eX11_item_44 : sl_D YX11_item 44 (.ireturn) 1 45 := ⟨by decide +kernel, rfl⟩
theorem eX11_sign_0 : sl_D YX11_sign 0 (.aload_n 0) 1 1 := ⟨by decide +kernel, rfl⟩
theorem eX11_sign_1 : sl_D YX11_sign 1 (.iload_n 1) 1 2 := ⟨by decide +kernel, rfl⟩
theorem eX11_sign_2 : sl_D YX11_sign 2 (.invokevirtual 149) 3 5 := ⟨by decide +kernel, rfl⟩
theorem eX11_sign_5 : sl_B YX11_sign 5 (fun o => .ifCond .ne o) 8 14 := ⟨9, by decide +kernel, rfl, by decide⟩
theorem eX11_sign_8 : sl_D YX11_sign 8 (.aload_n 0) 1 9 := ⟨by decide +kernel, rfl⟩
theorem eX11_sign_9 : sl_D YX11_sign 9 (.iconst 1) 1 10 := ⟨by decide +kernel, rfl⟩
theorem eX11_sign_10 : sl_D YX11_sign 10 (.invokevirtual 76) 3 13 := ⟨by decide +kernel, rfl⟩
theorem eX11_sign_13 : sl_D YX11_sign 13 (.ireturn) 1 14 := ⟨by decide +kernel, rfl⟩
theorem eX11_sign_14 : sl_D YX11_sign 14 (.aload_n 0) 1 15 := ⟨by decide +kernel, rfl⟩
theorem eX11_sign_15 : sl_D YX11_sign 15 (.iload_n 1) 1 16 := ⟨by decide +kernel, rfl⟩
theorem eX11_sign_16 : sl_D YX11_sign 16 (.aload_n 0) 1 17 := ⟨by decide +kernel, rfl⟩
theorem eX11_sign_17 : sl_D YX11_sign 17 (.getfield 16) 3 20 := ⟨by decide +kernel, rfl⟩
theorem eX11_sign_20 : sl_D YX11_sign 20 (.getfield 125) 3 23 := ⟨by decide +kernel, rfl⟩
theorem eX11_sign_23 : sl_B YX11_sign 23 (fun o => .if_icmp .ne o) 26 31 := ⟨8, by decide +kernel, rfl, by decide⟩
theorem eX11_sign_26 : sl_D YX11_sign 26 (.bipush (-2)) 2 28 := ⟨by decide +kernel, rfl⟩
theorem eX11_sign_28 : sl_B YX11_sign 28 (fun o => .goto o) 31 40 := ⟨12, by decide +kernel, rfl, by decide⟩
theorem eX11_sign_31 : sl_D YX11_sign 31 (.aload_n 0) 1 32 := ⟨by decide +kernel, rfl⟩
theorem eX11_sign_32 : sl_D YX11_sign 32 (.getfield 16) 3 35 := ⟨by decide +kernel, rfl⟩
theorem eX11_sign_35 : sl_D YX11_sign 35 (.getfield 152) 3 38 := ⟨by decide +kernel, rfl⟩
theorem eX11_sign_38 : sl_D YX11_sign 38 (.iload_n 1) 1 39 := ⟨by decide +kernel, rfl⟩
theorem eX11_sign_39 : sl_D YX11_sign 39 (.iaload) 1 40 := ⟨by decide +kernel, rfl⟩
theorem eX11_sign_40 : sl_D YX11_sign 40 (.invokevirtual 110) 3 43 := ⟨by decide +kernel, rfl⟩
theorem eX11_sign_43 : sl_D YX11_sign 43 (.ireturn) 1 44 := ⟨by decide +kernel, rfl⟩
theorem eX11_edge_0 : sl_D YX11_edge 0 (.aload_n 0) 1 1 := ⟨by decide +kernel, rfl⟩
theorem eX11_edge_1 : sl_D YX11_edge 1 (.getfield 97) 3 4 := ⟨by decide +kernel, rfl⟩
theorem eX11_edge_4 : sl_B YX11_edge 4 (fun o => .ifCond .eq o) 7 31 := ⟨27, by decide +kernel, rfl, by decide⟩
theorem eX11_edge_7 : sl_D YX11_edge 7 (.iload_n 1) 1 8 := ⟨by decide +kernel, rfl⟩
theorem eX11_edge_8 : sl_B YX11_edge 8 (fun o => .ifCond .lt o) 11 31 := ⟨23, by decide +kernel, rfl, by decide⟩
theorem eX11_edge_11 : sl_D YX11_edge 11 (.iload_n 1) 1 12 := ⟨by decide +kernel, rfl⟩
theorem eX11_edge_12 : sl_D YX11_edge 12 (.aload_n 0) 1 13 := ⟨by decide +kernel, rfl⟩
theorem eX11_edge_13 : sl_D YX11_edge 13 (.getfield 16) 3 16 := ⟨by decide +kernel, rfl⟩
theorem eX11_edge_16 : sl_D YX11_edge 16 (.getfield 122) 3 19 := ⟨by decide +kernel, rfl⟩
theorem eX11_edge_19 : sl_B YX11_edge 19 (fun o => .if_icmp .ge o) 22 31 := ⟨12, by decide +kernel, rfl, by decide⟩
theorem eX11_edge_22 : sl_D YX11_edge 22 (.iload_n 2) 1 23 := ⟨by decide +kernel, rfl⟩
theorem eX11_edge_23 : sl_B YX11_edge 23 (fun o => .ifCond .lt o) 26 31 := ⟨8, by decide +kernel, rfl, by decide⟩
theorem eX11_edge_26 : sl_D YX11_edge 26 (.iload_n 2) 1 27 := ⟨by decide +kernel, rfl⟩
theorem eX11_edge_27 : sl_D YX11_edge 27 (.iconst 1) 1 28 := ⟨by decide +kernel, rfl⟩
theorem eX11_edge_28 : sl_B YX11_edge 28 (fun o => .if_icmp .le o) 31 37 := ⟨9, by decide +kernel, rfl, by decide⟩
theorem eX11_edge_31 : sl_D YX11_edge 31 (.aload_n 0) 1 32 := ⟨by decide +kernel, rfl⟩
theorem eX11_edge_32 : sl_D YX11_edge 32 (.iconst 1) 1 33 := ⟨by decide +kernel, rfl⟩
theorem eX11_edge_33 : sl_D YX11_edge 33 (.invokevirtual 76) 3 36 := ⟨by decide +kernel, rfl⟩
theorem eX11_edge_36 : sl_D YX11_edge 36 (.ireturn) 1 37 := ⟨by decide +kernel, rfl⟩
theorem eX11_edge_37 : sl_D YX11_edge 37 (.aload_n 0) 1 38 := ⟨by decide +kernel, rfl⟩
theorem eX11_edge_38 : sl_D YX11_edge 38 (.iload_n 2) 1 39 := ⟨by decide +kernel, rfl⟩
theorem eX11_edge_39 : sl_B YX11_edge 39 (fun o => .ifCond .ne o) 42 54 := ⟨15, by decide +kernel, rfl, by decide⟩
theorem eX11_edge_42 : sl_D YX11_edge 42 (.aload_n 0) 1 43 := ⟨by decide +kernel, rfl⟩
theorem eX11_edge_43 : sl_D YX11_edge 43 (.getfield 33) 3 46 := ⟨by decide +kernel, rfl⟩
theorem eX11_edge_46 : sl_D YX11_edge 46 (.getfield 155) 3 49 := ⟨by decide +kernel, rfl⟩
theorem eX11_edge_49 : sl_D YX11_edge 49 (.iload_n 1) 1 50 := ⟨by decide +kernel, rfl⟩
theorem eX11_edge_50 : sl_D YX11_edge 50 (.iaload) 1 51 := ⟨by decide +kernel, rfl⟩
theorem eX11_edge_51 : sl_B YX11_edge 51 (fun o => .goto o) 54 63 := ⟨12, by decide +kernel, rfl, by decide⟩
theorem eX11_edge_54 : sl_D YX11_edge 54 (.aload_n 0) 1 55 := ⟨by decide +kernel, rfl⟩
theorem eX11_edge_55 : sl_D YX11_edge 55 (.getfield 33) 3 58 := ⟨by decide +kernel, rfl⟩
theorem eX11_edge_58 : sl_D YX11_edge 58 (.getfield 158) 3 61 := ⟨by decide +kernel, rfl⟩
theorem eX11_edge_61 : sl_D YX11_edge 61 (.iload_n 1) 1 62 := ⟨by decide +kernel, rfl⟩
theorem eX11_edge_62 : sl_D YX11_edge 62 (.iaload) 1 63 := ⟨by decide +kernel, rfl⟩
theorem eX11_edge_63 : sl_D YX11_edge 63 (.invokevirtual 110) 3 66 := ⟨by decide +kernel, rfl⟩
theorem eX11_edge_66 : sl_D YX11_edge 66 (.ireturn) 1 67 := ⟨by decide +kernel, rfl⟩
theorem eX11_relation_0 : sl_D YX11_relation 0 (.aload_n 0) 1 1 := ⟨by decide +kernel, rfl⟩
theorem eX11_relation_1 : sl_D YX11_relation 1 (.iload_n 1) 1 2 := ⟨by decide +kernel, rfl⟩
theorem eX11_relation_2 : sl_D YX11_relation 2 (.invokevirtual 149) 3 5 := ⟨by decide +kernel, rfl⟩
theorem eX11_relation_5 : sl_B YX11_relation 5 (fun o => .ifCond .eq o) 8 16 := ⟨11, by decide +kernel, rfl, by decide⟩
theorem eX11_relation_8 : sl_D YX11_relation 8 (.aload_n 0) 1 9 := ⟨by decide +kernel, rfl⟩
theorem eX11_relation_9 : sl_D YX11_relation 9 (.iload_n 2) 1 10 := ⟨by decide +kernel, rfl⟩
theorem eX11_relation_10 : sl_D YX11_relation 10 (.invokevirtual 149) 3 13 := ⟨by decide +kernel, rfl⟩
theorem eX11_relation_13 : sl_B YX11_relation 13 (fun o => .ifCond .ne o) 16 22 := ⟨9, by decide +kernel, rfl, by decide⟩
theorem eX11_relation_16 : sl_D YX11_relation 16 (.aload_n 0) 1 17 := ⟨by decide +kernel, rfl⟩
theorem eX11_relation_17 : sl_D YX11_relation 17 (.iconst 1) 1 18 := ⟨by decide +kernel, rfl⟩
theorem eX11_relation_18 : sl_D YX11_relation 18 (.invokevirtual 76) 3 21 := ⟨by decide +kernel, rfl⟩
theorem eX11_relation_21 : sl_D YX11_relation 21 (.ireturn) 1 22 := ⟨by decide +kernel, rfl⟩
theorem eX11_relation_22 : sl_D YX11_relation 22 (.aload_n 0) 1 23 := ⟨by decide +kernel, rfl⟩
theorem eX11_relation_23 : sl_D YX11_relation 23 (.aload_n 0) 1 24 := ⟨by decide +kernel, rfl⟩
theorem eX11_relation_24 : sl_D YX11_relation 24 (.getfield 33) 3 27 := ⟨by decide +kernel, rfl⟩
theorem eX11_relation_27 : sl_D YX11_relation 27 (.iload_n 1) 1 28 := ⟨by decide +kernel, rfl⟩
theorem eX11_relation_28 : sl_D YX11_relation 28 (.iload_n 2) 1 29 := ⟨by decide +kernel, rfl⟩
theorem eX11_relation_29 : sl_D YX11_relation 29 (.invokevirtual 161) 3 32 := ⟨by decide +kernel, rfl⟩
theorem eX11_relation_32 : sl_D YX11_relation 32 (.invokevirtual 110) 3 35 := ⟨by decide +kernel, rfl⟩
theorem eX11_relation_35 : sl_D YX11_relation 35 (.ireturn) 1 36 := ⟨by decide +kernel, rfl⟩
theorem eX11_related_0 : sl_D YX11_related 0 (.aload_n 0) 1 1 := ⟨by decide +kernel, rfl⟩
theorem eX11_related_1 : sl_D YX11_related 1 (.getfield 97) 3 4 := ⟨by decide +kernel, rfl⟩
theorem eX11_related_4 : sl_B YX11_related 4 (fun o => .ifCond .ne o) 7 13 := ⟨9, by decide +kernel, rfl, by decide⟩
theorem eX11_related_7 : sl_D YX11_related 7 (.aload_n 0) 1 8 := ⟨by decide +kernel, rfl⟩
theorem eX11_related_8 : sl_D YX11_related 8 (.iconst 1) 1 9 := ⟨by decide +kernel, rfl⟩
theorem eX11_related_9 : sl_D YX11_related 9 (.invokevirtual 76) 3 12 := ⟨by decide +kernel, rfl⟩
theorem eX11_related_12 : sl_D YX11_related 12 (.ireturn) 1 13 := ⟨by decide +kernel, rfl⟩
theorem eX11_related_13 : sl_D YX11_related 13 (.iload_n 1) 1 14 := ⟨by decide +kernel, rfl⟩
theorem eX11_related_14 : sl_D YX11_related 14 (.invokestatic 164) 3 17 := ⟨by decide +kernel, rfl⟩
theorem eX11_related_17 : sl_B YX11_related 17 (fun o => .ifCond .ne o) 20 26 := ⟨9, by decide +kernel, rfl, by decide⟩
theorem eX11_related_20 : sl_D YX11_related 20 (.aload_n 0) 1 21 := ⟨by decide +kernel, rfl⟩
theorem eX11_related_21 : sl_D YX11_related 21 (.iconst 2) 1 22 := ⟨by decide +kernel, rfl⟩
theorem eX11_related_22 : sl_D YX11_related 22 (.invokevirtual 76) 3 25 := ⟨by decide +kernel, rfl⟩
theorem eX11_related_25 : sl_D YX11_related 25 (.ireturn) 1 26 := ⟨by decide +kernel, rfl⟩
theorem eX11_related_26 : sl_D YX11_related 26 (.aload_n 0) 1 27 := ⟨by decide +kernel, rfl⟩
theorem eX11_related_27 : sl_D YX11_related 27 (.aload_n 0) 1 28 := ⟨by decide +kernel, rfl⟩
theorem eX11_related_28 : sl_D YX11_related 28 (.getfield 33) 3 31 := ⟨by decide +kernel, rfl⟩
theorem eX11_related_31 : sl_D YX11_related 31 (.iload_n 1) 1 32 := ⟨by decide +kernel, rfl⟩
theorem eX11_related_32 : sl_D YX11_related 32 (.invokevirtual 167) 3 35 := ⟨by decide +kernel, rfl⟩
theorem eX11_related_35 : sl_D YX11_related 35 (.invokevirtual 110) 3 38 := ⟨by decide +kernel, rfl⟩
theorem eX11_related_38 : sl_D YX11_related 38 (.ireturn) 1 39 := ⟨by decide +kernel, rfl⟩
theorem eX11_clashes_0 : sl_D YX11_clashes 0 (.aload_n 0) 1 1 := ⟨by decide +kernel, rfl⟩
theorem eX11_clashes_1 : sl_D YX11_clashes 1 (.getfield 97) 3 4 := ⟨by decide +kernel, rfl⟩
theorem eX11_clashes_4 : sl_B YX11_clashes 4 (fun o => .ifCond .eq o) 7 21 := ⟨17, by decide +kernel, rfl, by decide⟩
theorem eX11_clashes_7 : sl_D YX11_clashes 7 (.aload_n 0) 1 8 := ⟨by decide +kernel, rfl⟩
theorem eX11_clashes_8 : sl_D YX11_clashes 8 (.aload_n 0) 1 9 := ⟨by decide +kernel, rfl⟩
theorem eX11_clashes_9 : sl_D YX11_clashes 9 (.getfield 33) 3 12 := ⟨by decide +kernel, rfl⟩
theorem eX11_clashes_12 : sl_D YX11_clashes 12 (.invokevirtual 170) 3 15 := ⟨by decide +kernel, rfl⟩
theorem eX11_clashes_15 : sl_D YX11_clashes 15 (.invokevirtual 110) 3 18 := ⟨by decide +kernel, rfl⟩
theorem eX11_clashes_18 : sl_B YX11_clashes 18 (fun o => .goto o) 21 26 := ⟨8, by decide +kernel, rfl, by decide⟩
theorem eX11_clashes_21 : sl_D YX11_clashes 21 (.aload_n 0) 1 22 := ⟨by decide +kernel, rfl⟩
theorem eX11_clashes_22 : sl_D YX11_clashes 22 (.iconst 1) 1 23 := ⟨by decide +kernel, rfl⟩
theorem eX11_clashes_23 : sl_D YX11_clashes 23 (.invokevirtual 76) 3 26 := ⟨by decide +kernel, rfl⟩
theorem eX11_clashes_26 : sl_D YX11_clashes 26 (.ireturn) 1 27 := ⟨by decide +kernel, rfl⟩
theorem eX11_clash_0 : sl_D YX11_clash 0 (.aload_n 0) 1 1 := ⟨by decide +kernel, rfl⟩
theorem eX11_clash_1 : sl_D YX11_clash 1 (.getfield 97) 3 4 := ⟨by decide +kernel, rfl⟩
theorem eX11_clash_4 : sl_B YX11_clash 4 (fun o => .ifCond .eq o) 7 22 := ⟨18, by decide +kernel, rfl, by decide⟩
theorem eX11_clash_7 : sl_D YX11_clash 7 (.iload_n 1) 1 8 := ⟨by decide +kernel, rfl⟩
theorem eX11_clash_8 : sl_B YX11_clash 8 (fun o => .ifCond .lt o) 11 22 := ⟨14, by decide +kernel, rfl, by decide⟩
theorem eX11_clash_11 : sl_D YX11_clash 11 (.iload_n 1) 1 12 := ⟨by decide +kernel, rfl⟩
theorem eX11_clash_12 : sl_D YX11_clash 12 (.aload_n 0) 1 13 := ⟨by decide +kernel, rfl⟩
theorem eX11_clash_13 : sl_D YX11_clash 13 (.getfield 33) 3 16 := ⟨by decide +kernel, rfl⟩
theorem eX11_clash_16 : sl_D YX11_clash 16 (.invokevirtual 170) 3 19 := ⟨by decide +kernel, rfl⟩
theorem eX11_clash_19 : sl_B YX11_clash 19 (fun o => .if_icmp .lt o) 22 28 := ⟨9, by decide +kernel, rfl, by decide⟩
theorem eX11_clash_22 : sl_D YX11_clash 22 (.aload_n 0) 1 23 := ⟨by decide +kernel, rfl⟩
theorem eX11_clash_23 : sl_D YX11_clash 23 (.iconst 1) 1 24 := ⟨by decide +kernel, rfl⟩
theorem eX11_clash_24 : sl_D YX11_clash 24 (.invokevirtual 76) 3 27 := ⟨by decide +kernel, rfl⟩
theorem eX11_clash_27 : sl_D YX11_clash 27 (.ireturn) 1 28 := ⟨by decide +kernel, rfl⟩
theorem eX11_clash_28 : sl_D YX11_clash 28 (.aload_n 0) 1 29 := ⟨by decide +kernel, rfl⟩
theorem eX11_clash_29 : sl_D YX11_clash 29 (.aload_n 0) 1 30 := ⟨by decide +kernel, rfl⟩
theorem eX11_clash_30 : sl_D YX11_clash 30 (.getfield 33) 3 33 := ⟨by decide +kernel, rfl⟩
theorem eX11_clash_33 : sl_D YX11_clash 33 (.iload_n 1) 1 34 := ⟨by decide +kernel, rfl⟩
theorem eX11_clash_34 : sl_D YX11_clash 34 (.invokevirtual 174) 3 37 := ⟨by decide +kernel, rfl⟩
theorem eX11_clash_37 : sl_D YX11_clash 37 (.invokevirtual 110) 3 40 := ⟨by decide +kernel, rfl⟩
theorem eX11_clash_40 : sl_D YX11_clash 40 (.ireturn) 1 41 := ⟨by decide +kernel, rfl⟩
theorem eX11_doubles_0 : sl_D YX11_doubles 0 (.aload_n 0) 1 1 := ⟨by decide +kernel, rfl⟩
theorem eX11_doubles_1 : sl_D YX11_doubles 1 (.getfield 97) 3 4 := ⟨by decide +kernel, rfl⟩
theorem eX11_doubles_4 : sl_B YX11_doubles 4 (fun o => .ifCond .eq o) 7 21 := ⟨17, by decide +kernel, rfl, by decide⟩
theorem eX11_doubles_7 : sl_D YX11_doubles 7 (.aload_n 0) 1 8 := ⟨by decide +kernel, rfl⟩
theorem eX11_doubles_8 : sl_D YX11_doubles 8 (.aload_n 0) 1 9 := ⟨by decide +kernel, rfl⟩
theorem eX11_doubles_9 : sl_D YX11_doubles 9 (.getfield 16) 3 12 := ⟨by decide +kernel, rfl⟩
theorem eX11_doubles_12 : sl_D YX11_doubles 12 (.invokevirtual 177) 3 15 := ⟨by decide +kernel, rfl⟩
theorem eX11_doubles_15 : sl_D YX11_doubles 15 (.invokevirtual 110) 3 18 := ⟨by decide +kernel, rfl⟩
theorem eX11_doubles_18 : sl_B YX11_doubles 18 (fun o => .goto o) 21 26 := ⟨8, by decide +kernel, rfl, by decide⟩
theorem eX11_doubles_21 : sl_D YX11_doubles 21 (.aload_n 0) 1 22 := ⟨by decide +kernel, rfl⟩
theorem eX11_doubles_22 : sl_D YX11_doubles 22 (.iconst 1) 1 23 := ⟨by decide +kernel, rfl⟩
theorem eX11_doubles_23 : sl_D YX11_doubles 23 (.invokevirtual 76) 3 26 := ⟨by decide +kernel, rfl⟩
theorem eX11_doubles_26 : sl_D YX11_doubles 26 (.ireturn) 1 27 := ⟨by decide +kernel, rfl⟩
theorem eX11_function_0 : sl_D YX11_function 0 (.aload_n 0) 1 1 := ⟨by decide +kernel, rfl⟩
theorem eX11_function_1 : sl_D YX11_function 1 (.iload_n 1) 1 2 := ⟨by decide +kernel, rfl⟩
theorem eX11_function_2 : sl_D YX11_function 2 (.invokevirtual 149) 3 5 := ⟨by decide +kernel, rfl⟩
theorem eX11_function_5 : sl_B YX11_function 5 (fun o => .ifCond .eq o) 8 17 := ⟨12, by decide +kernel, rfl, by decide⟩
theorem eX11_function_8 : sl_D YX11_function 8 (.iload_n 2) 1 9 := ⟨by decide +kernel, rfl⟩
theorem eX11_function_9 : sl_B YX11_function 9 (fun o => .ifCond .lt o) 12 17 := ⟨8, by decide +kernel, rfl, by decide⟩
theorem eX11_function_12 : sl_D YX11_function 12 (.iload_n 2) 1 13 := ⟨by decide +kernel, rfl⟩
theorem eX11_function_13 : sl_D YX11_function 13 (.iconst 1) 1 14 := ⟨by decide +kernel, rfl⟩
theorem eX11_function_14 : sl_B YX11_function 14 (fun o => .if_icmp .le o) 17 23 := ⟨9, by decide +kernel, rfl, by decide⟩
theorem eX11_function_17 : sl_D YX11_function 17 (.aload_n 0) 1 18 := ⟨by decide +kernel, rfl⟩
theorem eX11_function_18 : sl_D YX11_function 18 (.iconst 1) 1 19 := ⟨by decide +kernel, rfl⟩
theorem eX11_function_19 : sl_D YX11_function 19 (.invokevirtual 76) 3 22 := ⟨by decide +kernel, rfl⟩
theorem eX11_function_22 : sl_D YX11_function 22 (.ireturn) 1 23 := ⟨by decide +kernel, rfl⟩
theorem eX11_function_23 : sl_D YX11_function 23 (.aload_n 0) 1 24 := ⟨by decide +kernel, rfl⟩
theorem eX11_function_24 : sl_D YX11_function 24 (.getfield 40) 3 27 := ⟨by decide +kernel, rfl⟩
theorem eX11_function_27 : sl_D YX11_function 27 (.invokevirtual 180) 3 30 := ⟨by decide +kernel, rfl⟩
theorem eX11_function_30 : sl_B YX11_function 30 (fun o => .ifCond .ne o) 33 39 := ⟨9, by decide +kernel, rfl, by decide⟩
theorem eX11_function_33 : sl_D YX11_function 33 (.aload_n 0) 1 34 := ⟨by decide +kernel, rfl⟩
theorem eX11_function_34 : sl_D YX11_function 34 (.iconst 5) 1 35 := ⟨by decide +kernel, rfl⟩
theorem eX11_function_35 : sl_D YX11_function 35 (.invokevirtual 76) 3 38 := ⟨by decide +kernel, rfl⟩
theorem eX11_function_38 : sl_D YX11_function 38 (.ireturn) 1 39 := ⟨by decide +kernel, rfl⟩
theorem eX11_function_39 : sl_D YX11_function 39 (.aload_n 0) 1 40 := ⟨by decide +kernel, rfl⟩
theorem eX11_function_40 : sl_D YX11_function 40 (.iload_n 2) 1 41 := ⟨by decide +kernel, rfl⟩
theorem eX11_function_41 : sl_B YX11_function 41 (fun o => .ifCond .ne o) 44 55 := ⟨14, by decide +kernel, rfl, by decide⟩
theorem eX11_function_44 : sl_D YX11_function 44 (.aload_n 0) 1 45 := ⟨by decide +kernel, rfl⟩
theorem eX11_function_45 : sl_D YX11_function 45 (.getfield 40) 3 48 := ⟨by decide +kernel, rfl⟩
theorem eX11_function_48 : sl_D YX11_function 48 (.iload_n 1) 1 49 := ⟨by decide +kernel, rfl⟩
theorem eX11_function_49 : sl_D YX11_function 49 (.invokevirtual 184) 3 52 := ⟨by decide +kernel, rfl⟩
theorem eX11_function_52 : sl_B YX11_function 52 (fun o => .goto o) 55 63 := ⟨11, by decide +kernel, rfl, by decide⟩
theorem eX11_function_55 : sl_D YX11_function 55 (.aload_n 0) 1 56 := ⟨by decide +kernel, rfl⟩
theorem eX11_function_56 : sl_D YX11_function 56 (.getfield 40) 3 59 := ⟨by decide +kernel, rfl⟩
theorem eX11_function_59 : sl_D YX11_function 59 (.iload_n 1) 1 60 := ⟨by decide +kernel, rfl⟩
theorem eX11_function_60 : sl_D YX11_function 60 (.invokevirtual 187) 3 63 := ⟨by decide +kernel, rfl⟩
theorem eX11_function_63 : sl_D YX11_function 63 (.invokevirtual 110) 3 66 := ⟨by decide +kernel, rfl⟩
theorem eX11_function_66 : sl_D YX11_function 66 (.ireturn) 1 67 := ⟨by decide +kernel, rfl⟩
theorem eX11_highest_0 : sl_D YX11_highest 0 (.aload_n 0) 1 1 := ⟨by decide +kernel, rfl⟩
theorem eX11_highest_1 : sl_D YX11_highest 1 (.getfield 97) 3 4 := ⟨by decide +kernel, rfl⟩
theorem eX11_highest_4 : sl_B YX11_highest 4 (fun o => .ifCond .ne o) 7 13 := ⟨9, by decide +kernel, rfl, by decide⟩
theorem eX11_highest_7 : sl_D YX11_highest 7 (.aload_n 0) 1 8 := ⟨by decide +kernel, rfl⟩
theorem eX11_highest_8 : sl_D YX11_highest 8 (.iconst 1) 1 9 := ⟨by decide +kernel, rfl⟩
theorem eX11_highest_9 : sl_D YX11_highest 9 (.invokevirtual 76) 3 12 := ⟨by decide +kernel, rfl⟩
theorem eX11_highest_12 : sl_D YX11_highest 12 (.ireturn) 1 13 := ⟨by decide +kernel, rfl⟩
theorem eX11_highest_13 : sl_D YX11_highest 13 (.aload_n 0) 1 14 := ⟨by decide +kernel, rfl⟩
theorem eX11_highest_14 : sl_D YX11_highest 14 (.getfield 40) 3 17 := ⟨by decide +kernel, rfl⟩
theorem eX11_highest_17 : sl_D YX11_highest 17 (.invokevirtual 180) 3 20 := ⟨by decide +kernel, rfl⟩
theorem eX11_highest_20 : sl_B YX11_highest 20 (fun o => .ifCond .eq o) 23 37 := ⟨17, by decide +kernel, rfl, by decide⟩
theorem eX11_highest_23 : sl_D YX11_highest 23 (.aload_n 0) 1 24 := ⟨by decide +kernel, rfl⟩
theorem eX11_highest_24 : sl_D YX11_highest 24 (.aload_n 0) 1 25 := ⟨by decide +kernel, rfl⟩
theorem eX11_highest_25 : sl_D YX11_highest 25 (.getfield 40) 3 28 := ⟨by decide +kernel, rfl⟩
theorem eX11_highest_28 : sl_D YX11_highest 28 (.invokevirtual 190) 3 31 := ⟨by decide +kernel, rfl⟩
theorem eX11_highest_31 : sl_D YX11_highest 31 (.invokevirtual 110) 3 34 := ⟨by decide +kernel, rfl⟩
theorem eX11_highest_34 : sl_B YX11_highest 34 (fun o => .goto o) 37 42 := ⟨8, by decide +kernel, rfl, by decide⟩
theorem eX11_highest_37 : sl_D YX11_highest 37 (.aload_n 0) 1 38 := ⟨by decide +kernel, rfl⟩
theorem eX11_highest_38 : sl_D YX11_highest 38 (.iconst 5) 1 39 := ⟨by decide +kernel, rfl⟩
theorem eX11_highest_39 : sl_D YX11_highest 39 (.invokevirtual 76) 3 42 := ⟨by decide +kernel, rfl⟩
theorem eX11_highest_42 : sl_D YX11_highest 42 (.ireturn) 1 43 := ⟨by decide +kernel, rfl⟩
theorem eX11_hidden_0 : sl_D YX11_hidden 0 (.aload_n 0) 1 1 := ⟨by decide +kernel, rfl⟩
theorem eX11_hidden_1 : sl_D YX11_hidden 1 (.getfield 97) 3 4 := ⟨by decide +kernel, rfl⟩
theorem eX11_hidden_4 : sl_B YX11_hidden 4 (fun o => .ifCond .ne o) 7 13 := ⟨9, by decide +kernel, rfl, by decide⟩
theorem eX11_hidden_7 : sl_D YX11_hidden 7 (.aload_n 0) 1 8 := ⟨by decide +kernel, rfl⟩
theorem eX11_hidden_8 : sl_D YX11_hidden 8 (.iconst 1) 1 9 := ⟨by decide +kernel, rfl⟩
theorem eX11_hidden_9 : sl_D YX11_hidden 9 (.invokevirtual 76) 3 12 := ⟨by decide +kernel, rfl⟩
theorem eX11_hidden_12 : sl_D YX11_hidden 12 (.ireturn) 1 13 := ⟨by decide +kernel, rfl⟩
theorem eX11_hidden_13 : sl_D YX11_hidden 13 (.iload_n 1) 1 14 := ⟨by decide +kernel, rfl⟩
theorem eX11_hidden_14 : sl_D YX11_hidden 14 (.invokestatic 164) 3 17 := ⟨by decide +kernel, rfl⟩
theorem eX11_hidden_17 : sl_B YX11_hidden 17 (fun o => .ifCond .ne o) 20 26 := ⟨9, by decide +kernel, rfl, by decide⟩
theorem eX11_hidden_20 : sl_D YX11_hidden 20 (.aload_n 0) 1 21 := ⟨by decide +kernel, rfl⟩
theorem eX11_hidden_21 : sl_D YX11_hidden 21 (.iconst 2) 1 22 := ⟨by decide +kernel, rfl⟩
theorem eX11_hidden_22 : sl_D YX11_hidden 22 (.invokevirtual 76) 3 25 := ⟨by decide +kernel, rfl⟩
theorem eX11_hidden_25 : sl_D YX11_hidden 25 (.ireturn) 1 26 := ⟨by decide +kernel, rfl⟩
theorem eX11_hidden_26 : sl_D YX11_hidden 26 (.aload_n 0) 1 27 := ⟨by decide +kernel, rfl⟩
theorem eX11_hidden_27 : sl_D YX11_hidden 27 (.getfield 40) 3 30 := ⟨by decide +kernel, rfl⟩
theorem eX11_hidden_30 : sl_D YX11_hidden 30 (.invokevirtual 180) 3 33 := ⟨by decide +kernel, rfl⟩
theorem eX11_hidden_33 : sl_B YX11_hidden 33 (fun o => .ifCond .ne o) 36 42 := ⟨9, by decide +kernel, rfl, by decide⟩
theorem eX11_hidden_36 : sl_D YX11_hidden 36 (.aload_n 0) 1 37 := ⟨by decide +kernel, rfl⟩
theorem eX11_hidden_37 : sl_D YX11_hidden 37 (.iconst 5) 1 38 := ⟨by decide +kernel, rfl⟩
theorem eX11_hidden_38 : sl_D YX11_hidden 38 (.invokevirtual 76) 3 41 := ⟨by decide +kernel, rfl⟩
theorem eX11_hidden_41 : sl_D YX11_hidden 41 (.ireturn) 1 42 := ⟨by decide +kernel, rfl⟩
theorem eX11_hidden_42 : sl_D YX11_hidden 42 (.aload_n 0) 1 43 := ⟨by decide +kernel, rfl⟩
theorem eX11_hidden_43 : sl_D YX11_hidden 43 (.aload_n 0) 1 44 := ⟨by decide +kernel, rfl⟩
theorem eX11_hidden_44 : sl_D YX11_hidden 44 (.iload_n 1) 1 45 := ⟨by decide +kernel, rfl⟩
theorem eX11_hidden_45 : sl_D YX11_hidden 45 (.invokevirtual 193) 3 48 := ⟨by decide +kernel, rfl⟩
theorem eX11_hidden_48 : sl_D YX11_hidden 48 (.invokevirtual 110) 3 51 := ⟨by decide +kernel, rfl⟩
theorem eX11_hidden_51 : sl_D YX11_hidden 51 (.ireturn) 1 52 := ⟨by decide +kernel, rfl⟩
theorem eX11_knotted_0 : sl_D YX11_knotted 0 (.aload_n 0) 1 1 := ⟨by decide +kernel, rfl⟩
theorem eX11_knotted_1 : sl_D YX11_knotted 1 (.getfield 97) 3 4 := ⟨by decide +kernel, rfl⟩
theorem eX11_knotted_4 : sl_B YX11_knotted 4 (fun o => .ifCond .eq o) 7 21 := ⟨17, by decide +kernel, rfl, by decide⟩
theorem eX11_knotted_7 : sl_D YX11_knotted 7 (.aload_n 0) 1 8 := ⟨by decide +kernel, rfl⟩
theorem eX11_knotted_8 : sl_D YX11_knotted 8 (.aload_n 0) 1 9 := ⟨by decide +kernel, rfl⟩
theorem eX11_knotted_9 : sl_D YX11_knotted 9 (.getfield 40) 3 12 := ⟨by decide +kernel, rfl⟩
theorem eX11_knotted_12 : sl_D YX11_knotted 12 (.invokevirtual 196) 3 15 := ⟨by decide +kernel, rfl⟩
theorem eX11_knotted_15 : sl_D YX11_knotted 15 (.invokevirtual 110) 3 18 := ⟨by decide +kernel, rfl⟩
theorem eX11_knotted_18 : sl_B YX11_knotted 18 (fun o => .goto o) 21 26 := ⟨8, by decide +kernel, rfl, by decide⟩
theorem eX11_knotted_21 : sl_D YX11_knotted 21 (.aload_n 0) 1 22 := ⟨by decide +kernel, rfl⟩
theorem eX11_knotted_22 : sl_D YX11_knotted 22 (.iconst 1) 1 23 := ⟨by decide +kernel, rfl⟩
theorem eX11_knotted_23 : sl_D YX11_knotted 23 (.invokevirtual 76) 3 26 := ⟨by decide +kernel, rfl⟩
theorem eX11_knotted_26 : sl_D YX11_knotted 26 (.ireturn) 1 27 := ⟨by decide +kernel, rfl⟩
theorem eX11_ring_0 : sl_D YX11_ring 0 (.aload_n 0) 1 1 := ⟨by decide +kernel, rfl⟩
theorem eX11_ring_1 : sl_D YX11_ring 1 (.getfield 97) 3 4 := ⟨by decide +kernel, rfl⟩
theorem eX11_ring_4 : sl_B YX11_ring 4 (fun o => .ifCond .eq o) 7 21 := ⟨17, by decide +kernel, rfl, by decide⟩
theorem eX11_ring_7 : sl_D YX11_ring 7 (.aload_n 0) 1 8 := ⟨by decide +kernel, rfl⟩
theorem eX11_ring_8 : sl_D YX11_ring 8 (.aload_n 0) 1 9 := ⟨by decide +kernel, rfl⟩
theorem eX11_ring_9 : sl_D YX11_ring 9 (.getfield 40) 3 12 := ⟨by decide +kernel, rfl⟩
theorem eX11_ring_12 : sl_D YX11_ring 12 (.getfield 199) 3 15 := ⟨by decide +kernel, rfl⟩
theorem eX11_ring_15 : sl_D YX11_ring 15 (.invokevirtual 110) 3 18 := ⟨by decide +kernel, rfl⟩
theorem eX11_ring_18 : sl_B YX11_ring 18 (fun o => .goto o) 21 26 := ⟨8, by decide +kernel, rfl, by decide⟩
theorem eX11_ring_21 : sl_D YX11_ring 21 (.aload_n 0) 1 22 := ⟨by decide +kernel, rfl⟩
theorem eX11_ring_22 : sl_D YX11_ring 22 (.iconst 1) 1 23 := ⟨by decide +kernel, rfl⟩
theorem eX11_ring_23 : sl_D YX11_ring 23 (.invokevirtual 76) 3 26 := ⟨by decide +kernel, rfl⟩
theorem eX11_ring_26 : sl_D YX11_ring 26 (.ireturn) 1 27 := ⟨by decide +kernel, rfl⟩
theorem eX11_ringAt_0 : sl_D YX11_ringAt 0 (.aload_n 0) 1 1 := ⟨by decide +kernel, rfl⟩
theorem eX11_ringAt_1 : sl_D YX11_ringAt 1 (.getfield 97) 3 4 := ⟨by decide +kernel, rfl⟩
theorem eX11_ringAt_4 : sl_B YX11_ringAt 4 (fun o => .ifCond .eq o) 7 22 := ⟨18, by decide +kernel, rfl, by decide⟩
theorem eX11_ringAt_7 : sl_D YX11_ringAt 7 (.iload_n 1) 1 8 := ⟨by decide +kernel, rfl⟩
theorem eX11_ringAt_8 : sl_B YX11_ringAt 8 (fun o => .ifCond .lt o) 11 22 := ⟨14, by decide +kernel, rfl, by decide⟩
theorem eX11_ringAt_11 : sl_D YX11_ringAt 11 (.iload_n 1) 1 12 := ⟨by decide +kernel, rfl⟩
theorem eX11_ringAt_12 : sl_D YX11_ringAt 12 (.aload_n 0) 1 13 := ⟨by decide +kernel, rfl⟩
theorem eX11_ringAt_13 : sl_D YX11_ringAt 13 (.getfield 40) 3 16 := ⟨by decide +kernel, rfl⟩
theorem eX11_ringAt_16 : sl_D YX11_ringAt 16 (.getfield 199) 3 19 := ⟨by decide +kernel, rfl⟩
theorem eX11_ringAt_19 : sl_B YX11_ringAt 19 (fun o => .if_icmp .lt o) 22 28 := ⟨9, by decide +kernel, rfl, by decide⟩
theorem eX11_ringAt_22 : sl_D YX11_ringAt 22 (.aload_n 0) 1 23 := ⟨by decide +kernel, rfl⟩
theorem eX11_ringAt_23 : sl_D YX11_ringAt 23 (.iconst 1) 1 24 := ⟨by decide +kernel, rfl⟩
theorem eX11_ringAt_24 : sl_D YX11_ringAt 24 (.invokevirtual 76) 3 27 := ⟨by decide +kernel, rfl⟩
theorem eX11_ringAt_27 : sl_D YX11_ringAt 27 (.ireturn) 1 28 := ⟨by decide +kernel, rfl⟩
theorem eX11_ringAt_28 : sl_D YX11_ringAt 28 (.aload_n 0) 1 29 := ⟨by decide +kernel, rfl⟩
theorem eX11_ringAt_29 : sl_D YX11_ringAt 29 (.aload_n 0) 1 30 := ⟨by decide +kernel, rfl⟩
theorem eX11_ringAt_30 : sl_D YX11_ringAt 30 (.getfield 40) 3 33 := ⟨by decide +kernel, rfl⟩
theorem eX11_ringAt_33 : sl_D YX11_ringAt 33 (.getfield 202) 3 36 := ⟨by decide +kernel, rfl⟩
theorem eX11_ringAt_36 : sl_D YX11_ringAt 36 (.iload_n 1) 1 37 := ⟨by decide +kernel, rfl⟩
theorem eX11_ringAt_37 : sl_D YX11_ringAt 37 (.iaload) 1 38 := ⟨by decide +kernel, rfl⟩
theorem eX11_ringAt_38 : sl_D YX11_ringAt 38 (.invokevirtual 110) 3 41 := ⟨by decide +kernel, rfl⟩
theorem eX11_ringAt_41 : sl_D YX11_ringAt 41 (.ireturn) 1 42 := ⟨by decide +kernel, rfl⟩
theorem eX11_formula_0 : sl_D YX11_formula 0 (.aload_n 0) 1 1 := ⟨by decide +kernel, rfl⟩
theorem eX11_formula_1 : sl_D YX11_formula 1 (.getfield 97) 3 4 := ⟨by decide +kernel, rfl⟩
theorem eX11_formula_4 : sl_B YX11_formula 4 (fun o => .ifCond .eq o) 7 16 := ⟨12, by decide +kernel, rfl, by decide⟩
theorem eX11_formula_7 : sl_D YX11_formula 7 (.iload_n 2) 1 8 := ⟨by decide +kernel, rfl⟩
theorem eX11_formula_8 : sl_B YX11_formula 8 (fun o => .ifCond .eq o) 11 22 := ⟨14, by decide +kernel, rfl, by decide⟩
theorem eX11_formula_11 : sl_D YX11_formula 11 (.iload_n 2) 1 12 := ⟨by decide +kernel, rfl⟩
theorem eX11_formula_12 : sl_D YX11_formula 12 (.iconst 1) 1 13 := ⟨by decide +kernel, rfl⟩
theorem eX11_formula_13 : sl_B YX11_formula 13 (fun o => .if_icmp .eq o) 16 22 := ⟨9, by decide +kernel, rfl, by decide⟩
theorem eX11_formula_16 : sl_D YX11_formula 16 (.aload_n 0) 1 17 := ⟨by decide +kernel, rfl⟩
theorem eX11_formula_17 : sl_D YX11_formula 17 (.iconst 1) 1 18 := ⟨by decide +kernel, rfl⟩
theorem eX11_formula_18 : sl_D YX11_formula 18 (.invokevirtual 76) 3 21 := ⟨by decide +kernel, rfl⟩
theorem eX11_formula_21 : sl_D YX11_formula 21 (.ireturn) 1 22 := ⟨by decide +kernel, rfl⟩
theorem eX11_formula_22 : sl_D YX11_formula 22 (.iload_n 1) 1 23 := ⟨by decide +kernel, rfl⟩
theorem eX11_formula_23 : sl_B YX11_formula 23 (fun o => .ifCond .lt o) 26 34 := ⟨11, by decide +kernel, rfl, by decide⟩
theorem eX11_formula_26 : sl_D YX11_formula 26 (.iload_n 1) 1 27 := ⟨by decide +kernel, rfl⟩
theorem eX11_formula_27 : sl_D YX11_formula 27 (.aload_n 0) 1 28 := ⟨by decide +kernel, rfl⟩
theorem eX11_formula_28 : sl_D YX11_formula 28 (.getfield 68) 3 31 := ⟨by decide +kernel, rfl⟩
theorem eX11_formula_31 : sl_B YX11_formula 31 (fun o => .if_icmp .le o) 34 40 := ⟨9, by decide +kernel, rfl, by decide⟩
theorem eX11_formula_34 : sl_D YX11_formula 34 (.aload_n 0) 1 35 := ⟨by decide +kernel, rfl⟩
theorem eX11_formula_35 : sl_D YX11_formula 35 (.iconst 2) 1 36 := ⟨by decide +kernel, rfl⟩
theorem eX11_formula_36 : sl_D YX11_formula 36 (.invokevirtual 76) 3 39 := ⟨by decide +kernel, rfl⟩
theorem eX11_formula_39 : sl_D YX11_formula 39 (.ireturn) 1 40 := ⟨by decide +kernel, rfl⟩
theorem eX11_formula_40 : sl_D YX11_formula 40 (.aload_n 0) 1 41 := ⟨by decide +kernel, rfl⟩
theorem eX11_formula_41 : sl_D YX11_formula 41 (.iload_n 2) 1 42 := ⟨by decide +kernel, rfl⟩
theorem eX11_formula_42 : sl_D YX11_formula 42 (.invokevirtual 205) 3 45 := ⟨by decide +kernel, rfl⟩
theorem eX11_formula_45 : sl_B YX11_formula 45 (fun o => .ifCond .ne o) 48 54 := ⟨9, by decide +kernel, rfl, by decide⟩
theorem eX11_formula_48 : sl_D YX11_formula 48 (.aload_n 0) 1 49 := ⟨by decide +kernel, rfl⟩
theorem eX11_formula_49 : sl_D YX11_formula 49 (.iconst 5) 1 50 := ⟨by decide +kernel, rfl⟩
theorem eX11_formula_50 : sl_D YX11_formula 50 (.invokevirtual 76) 3 53 := ⟨by decide +kernel, rfl⟩
theorem eX11_formula_53 : sl_D YX11_formula 53 (.ireturn) 1 54 := ⟨by decide +kernel, rfl⟩
theorem eX11_formula_54 : sl_D YX11_formula 54 (.aload_n 0) 1 55 := ⟨by decide +kernel, rfl⟩
theorem eX11_formula_55 : sl_D YX11_formula 55 (.getfield 54) 3 58 := ⟨by decide +kernel, rfl⟩
theorem eX11_formula_58 : sl_D YX11_formula 58 (.aload_n 0) 1 59 := ⟨by decide +kernel, rfl⟩
theorem eX11_formula_59 : sl_D YX11_formula 59 (.getfield 9) 3 62 := ⟨by decide +kernel, rfl⟩
theorem eX11_formula_62 : sl_D YX11_formula 62 (.iload_n 1) 1 63 := ⟨by decide +kernel, rfl⟩
theorem eX11_formula_63 : sl_D YX11_formula 63 (.invokevirtual 208) 3 66 := ⟨by decide +kernel, rfl⟩
theorem eX11_formula_66 : sl_D YX11_formula 66 (.aload_n 0) 1 67 := ⟨by decide +kernel, rfl⟩
theorem eX11_formula_67 : sl_D YX11_formula 67 (.iconst 0) 1 68 := ⟨by decide +kernel, rfl⟩
theorem eX11_formula_68 : sl_D YX11_formula 68 (.putfield 68) 3 71 := ⟨by decide +kernel, rfl⟩
theorem eX11_formula_71 : sl_D YX11_formula 71 (.aload_n 0) 1 72 := ⟨by decide +kernel, rfl⟩
theorem eX11_formula_72 : sl_D YX11_formula 72 (.iconst 1) 1 73 := ⟨by decide +kernel, rfl⟩
theorem eX11_formula_73 : sl_D YX11_formula 73 (.putfield 212) 3 76 := ⟨by decide +kernel, rfl⟩
theorem eX11_formula_76 : sl_D YX11_formula 76 (.aload_n 0) 1 77 := ⟨by decide +kernel, rfl⟩
theorem eX11_formula_77 : sl_D YX11_formula 77 (.getfield 61) 3 80 := ⟨by decide +kernel, rfl⟩
theorem eX11_formula_80 : sl_D YX11_formula 80 (.aload_n 0) 1 81 := ⟨by decide +kernel, rfl⟩
theorem eX11_formula_81 : sl_D YX11_formula 81 (.getfield 16) 3 84 := ⟨by decide +kernel, rfl⟩
theorem eX11_formula_84 : sl_D YX11_formula 84 (.aload_n 0) 1 85 := ⟨by decide +kernel, rfl⟩
theorem eX11_formula_85 : sl_D YX11_formula 85 (.getfield 33) 3 88 := ⟨by decide +kernel, rfl⟩
theorem eX11_formula_88 : sl_D YX11_formula 88 (.aload_n 0) 1 89 := ⟨by decide +kernel, rfl⟩
theorem eX11_formula_89 : sl_D YX11_formula 89 (.getfield 40) 3 92 := ⟨by decide +kernel, rfl⟩
theorem eX11_formula_92 : sl_D YX11_formula 92 (.aload_n 0) 1 93 := ⟨by decide +kernel, rfl⟩
theorem eX11_formula_93 : sl_D YX11_formula 93 (.getfield 54) 3 96 := ⟨by decide +kernel, rfl⟩
theorem eX11_formula_96 : sl_D YX11_formula 96 (.iload_n 2) 1 97 := ⟨by decide +kernel, rfl⟩
theorem eX11_formula_97 : sl_D YX11_formula 97 (.invokevirtual 215) 3 100 := ⟨by decide +kernel, rfl⟩
theorem eX11_formula_100 : sl_D YX11_formula 100 (.aload_n 0) 1 101 := ⟨by decide +kernel, rfl⟩
theorem eX11_formula_101 : sl_D YX11_formula 101 (.aload_n 0) 1 102 := ⟨by decide +kernel, rfl⟩
theorem eX11_formula_102 : sl_D YX11_formula 102 (.getfield 61) 3 105 := ⟨by decide +kernel, rfl⟩
theorem eX11_formula_105 : sl_D YX11_formula 105 (.invokevirtual 219) 3 108 := ⟨by decide +kernel, rfl⟩
theorem eX11_formula_108 : sl_D YX11_formula 108 (.ireturn) 1 109 := ⟨by decide +kernel, rfl⟩
theorem eX11_read_0 : sl_D YX11_read 0 (.aload_n 0) 1 1 := ⟨by decide +kernel, rfl⟩
theorem eX11_read_1 : sl_D YX11_read 1 (.getfield 212) 3 4 := ⟨by decide +kernel, rfl⟩
theorem eX11_read_4 : sl_B YX11_read 4 (fun o => .ifCond .ne o) 7 13 := ⟨9, by decide +kernel, rfl, by decide⟩
theorem eX11_read_7 : sl_D YX11_read 7 (.aload_n 0) 1 8 := ⟨by decide +kernel, rfl⟩
theorem eX11_read_8 : sl_D YX11_read 8 (.iconst 1) 1 9 := ⟨by decide +kernel, rfl⟩
theorem eX11_read_9 : sl_D YX11_read 9 (.invokevirtual 76) 3 12 := ⟨by decide +kernel, rfl⟩
theorem eX11_read_12 : sl_D YX11_read 12 (.ireturn) 1 13 := ⟨by decide +kernel, rfl⟩
theorem eX11_read_13 : sl_D YX11_read 13 (.iload_n 1) 1 14 := ⟨by decide +kernel, rfl⟩
theorem eX11_read_14 : decode YX11_read.2.1 14 = .ok (.tableswitch 97 0 4 #[34, 46, 58, 70, 85], 34) := by decide +kernel
theorem eX11_read_48 : sl_D YX11_read 48 (.aload_n 0) 1 49 := ⟨by decide +kernel, rfl⟩
theorem eX11_read_49 : sl_D YX11_read 49 (.aload_n 0) 1 50 := ⟨by decide +kernel, rfl⟩
theorem eX11_read_50 : sl_D YX11_read 50 (.getfield 61) 3 53 := ⟨by decide +kernel, rfl⟩
theorem eX11_read_53 : sl_D YX11_read 53 (.getfield 223) 3 56 := ⟨by decide +kernel, rfl⟩
theorem eX11_read_56 : sl_D YX11_read 56 (.invokevirtual 110) 3 59 := ⟨by decide +kernel, rfl⟩
theorem eX11_read_59 : sl_D YX11_read 59 (.ireturn) 1 60 := ⟨by decide +kernel, rfl⟩
theorem eX11_read_60 : sl_D YX11_read 60 (.aload_n 0) 1 61 := ⟨by decide +kernel, rfl⟩
theorem eX11_read_61 : sl_D YX11_read 61 (.aload_n 0) 1 62 := ⟨by decide +kernel, rfl⟩
theorem eX11_read_62 : sl_D YX11_read 62 (.getfield 54) 3 65 := ⟨by decide +kernel, rfl⟩
theorem eX11_read_65 : sl_D YX11_read 65 (.invokevirtual 226) 3 68 := ⟨by decide +kernel, rfl⟩
theorem eX11_read_68 : sl_D YX11_read 68 (.invokevirtual 110) 3 71 := ⟨by decide +kernel, rfl⟩
theorem eX11_read_71 : sl_D YX11_read 71 (.ireturn) 1 72 := ⟨by decide +kernel, rfl⟩
theorem eX11_read_72 : sl_D YX11_read 72 (.aload_n 0) 1 73 := ⟨by decide +kernel, rfl⟩
theorem eX11_read_73 : sl_D YX11_read 73 (.aload_n 0) 1 74 := ⟨by decide +kernel, rfl⟩
theorem eX11_read_74 : sl_D YX11_read 74 (.getfield 61) 3 77 := ⟨by decide +kernel, rfl⟩
theorem eX11_read_77 : sl_D YX11_read 77 (.getfield 229) 3 80 := ⟨by decide +kernel, rfl⟩
theorem eX11_read_80 : sl_D YX11_read 80 (.invokevirtual 110) 3 83 := ⟨by decide +kernel, rfl⟩
theorem eX11_read_83 : sl_D YX11_read 83 (.ireturn) 1 84 := ⟨by decide +kernel, rfl⟩
theorem eX11_read_84 : sl_D YX11_read 84 (.aload_n 0) 1 85 := ⟨by decide +kernel, rfl⟩
theorem eX11_read_85 : sl_D YX11_read 85 (.aload_n 0) 1 86 := ⟨by decide +kernel, rfl⟩
theorem eX11_read_86 : sl_D YX11_read 86 (.getfield 61) 3 89 := ⟨by decide +kernel, rfl⟩
theorem eX11_read_89 : sl_D YX11_read 89 (.getfield 232) 3 92 := ⟨by decide +kernel, rfl⟩
theorem eX11_read_92 : sl_D YX11_read 92 (.getfield 236) 3 95 := ⟨by decide +kernel, rfl⟩
theorem eX11_read_95 : sl_D YX11_read 95 (.invokevirtual 110) 3 98 := ⟨by decide +kernel, rfl⟩
theorem eX11_read_98 : sl_D YX11_read 98 (.ireturn) 1 99 := ⟨by decide +kernel, rfl⟩
theorem eX11_read_99 : sl_D YX11_read 99 (.aload_n 0) 1 100 := ⟨by decide +kernel, rfl⟩
theorem eX11_read_100 : sl_D YX11_read 100 (.aload_n 0) 1 101 := ⟨by decide +kernel, rfl⟩
theorem eX11_read_101 : sl_D YX11_read 101 (.getfield 61) 3 104 := ⟨by decide +kernel, rfl⟩
theorem eX11_read_104 : sl_D YX11_read 104 (.getfield 241) 3 107 := ⟨by decide +kernel, rfl⟩
theorem eX11_read_107 : sl_D YX11_read 107 (.invokevirtual 110) 3 110 := ⟨by decide +kernel, rfl⟩
theorem eX11_read_110 : sl_D YX11_read 110 (.ireturn) 1 111 := ⟨by decide +kernel, rfl⟩
theorem eX11_read_111 : sl_D YX11_read 111 (.aload_n 0) 1 112 := ⟨by decide +kernel, rfl⟩
theorem eX11_read_112 : sl_D YX11_read 112 (.iconst 1) 1 113 := ⟨by decide +kernel, rfl⟩
theorem eX11_read_113 : sl_D YX11_read 113 (.invokevirtual 76) 3 116 := ⟨by decide +kernel, rfl⟩
theorem eX11_read_116 : sl_D YX11_read 116 (.ireturn) 1 117 := ⟨by decide +kernel, rfl⟩
theorem eX11_reduced_0 : sl_D YX11_reduced 0 (.aload_n 0) 1 1 := ⟨by decide +kernel, rfl⟩
theorem eX11_reduced_1 : sl_D YX11_reduced 1 (.iload_n 1) 1 2 := ⟨by decide +kernel, rfl⟩
theorem eX11_reduced_2 : sl_D YX11_reduced 2 (.invokevirtual 244) 3 5 := ⟨by decide +kernel, rfl⟩
theorem eX11_reduced_5 : sl_B YX11_reduced 5 (fun o => .ifCond .eq o) 8 27 := ⟨22, by decide +kernel, rfl, by decide⟩
theorem eX11_reduced_8 : sl_D YX11_reduced 8 (.aload_n 0) 1 9 := ⟨by decide +kernel, rfl⟩
theorem eX11_reduced_9 : sl_D YX11_reduced 9 (.aload_n 0) 1 10 := ⟨by decide +kernel, rfl⟩
theorem eX11_reduced_10 : sl_D YX11_reduced 10 (.getfield 61) 3 13 := ⟨by decide +kernel, rfl⟩
theorem eX11_reduced_13 : sl_D YX11_reduced 13 (.getfield 232) 3 16 := ⟨by decide +kernel, rfl⟩
theorem eX11_reduced_16 : sl_D YX11_reduced 16 (.getfield 247) 3 19 := ⟨by decide +kernel, rfl⟩
theorem eX11_reduced_19 : sl_D YX11_reduced 19 (.iload_n 1) 1 20 := ⟨by decide +kernel, rfl⟩
theorem eX11_reduced_20 : sl_D YX11_reduced 20 (.iaload) 1 21 := ⟨by decide +kernel, rfl⟩
theorem eX11_reduced_21 : sl_D YX11_reduced 21 (.invokevirtual 110) 3 24 := ⟨by decide +kernel, rfl⟩
theorem eX11_reduced_24 : sl_B YX11_reduced 24 (fun o => .goto o) 27 32 := ⟨8, by decide +kernel, rfl, by decide⟩
theorem eX11_reduced_27 : sl_D YX11_reduced 27 (.aload_n 0) 1 28 := ⟨by decide +kernel, rfl⟩
theorem eX11_reduced_28 : sl_D YX11_reduced 28 (.iconst 1) 1 29 := ⟨by decide +kernel, rfl⟩
theorem eX11_reduced_29 : sl_D YX11_reduced 29 (.invokevirtual 76) 3 32 := ⟨by decide +kernel, rfl⟩
theorem eX11_reduced_32 : sl_D YX11_reduced 32 (.ireturn) 1 33 := ⟨by decide +kernel, rfl⟩
theorem eX11_node_0 : sl_D YX11_node 0 (.aload_n 0) 1 1 := ⟨by decide +kernel, rfl⟩
theorem eX11_node_1 : sl_D YX11_node 1 (.iload_n 1) 1 2 := ⟨by decide +kernel, rfl⟩
theorem eX11_node_2 : sl_D YX11_node 2 (.invokevirtual 244) 3 5 := ⟨by decide +kernel, rfl⟩
theorem eX11_node_5 : sl_B YX11_node 5 (fun o => .ifCond .eq o) 8 17 := ⟨12, by decide +kernel, rfl, by decide⟩
theorem eX11_node_8 : sl_D YX11_node 8 (.iload_n 2) 1 9 := ⟨by decide +kernel, rfl⟩
theorem eX11_node_9 : sl_B YX11_node 9 (fun o => .ifCond .lt o) 12 17 := ⟨8, by decide +kernel, rfl, by decide⟩
theorem eX11_node_12 : sl_D YX11_node 12 (.iload_n 2) 1 13 := ⟨by decide +kernel, rfl⟩
theorem eX11_node_13 : sl_D YX11_node 13 (.iconst 4) 1 14 := ⟨by decide +kernel, rfl⟩
theorem eX11_node_14 : sl_B YX11_node 14 (fun o => .if_icmp .le o) 17 26 := ⟨12, by decide +kernel, rfl, by decide⟩
theorem eX11_node_17 : sl_D YX11_node 17 (.aload_n 0) 1 18 := ⟨by decide +kernel, rfl⟩
theorem eX11_node_18 : sl_D YX11_node 18 (.iconst 1) 1 19 := ⟨by decide +kernel, rfl⟩
theorem eX11_node_19 : sl_D YX11_node 19 (.invokevirtual 76) 3 22 := ⟨by decide +kernel, rfl⟩
theorem eX11_node_22 : sl_D YX11_node 22 (.pop) 1 23 := ⟨by decide +kernel, rfl⟩
theorem eX11_node_23 : sl_D YX11_node 23 (.ldc 251) 2 25 := ⟨by decide +kernel, rfl⟩
theorem eX11_node_25 : sl_D YX11_node 25 (.ireturn) 1 26 := ⟨by decide +kernel, rfl⟩
theorem eX11_node_26 : sl_D YX11_node 26 (.aload_n 0) 1 27 := ⟨by decide +kernel, rfl⟩
theorem eX11_node_27 : sl_D YX11_node 27 (.getfield 61) 3 30 := ⟨by decide +kernel, rfl⟩
theorem eX11_node_30 : sl_D YX11_node 30 (.getfield 232) 3 33 := ⟨by decide +kernel, rfl⟩
theorem eX11_node_33 : sl_D YX11_node 33 (.astore_n 3) 1 34 := ⟨by decide +kernel, rfl⟩
theorem eX11_node_34 : sl_D YX11_node 34 (.iload_n 2) 1 35 := ⟨by decide +kernel, rfl⟩
theorem eX11_node_35 : decode YX11_node.2.1 35 = .ok (.tableswitch 81 0 3 #[29, 40, 51, 62], 29) := by decide +kernel
theorem eX11_node_64 : sl_D YX11_node 64 (.aload_n 0) 1 65 := ⟨by decide +kernel, rfl⟩
theorem eX11_node_65 : sl_D YX11_node 65 (.aload_n 3) 1 66 := ⟨by decide +kernel, rfl⟩
theorem eX11_node_66 : sl_D YX11_node 66 (.getfield 252) 3 69 := ⟨by decide +kernel, rfl⟩
theorem eX11_node_69 : sl_D YX11_node 69 (.iload_n 1) 1 70 := ⟨by decide +kernel, rfl⟩
theorem eX11_node_70 : sl_D YX11_node 70 (.iaload) 1 71 := ⟨by decide +kernel, rfl⟩
theorem eX11_node_71 : sl_D YX11_node 71 (.invokevirtual 110) 3 74 := ⟨by decide +kernel, rfl⟩
theorem eX11_node_74 : sl_D YX11_node 74 (.ireturn) 1 75 := ⟨by decide +kernel, rfl⟩
theorem eX11_node_75 : sl_D YX11_node 75 (.aload_n 0) 1 76 := ⟨by decide +kernel, rfl⟩
theorem eX11_node_76 : sl_D YX11_node 76 (.aload_n 3) 1 77 := ⟨by decide +kernel, rfl⟩
theorem eX11_node_77 : sl_D YX11_node 77 (.getfield 255) 3 80 := ⟨by decide +kernel, rfl⟩
theorem eX11_node_80 : sl_D YX11_node 80 (.iload_n 1) 1 81 := ⟨by decide +kernel, rfl⟩
theorem eX11_node_81 : sl_D YX11_node 81 (.iaload) 1 82 := ⟨by decide +kernel, rfl⟩
theorem eX11_node_82 : sl_D YX11_node 82 (.invokevirtual 110) 3 85 := ⟨by decide +kernel, rfl⟩
theorem eX11_node_85 : sl_D YX11_node 85 (.ireturn) 1 86 := ⟨by decide +kernel, rfl⟩
theorem eX11_node_86 : sl_D YX11_node 86 (.aload_n 0) 1 87 := ⟨by decide +kernel, rfl⟩
theorem eX11_node_87 : sl_D YX11_node 87 (.aload_n 3) 1 88 := ⟨by decide +kernel, rfl⟩
theorem eX11_node_88 : sl_D YX11_node 88 (.getfield 258) 3 91 := ⟨by decide +kernel, rfl⟩
theorem eX11_node_91 : sl_D YX11_node 91 (.iload_n 1) 1 92 := ⟨by decide +kernel, rfl⟩
theorem eX11_node_92 : sl_D YX11_node 92 (.iaload) 1 93 := ⟨by decide +kernel, rfl⟩
theorem eX11_node_93 : sl_D YX11_node 93 (.invokevirtual 110) 3 96 := ⟨by decide +kernel, rfl⟩
theorem eX11_node_96 : sl_D YX11_node 96 (.ireturn) 1 97 := ⟨by decide +kernel, rfl⟩
theorem eX11_node_97 : sl_D YX11_node 97 (.aload_n 0) 1 98 := ⟨by decide +kernel, rfl⟩
theorem eX11_node_98 : sl_D YX11_node 98 (.aload_n 3) 1 99 := ⟨by decide +kernel, rfl⟩
theorem eX11_node_99 : sl_D YX11_node 99 (.getfield 261) 3 102 := ⟨by decide +kernel, rfl⟩
theorem eX11_node_102 : sl_D YX11_node 102 (.iload_n 1) 1 103 := ⟨by decide +kernel, rfl⟩
theorem eX11_node_103 : sl_D YX11_node 103 (.baload) 1 104 := ⟨by decide +kernel, rfl⟩
theorem eX11_node_104 : sl_B YX11_node 104 (fun o => .ifCond .eq o) 107 111 := ⟨7, by decide +kernel, rfl, by decide⟩
theorem eX11_node_107 : sl_D YX11_node 107 (.iconst 1) 1 108 := ⟨by decide +kernel, rfl⟩
theorem eX11_node_108 : sl_B YX11_node 108 (fun o => .goto o) 111 112 := ⟨4, by decide +kernel, rfl, by decide⟩
theorem eX11_node_111 : sl_D YX11_node 111 (.iconst 0) 1 112 := ⟨by decide +kernel, rfl⟩
theorem eX11_node_112 : sl_D YX11_node 112 (.invokevirtual 110) 3 115 := ⟨by decide +kernel, rfl⟩
theorem eX11_node_115 : sl_D YX11_node 115 (.ireturn) 1 116 := ⟨by decide +kernel, rfl⟩
theorem eX11_node_116 : sl_D YX11_node 116 (.aload_n 0) 1 117 := ⟨by decide +kernel, rfl⟩
theorem eX11_node_117 : sl_D YX11_node 117 (.aload_n 3) 1 118 := ⟨by decide +kernel, rfl⟩
theorem eX11_node_118 : sl_D YX11_node 118 (.getfield 264) 3 121 := ⟨by decide +kernel, rfl⟩
theorem eX11_node_121 : sl_D YX11_node 121 (.iload_n 1) 1 122 := ⟨by decide +kernel, rfl⟩
theorem eX11_node_122 : sl_D YX11_node 122 (.iaload) 1 123 := ⟨by decide +kernel, rfl⟩
theorem eX11_node_123 : sl_D YX11_node 123 (.invokevirtual 110) 3 126 := ⟨by decide +kernel, rfl⟩
theorem eX11_node_126 : sl_D YX11_node 126 (.ireturn) 1 127 := ⟨by decide +kernel, rfl⟩
theorem eX11_under_0 : sl_D YX11_under 0 (.aload_n 0) 1 1 := ⟨by decide +kernel, rfl⟩
theorem eX11_under_1 : sl_D YX11_under 1 (.iload_n 1) 1 2 := ⟨by decide +kernel, rfl⟩
theorem eX11_under_2 : sl_D YX11_under 2 (.invokevirtual 244) 3 5 := ⟨by decide +kernel, rfl⟩
theorem eX11_under_5 : sl_B YX11_under 5 (fun o => .ifCond .eq o) 8 28 := ⟨23, by decide +kernel, rfl, by decide⟩
theorem eX11_under_8 : sl_D YX11_under 8 (.iload_n 2) 1 9 := ⟨by decide +kernel, rfl⟩
theorem eX11_under_9 : sl_B YX11_under 9 (fun o => .ifCond .lt o) 12 28 := ⟨19, by decide +kernel, rfl, by decide⟩
theorem eX11_under_12 : sl_D YX11_under 12 (.iload_n 2) 1 13 := ⟨by decide +kernel, rfl⟩
theorem eX11_under_13 : sl_D YX11_under 13 (.aload_n 0) 1 14 := ⟨by decide +kernel, rfl⟩
theorem eX11_under_14 : sl_D YX11_under 14 (.getfield 61) 3 17 := ⟨by decide +kernel, rfl⟩
theorem eX11_under_17 : sl_D YX11_under 17 (.getfield 232) 3 20 := ⟨by decide +kernel, rfl⟩
theorem eX11_under_20 : sl_D YX11_under 20 (.getfield 267) 3 23 := ⟨by decide +kernel, rfl⟩
theorem eX11_under_23 : sl_D YX11_under 23 (.iload_n 1) 1 24 := ⟨by decide +kernel, rfl⟩
theorem eX11_under_24 : sl_D YX11_under 24 (.iaload) 1 25 := ⟨by decide +kernel, rfl⟩
theorem eX11_under_25 : sl_B YX11_under 25 (fun o => .if_icmp .lt o) 28 34 := ⟨9, by decide +kernel, rfl, by decide⟩
theorem eX11_under_28 : sl_D YX11_under 28 (.aload_n 0) 1 29 := ⟨by decide +kernel, rfl⟩
theorem eX11_under_29 : sl_D YX11_under 29 (.iconst 1) 1 30 := ⟨by decide +kernel, rfl⟩
theorem eX11_under_30 : sl_D YX11_under 30 (.invokevirtual 76) 3 33 := ⟨by decide +kernel, rfl⟩
theorem eX11_under_33 : sl_D YX11_under 33 (.ireturn) 1 34 := ⟨by decide +kernel, rfl⟩
theorem eX11_under_34 : sl_D YX11_under 34 (.aload_n 0) 1 35 := ⟨by decide +kernel, rfl⟩
theorem eX11_under_35 : sl_D YX11_under 35 (.aload_n 0) 1 36 := ⟨by decide +kernel, rfl⟩
theorem eX11_under_36 : sl_D YX11_under 36 (.getfield 61) 3 39 := ⟨by decide +kernel, rfl⟩
theorem eX11_under_39 : sl_D YX11_under 39 (.getfield 232) 3 42 := ⟨by decide +kernel, rfl⟩
theorem eX11_under_42 : sl_D YX11_under 42 (.iload_n 1) 1 43 := ⟨by decide +kernel, rfl⟩
theorem eX11_under_43 : sl_D YX11_under 43 (.iload_n 2) 1 44 := ⟨by decide +kernel, rfl⟩
theorem eX11_under_44 : sl_D YX11_under 44 (.invokevirtual 270) 3 47 := ⟨by decide +kernel, rfl⟩
theorem eX11_under_47 : sl_D YX11_under 47 (.invokevirtual 110) 3 50 := ⟨by decide +kernel, rfl⟩
theorem eX11_under_50 : sl_D YX11_under 50 (.ireturn) 1 51 := ⟨by decide +kernel, rfl⟩
theorem eX11_value_0 : sl_D YX11_value 0 (.aload_n 0) 1 1 := ⟨by decide +kernel, rfl⟩
theorem eX11_value_1 : sl_D YX11_value 1 (.invokevirtual 273) 3 4 := ⟨by decide +kernel, rfl⟩
theorem eX11_value_4 : sl_B YX11_value 4 (fun o => .ifCond .eq o) 7 16 := ⟨12, by decide +kernel, rfl, by decide⟩
theorem eX11_value_7 : sl_D YX11_value 7 (.iload_n 1) 1 8 := ⟨by decide +kernel, rfl⟩
theorem eX11_value_8 : sl_B YX11_value 8 (fun o => .ifCond .lt o) 11 16 := ⟨8, by decide +kernel, rfl, by decide⟩
theorem eX11_value_11 : sl_D YX11_value 11 (.iload_n 1) 1 12 := ⟨by decide +kernel, rfl⟩
theorem eX11_value_12 : sl_D YX11_value 12 (.iconst 2) 1 13 := ⟨by decide +kernel, rfl⟩
theorem eX11_value_13 : sl_B YX11_value 13 (fun o => .if_icmp .le o) 16 25 := ⟨12, by decide +kernel, rfl, by decide⟩
theorem eX11_value_16 : sl_D YX11_value 16 (.aload_n 0) 1 17 := ⟨by decide +kernel, rfl⟩
theorem eX11_value_17 : sl_D YX11_value 17 (.iconst 1) 1 18 := ⟨by decide +kernel, rfl⟩
theorem eX11_value_18 : sl_D YX11_value 18 (.invokevirtual 76) 3 21 := ⟨by decide +kernel, rfl⟩
theorem eX11_value_21 : sl_D YX11_value 21 (.pop) 1 22 := ⟨by decide +kernel, rfl⟩
theorem eX11_value_22 : sl_D YX11_value 22 (.ldc 251) 2 24 := ⟨by decide +kernel, rfl⟩
theorem eX11_value_24 : sl_D YX11_value 24 (.ireturn) 1 25 := ⟨by decide +kernel, rfl⟩
theorem eX11_value_25 : sl_D YX11_value 25 (.aload_n 0) 1 26 := ⟨by decide +kernel, rfl⟩
theorem eX11_value_26 : sl_D YX11_value 26 (.getfield 61) 3 29 := ⟨by decide +kernel, rfl⟩
theorem eX11_value_29 : sl_D YX11_value 29 (.getfield 232) 3 32 := ⟨by decide +kernel, rfl⟩
theorem eX11_value_32 : sl_D YX11_value 32 (.getfield 261) 3 35 := ⟨by decide +kernel, rfl⟩
theorem eX11_value_35 : sl_D YX11_value 35 (.aload_n 0) 1 36 := ⟨by decide +kernel, rfl⟩
theorem eX11_value_36 : sl_D YX11_value 36 (.getfield 61) 3 39 := ⟨by decide +kernel, rfl⟩
theorem eX11_value_39 : sl_D YX11_value 39 (.invokevirtual 276) 3 42 := ⟨by decide +kernel, rfl⟩
theorem eX11_value_42 : sl_D YX11_value 42 (.baload) 1 43 := ⟨by decide +kernel, rfl⟩
theorem eX11_value_43 : sl_D YX11_value 43 (.istore_n 2) 1 44 := ⟨by decide +kernel, rfl⟩
theorem eX11_value_44 : sl_D YX11_value 44 (.aload_n 0) 1 45 := ⟨by decide +kernel, rfl⟩
theorem eX11_value_45 : sl_D YX11_value 45 (.getfield 61) 3 48 := ⟨by decide +kernel, rfl⟩
theorem eX11_value_48 : sl_D YX11_value 48 (.getfield 232) 3 51 := ⟨by decide +kernel, rfl⟩
theorem eX11_value_51 : sl_D YX11_value 51 (.getfield 264) 3 54 := ⟨by decide +kernel, rfl⟩
theorem eX11_value_54 : sl_D YX11_value 54 (.aload_n 0) 1 55 := ⟨by decide +kernel, rfl⟩
theorem eX11_value_55 : sl_D YX11_value 55 (.getfield 61) 3 58 := ⟨by decide +kernel, rfl⟩
theorem eX11_value_58 : sl_D YX11_value 58 (.invokevirtual 276) 3 61 := ⟨by decide +kernel, rfl⟩
theorem eX11_value_61 : sl_D YX11_value 61 (.iaload) 1 62 := ⟨by decide +kernel, rfl⟩
theorem eX11_value_62 : sl_D YX11_value 62 (.istore_n 3) 1 63 := ⟨by decide +kernel, rfl⟩
theorem eX11_value_63 : sl_D YX11_value 63 (.iload_n 1) 1 64 := ⟨by decide +kernel, rfl⟩
theorem eX11_value_64 : decode YX11_value.2.1 64 = .ok (.lookupswitch 48 #[(0, 28), (1, 42)], 28) := by decide +kernel
theorem eX11_value_92 : sl_D YX11_value 92 (.aload_n 0) 1 93 := ⟨by decide +kernel, rfl⟩
theorem eX11_value_93 : sl_D YX11_value 93 (.iload_n 2) 1 94 := ⟨by decide +kernel, rfl⟩
theorem eX11_value_94 : sl_B YX11_value 94 (fun o => .ifCond .eq o) 97 101 := ⟨7, by decide +kernel, rfl, by decide⟩
theorem eX11_value_97 : sl_D YX11_value 97 (.iconst 1) 1 98 := ⟨by decide +kernel, rfl⟩
theorem eX11_value_98 : sl_B YX11_value 98 (fun o => .goto o) 101 102 := ⟨4, by decide +kernel, rfl, by decide⟩
theorem eX11_value_101 : sl_D YX11_value 101 (.iconst 0) 1 102 := ⟨by decide +kernel, rfl⟩
theorem eX11_value_102 : sl_D YX11_value 102 (.invokevirtual 110) 3 105 := ⟨by decide +kernel, rfl⟩
theorem eX11_value_105 : sl_D YX11_value 105 (.ireturn) 1 106 := ⟨by decide +kernel, rfl⟩
theorem eX11_value_106 : sl_D YX11_value 106 (.aload_n 0) 1 107 := ⟨by decide +kernel, rfl⟩
theorem eX11_value_107 : sl_D YX11_value 107 (.iload_n 3) 1 108 := ⟨by decide +kernel, rfl⟩
theorem eX11_value_108 : sl_D YX11_value 108 (.invokevirtual 110) 3 111 := ⟨by decide +kernel, rfl⟩
theorem eX11_value_111 : sl_D YX11_value 111 (.ireturn) 1 112 := ⟨by decide +kernel, rfl⟩
theorem eX11_value_112 : sl_D YX11_value 112 (.aload_n 0) 1 113 := ⟨by decide +kernel, rfl⟩
theorem eX11_value_113 : sl_D YX11_value 113 (.iload_n 2) 1 114 := ⟨by decide +kernel, rfl⟩
theorem eX11_value_114 : sl_B YX11_value 114 (fun o => .ifCond .eq o) 117 124 := ⟨10, by decide +kernel, rfl, by decide⟩
theorem eX11_value_117 : sl_D YX11_value 117 (.iload_n 3) 1 118 := ⟨by decide +kernel, rfl⟩
theorem eX11_value_118 : sl_D YX11_value 118 (.invokestatic 279) 3 121 := ⟨by decide +kernel, rfl⟩
theorem eX11_value_121 : sl_B YX11_value 121 (fun o => .goto o) 124 125 := ⟨4, by decide +kernel, rfl, by decide⟩
theorem eX11_value_124 : sl_D YX11_value 124 (.iload_n 3) 1 125 := ⟨by decide +kernel, rfl⟩
theorem eX11_value_125 : sl_D YX11_value 125 (.invokevirtual 110) 3 128 := ⟨by decide +kernel, rfl⟩
theorem eX11_value_128 : sl_D YX11_value 128 (.ireturn) 1 129 := ⟨by decide +kernel, rfl⟩
theorem eX11_third_0 : sl_D YX11_third 0 (.aload_n 0) 1 1 := ⟨by decide +kernel, rfl⟩
theorem eX11_third_1 : sl_D YX11_third 1 (.invokevirtual 273) 3 4 := ⟨by decide +kernel, rfl⟩
theorem eX11_third_4 : sl_B YX11_third 4 (fun o => .ifCond .ne o) 7 17 := ⟨13, by decide +kernel, rfl, by decide⟩
theorem eX11_third_7 : sl_D YX11_third 7 (.aload_n 0) 1 8 := ⟨by decide +kernel, rfl⟩
theorem eX11_third_8 : sl_D YX11_third 8 (.iconst 1) 1 9 := ⟨by decide +kernel, rfl⟩
theorem eX11_third_9 : sl_D YX11_third 9 (.invokevirtual 76) 3 12 := ⟨by decide +kernel, rfl⟩
theorem eX11_third_12 : sl_D YX11_third 12 (.pop) 1 13 := ⟨by decide +kernel, rfl⟩
theorem eX11_third_13 : sl_D YX11_third 13 (.ldc2_w 286) 3 16 := ⟨by decide +kernel, rfl⟩
theorem eX11_third_16 : sl_D YX11_third 16 (.lreturn) 1 17 := ⟨by decide +kernel, rfl⟩
theorem eX11_third_17 : sl_D YX11_third 17 (.aload_n 0) 1 18 := ⟨by decide +kernel, rfl⟩
theorem eX11_third_18 : sl_D YX11_third 18 (.iconst 0) 1 19 := ⟨by decide +kernel, rfl⟩
theorem eX11_third_19 : sl_D YX11_third 19 (.invokevirtual 110) 3 22 := ⟨by decide +kernel, rfl⟩
theorem eX11_third_22 : sl_D YX11_third 22 (.pop) 1 23 := ⟨by decide +kernel, rfl⟩
theorem eX11_third_23 : sl_D YX11_third 23 (.aload_n 0) 1 24 := ⟨by decide +kernel, rfl⟩
theorem eX11_third_24 : sl_D YX11_third 24 (.getfield 61) 3 27 := ⟨by decide +kernel, rfl⟩
theorem eX11_third_27 : sl_D YX11_third 27 (.getfield 232) 3 30 := ⟨by decide +kernel, rfl⟩
theorem eX11_third_30 : sl_D YX11_third 30 (.getfield 264) 3 33 := ⟨by decide +kernel, rfl⟩
theorem eX11_third_33 : sl_D YX11_third 33 (.aload_n 0) 1 34 := ⟨by decide +kernel, rfl⟩
theorem eX11_third_34 : sl_D YX11_third 34 (.getfield 61) 3 37 := ⟨by decide +kernel, rfl⟩
theorem eX11_third_37 : sl_D YX11_third 37 (.invokevirtual 276) 3 40 := ⟨by decide +kernel, rfl⟩
theorem eX11_third_40 : sl_D YX11_third 40 (.iaload) 1 41 := ⟨by decide +kernel, rfl⟩
theorem eX11_third_41 : sl_D YX11_third 41 (.istore_n 1) 1 42 := ⟨by decide +kernel, rfl⟩
theorem eX11_third_42 : sl_D YX11_third 42 (.aload_n 0) 1 43 := ⟨by decide +kernel, rfl⟩
theorem eX11_third_43 : sl_D YX11_third 43 (.getfield 61) 3 46 := ⟨by decide +kernel, rfl⟩
theorem eX11_third_46 : sl_D YX11_third 46 (.getfield 232) 3 49 := ⟨by decide +kernel, rfl⟩
theorem eX11_third_49 : sl_D YX11_third 49 (.getfield 261) 3 52 := ⟨by decide +kernel, rfl⟩
theorem eX11_third_52 : sl_D YX11_third 52 (.aload_n 0) 1 53 := ⟨by decide +kernel, rfl⟩
theorem eX11_third_53 : sl_D YX11_third 53 (.getfield 61) 3 56 := ⟨by decide +kernel, rfl⟩
theorem eX11_third_56 : sl_D YX11_third 56 (.invokevirtual 276) 3 59 := ⟨by decide +kernel, rfl⟩
theorem eX11_third_59 : sl_D YX11_third 59 (.baload) 1 60 := ⟨by decide +kernel, rfl⟩
theorem eX11_third_60 : sl_B YX11_third 60 (fun o => .ifCond .eq o) 63 70 := ⟨10, by decide +kernel, rfl, by decide⟩
theorem eX11_third_63 : sl_D YX11_third 63 (.iload_n 1) 1 64 := ⟨by decide +kernel, rfl⟩
theorem eX11_third_64 : sl_D YX11_third 64 (.invokestatic 288) 3 67 := ⟨by decide +kernel, rfl⟩
theorem eX11_third_67 : sl_B YX11_third 67 (fun o => .goto o) 70 74 := ⟨7, by decide +kernel, rfl, by decide⟩
theorem eX11_third_70 : sl_D YX11_third 70 (.iload_n 1) 1 71 := ⟨by decide +kernel, rfl⟩
theorem eX11_third_71 : sl_D YX11_third 71 (.invokestatic 292) 3 74 := ⟨by decide +kernel, rfl⟩
theorem eX11_third_74 : sl_D YX11_third 74 (.lreturn) 1 75 := ⟨by decide +kernel, rfl⟩
theorem eX11_otherwise_0 : sl_D YX11_otherwise 0 (.aload_n 0) 1 1 := ⟨by decide +kernel, rfl⟩
theorem eX11_otherwise_1 : sl_D YX11_otherwise 1 (.getfield 212) 3 4 := ⟨by decide +kernel, rfl⟩
theorem eX11_otherwise_4 : sl_B YX11_otherwise 4 (fun o => .ifCond .ne o) 7 13 := ⟨9, by decide +kernel, rfl, by decide⟩
theorem eX11_otherwise_7 : sl_D YX11_otherwise 7 (.aload_n 0) 1 8 := ⟨by decide +kernel, rfl⟩
theorem eX11_otherwise_8 : sl_D YX11_otherwise 8 (.iconst 1) 1 9 := ⟨by decide +kernel, rfl⟩
theorem eX11_otherwise_9 : sl_D YX11_otherwise 9 (.invokevirtual 76) 3 12 := ⟨by decide +kernel, rfl⟩
theorem eX11_otherwise_12 : sl_D YX11_otherwise 12 (.ireturn) 1 13 := ⟨by decide +kernel, rfl⟩
theorem eX11_otherwise_13 : sl_D YX11_otherwise 13 (.iconst 1) 1 14 := ⟨by decide +kernel, rfl⟩
theorem eX11_otherwise_14 : sl_D YX11_otherwise 14 (.aload_n 0) 1 15 := ⟨by decide +kernel, rfl⟩
theorem eX11_otherwise_15 : sl_D YX11_otherwise 15 (.getfield 61) 3 18 := ⟨by decide +kernel, rfl⟩
theorem eX11_otherwise_18 : sl_D YX11_otherwise 18 (.getfield 295) 3 21 := ⟨by decide +kernel, rfl⟩
theorem eX11_otherwise_21 : sl_D YX11_otherwise 21 (.isub) 1 22 := ⟨by decide +kernel, rfl⟩
theorem eX11_otherwise_22 : sl_D YX11_otherwise 22 (.istore_n 1) 1 23 := ⟨by decide +kernel, rfl⟩
theorem eX11_otherwise_23 : sl_D YX11_otherwise 23 (.aload_n 0) 1 24 := ⟨by decide +kernel, rfl⟩
theorem eX11_otherwise_24 : sl_D YX11_otherwise 24 (.iload_n 1) 1 25 := ⟨by decide +kernel, rfl⟩
theorem eX11_otherwise_25 : sl_D YX11_otherwise 25 (.invokevirtual 205) 3 28 := ⟨by decide +kernel, rfl⟩
theorem eX11_otherwise_28 : sl_B YX11_otherwise 28 (fun o => .ifCond .ne o) 31 37 := ⟨9, by decide +kernel, rfl, by decide⟩
theorem eX11_otherwise_31 : sl_D YX11_otherwise 31 (.aload_n 0) 1 32 := ⟨by decide +kernel, rfl⟩
theorem eX11_otherwise_32 : sl_D YX11_otherwise 32 (.iconst 5) 1 33 := ⟨by decide +kernel, rfl⟩
theorem eX11_otherwise_33 : sl_D YX11_otherwise 33 (.invokevirtual 76) 3 36 := ⟨by decide +kernel, rfl⟩
theorem eX11_otherwise_36 : sl_D YX11_otherwise 36 (.ireturn) 1 37 := ⟨by decide +kernel, rfl⟩
theorem eX11_otherwise_37 : sl_D YX11_otherwise 37 (.aload_n 0) 1 38 := ⟨by decide +kernel, rfl⟩
theorem eX11_otherwise_38 : sl_D YX11_otherwise 38 (.getfield 65) 3 41 := ⟨by decide +kernel, rfl⟩
theorem eX11_otherwise_41 : sl_D YX11_otherwise 41 (.aload_n 0) 1 42 := ⟨by decide +kernel, rfl⟩
theorem eX11_otherwise_42 : sl_D YX11_otherwise 42 (.getfield 16) 3 45 := ⟨by decide +kernel, rfl⟩
theorem eX11_otherwise_45 : sl_D YX11_otherwise 45 (.aload_n 0) 1 46 := ⟨by decide +kernel, rfl⟩
theorem eX11_otherwise_46 : sl_D YX11_otherwise 46 (.getfield 33) 3 49 := ⟨by decide +kernel, rfl⟩
theorem eX11_otherwise_49 : sl_D YX11_otherwise 49 (.aload_n 0) 1 50 := ⟨by decide +kernel, rfl⟩
theorem eX11_otherwise_50 : sl_D YX11_otherwise 50 (.getfield 40) 3 53 := ⟨by decide +kernel, rfl⟩
theorem eX11_otherwise_53 : sl_D YX11_otherwise 53 (.aload_n 0) 1 54 := ⟨by decide +kernel, rfl⟩
theorem eX11_otherwise_54 : sl_D YX11_otherwise 54 (.getfield 54) 3 57 := ⟨by decide +kernel, rfl⟩
theorem eX11_otherwise_57 : sl_D YX11_otherwise 57 (.iload_n 1) 1 58 := ⟨by decide +kernel, rfl⟩
theorem eX11_otherwise_58 : sl_D YX11_otherwise 58 (.invokevirtual 215) 3 61 := ⟨by decide +kernel, rfl⟩
theorem eX11_otherwise_61 : sl_D YX11_otherwise 61 (.aload_n 0) 1 62 := ⟨by decide +kernel, rfl⟩
theorem eX11_otherwise_62 : sl_D YX11_otherwise 62 (.aload_n 0) 1 63 := ⟨by decide +kernel, rfl⟩
theorem eX11_otherwise_63 : sl_D YX11_otherwise 63 (.getfield 65) 3 66 := ⟨by decide +kernel, rfl⟩
theorem eX11_otherwise_66 : sl_D YX11_otherwise 66 (.invokevirtual 219) 3 69 := ⟨by decide +kernel, rfl⟩
theorem eX11_otherwise_69 : sl_D YX11_otherwise 69 (.ireturn) 1 70 := ⟨by decide +kernel, rfl⟩
theorem eX11_later_0 : sl_D YX11_later 0 (.aload_n 0) 1 1 := ⟨by decide +kernel, rfl⟩
theorem eX11_later_1 : sl_D YX11_later 1 (.getfield 212) 3 4 := ⟨by decide +kernel, rfl⟩
theorem eX11_later_4 : sl_B YX11_later 4 (fun o => .ifCond .ne o) 7 13 := ⟨9, by decide +kernel, rfl, by decide⟩
theorem eX11_later_7 : sl_D YX11_later 7 (.aload_n 0) 1 8 := ⟨by decide +kernel, rfl⟩
theorem eX11_later_8 : sl_D YX11_later 8 (.iconst 1) 1 9 := ⟨by decide +kernel, rfl⟩
theorem eX11_later_9 : sl_D YX11_later 9 (.invokevirtual 76) 3 12 := ⟨by decide +kernel, rfl⟩
theorem eX11_later_12 : sl_D YX11_later 12 (.ireturn) 1 13 := ⟨by decide +kernel, rfl⟩
theorem eX11_later_13 : sl_D YX11_later 13 (.aload_n 0) 1 14 := ⟨by decide +kernel, rfl⟩
theorem eX11_later_14 : sl_D YX11_later 14 (.iconst 0) 1 15 := ⟨by decide +kernel, rfl⟩
theorem eX11_later_15 : sl_D YX11_later 15 (.invokevirtual 205) 3 18 := ⟨by decide +kernel, rfl⟩
theorem eX11_later_18 : sl_B YX11_later 18 (fun o => .ifCond .eq o) 21 29 := ⟨11, by decide +kernel, rfl, by decide⟩
theorem eX11_later_21 : sl_D YX11_later 21 (.aload_n 0) 1 22 := ⟨by decide +kernel, rfl⟩
theorem eX11_later_22 : sl_D YX11_later 22 (.iconst 1) 1 23 := ⟨by decide +kernel, rfl⟩
theorem eX11_later_23 : sl_D YX11_later 23 (.invokevirtual 205) 3 26 := ⟨by decide +kernel, rfl⟩
theorem eX11_later_26 : sl_B YX11_later 26 (fun o => .ifCond .ne o) 29 35 := ⟨9, by decide +kernel, rfl, by decide⟩
theorem eX11_later_29 : sl_D YX11_later 29 (.aload_n 0) 1 30 := ⟨by decide +kernel, rfl⟩
theorem eX11_later_30 : sl_D YX11_later 30 (.iconst 5) 1 31 := ⟨by decide +kernel, rfl⟩
theorem eX11_later_31 : sl_D YX11_later 31 (.invokevirtual 76) 3 34 := ⟨by decide +kernel, rfl⟩
theorem eX11_later_34 : sl_D YX11_later 34 (.ireturn) 1 35 := ⟨by decide +kernel, rfl⟩
theorem eX11_later_35 : sl_D YX11_later 35 (.aload_n 0) 1 36 := ⟨by decide +kernel, rfl⟩
theorem eX11_later_36 : sl_D YX11_later 36 (.getfield 65) 3 39 := ⟨by decide +kernel, rfl⟩
theorem eX11_later_39 : sl_D YX11_later 39 (.aload_n 0) 1 40 := ⟨by decide +kernel, rfl⟩
theorem eX11_later_40 : sl_D YX11_later 40 (.getfield 16) 3 43 := ⟨by decide +kernel, rfl⟩
theorem eX11_later_43 : sl_D YX11_later 43 (.aload_n 0) 1 44 := ⟨by decide +kernel, rfl⟩
theorem eX11_later_44 : sl_D YX11_later 44 (.getfield 33) 3 47 := ⟨by decide +kernel, rfl⟩
theorem eX11_later_47 : sl_D YX11_later 47 (.aload_n 0) 1 48 := ⟨by decide +kernel, rfl⟩
theorem eX11_later_48 : sl_D YX11_later 48 (.getfield 40) 3 51 := ⟨by decide +kernel, rfl⟩
theorem eX11_later_51 : sl_D YX11_later 51 (.aload_n 0) 1 52 := ⟨by decide +kernel, rfl⟩
theorem eX11_later_52 : sl_D YX11_later 52 (.getfield 54) 3 55 := ⟨by decide +kernel, rfl⟩
theorem eX11_later_55 : sl_D YX11_later 55 (.iconst 1) 1 56 := ⟨by decide +kernel, rfl⟩
theorem eX11_later_56 : sl_D YX11_later 56 (.aload_n 0) 1 57 := ⟨by decide +kernel, rfl⟩
theorem eX11_later_57 : sl_D YX11_later 57 (.getfield 61) 3 60 := ⟨by decide +kernel, rfl⟩
theorem eX11_later_60 : sl_D YX11_later 60 (.getfield 295) 3 63 := ⟨by decide +kernel, rfl⟩
theorem eX11_later_63 : sl_D YX11_later 63 (.isub) 1 64 := ⟨by decide +kernel, rfl⟩
theorem eX11_later_64 : sl_D YX11_later 64 (.invokevirtual 215) 3 67 := ⟨by decide +kernel, rfl⟩
theorem eX11_later_67 : sl_D YX11_later 67 (.aload_n 0) 1 68 := ⟨by decide +kernel, rfl⟩
theorem eX11_later_68 : sl_D YX11_later 68 (.getfield 65) 3 71 := ⟨by decide +kernel, rfl⟩
theorem eX11_later_71 : sl_D YX11_later 71 (.getfield 229) 3 74 := ⟨by decide +kernel, rfl⟩
theorem eX11_later_74 : sl_D YX11_later 74 (.aload_n 0) 1 75 := ⟨by decide +kernel, rfl⟩
theorem eX11_later_75 : sl_D YX11_later 75 (.getfield 61) 3 78 := ⟨by decide +kernel, rfl⟩
theorem eX11_later_78 : sl_D YX11_later 78 (.getfield 229) 3 81 := ⟨by decide +kernel, rfl⟩
theorem eX11_later_81 : sl_D YX11_later 81 (.isub) 1 82 := ⟨by decide +kernel, rfl⟩
theorem eX11_later_82 : sl_D YX11_later 82 (.istore_n 1) 1 83 := ⟨by decide +kernel, rfl⟩
theorem eX11_later_83 : sl_D YX11_later 83 (.aload_n 0) 1 84 := ⟨by decide +kernel, rfl⟩
theorem eX11_later_84 : sl_D YX11_later 84 (.aload_n 0) 1 85 := ⟨by decide +kernel, rfl⟩
theorem eX11_later_85 : sl_D YX11_later 85 (.getfield 61) 3 88 := ⟨by decide +kernel, rfl⟩
theorem eX11_later_88 : sl_D YX11_later 88 (.getfield 295) 3 91 := ⟨by decide +kernel, rfl⟩
theorem eX11_later_91 : sl_B YX11_later 91 (fun o => .ifCond .ne o) 94 98 := ⟨7, by decide +kernel, rfl, by decide⟩
theorem eX11_later_94 : sl_D YX11_later 94 (.iload_n 1) 1 95 := ⟨by decide +kernel, rfl⟩
theorem eX11_later_95 : sl_B YX11_later 95 (fun o => .goto o) 98 100 := ⟨5, by decide +kernel, rfl, by decide⟩
theorem eX11_later_98 : sl_D YX11_later 98 (.iload_n 1) 1 99 := ⟨by decide +kernel, rfl⟩
theorem eX11_later_99 : sl_D YX11_later 99 (.ineg) 1 100 := ⟨by decide +kernel, rfl⟩
theorem eX11_later_100 : sl_D YX11_later 100 (.invokevirtual 110) 3 103 := ⟨by decide +kernel, rfl⟩
theorem eX11_later_103 : sl_D YX11_later 103 (.ireturn) 1 104 := ⟨by decide +kernel, rfl⟩
theorem eX11_aside_0 : sl_D YX11_aside 0 (.aload_n 0) 1 1 := ⟨by decide +kernel, rfl⟩
theorem eX11_aside_1 : sl_D YX11_aside 1 (.iload_n 1) 1 2 := ⟨by decide +kernel, rfl⟩
theorem eX11_aside_2 : sl_D YX11_aside 2 (.invokevirtual 128) 3 5 := ⟨by decide +kernel, rfl⟩
theorem eX11_aside_5 : sl_B YX11_aside 5 (fun o => .ifCond .ne o) 8 14 := ⟨9, by decide +kernel, rfl, by decide⟩
theorem eX11_aside_8 : sl_D YX11_aside 8 (.aload_n 0) 1 9 := ⟨by decide +kernel, rfl⟩
theorem eX11_aside_9 : sl_D YX11_aside 9 (.iconst 1) 1 10 := ⟨by decide +kernel, rfl⟩
theorem eX11_aside_10 : sl_D YX11_aside 10 (.invokevirtual 76) 3 13 := ⟨by decide +kernel, rfl⟩
theorem eX11_aside_13 : sl_D YX11_aside 13 (.ireturn) 1 14 := ⟨by decide +kernel, rfl⟩
theorem eX11_aside_14 : sl_D YX11_aside 14 (.iload_n 2) 1 15 := ⟨by decide +kernel, rfl⟩
theorem eX11_aside_15 : sl_B YX11_aside 15 (fun o => .ifCond .lt o) 18 23 := ⟨8, by decide +kernel, rfl, by decide⟩
theorem eX11_aside_18 : sl_D YX11_aside 18 (.iload_n 2) 1 19 := ⟨by decide +kernel, rfl⟩
theorem eX11_aside_19 : sl_D YX11_aside 19 (.iconst 1) 1 20 := ⟨by decide +kernel, rfl⟩
theorem eX11_aside_20 : sl_B YX11_aside 20 (fun o => .if_icmp .le o) 23 29 := ⟨9, by decide +kernel, rfl, by decide⟩
theorem eX11_aside_23 : sl_D YX11_aside 23 (.aload_n 0) 1 24 := ⟨by decide +kernel, rfl⟩
theorem eX11_aside_24 : sl_D YX11_aside 24 (.iconst 2) 1 25 := ⟨by decide +kernel, rfl⟩
theorem eX11_aside_25 : sl_D YX11_aside 25 (.invokevirtual 76) 3 28 := ⟨by decide +kernel, rfl⟩
theorem eX11_aside_28 : sl_D YX11_aside 28 (.ireturn) 1 29 := ⟨by decide +kernel, rfl⟩
theorem eX11_aside_29 : sl_D YX11_aside 29 (.aload_n 0) 1 30 := ⟨by decide +kernel, rfl⟩
theorem eX11_aside_30 : sl_D YX11_aside 30 (.getfield 16) 3 33 := ⟨by decide +kernel, rfl⟩
theorem eX11_aside_33 : sl_D YX11_aside 33 (.getfield 142) 3 36 := ⟨by decide +kernel, rfl⟩
theorem eX11_aside_36 : sl_D YX11_aside 36 (.iload_n 1) 1 37 := ⟨by decide +kernel, rfl⟩
theorem eX11_aside_37 : sl_D YX11_aside 37 (.baload) 1 38 := ⟨by decide +kernel, rfl⟩
theorem eX11_aside_38 : sl_D YX11_aside 38 (.iload_n 2) 1 39 := ⟨by decide +kernel, rfl⟩
theorem eX11_aside_39 : sl_D YX11_aside 39 (.iconst 1) 1 40 := ⟨by decide +kernel, rfl⟩
theorem eX11_aside_40 : sl_B YX11_aside 40 (fun o => .if_icmp .ne o) 43 47 := ⟨7, by decide +kernel, rfl, by decide⟩
theorem eX11_aside_43 : sl_D YX11_aside 43 (.iconst 1) 1 44 := ⟨by decide +kernel, rfl⟩
theorem eX11_aside_44 : sl_B YX11_aside 44 (fun o => .goto o) 47 48 := ⟨4, by decide +kernel, rfl, by decide⟩
theorem eX11_aside_47 : sl_D YX11_aside 47 (.iconst 0) 1 48 := ⟨by decide +kernel, rfl⟩
theorem eX11_aside_48 : sl_B YX11_aside 48 (fun o => .if_icmp .ne o) 51 57 := ⟨9, by decide +kernel, rfl, by decide⟩
theorem eX11_aside_51 : sl_D YX11_aside 51 (.aload_n 0) 1 52 := ⟨by decide +kernel, rfl⟩
theorem eX11_aside_52 : sl_D YX11_aside 52 (.iconst 5) 1 53 := ⟨by decide +kernel, rfl⟩
theorem eX11_aside_53 : sl_D YX11_aside 53 (.invokevirtual 76) 3 56 := ⟨by decide +kernel, rfl⟩
theorem eX11_aside_56 : sl_D YX11_aside 56 (.ireturn) 1 57 := ⟨by decide +kernel, rfl⟩
theorem eX11_aside_57 : sl_D YX11_aside 57 (.aload_n 0) 1 58 := ⟨by decide +kernel, rfl⟩
theorem eX11_aside_58 : sl_D YX11_aside 58 (.getfield 47) 3 61 := ⟨by decide +kernel, rfl⟩
theorem eX11_aside_61 : sl_D YX11_aside 61 (.iload_n 1) 1 62 := ⟨by decide +kernel, rfl⟩
theorem eX11_aside_62 : sl_D YX11_aside 62 (.iconst 1) 1 63 := ⟨by decide +kernel, rfl⟩
theorem eX11_aside_63 : sl_D YX11_aside 63 (.iload_n 2) 1 64 := ⟨by decide +kernel, rfl⟩
theorem eX11_aside_64 : sl_D YX11_aside 64 (.isub) 1 65 := ⟨by decide +kernel, rfl⟩
theorem eX11_aside_65 : sl_D YX11_aside 65 (.invokevirtual 298) 3 68 := ⟨by decide +kernel, rfl⟩
theorem eX11_aside_68 : sl_D YX11_aside 68 (.aload_n 0) 1 69 := ⟨by decide +kernel, rfl⟩
theorem eX11_aside_69 : sl_D YX11_aside 69 (.getfield 16) 3 72 := ⟨by decide +kernel, rfl⟩
theorem eX11_aside_72 : sl_D YX11_aside 72 (.getfield 142) 3 75 := ⟨by decide +kernel, rfl⟩
theorem eX11_aside_75 : sl_D YX11_aside 75 (.iload_n 1) 1 76 := ⟨by decide +kernel, rfl⟩
theorem eX11_aside_76 : sl_D YX11_aside 76 (.iload_n 2) 1 77 := ⟨by decide +kernel, rfl⟩
theorem eX11_aside_77 : sl_D YX11_aside 77 (.iconst 1) 1 78 := ⟨by decide +kernel, rfl⟩
theorem eX11_aside_78 : sl_B YX11_aside 78 (fun o => .if_icmp .ne o) 81 85 := ⟨7, by decide +kernel, rfl, by decide⟩
theorem eX11_aside_81 : sl_D YX11_aside 81 (.iconst 1) 1 82 := ⟨by decide +kernel, rfl⟩
theorem eX11_aside_82 : sl_B YX11_aside 82 (fun o => .goto o) 85 86 := ⟨4, by decide +kernel, rfl, by decide⟩
theorem eX11_aside_85 : sl_D YX11_aside 85 (.iconst 0) 1 86 := ⟨by decide +kernel, rfl⟩
theorem eX11_aside_86 : sl_D YX11_aside 86 (.bastore) 1 87 := ⟨by decide +kernel, rfl⟩
theorem eX11_aside_87 : sl_D YX11_aside 87 (.aload_n 0) 1 88 := ⟨by decide +kernel, rfl⟩
theorem eX11_aside_88 : sl_D YX11_aside 88 (.invokevirtual 104) 3 91 := ⟨by decide +kernel, rfl⟩
theorem eX11_aside_91 : sl_D YX11_aside 91 (.aload_n 0) 1 92 := ⟨by decide +kernel, rfl⟩
theorem eX11_aside_92 : sl_D YX11_aside 92 (.aload_n 0) 1 93 := ⟨by decide +kernel, rfl⟩
theorem eX11_aside_93 : sl_D YX11_aside 93 (.getfield 16) 3 96 := ⟨by decide +kernel, rfl⟩
theorem eX11_aside_96 : sl_D YX11_aside 96 (.invokevirtual 302) 3 99 := ⟨by decide +kernel, rfl⟩
theorem eX11_aside_99 : sl_D YX11_aside 99 (.invokevirtual 110) 3 102 := ⟨by decide +kernel, rfl⟩
theorem eX11_aside_102 : sl_D YX11_aside 102 (.ireturn) 1 103 := ⟨by decide +kernel, rfl⟩
theorem eX11_kind_0 : sl_D YX11_kind 0 (.aload_n 0) 1 1 := ⟨by decide +kernel, rfl⟩
theorem eX11_kind_1 : sl_D YX11_kind 1 (.getfield 97) 3 4 := ⟨by decide +kernel, rfl⟩
theorem eX11_kind_4 : sl_B YX11_kind 4 (fun o => .ifCond .ne o) 7 13 := ⟨9, by decide +kernel, rfl, by decide⟩
theorem eX11_kind_7 : sl_D YX11_kind 7 (.aload_n 0) 1 8 := ⟨by decide +kernel, rfl⟩
theorem eX11_kind_8 : sl_D YX11_kind 8 (.iconst 1) 1 9 := ⟨by decide +kernel, rfl⟩
theorem eX11_kind_9 : sl_D YX11_kind 9 (.invokevirtual 76) 3 12 := ⟨by decide +kernel, rfl⟩
theorem eX11_kind_12 : sl_D YX11_kind 12 (.ireturn) 1 13 := ⟨by decide +kernel, rfl⟩
theorem eX11_kind_13 : sl_D YX11_kind 13 (.iload_n 1) 1 14 := ⟨by decide +kernel, rfl⟩
theorem eX11_kind_14 : sl_B YX11_kind 14 (fun o => .ifCond .lt o) 17 22 := ⟨8, by decide +kernel, rfl, by decide⟩
theorem eX11_kind_17 : sl_D YX11_kind 17 (.iload_n 1) 1 18 := ⟨by decide +kernel, rfl⟩
theorem eX11_kind_18 : sl_D YX11_kind 18 (.iconst 2) 1 19 := ⟨by decide +kernel, rfl⟩
theorem eX11_kind_19 : sl_B YX11_kind 19 (fun o => .if_icmp .le o) 22 28 := ⟨9, by decide +kernel, rfl, by decide⟩
theorem eX11_kind_22 : sl_D YX11_kind 22 (.aload_n 0) 1 23 := ⟨by decide +kernel, rfl⟩
theorem eX11_kind_23 : sl_D YX11_kind 23 (.iconst 2) 1 24 := ⟨by decide +kernel, rfl⟩
theorem eX11_kind_24 : sl_D YX11_kind 24 (.invokevirtual 76) 3 27 := ⟨by decide +kernel, rfl⟩
theorem eX11_kind_27 : sl_D YX11_kind 27 (.ireturn) 1 28 := ⟨by decide +kernel, rfl⟩
theorem eX11_kind_28 : sl_D YX11_kind 28 (.aload_n 0) 1 29 := ⟨by decide +kernel, rfl⟩
theorem eX11_kind_29 : sl_D YX11_kind 29 (.getfield 16) 3 32 := ⟨by decide +kernel, rfl⟩
theorem eX11_kind_32 : sl_D YX11_kind 32 (.getfield 119) 3 35 := ⟨by decide +kernel, rfl⟩
theorem eX11_kind_35 : sl_D YX11_kind 35 (.istore_n 2) 1 36 := ⟨by decide +kernel, rfl⟩
theorem eX11_kind_36 : sl_D YX11_kind 36 (.aload_n 0) 1 37 := ⟨by decide +kernel, rfl⟩
theorem eX11_kind_37 : sl_D YX11_kind 37 (.getfield 47) 3 40 := ⟨by decide +kernel, rfl⟩
theorem eX11_kind_40 : sl_D YX11_kind 40 (.iconst (-1)) 1 41 := ⟨by decide +kernel, rfl⟩
theorem eX11_kind_41 : sl_D YX11_kind 41 (.iload_n 2) 1 42 := ⟨by decide +kernel, rfl⟩
theorem eX11_kind_42 : sl_D YX11_kind 42 (.invokevirtual 298) 3 45 := ⟨by decide +kernel, rfl⟩
theorem eX11_kind_45 : sl_D YX11_kind 45 (.aload_n 0) 1 46 := ⟨by decide +kernel, rfl⟩
theorem eX11_kind_46 : sl_D YX11_kind 46 (.getfield 16) 3 49 := ⟨by decide +kernel, rfl⟩
theorem eX11_kind_49 : sl_D YX11_kind 49 (.iload_n 1) 1 50 := ⟨by decide +kernel, rfl⟩
theorem eX11_kind_50 : sl_D YX11_kind 50 (.putfield 119) 3 53 := ⟨by decide +kernel, rfl⟩
theorem eX11_kind_53 : sl_D YX11_kind 53 (.aload_n 0) 1 54 := ⟨by decide +kernel, rfl⟩
theorem eX11_kind_54 : sl_D YX11_kind 54 (.iconst 0) 1 55 := ⟨by decide +kernel, rfl⟩
theorem eX11_kind_55 : sl_D YX11_kind 55 (.putfield 212) 3 58 := ⟨by decide +kernel, rfl⟩
theorem eX11_kind_58 : sl_D YX11_kind 58 (.aload_n 0) 1 59 := ⟨by decide +kernel, rfl⟩
theorem eX11_kind_59 : sl_D YX11_kind 59 (.iload_n 2) 1 60 := ⟨by decide +kernel, rfl⟩
theorem eX11_kind_60 : sl_D YX11_kind 60 (.invokevirtual 110) 3 63 := ⟨by decide +kernel, rfl⟩
theorem eX11_kind_63 : sl_D YX11_kind 63 (.ireturn) 1 64 := ⟨by decide +kernel, rfl⟩
theorem eX11_undo_0 : sl_D YX11_undo 0 (.aload_n 0) 1 1 := ⟨by decide +kernel, rfl⟩
theorem eX11_undo_1 : sl_D YX11_undo 1 (.getfield 47) 3 4 := ⟨by decide +kernel, rfl⟩
theorem eX11_undo_4 : sl_D YX11_undo 4 (.getfield 305) 3 7 := ⟨by decide +kernel, rfl⟩
theorem eX11_undo_7 : sl_B YX11_undo 7 (fun o => .ifCond .ne o) 10 18 := ⟨11, by decide +kernel, rfl, by decide⟩
theorem eX11_undo_10 : sl_D YX11_undo 10 (.aload_n 0) 1 11 := ⟨by decide +kernel, rfl⟩
theorem eX11_undo_11 : sl_D YX11_undo 11 (.iconst 1) 1 12 := ⟨by decide +kernel, rfl⟩
theorem eX11_undo_12 : sl_D YX11_undo 12 (.invokevirtual 76) 3 15 := ⟨by decide +kernel, rfl⟩
theorem eX11_undo_15 : sl_D YX11_undo 15 (.pop) 1 16 := ⟨by decide +kernel, rfl⟩
theorem eX11_undo_16 : sl_D YX11_undo 16 (.iconst 0) 1 17 := ⟨by decide +kernel, rfl⟩
theorem eX11_undo_17 : sl_D YX11_undo 17 (.ireturn) 1 18 := ⟨by decide +kernel, rfl⟩
theorem eX11_undo_18 : sl_D YX11_undo 18 (.aload_n 0) 1 19 := ⟨by decide +kernel, rfl⟩
theorem eX11_undo_19 : sl_D YX11_undo 19 (.getfield 47) 3 22 := ⟨by decide +kernel, rfl⟩
theorem eX11_undo_22 : sl_D YX11_undo 22 (.aload_n 0) 1 23 := ⟨by decide +kernel, rfl⟩
theorem eX11_undo_23 : sl_D YX11_undo 23 (.getfield 16) 3 26 := ⟨by decide +kernel, rfl⟩
theorem eX11_undo_26 : sl_D YX11_undo 26 (.invokevirtual 306) 3 29 := ⟨by decide +kernel, rfl⟩
theorem eX11_undo_29 : sl_D YX11_undo 29 (.aload_n 0) 1 30 := ⟨by decide +kernel, rfl⟩
theorem eX11_undo_30 : sl_D YX11_undo 30 (.invokevirtual 104) 3 33 := ⟨by decide +kernel, rfl⟩
theorem eX11_undo_33 : sl_D YX11_undo 33 (.aload_n 0) 1 34 := ⟨by decide +kernel, rfl⟩
theorem eX11_undo_34 : sl_D YX11_undo 34 (.iconst 0) 1 35 := ⟨by decide +kernel, rfl⟩
theorem eX11_undo_35 : sl_D YX11_undo 35 (.invokevirtual 110) 3 38 := ⟨by decide +kernel, rfl⟩
theorem eX11_undo_38 : sl_D YX11_undo 38 (.pop) 1 39 := ⟨by decide +kernel, rfl⟩
theorem eX11_undo_39 : sl_D YX11_undo 39 (.iconst 1) 1 40 := ⟨by decide +kernel, rfl⟩
theorem eX11_undo_40 : sl_D YX11_undo 40 (.ireturn) 1 41 := ⟨by decide +kernel, rfl⟩
theorem eX11_barren_0 : sl_D YX11_barren 0 (.aload_n 0) 1 1 := ⟨by decide +kernel, rfl⟩
theorem eX11_barren_1 : sl_D YX11_barren 1 (.getfield 97) 3 4 := ⟨by decide +kernel, rfl⟩
theorem eX11_barren_4 : sl_B YX11_barren 4 (fun o => .ifCond .eq o) 7 22 := ⟨18, by decide +kernel, rfl, by decide⟩
theorem eX11_barren_7 : sl_D YX11_barren 7 (.iload_n 1) 1 8 := ⟨by decide +kernel, rfl⟩
theorem eX11_barren_8 : sl_B YX11_barren 8 (fun o => .ifCond .lt o) 11 22 := ⟨14, by decide +kernel, rfl, by decide⟩
theorem eX11_barren_11 : sl_D YX11_barren 11 (.aload_n 0) 1 12 := ⟨by decide +kernel, rfl⟩
theorem eX11_barren_12 : sl_D YX11_barren 12 (.getfield 16) 3 15 := ⟨by decide +kernel, rfl⟩
theorem eX11_barren_15 : sl_D YX11_barren 15 (.iload_n 1) 1 16 := ⟨by decide +kernel, rfl⟩
theorem eX11_barren_16 : sl_D YX11_barren 16 (.invokevirtual 310) 3 19 := ⟨by decide +kernel, rfl⟩
theorem eX11_barren_19 : sl_B YX11_barren 19 (fun o => .goto o) 22 23 := ⟨4, by decide +kernel, rfl, by decide⟩
theorem eX11_barren_22 : sl_D YX11_barren 22 (.iconst (-1)) 1 23 := ⟨by decide +kernel, rfl⟩
theorem eX11_barren_23 : sl_D YX11_barren 23 (.istore_n 2) 1 24 := ⟨by decide +kernel, rfl⟩
theorem eX11_barren_24 : sl_D YX11_barren 24 (.iload_n 2) 1 25 := ⟨by decide +kernel, rfl⟩
theorem eX11_barren_25 : sl_D YX11_barren 25 (.iconst (-1)) 1 26 := ⟨by decide +kernel, rfl⟩
theorem eX11_barren_26 : sl_B YX11_barren 26 (fun o => .if_icmp .ne o) 29 40 := ⟨14, by decide +kernel, rfl, by decide⟩
theorem eX11_barren_29 : sl_D YX11_barren 29 (.new 313) 3 32 := ⟨by decide +kernel, rfl⟩
theorem eX11_barren_32 : sl_D YX11_barren 32 (.dup) 1 33 := ⟨by decide +kernel, rfl⟩
theorem eX11_barren_33 : sl_D YX11_barren 33 (.ldc_w 315) 3 36 := ⟨by decide +kernel, rfl⟩
theorem eX11_barren_36 : sl_D YX11_barren 36 (.invokespecial 317) 3 39 := ⟨by decide +kernel, rfl⟩
theorem eX11_barren_39 : sl_D YX11_barren 39 (.athrow) 1 40 := ⟨by decide +kernel, rfl⟩
theorem eX11_barren_40 : sl_D YX11_barren 40 (.iload_n 2) 1 41 := ⟨by decide +kernel, rfl⟩
theorem eX11_barren_41 : sl_D YX11_barren 41 (.ireturn) 1 42 := ⟨by decide +kernel, rfl⟩
theorem eX11_size_0 : sl_D YX11_size 0 (.iload_n 1) 1 1 := ⟨by decide +kernel, rfl⟩
theorem eX11_size_1 : decode YX11_size.2.1 1 = .ok (.tableswitch 59 0 2 #[27, 32, 40], 27) := by decide +kernel
theorem eX11_size_28 : sl_D YX11_size 28 (.aload_n 0) 1 29 := ⟨by decide +kernel, rfl⟩
theorem eX11_size_29 : sl_D YX11_size 29 (.getfield 68) 3 32 := ⟨by decide +kernel, rfl⟩
theorem eX11_size_32 : sl_D YX11_size 32 (.ireturn) 1 33 := ⟨by decide +kernel, rfl⟩
theorem eX11_size_33 : sl_D YX11_size 33 (.aload_n 0) 1 34 := ⟨by decide +kernel, rfl⟩
theorem eX11_size_34 : sl_D YX11_size 34 (.getfield 47) 3 37 := ⟨by decide +kernel, rfl⟩
theorem eX11_size_37 : sl_D YX11_size 37 (.getfield 305) 3 40 := ⟨by decide +kernel, rfl⟩
theorem eX11_size_40 : sl_D YX11_size 40 (.ireturn) 1 41 := ⟨by decide +kernel, rfl⟩
theorem eX11_size_41 : sl_D YX11_size 41 (.aload_n 0) 1 42 := ⟨by decide +kernel, rfl⟩
theorem eX11_size_42 : sl_D YX11_size 42 (.getfield 97) 3 45 := ⟨by decide +kernel, rfl⟩
theorem eX11_size_45 : sl_B YX11_size 45 (fun o => .ifCond .eq o) 48 58 := ⟨13, by decide +kernel, rfl, by decide⟩
theorem eX11_size_48 : sl_D YX11_size 48 (.aload_n 0) 1 49 := ⟨by decide +kernel, rfl⟩
theorem eX11_size_49 : sl_D YX11_size 49 (.getfield 16) 3 52 := ⟨by decide +kernel, rfl⟩
theorem eX11_size_52 : sl_D YX11_size 52 (.invokevirtual 302) 3 55 := ⟨by decide +kernel, rfl⟩
theorem eX11_size_55 : sl_B YX11_size 55 (fun o => .goto o) 58 59 := ⟨4, by decide +kernel, rfl, by decide⟩
theorem eX11_size_58 : sl_D YX11_size 58 (.iconst 0) 1 59 := ⟨by decide +kernel, rfl⟩
theorem eX11_size_59 : sl_D YX11_size 59 (.ireturn) 1 60 := ⟨by decide +kernel, rfl⟩
theorem eX11_size_60 : sl_D YX11_size 60 (.iconst (-1)) 1 61 := ⟨by decide +kernel, rfl⟩
theorem eX11_size_61 : sl_D YX11_size 61 (.ireturn) 1 62 := ⟨by decide +kernel, rfl⟩
theorem eX11_trouble_0 : sl_D YX11_trouble 0 (.aload_n 0) 1 1 := ⟨by decide +kernel, rfl⟩
theorem eX11_trouble_1 : sl_D YX11_trouble 1 (.getfield 113) 3 4 := ⟨by decide +kernel, rfl⟩
theorem eX11_trouble_4 : sl_D YX11_trouble 4 (.ireturn) 1 5 := ⟨by decide +kernel, rfl⟩
theorem eX11_grant_0 : sl_D YX11_grant 0 (.aload_n 0) 1 1 := ⟨by decide +kernel, rfl⟩
theorem eX11_grant_1 : sl_D YX11_grant 1 (.iconst 0) 1 2 := ⟨by decide +kernel, rfl⟩
theorem eX11_grant_2 : sl_D YX11_grant 2 (.putfield 113) 3 5 := ⟨by decide +kernel, rfl⟩
theorem eX11_grant_5 : sl_D YX11_grant 5 (.iload_n 1) 1 6 := ⟨by decide +kernel, rfl⟩
theorem eX11_grant_6 : sl_D YX11_grant 6 (.ireturn) 1 7 := ⟨by decide +kernel, rfl⟩
theorem eX11_refuse_0 : sl_D YX11_refuse 0 (.aload_n 0) 1 1 := ⟨by decide +kernel, rfl⟩
theorem eX11_refuse_1 : sl_D YX11_refuse 1 (.iload_n 1) 1 2 := ⟨by decide +kernel, rfl⟩
theorem eX11_refuse_2 : sl_D YX11_refuse 2 (.putfield 113) 3 5 := ⟨by decide +kernel, rfl⟩
theorem eX11_refuse_5 : sl_D YX11_refuse 5 (.iconst (-1)) 1 6 := ⟨by decide +kernel, rfl⟩
theorem eX11_refuse_6 : sl_D YX11_refuse 6 (.ireturn) 1 7 := ⟨by decide +kernel, rfl⟩
theorem eX11_refuseAt_0 : sl_D YX11_refuseAt 0 (.aload_n 0) 1 1 := ⟨by decide +kernel, rfl⟩
theorem eX11_refuseAt_1 : sl_D YX11_refuseAt 1 (.iload_n 2) 1 2 := ⟨by decide +kernel, rfl⟩
theorem eX11_refuseAt_2 : sl_D YX11_refuseAt 2 (.putfield 116) 3 5 := ⟨by decide +kernel, rfl⟩
theorem eX11_refuseAt_5 : sl_D YX11_refuseAt 5 (.aload_n 0) 1 6 := ⟨by decide +kernel, rfl⟩
theorem eX11_refuseAt_6 : sl_D YX11_refuseAt 6 (.iload_n 1) 1 7 := ⟨by decide +kernel, rfl⟩
theorem eX11_refuseAt_7 : sl_D YX11_refuseAt 7 (.invokevirtual 76) 3 10 := ⟨by decide +kernel, rfl⟩
theorem eX11_refuseAt_10 : sl_D YX11_refuseAt 10 (.ireturn) 1 11 := ⟨by decide +kernel, rfl⟩
theorem eX11_putBytes_0 : sl_D YX11_putBytes 0 (.bipush 24) 2 2 := ⟨by decide +kernel, rfl⟩
theorem eX11_putBytes_2 : sl_D YX11_putBytes 2 (.istore_n 2) 1 3 := ⟨by decide +kernel, rfl⟩
theorem eX11_putBytes_3 : sl_D YX11_putBytes 3 (.iload_n 2) 1 4 := ⟨by decide +kernel, rfl⟩
theorem eX11_putBytes_4 : sl_B YX11_putBytes 4 (fun o => .ifCond .lt o) 7 46 := ⟨42, by decide +kernel, rfl, by decide⟩
theorem eX11_putBytes_7 : sl_D YX11_putBytes 7 (.aload_n 0) 1 8 := ⟨by decide +kernel, rfl⟩
theorem eX11_putBytes_8 : sl_D YX11_putBytes 8 (.getfield 68) 3 11 := ⟨by decide +kernel, rfl⟩
theorem eX11_putBytes_11 : sl_D YX11_putBytes 11 (.sipush 900) 3 14 := ⟨by decide +kernel, rfl⟩
theorem eX11_putBytes_14 : sl_B YX11_putBytes 14 (fun o => .if_icmp .ge o) 17 46 := ⟨32, by decide +kernel, rfl, by decide⟩
theorem eX11_putBytes_17 : sl_D YX11_putBytes 17 (.aload_n 0) 1 18 := ⟨by decide +kernel, rfl⟩
theorem eX11_putBytes_18 : sl_D YX11_putBytes 18 (.getfield 9) 3 21 := ⟨by decide +kernel, rfl⟩
theorem eX11_putBytes_21 : sl_D YX11_putBytes 21 (.aload_n 0) 1 22 := ⟨by decide +kernel, rfl⟩
theorem eX11_putBytes_22 : sl_D YX11_putBytes 22 (.getfield 68) 3 25 := ⟨by decide +kernel, rfl⟩
theorem eX11_putBytes_25 : sl_D YX11_putBytes 25 (.iload_n 1) 1 26 := ⟨by decide +kernel, rfl⟩
theorem eX11_putBytes_26 : sl_D YX11_putBytes 26 (.iload_n 2) 1 27 := ⟨by decide +kernel, rfl⟩
theorem eX11_putBytes_27 : sl_D YX11_putBytes 27 (.ishr) 1 28 := ⟨by decide +kernel, rfl⟩
theorem eX11_putBytes_28 : sl_D YX11_putBytes 28 (.i2b) 1 29 := ⟨by decide +kernel, rfl⟩
theorem eX11_putBytes_29 : sl_D YX11_putBytes 29 (.bastore) 1 30 := ⟨by decide +kernel, rfl⟩
theorem eX11_putBytes_30 : sl_D YX11_putBytes 30 (.aload_n 0) 1 31 := ⟨by decide +kernel, rfl⟩
theorem eX11_putBytes_31 : sl_D YX11_putBytes 31 (.dup) 1 32 := ⟨by decide +kernel, rfl⟩
theorem eX11_putBytes_32 : sl_D YX11_putBytes 32 (.getfield 68) 3 35 := ⟨by decide +kernel, rfl⟩
theorem eX11_putBytes_35 : sl_D YX11_putBytes 35 (.iconst 1) 1 36 := ⟨by decide +kernel, rfl⟩
theorem eX11_putBytes_36 : sl_D YX11_putBytes 36 (.iadd) 1 37 := ⟨by decide +kernel, rfl⟩
theorem eX11_putBytes_37 : sl_D YX11_putBytes 37 (.putfield 68) 3 40 := ⟨by decide +kernel, rfl⟩
theorem eX11_putBytes_40 : sl_D YX11_putBytes 40 (.iinc 2 (-8)) 3 43 := ⟨by decide +kernel, rfl⟩
theorem eX11_putBytes_43 : sl_B YX11_putBytes 43 (fun o => .goto o) 46 3 := ⟨-40, by decide +kernel, rfl, by decide⟩
theorem eX11_putBytes_46 : sl_D YX11_putBytes 46 (.return_) 1 47 := ⟨by decide +kernel, rfl⟩
theorem eX11_settle_0 : sl_D YX11_settle 0 (.aload_n 0) 1 1 := ⟨by decide +kernel, rfl⟩
theorem eX11_settle_1 : sl_D YX11_settle 1 (.getfield 33) 3 4 := ⟨by decide +kernel, rfl⟩
theorem eX11_settle_4 : sl_D YX11_settle 4 (.aload_n 0) 1 5 := ⟨by decide +kernel, rfl⟩
theorem eX11_settle_5 : sl_D YX11_settle 5 (.getfield 16) 3 8 := ⟨by decide +kernel, rfl⟩
theorem eX11_settle_8 : sl_D YX11_settle 8 (.invokevirtual 320) 3 11 := ⟨by decide +kernel, rfl⟩
theorem eX11_settle_11 : sl_D YX11_settle 11 (.aload_n 0) 1 12 := ⟨by decide +kernel, rfl⟩
theorem eX11_settle_12 : sl_D YX11_settle 12 (.getfield 40) 3 15 := ⟨by decide +kernel, rfl⟩
theorem eX11_settle_15 : sl_D YX11_settle 15 (.aload_n 0) 1 16 := ⟨by decide +kernel, rfl⟩
theorem eX11_settle_16 : sl_D YX11_settle 16 (.getfield 33) 3 19 := ⟨by decide +kernel, rfl⟩
theorem eX11_settle_19 : sl_D YX11_settle 19 (.invokevirtual 323) 3 22 := ⟨by decide +kernel, rfl⟩
theorem eX11_settle_22 : sl_D YX11_settle 22 (.aload_n 0) 1 23 := ⟨by decide +kernel, rfl⟩
theorem eX11_settle_23 : sl_D YX11_settle 23 (.iconst 0) 1 24 := ⟨by decide +kernel, rfl⟩
theorem eX11_settle_24 : sl_D YX11_settle 24 (.putfield 212) 3 27 := ⟨by decide +kernel, rfl⟩
theorem eX11_settle_27 : sl_D YX11_settle 27 (.return_) 1 28 := ⟨by decide +kernel, rfl⟩
theorem eX11_hasRule_0 : sl_D YX11_hasRule 0 (.aload_n 0) 1 1 := ⟨by decide +kernel, rfl⟩
theorem eX11_hasRule_1 : sl_D YX11_hasRule 1 (.getfield 97) 3 4 := ⟨by decide +kernel, rfl⟩
theorem eX11_hasRule_4 : sl_B YX11_hasRule 4 (fun o => .ifCond .eq o) 7 26 := ⟨22, by decide +kernel, rfl, by decide⟩
theorem eX11_hasRule_7 : sl_D YX11_hasRule 7 (.iload_n 1) 1 8 := ⟨by decide +kernel, rfl⟩
theorem eX11_hasRule_8 : sl_B YX11_hasRule 8 (fun o => .ifCond .lt o) 11 26 := ⟨18, by decide +kernel, rfl, by decide⟩
theorem eX11_hasRule_11 : sl_D YX11_hasRule 11 (.iload_n 1) 1 12 := ⟨by decide +kernel, rfl⟩
theorem eX11_hasRule_12 : sl_D YX11_hasRule 12 (.aload_n 0) 1 13 := ⟨by decide +kernel, rfl⟩
theorem eX11_hasRule_13 : sl_D YX11_hasRule 13 (.getfield 16) 3 16 := ⟨by decide +kernel, rfl⟩
theorem eX11_hasRule_16 : sl_D YX11_hasRule 16 (.getfield 107) 3 19 := ⟨by decide +kernel, rfl⟩
theorem eX11_hasRule_19 : sl_B YX11_hasRule 19 (fun o => .if_icmp .ge o) 22 26 := ⟨7, by decide +kernel, rfl, by decide⟩
theorem eX11_hasRule_22 : sl_D YX11_hasRule 22 (.iconst 1) 1 23 := ⟨by decide +kernel, rfl⟩
theorem eX11_hasRule_23 : sl_B YX11_hasRule 23 (fun o => .goto o) 26 27 := ⟨4, by decide +kernel, rfl, by decide⟩
theorem eX11_hasRule_26 : sl_D YX11_hasRule 26 (.iconst 0) 1 27 := ⟨by decide +kernel, rfl⟩
theorem eX11_hasRule_27 : sl_D YX11_hasRule 27 (.ireturn) 1 28 := ⟨by decide +kernel, rfl⟩
theorem eX11_hasTerminal_0 : sl_D YX11_hasTerminal 0 (.aload_n 0) 1 1 := ⟨by decide +kernel, rfl⟩
theorem eX11_hasTerminal_1 : sl_D YX11_hasTerminal 1 (.getfield 97) 3 4 := ⟨by decide +kernel, rfl⟩
theorem eX11_hasTerminal_4 : sl_B YX11_hasTerminal 4 (fun o => .ifCond .eq o) 7 26 := ⟨22, by decide +kernel, rfl, by decide⟩
theorem eX11_hasTerminal_7 : sl_D YX11_hasTerminal 7 (.iload_n 1) 1 8 := ⟨by decide +kernel, rfl⟩
theorem eX11_hasTerminal_8 : sl_B YX11_hasTerminal 8 (fun o => .ifCond .lt o) 11 26 := ⟨18, by decide +kernel, rfl, by decide⟩
theorem eX11_hasTerminal_11 : sl_D YX11_hasTerminal 11 (.iload_n 1) 1 12 := ⟨by decide +kernel, rfl⟩
theorem eX11_hasTerminal_12 : sl_D YX11_hasTerminal 12 (.aload_n 0) 1 13 := ⟨by decide +kernel, rfl⟩
theorem eX11_hasTerminal_13 : sl_D YX11_hasTerminal 13 (.getfield 16) 3 16 := ⟨by decide +kernel, rfl⟩
theorem eX11_hasTerminal_16 : sl_D YX11_hasTerminal 16 (.getfield 125) 3 19 := ⟨by decide +kernel, rfl⟩
theorem eX11_hasTerminal_19 : sl_B YX11_hasTerminal 19 (fun o => .if_icmp .gt o) 22 26 := ⟨7, by decide +kernel, rfl, by decide⟩
theorem eX11_hasTerminal_22 : sl_D YX11_hasTerminal 22 (.iconst 1) 1 23 := ⟨by decide +kernel, rfl⟩
theorem eX11_hasTerminal_23 : sl_B YX11_hasTerminal 23 (fun o => .goto o) 26 27 := ⟨4, by decide +kernel, rfl, by decide⟩
theorem eX11_hasTerminal_26 : sl_D YX11_hasTerminal 26 (.iconst 0) 1 27 := ⟨by decide +kernel, rfl⟩
theorem eX11_hasTerminal_27 : sl_D YX11_hasTerminal 27 (.ireturn) 1 28 := ⟨by decide +kernel, rfl⟩
theorem eX11_hasNode_0 : sl_D YX11_hasNode 0 (.aload_n 0) 1 1 := ⟨by decide +kernel, rfl⟩
theorem eX11_hasNode_1 : sl_D YX11_hasNode 1 (.getfield 212) 3 4 := ⟨by decide +kernel, rfl⟩
theorem eX11_hasNode_4 : sl_B YX11_hasNode 4 (fun o => .ifCond .eq o) 7 29 := ⟨25, by decide +kernel, rfl, by decide⟩
theorem eX11_hasNode_7 : sl_D YX11_hasNode 7 (.iload_n 1) 1 8 := ⟨by decide +kernel, rfl⟩
theorem eX11_hasNode_8 : sl_B YX11_hasNode 8 (fun o => .ifCond .lt o) 11 29 := ⟨21, by decide +kernel, rfl, by decide⟩
theorem eX11_hasNode_11 : sl_D YX11_hasNode 11 (.iload_n 1) 1 12 := ⟨by decide +kernel, rfl⟩
theorem eX11_hasNode_12 : sl_D YX11_hasNode 12 (.aload_n 0) 1 13 := ⟨by decide +kernel, rfl⟩
theorem eX11_hasNode_13 : sl_D YX11_hasNode 13 (.getfield 61) 3 16 := ⟨by decide +kernel, rfl⟩
theorem eX11_hasNode_16 : sl_D YX11_hasNode 16 (.getfield 232) 3 19 := ⟨by decide +kernel, rfl⟩
theorem eX11_hasNode_19 : sl_D YX11_hasNode 19 (.getfield 236) 3 22 := ⟨by decide +kernel, rfl⟩
theorem eX11_hasNode_22 : sl_B YX11_hasNode 22 (fun o => .if_icmp .ge o) 25 29 := ⟨7, by decide +kernel, rfl, by decide⟩
theorem eX11_hasNode_25 : sl_D YX11_hasNode 25 (.iconst 1) 1 26 := ⟨by decide +kernel, rfl⟩
theorem eX11_hasNode_26 : sl_B YX11_hasNode 26 (fun o => .goto o) 29 30 := ⟨4, by decide +kernel, rfl, by decide⟩
theorem eX11_hasNode_29 : sl_D YX11_hasNode 29 (.iconst 0) 1 30 := ⟨by decide +kernel, rfl⟩
theorem eX11_hasNode_30 : sl_D YX11_hasNode 30 (.ireturn) 1 31 := ⟨by decide +kernel, rfl⟩
theorem eX11_hasValue_0 : sl_D YX11_hasValue 0 (.aload_n 0) 1 1 := ⟨by decide +kernel, rfl⟩
theorem eX11_hasValue_1 : sl_D YX11_hasValue 1 (.getfield 212) 3 4 := ⟨by decide +kernel, rfl⟩
theorem eX11_hasValue_4 : sl_B YX11_hasValue 4 (fun o => .ifCond .eq o) 7 35 := ⟨31, by decide +kernel, rfl, by decide⟩
theorem eX11_hasValue_7 : sl_D YX11_hasValue 7 (.aload_n 0) 1 8 := ⟨by decide +kernel, rfl⟩
theorem eX11_hasValue_8 : sl_D YX11_hasValue 8 (.getfield 61) 3 11 := ⟨by decide +kernel, rfl⟩
theorem eX11_hasValue_11 : sl_D YX11_hasValue 11 (.getfield 223) 3 14 := ⟨by decide +kernel, rfl⟩
theorem eX11_hasValue_14 : sl_B YX11_hasValue 14 (fun o => .ifCond .ne o) 17 35 := ⟨21, by decide +kernel, rfl, by decide⟩
theorem eX11_hasValue_17 : sl_D YX11_hasValue 17 (.aload_n 0) 1 18 := ⟨by decide +kernel, rfl⟩
theorem eX11_hasValue_18 : sl_D YX11_hasValue 18 (.aload_n 0) 1 19 := ⟨by decide +kernel, rfl⟩
theorem eX11_hasValue_19 : sl_D YX11_hasValue 19 (.getfield 61) 3 22 := ⟨by decide +kernel, rfl⟩
theorem eX11_hasValue_22 : sl_D YX11_hasValue 22 (.invokevirtual 276) 3 25 := ⟨by decide +kernel, rfl⟩
theorem eX11_hasValue_25 : sl_D YX11_hasValue 25 (.invokevirtual 244) 3 28 := ⟨by decide +kernel, rfl⟩
theorem eX11_hasValue_28 : sl_B YX11_hasValue 28 (fun o => .ifCond .eq o) 31 35 := ⟨7, by decide +kernel, rfl, by decide⟩
theorem eX11_hasValue_31 : sl_D YX11_hasValue 31 (.iconst 1) 1 32 := ⟨by decide +kernel, rfl⟩
theorem eX11_hasValue_32 : sl_B YX11_hasValue 32 (fun o => .goto o) 35 36 := ⟨4, by decide +kernel, rfl, by decide⟩
theorem eX11_hasValue_35 : sl_D YX11_hasValue 35 (.iconst 0) 1 36 := ⟨by decide +kernel, rfl⟩
theorem eX11_hasValue_36 : sl_D YX11_hasValue 36 (.ireturn) 1 37 := ⟨by decide +kernel, rfl⟩
theorem eX11_isRelation_0 : sl_D YX11_isRelation 0 (.iload_n 0) 1 1 := ⟨by decide +kernel, rfl⟩
theorem eX11_isRelation_1 : sl_D YX11_isRelation 1 (.iconst 1) 1 2 := ⟨by decide +kernel, rfl⟩
theorem eX11_isRelation_2 : sl_B YX11_isRelation 2 (fun o => .if_icmp .eq o) 5 15 := ⟨13, by decide +kernel, rfl, by decide⟩
theorem eX11_isRelation_5 : sl_D YX11_isRelation 5 (.iload_n 0) 1 6 := ⟨by decide +kernel, rfl⟩
theorem eX11_isRelation_6 : sl_D YX11_isRelation 6 (.iconst 2) 1 7 := ⟨by decide +kernel, rfl⟩
theorem eX11_isRelation_7 : sl_B YX11_isRelation 7 (fun o => .if_icmp .eq o) 10 15 := ⟨8, by decide +kernel, rfl, by decide⟩
theorem eX11_isRelation_10 : sl_D YX11_isRelation 10 (.iload_n 0) 1 11 := ⟨by decide +kernel, rfl⟩
theorem eX11_isRelation_11 : sl_D YX11_isRelation 11 (.iconst 4) 1 12 := ⟨by decide +kernel, rfl⟩
theorem eX11_isRelation_12 : sl_B YX11_isRelation 12 (fun o => .if_icmp .ne o) 15 19 := ⟨7, by decide +kernel, rfl, by decide⟩
theorem eX11_isRelation_15 : sl_D YX11_isRelation 15 (.iconst 1) 1 16 := ⟨by decide +kernel, rfl⟩
theorem eX11_isRelation_16 : sl_B YX11_isRelation 16 (fun o => .goto o) 19 20 := ⟨4, by decide +kernel, rfl, by decide⟩
theorem eX11_isRelation_19 : sl_D YX11_isRelation 19 (.iconst 0) 1 20 := ⟨by decide +kernel, rfl⟩
theorem eX11_isRelation_20 : sl_D YX11_isRelation 20 (.ireturn) 1 21 := ⟨by decide +kernel, rfl⟩
theorem eX11_canReadBy_0 : sl_D YX11_canReadBy 0 (.iload_n 1) 1 1 := ⟨by decide +kernel, rfl⟩
theorem eX11_canReadBy_1 : sl_B YX11_canReadBy 1 (fun o => .ifCond .ne o) 4 22 := ⟨21, by decide +kernel, rfl, by decide⟩
theorem eX11_canReadBy_4 : sl_D YX11_canReadBy 4 (.aload_n 0) 1 5 := ⟨by decide +kernel, rfl⟩
theorem eX11_canReadBy_5 : sl_D YX11_canReadBy 5 (.getfield 33) 3 8 := ⟨by decide +kernel, rfl⟩
theorem eX11_canReadBy_8 : sl_D YX11_canReadBy 8 (.invokevirtual 170) 3 11 := ⟨by decide +kernel, rfl⟩
theorem eX11_canReadBy_11 : sl_B YX11_canReadBy 11 (fun o => .ifCond .ne o) 14 18 := ⟨7, by decide +kernel, rfl, by decide⟩
theorem eX11_canReadBy_14 : sl_D YX11_canReadBy 14 (.iconst 1) 1 15 := ⟨by decide +kernel, rfl⟩
theorem eX11_canReadBy_15 : sl_B YX11_canReadBy 15 (fun o => .goto o) 18 29 := ⟨14, by decide +kernel, rfl, by decide⟩
theorem eX11_canReadBy_18 : sl_D YX11_canReadBy 18 (.iconst 0) 1 19 := ⟨by decide +kernel, rfl⟩
theorem eX11_canReadBy_19 : sl_B YX11_canReadBy 19 (fun o => .goto o) 22 29 := ⟨10, by decide +kernel, rfl, by decide⟩
theorem eX11_canReadBy_22 : sl_D YX11_canReadBy 22 (.aload_n 0) 1 23 := ⟨by decide +kernel, rfl⟩
theorem eX11_canReadBy_23 : sl_D YX11_canReadBy 23 (.getfield 40) 3 26 := ⟨by decide +kernel, rfl⟩
theorem eX11_canReadBy_26 : sl_D YX11_canReadBy 26 (.invokevirtual 180) 3 29 := ⟨by decide +kernel, rfl⟩
theorem eX11_canReadBy_29 : sl_D YX11_canReadBy 29 (.ireturn) 1 30 := ⟨by decide +kernel, rfl⟩
theorem eX11_stepsOf_0 : sl_D YX11_stepsOf 0 (.aload_n 1) 1 1 := ⟨by decide +kernel, rfl⟩
theorem eX11_stepsOf_1 : sl_D YX11_stepsOf 1 (.getfield 223) 3 4 := ⟨by decide +kernel, rfl⟩
theorem eX11_stepsOf_4 : sl_B YX11_stepsOf 4 (fun o => .ifCond .ne o) 7 18 := ⟨14, by decide +kernel, rfl, by decide⟩
theorem eX11_stepsOf_7 : sl_D YX11_stepsOf 7 (.aload_n 0) 1 8 := ⟨by decide +kernel, rfl⟩
theorem eX11_stepsOf_8 : sl_D YX11_stepsOf 8 (.aload_n 1) 1 9 := ⟨by decide +kernel, rfl⟩
theorem eX11_stepsOf_9 : sl_D YX11_stepsOf 9 (.getfield 229) 3 12 := ⟨by decide +kernel, rfl⟩
theorem eX11_stepsOf_12 : sl_D YX11_stepsOf 12 (.invokevirtual 110) 3 15 := ⟨by decide +kernel, rfl⟩
theorem eX11_stepsOf_15 : sl_B YX11_stepsOf 15 (fun o => .goto o) 18 28 := ⟨13, by decide +kernel, rfl, by decide⟩
theorem eX11_stepsOf_18 : sl_D YX11_stepsOf 18 (.aload_n 0) 1 19 := ⟨by decide +kernel, rfl⟩
theorem eX11_stepsOf_19 : sl_D YX11_stepsOf 19 (.bipush 6) 2 21 := ⟨by decide +kernel, rfl⟩
theorem eX11_stepsOf_21 : sl_D YX11_stepsOf 21 (.aload_n 1) 1 22 := ⟨by decide +kernel, rfl⟩
theorem eX11_stepsOf_22 : sl_D YX11_stepsOf 22 (.getfield 326) 3 25 := ⟨by decide +kernel, rfl⟩
theorem eX11_stepsOf_25 : sl_D YX11_stepsOf 25 (.invokevirtual 93) 3 28 := ⟨by decide +kernel, rfl⟩
theorem eX11_stepsOf_28 : sl_D YX11_stepsOf 28 (.ireturn) 1 29 := ⟨by decide +kernel, rfl⟩
theorem eX11_hiddenCount_0 : sl_D YX11_hiddenCount 0 (.iconst 0) 1 1 := ⟨by decide +kernel, rfl⟩
theorem eX11_hiddenCount_1 : sl_D YX11_hiddenCount 1 (.istore_n 2) 1 2 := ⟨by decide +kernel, rfl⟩
theorem eX11_hiddenCount_2 : sl_D YX11_hiddenCount 2 (.iconst 0) 1 3 := ⟨by decide +kernel, rfl⟩
theorem eX11_hiddenCount_3 : sl_D YX11_hiddenCount 3 (.istore_n 3) 1 4 := ⟨by decide +kernel, rfl⟩
theorem eX11_hiddenCount_4 : sl_D YX11_hiddenCount 4 (.iload_n 3) 1 5 := ⟨by decide +kernel, rfl⟩
theorem eX11_hiddenCount_5 : sl_D YX11_hiddenCount 5 (.aload_n 0) 1 6 := ⟨by decide +kernel, rfl⟩
theorem eX11_hiddenCount_6 : sl_D YX11_hiddenCount 6 (.getfield 16) 3 9 := ⟨by decide +kernel, rfl⟩
theorem eX11_hiddenCount_9 : sl_D YX11_hiddenCount 9 (.getfield 125) 3 12 := ⟨by decide +kernel, rfl⟩
theorem eX11_hiddenCount_12 : sl_B YX11_hiddenCount 12 (fun o => .if_icmp .gt o) 15 72 := ⟨60, by decide +kernel, rfl, by decide⟩
theorem eX11_hiddenCount_15 : sl_D YX11_hiddenCount 15 (.iconst 0) 1 16 := ⟨by decide +kernel, rfl⟩
theorem eX11_hiddenCount_16 : sl_D YX11_hiddenCount 16 (.istore 4) 2 18 := ⟨by decide +kernel, rfl⟩
theorem eX11_hiddenCount_18 : sl_D YX11_hiddenCount 18 (.iload 4) 2 20 := ⟨by decide +kernel, rfl⟩
theorem eX11_hiddenCount_20 : sl_D YX11_hiddenCount 20 (.aload_n 0) 1 21 := ⟨by decide +kernel, rfl⟩
theorem eX11_hiddenCount_21 : sl_D YX11_hiddenCount 21 (.getfield 16) 3 24 := ⟨by decide +kernel, rfl⟩
theorem eX11_hiddenCount_24 : sl_D YX11_hiddenCount 24 (.getfield 125) 3 27 := ⟨by decide +kernel, rfl⟩
theorem eX11_hiddenCount_27 : sl_B YX11_hiddenCount 27 (fun o => .if_icmp .gt o) 30 66 := ⟨39, by decide +kernel, rfl, by decide⟩
theorem eX11_hiddenCount_30 : sl_D YX11_hiddenCount 30 (.aload_n 0) 1 31 := ⟨by decide +kernel, rfl⟩
theorem eX11_hiddenCount_31 : sl_D YX11_hiddenCount 31 (.getfield 33) 3 34 := ⟨by decide +kernel, rfl⟩
theorem eX11_hiddenCount_34 : sl_D YX11_hiddenCount 34 (.iload_n 3) 1 35 := ⟨by decide +kernel, rfl⟩
theorem eX11_hiddenCount_35 : sl_D YX11_hiddenCount 35 (.iload 4) 2 37 := ⟨by decide +kernel, rfl⟩
theorem eX11_hiddenCount_37 : sl_D YX11_hiddenCount 37 (.invokevirtual 161) 3 40 := ⟨by decide +kernel, rfl⟩
theorem eX11_hiddenCount_40 : sl_B YX11_hiddenCount 40 (fun o => .ifCond .ne o) 43 60 := ⟨20, by decide +kernel, rfl, by decide⟩
theorem eX11_hiddenCount_43 : sl_D YX11_hiddenCount 43 (.aload_n 0) 1 44 := ⟨by decide +kernel, rfl⟩
theorem eX11_hiddenCount_44 : sl_D YX11_hiddenCount 44 (.getfield 40) 3 47 := ⟨by decide +kernel, rfl⟩
theorem eX11_hiddenCount_47 : sl_D YX11_hiddenCount 47 (.iload_n 3) 1 48 := ⟨by decide +kernel, rfl⟩
theorem eX11_hiddenCount_48 : sl_D YX11_hiddenCount 48 (.iload 4) 2 50 := ⟨by decide +kernel, rfl⟩
theorem eX11_hiddenCount_50 : sl_D YX11_hiddenCount 50 (.invokevirtual 327) 3 53 := ⟨by decide +kernel, rfl⟩
theorem eX11_hiddenCount_53 : sl_D YX11_hiddenCount 53 (.iload_n 1) 1 54 := ⟨by decide +kernel, rfl⟩
theorem eX11_hiddenCount_54 : sl_B YX11_hiddenCount 54 (fun o => .if_icmp .ne o) 57 60 := ⟨6, by decide +kernel, rfl, by decide⟩
theorem eX11_hiddenCount_57 : sl_D YX11_hiddenCount 57 (.iinc 2 1) 3 60 := ⟨by decide +kernel, rfl⟩
theorem eX11_hiddenCount_60 : sl_D YX11_hiddenCount 60 (.iinc 4 1) 3 63 := ⟨by decide +kernel, rfl⟩
theorem eX11_hiddenCount_63 : sl_B YX11_hiddenCount 63 (fun o => .goto o) 66 18 := ⟨-45, by decide +kernel, rfl, by decide⟩
theorem eX11_hiddenCount_66 : sl_D YX11_hiddenCount 66 (.iinc 3 1) 3 69 := ⟨by decide +kernel, rfl⟩
theorem eX11_hiddenCount_69 : sl_B YX11_hiddenCount 69 (fun o => .goto o) 72 4 := ⟨-65, by decide +kernel, rfl, by decide⟩
theorem eX11_hiddenCount_72 : sl_D YX11_hiddenCount 72 (.iload_n 2) 1 73 := ⟨by decide +kernel, rfl⟩
theorem eX11_hiddenCount_73 : sl_D YX11_hiddenCount 73 (.ireturn) 1 74 := ⟨by decide +kernel, rfl⟩
theorem eX12_init_0 : sl_D YX12_init 0 (.aload_n 0) 1 1 := ⟨by decide +kernel, rfl⟩
theorem eX12_init_1 : sl_D YX12_init 1 (.invokespecial 3) 3 4 := ⟨by decide +kernel, rfl⟩
theorem eX12_init_4 : sl_D YX12_init 4 (.aload_n 0) 1 5 := ⟨by decide +kernel, rfl⟩
theorem eX12_init_5 : sl_D YX12_init 5 (.iconst (-1)) 1 6 := ⟨by decide +kernel, rfl⟩
theorem eX12_init_6 : sl_D YX12_init 6 (.putfield 9) 3 9 := ⟨by decide +kernel, rfl⟩
theorem eX12_init_9 : sl_D YX12_init 9 (.aload_n 0) 1 10 := ⟨by decide +kernel, rfl⟩
theorem eX12_init_10 : sl_D YX12_init 10 (.bipush 12) 2 12 := ⟨by decide +kernel, rfl⟩
theorem eX12_init_12 : sl_D YX12_init 12 (.newarray .int) 2 14 := ⟨by decide +kernel, rfl⟩
theorem eX12_init_14 : sl_D YX12_init 14 (.putfield 13) 3 17 := ⟨by decide +kernel, rfl⟩
theorem eX12_init_17 : sl_D YX12_init 17 (.aload_n 0) 1 18 := ⟨by decide +kernel, rfl⟩
theorem eX12_init_18 : sl_D YX12_init 18 (.bipush 60) 2 20 := ⟨by decide +kernel, rfl⟩
theorem eX12_init_20 : sl_D YX12_init 20 (.newarray .int) 2 22 := ⟨by decide +kernel, rfl⟩
theorem eX12_init_22 : sl_D YX12_init 22 (.putfield 17) 3 25 := ⟨by decide +kernel, rfl⟩
theorem eX12_init_25 : sl_D YX12_init 25 (.aload_n 0) 1 26 := ⟨by decide +kernel, rfl⟩
theorem eX12_init_26 : sl_D YX12_init 26 (.bipush 12) 2 28 := ⟨by decide +kernel, rfl⟩
theorem eX12_init_28 : sl_D YX12_init 28 (.newarray .int) 2 30 := ⟨by decide +kernel, rfl⟩
theorem eX12_init_30 : sl_D YX12_init 30 (.putfield 20) 3 33 := ⟨by decide +kernel, rfl⟩
theorem eX12_init_33 : sl_D YX12_init 33 (.aload_n 0) 1 34 := ⟨by decide +kernel, rfl⟩
theorem eX12_init_34 : sl_D YX12_init 34 (.bipush 12) 2 36 := ⟨by decide +kernel, rfl⟩
theorem eX12_init_36 : sl_D YX12_init 36 (.newarray .int) 2 38 := ⟨by decide +kernel, rfl⟩
theorem eX12_init_38 : sl_D YX12_init 38 (.putfield 23) 3 41 := ⟨by decide +kernel, rfl⟩
theorem eX12_init_41 : sl_D YX12_init 41 (.aload_n 0) 1 42 := ⟨by decide +kernel, rfl⟩
theorem eX12_init_42 : sl_D YX12_init 42 (.bipush 11) 2 44 := ⟨by decide +kernel, rfl⟩
theorem eX12_init_44 : sl_D YX12_init 44 (.newarray .int) 2 46 := ⟨by decide +kernel, rfl⟩
theorem eX12_init_46 : sl_D YX12_init 46 (.putfield 26) 3 49 := ⟨by decide +kernel, rfl⟩
theorem eX12_init_49 : sl_D YX12_init 49 (.aload_n 0) 1 50 := ⟨by decide +kernel, rfl⟩
theorem eX12_init_50 : sl_D YX12_init 50 (.bipush 12) 2 52 := ⟨by decide +kernel, rfl⟩
theorem eX12_init_52 : sl_D YX12_init 52 (.newarray .int) 2 54 := ⟨by decide +kernel, rfl⟩
theorem eX12_init_54 : sl_D YX12_init 54 (.putfield 29) 3 57 := ⟨by decide +kernel, rfl⟩
theorem eX12_init_57 : sl_D YX12_init 57 (.aload_n 0) 1 58 := ⟨by decide +kernel, rfl⟩
theorem eX12_init_58 : sl_D YX12_init 58 (.bipush 60) 2 60 := ⟨by decide +kernel, rfl⟩
theorem eX12_init_60 : sl_D YX12_init 60 (.newarray .int) 2 62 := ⟨by decide +kernel, rfl⟩
theorem eX12_init_62 : sl_D YX12_init 62 (.putfield 32) 3 65 := ⟨by decide +kernel, rfl⟩
theorem eX12_init_65 : sl_D YX12_init 65 (.aload_n 0) 1 66 := ⟨by decide +kernel, rfl⟩
theorem eX12_init_66 : sl_D YX12_init 66 (.bipush 12) 2 68 := ⟨by decide +kernel, rfl⟩
theorem eX12_init_68 : sl_D YX12_init 68 (.newarray .int) 2 70 := ⟨by decide +kernel, rfl⟩
theorem eX12_init_70 : sl_D YX12_init 70 (.putfield 35) 3 73 := ⟨by decide +kernel, rfl⟩
theorem eX12_init_73 : sl_D YX12_init 73 (.aload_n 0) 1 74 := ⟨by decide +kernel, rfl⟩
theorem eX12_init_74 : sl_D YX12_init 74 (.bipush 12) 2 76 := ⟨by decide +kernel, rfl⟩
theorem eX12_init_76 : sl_D YX12_init 76 (.newarray .int) 2 78 := ⟨by decide +kernel, rfl⟩
theorem eX12_init_78 : sl_D YX12_init 78 (.putfield 38) 3 81 := ⟨by decide +kernel, rfl⟩
theorem eX12_init_81 : sl_D YX12_init 81 (.aload_n 0) 1 82 := ⟨by decide +kernel, rfl⟩
theorem eX12_init_82 : sl_D YX12_init 82 (.bipush 11) 2 84 := ⟨by decide +kernel, rfl⟩
theorem eX12_init_84 : sl_D YX12_init 84 (.newarray .int) 2 86 := ⟨by decide +kernel, rfl⟩
theorem eX12_init_86 : sl_D YX12_init 86 (.putfield 41) 3 89 := ⟨by decide +kernel, rfl⟩
theorem eX12_init_89 : sl_D YX12_init 89 (.aload_n 0) 1 90 := ⟨by decide +kernel, rfl⟩
theorem eX12_init_90 : sl_D YX12_init 90 (.bipush 6) 2 92 := ⟨by decide +kernel, rfl⟩
theorem eX12_init_92 : sl_D YX12_init 92 (.newarray .long) 2 94 := ⟨by decide +kernel, rfl⟩
theorem eX12_init_94 : sl_D YX12_init 94 (.putfield 44) 3 97 := ⟨by decide +kernel, rfl⟩
theorem eX12_init_97 : sl_D YX12_init 97 (.aload_n 0) 1 98 := ⟨by decide +kernel, rfl⟩
theorem eX12_init_98 : sl_D YX12_init 98 (.bipush 10) 2 100 := ⟨by decide +kernel, rfl⟩
theorem eX12_init_100 : sl_D YX12_init 100 (.newarray .int) 2 102 := ⟨by decide +kernel, rfl⟩
theorem eX12_init_102 : sl_D YX12_init 102 (.putfield 48) 3 105 := ⟨by decide +kernel, rfl⟩
theorem eX12_init_105 : sl_D YX12_init 105 (.aload_n 0) 1 106 := ⟨by decide +kernel, rfl⟩
theorem eX12_init_106 : sl_D YX12_init 106 (.bipush 10) 2 108 := ⟨by decide +kernel, rfl⟩
theorem eX12_init_108 : sl_D YX12_init 108 (.newarray .int) 2 110 := ⟨by decide +kernel, rfl⟩
theorem eX12_init_110 : sl_D YX12_init 110 (.putfield 51) 3 113 := ⟨by decide +kernel, rfl⟩
theorem eX12_init_113 : sl_D YX12_init 113 (.aload_n 0) 1 114 := ⟨by decide +kernel, rfl⟩
theorem eX12_init_114 : sl_D YX12_init 114 (.sipush 900) 3 117 := ⟨by decide +kernel, rfl⟩
theorem eX12_init_117 : sl_D YX12_init 117 (.newarray .byte) 2 119 := ⟨by decide +kernel, rfl⟩
theorem eX12_init_119 : sl_D YX12_init 119 (.putfield 54) 3 122 := ⟨by decide +kernel, rfl⟩
theorem eX12_init_122 : sl_D YX12_init 122 (.aload_n 0) 1 123 := ⟨by decide +kernel, rfl⟩
theorem eX12_init_123 : sl_D YX12_init 123 (.bipush 6) 2 125 := ⟨by decide +kernel, rfl⟩
theorem eX12_init_125 : sl_D YX12_init 125 (.newarray .int) 2 127 := ⟨by decide +kernel, rfl⟩
theorem eX12_init_127 : sl_D YX12_init 127 (.putfield 58) 3 130 := ⟨by decide +kernel, rfl⟩
theorem eX12_init_130 : sl_D YX12_init 130 (.aload_n 0) 1 131 := ⟨by decide +kernel, rfl⟩
theorem eX12_init_131 : sl_D YX12_init 131 (.bipush 6) 2 133 := ⟨by decide +kernel, rfl⟩
theorem eX12_init_133 : sl_D YX12_init 133 (.newarray .int) 2 135 := ⟨by decide +kernel, rfl⟩
theorem eX12_init_135 : sl_D YX12_init 135 (.putfield 61) 3 138 := ⟨by decide +kernel, rfl⟩
theorem eX12_init_138 : sl_D YX12_init 138 (.aload_n 0) 1 139 := ⟨by decide +kernel, rfl⟩
theorem eX12_init_139 : sl_D YX12_init 139 (.sipush 144) 3 142 := ⟨by decide +kernel, rfl⟩
theorem eX12_init_142 : sl_D YX12_init 142 (.newarray .int) 2 144 := ⟨by decide +kernel, rfl⟩
theorem eX12_init_144 : sl_D YX12_init 144 (.putfield 64) 3 147 := ⟨by decide +kernel, rfl⟩
theorem eX12_init_147 : sl_D YX12_init 147 (.aload_n 0) 1 148 := ⟨by decide +kernel, rfl⟩
theorem eX12_init_148 : sl_D YX12_init 148 (.bipush 32) 2 150 := ⟨by decide +kernel, rfl⟩
theorem eX12_init_150 : sl_D YX12_init 150 (.newarray .int) 2 152 := ⟨by decide +kernel, rfl⟩
theorem eX12_init_152 : sl_D YX12_init 152 (.putfield 67) 3 155 := ⟨by decide +kernel, rfl⟩
theorem eX12_init_155 : sl_D YX12_init 155 (.aload_n 0) 1 156 := ⟨by decide +kernel, rfl⟩
theorem eX12_init_156 : sl_D YX12_init 156 (.bipush 32) 2 158 := ⟨by decide +kernel, rfl⟩
theorem eX12_init_158 : sl_D YX12_init 158 (.newarray .int) 2 160 := ⟨by decide +kernel, rfl⟩
theorem eX12_init_160 : sl_D YX12_init 160 (.putfield 70) 3 163 := ⟨by decide +kernel, rfl⟩
theorem eX12_init_163 : sl_D YX12_init 163 (.aload_n 0) 1 164 := ⟨by decide +kernel, rfl⟩
theorem eX12_init_164 : sl_D YX12_init 164 (.bipush 32) 2 166 := ⟨by decide +kernel, rfl⟩
theorem eX12_init_166 : sl_D YX12_init 166 (.newarray .int) 2 168 := ⟨by decide +kernel, rfl⟩
theorem eX12_init_168 : sl_D YX12_init 168 (.putfield 73) 3 171 := ⟨by decide +kernel, rfl⟩
theorem eX12_init_171 : sl_D YX12_init 171 (.aload_n 0) 1 172 := ⟨by decide +kernel, rfl⟩
theorem eX12_init_172 : sl_D YX12_init 172 (.sipush 1024) 3 175 := ⟨by decide +kernel, rfl⟩
theorem eX12_init_175 : sl_D YX12_init 175 (.newarray .boolean) 2 177 := ⟨by decide +kernel, rfl⟩
theorem eX12_init_177 : sl_D YX12_init 177 (.putfield 76) 3 180 := ⟨by decide +kernel, rfl⟩
theorem eX12_init_180 : sl_D YX12_init 180 (.aload_n 0) 1 181 := ⟨by decide +kernel, rfl⟩
theorem eX12_init_181 : sl_D YX12_init 181 (.sipush 1024) 3 184 := ⟨by decide +kernel, rfl⟩
theorem eX12_init_184 : sl_D YX12_init 184 (.newarray .boolean) 2 186 := ⟨by decide +kernel, rfl⟩
theorem eX12_init_186 : sl_D YX12_init 186 (.putfield 80) 3 189 := ⟨by decide +kernel, rfl⟩
theorem eX12_init_189 : sl_D YX12_init 189 (.aload_n 0) 1 190 := ⟨by decide +kernel, rfl⟩
theorem eX12_init_190 : sl_D YX12_init 190 (.bipush 33) 2 192 := ⟨by decide +kernel, rfl⟩
theorem eX12_init_192 : sl_D YX12_init 192 (.newarray .int) 2 194 := ⟨by decide +kernel, rfl⟩
theorem eX12_init_194 : sl_D YX12_init 194 (.putfield 83) 3 197 := ⟨by decide +kernel, rfl⟩
theorem eX12_init_197 : sl_D YX12_init 197 (.aload_n 0) 1 198 := ⟨by decide +kernel, rfl⟩
theorem eX12_init_198 : sl_D YX12_init 198 (.bipush 61) 2 200 := ⟨by decide +kernel, rfl⟩
theorem eX12_init_200 : sl_D YX12_init 200 (.newarray .int) 2 202 := ⟨by decide +kernel, rfl⟩
theorem eX12_init_202 : sl_D YX12_init 202 (.putfield 86) 3 205 := ⟨by decide +kernel, rfl⟩
theorem eX12_init_205 : sl_D YX12_init 205 (.aload_n 0) 1 206 := ⟨by decide +kernel, rfl⟩
theorem eX12_init_206 : sl_D YX12_init 206 (.bipush 61) 2 208 := ⟨by decide +kernel, rfl⟩
theorem eX12_init_208 : sl_D YX12_init 208 (.newarray .int) 2 210 := ⟨by decide +kernel, rfl⟩
theorem eX12_init_210 : sl_D YX12_init 210 (.putfield 89) 3 213 := ⟨by decide +kernel, rfl⟩
theorem eX12_init_213 : sl_D YX12_init 213 (.aload_n 0) 1 214 := ⟨by decide +kernel, rfl⟩
theorem eX12_init_214 : sl_D YX12_init 214 (.bipush 61) 2 216 := ⟨by decide +kernel, rfl⟩
theorem eX12_init_216 : sl_D YX12_init 216 (.newarray .int) 2 218 := ⟨by decide +kernel, rfl⟩
theorem eX12_init_218 : sl_D YX12_init 218 (.putfield 92) 3 221 := ⟨by decide +kernel, rfl⟩
theorem eX12_init_221 : sl_D YX12_init 221 (.aload_n 0) 1 222 := ⟨by decide +kernel, rfl⟩
theorem eX12_init_222 : sl_D YX12_init 222 (.bipush 61) 2 224 := ⟨by decide +kernel, rfl⟩
theorem eX12_init_224 : sl_D YX12_init 224 (.newarray .boolean) 2 226 := ⟨by decide +kernel, rfl⟩
theorem eX12_init_226 : sl_D YX12_init 226 (.putfield 95) 3 229 := ⟨by decide +kernel, rfl⟩
theorem eX12_init_229 : sl_D YX12_init 229 (.aload_n 0) 1 230 := ⟨by decide +kernel, rfl⟩
theorem eX12_init_230 : sl_D YX12_init 230 (.bipush 16) 2 232 := ⟨by decide +kernel, rfl⟩
theorem eX12_init_232 : sl_D YX12_init 232 (.newarray .int) 2 234 := ⟨by decide +kernel, rfl⟩
theorem eX12_init_234 : sl_D YX12_init 234 (.putfield 98) 3 237 := ⟨by decide +kernel, rfl⟩
theorem eX12_init_237 : sl_D YX12_init 237 (.aload_n 0) 1 238 := ⟨by decide +kernel, rfl⟩
theorem eX12_init_238 : sl_D YX12_init 238 (.bipush 16) 2 240 := ⟨by decide +kernel, rfl⟩
theorem eX12_init_240 : sl_D YX12_init 240 (.newarray .int) 2 242 := ⟨by decide +kernel, rfl⟩
theorem eX12_init_242 : sl_D YX12_init 242 (.putfield 101) 3 245 := ⟨by decide +kernel, rfl⟩
theorem eX12_init_245 : sl_D YX12_init 245 (.aload_n 0) 1 246 := ⟨by decide +kernel, rfl⟩
theorem eX12_init_246 : sl_D YX12_init 246 (.bipush 16) 2 248 := ⟨by decide +kernel, rfl⟩
theorem eX12_init_248 : sl_D YX12_init 248 (.newarray .int) 2 250 := ⟨by decide +kernel, rfl⟩
theorem eX12_init_250 : sl_D YX12_init 250 (.putfield 104) 3 253 := ⟨by decide +kernel, rfl⟩
theorem eX12_init_253 : sl_D YX12_init 253 (.aload_n 0) 1 254 := ⟨by decide +kernel, rfl⟩
theorem eX12_init_254 : sl_D YX12_init 254 (.bipush 122) 2 256 := ⟨by decide +kernel, rfl⟩
theorem eX12_init_256 : sl_D YX12_init 256 (.newarray .int) 2 258 := ⟨by decide +kernel, rfl⟩
theorem eX12_init_258 : sl_D YX12_init 258 (.putfield 107) 3 261 := ⟨by decide +kernel, rfl⟩
theorem eX12_init_261 : sl_D YX12_init 261 (.aload_n 0) 1 262 := ⟨by decide +kernel, rfl⟩
theorem eX12_init_262 : sl_D YX12_init 262 (.bipush 16) 2 264 := ⟨by decide +kernel, rfl⟩
theorem eX12_init_264 : sl_D YX12_init 264 (.newarray .boolean) 2 266 := ⟨by decide +kernel, rfl⟩
theorem eX12_init_266 : sl_D YX12_init 266 (.putfield 110) 3 269 := ⟨by decide +kernel, rfl⟩
theorem eX12_init_269 : sl_D YX12_init 269 (.aload_n 0) 1 270 := ⟨by decide +kernel, rfl⟩
theorem eX12_init_270 : sl_D YX12_init 270 (.bipush 16) 2 272 := ⟨by decide +kernel, rfl⟩
theorem eX12_init_272 : sl_D YX12_init 272 (.newarray .boolean) 2 274 := ⟨by decide +kernel, rfl⟩
theorem eX12_init_274 : sl_D YX12_init 274 (.putfield 113) 3 277 := ⟨by decide +kernel, rfl⟩
theorem eX12_init_277 : sl_D YX12_init 277 (.aload_n 0) 1 278 := ⟨by decide +kernel, rfl⟩
theorem eX12_init_278 : sl_D YX12_init 278 (.bipush 16) 2 280 := ⟨by decide +kernel, rfl⟩
theorem eX12_init_280 : sl_D YX12_init 280 (.newarray .boolean) 2 282 := ⟨by decide +kernel, rfl⟩
theorem eX12_init_282 : sl_D YX12_init 282 (.putfield 116) 3 285 := ⟨by decide +kernel, rfl⟩
theorem eX12_init_285 : sl_D YX12_init 285 (.aload_n 0) 1 286 := ⟨by decide +kernel, rfl⟩
theorem eX12_init_286 : sl_D YX12_init 286 (.bipush 33) 2 288 := ⟨by decide +kernel, rfl⟩
theorem eX12_init_288 : sl_D YX12_init 288 (.newarray .int) 2 290 := ⟨by decide +kernel, rfl⟩
theorem eX12_init_290 : sl_D YX12_init 290 (.putfield 119) 3 293 := ⟨by decide +kernel, rfl⟩
theorem eX12_init_293 : sl_D YX12_init 293 (.aload_n 0) 1 294 := ⟨by decide +kernel, rfl⟩
theorem eX12_init_294 : sl_D YX12_init 294 (.bipush 17) 2 296 := ⟨by decide +kernel, rfl⟩
theorem eX12_init_296 : sl_D YX12_init 296 (.newarray .int) 2 298 := ⟨by decide +kernel, rfl⟩
theorem eX12_init_298 : sl_D YX12_init 298 (.putfield 122) 3 301 := ⟨by decide +kernel, rfl⟩
theorem eX12_init_301 : sl_D YX12_init 301 (.aload_n 0) 1 302 := ⟨by decide +kernel, rfl⟩
theorem eX12_init_302 : sl_D YX12_init 302 (.bipush 17) 2 304 := ⟨by decide +kernel, rfl⟩
theorem eX12_init_304 : sl_D YX12_init 304 (.newarray .int) 2 306 := ⟨by decide +kernel, rfl⟩
theorem eX12_init_306 : sl_D YX12_init 306 (.putfield 125) 3 309 := ⟨by decide +kernel, rfl⟩
theorem eX12_init_309 : sl_D YX12_init 309 (.aload_n 0) 1 310 := ⟨by decide +kernel, rfl⟩
theorem eX12_init_310 : sl_D YX12_init 310 (.bipush 16) 2 312 := ⟨by decide +kernel, rfl⟩
theorem eX12_init_312 : sl_D YX12_init 312 (.newarray .int) 2 314 := ⟨by decide +kernel, rfl⟩
theorem eX12_init_314 : sl_D YX12_init 314 (.putfield 128) 3 317 := ⟨by decide +kernel, rfl⟩
theorem eX12_init_317 : sl_D YX12_init 317 (.aload_n 0) 1 318 := ⟨by decide +kernel, rfl⟩
theorem eX12_init_318 : sl_D YX12_init 318 (.bipush 122) 2 320 := ⟨by decide +kernel, rfl⟩
theorem eX12_init_320 : sl_D YX12_init 320 (.newarray .int) 2 322 := ⟨by decide +kernel, rfl⟩
theorem eX12_init_322 : sl_D YX12_init 322 (.putfield 131) 3 325 := ⟨by decide +kernel, rfl⟩
theorem eX12_init_325 : sl_D YX12_init 325 (.aload_n 0) 1 326 := ⟨by decide +kernel, rfl⟩
theorem eX12_init_326 : sl_D YX12_init 326 (.bipush 122) 2 328 := ⟨by decide +kernel, rfl⟩
theorem eX12_init_328 : sl_D YX12_init 328 (.newarray .int) 2 330 := ⟨by decide +kernel, rfl⟩
theorem eX12_init_330 : sl_D YX12_init 330 (.putfield 134) 3 333 := ⟨by decide +kernel, rfl⟩
theorem eX12_init_333 : sl_D YX12_init 333 (.aload_n 0) 1 334 := ⟨by decide +kernel, rfl⟩
theorem eX12_init_334 : sl_D YX12_init 334 (.bipush 122) 2 336 := ⟨by decide +kernel, rfl⟩
theorem eX12_init_336 : sl_D YX12_init 336 (.newarray .int) 2 338 := ⟨by decide +kernel, rfl⟩
theorem eX12_init_338 : sl_D YX12_init 338 (.putfield 137) 3 341 := ⟨by decide +kernel, rfl⟩
theorem eX12_init_341 : sl_D YX12_init 341 (.aload_n 0) 1 342 := ⟨by decide +kernel, rfl⟩
theorem eX12_init_342 : sl_D YX12_init 342 (.bipush 122) 2 344 := ⟨by decide +kernel, rfl⟩
theorem eX12_init_344 : sl_D YX12_init 344 (.newarray .int) 2 346 := ⟨by decide +kernel, rfl⟩
theorem eX12_init_346 : sl_D YX12_init 346 (.putfield 140) 3 349 := ⟨by decide +kernel, rfl⟩
theorem eX12_init_349 : sl_D YX12_init 349 (.aload_n 0) 1 350 := ⟨by decide +kernel, rfl⟩
theorem eX12_init_350 : sl_D YX12_init 350 (.bipush 122) 2 352 := ⟨by decide +kernel, rfl⟩
theorem eX12_init_352 : sl_D YX12_init 352 (.newarray .boolean) 2 354 := ⟨by decide +kernel, rfl⟩
theorem eX12_init_354 : sl_D YX12_init 354 (.putfield 143) 3 357 := ⟨by decide +kernel, rfl⟩
theorem eX12_init_357 : sl_D YX12_init 357 (.aload_n 0) 1 358 := ⟨by decide +kernel, rfl⟩
theorem eX12_init_358 : sl_D YX12_init 358 (.bipush 17) 2 360 := ⟨by decide +kernel, rfl⟩
theorem eX12_init_360 : sl_D YX12_init 360 (.newarray .boolean) 2 362 := ⟨by decide +kernel, rfl⟩
theorem eX12_init_362 : sl_D YX12_init 362 (.putfield 146) 3 365 := ⟨by decide +kernel, rfl⟩
theorem eX12_init_365 : sl_D YX12_init 365 (.return_) 1 366 := ⟨by decide +kernel, rfl⟩
theorem eX12_thrown_0 : sl_D YX12_thrown 0 (.aload_n 0) 1 1 := ⟨by decide +kernel, rfl⟩
theorem eX12_thrown_1 : sl_D YX12_thrown 1 (.getfield 149) 3 4 := ⟨by decide +kernel, rfl⟩
theorem eX12_thrown_4 : sl_D YX12_thrown 4 (.ireturn) 1 5 := ⟨by decide +kernel, rfl⟩
theorem eX12_refused_0 : sl_D YX12_refused 0 (.aload_n 0) 1 1 := ⟨by decide +kernel, rfl⟩
theorem eX12_refused_1 : sl_D YX12_refused 1 (.iload_n 1) 1 2 := ⟨by decide +kernel, rfl⟩
theorem eX12_refused_2 : sl_D YX12_refused 2 (.putfield 152) 3 5 := ⟨by decide +kernel, rfl⟩
theorem eX12_refused_5 : sl_D YX12_refused 5 (.aload_n 0) 1 6 := ⟨by decide +kernel, rfl⟩
theorem eX12_refused_6 : sl_D YX12_refused 6 (.iconst (-1)) 1 7 := ⟨by decide +kernel, rfl⟩
theorem eX12_refused_7 : sl_D YX12_refused 7 (.putfield 9) 3 10 := ⟨by decide +kernel, rfl⟩
theorem eX12_refused_10 : sl_D YX12_refused 10 (.iconst (-1)) 1 11 := ⟨by decide +kernel, rfl⟩
theorem eX12_refused_11 : sl_D YX12_refused 11 (.ireturn) 1 12 := ⟨by decide +kernel, rfl⟩
theorem eX12_refusedLow_0 : sl_D YX12_refusedLow 0 (.aload_n 0) 1 1 := ⟨by decide +kernel, rfl⟩
theorem eX12_refusedLow_1 : sl_D YX12_refusedLow 1 (.iload_n 1) 1 2 := ⟨by decide +kernel, rfl⟩
theorem eX12_refusedLow_2 : sl_D YX12_refusedLow 2 (.invokevirtual 155) 3 5 := ⟨by decide +kernel, rfl⟩
theorem eX12_refusedLow_5 : sl_D YX12_refusedLow 5 (.pop) 1 6 := ⟨by decide +kernel, rfl⟩
theorem eX12_refusedLow_6 : sl_D YX12_refusedLow 6 (.ldc 161) 2 8 := ⟨by decide +kernel, rfl⟩
theorem eX12_refusedLow_8 : sl_D YX12_refusedLow 8 (.ireturn) 1 9 := ⟨by decide +kernel, rfl⟩
theorem eX12_good_0 : sl_D YX12_good 0 (.aload_n 0) 1 1 := ⟨by decide +kernel, rfl⟩
theorem eX12_good_1 : sl_D YX12_good 1 (.iconst 0) 1 2 := ⟨by decide +kernel, rfl⟩
theorem eX12_good_2 : sl_D YX12_good 2 (.putfield 152) 3 5 := ⟨by decide +kernel, rfl⟩
theorem eX12_good_5 : sl_D YX12_good 5 (.aload_n 0) 1 6 := ⟨by decide +kernel, rfl⟩
theorem eX12_good_6 : sl_D YX12_good 6 (.iconst (-1)) 1 7 := ⟨by decide +kernel, rfl⟩
theorem eX12_good_7 : sl_D YX12_good 7 (.putfield 9) 3 10 := ⟨by decide +kernel, rfl⟩
theorem eX12_good_10 : sl_D YX12_good 10 (.iload_n 1) 1 11 := ⟨by decide +kernel, rfl⟩
theorem eX12_good_11 : sl_D YX12_good 11 (.ireturn) 1 12 := ⟨by decide +kernel, rfl⟩
theorem eX12_in_0 : sl_D YX12_in 0 (.iload_n 0) 1 1 := ⟨by decide +kernel, rfl⟩
theorem eX12_in_1 : sl_D YX12_in 1 (.iload_n 1) 1 2 := ⟨by decide +kernel, rfl⟩
theorem eX12_in_2 : sl_B YX12_in 2 (fun o => .if_icmp .lt o) 5 14 := ⟨12, by decide +kernel, rfl, by decide⟩
theorem eX12_in_5 : sl_D YX12_in 5 (.iload_n 0) 1 6 := ⟨by decide +kernel, rfl⟩
theorem eX12_in_6 : sl_D YX12_in 6 (.iload_n 2) 1 7 := ⟨by decide +kernel, rfl⟩
theorem eX12_in_7 : sl_B YX12_in 7 (fun o => .if_icmp .gt o) 10 14 := ⟨7, by decide +kernel, rfl, by decide⟩
theorem eX12_in_10 : sl_D YX12_in 10 (.iconst 1) 1 11 := ⟨by decide +kernel, rfl⟩
theorem eX12_in_11 : sl_B YX12_in 11 (fun o => .goto o) 14 15 := ⟨4, by decide +kernel, rfl, by decide⟩
theorem eX12_in_14 : sl_D YX12_in 14 (.iconst 0) 1 15 := ⟨by decide +kernel, rfl⟩
theorem eX12_in_15 : sl_D YX12_in 15 (.ireturn) 1 16 := ⟨by decide +kernel, rfl⟩
theorem eX12_has_0 : sl_D YX12_has 0 (.iload_n 0) 1 1 := ⟨by decide +kernel, rfl⟩
theorem eX12_has_1 : sl_D YX12_has 1 (.iload_n 1) 1 2 := ⟨by decide +kernel, rfl⟩
theorem eX12_has_2 : sl_D YX12_has 2 (.ishr) 1 3 := ⟨by decide +kernel, rfl⟩
theorem eX12_has_3 : sl_D YX12_has 3 (.iconst 1) 1 4 := ⟨by decide +kernel, rfl⟩
theorem eX12_has_4 : sl_D YX12_has 4 (.iand) 1 5 := ⟨by decide +kernel, rfl⟩
theorem eX12_has_5 : sl_D YX12_has 5 (.iconst 1) 1 6 := ⟨by decide +kernel, rfl⟩
theorem eX12_has_6 : sl_B YX12_has 6 (fun o => .if_icmp .ne o) 9 13 := ⟨7, by decide +kernel, rfl, by decide⟩
theorem eX12_has_9 : sl_D YX12_has 9 (.iconst 1) 1 10 := ⟨by decide +kernel, rfl⟩
theorem eX12_has_10 : sl_B YX12_has 10 (fun o => .goto o) 13 14 := ⟨4, by decide +kernel, rfl, by decide⟩
theorem eX12_has_13 : sl_D YX12_has 13 (.iconst 0) 1 14 := ⟨by decide +kernel, rfl⟩
theorem eX12_has_14 : sl_D YX12_has 14 (.ireturn) 1 15 := ⟨by decide +kernel, rfl⟩
theorem eX12_byteAt_0 : sl_D YX12_byteAt 0 (.iload_n 1) 1 1 := ⟨by decide +kernel, rfl⟩
theorem eX12_byteAt_1 : sl_D YX12_byteAt 1 (.aload_n 0) 1 2 := ⟨by decide +kernel, rfl⟩
theorem eX12_byteAt_2 : sl_D YX12_byteAt 2 (.getfield 162) 3 5 := ⟨by decide +kernel, rfl⟩
theorem eX12_byteAt_5 : sl_B YX12_byteAt 5 (fun o => .if_icmp .ge o) 8 21 := ⟨16, by decide +kernel, rfl, by decide⟩
theorem eX12_byteAt_8 : sl_D YX12_byteAt 8 (.aload_n 0) 1 9 := ⟨by decide +kernel, rfl⟩
theorem eX12_byteAt_9 : sl_D YX12_byteAt 9 (.getfield 54) 3 12 := ⟨by decide +kernel, rfl⟩
theorem eX12_byteAt_12 : sl_D YX12_byteAt 12 (.iload_n 1) 1 13 := ⟨by decide +kernel, rfl⟩
theorem eX12_byteAt_13 : sl_D YX12_byteAt 13 (.baload) 1 14 := ⟨by decide +kernel, rfl⟩
theorem eX12_byteAt_14 : sl_D YX12_byteAt 14 (.sipush 255) 3 17 := ⟨by decide +kernel, rfl⟩
theorem eX12_byteAt_17 : sl_D YX12_byteAt 17 (.iand) 1 18 := ⟨by decide +kernel, rfl⟩
theorem eX12_byteAt_18 : sl_B YX12_byteAt 18 (fun o => .goto o) 21 22 := ⟨4, by decide +kernel, rfl, by decide⟩
theorem eX12_byteAt_21 : sl_D YX12_byteAt 21 (.iconst (-1)) 1 22 := ⟨by decide +kernel, rfl⟩
theorem eX12_byteAt_22 : sl_D YX12_byteAt 22 (.ireturn) 1 23 := ⟨by decide +kernel, rfl⟩
theorem eX12_isSign_0 : sl_D YX12_isSign 0 (.iload_n 0) 1 1 := ⟨by decide +kernel, rfl⟩
theorem eX12_isSign_1 : decode YX12_isSign.2.1 1 = .ok (.lookupswitch 125 #[(33, 123), (38, 123), (40, 123), (41, 123), (42, 123), (43, 123), (45, 123), (47, 123), (61, 123), (91, 123), (93, 123), (94, 123), (124, 123), (126, 123)], 123) := by decide +kernel
theorem eX12_isSign_124 : sl_D YX12_isSign 124 (.iconst 1) 1 125 := ⟨by decide +kernel, rfl⟩
theorem eX12_isSign_125 : sl_D YX12_isSign 125 (.ireturn) 1 126 := ⟨by decide +kernel, rfl⟩
theorem eX12_isSign_126 : sl_D YX12_isSign 126 (.iconst 0) 1 127 := ⟨by decide +kernel, rfl⟩
theorem eX12_isSign_127 : sl_D YX12_isSign 127 (.ireturn) 1 128 := ⟨by decide +kernel, rfl⟩
theorem eX12_next_0 : sl_D YX12_next 0 (.aload_n 0) 1 1 := ⟨by decide +kernel, rfl⟩
theorem eX12_next_1 : sl_D YX12_next 1 (.getfield 165) 3 4 := ⟨by decide +kernel, rfl⟩
theorem eX12_next_4 : sl_B YX12_next 4 (fun o => .ifCond .le o) 7 8 := ⟨4, by decide +kernel, rfl, by decide⟩
theorem eX12_next_7 : sl_D YX12_next 7 (.return_) 1 8 := ⟨by decide +kernel, rfl⟩
theorem eX12_next_8 : sl_D YX12_next 8 (.aload_n 0) 1 9 := ⟨by decide +kernel, rfl⟩
theorem eX12_next_9 : sl_D YX12_next 9 (.aload_n 0) 1 10 := ⟨by decide +kernel, rfl⟩
theorem eX12_next_10 : sl_D YX12_next 10 (.getfield 168) 3 13 := ⟨by decide +kernel, rfl⟩
theorem eX12_next_13 : sl_D YX12_next 13 (.invokevirtual 171) 3 16 := ⟨by decide +kernel, rfl⟩
theorem eX12_next_16 : sl_D YX12_next 16 (.bipush 32) 2 18 := ⟨by decide +kernel, rfl⟩
theorem eX12_next_18 : sl_B YX12_next 18 (fun o => .if_icmp .ne o) 21 34 := ⟨16, by decide +kernel, rfl, by decide⟩
theorem eX12_next_21 : sl_D YX12_next 21 (.aload_n 0) 1 22 := ⟨by decide +kernel, rfl⟩
theorem eX12_next_22 : sl_D YX12_next 22 (.dup) 1 23 := ⟨by decide +kernel, rfl⟩
theorem eX12_next_23 : sl_D YX12_next 23 (.getfield 168) 3 26 := ⟨by decide +kernel, rfl⟩
theorem eX12_next_26 : sl_D YX12_next 26 (.iconst 1) 1 27 := ⟨by decide +kernel, rfl⟩
theorem eX12_next_27 : sl_D YX12_next 27 (.iadd) 1 28 := ⟨by decide +kernel, rfl⟩
theorem eX12_next_28 : sl_D YX12_next 28 (.putfield 168) 3 31 := ⟨by decide +kernel, rfl⟩
theorem eX12_next_31 : sl_B YX12_next 31 (fun o => .goto o) 34 8 := ⟨-23, by decide +kernel, rfl, by decide⟩
theorem eX12_next_34 : sl_D YX12_next 34 (.aload_n 0) 1 35 := ⟨by decide +kernel, rfl⟩
theorem eX12_next_35 : sl_D YX12_next 35 (.aload_n 0) 1 36 := ⟨by decide +kernel, rfl⟩
theorem eX12_next_36 : sl_D YX12_next 36 (.getfield 168) 3 39 := ⟨by decide +kernel, rfl⟩
theorem eX12_next_39 : sl_D YX12_next 39 (.putfield 174) 3 42 := ⟨by decide +kernel, rfl⟩
theorem eX12_next_42 : sl_D YX12_next 42 (.aload_n 0) 1 43 := ⟨by decide +kernel, rfl⟩
theorem eX12_next_43 : sl_D YX12_next 43 (.aload_n 0) 1 44 := ⟨by decide +kernel, rfl⟩
theorem eX12_next_44 : sl_D YX12_next 44 (.getfield 168) 3 47 := ⟨by decide +kernel, rfl⟩
theorem eX12_next_47 : sl_D YX12_next 47 (.invokevirtual 171) 3 50 := ⟨by decide +kernel, rfl⟩
theorem eX12_next_50 : sl_D YX12_next 50 (.istore_n 1) 1 51 := ⟨by decide +kernel, rfl⟩
theorem eX12_next_51 : sl_D YX12_next 51 (.iload_n 1) 1 52 := ⟨by decide +kernel, rfl⟩
theorem eX12_next_52 : sl_D YX12_next 52 (.iconst (-1)) 1 53 := ⟨by decide +kernel, rfl⟩
theorem eX12_next_53 : sl_B YX12_next 53 (fun o => .if_icmp .ne o) 56 64 := ⟨11, by decide +kernel, rfl, by decide⟩
theorem eX12_next_56 : sl_D YX12_next 56 (.aload_n 0) 1 57 := ⟨by decide +kernel, rfl⟩
theorem eX12_next_57 : sl_D YX12_next 57 (.iconst 1) 1 58 := ⟨by decide +kernel, rfl⟩
theorem eX12_next_58 : sl_D YX12_next 58 (.putfield 177) 3 61 := ⟨by decide +kernel, rfl⟩
theorem eX12_next_61 : sl_B YX12_next 61 (fun o => .goto o) 64 123 := ⟨62, by decide +kernel, rfl, by decide⟩
theorem eX12_next_64 : sl_D YX12_next 64 (.iload_n 1) 1 65 := ⟨by decide +kernel, rfl⟩
theorem eX12_next_65 : sl_D YX12_next 65 (.bipush 97) 2 67 := ⟨by decide +kernel, rfl⟩
theorem eX12_next_67 : sl_D YX12_next 67 (.bipush 122) 2 69 := ⟨by decide +kernel, rfl⟩
theorem eX12_next_69 : sl_D YX12_next 69 (.invokestatic 180) 3 72 := ⟨by decide +kernel, rfl⟩
theorem eX12_next_72 : sl_B YX12_next 72 (fun o => .ifCond .eq o) 75 82 := ⟨10, by decide +kernel, rfl, by decide⟩
