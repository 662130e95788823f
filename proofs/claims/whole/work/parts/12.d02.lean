theorem eX7_reduceLast_22 : sl_D YX7_reduceLast 22 (.invokevirtual 124) 3 25 := ⟨by decide +kernel, rfl⟩
theorem eX7_reduceLast_25 : sl_D YX7_reduceLast 25 (.return_) 1 26 := ⟨by decide +kernel, rfl⟩
theorem eX7_reduceLast_26 : sl_D YX7_reduceLast 26 (.aload_n 0) 1 27 := ⟨by decide +kernel, rfl⟩
theorem eX7_reduceLast_27 : sl_D YX7_reduceLast 27 (.getfield 31) 3 30 := ⟨by decide +kernel, rfl⟩
theorem eX7_reduceLast_30 : sl_D YX7_reduceLast 30 (.aload_n 0) 1 31 := ⟨by decide +kernel, rfl⟩
theorem eX7_reduceLast_31 : sl_D YX7_reduceLast 31 (.getfield 18) 3 34 := ⟨by decide +kernel, rfl⟩
theorem eX7_reduceLast_34 : sl_D YX7_reduceLast 34 (.aload_n 0) 1 35 := ⟨by decide +kernel, rfl⟩
theorem eX7_reduceLast_35 : sl_D YX7_reduceLast 35 (.getfield 25) 3 38 := ⟨by decide +kernel, rfl⟩
theorem eX7_reduceLast_38 : sl_D YX7_reduceLast 38 (.iload_n 1) 1 39 := ⟨by decide +kernel, rfl⟩
theorem eX7_reduceLast_39 : sl_D YX7_reduceLast 39 (.aload_n 0) 1 40 := ⟨by decide +kernel, rfl⟩
theorem eX7_reduceLast_40 : sl_D YX7_reduceLast 40 (.getfield 84) 3 43 := ⟨by decide +kernel, rfl⟩
theorem eX7_reduceLast_43 : sl_D YX7_reduceLast 43 (.invokevirtual 163) 3 46 := ⟨by decide +kernel, rfl⟩
theorem eX7_reduceLast_46 : sl_D YX7_reduceLast 46 (.aload_n 0) 1 47 := ⟨by decide +kernel, rfl⟩
theorem eX7_reduceLast_47 : sl_D YX7_reduceLast 47 (.getfield 31) 3 50 := ⟨by decide +kernel, rfl⟩
theorem eX7_reduceLast_50 : sl_D YX7_reduceLast 50 (.aload_n 0) 1 51 := ⟨by decide +kernel, rfl⟩
theorem eX7_reduceLast_51 : sl_D YX7_reduceLast 51 (.getfield 42) 3 54 := ⟨by decide +kernel, rfl⟩
theorem eX7_reduceLast_54 : sl_D YX7_reduceLast 54 (.invokevirtual 167) 3 57 := ⟨by decide +kernel, rfl⟩
theorem eX7_reduceLast_57 : sl_D YX7_reduceLast 57 (.istore_n 2) 1 58 := ⟨by decide +kernel, rfl⟩
theorem eX7_reduceLast_58 : sl_D YX7_reduceLast 58 (.iload_n 2) 1 59 := ⟨by decide +kernel, rfl⟩
theorem eX7_reduceLast_59 : sl_D YX7_reduceLast 59 (.iconst (-1)) 1 60 := ⟨by decide +kernel, rfl⟩
theorem eX7_reduceLast_60 : sl_B YX7_reduceLast 60 (fun o => .if_icmp .ne o) 63 69 := ⟨9, by decide +kernel, rfl, by decide⟩
theorem eX7_reduceLast_63 : sl_D YX7_reduceLast 63 (.aload_n 0) 1 64 := ⟨by decide +kernel, rfl⟩
theorem eX7_reduceLast_64 : sl_D YX7_reduceLast 64 (.iconst 4) 1 65 := ⟨by decide +kernel, rfl⟩
theorem eX7_reduceLast_65 : sl_D YX7_reduceLast 65 (.invokevirtual 124) 3 68 := ⟨by decide +kernel, rfl⟩
theorem eX7_reduceLast_68 : sl_D YX7_reduceLast 68 (.return_) 1 69 := ⟨by decide +kernel, rfl⟩
theorem eX7_reduceLast_69 : sl_D YX7_reduceLast 69 (.aload_n 0) 1 70 := ⟨by decide +kernel, rfl⟩
theorem eX7_reduceLast_70 : sl_D YX7_reduceLast 70 (.aload_n 0) 1 71 := ⟨by decide +kernel, rfl⟩
theorem eX7_reduceLast_71 : sl_D YX7_reduceLast 71 (.getfield 42) 3 74 := ⟨by decide +kernel, rfl⟩
theorem eX7_reduceLast_74 : sl_D YX7_reduceLast 74 (.getfield 171) 3 77 := ⟨by decide +kernel, rfl⟩
theorem eX7_reduceLast_77 : sl_D YX7_reduceLast 77 (.iload_n 2) 1 78 := ⟨by decide +kernel, rfl⟩
theorem eX7_reduceLast_78 : sl_D YX7_reduceLast 78 (.iaload) 1 79 := ⟨by decide +kernel, rfl⟩
theorem eX7_reduceLast_79 : sl_D YX7_reduceLast 79 (.aload_n 0) 1 80 := ⟨by decide +kernel, rfl⟩
theorem eX7_reduceLast_80 : sl_D YX7_reduceLast 80 (.getfield 22) 3 83 := ⟨by decide +kernel, rfl⟩
theorem eX7_reduceLast_83 : sl_D YX7_reduceLast 83 (.iload_n 1) 1 84 := ⟨by decide +kernel, rfl⟩
theorem eX7_reduceLast_84 : sl_D YX7_reduceLast 84 (.iaload) 1 85 := ⟨by decide +kernel, rfl⟩
theorem eX7_reduceLast_85 : sl_D YX7_reduceLast 85 (.invokevirtual 174) 3 88 := ⟨by decide +kernel, rfl⟩
theorem eX7_reduceLast_88 : sl_D YX7_reduceLast 88 (.istore_n 3) 1 89 := ⟨by decide +kernel, rfl⟩
theorem eX7_reduceLast_89 : sl_D YX7_reduceLast 89 (.iload_n 3) 1 90 := ⟨by decide +kernel, rfl⟩
theorem eX7_reduceLast_90 : sl_B YX7_reduceLast 90 (fun o => .ifCond .eq o) 93 99 := ⟨9, by decide +kernel, rfl, by decide⟩
theorem eX7_reduceLast_93 : sl_D YX7_reduceLast 93 (.aload_n 0) 1 94 := ⟨by decide +kernel, rfl⟩
theorem eX7_reduceLast_94 : sl_D YX7_reduceLast 94 (.iload_n 3) 1 95 := ⟨by decide +kernel, rfl⟩
theorem eX7_reduceLast_95 : sl_D YX7_reduceLast 95 (.invokevirtual 124) 3 98 := ⟨by decide +kernel, rfl⟩
theorem eX7_reduceLast_98 : sl_D YX7_reduceLast 98 (.return_) 1 99 := ⟨by decide +kernel, rfl⟩
theorem eX7_reduceLast_99 : sl_D YX7_reduceLast 99 (.aload_n 0) 1 100 := ⟨by decide +kernel, rfl⟩
theorem eX7_reduceLast_100 : sl_D YX7_reduceLast 100 (.getfield 25) 3 103 := ⟨by decide +kernel, rfl⟩
theorem eX7_reduceLast_103 : sl_D YX7_reduceLast 103 (.iload_n 1) 1 104 := ⟨by decide +kernel, rfl⟩
theorem eX7_reduceLast_104 : sl_D YX7_reduceLast 104 (.iconst 1) 1 105 := ⟨by decide +kernel, rfl⟩
theorem eX7_reduceLast_105 : sl_D YX7_reduceLast 105 (.isub) 1 106 := ⟨by decide +kernel, rfl⟩
theorem eX7_reduceLast_106 : sl_D YX7_reduceLast 106 (.aload_n 0) 1 107 := ⟨by decide +kernel, rfl⟩
theorem eX7_reduceLast_107 : sl_D YX7_reduceLast 107 (.getfield 12) 3 110 := ⟨by decide +kernel, rfl⟩
theorem eX7_reduceLast_110 : sl_D YX7_reduceLast 110 (.getfield 74) 3 113 := ⟨by decide +kernel, rfl⟩
theorem eX7_reduceLast_113 : sl_D YX7_reduceLast 113 (.iastore) 1 114 := ⟨by decide +kernel, rfl⟩
theorem eX7_reduceLast_114 : sl_D YX7_reduceLast 114 (.aload_n 0) 1 115 := ⟨by decide +kernel, rfl⟩
theorem eX7_reduceLast_115 : sl_D YX7_reduceLast 115 (.getfield 12) 3 118 := ⟨by decide +kernel, rfl⟩
theorem eX7_reduceLast_118 : sl_D YX7_reduceLast 118 (.iload_n 2) 1 119 := ⟨by decide +kernel, rfl⟩
theorem eX7_reduceLast_119 : sl_D YX7_reduceLast 119 (.aload_n 0) 1 120 := ⟨by decide +kernel, rfl⟩
theorem eX7_reduceLast_120 : sl_D YX7_reduceLast 120 (.getfield 31) 3 123 := ⟨by decide +kernel, rfl⟩
theorem eX7_reduceLast_123 : sl_D YX7_reduceLast 123 (.getfield 177) 3 126 := ⟨by decide +kernel, rfl⟩
theorem eX7_reduceLast_126 : sl_D YX7_reduceLast 126 (.aload_n 0) 1 127 := ⟨by decide +kernel, rfl⟩
theorem eX7_reduceLast_127 : sl_D YX7_reduceLast 127 (.getfield 31) 3 130 := ⟨by decide +kernel, rfl⟩
theorem eX7_reduceLast_130 : sl_D YX7_reduceLast 130 (.getfield 180) 3 133 := ⟨by decide +kernel, rfl⟩
theorem eX7_reduceLast_133 : sl_D YX7_reduceLast 133 (.aload_n 0) 1 134 := ⟨by decide +kernel, rfl⟩
theorem eX7_reduceLast_134 : sl_D YX7_reduceLast 134 (.getfield 38) 3 137 := ⟨by decide +kernel, rfl⟩
theorem eX7_reduceLast_137 : sl_D YX7_reduceLast 137 (.getfield 183) 3 140 := ⟨by decide +kernel, rfl⟩
theorem eX7_reduceLast_140 : sl_D YX7_reduceLast 140 (.aload_n 0) 1 141 := ⟨by decide +kernel, rfl⟩
theorem eX7_reduceLast_141 : sl_D YX7_reduceLast 141 (.getfield 38) 3 144 := ⟨by decide +kernel, rfl⟩
theorem eX7_reduceLast_144 : sl_D YX7_reduceLast 144 (.getfield 186) 3 147 := ⟨by decide +kernel, rfl⟩
theorem eX7_reduceLast_147 : sl_D YX7_reduceLast 147 (.invokevirtual 189) 3 150 := ⟨by decide +kernel, rfl⟩
theorem eX7_reduceLast_150 : sl_D YX7_reduceLast 150 (.aload_n 0) 1 151 := ⟨by decide +kernel, rfl⟩
theorem eX7_reduceLast_151 : sl_D YX7_reduceLast 151 (.iload_n 1) 1 152 := ⟨by decide +kernel, rfl⟩
theorem eX7_reduceLast_152 : sl_D YX7_reduceLast 152 (.iconst 1) 1 153 := ⟨by decide +kernel, rfl⟩
theorem eX7_reduceLast_153 : sl_D YX7_reduceLast 153 (.isub) 1 154 := ⟨by decide +kernel, rfl⟩
theorem eX7_reduceLast_154 : sl_D YX7_reduceLast 154 (.putfield 84) 3 157 := ⟨by decide +kernel, rfl⟩
theorem eX7_reduceLast_157 : sl_D YX7_reduceLast 157 (.aload_n 0) 1 158 := ⟨by decide +kernel, rfl⟩
theorem eX7_reduceLast_158 : sl_D YX7_reduceLast 158 (.dup) 1 159 := ⟨by decide +kernel, rfl⟩
theorem eX7_reduceLast_159 : sl_D YX7_reduceLast 159 (.getfield 68) 3 162 := ⟨by decide +kernel, rfl⟩
theorem eX7_reduceLast_162 : sl_D YX7_reduceLast 162 (.iconst 1) 1 163 := ⟨by decide +kernel, rfl⟩
theorem eX7_reduceLast_163 : sl_D YX7_reduceLast 163 (.iadd) 1 164 := ⟨by decide +kernel, rfl⟩
theorem eX7_reduceLast_164 : sl_D YX7_reduceLast 164 (.putfield 68) 3 167 := ⟨by decide +kernel, rfl⟩
theorem eX7_reduceLast_167 : sl_D YX7_reduceLast 167 (.return_) 1 168 := ⟨by decide +kernel, rfl⟩
theorem eX7_makeValue_0 : sl_D YX7_makeValue 0 (.aload_n 0) 1 1 := ⟨by decide +kernel, rfl⟩
theorem eX7_makeValue_1 : sl_D YX7_makeValue 1 (.getfield 31) 3 4 := ⟨by decide +kernel, rfl⟩
theorem eX7_makeValue_4 : sl_D YX7_makeValue 4 (.getfield 177) 3 7 := ⟨by decide +kernel, rfl⟩
theorem eX7_makeValue_7 : sl_D YX7_makeValue 7 (.istore_n 3) 1 8 := ⟨by decide +kernel, rfl⟩
theorem eX7_makeValue_8 : sl_D YX7_makeValue 8 (.aload_n 0) 1 9 := ⟨by decide +kernel, rfl⟩
theorem eX7_makeValue_9 : sl_D YX7_makeValue 9 (.getfield 31) 3 12 := ⟨by decide +kernel, rfl⟩
theorem eX7_makeValue_12 : sl_D YX7_makeValue 12 (.getfield 180) 3 15 := ⟨by decide +kernel, rfl⟩
theorem eX7_makeValue_15 : sl_D YX7_makeValue 15 (.istore 4) 2 17 := ⟨by decide +kernel, rfl⟩
theorem eX7_makeValue_17 : sl_D YX7_makeValue 17 (.iload_n 1) 1 18 := ⟨by decide +kernel, rfl⟩
theorem eX7_makeValue_18 : sl_D YX7_makeValue 18 (.bipush 8) 2 20 := ⟨by decide +kernel, rfl⟩
theorem eX7_makeValue_20 : sl_B YX7_makeValue 20 (fun o => .if_icmp .ne o) 23 51 := ⟨31, by decide +kernel, rfl, by decide⟩
theorem eX7_makeValue_23 : sl_D YX7_makeValue 23 (.aload_n 0) 1 24 := ⟨by decide +kernel, rfl⟩
theorem eX7_makeValue_24 : sl_D YX7_makeValue 24 (.getfield 38) 3 27 := ⟨by decide +kernel, rfl⟩
theorem eX7_makeValue_27 : sl_D YX7_makeValue 27 (.aload_n 0) 1 28 := ⟨by decide +kernel, rfl⟩
theorem eX7_makeValue_28 : sl_D YX7_makeValue 28 (.getfield 54) 3 31 := ⟨by decide +kernel, rfl⟩
theorem eX7_makeValue_31 : sl_D YX7_makeValue 31 (.getfield 193) 3 34 := ⟨by decide +kernel, rfl⟩
theorem eX7_makeValue_34 : sl_D YX7_makeValue 34 (.iload_n 2) 1 35 := ⟨by decide +kernel, rfl⟩
theorem eX7_makeValue_35 : sl_D YX7_makeValue 35 (.baload) 1 36 := ⟨by decide +kernel, rfl⟩
theorem eX7_makeValue_36 : sl_D YX7_makeValue 36 (.aload_n 0) 1 37 := ⟨by decide +kernel, rfl⟩
theorem eX7_makeValue_37 : sl_D YX7_makeValue 37 (.getfield 54) 3 40 := ⟨by decide +kernel, rfl⟩
theorem eX7_makeValue_40 : sl_D YX7_makeValue 40 (.getfield 197) 3 43 := ⟨by decide +kernel, rfl⟩
theorem eX7_makeValue_43 : sl_D YX7_makeValue 43 (.iload_n 2) 1 44 := ⟨by decide +kernel, rfl⟩
theorem eX7_makeValue_44 : sl_D YX7_makeValue 44 (.iaload) 1 45 := ⟨by decide +kernel, rfl⟩
theorem eX7_makeValue_45 : sl_D YX7_makeValue 45 (.invokevirtual 199) 3 48 := ⟨by decide +kernel, rfl⟩
theorem eX7_makeValue_48 : sl_B YX7_makeValue 48 (fun o => .goto o) 51 196 := ⟨148, by decide +kernel, rfl, by decide⟩
theorem eX7_makeValue_51 : sl_D YX7_makeValue 51 (.iload_n 3) 1 52 := ⟨by decide +kernel, rfl⟩
theorem eX7_makeValue_52 : sl_B YX7_makeValue 52 (fun o => .ifCond .lt o) 55 65 := ⟨13, by decide +kernel, rfl, by decide⟩
theorem eX7_makeValue_55 : sl_D YX7_makeValue 55 (.iload_n 1) 1 56 := ⟨by decide +kernel, rfl⟩
theorem eX7_makeValue_56 : sl_D YX7_makeValue 56 (.iconst 3) 1 57 := ⟨by decide +kernel, rfl⟩
theorem eX7_makeValue_57 : sl_B YX7_makeValue 57 (fun o => .if_icmp .gt o) 60 67 := ⟨10, by decide +kernel, rfl, by decide⟩
theorem eX7_makeValue_60 : sl_D YX7_makeValue 60 (.iload 4) 2 62 := ⟨by decide +kernel, rfl⟩
theorem eX7_makeValue_62 : sl_B YX7_makeValue 62 (fun o => .ifCond .ge o) 65 67 := ⟨5, by decide +kernel, rfl, by decide⟩
theorem eX7_makeValue_65 : sl_D YX7_makeValue 65 (.iconst 4) 1 66 := ⟨by decide +kernel, rfl⟩
theorem eX7_makeValue_66 : sl_D YX7_makeValue 66 (.ireturn) 1 67 := ⟨by decide +kernel, rfl⟩
theorem eX7_makeValue_67 : sl_D YX7_makeValue 67 (.iload_n 1) 1 68 := ⟨by decide +kernel, rfl⟩
theorem eX7_makeValue_68 : sl_D YX7_makeValue 68 (.iconst 3) 1 69 := ⟨by decide +kernel, rfl⟩
theorem eX7_makeValue_69 : sl_B YX7_makeValue 69 (fun o => .if_icmp .le o) 72 101 := ⟨32, by decide +kernel, rfl, by decide⟩
theorem eX7_makeValue_72 : sl_D YX7_makeValue 72 (.aload_n 0) 1 73 := ⟨by decide +kernel, rfl⟩
theorem eX7_makeValue_73 : sl_D YX7_makeValue 73 (.getfield 38) 3 76 := ⟨by decide +kernel, rfl⟩
theorem eX7_makeValue_76 : sl_D YX7_makeValue 76 (.iload_n 1) 1 77 := ⟨by decide +kernel, rfl⟩
theorem eX7_makeValue_77 : sl_D YX7_makeValue 77 (.aload_n 0) 1 78 := ⟨by decide +kernel, rfl⟩
theorem eX7_makeValue_78 : sl_D YX7_makeValue 78 (.getfield 12) 3 81 := ⟨by decide +kernel, rfl⟩
theorem eX7_makeValue_81 : sl_D YX7_makeValue 81 (.getfield 203) 3 84 := ⟨by decide +kernel, rfl⟩
theorem eX7_makeValue_84 : sl_D YX7_makeValue 84 (.iload_n 3) 1 85 := ⟨by decide +kernel, rfl⟩
theorem eX7_makeValue_85 : sl_D YX7_makeValue 85 (.baload) 1 86 := ⟨by decide +kernel, rfl⟩
theorem eX7_makeValue_86 : sl_D YX7_makeValue 86 (.aload_n 0) 1 87 := ⟨by decide +kernel, rfl⟩
theorem eX7_makeValue_87 : sl_D YX7_makeValue 87 (.getfield 12) 3 90 := ⟨by decide +kernel, rfl⟩
theorem eX7_makeValue_90 : sl_D YX7_makeValue 90 (.getfield 204) 3 93 := ⟨by decide +kernel, rfl⟩
theorem eX7_makeValue_93 : sl_D YX7_makeValue 93 (.iload_n 3) 1 94 := ⟨by decide +kernel, rfl⟩
theorem eX7_makeValue_94 : sl_D YX7_makeValue 94 (.iaload) 1 95 := ⟨by decide +kernel, rfl⟩
theorem eX7_makeValue_95 : sl_D YX7_makeValue 95 (.invokevirtual 205) 3 98 := ⟨by decide +kernel, rfl⟩
theorem eX7_makeValue_98 : sl_B YX7_makeValue 98 (fun o => .goto o) 101 196 := ⟨98, by decide +kernel, rfl, by decide⟩
theorem eX7_makeValue_101 : sl_D YX7_makeValue 101 (.aload_n 0) 1 102 := ⟨by decide +kernel, rfl⟩
theorem eX7_makeValue_102 : sl_D YX7_makeValue 102 (.getfield 12) 3 105 := ⟨by decide +kernel, rfl⟩
theorem eX7_makeValue_105 : sl_D YX7_makeValue 105 (.getfield 203) 3 108 := ⟨by decide +kernel, rfl⟩
theorem eX7_makeValue_108 : sl_D YX7_makeValue 108 (.iload_n 3) 1 109 := ⟨by decide +kernel, rfl⟩
theorem eX7_makeValue_109 : sl_D YX7_makeValue 109 (.baload) 1 110 := ⟨by decide +kernel, rfl⟩
theorem eX7_makeValue_110 : sl_B YX7_makeValue 110 (fun o => .ifCond .ne o) 113 126 := ⟨16, by decide +kernel, rfl, by decide⟩
theorem eX7_makeValue_113 : sl_D YX7_makeValue 113 (.aload_n 0) 1 114 := ⟨by decide +kernel, rfl⟩
theorem eX7_makeValue_114 : sl_D YX7_makeValue 114 (.getfield 12) 3 117 := ⟨by decide +kernel, rfl⟩
theorem eX7_makeValue_117 : sl_D YX7_makeValue 117 (.getfield 203) 3 120 := ⟨by decide +kernel, rfl⟩
theorem eX7_makeValue_120 : sl_D YX7_makeValue 120 (.iload 4) 2 122 := ⟨by decide +kernel, rfl⟩
theorem eX7_makeValue_122 : sl_D YX7_makeValue 122 (.baload) 1 123 := ⟨by decide +kernel, rfl⟩
theorem eX7_makeValue_123 : sl_B YX7_makeValue 123 (fun o => .ifCond .eq o) 126 148 := ⟨25, by decide +kernel, rfl, by decide⟩
theorem eX7_makeValue_126 : sl_D YX7_makeValue 126 (.aload_n 0) 1 127 := ⟨by decide +kernel, rfl⟩
theorem eX7_makeValue_127 : sl_D YX7_makeValue 127 (.getfield 38) 3 130 := ⟨by decide +kernel, rfl⟩
theorem eX7_makeValue_130 : sl_D YX7_makeValue 130 (.iload_n 1) 1 131 := ⟨by decide +kernel, rfl⟩
theorem eX7_makeValue_131 : sl_D YX7_makeValue 131 (.aload_n 0) 1 132 := ⟨by decide +kernel, rfl⟩
theorem eX7_makeValue_132 : sl_D YX7_makeValue 132 (.iload_n 3) 1 133 := ⟨by decide +kernel, rfl⟩
theorem eX7_makeValue_133 : sl_D YX7_makeValue 133 (.invokevirtual 209) 3 136 := ⟨by decide +kernel, rfl⟩
theorem eX7_makeValue_136 : sl_D YX7_makeValue 136 (.aload_n 0) 1 137 := ⟨by decide +kernel, rfl⟩
theorem eX7_makeValue_137 : sl_D YX7_makeValue 137 (.iload 4) 2 139 := ⟨by decide +kernel, rfl⟩
theorem eX7_makeValue_139 : sl_D YX7_makeValue 139 (.invokevirtual 209) 3 142 := ⟨by decide +kernel, rfl⟩
theorem eX7_makeValue_142 : sl_D YX7_makeValue 142 (.invokevirtual 212) 3 145 := ⟨by decide +kernel, rfl⟩
theorem eX7_makeValue_145 : sl_B YX7_makeValue 145 (fun o => .goto o) 148 196 := ⟨51, by decide +kernel, rfl, by decide⟩
theorem eX7_makeValue_148 : sl_D YX7_makeValue 148 (.iload_n 1) 1 149 := ⟨by decide +kernel, rfl⟩
theorem eX7_makeValue_149 : sl_D YX7_makeValue 149 (.iconst 3) 1 150 := ⟨by decide +kernel, rfl⟩
theorem eX7_makeValue_150 : sl_B YX7_makeValue 150 (fun o => .if_icmp .ne o) 153 169 := ⟨19, by decide +kernel, rfl, by decide⟩
theorem eX7_makeValue_153 : sl_D YX7_makeValue 153 (.aload_n 0) 1 154 := ⟨by decide +kernel, rfl⟩
theorem eX7_makeValue_154 : sl_D YX7_makeValue 154 (.getfield 12) 3 157 := ⟨by decide +kernel, rfl⟩
theorem eX7_makeValue_157 : sl_D YX7_makeValue 157 (.getfield 204) 3 160 := ⟨by decide +kernel, rfl⟩
theorem eX7_makeValue_160 : sl_D YX7_makeValue 160 (.iload 4) 2 162 := ⟨by decide +kernel, rfl⟩
theorem eX7_makeValue_162 : sl_D YX7_makeValue 162 (.iaload) 1 163 := ⟨by decide +kernel, rfl⟩
theorem eX7_makeValue_163 : sl_B YX7_makeValue 163 (fun o => .ifCond .ne o) 166 169 := ⟨6, by decide +kernel, rfl, by decide⟩
theorem eX7_makeValue_166 : sl_D YX7_makeValue 166 (.bipush 6) 2 168 := ⟨by decide +kernel, rfl⟩
theorem eX7_makeValue_168 : sl_D YX7_makeValue 168 (.ireturn) 1 169 := ⟨by decide +kernel, rfl⟩
theorem eX7_makeValue_169 : sl_D YX7_makeValue 169 (.aload_n 0) 1 170 := ⟨by decide +kernel, rfl⟩
theorem eX7_makeValue_170 : sl_D YX7_makeValue 170 (.getfield 38) 3 173 := ⟨by decide +kernel, rfl⟩
theorem eX7_makeValue_173 : sl_D YX7_makeValue 173 (.iload_n 1) 1 174 := ⟨by decide +kernel, rfl⟩
theorem eX7_makeValue_174 : sl_D YX7_makeValue 174 (.aload_n 0) 1 175 := ⟨by decide +kernel, rfl⟩
theorem eX7_makeValue_175 : sl_D YX7_makeValue 175 (.getfield 12) 3 178 := ⟨by decide +kernel, rfl⟩
theorem eX7_makeValue_178 : sl_D YX7_makeValue 178 (.getfield 204) 3 181 := ⟨by decide +kernel, rfl⟩
theorem eX7_makeValue_181 : sl_D YX7_makeValue 181 (.iload_n 3) 1 182 := ⟨by decide +kernel, rfl⟩
theorem eX7_makeValue_182 : sl_D YX7_makeValue 182 (.iaload) 1 183 := ⟨by decide +kernel, rfl⟩
theorem eX7_makeValue_183 : sl_D YX7_makeValue 183 (.aload_n 0) 1 184 := ⟨by decide +kernel, rfl⟩
theorem eX7_makeValue_184 : sl_D YX7_makeValue 184 (.getfield 12) 3 187 := ⟨by decide +kernel, rfl⟩
theorem eX7_makeValue_187 : sl_D YX7_makeValue 187 (.getfield 204) 3 190 := ⟨by decide +kernel, rfl⟩
theorem eX7_makeValue_190 : sl_D YX7_makeValue 190 (.iload 4) 2 192 := ⟨by decide +kernel, rfl⟩
theorem eX7_makeValue_192 : sl_D YX7_makeValue 192 (.iaload) 1 193 := ⟨by decide +kernel, rfl⟩
theorem eX7_makeValue_193 : sl_D YX7_makeValue 193 (.invokevirtual 216) 3 196 := ⟨by decide +kernel, rfl⟩
theorem eX7_makeValue_196 : sl_D YX7_makeValue 196 (.aload_n 0) 1 197 := ⟨by decide +kernel, rfl⟩
theorem eX7_makeValue_197 : sl_D YX7_makeValue 197 (.getfield 38) 3 200 := ⟨by decide +kernel, rfl⟩
theorem eX7_makeValue_200 : sl_D YX7_makeValue 200 (.getfield 183) 3 203 := ⟨by decide +kernel, rfl⟩
theorem eX7_makeValue_203 : sl_B YX7_makeValue 203 (fun o => .ifCond .eq o) 206 210 := ⟨7, by decide +kernel, rfl, by decide⟩
theorem eX7_makeValue_206 : sl_D YX7_makeValue 206 (.iconst 1) 1 207 := ⟨by decide +kernel, rfl⟩
theorem eX7_makeValue_207 : sl_B YX7_makeValue 207 (fun o => .goto o) 210 211 := ⟨4, by decide +kernel, rfl, by decide⟩
theorem eX7_makeValue_210 : sl_D YX7_makeValue 210 (.iconst 2) 1 211 := ⟨by decide +kernel, rfl⟩
theorem eX7_makeValue_211 : sl_D YX7_makeValue 211 (.istore 5) 2 213 := ⟨by decide +kernel, rfl⟩
theorem eX7_makeValue_213 : sl_D YX7_makeValue 213 (.aload_n 0) 1 214 := ⟨by decide +kernel, rfl⟩
theorem eX7_makeValue_214 : sl_D YX7_makeValue 214 (.getfield 42) 3 217 := ⟨by decide +kernel, rfl⟩
theorem eX7_makeValue_217 : sl_D YX7_makeValue 217 (.getfield 219) 3 220 := ⟨by decide +kernel, rfl⟩
theorem eX7_makeValue_220 : sl_D YX7_makeValue 220 (.iload 5) 2 222 := ⟨by decide +kernel, rfl⟩
theorem eX7_makeValue_222 : sl_B YX7_makeValue 222 (fun o => .if_icmp .ne o) 225 229 := ⟨7, by decide +kernel, rfl, by decide⟩
theorem eX7_makeValue_225 : sl_D YX7_makeValue 225 (.iconst 5) 1 226 := ⟨by decide +kernel, rfl⟩
theorem eX7_makeValue_226 : sl_B YX7_makeValue 226 (fun o => .goto o) 229 230 := ⟨4, by decide +kernel, rfl, by decide⟩
theorem eX7_makeValue_229 : sl_D YX7_makeValue 229 (.iconst 0) 1 230 := ⟨by decide +kernel, rfl⟩
theorem eX7_makeValue_230 : sl_D YX7_makeValue 230 (.ireturn) 1 231 := ⟨by decide +kernel, rfl⟩
theorem eX7_realBits_0 : sl_D YX7_realBits 0 (.aload_n 0) 1 1 := ⟨by decide +kernel, rfl⟩
theorem eX7_realBits_1 : sl_D YX7_realBits 1 (.getfield 12) 3 4 := ⟨by decide +kernel, rfl⟩
theorem eX7_realBits_4 : sl_D YX7_realBits 4 (.getfield 203) 3 7 := ⟨by decide +kernel, rfl⟩
theorem eX7_realBits_7 : sl_D YX7_realBits 7 (.iload_n 1) 1 8 := ⟨by decide +kernel, rfl⟩
theorem eX7_realBits_8 : sl_D YX7_realBits 8 (.baload) 1 9 := ⟨by decide +kernel, rfl⟩
theorem eX7_realBits_9 : sl_B YX7_realBits 9 (fun o => .ifCond .eq o) 12 24 := ⟨15, by decide +kernel, rfl, by decide⟩
theorem eX7_realBits_12 : sl_D YX7_realBits 12 (.aload_n 0) 1 13 := ⟨by decide +kernel, rfl⟩
theorem eX7_realBits_13 : sl_D YX7_realBits 13 (.getfield 12) 3 16 := ⟨by decide +kernel, rfl⟩
theorem eX7_realBits_16 : sl_D YX7_realBits 16 (.getfield 204) 3 19 := ⟨by decide +kernel, rfl⟩
theorem eX7_realBits_19 : sl_D YX7_realBits 19 (.iload_n 1) 1 20 := ⟨by decide +kernel, rfl⟩
theorem eX7_realBits_20 : sl_D YX7_realBits 20 (.iaload) 1 21 := ⟨by decide +kernel, rfl⟩
theorem eX7_realBits_21 : sl_B YX7_realBits 21 (fun o => .goto o) 24 36 := ⟨15, by decide +kernel, rfl, by decide⟩
theorem eX7_realBits_24 : sl_D YX7_realBits 24 (.aload_n 0) 1 25 := ⟨by decide +kernel, rfl⟩
theorem eX7_realBits_25 : sl_D YX7_realBits 25 (.getfield 12) 3 28 := ⟨by decide +kernel, rfl⟩
theorem eX7_realBits_28 : sl_D YX7_realBits 28 (.getfield 204) 3 31 := ⟨by decide +kernel, rfl⟩
theorem eX7_realBits_31 : sl_D YX7_realBits 31 (.iload_n 1) 1 32 := ⟨by decide +kernel, rfl⟩
theorem eX7_realBits_32 : sl_D YX7_realBits 32 (.iaload) 1 33 := ⟨by decide +kernel, rfl⟩
theorem eX7_realBits_33 : sl_D YX7_realBits 33 (.invokestatic 222) 3 36 := ⟨by decide +kernel, rfl⟩
theorem eX7_realBits_36 : sl_D YX7_realBits 36 (.ireturn) 1 37 := ⟨by decide +kernel, rfl⟩
theorem eX8_isNoNumber_0 : sl_D YX8_isNoNumber 0 (.iload_n 0) 1 1 := ⟨by decide +kernel, rfl⟩
theorem eX8_isNoNumber_1 : sl_D YX8_isNoNumber 1 (.ldc 11) 2 3 := ⟨by decide +kernel, rfl⟩
theorem eX8_isNoNumber_3 : sl_D YX8_isNoNumber 3 (.iand) 1 4 := ⟨by decide +kernel, rfl⟩
theorem eX8_isNoNumber_4 : sl_D YX8_isNoNumber 4 (.ldc 14) 2 6 := ⟨by decide +kernel, rfl⟩
theorem eX8_isNoNumber_6 : sl_B YX8_isNoNumber 6 (fun o => .if_icmp .le o) 9 13 := ⟨7, by decide +kernel, rfl, by decide⟩
theorem eX8_isNoNumber_9 : sl_D YX8_isNoNumber 9 (.iconst 1) 1 10 := ⟨by decide +kernel, rfl⟩
theorem eX8_isNoNumber_10 : sl_B YX8_isNoNumber 10 (fun o => .goto o) 13 14 := ⟨4, by decide +kernel, rfl, by decide⟩
theorem eX8_isNoNumber_13 : sl_D YX8_isNoNumber 13 (.iconst 0) 1 14 := ⟨by decide +kernel, rfl⟩
theorem eX8_isNoNumber_14 : sl_D YX8_isNoNumber 14 (.ireturn) 1 15 := ⟨by decide +kernel, rfl⟩
theorem eX8_isInfinite_0 : sl_D YX8_isInfinite 0 (.iload_n 0) 1 1 := ⟨by decide +kernel, rfl⟩
theorem eX8_isInfinite_1 : sl_D YX8_isInfinite 1 (.ldc 11) 2 3 := ⟨by decide +kernel, rfl⟩
theorem eX8_isInfinite_3 : sl_D YX8_isInfinite 3 (.iand) 1 4 := ⟨by decide +kernel, rfl⟩
theorem eX8_isInfinite_4 : sl_D YX8_isInfinite 4 (.ldc 14) 2 6 := ⟨by decide +kernel, rfl⟩
theorem eX8_isInfinite_6 : sl_B YX8_isInfinite 6 (fun o => .if_icmp .ne o) 9 13 := ⟨7, by decide +kernel, rfl, by decide⟩
theorem eX8_isInfinite_9 : sl_D YX8_isInfinite 9 (.iconst 1) 1 10 := ⟨by decide +kernel, rfl⟩
theorem eX8_isInfinite_10 : sl_B YX8_isInfinite 10 (fun o => .goto o) 13 14 := ⟨4, by decide +kernel, rfl, by decide⟩
theorem eX8_isInfinite_13 : sl_D YX8_isInfinite 13 (.iconst 0) 1 14 := ⟨by decide +kernel, rfl⟩
theorem eX8_isInfinite_14 : sl_D YX8_isInfinite 14 (.ireturn) 1 15 := ⟨by decide +kernel, rfl⟩
theorem eX8_isZero_0 : sl_D YX8_isZero 0 (.iload_n 0) 1 1 := ⟨by decide +kernel, rfl⟩
theorem eX8_isZero_1 : sl_D YX8_isZero 1 (.ldc 11) 2 3 := ⟨by decide +kernel, rfl⟩
theorem eX8_isZero_3 : sl_D YX8_isZero 3 (.iand) 1 4 := ⟨by decide +kernel, rfl⟩
theorem eX8_isZero_4 : sl_B YX8_isZero 4 (fun o => .ifCond .ne o) 7 11 := ⟨7, by decide +kernel, rfl, by decide⟩
theorem eX8_isZero_7 : sl_D YX8_isZero 7 (.iconst 1) 1 8 := ⟨by decide +kernel, rfl⟩
theorem eX8_isZero_8 : sl_B YX8_isZero 8 (fun o => .goto o) 11 12 := ⟨4, by decide +kernel, rfl, by decide⟩
theorem eX8_isZero_11 : sl_D YX8_isZero 11 (.iconst 0) 1 12 := ⟨by decide +kernel, rfl⟩
theorem eX8_isZero_12 : sl_D YX8_isZero 12 (.ireturn) 1 13 := ⟨by decide +kernel, rfl⟩
theorem eX8_ofDigits_0 : sl_D YX8_ofDigits 0 (.iload_n 1) 1 1 := ⟨by decide +kernel, rfl⟩
theorem eX8_ofDigits_1 : sl_D YX8_ofDigits 1 (.iconst 1) 1 2 := ⟨by decide +kernel, rfl⟩
theorem eX8_ofDigits_2 : sl_B YX8_ofDigits 2 (fun o => .if_icmp .ne o) 5 10 := ⟨8, by decide +kernel, rfl, by decide⟩
theorem eX8_ofDigits_5 : sl_D YX8_ofDigits 5 (.ldc 15) 2 7 := ⟨by decide +kernel, rfl⟩
theorem eX8_ofDigits_7 : sl_B YX8_ofDigits 7 (fun o => .goto o) 10 22 := ⟨15, by decide +kernel, rfl, by decide⟩
theorem eX8_ofDigits_10 : sl_D YX8_ofDigits 10 (.iload_n 1) 1 11 := ⟨by decide +kernel, rfl⟩
theorem eX8_ofDigits_11 : sl_D YX8_ofDigits 11 (.iconst 2) 1 12 := ⟨by decide +kernel, rfl⟩
theorem eX8_ofDigits_12 : sl_B YX8_ofDigits 12 (fun o => .if_icmp .ne o) 15 20 := ⟨8, by decide +kernel, rfl, by decide⟩
theorem eX8_ofDigits_15 : sl_D YX8_ofDigits 15 (.ldc 16) 2 17 := ⟨by decide +kernel, rfl⟩
theorem eX8_ofDigits_17 : sl_B YX8_ofDigits 17 (fun o => .goto o) 20 22 := ⟨5, by decide +kernel, rfl, by decide⟩
theorem eX8_ofDigits_20 : sl_D YX8_ofDigits 20 (.ldc 17) 2 22 := ⟨by decide +kernel, rfl⟩
theorem eX8_ofDigits_22 : sl_D YX8_ofDigits 22 (.fstore_n 2) 1 23 := ⟨by decide +kernel, rfl⟩
theorem eX8_ofDigits_23 : sl_D YX8_ofDigits 23 (.iload_n 0) 1 24 := ⟨by decide +kernel, rfl⟩
theorem eX8_ofDigits_24 : sl_D YX8_ofDigits 24 (.i2f) 1 25 := ⟨by decide +kernel, rfl⟩
theorem eX8_ofDigits_25 : sl_D YX8_ofDigits 25 (.fload_n 2) 1 26 := ⟨by decide +kernel, rfl⟩
theorem eX8_ofDigits_26 : sl_D YX8_ofDigits 26 (.fdiv) 1 27 := ⟨by decide +kernel, rfl⟩
theorem eX8_ofDigits_27 : sl_D YX8_ofDigits 27 (.invokestatic 18) 3 30 := ⟨by decide +kernel, rfl⟩
theorem eX8_ofDigits_30 : sl_D YX8_ofDigits 30 (.ireturn) 1 31 := ⟨by decide +kernel, rfl⟩
theorem eX8_ofWhole_0 : sl_D YX8_ofWhole 0 (.iload_n 0) 1 1 := ⟨by decide +kernel, rfl⟩
theorem eX8_ofWhole_1 : sl_D YX8_ofWhole 1 (.i2f) 1 2 := ⟨by decide +kernel, rfl⟩
theorem eX8_ofWhole_2 : sl_D YX8_ofWhole 2 (.fstore_n 1) 1 3 := ⟨by decide +kernel, rfl⟩
theorem eX8_ofWhole_3 : sl_D YX8_ofWhole 3 (.fload_n 1) 1 4 := ⟨by decide +kernel, rfl⟩
theorem eX8_ofWhole_4 : sl_D YX8_ofWhole 4 (.fconst 0) 1 5 := ⟨by decide +kernel, rfl⟩
theorem eX8_ofWhole_5 : sl_D YX8_ofWhole 5 (.fcmp .g) 1 6 := ⟨by decide +kernel, rfl⟩
theorem eX8_ofWhole_6 : sl_B YX8_ofWhole 6 (fun o => .ifCond .ge o) 9 21 := ⟨15, by decide +kernel, rfl, by decide⟩
theorem eX8_ofWhole_9 : sl_D YX8_ofWhole 9 (.fconst 0) 1 10 := ⟨by decide +kernel, rfl⟩
theorem eX8_ofWhole_10 : sl_D YX8_ofWhole 10 (.fload_n 1) 1 11 := ⟨by decide +kernel, rfl⟩
theorem eX8_ofWhole_11 : sl_D YX8_ofWhole 11 (.fsub) 1 12 := ⟨by decide +kernel, rfl⟩
theorem eX8_ofWhole_12 : sl_D YX8_ofWhole 12 (.invokestatic 18) 3 15 := ⟨by decide +kernel, rfl⟩
theorem eX8_ofWhole_15 : sl_D YX8_ofWhole 15 (.ldc 22) 2 17 := ⟨by decide +kernel, rfl⟩
theorem eX8_ofWhole_17 : sl_D YX8_ofWhole 17 (.ior) 1 18 := ⟨by decide +kernel, rfl⟩
theorem eX8_ofWhole_18 : sl_B YX8_ofWhole 18 (fun o => .goto o) 21 25 := ⟨7, by decide +kernel, rfl, by decide⟩
theorem eX8_ofWhole_21 : sl_D YX8_ofWhole 21 (.fload_n 1) 1 22 := ⟨by decide +kernel, rfl⟩
theorem eX8_ofWhole_22 : sl_D YX8_ofWhole 22 (.invokestatic 18) 3 25 := ⟨by decide +kernel, rfl⟩
theorem eX8_ofWhole_25 : sl_D YX8_ofWhole 25 (.ireturn) 1 26 := ⟨by decide +kernel, rfl⟩
theorem eX8_toWhole_0 : sl_D YX8_toWhole 0 (.iload_n 0) 1 1 := ⟨by decide +kernel, rfl⟩
theorem eX8_toWhole_1 : sl_D YX8_toWhole 1 (.invokestatic 23) 3 4 := ⟨by decide +kernel, rfl⟩
theorem eX8_toWhole_4 : sl_B YX8_toWhole 4 (fun o => .ifCond .eq o) 7 9 := ⟨5, by decide +kernel, rfl, by decide⟩
theorem eX8_toWhole_7 : sl_D YX8_toWhole 7 (.iconst 0) 1 8 := ⟨by decide +kernel, rfl⟩
theorem eX8_toWhole_8 : sl_D YX8_toWhole 8 (.ireturn) 1 9 := ⟨by decide +kernel, rfl⟩
theorem eX8_toWhole_9 : sl_D YX8_toWhole 9 (.iload_n 0) 1 10 := ⟨by decide +kernel, rfl⟩
theorem eX8_toWhole_10 : sl_D YX8_toWhole 10 (.invokestatic 27) 3 13 := ⟨by decide +kernel, rfl⟩
theorem eX8_toWhole_13 : sl_B YX8_toWhole 13 (fun o => .ifCond .eq o) 16 28 := ⟨15, by decide +kernel, rfl, by decide⟩
theorem eX8_toWhole_16 : sl_D YX8_toWhole 16 (.iload_n 0) 1 17 := ⟨by decide +kernel, rfl⟩
theorem eX8_toWhole_17 : sl_B YX8_toWhole 17 (fun o => .ifCond .ge o) 20 25 := ⟨8, by decide +kernel, rfl, by decide⟩
theorem eX8_toWhole_20 : sl_D YX8_toWhole 20 (.ldc 22) 2 22 := ⟨by decide +kernel, rfl⟩
theorem eX8_toWhole_22 : sl_B YX8_toWhole 22 (fun o => .goto o) 25 27 := ⟨5, by decide +kernel, rfl, by decide⟩
theorem eX8_toWhole_25 : sl_D YX8_toWhole 25 (.ldc 11) 2 27 := ⟨by decide +kernel, rfl⟩
theorem eX8_toWhole_27 : sl_D YX8_toWhole 27 (.ireturn) 1 28 := ⟨by decide +kernel, rfl⟩
theorem eX8_toWhole_28 : sl_D YX8_toWhole 28 (.iload_n 0) 1 29 := ⟨by decide +kernel, rfl⟩
theorem eX8_toWhole_29 : sl_D YX8_toWhole 29 (.invokestatic 30) 3 32 := ⟨by decide +kernel, rfl⟩
theorem eX8_toWhole_32 : sl_D YX8_toWhole 32 (.f2i) 1 33 := ⟨by decide +kernel, rfl⟩
theorem eX8_toWhole_33 : sl_D YX8_toWhole 33 (.ireturn) 1 34 := ⟨by decide +kernel, rfl⟩
theorem eX8_negated_0 : sl_D YX8_negated 0 (.iload_n 0) 1 1 := ⟨by decide +kernel, rfl⟩
theorem eX8_negated_1 : sl_D YX8_negated 1 (.invokestatic 23) 3 4 := ⟨by decide +kernel, rfl⟩
theorem eX8_negated_4 : sl_B YX8_negated 4 (fun o => .ifCond .eq o) 7 12 := ⟨8, by decide +kernel, rfl, by decide⟩
theorem eX8_negated_7 : sl_D YX8_negated 7 (.ldc 34) 2 9 := ⟨by decide +kernel, rfl⟩
theorem eX8_negated_9 : sl_B YX8_negated 9 (fun o => .goto o) 12 16 := ⟨7, by decide +kernel, rfl, by decide⟩
theorem eX8_negated_12 : sl_D YX8_negated 12 (.iload_n 0) 1 13 := ⟨by decide +kernel, rfl⟩
theorem eX8_negated_13 : sl_D YX8_negated 13 (.ldc 22) 2 15 := ⟨by decide +kernel, rfl⟩
theorem eX8_negated_15 : sl_D YX8_negated 15 (.ixor) 1 16 := ⟨by decide +kernel, rfl⟩
theorem eX8_negated_16 : sl_D YX8_negated 16 (.ireturn) 1 17 := ⟨by decide +kernel, rfl⟩
theorem eX8_sum_0 : sl_D YX8_sum 0 (.iload_n 0) 1 1 := ⟨by decide +kernel, rfl⟩
theorem eX8_sum_1 : sl_D YX8_sum 1 (.invokestatic 23) 3 4 := ⟨by decide +kernel, rfl⟩
theorem eX8_sum_4 : sl_B YX8_sum 4 (fun o => .ifCond .ne o) 7 14 := ⟨10, by decide +kernel, rfl, by decide⟩
theorem eX8_sum_7 : sl_D YX8_sum 7 (.iload_n 1) 1 8 := ⟨by decide +kernel, rfl⟩
theorem eX8_sum_8 : sl_D YX8_sum 8 (.invokestatic 23) 3 11 := ⟨by decide +kernel, rfl⟩
theorem eX8_sum_11 : sl_B YX8_sum 11 (fun o => .ifCond .eq o) 14 17 := ⟨6, by decide +kernel, rfl, by decide⟩
theorem eX8_sum_14 : sl_D YX8_sum 14 (.ldc 34) 2 16 := ⟨by decide +kernel, rfl⟩
theorem eX8_sum_16 : sl_D YX8_sum 16 (.ireturn) 1 17 := ⟨by decide +kernel, rfl⟩
theorem eX8_sum_17 : sl_D YX8_sum 17 (.iload_n 0) 1 18 := ⟨by decide +kernel, rfl⟩
theorem eX8_sum_18 : sl_D YX8_sum 18 (.invokestatic 27) 3 21 := ⟨by decide +kernel, rfl⟩
theorem eX8_sum_21 : sl_B YX8_sum 21 (fun o => .ifCond .eq o) 24 43 := ⟨22, by decide +kernel, rfl, by decide⟩
theorem eX8_sum_24 : sl_D YX8_sum 24 (.iload_n 1) 1 25 := ⟨by decide +kernel, rfl⟩
theorem eX8_sum_25 : sl_D YX8_sum 25 (.invokestatic 27) 3 28 := ⟨by decide +kernel, rfl⟩
theorem eX8_sum_28 : sl_B YX8_sum 28 (fun o => .ifCond .eq o) 31 41 := ⟨13, by decide +kernel, rfl, by decide⟩
theorem eX8_sum_31 : sl_D YX8_sum 31 (.iload_n 0) 1 32 := ⟨by decide +kernel, rfl⟩
theorem eX8_sum_32 : sl_D YX8_sum 32 (.iload_n 1) 1 33 := ⟨by decide +kernel, rfl⟩
theorem eX8_sum_33 : sl_B YX8_sum 33 (fun o => .if_icmp .eq o) 36 41 := ⟨8, by decide +kernel, rfl, by decide⟩
theorem eX8_sum_36 : sl_D YX8_sum 36 (.ldc 34) 2 38 := ⟨by decide +kernel, rfl⟩
theorem eX8_sum_38 : sl_B YX8_sum 38 (fun o => .goto o) 41 42 := ⟨4, by decide +kernel, rfl, by decide⟩
theorem eX8_sum_41 : sl_D YX8_sum 41 (.iload_n 0) 1 42 := ⟨by decide +kernel, rfl⟩
theorem eX8_sum_42 : sl_D YX8_sum 42 (.ireturn) 1 43 := ⟨by decide +kernel, rfl⟩
theorem eX8_sum_43 : sl_D YX8_sum 43 (.iload_n 1) 1 44 := ⟨by decide +kernel, rfl⟩
theorem eX8_sum_44 : sl_D YX8_sum 44 (.invokestatic 27) 3 47 := ⟨by decide +kernel, rfl⟩
theorem eX8_sum_47 : sl_B YX8_sum 47 (fun o => .ifCond .eq o) 50 52 := ⟨5, by decide +kernel, rfl, by decide⟩
theorem eX8_sum_50 : sl_D YX8_sum 50 (.iload_n 1) 1 51 := ⟨by decide +kernel, rfl⟩
theorem eX8_sum_51 : sl_D YX8_sum 51 (.ireturn) 1 52 := ⟨by decide +kernel, rfl⟩
theorem eX8_sum_52 : sl_D YX8_sum 52 (.iload_n 0) 1 53 := ⟨by decide +kernel, rfl⟩
theorem eX8_sum_53 : sl_D YX8_sum 53 (.invokestatic 30) 3 56 := ⟨by decide +kernel, rfl⟩
theorem eX8_sum_56 : sl_D YX8_sum 56 (.iload_n 1) 1 57 := ⟨by decide +kernel, rfl⟩
theorem eX8_sum_57 : sl_D YX8_sum 57 (.invokestatic 30) 3 60 := ⟨by decide +kernel, rfl⟩
theorem eX8_sum_60 : sl_D YX8_sum 60 (.fadd) 1 61 := ⟨by decide +kernel, rfl⟩
theorem eX8_sum_61 : sl_D YX8_sum 61 (.fstore_n 2) 1 62 := ⟨by decide +kernel, rfl⟩
theorem eX8_sum_62 : sl_D YX8_sum 62 (.fload_n 2) 1 63 := ⟨by decide +kernel, rfl⟩
theorem eX8_sum_63 : sl_D YX8_sum 63 (.fconst 0) 1 64 := ⟨by decide +kernel, rfl⟩
theorem eX8_sum_64 : sl_D YX8_sum 64 (.fcmp .l) 1 65 := ⟨by decide +kernel, rfl⟩
theorem eX8_sum_65 : sl_B YX8_sum 65 (fun o => .ifCond .ne o) 68 87 := ⟨22, by decide +kernel, rfl, by decide⟩
theorem eX8_sum_68 : sl_D YX8_sum 68 (.iload_n 0) 1 69 := ⟨by decide +kernel, rfl⟩
theorem eX8_sum_69 : sl_D YX8_sum 69 (.ldc 22) 2 71 := ⟨by decide +kernel, rfl⟩
theorem eX8_sum_71 : sl_B YX8_sum 71 (fun o => .if_icmp .ne o) 74 85 := ⟨14, by decide +kernel, rfl, by decide⟩
theorem eX8_sum_74 : sl_D YX8_sum 74 (.iload_n 1) 1 75 := ⟨by decide +kernel, rfl⟩
theorem eX8_sum_75 : sl_D YX8_sum 75 (.ldc 22) 2 77 := ⟨by decide +kernel, rfl⟩
theorem eX8_sum_77 : sl_B YX8_sum 77 (fun o => .if_icmp .ne o) 80 85 := ⟨8, by decide +kernel, rfl, by decide⟩
theorem eX8_sum_80 : sl_D YX8_sum 80 (.ldc 22) 2 82 := ⟨by decide +kernel, rfl⟩
theorem eX8_sum_82 : sl_B YX8_sum 82 (fun o => .goto o) 85 86 := ⟨4, by decide +kernel, rfl, by decide⟩
theorem eX8_sum_85 : sl_D YX8_sum 85 (.iconst 0) 1 86 := ⟨by decide +kernel, rfl⟩
theorem eX8_sum_86 : sl_D YX8_sum 86 (.ireturn) 1 87 := ⟨by decide +kernel, rfl⟩
theorem eX8_sum_87 : sl_D YX8_sum 87 (.fload_n 2) 1 88 := ⟨by decide +kernel, rfl⟩
theorem eX8_sum_88 : sl_D YX8_sum 88 (.fconst 0) 1 89 := ⟨by decide +kernel, rfl⟩
theorem eX8_sum_89 : sl_D YX8_sum 89 (.fcmp .g) 1 90 := ⟨by decide +kernel, rfl⟩
theorem eX8_sum_90 : sl_B YX8_sum 90 (fun o => .ifCond .ge o) 93 105 := ⟨15, by decide +kernel, rfl, by decide⟩
theorem eX8_sum_93 : sl_D YX8_sum 93 (.fconst 0) 1 94 := ⟨by decide +kernel, rfl⟩
theorem eX8_sum_94 : sl_D YX8_sum 94 (.fload_n 2) 1 95 := ⟨by decide +kernel, rfl⟩
theorem eX8_sum_95 : sl_D YX8_sum 95 (.fsub) 1 96 := ⟨by decide +kernel, rfl⟩
theorem eX8_sum_96 : sl_D YX8_sum 96 (.invokestatic 18) 3 99 := ⟨by decide +kernel, rfl⟩
theorem eX8_sum_99 : sl_D YX8_sum 99 (.ldc 22) 2 101 := ⟨by decide +kernel, rfl⟩
theorem eX8_sum_101 : sl_D YX8_sum 101 (.ior) 1 102 := ⟨by decide +kernel, rfl⟩
theorem eX8_sum_102 : sl_B YX8_sum 102 (fun o => .goto o) 105 109 := ⟨7, by decide +kernel, rfl, by decide⟩
theorem eX8_sum_105 : sl_D YX8_sum 105 (.fload_n 2) 1 106 := ⟨by decide +kernel, rfl⟩
theorem eX8_sum_106 : sl_D YX8_sum 106 (.invokestatic 18) 3 109 := ⟨by decide +kernel, rfl⟩
theorem eX8_sum_109 : sl_D YX8_sum 109 (.ireturn) 1 110 := ⟨by decide +kernel, rfl⟩
theorem eX8_product_0 : sl_D YX8_product 0 (.iload_n 0) 1 1 := ⟨by decide +kernel, rfl⟩
theorem eX8_product_1 : sl_D YX8_product 1 (.invokestatic 23) 3 4 := ⟨by decide +kernel, rfl⟩
theorem eX8_product_4 : sl_B YX8_product 4 (fun o => .ifCond .ne o) 7 42 := ⟨38, by decide +kernel, rfl, by decide⟩
theorem eX8_product_7 : sl_D YX8_product 7 (.iload_n 1) 1 8 := ⟨by decide +kernel, rfl⟩
theorem eX8_product_8 : sl_D YX8_product 8 (.invokestatic 23) 3 11 := ⟨by decide +kernel, rfl⟩
theorem eX8_product_11 : sl_B YX8_product 11 (fun o => .ifCond .ne o) 14 42 := ⟨31, by decide +kernel, rfl, by decide⟩
theorem eX8_product_14 : sl_D YX8_product 14 (.iload_n 0) 1 15 := ⟨by decide +kernel, rfl⟩
theorem eX8_product_15 : sl_D YX8_product 15 (.invokestatic 27) 3 18 := ⟨by decide +kernel, rfl⟩
theorem eX8_product_18 : sl_B YX8_product 18 (fun o => .ifCond .eq o) 21 28 := ⟨10, by decide +kernel, rfl, by decide⟩
theorem eX8_product_21 : sl_D YX8_product 21 (.iload_n 1) 1 22 := ⟨by decide +kernel, rfl⟩
theorem eX8_product_22 : sl_D YX8_product 22 (.invokestatic 35) 3 25 := ⟨by decide +kernel, rfl⟩
theorem eX8_product_25 : sl_B YX8_product 25 (fun o => .ifCond .ne o) 28 42 := ⟨17, by decide +kernel, rfl, by decide⟩
theorem eX8_product_28 : sl_D YX8_product 28 (.iload_n 0) 1 29 := ⟨by decide +kernel, rfl⟩
theorem eX8_product_29 : sl_D YX8_product 29 (.invokestatic 35) 3 32 := ⟨by decide +kernel, rfl⟩
theorem eX8_product_32 : sl_B YX8_product 32 (fun o => .ifCond .eq o) 35 45 := ⟨13, by decide +kernel, rfl, by decide⟩
theorem eX8_product_35 : sl_D YX8_product 35 (.iload_n 1) 1 36 := ⟨by decide +kernel, rfl⟩
theorem eX8_product_36 : sl_D YX8_product 36 (.invokestatic 27) 3 39 := ⟨by decide +kernel, rfl⟩
theorem eX8_product_39 : sl_B YX8_product 39 (fun o => .ifCond .eq o) 42 45 := ⟨6, by decide +kernel, rfl, by decide⟩
theorem eX8_product_42 : sl_D YX8_product 42 (.ldc 34) 2 44 := ⟨by decide +kernel, rfl⟩
theorem eX8_product_44 : sl_D YX8_product 44 (.ireturn) 1 45 := ⟨by decide +kernel, rfl⟩
theorem eX8_product_45 : sl_D YX8_product 45 (.iload_n 0) 1 46 := ⟨by decide +kernel, rfl⟩
theorem eX8_product_46 : sl_D YX8_product 46 (.iload_n 1) 1 47 := ⟨by decide +kernel, rfl⟩
theorem eX8_product_47 : sl_D YX8_product 47 (.ixor) 1 48 := ⟨by decide +kernel, rfl⟩
theorem eX8_product_48 : sl_D YX8_product 48 (.ldc 22) 2 50 := ⟨by decide +kernel, rfl⟩
theorem eX8_product_50 : sl_D YX8_product 50 (.iand) 1 51 := ⟨by decide +kernel, rfl⟩
theorem eX8_product_51 : sl_D YX8_product 51 (.istore_n 2) 1 52 := ⟨by decide +kernel, rfl⟩
theorem eX8_product_52 : sl_D YX8_product 52 (.iload_n 0) 1 53 := ⟨by decide +kernel, rfl⟩
theorem eX8_product_53 : sl_D YX8_product 53 (.invokestatic 27) 3 56 := ⟨by decide +kernel, rfl⟩
theorem eX8_product_56 : sl_B YX8_product 56 (fun o => .ifCond .ne o) 59 66 := ⟨10, by decide +kernel, rfl, by decide⟩
theorem eX8_product_59 : sl_D YX8_product 59 (.iload_n 1) 1 60 := ⟨by decide +kernel, rfl⟩
theorem eX8_product_60 : sl_D YX8_product 60 (.invokestatic 27) 3 63 := ⟨by decide +kernel, rfl⟩
theorem eX8_product_63 : sl_B YX8_product 63 (fun o => .ifCond .eq o) 66 71 := ⟨8, by decide +kernel, rfl, by decide⟩
theorem eX8_product_66 : sl_D YX8_product 66 (.iload_n 2) 1 67 := ⟨by decide +kernel, rfl⟩
theorem eX8_product_67 : sl_D YX8_product 67 (.ldc 14) 2 69 := ⟨by decide +kernel, rfl⟩
theorem eX8_product_69 : sl_D YX8_product 69 (.ior) 1 70 := ⟨by decide +kernel, rfl⟩
theorem eX8_product_70 : sl_D YX8_product 70 (.ireturn) 1 71 := ⟨by decide +kernel, rfl⟩
theorem eX8_product_71 : sl_D YX8_product 71 (.iload_n 2) 1 72 := ⟨by decide +kernel, rfl⟩
theorem eX8_product_72 : sl_D YX8_product 72 (.iload_n 0) 1 73 := ⟨by decide +kernel, rfl⟩
theorem eX8_product_73 : sl_D YX8_product 73 (.ldc 11) 2 75 := ⟨by decide +kernel, rfl⟩
theorem eX8_product_75 : sl_D YX8_product 75 (.iand) 1 76 := ⟨by decide +kernel, rfl⟩
theorem eX8_product_76 : sl_D YX8_product 76 (.invokestatic 30) 3 79 := ⟨by decide +kernel, rfl⟩
theorem eX8_product_79 : sl_D YX8_product 79 (.iload_n 1) 1 80 := ⟨by decide +kernel, rfl⟩
theorem eX8_product_80 : sl_D YX8_product 80 (.ldc 11) 2 82 := ⟨by decide +kernel, rfl⟩
theorem eX8_product_82 : sl_D YX8_product 82 (.iand) 1 83 := ⟨by decide +kernel, rfl⟩
theorem eX8_product_83 : sl_D YX8_product 83 (.invokestatic 30) 3 86 := ⟨by decide +kernel, rfl⟩
theorem eX8_product_86 : sl_D YX8_product 86 (.fmul) 1 87 := ⟨by decide +kernel, rfl⟩
theorem eX8_product_87 : sl_D YX8_product 87 (.invokestatic 18) 3 90 := ⟨by decide +kernel, rfl⟩
theorem eX8_product_90 : sl_D YX8_product 90 (.ior) 1 91 := ⟨by decide +kernel, rfl⟩
theorem eX8_product_91 : sl_D YX8_product 91 (.ireturn) 1 92 := ⟨by decide +kernel, rfl⟩
theorem eX8_quotient_0 : sl_D YX8_quotient 0 (.iload_n 0) 1 1 := ⟨by decide +kernel, rfl⟩
theorem eX8_quotient_1 : sl_D YX8_quotient 1 (.invokestatic 23) 3 4 := ⟨by decide +kernel, rfl⟩
theorem eX8_quotient_4 : sl_B YX8_quotient 4 (fun o => .ifCond .ne o) 7 42 := ⟨38, by decide +kernel, rfl, by decide⟩
theorem eX8_quotient_7 : sl_D YX8_quotient 7 (.iload_n 1) 1 8 := ⟨by decide +kernel, rfl⟩
theorem eX8_quotient_8 : sl_D YX8_quotient 8 (.invokestatic 23) 3 11 := ⟨by decide +kernel, rfl⟩
theorem eX8_quotient_11 : sl_B YX8_quotient 11 (fun o => .ifCond .ne o) 14 42 := ⟨31, by decide +kernel, rfl, by decide⟩
theorem eX8_quotient_14 : sl_D YX8_quotient 14 (.iload_n 0) 1 15 := ⟨by decide +kernel, rfl⟩
theorem eX8_quotient_15 : sl_D YX8_quotient 15 (.invokestatic 27) 3 18 := ⟨by decide +kernel, rfl⟩
theorem eX8_quotient_18 : sl_B YX8_quotient 18 (fun o => .ifCond .eq o) 21 28 := ⟨10, by decide +kernel, rfl, by decide⟩
theorem eX8_quotient_21 : sl_D YX8_quotient 21 (.iload_n 1) 1 22 := ⟨by decide +kernel, rfl⟩
theorem eX8_quotient_22 : sl_D YX8_quotient 22 (.invokestatic 27) 3 25 := ⟨by decide +kernel, rfl⟩
theorem eX8_quotient_25 : sl_B YX8_quotient 25 (fun o => .ifCond .ne o) 28 42 := ⟨17, by decide +kernel, rfl, by decide⟩
theorem eX8_quotient_28 : sl_D YX8_quotient 28 (.iload_n 0) 1 29 := ⟨by decide +kernel, rfl⟩
theorem eX8_quotient_29 : sl_D YX8_quotient 29 (.invokestatic 35) 3 32 := ⟨by decide +kernel, rfl⟩
theorem eX8_quotient_32 : sl_B YX8_quotient 32 (fun o => .ifCond .eq o) 35 45 := ⟨13, by decide +kernel, rfl, by decide⟩
theorem eX8_quotient_35 : sl_D YX8_quotient 35 (.iload_n 1) 1 36 := ⟨by decide +kernel, rfl⟩
theorem eX8_quotient_36 : sl_D YX8_quotient 36 (.invokestatic 35) 3 39 := ⟨by decide +kernel, rfl⟩
theorem eX8_quotient_39 : sl_B YX8_quotient 39 (fun o => .ifCond .eq o) 42 45 := ⟨6, by decide +kernel, rfl, by decide⟩
theorem eX8_quotient_42 : sl_D YX8_quotient 42 (.ldc 34) 2 44 := ⟨by decide +kernel, rfl⟩
theorem eX8_quotient_44 : sl_D YX8_quotient 44 (.ireturn) 1 45 := ⟨by decide +kernel, rfl⟩
theorem eX8_quotient_45 : sl_D YX8_quotient 45 (.iload_n 0) 1 46 := ⟨by decide +kernel, rfl⟩
theorem eX8_quotient_46 : sl_D YX8_quotient 46 (.iload_n 1) 1 47 := ⟨by decide +kernel, rfl⟩
theorem eX8_quotient_47 : sl_D YX8_quotient 47 (.ixor) 1 48 := ⟨by decide +kernel, rfl⟩
theorem eX8_quotient_48 : sl_D YX8_quotient 48 (.ldc 22) 2 50 := ⟨by decide +kernel, rfl⟩
theorem eX8_quotient_50 : sl_D YX8_quotient 50 (.iand) 1 51 := ⟨by decide +kernel, rfl⟩
theorem eX8_quotient_51 : sl_D YX8_quotient 51 (.istore_n 2) 1 52 := ⟨by decide +kernel, rfl⟩
theorem eX8_quotient_52 : sl_D YX8_quotient 52 (.iload_n 0) 1 53 := ⟨by decide +kernel, rfl⟩
theorem eX8_quotient_53 : sl_D YX8_quotient 53 (.invokestatic 27) 3 56 := ⟨by decide +kernel, rfl⟩
theorem eX8_quotient_56 : sl_B YX8_quotient 56 (fun o => .ifCond .ne o) 59 66 := ⟨10, by decide +kernel, rfl, by decide⟩
theorem eX8_quotient_59 : sl_D YX8_quotient 59 (.iload_n 1) 1 60 := ⟨by decide +kernel, rfl⟩
theorem eX8_quotient_60 : sl_D YX8_quotient 60 (.invokestatic 35) 3 63 := ⟨by decide +kernel, rfl⟩
theorem eX8_quotient_63 : sl_B YX8_quotient 63 (fun o => .ifCond .eq o) 66 71 := ⟨8, by decide +kernel, rfl, by decide⟩
theorem eX8_quotient_66 : sl_D YX8_quotient 66 (.iload_n 2) 1 67 := ⟨by decide +kernel, rfl⟩
theorem eX8_quotient_67 : sl_D YX8_quotient 67 (.ldc 14) 2 69 := ⟨by decide +kernel, rfl⟩
theorem eX8_quotient_69 : sl_D YX8_quotient 69 (.ior) 1 70 := ⟨by decide +kernel, rfl⟩
theorem eX8_quotient_70 : sl_D YX8_quotient 70 (.ireturn) 1 71 := ⟨by decide +kernel, rfl⟩
theorem eX8_quotient_71 : sl_D YX8_quotient 71 (.iload_n 1) 1 72 := ⟨by decide +kernel, rfl⟩
theorem eX8_quotient_72 : sl_D YX8_quotient 72 (.invokestatic 27) 3 75 := ⟨by decide +kernel, rfl⟩
theorem eX8_quotient_75 : sl_B YX8_quotient 75 (fun o => .ifCond .ne o) 78 85 := ⟨10, by decide +kernel, rfl, by decide⟩
theorem eX8_quotient_78 : sl_D YX8_quotient 78 (.iload_n 0) 1 79 := ⟨by decide +kernel, rfl⟩
theorem eX8_quotient_79 : sl_D YX8_quotient 79 (.invokestatic 35) 3 82 := ⟨by decide +kernel, rfl⟩
theorem eX8_quotient_82 : sl_B YX8_quotient 82 (fun o => .ifCond .eq o) 85 87 := ⟨5, by decide +kernel, rfl, by decide⟩
theorem eX8_quotient_85 : sl_D YX8_quotient 85 (.iload_n 2) 1 86 := ⟨by decide +kernel, rfl⟩
theorem eX8_quotient_86 : sl_D YX8_quotient 86 (.ireturn) 1 87 := ⟨by decide +kernel, rfl⟩
theorem eX8_quotient_87 : sl_D YX8_quotient 87 (.iload_n 2) 1 88 := ⟨by decide +kernel, rfl⟩
theorem eX8_quotient_88 : sl_D YX8_quotient 88 (.iload_n 0) 1 89 := ⟨by decide +kernel, rfl⟩
theorem eX8_quotient_89 : sl_D YX8_quotient 89 (.ldc 11) 2 91 := ⟨by decide +kernel, rfl⟩
theorem eX8_quotient_91 : sl_D YX8_quotient 91 (.iand) 1 92 := ⟨by decide +kernel, rfl⟩
theorem eX8_quotient_92 : sl_D YX8_quotient 92 (.invokestatic 30) 3 95 := ⟨by decide +kernel, rfl⟩
theorem eX8_quotient_95 : sl_D YX8_quotient 95 (.iload_n 1) 1 96 := ⟨by decide +kernel, rfl⟩
theorem eX8_quotient_96 : sl_D YX8_quotient 96 (.ldc 11) 2 98 := ⟨by decide +kernel, rfl⟩
theorem eX8_quotient_98 : sl_D YX8_quotient 98 (.iand) 1 99 := ⟨by decide +kernel, rfl⟩
theorem eX8_quotient_99 : sl_D YX8_quotient 99 (.invokestatic 30) 3 102 := ⟨by decide +kernel, rfl⟩
theorem eX8_quotient_102 : sl_D YX8_quotient 102 (.fdiv) 1 103 := ⟨by decide +kernel, rfl⟩
theorem eX8_quotient_103 : sl_D YX8_quotient 103 (.invokestatic 18) 3 106 := ⟨by decide +kernel, rfl⟩
theorem eX8_quotient_106 : sl_D YX8_quotient 106 (.ior) 1 107 := ⟨by decide +kernel, rfl⟩
theorem eX8_quotient_107 : sl_D YX8_quotient 107 (.ireturn) 1 108 := ⟨by decide +kernel, rfl⟩
theorem eX8_floatOf_0 : sl_D YX8_floatOf 0 (.iload_n 0) 1 1 := ⟨by decide +kernel, rfl⟩
theorem eX8_floatOf_1 : sl_D YX8_floatOf 1 (.bipush 23) 2 3 := ⟨by decide +kernel, rfl⟩
theorem eX8_floatOf_3 : sl_D YX8_floatOf 3 (.ishr) 1 4 := ⟨by decide +kernel, rfl⟩
theorem eX8_floatOf_4 : sl_D YX8_floatOf 4 (.sipush 255) 3 7 := ⟨by decide +kernel, rfl⟩
theorem eX8_floatOf_7 : sl_D YX8_floatOf 7 (.iand) 1 8 := ⟨by decide +kernel, rfl⟩
theorem eX8_floatOf_8 : sl_D YX8_floatOf 8 (.istore_n 1) 1 9 := ⟨by decide +kernel, rfl⟩
theorem eX8_floatOf_9 : sl_D YX8_floatOf 9 (.iload_n 0) 1 10 := ⟨by decide +kernel, rfl⟩
theorem eX8_floatOf_10 : sl_D YX8_floatOf 10 (.ldc 38) 2 12 := ⟨by decide +kernel, rfl⟩
theorem eX8_floatOf_12 : sl_D YX8_floatOf 12 (.iand) 1 13 := ⟨by decide +kernel, rfl⟩
theorem eX8_floatOf_13 : sl_D YX8_floatOf 13 (.istore_n 2) 1 14 := ⟨by decide +kernel, rfl⟩
theorem eX8_floatOf_14 : sl_D YX8_floatOf 14 (.iload_n 1) 1 15 := ⟨by decide +kernel, rfl⟩
theorem eX8_floatOf_15 : sl_B YX8_floatOf 15 (fun o => .ifCond .ne o) 18 22 := ⟨7, by decide +kernel, rfl, by decide⟩
theorem eX8_floatOf_18 : sl_D YX8_floatOf 18 (.iload_n 2) 1 19 := ⟨by decide +kernel, rfl⟩
theorem eX8_floatOf_19 : sl_B YX8_floatOf 19 (fun o => .goto o) 22 26 := ⟨7, by decide +kernel, rfl, by decide⟩
theorem eX8_floatOf_22 : sl_D YX8_floatOf 22 (.iload_n 2) 1 23 := ⟨by decide +kernel, rfl⟩
theorem eX8_floatOf_23 : sl_D YX8_floatOf 23 (.ldc 39) 2 25 := ⟨by decide +kernel, rfl⟩
theorem eX8_floatOf_25 : sl_D YX8_floatOf 25 (.iadd) 1 26 := ⟨by decide +kernel, rfl⟩
theorem eX8_floatOf_26 : sl_D YX8_floatOf 26 (.i2d) 1 27 := ⟨by decide +kernel, rfl⟩
theorem eX8_floatOf_27 : sl_D YX8_floatOf 27 (.dstore_n 3) 1 28 := ⟨by decide +kernel, rfl⟩
theorem eX8_floatOf_28 : sl_D YX8_floatOf 28 (.iload_n 1) 1 29 := ⟨by decide +kernel, rfl⟩
theorem eX8_floatOf_29 : sl_B YX8_floatOf 29 (fun o => .ifCond .ne o) 32 36 := ⟨7, by decide +kernel, rfl, by decide⟩
theorem eX8_floatOf_32 : sl_D YX8_floatOf 32 (.iconst 1) 1 33 := ⟨by decide +kernel, rfl⟩
theorem eX8_floatOf_33 : sl_B YX8_floatOf 33 (fun o => .goto o) 36 37 := ⟨4, by decide +kernel, rfl, by decide⟩
theorem eX8_floatOf_36 : sl_D YX8_floatOf 36 (.iload_n 1) 1 37 := ⟨by decide +kernel, rfl⟩
theorem eX8_floatOf_37 : sl_D YX8_floatOf 37 (.istore 5) 2 39 := ⟨by decide +kernel, rfl⟩
theorem eX8_floatOf_39 : sl_D YX8_floatOf 39 (.iload 5) 2 41 := ⟨by decide +kernel, rfl⟩
theorem eX8_floatOf_41 : sl_D YX8_floatOf 41 (.sipush 150) 3 44 := ⟨by decide +kernel, rfl⟩
theorem eX8_floatOf_44 : sl_B YX8_floatOf 44 (fun o => .if_icmp .ge o) 47 59 := ⟨15, by decide +kernel, rfl, by decide⟩
theorem eX8_floatOf_47 : sl_D YX8_floatOf 47 (.dload_n 3) 1 48 := ⟨by decide +kernel, rfl⟩
theorem eX8_floatOf_48 : sl_D YX8_floatOf 48 (.ldc2_w 40) 3 51 := ⟨by decide +kernel, rfl⟩
theorem eX8_floatOf_51 : sl_D YX8_floatOf 51 (.ddiv) 1 52 := ⟨by decide +kernel, rfl⟩
theorem eX8_floatOf_52 : sl_D YX8_floatOf 52 (.dstore_n 3) 1 53 := ⟨by decide +kernel, rfl⟩
theorem eX8_floatOf_53 : sl_D YX8_floatOf 53 (.iinc 5 1) 3 56 := ⟨by decide +kernel, rfl⟩
theorem eX8_floatOf_56 : sl_B YX8_floatOf 56 (fun o => .goto o) 59 39 := ⟨-17, by decide +kernel, rfl, by decide⟩
theorem eX8_floatOf_59 : sl_D YX8_floatOf 59 (.iload 5) 2 61 := ⟨by decide +kernel, rfl⟩
theorem eX8_floatOf_61 : sl_D YX8_floatOf 61 (.sipush 150) 3 64 := ⟨by decide +kernel, rfl⟩
theorem eX8_floatOf_64 : sl_B YX8_floatOf 64 (fun o => .if_icmp .le o) 67 79 := ⟨15, by decide +kernel, rfl, by decide⟩
theorem eX8_floatOf_67 : sl_D YX8_floatOf 67 (.dload_n 3) 1 68 := ⟨by decide +kernel, rfl⟩
theorem eX8_floatOf_68 : sl_D YX8_floatOf 68 (.ldc2_w 40) 3 71 := ⟨by decide +kernel, rfl⟩
theorem eX8_floatOf_71 : sl_D YX8_floatOf 71 (.dmul) 1 72 := ⟨by decide +kernel, rfl⟩
theorem eX8_floatOf_72 : sl_D YX8_floatOf 72 (.dstore_n 3) 1 73 := ⟨by decide +kernel, rfl⟩
theorem eX8_floatOf_73 : sl_D YX8_floatOf 73 (.iinc 5 (-1)) 3 76 := ⟨by decide +kernel, rfl⟩
theorem eX8_floatOf_76 : sl_B YX8_floatOf 76 (fun o => .goto o) 79 59 := ⟨-17, by decide +kernel, rfl, by decide⟩
theorem eX8_floatOf_79 : sl_D YX8_floatOf 79 (.iload_n 0) 1 80 := ⟨by decide +kernel, rfl⟩
theorem eX8_floatOf_80 : sl_B YX8_floatOf 80 (fun o => .ifCond .ge o) 83 89 := ⟨9, by decide +kernel, rfl, by decide⟩
theorem eX8_floatOf_83 : sl_D YX8_floatOf 83 (.dconst 0) 1 84 := ⟨by decide +kernel, rfl⟩
theorem eX8_floatOf_84 : sl_D YX8_floatOf 84 (.dload_n 3) 1 85 := ⟨by decide +kernel, rfl⟩
theorem eX8_floatOf_85 : sl_D YX8_floatOf 85 (.dsub) 1 86 := ⟨by decide +kernel, rfl⟩
theorem eX8_floatOf_86 : sl_B YX8_floatOf 86 (fun o => .goto o) 89 90 := ⟨4, by decide +kernel, rfl, by decide⟩
theorem eX8_floatOf_89 : sl_D YX8_floatOf 89 (.dload_n 3) 1 90 := ⟨by decide +kernel, rfl⟩
theorem eX8_floatOf_90 : sl_D YX8_floatOf 90 (.d2f) 1 91 := ⟨by decide +kernel, rfl⟩
theorem eX8_floatOf_91 : sl_D YX8_floatOf 91 (.freturn) 1 92 := ⟨by decide +kernel, rfl⟩
theorem eX8_bitsOf_0 : sl_D YX8_bitsOf 0 (.fload_n 0) 1 1 := ⟨by decide +kernel, rfl⟩
theorem eX8_bitsOf_1 : sl_D YX8_bitsOf 1 (.ldc 42) 2 3 := ⟨by decide +kernel, rfl⟩
theorem eX8_bitsOf_3 : sl_D YX8_bitsOf 3 (.fcmp .l) 1 4 := ⟨by decide +kernel, rfl⟩
theorem eX8_bitsOf_4 : sl_B YX8_bitsOf 4 (fun o => .ifCond .le o) 7 10 := ⟨6, by decide +kernel, rfl, by decide⟩
theorem eX8_bitsOf_7 : sl_D YX8_bitsOf 7 (.ldc 14) 2 9 := ⟨by decide +kernel, rfl⟩
theorem eX8_bitsOf_9 : sl_D YX8_bitsOf 9 (.ireturn) 1 10 := ⟨by decide +kernel, rfl⟩
theorem eX8_bitsOf_10 : sl_D YX8_bitsOf 10 (.fload_n 0) 1 11 := ⟨by decide +kernel, rfl⟩
theorem eX8_bitsOf_11 : sl_D YX8_bitsOf 11 (.f2d) 1 12 := ⟨by decide +kernel, rfl⟩
theorem eX8_bitsOf_12 : sl_D YX8_bitsOf 12 (.dstore_n 1) 1 13 := ⟨by decide +kernel, rfl⟩
theorem eX8_bitsOf_13 : sl_D YX8_bitsOf 13 (.sipush 150) 3 16 := ⟨by decide +kernel, rfl⟩
theorem eX8_bitsOf_16 : sl_D YX8_bitsOf 16 (.istore_n 3) 1 17 := ⟨by decide +kernel, rfl⟩
theorem eX8_bitsOf_17 : sl_D YX8_bitsOf 17 (.iconst 0) 1 18 := ⟨by decide +kernel, rfl⟩
theorem eX8_bitsOf_18 : sl_D YX8_bitsOf 18 (.istore 4) 2 20 := ⟨by decide +kernel, rfl⟩
theorem eX8_bitsOf_20 : sl_D YX8_bitsOf 20 (.iload 4) 2 22 := ⟨by decide +kernel, rfl⟩
theorem eX8_bitsOf_22 : sl_D YX8_bitsOf 22 (.sipush 400) 3 25 := ⟨by decide +kernel, rfl⟩
theorem eX8_bitsOf_25 : sl_B YX8_bitsOf 25 (fun o => .if_icmp .ge o) 28 51 := ⟨26, by decide +kernel, rfl, by decide⟩
theorem eX8_bitsOf_28 : sl_D YX8_bitsOf 28 (.dload_n 1) 1 29 := ⟨by decide +kernel, rfl⟩
theorem eX8_bitsOf_29 : sl_D YX8_bitsOf 29 (.ldc2_w 43) 3 32 := ⟨by decide +kernel, rfl⟩
theorem eX8_bitsOf_32 : sl_D YX8_bitsOf 32 (.dcmp .l) 1 33 := ⟨by decide +kernel, rfl⟩
theorem eX8_bitsOf_33 : sl_B YX8_bitsOf 33 (fun o => .ifCond .lt o) 36 51 := ⟨18, by decide +kernel, rfl, by decide⟩
theorem eX8_bitsOf_36 : sl_D YX8_bitsOf 36 (.dload_n 1) 1 37 := ⟨by decide +kernel, rfl⟩
theorem eX8_bitsOf_37 : sl_D YX8_bitsOf 37 (.ldc2_w 40) 3 40 := ⟨by decide +kernel, rfl⟩
theorem eX8_bitsOf_40 : sl_D YX8_bitsOf 40 (.ddiv) 1 41 := ⟨by decide +kernel, rfl⟩
theorem eX8_bitsOf_41 : sl_D YX8_bitsOf 41 (.dstore_n 1) 1 42 := ⟨by decide +kernel, rfl⟩
theorem eX8_bitsOf_42 : sl_D YX8_bitsOf 42 (.iinc 3 1) 3 45 := ⟨by decide +kernel, rfl⟩
theorem eX8_bitsOf_45 : sl_D YX8_bitsOf 45 (.iinc 4 1) 3 48 := ⟨by decide +kernel, rfl⟩
theorem eX8_bitsOf_48 : sl_B YX8_bitsOf 48 (fun o => .goto o) 51 20 := ⟨-28, by decide +kernel, rfl, by decide⟩
theorem eX8_bitsOf_51 : sl_D YX8_bitsOf 51 (.iconst 0) 1 52 := ⟨by decide +kernel, rfl⟩
theorem eX8_bitsOf_52 : sl_D YX8_bitsOf 52 (.istore 4) 2 54 := ⟨by decide +kernel, rfl⟩
theorem eX8_bitsOf_54 : sl_D YX8_bitsOf 54 (.iload 4) 2 56 := ⟨by decide +kernel, rfl⟩
theorem eX8_bitsOf_56 : sl_D YX8_bitsOf 56 (.sipush 400) 3 59 := ⟨by decide +kernel, rfl⟩
theorem eX8_bitsOf_59 : sl_B YX8_bitsOf 59 (fun o => .if_icmp .ge o) 62 90 := ⟨31, by decide +kernel, rfl, by decide⟩
theorem eX8_bitsOf_62 : sl_D YX8_bitsOf 62 (.dload_n 1) 1 63 := ⟨by decide +kernel, rfl⟩
theorem eX8_bitsOf_63 : sl_D YX8_bitsOf 63 (.ldc2_w 45) 3 66 := ⟨by decide +kernel, rfl⟩
theorem eX8_bitsOf_66 : sl_D YX8_bitsOf 66 (.dcmp .g) 1 67 := ⟨by decide +kernel, rfl⟩
theorem eX8_bitsOf_67 : sl_B YX8_bitsOf 67 (fun o => .ifCond .ge o) 70 90 := ⟨23, by decide +kernel, rfl, by decide⟩
theorem eX8_bitsOf_70 : sl_D YX8_bitsOf 70 (.iload_n 3) 1 71 := ⟨by decide +kernel, rfl⟩
theorem eX8_bitsOf_71 : sl_D YX8_bitsOf 71 (.iconst 1) 1 72 := ⟨by decide +kernel, rfl⟩
theorem eX8_bitsOf_72 : sl_B YX8_bitsOf 72 (fun o => .if_icmp .le o) 75 90 := ⟨18, by decide +kernel, rfl, by decide⟩
theorem eX8_bitsOf_75 : sl_D YX8_bitsOf 75 (.dload_n 1) 1 76 := ⟨by decide +kernel, rfl⟩
theorem eX8_bitsOf_76 : sl_D YX8_bitsOf 76 (.ldc2_w 40) 3 79 := ⟨by decide +kernel, rfl⟩
theorem eX8_bitsOf_79 : sl_D YX8_bitsOf 79 (.dmul) 1 80 := ⟨by decide +kernel, rfl⟩
theorem eX8_bitsOf_80 : sl_D YX8_bitsOf 80 (.dstore_n 1) 1 81 := ⟨by decide +kernel, rfl⟩
theorem eX8_bitsOf_81 : sl_D YX8_bitsOf 81 (.iinc 3 (-1)) 3 84 := ⟨by decide +kernel, rfl⟩
theorem eX8_bitsOf_84 : sl_D YX8_bitsOf 84 (.iinc 4 1) 3 87 := ⟨by decide +kernel, rfl⟩
theorem eX8_bitsOf_87 : sl_B YX8_bitsOf 87 (fun o => .goto o) 90 54 := ⟨-33, by decide +kernel, rfl, by decide⟩
theorem eX8_bitsOf_90 : sl_D YX8_bitsOf 90 (.iload_n 3) 1 91 := ⟨by decide +kernel, rfl⟩
theorem eX8_bitsOf_91 : sl_D YX8_bitsOf 91 (.iconst 1) 1 92 := ⟨by decide +kernel, rfl⟩
theorem eX8_bitsOf_92 : sl_D YX8_bitsOf 92 (.isub) 1 93 := ⟨by decide +kernel, rfl⟩
theorem eX8_bitsOf_93 : sl_D YX8_bitsOf 93 (.bipush 23) 2 95 := ⟨by decide +kernel, rfl⟩
theorem eX8_bitsOf_95 : sl_D YX8_bitsOf 95 (.ishl) 1 96 := ⟨by decide +kernel, rfl⟩
theorem eX8_bitsOf_96 : sl_D YX8_bitsOf 96 (.dload_n 1) 1 97 := ⟨by decide +kernel, rfl⟩
theorem eX8_bitsOf_97 : sl_D YX8_bitsOf 97 (.d2i) 1 98 := ⟨by decide +kernel, rfl⟩
theorem eX8_bitsOf_98 : sl_D YX8_bitsOf 98 (.iadd) 1 99 := ⟨by decide +kernel, rfl⟩
theorem eX8_bitsOf_99 : sl_D YX8_bitsOf 99 (.ireturn) 1 100 := ⟨by decide +kernel, rfl⟩
theorem eX8_thirdOfWhole_0 : sl_D YX8_thirdOfWhole 0 (.iload_n 0) 1 1 := ⟨by decide +kernel, rfl⟩
theorem eX8_thirdOfWhole_1 : sl_D YX8_thirdOfWhole 1 (.i2d) 1 2 := ⟨by decide +kernel, rfl⟩
theorem eX8_thirdOfWhole_2 : sl_D YX8_thirdOfWhole 2 (.ldc2_w 47) 3 5 := ⟨by decide +kernel, rfl⟩
theorem eX8_thirdOfWhole_5 : sl_D YX8_thirdOfWhole 5 (.ddiv) 1 6 := ⟨by decide +kernel, rfl⟩
theorem eX8_thirdOfWhole_6 : sl_D YX8_thirdOfWhole 6 (.dstore_n 1) 1 7 := ⟨by decide +kernel, rfl⟩
theorem eX8_thirdOfWhole_7 : sl_D YX8_thirdOfWhole 7 (.dload_n 1) 1 8 := ⟨by decide +kernel, rfl⟩
theorem eX8_thirdOfWhole_8 : sl_D YX8_thirdOfWhole 8 (.dconst 0) 1 9 := ⟨by decide +kernel, rfl⟩
theorem eX8_thirdOfWhole_9 : sl_D YX8_thirdOfWhole 9 (.dcmp .g) 1 10 := ⟨by decide +kernel, rfl⟩
theorem eX8_thirdOfWhole_10 : sl_B YX8_thirdOfWhole 10 (fun o => .ifCond .ge o) 13 26 := ⟨16, by decide +kernel, rfl, by decide⟩
theorem eX8_thirdOfWhole_13 : sl_D YX8_thirdOfWhole 13 (.dconst 0) 1 14 := ⟨by decide +kernel, rfl⟩
theorem eX8_thirdOfWhole_14 : sl_D YX8_thirdOfWhole 14 (.dload_n 1) 1 15 := ⟨by decide +kernel, rfl⟩
theorem eX8_thirdOfWhole_15 : sl_D YX8_thirdOfWhole 15 (.dsub) 1 16 := ⟨by decide +kernel, rfl⟩
theorem eX8_thirdOfWhole_16 : sl_D YX8_thirdOfWhole 16 (.invokestatic 49) 3 19 := ⟨by decide +kernel, rfl⟩
theorem eX8_thirdOfWhole_19 : sl_D YX8_thirdOfWhole 19 (.ldc2_w 53) 3 22 := ⟨by decide +kernel, rfl⟩
theorem eX8_thirdOfWhole_22 : sl_D YX8_thirdOfWhole 22 (.lor) 1 23 := ⟨by decide +kernel, rfl⟩
theorem eX8_thirdOfWhole_23 : sl_B YX8_thirdOfWhole 23 (fun o => .goto o) 26 30 := ⟨7, by decide +kernel, rfl, by decide⟩
theorem eX8_thirdOfWhole_26 : sl_D YX8_thirdOfWhole 26 (.dload_n 1) 1 27 := ⟨by decide +kernel, rfl⟩
theorem eX8_thirdOfWhole_27 : sl_D YX8_thirdOfWhole 27 (.invokestatic 49) 3 30 := ⟨by decide +kernel, rfl⟩
theorem eX8_thirdOfWhole_30 : sl_D YX8_thirdOfWhole 30 (.lreturn) 1 31 := ⟨by decide +kernel, rfl⟩
theorem eX8_thirdOfReal_0 : sl_D YX8_thirdOfReal 0 (.iload_n 0) 1 1 := ⟨by decide +kernel, rfl⟩
theorem eX8_thirdOfReal_1 : sl_D YX8_thirdOfReal 1 (.invokestatic 23) 3 4 := ⟨by decide +kernel, rfl⟩
theorem eX8_thirdOfReal_4 : sl_B YX8_thirdOfReal 4 (fun o => .ifCond .eq o) 7 11 := ⟨7, by decide +kernel, rfl, by decide⟩
theorem eX8_thirdOfReal_7 : sl_D YX8_thirdOfReal 7 (.ldc2_w 55) 3 10 := ⟨by decide +kernel, rfl⟩
theorem eX8_thirdOfReal_10 : sl_D YX8_thirdOfReal 10 (.lreturn) 1 11 := ⟨by decide +kernel, rfl⟩
theorem eX8_thirdOfReal_11 : sl_D YX8_thirdOfReal 11 (.iload_n 0) 1 12 := ⟨by decide +kernel, rfl⟩
theorem eX8_thirdOfReal_12 : sl_B YX8_thirdOfReal 12 (fun o => .ifCond .ge o) 15 21 := ⟨9, by decide +kernel, rfl, by decide⟩
theorem eX8_thirdOfReal_15 : sl_D YX8_thirdOfReal 15 (.ldc2_w 53) 3 18 := ⟨by decide +kernel, rfl⟩
theorem eX8_thirdOfReal_18 : sl_B YX8_thirdOfReal 18 (fun o => .goto o) 21 22 := ⟨4, by decide +kernel, rfl, by decide⟩
theorem eX8_thirdOfReal_21 : sl_D YX8_thirdOfReal 21 (.lconst 0) 1 22 := ⟨by decide +kernel, rfl⟩
theorem eX8_thirdOfReal_22 : sl_D YX8_thirdOfReal 22 (.lstore_n 1) 1 23 := ⟨by decide +kernel, rfl⟩
theorem eX8_thirdOfReal_23 : sl_D YX8_thirdOfReal 23 (.iload_n 0) 1 24 := ⟨by decide +kernel, rfl⟩
theorem eX8_thirdOfReal_24 : sl_D YX8_thirdOfReal 24 (.invokestatic 27) 3 27 := ⟨by decide +kernel, rfl⟩
theorem eX8_thirdOfReal_27 : sl_B YX8_thirdOfReal 27 (fun o => .ifCond .eq o) 30 36 := ⟨9, by decide +kernel, rfl, by decide⟩
theorem eX8_thirdOfReal_30 : sl_D YX8_thirdOfReal 30 (.lload_n 1) 1 31 := ⟨by decide +kernel, rfl⟩
theorem eX8_thirdOfReal_31 : sl_D YX8_thirdOfReal 31 (.ldc2_w 57) 3 34 := ⟨by decide +kernel, rfl⟩
theorem eX8_thirdOfReal_34 : sl_D YX8_thirdOfReal 34 (.lor) 1 35 := ⟨by decide +kernel, rfl⟩
theorem eX8_thirdOfReal_35 : sl_D YX8_thirdOfReal 35 (.lreturn) 1 36 := ⟨by decide +kernel, rfl⟩
theorem eX8_thirdOfReal_36 : sl_D YX8_thirdOfReal 36 (.lload_n 1) 1 37 := ⟨by decide +kernel, rfl⟩
theorem eX8_thirdOfReal_37 : sl_D YX8_thirdOfReal 37 (.iload_n 0) 1 38 := ⟨by decide +kernel, rfl⟩
theorem eX8_thirdOfReal_38 : sl_D YX8_thirdOfReal 38 (.ldc 11) 2 40 := ⟨by decide +kernel, rfl⟩
theorem eX8_thirdOfReal_40 : sl_D YX8_thirdOfReal 40 (.iand) 1 41 := ⟨by decide +kernel, rfl⟩
theorem eX8_thirdOfReal_41 : sl_D YX8_thirdOfReal 41 (.invokestatic 30) 3 44 := ⟨by decide +kernel, rfl⟩
theorem eX8_thirdOfReal_44 : sl_D YX8_thirdOfReal 44 (.f2d) 1 45 := ⟨by decide +kernel, rfl⟩
theorem eX8_thirdOfReal_45 : sl_D YX8_thirdOfReal 45 (.ldc2_w 47) 3 48 := ⟨by decide +kernel, rfl⟩
theorem eX8_thirdOfReal_48 : sl_D YX8_thirdOfReal 48 (.ddiv) 1 49 := ⟨by decide +kernel, rfl⟩
theorem eX8_thirdOfReal_49 : sl_D YX8_thirdOfReal 49 (.invokestatic 49) 3 52 := ⟨by decide +kernel, rfl⟩
theorem eX8_thirdOfReal_52 : sl_D YX8_thirdOfReal 52 (.lor) 1 53 := ⟨by decide +kernel, rfl⟩
theorem eX8_thirdOfReal_53 : sl_D YX8_thirdOfReal 53 (.lreturn) 1 54 := ⟨by decide +kernel, rfl⟩
theorem eX8_longBitsOf_0 : sl_D YX8_longBitsOf 0 (.dload_n 0) 1 1 := ⟨by decide +kernel, rfl⟩
theorem eX8_longBitsOf_1 : sl_D YX8_longBitsOf 1 (.dconst 0) 1 2 := ⟨by decide +kernel, rfl⟩
theorem eX8_longBitsOf_2 : sl_D YX8_longBitsOf 2 (.dcmp .l) 1 3 := ⟨by decide +kernel, rfl⟩
theorem eX8_longBitsOf_3 : sl_B YX8_longBitsOf 3 (fun o => .ifCond .ne o) 6 8 := ⟨5, by decide +kernel, rfl, by decide⟩
theorem eX8_longBitsOf_6 : sl_D YX8_longBitsOf 6 (.lconst 0) 1 7 := ⟨by decide +kernel, rfl⟩
theorem eX8_longBitsOf_7 : sl_D YX8_longBitsOf 7 (.lreturn) 1 8 := ⟨by decide +kernel, rfl⟩
theorem eX8_longBitsOf_8 : sl_D YX8_longBitsOf 8 (.dload_n 0) 1 9 := ⟨by decide +kernel, rfl⟩
theorem eX8_longBitsOf_9 : sl_D YX8_longBitsOf 9 (.dstore_n 2) 1 10 := ⟨by decide +kernel, rfl⟩
theorem eX8_longBitsOf_10 : sl_D YX8_longBitsOf 10 (.ldc2_w 59) 3 13 := ⟨by decide +kernel, rfl⟩
theorem eX8_longBitsOf_13 : sl_D YX8_longBitsOf 13 (.lstore 4) 2 15 := ⟨by decide +kernel, rfl⟩
theorem eX8_longBitsOf_15 : sl_D YX8_longBitsOf 15 (.iconst 0) 1 16 := ⟨by decide +kernel, rfl⟩
theorem eX8_longBitsOf_16 : sl_D YX8_longBitsOf 16 (.istore 6) 2 18 := ⟨by decide +kernel, rfl⟩
theorem eX8_longBitsOf_18 : sl_D YX8_longBitsOf 18 (.iload 6) 2 20 := ⟨by decide +kernel, rfl⟩
theorem eX8_longBitsOf_20 : sl_D YX8_longBitsOf 20 (.sipush 400) 3 23 := ⟨by decide +kernel, rfl⟩
theorem eX8_longBitsOf_23 : sl_B YX8_longBitsOf 23 (fun o => .if_icmp .ge o) 26 52 := ⟨29, by decide +kernel, rfl, by decide⟩
theorem eX8_longBitsOf_26 : sl_D YX8_longBitsOf 26 (.dload_n 2) 1 27 := ⟨by decide +kernel, rfl⟩
theorem eX8_longBitsOf_27 : sl_D YX8_longBitsOf 27 (.ldc2_w 61) 3 30 := ⟨by decide +kernel, rfl⟩
theorem eX8_longBitsOf_30 : sl_D YX8_longBitsOf 30 (.dcmp .l) 1 31 := ⟨by decide +kernel, rfl⟩
theorem eX8_longBitsOf_31 : sl_B YX8_longBitsOf 31 (fun o => .ifCond .lt o) 34 52 := ⟨21, by decide +kernel, rfl, by decide⟩
theorem eX8_longBitsOf_34 : sl_D YX8_longBitsOf 34 (.dload_n 2) 1 35 := ⟨by decide +kernel, rfl⟩
theorem eX8_longBitsOf_35 : sl_D YX8_longBitsOf 35 (.ldc2_w 40) 3 38 := ⟨by decide +kernel, rfl⟩
theorem eX8_longBitsOf_38 : sl_D YX8_longBitsOf 38 (.ddiv) 1 39 := ⟨by decide +kernel, rfl⟩
theorem eX8_longBitsOf_39 : sl_D YX8_longBitsOf 39 (.dstore_n 2) 1 40 := ⟨by decide +kernel, rfl⟩
theorem eX8_longBitsOf_40 : sl_D YX8_longBitsOf 40 (.lload 4) 2 42 := ⟨by decide +kernel, rfl⟩
theorem eX8_longBitsOf_42 : sl_D YX8_longBitsOf 42 (.lconst 1) 1 43 := ⟨by decide +kernel, rfl⟩
theorem eX8_longBitsOf_43 : sl_D YX8_longBitsOf 43 (.ladd) 1 44 := ⟨by decide +kernel, rfl⟩
theorem eX8_longBitsOf_44 : sl_D YX8_longBitsOf 44 (.lstore 4) 2 46 := ⟨by decide +kernel, rfl⟩
theorem eX8_longBitsOf_46 : sl_D YX8_longBitsOf 46 (.iinc 6 1) 3 49 := ⟨by decide +kernel, rfl⟩
theorem eX8_longBitsOf_49 : sl_B YX8_longBitsOf 49 (fun o => .goto o) 52 18 := ⟨-31, by decide +kernel, rfl, by decide⟩
theorem eX8_longBitsOf_52 : sl_D YX8_longBitsOf 52 (.iconst 0) 1 53 := ⟨by decide +kernel, rfl⟩
theorem eX8_longBitsOf_53 : sl_D YX8_longBitsOf 53 (.istore 6) 2 55 := ⟨by decide +kernel, rfl⟩
theorem eX8_longBitsOf_55 : sl_D YX8_longBitsOf 55 (.iload 6) 2 57 := ⟨by decide +kernel, rfl⟩
theorem eX8_longBitsOf_57 : sl_D YX8_longBitsOf 57 (.sipush 400) 3 60 := ⟨by decide +kernel, rfl⟩
theorem eX8_longBitsOf_60 : sl_B YX8_longBitsOf 60 (fun o => .if_icmp .ge o) 63 89 := ⟨29, by decide +kernel, rfl, by decide⟩
theorem eX8_longBitsOf_63 : sl_D YX8_longBitsOf 63 (.dload_n 2) 1 64 := ⟨by decide +kernel, rfl⟩
theorem eX8_longBitsOf_64 : sl_D YX8_longBitsOf 64 (.ldc2_w 63) 3 67 := ⟨by decide +kernel, rfl⟩
theorem eX8_longBitsOf_67 : sl_D YX8_longBitsOf 67 (.dcmp .g) 1 68 := ⟨by decide +kernel, rfl⟩
theorem eX8_longBitsOf_68 : sl_B YX8_longBitsOf 68 (fun o => .ifCond .ge o) 71 89 := ⟨21, by decide +kernel, rfl, by decide⟩
theorem eX8_longBitsOf_71 : sl_D YX8_longBitsOf 71 (.dload_n 2) 1 72 := ⟨by decide +kernel, rfl⟩
theorem eX8_longBitsOf_72 : sl_D YX8_longBitsOf 72 (.ldc2_w 40) 3 75 := ⟨by decide +kernel, rfl⟩
theorem eX8_longBitsOf_75 : sl_D YX8_longBitsOf 75 (.dmul) 1 76 := ⟨by decide +kernel, rfl⟩
theorem eX8_longBitsOf_76 : sl_D YX8_longBitsOf 76 (.dstore_n 2) 1 77 := ⟨by decide +kernel, rfl⟩
theorem eX8_longBitsOf_77 : sl_D YX8_longBitsOf 77 (.lload 4) 2 79 := ⟨by decide +kernel, rfl⟩
theorem eX8_longBitsOf_79 : sl_D YX8_longBitsOf 79 (.lconst 1) 1 80 := ⟨by decide +kernel, rfl⟩
theorem eX8_longBitsOf_80 : sl_D YX8_longBitsOf 80 (.lsub) 1 81 := ⟨by decide +kernel, rfl⟩
theorem eX8_longBitsOf_81 : sl_D YX8_longBitsOf 81 (.lstore 4) 2 83 := ⟨by decide +kernel, rfl⟩
theorem eX8_longBitsOf_83 : sl_D YX8_longBitsOf 83 (.iinc 6 1) 3 86 := ⟨by decide +kernel, rfl⟩
theorem eX8_longBitsOf_86 : sl_B YX8_longBitsOf 86 (fun o => .goto o) 89 55 := ⟨-31, by decide +kernel, rfl, by decide⟩
theorem eX8_longBitsOf_89 : sl_D YX8_longBitsOf 89 (.lload 4) 2 91 := ⟨by decide +kernel, rfl⟩
theorem eX8_longBitsOf_91 : sl_D YX8_longBitsOf 91 (.lconst 1) 1 92 := ⟨by decide +kernel, rfl⟩
theorem eX8_longBitsOf_92 : sl_D YX8_longBitsOf 92 (.lsub) 1 93 := ⟨by decide +kernel, rfl⟩
theorem eX8_longBitsOf_93 : sl_D YX8_longBitsOf 93 (.bipush 52) 2 95 := ⟨by decide +kernel, rfl⟩
theorem eX8_longBitsOf_95 : sl_D YX8_longBitsOf 95 (.lshl) 1 96 := ⟨by decide +kernel, rfl⟩
theorem eX8_longBitsOf_96 : sl_D YX8_longBitsOf 96 (.dload_n 2) 1 97 := ⟨by decide +kernel, rfl⟩
theorem eX8_longBitsOf_97 : sl_D YX8_longBitsOf 97 (.d2l) 1 98 := ⟨by decide +kernel, rfl⟩
theorem eX8_longBitsOf_98 : sl_D YX8_longBitsOf 98 (.ladd) 1 99 := ⟨by decide +kernel, rfl⟩
theorem eX8_longBitsOf_99 : sl_D YX8_longBitsOf 99 (.lreturn) 1 100 := ⟨by decide +kernel, rfl⟩
theorem eX9_init_0 : sl_D YX9_init 0 (.aload_n 0) 1 1 := ⟨by decide +kernel, rfl⟩
theorem eX9_init_1 : sl_D YX9_init 1 (.invokespecial 3) 3 4 := ⟨by decide +kernel, rfl⟩
theorem eX9_init_4 : sl_D YX9_init 4 (.return_) 1 5 := ⟨by decide +kernel, rfl⟩
theorem eX9_set_0 : sl_D YX9_set 0 (.aload_n 0) 1 1 := ⟨by decide +kernel, rfl⟩
theorem eX9_set_1 : sl_D YX9_set 1 (.iload_n 1) 1 2 := ⟨by decide +kernel, rfl⟩
theorem eX9_set_2 : sl_D YX9_set 2 (.putfield 9) 3 5 := ⟨by decide +kernel, rfl⟩
theorem eX9_set_5 : sl_D YX9_set 5 (.aload_n 0) 1 6 := ⟨by decide +kernel, rfl⟩
theorem eX9_set_6 : sl_D YX9_set 6 (.iload_n 2) 1 7 := ⟨by decide +kernel, rfl⟩
theorem eX9_set_7 : sl_D YX9_set 7 (.putfield 15) 3 10 := ⟨by decide +kernel, rfl⟩
theorem eX9_set_10 : sl_D YX9_set 10 (.return_) 1 11 := ⟨by decide +kernel, rfl⟩
theorem eX9_changeOne_0 : sl_D YX9_changeOne 0 (.iload_n 1) 1 1 := ⟨by decide +kernel, rfl⟩
theorem eX9_changeOne_1 : sl_D YX9_changeOne 1 (.iconst 4) 1 2 := ⟨by decide +kernel, rfl⟩
theorem eX9_changeOne_2 : sl_B YX9_changeOne 2 (fun o => .if_icmp .ne o) 5 26 := ⟨24, by decide +kernel, rfl, by decide⟩
theorem eX9_changeOne_5 : sl_D YX9_changeOne 5 (.aload_n 0) 1 6 := ⟨by decide +kernel, rfl⟩
theorem eX9_changeOne_6 : sl_D YX9_changeOne 6 (.iload_n 2) 1 7 := ⟨by decide +kernel, rfl⟩
theorem eX9_changeOne_7 : sl_D YX9_changeOne 7 (.iload_n 2) 1 8 := ⟨by decide +kernel, rfl⟩
theorem eX9_changeOne_8 : sl_B YX9_changeOne 8 (fun o => .ifCond .eq o) 11 18 := ⟨10, by decide +kernel, rfl, by decide⟩
theorem eX9_changeOne_11 : sl_D YX9_changeOne 11 (.iload_n 3) 1 12 := ⟨by decide +kernel, rfl⟩
theorem eX9_changeOne_12 : sl_D YX9_changeOne 12 (.invokestatic 19) 3 15 := ⟨by decide +kernel, rfl⟩
theorem eX9_changeOne_15 : sl_B YX9_changeOne 15 (fun o => .goto o) 18 20 := ⟨5, by decide +kernel, rfl, by decide⟩
theorem eX9_changeOne_18 : sl_D YX9_changeOne 18 (.iload_n 3) 1 19 := ⟨by decide +kernel, rfl⟩
theorem eX9_changeOne_19 : sl_D YX9_changeOne 19 (.ineg) 1 20 := ⟨by decide +kernel, rfl⟩
theorem eX9_changeOne_20 : sl_D YX9_changeOne 20 (.invokevirtual 25) 3 23 := ⟨by decide +kernel, rfl⟩
theorem eX9_changeOne_23 : sl_B YX9_changeOne 23 (fun o => .goto o) 26 84 := ⟨61, by decide +kernel, rfl, by decide⟩
theorem eX9_changeOne_26 : sl_D YX9_changeOne 26 (.iload_n 1) 1 27 := ⟨by decide +kernel, rfl⟩
theorem eX9_changeOne_27 : sl_D YX9_changeOne 27 (.bipush 6) 2 29 := ⟨by decide +kernel, rfl⟩
theorem eX9_changeOne_29 : sl_B YX9_changeOne 29 (fun o => .if_icmp .ne o) 32 52 := ⟨23, by decide +kernel, rfl, by decide⟩
theorem eX9_changeOne_32 : sl_D YX9_changeOne 32 (.aload_n 0) 1 33 := ⟨by decide +kernel, rfl⟩
theorem eX9_changeOne_33 : sl_D YX9_changeOne 33 (.iconst 0) 1 34 := ⟨by decide +kernel, rfl⟩
theorem eX9_changeOne_34 : sl_D YX9_changeOne 34 (.iload_n 2) 1 35 := ⟨by decide +kernel, rfl⟩
theorem eX9_changeOne_35 : sl_B YX9_changeOne 35 (fun o => .ifCond .eq o) 38 45 := ⟨10, by decide +kernel, rfl, by decide⟩
theorem eX9_changeOne_38 : sl_D YX9_changeOne 38 (.iload_n 3) 1 39 := ⟨by decide +kernel, rfl⟩
theorem eX9_changeOne_39 : sl_D YX9_changeOne 39 (.invokestatic 29) 3 42 := ⟨by decide +kernel, rfl⟩
theorem eX9_changeOne_42 : sl_B YX9_changeOne 42 (fun o => .goto o) 45 46 := ⟨4, by decide +kernel, rfl, by decide⟩
theorem eX9_changeOne_45 : sl_D YX9_changeOne 45 (.iload_n 3) 1 46 := ⟨by decide +kernel, rfl⟩
theorem eX9_changeOne_46 : sl_D YX9_changeOne 46 (.invokevirtual 25) 3 49 := ⟨by decide +kernel, rfl⟩
theorem eX9_changeOne_49 : sl_B YX9_changeOne 49 (fun o => .goto o) 52 84 := ⟨35, by decide +kernel, rfl, by decide⟩
theorem eX9_changeOne_52 : sl_D YX9_changeOne 52 (.iload_n 1) 1 53 := ⟨by decide +kernel, rfl⟩
theorem eX9_changeOne_53 : sl_D YX9_changeOne 53 (.bipush 7) 2 55 := ⟨by decide +kernel, rfl⟩
theorem eX9_changeOne_55 : sl_B YX9_changeOne 55 (fun o => .if_icmp .ne o) 58 78 := ⟨23, by decide +kernel, rfl, by decide⟩
theorem eX9_changeOne_58 : sl_D YX9_changeOne 58 (.aload_n 0) 1 59 := ⟨by decide +kernel, rfl⟩
theorem eX9_changeOne_59 : sl_D YX9_changeOne 59 (.iconst 1) 1 60 := ⟨by decide +kernel, rfl⟩
theorem eX9_changeOne_60 : sl_D YX9_changeOne 60 (.iload_n 2) 1 61 := ⟨by decide +kernel, rfl⟩
theorem eX9_changeOne_61 : sl_B YX9_changeOne 61 (fun o => .ifCond .eq o) 64 68 := ⟨7, by decide +kernel, rfl, by decide⟩
theorem eX9_changeOne_64 : sl_D YX9_changeOne 64 (.iload_n 3) 1 65 := ⟨by decide +kernel, rfl⟩
theorem eX9_changeOne_65 : sl_B YX9_changeOne 65 (fun o => .goto o) 68 72 := ⟨7, by decide +kernel, rfl, by decide⟩
theorem eX9_changeOne_68 : sl_D YX9_changeOne 68 (.iload_n 3) 1 69 := ⟨by decide +kernel, rfl⟩
theorem eX9_changeOne_69 : sl_D YX9_changeOne 69 (.invokestatic 32) 3 72 := ⟨by decide +kernel, rfl⟩
theorem eX9_changeOne_72 : sl_D YX9_changeOne 72 (.invokevirtual 25) 3 75 := ⟨by decide +kernel, rfl⟩
theorem eX9_changeOne_75 : sl_B YX9_changeOne 75 (fun o => .goto o) 78 84 := ⟨9, by decide +kernel, rfl, by decide⟩
theorem eX9_changeOne_78 : sl_D YX9_changeOne 78 (.aload_n 0) 1 79 := ⟨by decide +kernel, rfl⟩
theorem eX9_changeOne_79 : sl_D YX9_changeOne 79 (.iload_n 2) 1 80 := ⟨by decide +kernel, rfl⟩
theorem eX9_changeOne_80 : sl_D YX9_changeOne 80 (.iload_n 3) 1 81 := ⟨by decide +kernel, rfl⟩
theorem eX9_changeOne_81 : sl_D YX9_changeOne 81 (.invokevirtual 25) 3 84 := ⟨by decide +kernel, rfl⟩
theorem eX9_changeOne_84 : sl_D YX9_changeOne 84 (.return_) 1 85 := ⟨by decide +kernel, rfl⟩
theorem eX9_joinWholes_0 : sl_D YX9_joinWholes 0 (.iload_n 1) 1 1 := ⟨by decide +kernel, rfl⟩
theorem eX9_joinWholes_1 : sl_B YX9_joinWholes 1 (fun o => .ifCond .ne o) 4 15 := ⟨14, by decide +kernel, rfl, by decide⟩
theorem eX9_joinWholes_4 : sl_D YX9_joinWholes 4 (.aload_n 0) 1 5 := ⟨by decide +kernel, rfl⟩
theorem eX9_joinWholes_5 : sl_D YX9_joinWholes 5 (.iconst 0) 1 6 := ⟨by decide +kernel, rfl⟩
theorem eX9_joinWholes_6 : sl_D YX9_joinWholes 6 (.iload_n 2) 1 7 := ⟨by decide +kernel, rfl⟩
theorem eX9_joinWholes_7 : sl_D YX9_joinWholes 7 (.iload_n 3) 1 8 := ⟨by decide +kernel, rfl⟩
theorem eX9_joinWholes_8 : sl_D YX9_joinWholes 8 (.iadd) 1 9 := ⟨by decide +kernel, rfl⟩
theorem eX9_joinWholes_9 : sl_D YX9_joinWholes 9 (.invokevirtual 25) 3 12 := ⟨by decide +kernel, rfl⟩
theorem eX9_joinWholes_12 : sl_B YX9_joinWholes 12 (fun o => .goto o) 15 63 := ⟨51, by decide +kernel, rfl, by decide⟩
theorem eX9_joinWholes_15 : sl_D YX9_joinWholes 15 (.iload_n 1) 1 16 := ⟨by decide +kernel, rfl⟩
theorem eX9_joinWholes_16 : sl_D YX9_joinWholes 16 (.iconst 1) 1 17 := ⟨by decide +kernel, rfl⟩
theorem eX9_joinWholes_17 : sl_B YX9_joinWholes 17 (fun o => .if_icmp .ne o) 20 31 := ⟨14, by decide +kernel, rfl, by decide⟩
theorem eX9_joinWholes_20 : sl_D YX9_joinWholes 20 (.aload_n 0) 1 21 := ⟨by decide +kernel, rfl⟩
theorem eX9_joinWholes_21 : sl_D YX9_joinWholes 21 (.iconst 0) 1 22 := ⟨by decide +kernel, rfl⟩
theorem eX9_joinWholes_22 : sl_D YX9_joinWholes 22 (.iload_n 2) 1 23 := ⟨by decide +kernel, rfl⟩
theorem eX9_joinWholes_23 : sl_D YX9_joinWholes 23 (.iload_n 3) 1 24 := ⟨by decide +kernel, rfl⟩
theorem eX9_joinWholes_24 : sl_D YX9_joinWholes 24 (.isub) 1 25 := ⟨by decide +kernel, rfl⟩
theorem eX9_joinWholes_25 : sl_D YX9_joinWholes 25 (.invokevirtual 25) 3 28 := ⟨by decide +kernel, rfl⟩
theorem eX9_joinWholes_28 : sl_B YX9_joinWholes 28 (fun o => .goto o) 31 63 := ⟨35, by decide +kernel, rfl, by decide⟩
theorem eX9_joinWholes_31 : sl_D YX9_joinWholes 31 (.iload_n 1) 1 32 := ⟨by decide +kernel, rfl⟩
theorem eX9_joinWholes_32 : sl_D YX9_joinWholes 32 (.iconst 2) 1 33 := ⟨by decide +kernel, rfl⟩
theorem eX9_joinWholes_33 : sl_B YX9_joinWholes 33 (fun o => .if_icmp .ne o) 36 47 := ⟨14, by decide +kernel, rfl, by decide⟩
theorem eX9_joinWholes_36 : sl_D YX9_joinWholes 36 (.aload_n 0) 1 37 := ⟨by decide +kernel, rfl⟩
theorem eX9_joinWholes_37 : sl_D YX9_joinWholes 37 (.iconst 0) 1 38 := ⟨by decide +kernel, rfl⟩
theorem eX9_joinWholes_38 : sl_D YX9_joinWholes 38 (.iload_n 2) 1 39 := ⟨by decide +kernel, rfl⟩
theorem eX9_joinWholes_39 : sl_D YX9_joinWholes 39 (.iload_n 3) 1 40 := ⟨by decide +kernel, rfl⟩
theorem eX9_joinWholes_40 : sl_D YX9_joinWholes 40 (.imul) 1 41 := ⟨by decide +kernel, rfl⟩
theorem eX9_joinWholes_41 : sl_D YX9_joinWholes 41 (.invokevirtual 25) 3 44 := ⟨by decide +kernel, rfl⟩
theorem eX9_joinWholes_44 : sl_B YX9_joinWholes 44 (fun o => .goto o) 47 63 := ⟨19, by decide +kernel, rfl, by decide⟩
theorem eX9_joinWholes_47 : sl_D YX9_joinWholes 47 (.aload_n 0) 1 48 := ⟨by decide +kernel, rfl⟩
theorem eX9_joinWholes_48 : sl_D YX9_joinWholes 48 (.iconst 0) 1 49 := ⟨by decide +kernel, rfl⟩
theorem eX9_joinWholes_49 : sl_D YX9_joinWholes 49 (.iload_n 3) 1 50 := ⟨by decide +kernel, rfl⟩
theorem eX9_joinWholes_50 : sl_B YX9_joinWholes 50 (fun o => .ifCond .ne o) 53 57 := ⟨7, by decide +kernel, rfl, by decide⟩
theorem eX9_joinWholes_53 : sl_D YX9_joinWholes 53 (.iconst 0) 1 54 := ⟨by decide +kernel, rfl⟩
theorem eX9_joinWholes_54 : sl_B YX9_joinWholes 54 (fun o => .goto o) 57 60 := ⟨6, by decide +kernel, rfl, by decide⟩
theorem eX9_joinWholes_57 : sl_D YX9_joinWholes 57 (.iload_n 2) 1 58 := ⟨by decide +kernel, rfl⟩
theorem eX9_joinWholes_58 : sl_D YX9_joinWholes 58 (.iload_n 3) 1 59 := ⟨by decide +kernel, rfl⟩
theorem eX9_joinWholes_59 : sl_D YX9_joinWholes 59 (.idiv) 1 60 := ⟨by decide +kernel, rfl⟩
theorem eX9_joinWholes_60 : sl_D YX9_joinWholes 60 (.invokevirtual 25) 3 63 := ⟨by decide +kernel, rfl⟩
theorem eX9_joinWholes_63 : sl_D YX9_joinWholes 63 (.return_) 1 64 := ⟨by decide +kernel, rfl⟩
theorem eX9_joinReals_0 : sl_D YX9_joinReals 0 (.iload_n 1) 1 1 := ⟨by decide +kernel, rfl⟩
theorem eX9_joinReals_1 : sl_B YX9_joinReals 1 (fun o => .ifCond .ne o) 4 17 := ⟨16, by decide +kernel, rfl, by decide⟩
theorem eX9_joinReals_4 : sl_D YX9_joinReals 4 (.aload_n 0) 1 5 := ⟨by decide +kernel, rfl⟩
theorem eX9_joinReals_5 : sl_D YX9_joinReals 5 (.iconst 1) 1 6 := ⟨by decide +kernel, rfl⟩
theorem eX9_joinReals_6 : sl_D YX9_joinReals 6 (.iload_n 2) 1 7 := ⟨by decide +kernel, rfl⟩
theorem eX9_joinReals_7 : sl_D YX9_joinReals 7 (.iload_n 3) 1 8 := ⟨by decide +kernel, rfl⟩
theorem eX9_joinReals_8 : sl_D YX9_joinReals 8 (.invokestatic 35) 3 11 := ⟨by decide +kernel, rfl⟩
theorem eX9_joinReals_11 : sl_D YX9_joinReals 11 (.invokevirtual 25) 3 14 := ⟨by decide +kernel, rfl⟩
theorem eX9_joinReals_14 : sl_B YX9_joinReals 14 (fun o => .goto o) 17 66 := ⟨52, by decide +kernel, rfl, by decide⟩
theorem eX9_joinReals_17 : sl_D YX9_joinReals 17 (.iload_n 1) 1 18 := ⟨by decide +kernel, rfl⟩
theorem eX9_joinReals_18 : sl_D YX9_joinReals 18 (.iconst 1) 1 19 := ⟨by decide +kernel, rfl⟩
theorem eX9_joinReals_19 : sl_B YX9_joinReals 19 (fun o => .if_icmp .ne o) 22 38 := ⟨19, by decide +kernel, rfl, by decide⟩
theorem eX9_joinReals_22 : sl_D YX9_joinReals 22 (.aload_n 0) 1 23 := ⟨by decide +kernel, rfl⟩
theorem eX9_joinReals_23 : sl_D YX9_joinReals 23 (.iconst 1) 1 24 := ⟨by decide +kernel, rfl⟩
theorem eX9_joinReals_24 : sl_D YX9_joinReals 24 (.iload_n 2) 1 25 := ⟨by decide +kernel, rfl⟩
theorem eX9_joinReals_25 : sl_D YX9_joinReals 25 (.iload_n 3) 1 26 := ⟨by decide +kernel, rfl⟩
theorem eX9_joinReals_26 : sl_D YX9_joinReals 26 (.invokestatic 19) 3 29 := ⟨by decide +kernel, rfl⟩
theorem eX9_joinReals_29 : sl_D YX9_joinReals 29 (.invokestatic 35) 3 32 := ⟨by decide +kernel, rfl⟩
theorem eX9_joinReals_32 : sl_D YX9_joinReals 32 (.invokevirtual 25) 3 35 := ⟨by decide +kernel, rfl⟩
theorem eX9_joinReals_35 : sl_B YX9_joinReals 35 (fun o => .goto o) 38 66 := ⟨31, by decide +kernel, rfl, by decide⟩
theorem eX9_joinReals_38 : sl_D YX9_joinReals 38 (.iload_n 1) 1 39 := ⟨by decide +kernel, rfl⟩
theorem eX9_joinReals_39 : sl_D YX9_joinReals 39 (.iconst 2) 1 40 := ⟨by decide +kernel, rfl⟩
theorem eX9_joinReals_40 : sl_B YX9_joinReals 40 (fun o => .if_icmp .ne o) 43 56 := ⟨16, by decide +kernel, rfl, by decide⟩
theorem eX9_joinReals_43 : sl_D YX9_joinReals 43 (.aload_n 0) 1 44 := ⟨by decide +kernel, rfl⟩
theorem eX9_joinReals_44 : sl_D YX9_joinReals 44 (.iconst 1) 1 45 := ⟨by decide +kernel, rfl⟩
theorem eX9_joinReals_45 : sl_D YX9_joinReals 45 (.iload_n 2) 1 46 := ⟨by decide +kernel, rfl⟩
theorem eX9_joinReals_46 : sl_D YX9_joinReals 46 (.iload_n 3) 1 47 := ⟨by decide +kernel, rfl⟩
theorem eX9_joinReals_47 : sl_D YX9_joinReals 47 (.invokestatic 39) 3 50 := ⟨by decide +kernel, rfl⟩
theorem eX9_joinReals_50 : sl_D YX9_joinReals 50 (.invokevirtual 25) 3 53 := ⟨by decide +kernel, rfl⟩
theorem eX9_joinReals_53 : sl_B YX9_joinReals 53 (fun o => .goto o) 56 66 := ⟨13, by decide +kernel, rfl, by decide⟩
theorem eX9_joinReals_56 : sl_D YX9_joinReals 56 (.aload_n 0) 1 57 := ⟨by decide +kernel, rfl⟩
theorem eX9_joinReals_57 : sl_D YX9_joinReals 57 (.iconst 1) 1 58 := ⟨by decide +kernel, rfl⟩
theorem eX9_joinReals_58 : sl_D YX9_joinReals 58 (.iload_n 2) 1 59 := ⟨by decide +kernel, rfl⟩
theorem eX9_joinReals_59 : sl_D YX9_joinReals 59 (.iload_n 3) 1 60 := ⟨by decide +kernel, rfl⟩
theorem eX9_joinReals_60 : sl_D YX9_joinReals 60 (.invokestatic 42) 3 63 := ⟨by decide +kernel, rfl⟩
theorem eX9_joinReals_63 : sl_D YX9_joinReals 63 (.invokevirtual 25) 3 66 := ⟨by decide +kernel, rfl⟩
theorem eX9_joinReals_66 : sl_D YX9_joinReals 66 (.return_) 1 67 := ⟨by decide +kernel, rfl⟩
theorem eX10_init_0 : sl_D YX10_init 0 (.aload_n 0) 1 1 := ⟨by decide +kernel, rfl⟩
theorem eX10_init_1 : sl_D YX10_init 1 (.invokespecial 3) 3 4 := ⟨by decide +kernel, rfl⟩
theorem eX10_init_4 : sl_D YX10_init 4 (.aload_n 0) 1 5 := ⟨by decide +kernel, rfl⟩
theorem eX10_init_5 : sl_D YX10_init 5 (.bipush 6) 2 7 := ⟨by decide +kernel, rfl⟩
theorem eX10_init_7 : sl_D YX10_init 7 (.newarray .int) 2 9 := ⟨by decide +kernel, rfl⟩
theorem eX10_init_9 : sl_D YX10_init 9 (.putfield 9) 3 12 := ⟨by decide +kernel, rfl⟩
theorem eX10_init_12 : sl_D YX10_init 12 (.aload_n 0) 1 13 := ⟨by decide +kernel, rfl⟩
theorem eX10_init_13 : sl_D YX10_init 13 (.bipush 6) 2 15 := ⟨by decide +kernel, rfl⟩
theorem eX10_init_15 : sl_D YX10_init 15 (.newarray .int) 2 17 := ⟨by decide +kernel, rfl⟩
theorem eX10_init_17 : sl_D YX10_init 17 (.putfield 15) 3 20 := ⟨by decide +kernel, rfl⟩
theorem eX10_init_20 : sl_D YX10_init 20 (.aload_n 0) 1 21 := ⟨by decide +kernel, rfl⟩
theorem eX10_init_21 : sl_D YX10_init 21 (.sipush 144) 3 24 := ⟨by decide +kernel, rfl⟩
theorem eX10_init_24 : sl_D YX10_init 24 (.newarray .int) 2 26 := ⟨by decide +kernel, rfl⟩
theorem eX10_init_26 : sl_D YX10_init 26 (.putfield 18) 3 29 := ⟨by decide +kernel, rfl⟩
theorem eX10_init_29 : sl_D YX10_init 29 (.return_) 1 30 := ⟨by decide +kernel, rfl⟩
theorem eX10_reckon_0 : sl_D YX10_reckon 0 (.aload_n 0) 1 1 := ⟨by decide +kernel, rfl⟩
theorem eX10_reckon_1 : sl_D YX10_reckon 1 (.aload_n 1) 1 2 := ⟨by decide +kernel, rfl⟩
theorem eX10_reckon_2 : sl_D YX10_reckon 2 (.getfield 21) 3 5 := ⟨by decide +kernel, rfl⟩
theorem eX10_reckon_5 : sl_D YX10_reckon 5 (.putfield 27) 3 8 := ⟨by decide +kernel, rfl⟩
theorem eX10_reckon_8 : sl_D YX10_reckon 8 (.iconst 0) 1 9 := ⟨by decide +kernel, rfl⟩
theorem eX10_reckon_9 : sl_D YX10_reckon 9 (.istore_n 2) 1 10 := ⟨by decide +kernel, rfl⟩
theorem eX10_reckon_10 : sl_D YX10_reckon 10 (.iload_n 2) 1 11 := ⟨by decide +kernel, rfl⟩
theorem eX10_reckon_11 : sl_D YX10_reckon 11 (.bipush 6) 2 13 := ⟨by decide +kernel, rfl⟩
theorem eX10_reckon_13 : sl_B YX10_reckon 13 (fun o => .if_icmp .ge o) 16 36 := ⟨23, by decide +kernel, rfl, by decide⟩
theorem eX10_reckon_16 : sl_D YX10_reckon 16 (.aload_n 0) 1 17 := ⟨by decide +kernel, rfl⟩
theorem eX10_reckon_17 : sl_D YX10_reckon 17 (.getfield 9) 3 20 := ⟨by decide +kernel, rfl⟩
theorem eX10_reckon_20 : sl_D YX10_reckon 20 (.iload_n 2) 1 21 := ⟨by decide +kernel, rfl⟩
theorem eX10_reckon_21 : sl_D YX10_reckon 21 (.iconst 0) 1 22 := ⟨by decide +kernel, rfl⟩
theorem eX10_reckon_22 : sl_D YX10_reckon 22 (.iastore) 1 23 := ⟨by decide +kernel, rfl⟩
theorem eX10_reckon_23 : sl_D YX10_reckon 23 (.aload_n 0) 1 24 := ⟨by decide +kernel, rfl⟩
theorem eX10_reckon_24 : sl_D YX10_reckon 24 (.getfield 15) 3 27 := ⟨by decide +kernel, rfl⟩
theorem eX10_reckon_27 : sl_D YX10_reckon 27 (.iload_n 2) 1 28 := ⟨by decide +kernel, rfl⟩
theorem eX10_reckon_28 : sl_D YX10_reckon 28 (.iconst 0) 1 29 := ⟨by decide +kernel, rfl⟩
theorem eX10_reckon_29 : sl_D YX10_reckon 29 (.iastore) 1 30 := ⟨by decide +kernel, rfl⟩
theorem eX10_reckon_30 : sl_D YX10_reckon 30 (.iinc 2 1) 3 33 := ⟨by decide +kernel, rfl⟩
theorem eX10_reckon_33 : sl_B YX10_reckon 33 (fun o => .goto o) 36 10 := ⟨-23, by decide +kernel, rfl, by decide⟩
theorem eX10_reckon_36 : sl_D YX10_reckon 36 (.iconst 0) 1 37 := ⟨by decide +kernel, rfl⟩
theorem eX10_reckon_37 : sl_D YX10_reckon 37 (.istore_n 2) 1 38 := ⟨by decide +kernel, rfl⟩
theorem eX10_reckon_38 : sl_D YX10_reckon 38 (.iload_n 2) 1 39 := ⟨by decide +kernel, rfl⟩
theorem eX10_reckon_39 : sl_D YX10_reckon 39 (.sipush 144) 3 42 := ⟨by decide +kernel, rfl⟩
theorem eX10_reckon_42 : sl_B YX10_reckon 42 (fun o => .if_icmp .ge o) 45 58 := ⟨16, by decide +kernel, rfl, by decide⟩
theorem eX10_reckon_45 : sl_D YX10_reckon 45 (.aload_n 0) 1 46 := ⟨by decide +kernel, rfl⟩
theorem eX10_reckon_46 : sl_D YX10_reckon 46 (.getfield 18) 3 49 := ⟨by decide +kernel, rfl⟩
theorem eX10_reckon_49 : sl_D YX10_reckon 49 (.iload_n 2) 1 50 := ⟨by decide +kernel, rfl⟩
theorem eX10_reckon_50 : sl_D YX10_reckon 50 (.iconst 0) 1 51 := ⟨by decide +kernel, rfl⟩
theorem eX10_reckon_51 : sl_D YX10_reckon 51 (.iastore) 1 52 := ⟨by decide +kernel, rfl⟩
theorem eX10_reckon_52 : sl_D YX10_reckon 52 (.iinc 2 1) 3 55 := ⟨by decide +kernel, rfl⟩
theorem eX10_reckon_55 : sl_B YX10_reckon 55 (fun o => .goto o) 58 38 := ⟨-17, by decide +kernel, rfl, by decide⟩
theorem eX10_reckon_58 : sl_D YX10_reckon 58 (.iconst 0) 1 59 := ⟨by decide +kernel, rfl⟩
theorem eX10_reckon_59 : sl_D YX10_reckon 59 (.istore_n 2) 1 60 := ⟨by decide +kernel, rfl⟩
theorem eX10_reckon_60 : sl_D YX10_reckon 60 (.iload_n 2) 1 61 := ⟨by decide +kernel, rfl⟩
theorem eX10_reckon_61 : sl_D YX10_reckon 61 (.aload_n 1) 1 62 := ⟨by decide +kernel, rfl⟩
theorem eX10_reckon_62 : sl_D YX10_reckon 62 (.getfield 30) 3 65 := ⟨by decide +kernel, rfl⟩
theorem eX10_reckon_65 : sl_B YX10_reckon 65 (fun o => .if_icmp .gt o) 68 79 := ⟨14, by decide +kernel, rfl, by decide⟩
theorem eX10_reckon_68 : sl_D YX10_reckon 68 (.aload_n 0) 1 69 := ⟨by decide +kernel, rfl⟩
theorem eX10_reckon_69 : sl_D YX10_reckon 69 (.aload_n 1) 1 70 := ⟨by decide +kernel, rfl⟩
theorem eX10_reckon_70 : sl_D YX10_reckon 70 (.invokevirtual 33) 3 73 := ⟨by decide +kernel, rfl⟩
theorem eX10_reckon_73 : sl_D YX10_reckon 73 (.iinc 2 1) 3 76 := ⟨by decide +kernel, rfl⟩
theorem eX10_reckon_76 : sl_B YX10_reckon 76 (fun o => .goto o) 79 60 := ⟨-16, by decide +kernel, rfl, by decide⟩
theorem eX10_reckon_79 : sl_D YX10_reckon 79 (.iconst 0) 1 80 := ⟨by decide +kernel, rfl⟩
theorem eX10_reckon_80 : sl_D YX10_reckon 80 (.istore_n 2) 1 81 := ⟨by decide +kernel, rfl⟩
theorem eX10_reckon_81 : sl_D YX10_reckon 81 (.iload_n 2) 1 82 := ⟨by decide +kernel, rfl⟩
theorem eX10_reckon_82 : sl_D YX10_reckon 82 (.aload_n 1) 1 83 := ⟨by decide +kernel, rfl⟩
theorem eX10_reckon_83 : sl_D YX10_reckon 83 (.getfield 37) 3 86 := ⟨by decide +kernel, rfl⟩
theorem eX10_reckon_86 : sl_B YX10_reckon 86 (fun o => .if_icmp .ge o) 89 110 := ⟨24, by decide +kernel, rfl, by decide⟩
theorem eX10_reckon_89 : sl_D YX10_reckon 89 (.aload_n 1) 1 90 := ⟨by decide +kernel, rfl⟩
theorem eX10_reckon_90 : sl_D YX10_reckon 90 (.getfield 40) 3 93 := ⟨by decide +kernel, rfl⟩
theorem eX10_reckon_93 : sl_D YX10_reckon 93 (.iload_n 2) 1 94 := ⟨by decide +kernel, rfl⟩
theorem eX10_reckon_94 : sl_D YX10_reckon 94 (.baload) 1 95 := ⟨by decide +kernel, rfl⟩
theorem eX10_reckon_95 : sl_B YX10_reckon 95 (fun o => .ifCond .ne o) 98 104 := ⟨9, by decide +kernel, rfl, by decide⟩
theorem eX10_reckon_98 : sl_D YX10_reckon 98 (.aload_n 0) 1 99 := ⟨by decide +kernel, rfl⟩
theorem eX10_reckon_99 : sl_D YX10_reckon 99 (.aload_n 1) 1 100 := ⟨by decide +kernel, rfl⟩
theorem eX10_reckon_100 : sl_D YX10_reckon 100 (.iload_n 2) 1 101 := ⟨by decide +kernel, rfl⟩
theorem eX10_reckon_101 : sl_D YX10_reckon 101 (.invokevirtual 44) 3 104 := ⟨by decide +kernel, rfl⟩
theorem eX10_reckon_104 : sl_D YX10_reckon 104 (.iinc 2 1) 3 107 := ⟨by decide +kernel, rfl⟩
theorem eX10_reckon_107 : sl_B YX10_reckon 107 (fun o => .goto o) 110 81 := ⟨-26, by decide +kernel, rfl, by decide⟩
theorem eX10_reckon_110 : sl_D YX10_reckon 110 (.aload_n 0) 1 111 := ⟨by decide +kernel, rfl⟩
theorem eX10_reckon_111 : sl_D YX10_reckon 111 (.aload_n 0) 1 112 := ⟨by decide +kernel, rfl⟩
theorem eX10_reckon_112 : sl_D YX10_reckon 112 (.getfield 27) 3 115 := ⟨by decide +kernel, rfl⟩
theorem eX10_reckon_115 : sl_D YX10_reckon 115 (.aload_n 0) 1 116 := ⟨by decide +kernel, rfl⟩
theorem eX10_reckon_116 : sl_D YX10_reckon 116 (.getfield 9) 3 119 := ⟨by decide +kernel, rfl⟩
theorem eX10_reckon_119 : sl_D YX10_reckon 119 (.iconst 0) 1 120 := ⟨by decide +kernel, rfl⟩
theorem eX10_reckon_120 : sl_D YX10_reckon 120 (.iaload) 1 121 := ⟨by decide +kernel, rfl⟩
theorem eX10_reckon_121 : sl_D YX10_reckon 121 (.invokevirtual 48) 3 124 := ⟨by decide +kernel, rfl⟩
theorem eX10_reckon_124 : sl_D YX10_reckon 124 (.aload_n 0) 1 125 := ⟨by decide +kernel, rfl⟩
theorem eX10_reckon_125 : sl_D YX10_reckon 125 (.aload_n 0) 1 126 := ⟨by decide +kernel, rfl⟩
theorem eX10_reckon_126 : sl_D YX10_reckon 126 (.getfield 15) 3 129 := ⟨by decide +kernel, rfl⟩
theorem eX10_reckon_129 : sl_D YX10_reckon 129 (.iconst 0) 1 130 := ⟨by decide +kernel, rfl⟩
theorem eX10_reckon_130 : sl_D YX10_reckon 130 (.iaload) 1 131 := ⟨by decide +kernel, rfl⟩
theorem eX10_reckon_131 : sl_D YX10_reckon 131 (.aload_n 0) 1 132 := ⟨by decide +kernel, rfl⟩
theorem eX10_reckon_132 : sl_D YX10_reckon 132 (.getfield 27) 3 135 := ⟨by decide +kernel, rfl⟩
theorem eX10_reckon_135 : sl_D YX10_reckon 135 (.invokevirtual 52) 3 138 := ⟨by decide +kernel, rfl⟩
theorem eX10_reckon_138 : sl_D YX10_reckon 138 (.return_) 1 139 := ⟨by decide +kernel, rfl⟩
theorem eX10_growEdges_0 : sl_D YX10_growEdges 0 (.iconst 0) 1 1 := ⟨by decide +kernel, rfl⟩
theorem eX10_growEdges_1 : sl_D YX10_growEdges 1 (.istore_n 2) 1 2 := ⟨by decide +kernel, rfl⟩
theorem eX10_growEdges_2 : sl_D YX10_growEdges 2 (.iload_n 2) 1 3 := ⟨by decide +kernel, rfl⟩
theorem eX10_growEdges_3 : sl_D YX10_growEdges 3 (.aload_n 1) 1 4 := ⟨by decide +kernel, rfl⟩
theorem eX10_growEdges_4 : sl_D YX10_growEdges 4 (.getfield 37) 3 7 := ⟨by decide +kernel, rfl⟩
theorem eX10_growEdges_7 : sl_B YX10_growEdges 7 (fun o => .if_icmp .ge o) 10 103 := ⟨96, by decide +kernel, rfl, by decide⟩
theorem eX10_growEdges_10 : sl_D YX10_growEdges 10 (.aload_n 1) 1 11 := ⟨by decide +kernel, rfl⟩
theorem eX10_growEdges_11 : sl_D YX10_growEdges 11 (.getfield 40) 3 14 := ⟨by decide +kernel, rfl⟩
theorem eX10_growEdges_14 : sl_D YX10_growEdges 14 (.iload_n 2) 1 15 := ⟨by decide +kernel, rfl⟩
theorem eX10_growEdges_15 : sl_D YX10_growEdges 15 (.baload) 1 16 := ⟨by decide +kernel, rfl⟩
theorem eX10_growEdges_16 : sl_B YX10_growEdges 16 (fun o => .ifCond .ne o) 19 97 := ⟨81, by decide +kernel, rfl, by decide⟩
theorem eX10_growEdges_19 : sl_D YX10_growEdges 19 (.aload_n 1) 1 20 := ⟨by decide +kernel, rfl⟩
theorem eX10_growEdges_20 : sl_D YX10_growEdges 20 (.getfield 55) 3 23 := ⟨by decide +kernel, rfl⟩
theorem eX10_growEdges_23 : sl_D YX10_growEdges 23 (.iload_n 2) 1 24 := ⟨by decide +kernel, rfl⟩
theorem eX10_growEdges_24 : sl_D YX10_growEdges 24 (.iaload) 1 25 := ⟨by decide +kernel, rfl⟩
theorem eX10_growEdges_25 : sl_B YX10_growEdges 25 (fun o => .ifCond .le o) 28 97 := ⟨72, by decide +kernel, rfl, by decide⟩
theorem eX10_growEdges_28 : sl_D YX10_growEdges 28 (.aload_n 1) 1 29 := ⟨by decide +kernel, rfl⟩
theorem eX10_growEdges_29 : sl_D YX10_growEdges 29 (.getfield 55) 3 32 := ⟨by decide +kernel, rfl⟩
theorem eX10_growEdges_32 : sl_D YX10_growEdges 32 (.iload_n 2) 1 33 := ⟨by decide +kernel, rfl⟩
theorem eX10_growEdges_33 : sl_D YX10_growEdges 33 (.iaload) 1 34 := ⟨by decide +kernel, rfl⟩
theorem eX10_growEdges_34 : sl_D YX10_growEdges 34 (.iconst 1) 1 35 := ⟨by decide +kernel, rfl⟩
theorem eX10_growEdges_35 : sl_D YX10_growEdges 35 (.isub) 1 36 := ⟨by decide +kernel, rfl⟩
theorem eX10_growEdges_36 : sl_D YX10_growEdges 36 (.istore_n 3) 1 37 := ⟨by decide +kernel, rfl⟩
theorem eX10_growEdges_37 : sl_D YX10_growEdges 37 (.aload_n 1) 1 38 := ⟨by decide +kernel, rfl⟩
theorem eX10_growEdges_38 : sl_D YX10_growEdges 38 (.getfield 58) 3 41 := ⟨by decide +kernel, rfl⟩
theorem eX10_growEdges_41 : sl_D YX10_growEdges 41 (.iload_n 2) 1 42 := ⟨by decide +kernel, rfl⟩
theorem eX10_growEdges_42 : sl_D YX10_growEdges 42 (.iaload) 1 43 := ⟨by decide +kernel, rfl⟩
theorem eX10_growEdges_43 : sl_D YX10_growEdges 43 (.istore 4) 2 45 := ⟨by decide +kernel, rfl⟩
theorem eX10_growEdges_45 : sl_D YX10_growEdges 45 (.aload_n 0) 1 46 := ⟨by decide +kernel, rfl⟩
theorem eX10_growEdges_46 : sl_D YX10_growEdges 46 (.getfield 9) 3 49 := ⟨by decide +kernel, rfl⟩
theorem eX10_growEdges_49 : sl_D YX10_growEdges 49 (.iload 4) 2 51 := ⟨by decide +kernel, rfl⟩
theorem eX10_growEdges_51 : sl_D YX10_growEdges 51 (.dup2) 1 52 := ⟨by decide +kernel, rfl⟩
theorem eX10_growEdges_52 : sl_D YX10_growEdges 52 (.iaload) 1 53 := ⟨by decide +kernel, rfl⟩
theorem eX10_growEdges_53 : sl_D YX10_growEdges 53 (.aload_n 1) 1 54 := ⟨by decide +kernel, rfl⟩
theorem eX10_growEdges_54 : sl_D YX10_growEdges 54 (.iload_n 2) 1 55 := ⟨by decide +kernel, rfl⟩
theorem eX10_growEdges_55 : sl_D YX10_growEdges 55 (.iconst 0) 1 56 := ⟨by decide +kernel, rfl⟩
theorem eX10_growEdges_56 : sl_D YX10_growEdges 56 (.iconst 1) 1 57 := ⟨by decide +kernel, rfl⟩
theorem eX10_growEdges_57 : sl_D YX10_growEdges 57 (.iload_n 3) 1 58 := ⟨by decide +kernel, rfl⟩
theorem eX10_growEdges_58 : sl_D YX10_growEdges 58 (.invokestatic 61) 3 61 := ⟨by decide +kernel, rfl⟩
theorem eX10_growEdges_61 : sl_D YX10_growEdges 61 (.aload_n 0) 1 62 := ⟨by decide +kernel, rfl⟩
theorem eX10_growEdges_62 : sl_D YX10_growEdges 62 (.getfield 9) 3 65 := ⟨by decide +kernel, rfl⟩
theorem eX10_growEdges_65 : sl_D YX10_growEdges 65 (.invokestatic 67) 3 68 := ⟨by decide +kernel, rfl⟩
theorem eX10_growEdges_68 : sl_D YX10_growEdges 68 (.ior) 1 69 := ⟨by decide +kernel, rfl⟩
theorem eX10_growEdges_69 : sl_D YX10_growEdges 69 (.iastore) 1 70 := ⟨by decide +kernel, rfl⟩
theorem eX10_growEdges_70 : sl_D YX10_growEdges 70 (.aload_n 0) 1 71 := ⟨by decide +kernel, rfl⟩
theorem eX10_growEdges_71 : sl_D YX10_growEdges 71 (.getfield 15) 3 74 := ⟨by decide +kernel, rfl⟩
theorem eX10_growEdges_74 : sl_D YX10_growEdges 74 (.iload 4) 2 76 := ⟨by decide +kernel, rfl⟩
theorem eX10_growEdges_76 : sl_D YX10_growEdges 76 (.dup2) 1 77 := ⟨by decide +kernel, rfl⟩
theorem eX10_growEdges_77 : sl_D YX10_growEdges 77 (.iaload) 1 78 := ⟨by decide +kernel, rfl⟩
theorem eX10_growEdges_78 : sl_D YX10_growEdges 78 (.aload_n 1) 1 79 := ⟨by decide +kernel, rfl⟩
theorem eX10_growEdges_79 : sl_D YX10_growEdges 79 (.iload_n 2) 1 80 := ⟨by decide +kernel, rfl⟩
theorem eX10_growEdges_80 : sl_D YX10_growEdges 80 (.iload_n 3) 1 81 := ⟨by decide +kernel, rfl⟩
theorem eX10_growEdges_81 : sl_D YX10_growEdges 81 (.iload_n 3) 1 82 := ⟨by decide +kernel, rfl⟩
theorem eX10_growEdges_82 : sl_D YX10_growEdges 82 (.iconst 1) 1 83 := ⟨by decide +kernel, rfl⟩
theorem eX10_growEdges_83 : sl_D YX10_growEdges 83 (.isub) 1 84 := ⟨by decide +kernel, rfl⟩
theorem eX10_growEdges_84 : sl_D YX10_growEdges 84 (.iconst 0) 1 85 := ⟨by decide +kernel, rfl⟩
theorem eX10_growEdges_85 : sl_D YX10_growEdges 85 (.invokestatic 71) 3 88 := ⟨by decide +kernel, rfl⟩
theorem eX10_growEdges_88 : sl_D YX10_growEdges 88 (.aload_n 0) 1 89 := ⟨by decide +kernel, rfl⟩
theorem eX10_growEdges_89 : sl_D YX10_growEdges 89 (.getfield 15) 3 92 := ⟨by decide +kernel, rfl⟩
theorem eX10_growEdges_92 : sl_D YX10_growEdges 92 (.invokestatic 67) 3 95 := ⟨by decide +kernel, rfl⟩
theorem eX10_growEdges_95 : sl_D YX10_growEdges 95 (.ior) 1 96 := ⟨by decide +kernel, rfl⟩
theorem eX10_growEdges_96 : sl_D YX10_growEdges 96 (.iastore) 1 97 := ⟨by decide +kernel, rfl⟩
theorem eX10_growEdges_97 : sl_D YX10_growEdges 97 (.iinc 2 1) 3 100 := ⟨by decide +kernel, rfl⟩
theorem eX10_growEdges_100 : sl_B YX10_growEdges 100 (fun o => .goto o) 103 2 := ⟨-98, by decide +kernel, rfl, by decide⟩
theorem eX10_growEdges_103 : sl_D YX10_growEdges 103 (.return_) 1 104 := ⟨by decide +kernel, rfl⟩
theorem eX10_edgeOf_0 : sl_D YX10_edgeOf 0 (.aload_n 0) 1 1 := ⟨by decide +kernel, rfl⟩
theorem eX10_edgeOf_1 : sl_D YX10_edgeOf 1 (.iload_n 1) 1 2 := ⟨by decide +kernel, rfl⟩
theorem eX10_edgeOf_2 : sl_D YX10_edgeOf 2 (.iload_n 2) 1 3 := ⟨by decide +kernel, rfl⟩
theorem eX10_edgeOf_3 : sl_D YX10_edgeOf 3 (.invokevirtual 74) 3 6 := ⟨by decide +kernel, rfl⟩
theorem eX10_edgeOf_6 : sl_D YX10_edgeOf 6 (.istore 5) 2 8 := ⟨by decide +kernel, rfl⟩
theorem eX10_edgeOf_8 : sl_D YX10_edgeOf 8 (.iload 5) 2 10 := ⟨by decide +kernel, rfl⟩
theorem eX10_edgeOf_10 : sl_D YX10_edgeOf 10 (.invokestatic 77) 3 13 := ⟨by decide +kernel, rfl⟩
theorem eX10_edgeOf_13 : sl_B YX10_edgeOf 13 (fun o => .ifCond .ne o) 16 21 := ⟨8, by decide +kernel, rfl, by decide⟩
theorem eX10_edgeOf_16 : sl_D YX10_edgeOf 16 (.iconst 1) 1 17 := ⟨by decide +kernel, rfl⟩
theorem eX10_edgeOf_17 : sl_D YX10_edgeOf 17 (.iload 5) 2 19 := ⟨by decide +kernel, rfl⟩
theorem eX10_edgeOf_19 : sl_D YX10_edgeOf 19 (.ishl) 1 20 := ⟨by decide +kernel, rfl⟩
theorem eX10_edgeOf_20 : sl_D YX10_edgeOf 20 (.ireturn) 1 21 := ⟨by decide +kernel, rfl⟩
theorem eX10_edgeOf_21 : sl_D YX10_edgeOf 21 (.aload_n 0) 1 22 := ⟨by decide +kernel, rfl⟩
theorem eX10_edgeOf_22 : sl_D YX10_edgeOf 22 (.iload_n 1) 1 23 := ⟨by decide +kernel, rfl⟩
theorem eX10_edgeOf_23 : sl_D YX10_edgeOf 23 (.iload_n 3) 1 24 := ⟨by decide +kernel, rfl⟩
theorem eX10_edgeOf_24 : sl_D YX10_edgeOf 24 (.invokevirtual 74) 3 27 := ⟨by decide +kernel, rfl⟩
theorem eX10_edgeOf_27 : sl_D YX10_edgeOf 27 (.istore 6) 2 29 := ⟨by decide +kernel, rfl⟩
theorem eX10_edgeOf_29 : sl_D YX10_edgeOf 29 (.aload 4) 2 31 := ⟨by decide +kernel, rfl⟩
theorem eX10_edgeOf_31 : sl_D YX10_edgeOf 31 (.iload 5) 2 33 := ⟨by decide +kernel, rfl⟩
theorem eX10_edgeOf_33 : sl_D YX10_edgeOf 33 (.bipush 100) 2 35 := ⟨by decide +kernel, rfl⟩
theorem eX10_edgeOf_35 : sl_D YX10_edgeOf 35 (.isub) 1 36 := ⟨by decide +kernel, rfl⟩
theorem eX10_edgeOf_36 : sl_D YX10_edgeOf 36 (.iaload) 1 37 := ⟨by decide +kernel, rfl⟩
theorem eX10_edgeOf_37 : sl_D YX10_edgeOf 37 (.istore 7) 2 39 := ⟨by decide +kernel, rfl⟩
theorem eX10_edgeOf_39 : sl_D YX10_edgeOf 39 (.iload 6) 2 41 := ⟨by decide +kernel, rfl⟩
theorem eX10_edgeOf_41 : sl_D YX10_edgeOf 41 (.invokestatic 77) 3 44 := ⟨by decide +kernel, rfl⟩
theorem eX10_edgeOf_44 : sl_B YX10_edgeOf 44 (fun o => .ifCond .eq o) 47 52 := ⟨8, by decide +kernel, rfl, by decide⟩
theorem eX10_edgeOf_47 : sl_D YX10_edgeOf 47 (.iload 7) 2 49 := ⟨by decide +kernel, rfl⟩
theorem eX10_edgeOf_49 : sl_B YX10_edgeOf 49 (fun o => .goto o) 52 59 := ⟨10, by decide +kernel, rfl, by decide⟩
theorem eX10_edgeOf_52 : sl_D YX10_edgeOf 52 (.iload 7) 2 54 := ⟨by decide +kernel, rfl⟩
theorem eX10_edgeOf_54 : sl_D YX10_edgeOf 54 (.iconst 1) 1 55 := ⟨by decide +kernel, rfl⟩
theorem eX10_edgeOf_55 : sl_D YX10_edgeOf 55 (.iload 6) 2 57 := ⟨by decide +kernel, rfl⟩
theorem eX10_edgeOf_57 : sl_D YX10_edgeOf 57 (.ishl) 1 58 := ⟨by decide +kernel, rfl⟩
theorem eX10_edgeOf_58 : sl_D YX10_edgeOf 58 (.ior) 1 59 := ⟨by decide +kernel, rfl⟩
theorem eX10_edgeOf_59 : sl_D YX10_edgeOf 59 (.ireturn) 1 60 := ⟨by decide +kernel, rfl⟩
theorem eX10_relateRule_0 : sl_D YX10_relateRule 0 (.aload_n 1) 1 1 := ⟨by decide +kernel, rfl⟩
theorem eX10_relateRule_1 : sl_D YX10_relateRule 1 (.getfield 55) 3 4 := ⟨by decide +kernel, rfl⟩
theorem eX10_relateRule_4 : sl_D YX10_relateRule 4 (.iload_n 2) 1 5 := ⟨by decide +kernel, rfl⟩
theorem eX10_relateRule_5 : sl_D YX10_relateRule 5 (.iaload) 1 6 := ⟨by decide +kernel, rfl⟩
theorem eX10_relateRule_6 : sl_D YX10_relateRule 6 (.iconst 1) 1 7 := ⟨by decide +kernel, rfl⟩
theorem eX10_relateRule_7 : sl_D YX10_relateRule 7 (.isub) 1 8 := ⟨by decide +kernel, rfl⟩
theorem eX10_relateRule_8 : sl_D YX10_relateRule 8 (.istore_n 3) 1 9 := ⟨by decide +kernel, rfl⟩
theorem eX10_relateRule_9 : sl_D YX10_relateRule 9 (.iconst 0) 1 10 := ⟨by decide +kernel, rfl⟩
theorem eX10_relateRule_10 : sl_D YX10_relateRule 10 (.istore 4) 2 12 := ⟨by decide +kernel, rfl⟩
theorem eX10_relateRule_12 : sl_D YX10_relateRule 12 (.iload 4) 2 14 := ⟨by decide +kernel, rfl⟩
theorem eX10_relateRule_14 : sl_D YX10_relateRule 14 (.iload_n 3) 1 15 := ⟨by decide +kernel, rfl⟩
theorem eX10_relateRule_15 : sl_B YX10_relateRule 15 (fun o => .if_icmp .ge o) 18 131 := ⟨116, by decide +kernel, rfl, by decide⟩
theorem eX10_relateRule_18 : sl_D YX10_relateRule 18 (.aload_n 1) 1 19 := ⟨by decide +kernel, rfl⟩
theorem eX10_relateRule_19 : sl_D YX10_relateRule 19 (.iload_n 2) 1 20 := ⟨by decide +kernel, rfl⟩
theorem eX10_relateRule_20 : sl_D YX10_relateRule 20 (.iload 4) 2 22 := ⟨by decide +kernel, rfl⟩
theorem eX10_relateRule_22 : sl_D YX10_relateRule 22 (.invokevirtual 74) 3 25 := ⟨by decide +kernel, rfl⟩
theorem eX10_relateRule_25 : sl_D YX10_relateRule 25 (.istore 5) 2 27 := ⟨by decide +kernel, rfl⟩
theorem eX10_relateRule_27 : sl_D YX10_relateRule 27 (.aload_n 1) 1 28 := ⟨by decide +kernel, rfl⟩
theorem eX10_relateRule_28 : sl_D YX10_relateRule 28 (.iload_n 2) 1 29 := ⟨by decide +kernel, rfl⟩
theorem eX10_relateRule_29 : sl_D YX10_relateRule 29 (.iload 4) 2 31 := ⟨by decide +kernel, rfl⟩
theorem eX10_relateRule_31 : sl_D YX10_relateRule 31 (.iconst 1) 1 32 := ⟨by decide +kernel, rfl⟩
theorem eX10_relateRule_32 : sl_D YX10_relateRule 32 (.iadd) 1 33 := ⟨by decide +kernel, rfl⟩
theorem eX10_relateRule_33 : sl_D YX10_relateRule 33 (.invokevirtual 74) 3 36 := ⟨by decide +kernel, rfl⟩
theorem eX10_relateRule_36 : sl_D YX10_relateRule 36 (.istore 6) 2 38 := ⟨by decide +kernel, rfl⟩
theorem eX10_relateRule_38 : sl_D YX10_relateRule 38 (.iload 5) 2 40 := ⟨by decide +kernel, rfl⟩
theorem eX10_relateRule_40 : sl_D YX10_relateRule 40 (.invokestatic 77) 3 43 := ⟨by decide +kernel, rfl⟩
theorem eX10_relateRule_43 : sl_B YX10_relateRule 43 (fun o => .ifCond .eq o) 46 65 := ⟨22, by decide +kernel, rfl, by decide⟩
theorem eX10_relateRule_46 : sl_D YX10_relateRule 46 (.aload_n 0) 1 47 := ⟨by decide +kernel, rfl⟩
theorem eX10_relateRule_47 : sl_D YX10_relateRule 47 (.aload_n 0) 1 48 := ⟨by decide +kernel, rfl⟩
theorem eX10_relateRule_48 : sl_D YX10_relateRule 48 (.getfield 15) 3 51 := ⟨by decide +kernel, rfl⟩
theorem eX10_relateRule_51 : sl_D YX10_relateRule 51 (.iload 5) 2 53 := ⟨by decide +kernel, rfl⟩
theorem eX10_relateRule_53 : sl_D YX10_relateRule 53 (.bipush 100) 2 55 := ⟨by decide +kernel, rfl⟩
theorem eX10_relateRule_55 : sl_D YX10_relateRule 55 (.isub) 1 56 := ⟨by decide +kernel, rfl⟩
theorem eX10_relateRule_56 : sl_D YX10_relateRule 56 (.iaload) 1 57 := ⟨by decide +kernel, rfl⟩
theorem eX10_relateRule_57 : sl_D YX10_relateRule 57 (.iload 6) 2 59 := ⟨by decide +kernel, rfl⟩
theorem eX10_relateRule_59 : sl_D YX10_relateRule 59 (.invokevirtual 52) 3 62 := ⟨by decide +kernel, rfl⟩
theorem eX10_relateRule_62 : sl_B YX10_relateRule 62 (fun o => .goto o) 65 125 := ⟨63, by decide +kernel, rfl, by decide⟩
theorem eX10_relateRule_65 : sl_D YX10_relateRule 65 (.iload 6) 2 67 := ⟨by decide +kernel, rfl⟩
theorem eX10_relateRule_67 : sl_D YX10_relateRule 67 (.invokestatic 77) 3 70 := ⟨by decide +kernel, rfl⟩
theorem eX10_relateRule_70 : sl_B YX10_relateRule 70 (fun o => .ifCond .eq o) 73 116 := ⟨46, by decide +kernel, rfl, by decide⟩
theorem eX10_relateRule_73 : sl_D YX10_relateRule 73 (.aload_n 0) 1 74 := ⟨by decide +kernel, rfl⟩
theorem eX10_relateRule_74 : sl_D YX10_relateRule 74 (.iload 5) 2 76 := ⟨by decide +kernel, rfl⟩
theorem eX10_relateRule_76 : sl_D YX10_relateRule 76 (.aload_n 0) 1 77 := ⟨by decide +kernel, rfl⟩
theorem eX10_relateRule_77 : sl_D YX10_relateRule 77 (.getfield 9) 3 80 := ⟨by decide +kernel, rfl⟩
theorem eX10_relateRule_80 : sl_D YX10_relateRule 80 (.iload 6) 2 82 := ⟨by decide +kernel, rfl⟩
theorem eX10_relateRule_82 : sl_D YX10_relateRule 82 (.bipush 100) 2 84 := ⟨by decide +kernel, rfl⟩
theorem eX10_relateRule_84 : sl_D YX10_relateRule 84 (.isub) 1 85 := ⟨by decide +kernel, rfl⟩
theorem eX10_relateRule_85 : sl_D YX10_relateRule 85 (.iaload) 1 86 := ⟨by decide +kernel, rfl⟩
theorem eX10_relateRule_86 : sl_D YX10_relateRule 86 (.invokevirtual 48) 3 89 := ⟨by decide +kernel, rfl⟩
theorem eX10_relateRule_89 : sl_D YX10_relateRule 89 (.iload 4) 2 91 := ⟨by decide +kernel, rfl⟩
theorem eX10_relateRule_91 : sl_D YX10_relateRule 91 (.iconst 1) 1 92 := ⟨by decide +kernel, rfl⟩
theorem eX10_relateRule_92 : sl_D YX10_relateRule 92 (.iadd) 1 93 := ⟨by decide +kernel, rfl⟩
theorem eX10_relateRule_93 : sl_D YX10_relateRule 93 (.iload_n 3) 1 94 := ⟨by decide +kernel, rfl⟩
theorem eX10_relateRule_94 : sl_B YX10_relateRule 94 (fun o => .if_icmp .ge o) 97 125 := ⟨31, by decide +kernel, rfl, by decide⟩
theorem eX10_relateRule_97 : sl_D YX10_relateRule 97 (.aload_n 0) 1 98 := ⟨by decide +kernel, rfl⟩
theorem eX10_relateRule_98 : sl_D YX10_relateRule 98 (.iload 5) 2 100 := ⟨by decide +kernel, rfl⟩
theorem eX10_relateRule_100 : sl_D YX10_relateRule 100 (.aload_n 1) 1 101 := ⟨by decide +kernel, rfl⟩
theorem eX10_relateRule_101 : sl_D YX10_relateRule 101 (.iload_n 2) 1 102 := ⟨by decide +kernel, rfl⟩
theorem eX10_relateRule_102 : sl_D YX10_relateRule 102 (.iload 4) 2 104 := ⟨by decide +kernel, rfl⟩
theorem eX10_relateRule_104 : sl_D YX10_relateRule 104 (.iconst 2) 1 105 := ⟨by decide +kernel, rfl⟩
theorem eX10_relateRule_105 : sl_D YX10_relateRule 105 (.iadd) 1 106 := ⟨by decide +kernel, rfl⟩
theorem eX10_relateRule_106 : sl_D YX10_relateRule 106 (.invokevirtual 74) 3 109 := ⟨by decide +kernel, rfl⟩
theorem eX10_relateRule_109 : sl_D YX10_relateRule 109 (.iconst 2) 1 110 := ⟨by decide +kernel, rfl⟩
theorem eX10_relateRule_110 : sl_D YX10_relateRule 110 (.invokevirtual 81) 3 113 := ⟨by decide +kernel, rfl⟩
theorem eX10_relateRule_113 : sl_B YX10_relateRule 113 (fun o => .goto o) 116 125 := ⟨12, by decide +kernel, rfl, by decide⟩
theorem eX10_relateRule_116 : sl_D YX10_relateRule 116 (.aload_n 0) 1 117 := ⟨by decide +kernel, rfl⟩
theorem eX10_relateRule_117 : sl_D YX10_relateRule 117 (.iload 5) 2 119 := ⟨by decide +kernel, rfl⟩
theorem eX10_relateRule_119 : sl_D YX10_relateRule 119 (.iload 6) 2 121 := ⟨by decide +kernel, rfl⟩
theorem eX10_relateRule_121 : sl_D YX10_relateRule 121 (.iconst 2) 1 122 := ⟨by decide +kernel, rfl⟩
theorem eX10_relateRule_122 : sl_D YX10_relateRule 122 (.invokevirtual 81) 3 125 := ⟨by decide +kernel, rfl⟩
theorem eX10_relateRule_125 : sl_D YX10_relateRule 125 (.iinc 4 1) 3 128 := ⟨by decide +kernel, rfl⟩
theorem eX10_relateRule_128 : sl_B YX10_relateRule 128 (fun o => .goto o) 131 12 := ⟨-116, by decide +kernel, rfl, by decide⟩
theorem eX10_relateRule_131 : sl_D YX10_relateRule 131 (.return_) 1 132 := ⟨by decide +kernel, rfl⟩
theorem eX10_addBelow_0 : sl_D YX10_addBelow 0 (.iconst 0) 1 1 := ⟨by decide +kernel, rfl⟩
theorem eX10_addBelow_1 : sl_D YX10_addBelow 1 (.istore_n 3) 1 2 := ⟨by decide +kernel, rfl⟩
theorem eX10_addBelow_2 : sl_D YX10_addBelow 2 (.iload_n 3) 1 3 := ⟨by decide +kernel, rfl⟩
theorem eX10_addBelow_3 : sl_D YX10_addBelow 3 (.aload_n 0) 1 4 := ⟨by decide +kernel, rfl⟩
theorem eX10_addBelow_4 : sl_D YX10_addBelow 4 (.getfield 27) 3 7 := ⟨by decide +kernel, rfl⟩
theorem eX10_addBelow_7 : sl_B YX10_addBelow 7 (fun o => .if_icmp .ge o) 10 31 := ⟨24, by decide +kernel, rfl, by decide⟩
theorem eX10_addBelow_10 : sl_D YX10_addBelow 10 (.iload_n 2) 1 11 := ⟨by decide +kernel, rfl⟩
theorem eX10_addBelow_11 : sl_D YX10_addBelow 11 (.iload_n 3) 1 12 := ⟨by decide +kernel, rfl⟩
theorem eX10_addBelow_12 : sl_D YX10_addBelow 12 (.ishr) 1 13 := ⟨by decide +kernel, rfl⟩
theorem eX10_addBelow_13 : sl_D YX10_addBelow 13 (.iconst 1) 1 14 := ⟨by decide +kernel, rfl⟩
theorem eX10_addBelow_14 : sl_D YX10_addBelow 14 (.iand) 1 15 := ⟨by decide +kernel, rfl⟩
theorem eX10_addBelow_15 : sl_B YX10_addBelow 15 (fun o => .ifCond .eq o) 18 25 := ⟨10, by decide +kernel, rfl, by decide⟩
theorem eX10_addBelow_18 : sl_D YX10_addBelow 18 (.aload_n 0) 1 19 := ⟨by decide +kernel, rfl⟩
theorem eX10_addBelow_19 : sl_D YX10_addBelow 19 (.iload_n 1) 1 20 := ⟨by decide +kernel, rfl⟩
theorem eX10_addBelow_20 : sl_D YX10_addBelow 20 (.iload_n 3) 1 21 := ⟨by decide +kernel, rfl⟩
theorem eX10_addBelow_21 : sl_D YX10_addBelow 21 (.iconst 1) 1 22 := ⟨by decide +kernel, rfl⟩
theorem eX10_addBelow_22 : sl_D YX10_addBelow 22 (.invokevirtual 81) 3 25 := ⟨by decide +kernel, rfl⟩
theorem eX10_addBelow_25 : sl_D YX10_addBelow 25 (.iinc 3 1) 3 28 := ⟨by decide +kernel, rfl⟩
theorem eX10_addBelow_28 : sl_B YX10_addBelow 28 (fun o => .goto o) 31 2 := ⟨-26, by decide +kernel, rfl, by decide⟩
theorem eX10_addBelow_31 : sl_D YX10_addBelow 31 (.return_) 1 32 := ⟨by decide +kernel, rfl⟩
theorem eX10_addAbove_0 : sl_D YX10_addAbove 0 (.iconst 0) 1 1 := ⟨by decide +kernel, rfl⟩
theorem eX10_addAbove_1 : sl_D YX10_addAbove 1 (.istore_n 3) 1 2 := ⟨by decide +kernel, rfl⟩
theorem eX10_addAbove_2 : sl_D YX10_addAbove 2 (.iload_n 3) 1 3 := ⟨by decide +kernel, rfl⟩
theorem eX10_addAbove_3 : sl_D YX10_addAbove 3 (.aload_n 0) 1 4 := ⟨by decide +kernel, rfl⟩
theorem eX10_addAbove_4 : sl_D YX10_addAbove 4 (.getfield 27) 3 7 := ⟨by decide +kernel, rfl⟩
theorem eX10_addAbove_7 : sl_B YX10_addAbove 7 (fun o => .if_icmp .ge o) 10 31 := ⟨24, by decide +kernel, rfl, by decide⟩
theorem eX10_addAbove_10 : sl_D YX10_addAbove 10 (.iload_n 1) 1 11 := ⟨by decide +kernel, rfl⟩
theorem eX10_addAbove_11 : sl_D YX10_addAbove 11 (.iload_n 3) 1 12 := ⟨by decide +kernel, rfl⟩
theorem eX10_addAbove_12 : sl_D YX10_addAbove 12 (.ishr) 1 13 := ⟨by decide +kernel, rfl⟩
theorem eX10_addAbove_13 : sl_D YX10_addAbove 13 (.iconst 1) 1 14 := ⟨by decide +kernel, rfl⟩
theorem eX10_addAbove_14 : sl_D YX10_addAbove 14 (.iand) 1 15 := ⟨by decide +kernel, rfl⟩
theorem eX10_addAbove_15 : sl_B YX10_addAbove 15 (fun o => .ifCond .eq o) 18 25 := ⟨10, by decide +kernel, rfl, by decide⟩
theorem eX10_addAbove_18 : sl_D YX10_addAbove 18 (.aload_n 0) 1 19 := ⟨by decide +kernel, rfl⟩
theorem eX10_addAbove_19 : sl_D YX10_addAbove 19 (.iload_n 3) 1 20 := ⟨by decide +kernel, rfl⟩
theorem eX10_addAbove_20 : sl_D YX10_addAbove 20 (.iload_n 2) 1 21 := ⟨by decide +kernel, rfl⟩
theorem eX10_addAbove_21 : sl_D YX10_addAbove 21 (.iconst 4) 1 22 := ⟨by decide +kernel, rfl⟩
theorem eX10_addAbove_22 : sl_D YX10_addAbove 22 (.invokevirtual 81) 3 25 := ⟨by decide +kernel, rfl⟩
theorem eX10_addAbove_25 : sl_D YX10_addAbove 25 (.iinc 3 1) 3 28 := ⟨by decide +kernel, rfl⟩
theorem eX10_addAbove_28 : sl_B YX10_addAbove 28 (fun o => .goto o) 31 2 := ⟨-26, by decide +kernel, rfl, by decide⟩
theorem eX10_addAbove_31 : sl_D YX10_addAbove 31 (.return_) 1 32 := ⟨by decide +kernel, rfl⟩
theorem eX10_addRelation_0 : sl_D YX10_addRelation 0 (.iload_n 1) 1 1 := ⟨by decide +kernel, rfl⟩
theorem eX10_addRelation_1 : sl_D YX10_addRelation 1 (.aload_n 0) 1 2 := ⟨by decide +kernel, rfl⟩
theorem eX10_addRelation_2 : sl_D YX10_addRelation 2 (.getfield 27) 3 5 := ⟨by decide +kernel, rfl⟩
theorem eX10_addRelation_5 : sl_B YX10_addRelation 5 (fun o => .if_icmp .gt o) 8 31 := ⟨26, by decide +kernel, rfl, by decide⟩
theorem eX10_addRelation_8 : sl_D YX10_addRelation 8 (.iload_n 2) 1 9 := ⟨by decide +kernel, rfl⟩
theorem eX10_addRelation_9 : sl_D YX10_addRelation 9 (.aload_n 0) 1 10 := ⟨by decide +kernel, rfl⟩
theorem eX10_addRelation_10 : sl_D YX10_addRelation 10 (.getfield 27) 3 13 := ⟨by decide +kernel, rfl⟩
theorem eX10_addRelation_13 : sl_B YX10_addRelation 13 (fun o => .if_icmp .gt o) 16 31 := ⟨18, by decide +kernel, rfl, by decide⟩
theorem eX10_addRelation_16 : sl_D YX10_addRelation 16 (.aload_n 0) 1 17 := ⟨by decide +kernel, rfl⟩
theorem eX10_addRelation_17 : sl_D YX10_addRelation 17 (.getfield 18) 3 20 := ⟨by decide +kernel, rfl⟩
theorem eX10_addRelation_20 : sl_D YX10_addRelation 20 (.iload_n 1) 1 21 := ⟨by decide +kernel, rfl⟩
theorem eX10_addRelation_21 : sl_D YX10_addRelation 21 (.bipush 12) 2 23 := ⟨by decide +kernel, rfl⟩
theorem eX10_addRelation_23 : sl_D YX10_addRelation 23 (.imul) 1 24 := ⟨by decide +kernel, rfl⟩
theorem eX10_addRelation_24 : sl_D YX10_addRelation 24 (.iload_n 2) 1 25 := ⟨by decide +kernel, rfl⟩
theorem eX10_addRelation_25 : sl_D YX10_addRelation 25 (.iadd) 1 26 := ⟨by decide +kernel, rfl⟩
theorem eX10_addRelation_26 : sl_D YX10_addRelation 26 (.dup2) 1 27 := ⟨by decide +kernel, rfl⟩
theorem eX10_addRelation_27 : sl_D YX10_addRelation 27 (.iaload) 1 28 := ⟨by decide +kernel, rfl⟩
theorem eX10_addRelation_28 : sl_D YX10_addRelation 28 (.iload_n 3) 1 29 := ⟨by decide +kernel, rfl⟩
theorem eX10_addRelation_29 : sl_D YX10_addRelation 29 (.ior) 1 30 := ⟨by decide +kernel, rfl⟩
theorem eX10_addRelation_30 : sl_D YX10_addRelation 30 (.iastore) 1 31 := ⟨by decide +kernel, rfl⟩
theorem eX10_addRelation_31 : sl_D YX10_addRelation 31 (.return_) 1 32 := ⟨by decide +kernel, rfl⟩
theorem eX10_between_0 : sl_D YX10_between 0 (.aload_n 0) 1 1 := ⟨by decide +kernel, rfl⟩
theorem eX10_between_1 : sl_D YX10_between 1 (.getfield 18) 3 4 := ⟨by decide +kernel, rfl⟩
theorem eX10_between_4 : sl_D YX10_between 4 (.iload_n 1) 1 5 := ⟨by decide +kernel, rfl⟩
theorem eX10_between_5 : sl_D YX10_between 5 (.bipush 12) 2 7 := ⟨by decide +kernel, rfl⟩
theorem eX10_between_7 : sl_D YX10_between 7 (.imul) 1 8 := ⟨by decide +kernel, rfl⟩
theorem eX10_between_8 : sl_D YX10_between 8 (.iload_n 2) 1 9 := ⟨by decide +kernel, rfl⟩
theorem eX10_between_9 : sl_D YX10_between 9 (.iadd) 1 10 := ⟨by decide +kernel, rfl⟩
theorem eX10_between_10 : sl_D YX10_between 10 (.iaload) 1 11 := ⟨by decide +kernel, rfl⟩
theorem eX10_between_11 : sl_D YX10_between 11 (.ireturn) 1 12 := ⟨by decide +kernel, rfl⟩
theorem eX10_countOf_0 : sl_D YX10_countOf 0 (.iconst 0) 1 1 := ⟨by decide +kernel, rfl⟩
theorem eX10_countOf_1 : sl_D YX10_countOf 1 (.istore_n 2) 1 2 := ⟨by decide +kernel, rfl⟩
theorem eX10_countOf_2 : sl_D YX10_countOf 2 (.iconst 0) 1 3 := ⟨by decide +kernel, rfl⟩
theorem eX10_countOf_3 : sl_D YX10_countOf 3 (.istore_n 3) 1 4 := ⟨by decide +kernel, rfl⟩
theorem eX10_countOf_4 : sl_D YX10_countOf 4 (.iload_n 3) 1 5 := ⟨by decide +kernel, rfl⟩
theorem eX10_countOf_5 : sl_D YX10_countOf 5 (.sipush 144) 3 8 := ⟨by decide +kernel, rfl⟩
theorem eX10_countOf_8 : sl_B YX10_countOf 8 (fun o => .if_icmp .ge o) 11 31 := ⟨23, by decide +kernel, rfl, by decide⟩
theorem eX10_countOf_11 : sl_D YX10_countOf 11 (.aload_n 0) 1 12 := ⟨by decide +kernel, rfl⟩
theorem eX10_countOf_12 : sl_D YX10_countOf 12 (.getfield 18) 3 15 := ⟨by decide +kernel, rfl⟩
theorem eX10_countOf_15 : sl_D YX10_countOf 15 (.iload_n 3) 1 16 := ⟨by decide +kernel, rfl⟩
theorem eX10_countOf_16 : sl_D YX10_countOf 16 (.iaload) 1 17 := ⟨by decide +kernel, rfl⟩
theorem eX10_countOf_17 : sl_D YX10_countOf 17 (.iload_n 1) 1 18 := ⟨by decide +kernel, rfl⟩
theorem eX10_countOf_18 : sl_D YX10_countOf 18 (.iand) 1 19 := ⟨by decide +kernel, rfl⟩
theorem eX10_countOf_19 : sl_B YX10_countOf 19 (fun o => .ifCond .eq o) 22 25 := ⟨6, by decide +kernel, rfl, by decide⟩
theorem eX10_countOf_22 : sl_D YX10_countOf 22 (.iinc 2 1) 3 25 := ⟨by decide +kernel, rfl⟩
theorem eX10_countOf_25 : sl_D YX10_countOf 25 (.iinc 3 1) 3 28 := ⟨by decide +kernel, rfl⟩
theorem eX10_countOf_28 : sl_B YX10_countOf 28 (fun o => .goto o) 31 4 := ⟨-24, by decide +kernel, rfl, by decide⟩
theorem eX10_countOf_31 : sl_D YX10_countOf 31 (.iload_n 2) 1 32 := ⟨by decide +kernel, rfl⟩
theorem eX10_countOf_32 : sl_D YX10_countOf 32 (.ireturn) 1 33 := ⟨by decide +kernel, rfl⟩
theorem eX10_isClash_0 : sl_D YX10_isClash 0 (.aload_n 0) 1 1 := ⟨by decide +kernel, rfl⟩
theorem eX10_isClash_1 : sl_D YX10_isClash 1 (.getfield 18) 3 4 := ⟨by decide +kernel, rfl⟩
theorem eX10_isClash_4 : sl_D YX10_isClash 4 (.iload_n 1) 1 5 := ⟨by decide +kernel, rfl⟩
theorem eX10_isClash_5 : sl_D YX10_isClash 5 (.iaload) 1 6 := ⟨by decide +kernel, rfl⟩
theorem eX10_isClash_6 : sl_D YX10_isClash 6 (.invokestatic 85) 3 9 := ⟨by decide +kernel, rfl⟩
theorem eX10_isClash_9 : sl_D YX10_isClash 9 (.iconst 1) 1 10 := ⟨by decide +kernel, rfl⟩
theorem eX10_isClash_10 : sl_B YX10_isClash 10 (fun o => .if_icmp .le o) 13 17 := ⟨7, by decide +kernel, rfl, by decide⟩
theorem eX10_isClash_13 : sl_D YX10_isClash 13 (.iconst 1) 1 14 := ⟨by decide +kernel, rfl⟩
theorem eX10_isClash_14 : sl_B YX10_isClash 14 (fun o => .goto o) 17 18 := ⟨4, by decide +kernel, rfl, by decide⟩
theorem eX10_isClash_17 : sl_D YX10_isClash 17 (.iconst 0) 1 18 := ⟨by decide +kernel, rfl⟩
theorem eX10_isClash_18 : sl_D YX10_isClash 18 (.ireturn) 1 19 := ⟨by decide +kernel, rfl⟩
theorem eX10_clashCount_0 : sl_D YX10_clashCount 0 (.iconst 0) 1 1 := ⟨by decide +kernel, rfl⟩
theorem eX10_clashCount_1 : sl_D YX10_clashCount 1 (.istore_n 1) 1 2 := ⟨by decide +kernel, rfl⟩
theorem eX10_clashCount_2 : sl_D YX10_clashCount 2 (.iconst 0) 1 3 := ⟨by decide +kernel, rfl⟩
theorem eX10_clashCount_3 : sl_D YX10_clashCount 3 (.istore_n 2) 1 4 := ⟨by decide +kernel, rfl⟩
theorem eX10_clashCount_4 : sl_D YX10_clashCount 4 (.iload_n 2) 1 5 := ⟨by decide +kernel, rfl⟩
theorem eX10_clashCount_5 : sl_D YX10_clashCount 5 (.sipush 144) 3 8 := ⟨by decide +kernel, rfl⟩
theorem eX10_clashCount_8 : sl_B YX10_clashCount 8 (fun o => .if_icmp .ge o) 11 28 := ⟨20, by decide +kernel, rfl, by decide⟩
theorem eX10_clashCount_11 : sl_D YX10_clashCount 11 (.aload_n 0) 1 12 := ⟨by decide +kernel, rfl⟩
theorem eX10_clashCount_12 : sl_D YX10_clashCount 12 (.iload_n 2) 1 13 := ⟨by decide +kernel, rfl⟩
theorem eX10_clashCount_13 : sl_D YX10_clashCount 13 (.invokevirtual 91) 3 16 := ⟨by decide +kernel, rfl⟩
theorem eX10_clashCount_16 : sl_B YX10_clashCount 16 (fun o => .ifCond .eq o) 19 22 := ⟨6, by decide +kernel, rfl, by decide⟩
theorem eX10_clashCount_19 : sl_D YX10_clashCount 19 (.iinc 1 1) 3 22 := ⟨by decide +kernel, rfl⟩
theorem eX10_clashCount_22 : sl_D YX10_clashCount 22 (.iinc 2 1) 3 25 := ⟨by decide +kernel, rfl⟩
theorem eX10_clashCount_25 : sl_B YX10_clashCount 25 (fun o => .goto o) 28 4 := ⟨-21, by decide +kernel, rfl, by decide⟩
theorem eX10_clashCount_28 : sl_D YX10_clashCount 28 (.iload_n 1) 1 29 := ⟨by decide +kernel, rfl⟩
theorem eX10_clashCount_29 : sl_D YX10_clashCount 29 (.ireturn) 1 30 := ⟨by decide +kernel, rfl⟩
theorem eX10_clashAt_0 : sl_D YX10_clashAt 0 (.iload_n 1) 1 1 := ⟨by decide +kernel, rfl⟩
theorem eX10_clashAt_1 : sl_D YX10_clashAt 1 (.istore_n 2) 1 2 := ⟨by decide +kernel, rfl⟩
theorem eX10_clashAt_2 : sl_D YX10_clashAt 2 (.iconst 0) 1 3 := ⟨by decide +kernel, rfl⟩
theorem eX10_clashAt_3 : sl_D YX10_clashAt 3 (.istore_n 3) 1 4 := ⟨by decide +kernel, rfl⟩
theorem eX10_clashAt_4 : sl_D YX10_clashAt 4 (.iload_n 3) 1 5 := ⟨by decide +kernel, rfl⟩
theorem eX10_clashAt_5 : sl_D YX10_clashAt 5 (.sipush 144) 3 8 := ⟨by decide +kernel, rfl⟩
theorem eX10_clashAt_8 : sl_B YX10_clashAt 8 (fun o => .if_icmp .ge o) 11 45 := ⟨37, by decide +kernel, rfl, by decide⟩
theorem eX10_clashAt_11 : sl_D YX10_clashAt 11 (.aload_n 0) 1 12 := ⟨by decide +kernel, rfl⟩
theorem eX10_clashAt_12 : sl_D YX10_clashAt 12 (.iload_n 3) 1 13 := ⟨by decide +kernel, rfl⟩
theorem eX10_clashAt_13 : sl_D YX10_clashAt 13 (.invokevirtual 91) 3 16 := ⟨by decide +kernel, rfl⟩
theorem eX10_clashAt_16 : sl_B YX10_clashAt 16 (fun o => .ifCond .eq o) 19 39 := ⟨23, by decide +kernel, rfl, by decide⟩
theorem eX10_clashAt_19 : sl_D YX10_clashAt 19 (.iload_n 2) 1 20 := ⟨by decide +kernel, rfl⟩
theorem eX10_clashAt_20 : sl_B YX10_clashAt 20 (fun o => .ifCond .ne o) 23 36 := ⟨16, by decide +kernel, rfl, by decide⟩
theorem eX10_clashAt_23 : sl_D YX10_clashAt 23 (.iload_n 3) 1 24 := ⟨by decide +kernel, rfl⟩
theorem eX10_clashAt_24 : sl_D YX10_clashAt 24 (.bipush 12) 2 26 := ⟨by decide +kernel, rfl⟩
theorem eX10_clashAt_26 : sl_D YX10_clashAt 26 (.idiv) 1 27 := ⟨by decide +kernel, rfl⟩
theorem eX10_clashAt_27 : sl_D YX10_clashAt 27 (.bipush 16) 2 29 := ⟨by decide +kernel, rfl⟩
theorem eX10_clashAt_29 : sl_D YX10_clashAt 29 (.imul) 1 30 := ⟨by decide +kernel, rfl⟩
theorem eX10_clashAt_30 : sl_D YX10_clashAt 30 (.iload_n 3) 1 31 := ⟨by decide +kernel, rfl⟩
theorem eX10_clashAt_31 : sl_D YX10_clashAt 31 (.bipush 12) 2 33 := ⟨by decide +kernel, rfl⟩
theorem eX10_clashAt_33 : sl_D YX10_clashAt 33 (.irem) 1 34 := ⟨by decide +kernel, rfl⟩
theorem eX10_clashAt_34 : sl_D YX10_clashAt 34 (.iadd) 1 35 := ⟨by decide +kernel, rfl⟩
theorem eX10_clashAt_35 : sl_D YX10_clashAt 35 (.ireturn) 1 36 := ⟨by decide +kernel, rfl⟩
theorem eX10_clashAt_36 : sl_D YX10_clashAt 36 (.iinc 2 (-1)) 3 39 := ⟨by decide +kernel, rfl⟩
theorem eX10_clashAt_39 : sl_D YX10_clashAt 39 (.iinc 3 1) 3 42 := ⟨by decide +kernel, rfl⟩
theorem eX10_clashAt_42 : sl_B YX10_clashAt 42 (fun o => .goto o) 45 4 := ⟨-38, by decide +kernel, rfl, by decide⟩
theorem eX10_clashAt_45 : sl_D YX10_clashAt 45 (.iconst (-1)) 1 46 := ⟨by decide +kernel, rfl⟩
theorem eX10_clashAt_46 : sl_D YX10_clashAt 46 (.ireturn) 1 47 := ⟨by decide +kernel, rfl⟩
theorem eX11_init_0 : sl_D YX11_init 0 (.aload_n 0) 1 1 := ⟨by decide +kernel, rfl⟩
theorem eX11_init_1 : sl_D YX11_init 1 (.invokespecial 1) 3 4 := ⟨by decide +kernel, rfl⟩
theorem eX11_init_4 : sl_D YX11_init 4 (.aload_n 0) 1 5 := ⟨by decide +kernel, rfl⟩
theorem eX11_init_5 : sl_D YX11_init 5 (.sipush 900) 3 8 := ⟨by decide +kernel, rfl⟩
theorem eX11_init_8 : sl_D YX11_init 8 (.newarray .byte) 2 10 := ⟨by decide +kernel, rfl⟩
theorem eX11_init_10 : sl_D YX11_init 10 (.putfield 9) 3 13 := ⟨by decide +kernel, rfl⟩
theorem eX11_init_13 : sl_D YX11_init 13 (.aload_n 0) 1 14 := ⟨by decide +kernel, rfl⟩
theorem eX11_init_14 : sl_D YX11_init 14 (.new 13) 3 17 := ⟨by decide +kernel, rfl⟩
theorem eX11_init_17 : sl_D YX11_init 17 (.dup) 1 18 := ⟨by decide +kernel, rfl⟩
theorem eX11_init_18 : sl_D YX11_init 18 (.invokespecial 15) 3 21 := ⟨by decide +kernel, rfl⟩
theorem eX11_init_21 : sl_D YX11_init 21 (.putfield 16) 3 24 := ⟨by decide +kernel, rfl⟩
theorem eX11_init_24 : sl_D YX11_init 24 (.aload_n 0) 1 25 := ⟨by decide +kernel, rfl⟩
theorem eX11_init_25 : sl_D YX11_init 25 (.new 13) 3 28 := ⟨by decide +kernel, rfl⟩
theorem eX11_init_28 : sl_D YX11_init 28 (.dup) 1 29 := ⟨by decide +kernel, rfl⟩
theorem eX11_init_29 : sl_D YX11_init 29 (.invokespecial 15) 3 32 := ⟨by decide +kernel, rfl⟩
theorem eX11_init_32 : sl_D YX11_init 32 (.putfield 20) 3 35 := ⟨by decide +kernel, rfl⟩
theorem eX11_init_35 : sl_D YX11_init 35 (.aload_n 0) 1 36 := ⟨by decide +kernel, rfl⟩
theorem eX11_init_36 : sl_D YX11_init 36 (.new 23) 3 39 := ⟨by decide +kernel, rfl⟩
theorem eX11_init_39 : sl_D YX11_init 39 (.dup) 1 40 := ⟨by decide +kernel, rfl⟩
theorem eX11_init_40 : sl_D YX11_init 40 (.invokespecial 25) 3 43 := ⟨by decide +kernel, rfl⟩
theorem eX11_init_43 : sl_D YX11_init 43 (.putfield 26) 3 46 := ⟨by decide +kernel, rfl⟩
theorem eX11_init_46 : sl_D YX11_init 46 (.aload_n 0) 1 47 := ⟨by decide +kernel, rfl⟩
theorem eX11_init_47 : sl_D YX11_init 47 (.new 30) 3 50 := ⟨by decide +kernel, rfl⟩
theorem eX11_init_50 : sl_D YX11_init 50 (.dup) 1 51 := ⟨by decide +kernel, rfl⟩
theorem eX11_init_51 : sl_D YX11_init 51 (.invokespecial 32) 3 54 := ⟨by decide +kernel, rfl⟩
theorem eX11_init_54 : sl_D YX11_init 54 (.putfield 33) 3 57 := ⟨by decide +kernel, rfl⟩
theorem eX11_init_57 : sl_D YX11_init 57 (.aload_n 0) 1 58 := ⟨by decide +kernel, rfl⟩
theorem eX11_init_58 : sl_D YX11_init 58 (.new 37) 3 61 := ⟨by decide +kernel, rfl⟩
theorem eX11_init_61 : sl_D YX11_init 61 (.dup) 1 62 := ⟨by decide +kernel, rfl⟩
theorem eX11_init_62 : sl_D YX11_init 62 (.invokespecial 39) 3 65 := ⟨by decide +kernel, rfl⟩
theorem eX11_init_65 : sl_D YX11_init 65 (.putfield 40) 3 68 := ⟨by decide +kernel, rfl⟩
theorem eX11_init_68 : sl_D YX11_init 68 (.aload_n 0) 1 69 := ⟨by decide +kernel, rfl⟩
theorem eX11_init_69 : sl_D YX11_init 69 (.new 44) 3 72 := ⟨by decide +kernel, rfl⟩
theorem eX11_init_72 : sl_D YX11_init 72 (.dup) 1 73 := ⟨by decide +kernel, rfl⟩
theorem eX11_init_73 : sl_D YX11_init 73 (.invokespecial 46) 3 76 := ⟨by decide +kernel, rfl⟩
theorem eX11_init_76 : sl_D YX11_init 76 (.putfield 47) 3 79 := ⟨by decide +kernel, rfl⟩
theorem eX11_init_79 : sl_D YX11_init 79 (.aload_n 0) 1 80 := ⟨by decide +kernel, rfl⟩
theorem eX11_init_80 : sl_D YX11_init 80 (.new 51) 3 83 := ⟨by decide +kernel, rfl⟩
theorem eX11_init_83 : sl_D YX11_init 83 (.dup) 1 84 := ⟨by decide +kernel, rfl⟩
theorem eX11_init_84 : sl_D YX11_init 84 (.invokespecial 53) 3 87 := ⟨by decide +kernel, rfl⟩
theorem eX11_init_87 : sl_D YX11_init 87 (.putfield 54) 3 90 := ⟨by decide +kernel, rfl⟩
theorem eX11_init_90 : sl_D YX11_init 90 (.aload_n 0) 1 91 := ⟨by decide +kernel, rfl⟩
theorem eX11_init_91 : sl_D YX11_init 91 (.new 58) 3 94 := ⟨by decide +kernel, rfl⟩
theorem eX11_init_94 : sl_D YX11_init 94 (.dup) 1 95 := ⟨by decide +kernel, rfl⟩
theorem eX11_init_95 : sl_D YX11_init 95 (.invokespecial 60) 3 98 := ⟨by decide +kernel, rfl⟩
theorem eX11_init_98 : sl_D YX11_init 98 (.putfield 61) 3 101 := ⟨by decide +kernel, rfl⟩
theorem eX11_init_101 : sl_D YX11_init 101 (.aload_n 0) 1 102 := ⟨by decide +kernel, rfl⟩
theorem eX11_init_102 : sl_D YX11_init 102 (.new 58) 3 105 := ⟨by decide +kernel, rfl⟩
theorem eX11_init_105 : sl_D YX11_init 105 (.dup) 1 106 := ⟨by decide +kernel, rfl⟩
theorem eX11_init_106 : sl_D YX11_init 106 (.invokespecial 60) 3 109 := ⟨by decide +kernel, rfl⟩
theorem eX11_init_109 : sl_D YX11_init 109 (.putfield 65) 3 112 := ⟨by decide +kernel, rfl⟩
theorem eX11_init_112 : sl_D YX11_init 112 (.return_) 1 113 := ⟨by decide +kernel, rfl⟩
theorem eX11_feed_0 : sl_D YX11_feed 0 (.aload_n 0) 1 1 := ⟨by decide +kernel, rfl⟩
theorem eX11_feed_1 : sl_D YX11_feed 1 (.getfield 68) 3 4 := ⟨by decide +kernel, rfl⟩
theorem eX11_feed_4 : sl_D YX11_feed 4 (.bipush 20) 2 6 := ⟨by decide +kernel, rfl⟩
theorem eX11_feed_6 : sl_D YX11_feed 6 (.iadd) 1 7 := ⟨by decide +kernel, rfl⟩
theorem eX11_feed_7 : sl_D YX11_feed 7 (.sipush 900) 3 10 := ⟨by decide +kernel, rfl⟩
theorem eX11_feed_10 : sl_B YX11_feed 10 (fun o => .if_icmp .le o) 13 15 := ⟨5, by decide +kernel, rfl, by decide⟩
theorem eX11_feed_13 : sl_D YX11_feed 13 (.iconst (-1)) 1 14 := ⟨by decide +kernel, rfl⟩
theorem eX11_feed_14 : sl_D YX11_feed 14 (.ireturn) 1 15 := ⟨by decide +kernel, rfl⟩
theorem eX11_feed_15 : sl_D YX11_feed 15 (.aload_n 0) 1 16 := ⟨by decide +kernel, rfl⟩
theorem eX11_feed_16 : sl_D YX11_feed 16 (.iload_n 1) 1 17 := ⟨by decide +kernel, rfl⟩
theorem eX11_feed_17 : sl_D YX11_feed 17 (.invokevirtual 72) 3 20 := ⟨by decide +kernel, rfl⟩
theorem eX11_feed_20 : sl_D YX11_feed 20 (.aload_n 0) 1 21 := ⟨by decide +kernel, rfl⟩
theorem eX11_feed_21 : sl_D YX11_feed 21 (.iload_n 2) 1 22 := ⟨by decide +kernel, rfl⟩
theorem eX11_feed_22 : sl_D YX11_feed 22 (.invokevirtual 72) 3 25 := ⟨by decide +kernel, rfl⟩
theorem eX11_feed_25 : sl_D YX11_feed 25 (.aload_n 0) 1 26 := ⟨by decide +kernel, rfl⟩
theorem eX11_feed_26 : sl_D YX11_feed 26 (.iload_n 3) 1 27 := ⟨by decide +kernel, rfl⟩
theorem eX11_feed_27 : sl_D YX11_feed 27 (.invokevirtual 72) 3 30 := ⟨by decide +kernel, rfl⟩
theorem eX11_feed_30 : sl_D YX11_feed 30 (.aload_n 0) 1 31 := ⟨by decide +kernel, rfl⟩
theorem eX11_feed_31 : sl_D YX11_feed 31 (.iload 4) 2 33 := ⟨by decide +kernel, rfl⟩
theorem eX11_feed_33 : sl_D YX11_feed 33 (.invokevirtual 72) 3 36 := ⟨by decide +kernel, rfl⟩
theorem eX11_feed_36 : sl_D YX11_feed 36 (.aload_n 0) 1 37 := ⟨by decide +kernel, rfl⟩
theorem eX11_feed_37 : sl_D YX11_feed 37 (.iload 5) 2 39 := ⟨by decide +kernel, rfl⟩
theorem eX11_feed_39 : sl_D YX11_feed 39 (.invokevirtual 72) 3 42 := ⟨by decide +kernel, rfl⟩
theorem eX11_feed_42 : sl_D YX11_feed 42 (.aload_n 0) 1 43 := ⟨by decide +kernel, rfl⟩
theorem eX11_feed_43 : sl_D YX11_feed 43 (.getfield 68) 3 46 := ⟨by decide +kernel, rfl⟩
theorem eX11_feed_46 : sl_D YX11_feed 46 (.ireturn) 1 47 := ⟨by decide +kernel, rfl⟩
theorem eX11_grammar_0 : sl_D YX11_grammar 0 (.iload_n 1) 1 1 := ⟨by decide +kernel, rfl⟩
theorem eX11_grammar_1 : sl_B YX11_grammar 1 (fun o => .ifCond .lt o) 4 12 := ⟨11, by decide +kernel, rfl, by decide⟩
theorem eX11_grammar_4 : sl_D YX11_grammar 4 (.iload_n 1) 1 5 := ⟨by decide +kernel, rfl⟩
theorem eX11_grammar_5 : sl_D YX11_grammar 5 (.aload_n 0) 1 6 := ⟨by decide +kernel, rfl⟩
theorem eX11_grammar_6 : sl_D YX11_grammar 6 (.getfield 68) 3 9 := ⟨by decide +kernel, rfl⟩
theorem eX11_grammar_9 : sl_B YX11_grammar 9 (fun o => .if_icmp .le o) 12 18 := ⟨9, by decide +kernel, rfl, by decide⟩
theorem eX11_grammar_12 : sl_D YX11_grammar 12 (.aload_n 0) 1 13 := ⟨by decide +kernel, rfl⟩
theorem eX11_grammar_13 : sl_D YX11_grammar 13 (.iconst 2) 1 14 := ⟨by decide +kernel, rfl⟩
theorem eX11_grammar_14 : sl_D YX11_grammar 14 (.invokevirtual 76) 3 17 := ⟨by decide +kernel, rfl⟩
theorem eX11_grammar_17 : sl_D YX11_grammar 17 (.ireturn) 1 18 := ⟨by decide +kernel, rfl⟩
theorem eX11_grammar_18 : sl_D YX11_grammar 18 (.aload_n 0) 1 19 := ⟨by decide +kernel, rfl⟩
theorem eX11_grammar_19 : sl_D YX11_grammar 19 (.getfield 26) 3 22 := ⟨by decide +kernel, rfl⟩
theorem eX11_grammar_22 : sl_D YX11_grammar 22 (.aload_n 0) 1 23 := ⟨by decide +kernel, rfl⟩
theorem eX11_grammar_23 : sl_D YX11_grammar 23 (.getfield 9) 3 26 := ⟨by decide +kernel, rfl⟩
theorem eX11_grammar_26 : sl_D YX11_grammar 26 (.iload_n 1) 1 27 := ⟨by decide +kernel, rfl⟩
theorem eX11_grammar_27 : sl_D YX11_grammar 27 (.aload_n 0) 1 28 := ⟨by decide +kernel, rfl⟩
theorem eX11_grammar_28 : sl_D YX11_grammar 28 (.getfield 20) 3 31 := ⟨by decide +kernel, rfl⟩
theorem eX11_grammar_31 : sl_D YX11_grammar 31 (.invokevirtual 80) 3 34 := ⟨by decide +kernel, rfl⟩
theorem eX11_grammar_34 : sl_D YX11_grammar 34 (.aload_n 0) 1 35 := ⟨by decide +kernel, rfl⟩
theorem eX11_grammar_35 : sl_D YX11_grammar 35 (.iconst 0) 1 36 := ⟨by decide +kernel, rfl⟩
theorem eX11_grammar_36 : sl_D YX11_grammar 36 (.putfield 68) 3 39 := ⟨by decide +kernel, rfl⟩
theorem eX11_grammar_39 : sl_D YX11_grammar 39 (.aload_n 0) 1 40 := ⟨by decide +kernel, rfl⟩
theorem eX11_grammar_40 : sl_D YX11_grammar 40 (.aload_n 0) 1 41 := ⟨by decide +kernel, rfl⟩
theorem eX11_grammar_41 : sl_D YX11_grammar 41 (.getfield 26) 3 44 := ⟨by decide +kernel, rfl⟩
theorem eX11_grammar_44 : sl_D YX11_grammar 44 (.getfield 84) 3 47 := ⟨by decide +kernel, rfl⟩
theorem eX11_grammar_47 : sl_D YX11_grammar 47 (.putfield 87) 3 50 := ⟨by decide +kernel, rfl⟩
theorem eX11_grammar_50 : sl_D YX11_grammar 50 (.aload_n 0) 1 51 := ⟨by decide +kernel, rfl⟩
theorem eX11_grammar_51 : sl_D YX11_grammar 51 (.getfield 87) 3 54 := ⟨by decide +kernel, rfl⟩
theorem eX11_grammar_54 : sl_B YX11_grammar 54 (fun o => .ifCond .eq o) 57 70 := ⟨16, by decide +kernel, rfl, by decide⟩
theorem eX11_grammar_57 : sl_D YX11_grammar 57 (.aload_n 0) 1 58 := ⟨by decide +kernel, rfl⟩
theorem eX11_grammar_58 : sl_D YX11_grammar 58 (.iconst 4) 1 59 := ⟨by decide +kernel, rfl⟩
theorem eX11_grammar_59 : sl_D YX11_grammar 59 (.aload_n 0) 1 60 := ⟨by decide +kernel, rfl⟩
theorem eX11_grammar_60 : sl_D YX11_grammar 60 (.getfield 26) 3 63 := ⟨by decide +kernel, rfl⟩
theorem eX11_grammar_63 : sl_D YX11_grammar 63 (.getfield 90) 3 66 := ⟨by decide +kernel, rfl⟩
theorem eX11_grammar_66 : sl_D YX11_grammar 66 (.invokevirtual 93) 3 69 := ⟨by decide +kernel, rfl⟩
theorem eX11_grammar_69 : sl_D YX11_grammar 69 (.ireturn) 1 70 := ⟨by decide +kernel, rfl⟩
theorem eX11_grammar_70 : sl_D YX11_grammar 70 (.aload_n 0) 1 71 := ⟨by decide +kernel, rfl⟩
theorem eX11_grammar_71 : sl_D YX11_grammar 71 (.getfield 16) 3 74 := ⟨by decide +kernel, rfl⟩
theorem eX11_grammar_74 : sl_D YX11_grammar 74 (.astore_n 2) 1 75 := ⟨by decide +kernel, rfl⟩
theorem eX11_grammar_75 : sl_D YX11_grammar 75 (.aload_n 0) 1 76 := ⟨by decide +kernel, rfl⟩
theorem eX11_grammar_76 : sl_D YX11_grammar 76 (.aload_n 0) 1 77 := ⟨by decide +kernel, rfl⟩
theorem eX11_grammar_77 : sl_D YX11_grammar 77 (.getfield 20) 3 80 := ⟨by decide +kernel, rfl⟩
theorem eX11_grammar_80 : sl_D YX11_grammar 80 (.putfield 16) 3 83 := ⟨by decide +kernel, rfl⟩
theorem eX11_grammar_83 : sl_D YX11_grammar 83 (.aload_n 0) 1 84 := ⟨by decide +kernel, rfl⟩
theorem eX11_grammar_84 : sl_D YX11_grammar 84 (.aload_n 2) 1 85 := ⟨by decide +kernel, rfl⟩
theorem eX11_grammar_85 : sl_D YX11_grammar 85 (.putfield 20) 3 88 := ⟨by decide +kernel, rfl⟩
theorem eX11_grammar_88 : sl_D YX11_grammar 88 (.aload_n 0) 1 89 := ⟨by decide +kernel, rfl⟩
theorem eX11_grammar_89 : sl_D YX11_grammar 89 (.iconst 1) 1 90 := ⟨by decide +kernel, rfl⟩
theorem eX11_grammar_90 : sl_D YX11_grammar 90 (.putfield 97) 3 93 := ⟨by decide +kernel, rfl⟩
theorem eX11_grammar_93 : sl_D YX11_grammar 93 (.aload_n 0) 1 94 := ⟨by decide +kernel, rfl⟩
theorem eX11_grammar_94 : sl_D YX11_grammar 94 (.getfield 47) 3 97 := ⟨by decide +kernel, rfl⟩
theorem eX11_grammar_97 : sl_D YX11_grammar 97 (.invokevirtual 101) 3 100 := ⟨by decide +kernel, rfl⟩
theorem eX11_grammar_100 : sl_D YX11_grammar 100 (.aload_n 0) 1 101 := ⟨by decide +kernel, rfl⟩
theorem eX11_grammar_101 : sl_D YX11_grammar 101 (.invokevirtual 104) 3 104 := ⟨by decide +kernel, rfl⟩
theorem eX11_grammar_104 : sl_D YX11_grammar 104 (.aload_n 0) 1 105 := ⟨by decide +kernel, rfl⟩
theorem eX11_grammar_105 : sl_D YX11_grammar 105 (.aload_n 0) 1 106 := ⟨by decide +kernel, rfl⟩
theorem eX11_grammar_106 : sl_D YX11_grammar 106 (.getfield 16) 3 109 := ⟨by decide +kernel, rfl⟩
theorem eX11_grammar_109 : sl_D YX11_grammar 109 (.getfield 107) 3 112 := ⟨by decide +kernel, rfl⟩
theorem eX11_grammar_112 : sl_D YX11_grammar 112 (.invokevirtual 110) 3 115 := ⟨by decide +kernel, rfl⟩
theorem eX11_grammar_115 : sl_D YX11_grammar 115 (.ireturn) 1 116 := ⟨by decide +kernel, rfl⟩
theorem eX11_fault_0 : sl_D YX11_fault 0 (.aload_n 0) 1 1 := ⟨by decide +kernel, rfl⟩
theorem eX11_fault_1 : sl_D YX11_fault 1 (.getfield 87) 3 4 := ⟨by decide +kernel, rfl⟩
theorem eX11_fault_4 : sl_D YX11_fault 4 (.ireturn) 1 5 := ⟨by decide +kernel, rfl⟩
theorem eX11_where_0 : sl_D YX11_where 0 (.aload_n 0) 1 1 := ⟨by decide +kernel, rfl⟩
theorem eX11_where_1 : sl_D YX11_where 1 (.getfield 113) 3 4 := ⟨by decide +kernel, rfl⟩
theorem eX11_where_4 : sl_D YX11_where 4 (.iconst 4) 1 5 := ⟨by decide +kernel, rfl⟩
theorem eX11_where_5 : sl_B YX11_where 5 (fun o => .if_icmp .eq o) 8 17 := ⟨12, by decide +kernel, rfl, by decide⟩
theorem eX11_where_8 : sl_D YX11_where 8 (.aload_n 0) 1 9 := ⟨by decide +kernel, rfl⟩
theorem eX11_where_9 : sl_D YX11_where 9 (.getfield 113) 3 12 := ⟨by decide +kernel, rfl⟩
theorem eX11_where_12 : sl_D YX11_where 12 (.bipush 6) 2 14 := ⟨by decide +kernel, rfl⟩
theorem eX11_where_14 : sl_B YX11_where 14 (fun o => .if_icmp .ne o) 17 24 := ⟨10, by decide +kernel, rfl, by decide⟩
theorem eX11_where_17 : sl_D YX11_where 17 (.aload_n 0) 1 18 := ⟨by decide +kernel, rfl⟩
theorem eX11_where_18 : sl_D YX11_where 18 (.getfield 116) 3 21 := ⟨by decide +kernel, rfl⟩
theorem eX11_where_21 : sl_B YX11_where 21 (fun o => .goto o) 24 25 := ⟨4, by decide +kernel, rfl, by decide⟩
theorem eX11_where_24 : sl_D YX11_where 24 (.iconst (-1)) 1 25 := ⟨by decide +kernel, rfl⟩
theorem eX11_where_25 : sl_D YX11_where 25 (.ireturn) 1 26 := ⟨by decide +kernel, rfl⟩
theorem eX11_about_0 : sl_D YX11_about 0 (.aload_n 0) 1 1 := ⟨by decide +kernel, rfl⟩
theorem eX11_about_1 : sl_D YX11_about 1 (.getfield 97) 3 4 := ⟨by decide +kernel, rfl⟩
theorem eX11_about_4 : sl_B YX11_about 4 (fun o => .ifCond .ne o) 7 13 := ⟨9, by decide +kernel, rfl, by decide⟩
theorem eX11_about_7 : sl_D YX11_about 7 (.aload_n 0) 1 8 := ⟨by decide +kernel, rfl⟩
theorem eX11_about_8 : sl_D YX11_about 8 (.iconst 1) 1 9 := ⟨by decide +kernel, rfl⟩
theorem eX11_about_9 : sl_D YX11_about 9 (.invokevirtual 76) 3 12 := ⟨by decide +kernel, rfl⟩
theorem eX11_about_12 : sl_D YX11_about 12 (.ireturn) 1 13 := ⟨by decide +kernel, rfl⟩
theorem eX11_about_13 : sl_D YX11_about 13 (.iload_n 1) 1 14 := ⟨by decide +kernel, rfl⟩
theorem eX11_about_14 : decode YX11_about.2.1 14 = .ok (.tableswitch 78 0 3 #[30, 42, 54, 66], 30) := by decide +kernel
theorem eX11_about_44 : sl_D YX11_about 44 (.aload_n 0) 1 45 := ⟨by decide +kernel, rfl⟩
theorem eX11_about_45 : sl_D YX11_about 45 (.aload_n 0) 1 46 := ⟨by decide +kernel, rfl⟩
theorem eX11_about_46 : sl_D YX11_about 46 (.getfield 16) 3 49 := ⟨by decide +kernel, rfl⟩
theorem eX11_about_49 : sl_D YX11_about 49 (.getfield 119) 3 52 := ⟨by decide +kernel, rfl⟩
theorem eX11_about_52 : sl_D YX11_about 52 (.invokevirtual 110) 3 55 := ⟨by decide +kernel, rfl⟩
theorem eX11_about_55 : sl_D YX11_about 55 (.ireturn) 1 56 := ⟨by decide +kernel, rfl⟩
theorem eX11_about_56 : sl_D YX11_about 56 (.aload_n 0) 1 57 := ⟨by decide +kernel, rfl⟩
theorem eX11_about_57 : sl_D YX11_about 57 (.aload_n 0) 1 58 := ⟨by decide +kernel, rfl⟩
theorem eX11_about_58 : sl_D YX11_about 58 (.getfield 16) 3 61 := ⟨by decide +kernel, rfl⟩
theorem eX11_about_61 : sl_D YX11_about 61 (.getfield 107) 3 64 := ⟨by decide +kernel, rfl⟩
theorem eX11_about_64 : sl_D YX11_about 64 (.invokevirtual 110) 3 67 := ⟨by decide +kernel, rfl⟩
theorem eX11_about_67 : sl_D YX11_about 67 (.ireturn) 1 68 := ⟨by decide +kernel, rfl⟩
theorem eX11_about_68 : sl_D YX11_about 68 (.aload_n 0) 1 69 := ⟨by decide +kernel, rfl⟩
theorem eX11_about_69 : sl_D YX11_about 69 (.aload_n 0) 1 70 := ⟨by decide +kernel, rfl⟩
