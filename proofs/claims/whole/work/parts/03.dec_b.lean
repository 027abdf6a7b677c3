theorem dX2_init_0 : decode cX2_init 0 = .ok (.aload_n 0, 1) := by decide +kernel
theorem dX2_init_1 : decode cX2_init 1 = .ok (.invokespecial 1, 3) := by decide +kernel
theorem dX2_init_4 : decode cX2_init 4 = .ok (.aload_n 0, 1) := by decide +kernel
theorem dX2_init_5 : decode cX2_init 5 = .ok (.iconst 3, 1) := by decide +kernel
theorem dX2_init_6 : decode cX2_init 6 = .ok (.newarray .int, 2) := by decide +kernel
theorem dX2_init_8 : decode cX2_init 8 = .ok (.putfield 7, 3) := by decide +kernel
theorem dX2_init_11 : decode cX2_init 11 = .ok (.aload_n 0, 1) := by decide +kernel
theorem dX2_init_12 : decode cX2_init 12 = .ok (.iconst 3, 1) := by decide +kernel
theorem dX2_init_13 : decode cX2_init 13 = .ok (.newarray .int, 2) := by decide +kernel
theorem dX2_init_15 : decode cX2_init 15 = .ok (.putfield 13, 3) := by decide +kernel
theorem dX2_init_18 : decode cX2_init 18 = .ok (.aload_n 0, 1) := by decide +kernel
theorem dX2_init_19 : decode cX2_init 19 = .ok (.iconst 3, 1) := by decide +kernel
theorem dX2_init_20 : decode cX2_init 20 = .ok (.newarray .int, 2) := by decide +kernel
theorem dX2_init_22 : decode cX2_init 22 = .ok (.putfield 16, 3) := by decide +kernel
theorem dX2_init_25 : decode cX2_init 25 = .ok (.aload_n 0, 1) := by decide +kernel
theorem dX2_init_26 : decode cX2_init 26 = .ok (.iconst 3, 1) := by decide +kernel
theorem dX2_init_27 : decode cX2_init 27 = .ok (.newarray .int, 2) := by decide +kernel
theorem dX2_init_29 : decode cX2_init 29 = .ok (.putfield 19, 3) := by decide +kernel
theorem dX2_init_32 : decode cX2_init 32 = .ok (.aload_n 0, 1) := by decide +kernel
theorem dX2_init_33 : decode cX2_init 33 = .ok (.iconst 3, 1) := by decide +kernel
theorem dX2_init_34 : decode cX2_init 34 = .ok (.newarray .int, 2) := by decide +kernel
theorem dX2_init_36 : decode cX2_init 36 = .ok (.putfield 22, 3) := by decide +kernel
theorem dX2_init_39 : decode cX2_init 39 = .ok (.aload_n 0, 1) := by decide +kernel
theorem dX2_init_40 : decode cX2_init 40 = .ok (.iconst 3, 1) := by decide +kernel
theorem dX2_init_41 : decode cX2_init 41 = .ok (.newarray .int, 2) := by decide +kernel
theorem dX2_init_43 : decode cX2_init 43 = .ok (.putfield 25, 3) := by decide +kernel
theorem dX2_init_46 : decode cX2_init 46 = .ok (.aload_n 0, 1) := by decide +kernel
theorem dX2_init_47 : decode cX2_init 47 = .ok (.bipush 6, 2) := by decide +kernel
theorem dX2_init_49 : decode cX2_init 49 = .ok (.newarray .int, 2) := by decide +kernel
theorem dX2_init_51 : decode cX2_init 51 = .ok (.putfield 28, 3) := by decide +kernel
theorem dX2_init_54 : decode cX2_init 54 = .ok (.aload_n 0, 1) := by decide +kernel
theorem dX2_init_55 : decode cX2_init 55 = .ok (.bipush 54, 2) := by decide +kernel
theorem dX2_init_57 : decode cX2_init 57 = .ok (.newarray .int, 2) := by decide +kernel
theorem dX2_init_59 : decode cX2_init 59 = .ok (.putfield 31, 3) := by decide +kernel
theorem dX2_init_62 : decode cX2_init 62 = .ok (.aload_n 0, 1) := by decide +kernel
theorem dX2_init_63 : decode cX2_init 63 = .ok (.bipush 6, 2) := by decide +kernel
theorem dX2_init_65 : decode cX2_init 65 = .ok (.newarray .int, 2) := by decide +kernel
theorem dX2_init_67 : decode cX2_init 67 = .ok (.putfield 34, 3) := by decide +kernel
theorem dX2_init_70 : decode cX2_init 70 = .ok (.aload_n 0, 1) := by decide +kernel
theorem dX2_init_71 : decode cX2_init 71 = .ok (.sipush 1260, 3) := by decide +kernel
theorem dX2_init_74 : decode cX2_init 74 = .ok (.newarray .int, 2) := by decide +kernel
theorem dX2_init_76 : decode cX2_init 76 = .ok (.putfield 37, 3) := by decide +kernel
theorem dX2_init_79 : decode cX2_init 79 = .ok (.aload_n 0, 1) := by decide +kernel
theorem dX2_init_80 : decode cX2_init 80 = .ok (.iconst 2, 1) := by decide +kernel
theorem dX2_init_81 : decode cX2_init 81 = .ok (.newarray .int, 2) := by decide +kernel
theorem dX2_init_83 : decode cX2_init 83 = .ok (.putfield 40, 3) := by decide +kernel
theorem dX2_init_86 : decode cX2_init 86 = .ok (.aload_n 0, 1) := by decide +kernel
theorem dX2_init_87 : decode cX2_init 87 = .ok (.iconst 2, 1) := by decide +kernel
theorem dX2_init_88 : decode cX2_init 88 = .ok (.newarray .int, 2) := by decide +kernel
theorem dX2_init_90 : decode cX2_init 90 = .ok (.putfield 43, 3) := by decide +kernel
theorem dX2_init_93 : decode cX2_init 93 = .ok (.aload_n 0, 1) := by decide +kernel
theorem dX2_init_94 : decode cX2_init 94 = .ok (.iconst 2, 1) := by decide +kernel
theorem dX2_init_95 : decode cX2_init 95 = .ok (.newarray .int, 2) := by decide +kernel
theorem dX2_init_97 : decode cX2_init 97 = .ok (.putfield 46, 3) := by decide +kernel
theorem dX2_init_100 : decode cX2_init 100 = .ok (.aload_n 0, 1) := by decide +kernel
theorem dX2_init_101 : decode cX2_init 101 = .ok (.iconst 3, 1) := by decide +kernel
theorem dX2_init_102 : decode cX2_init 102 = .ok (.newarray .int, 2) := by decide +kernel
theorem dX2_init_104 : decode cX2_init 104 = .ok (.putfield 49, 3) := by decide +kernel
theorem dX2_init_107 : decode cX2_init 107 = .ok (.aload_n 0, 1) := by decide +kernel
theorem dX2_init_108 : decode cX2_init 108 = .ok (.iconst 3, 1) := by decide +kernel
theorem dX2_init_109 : decode cX2_init 109 = .ok (.newarray .int, 2) := by decide +kernel
theorem dX2_init_111 : decode cX2_init 111 = .ok (.putfield 52, 3) := by decide +kernel
theorem dX2_init_114 : decode cX2_init 114 = .ok (.aload_n 0, 1) := by decide +kernel
theorem dX2_init_115 : decode cX2_init 115 = .ok (.iconst 3, 1) := by decide +kernel
theorem dX2_init_116 : decode cX2_init 116 = .ok (.newarray .int, 2) := by decide +kernel
theorem dX2_init_118 : decode cX2_init 118 = .ok (.putfield 55, 3) := by decide +kernel
theorem dX2_init_121 : decode cX2_init 121 = .ok (.aload_n 0, 1) := by decide +kernel
theorem dX2_init_122 : decode cX2_init 122 = .ok (.iconst 3, 1) := by decide +kernel
theorem dX2_init_123 : decode cX2_init 123 = .ok (.newarray .int, 2) := by decide +kernel
theorem dX2_init_125 : decode cX2_init 125 = .ok (.putfield 58, 3) := by decide +kernel
theorem dX2_init_128 : decode cX2_init 128 = .ok (.aload_n 0, 1) := by decide +kernel
theorem dX2_init_129 : decode cX2_init 129 = .ok (.sipush 1820, 3) := by decide +kernel
theorem dX2_init_132 : decode cX2_init 132 = .ok (.newarray .int, 2) := by decide +kernel
theorem dX2_init_134 : decode cX2_init 134 = .ok (.putfield 61, 3) := by decide +kernel
theorem dX2_init_137 : decode cX2_init 137 = .ok (.iconst 0, 1) := by decide +kernel
theorem dX2_init_138 : decode cX2_init 138 = .ok (.istore_n 1, 1) := by decide +kernel
theorem dX2_init_139 : decode cX2_init 139 = .ok (.iload_n 1, 1) := by decide +kernel
theorem dX2_init_140 : decode cX2_init 140 = .ok (.iconst 3, 1) := by decide +kernel
theorem dX2_init_141 : decode cX2_init 141 = .ok (.if_icmp .ge 40, 3) := by decide +kernel
theorem dX2_init_144 : decode cX2_init 144 = .ok (.aload_n 0, 1) := by decide +kernel
theorem dX2_init_145 : decode cX2_init 145 = .ok (.getfield 7, 3) := by decide +kernel
theorem dX2_init_148 : decode cX2_init 148 = .ok (.iload_n 1, 1) := by decide +kernel
theorem dX2_init_149 : decode cX2_init 149 = .ok (.bipush 100, 2) := by decide +kernel
theorem dX2_init_151 : decode cX2_init 151 = .ok (.iastore, 1) := by decide +kernel
theorem dX2_init_152 : decode cX2_init 152 = .ok (.aload_n 0, 1) := by decide +kernel
theorem dX2_init_153 : decode cX2_init 153 = .ok (.getfield 13, 3) := by decide +kernel
theorem dX2_init_156 : decode cX2_init 156 = .ok (.iload_n 1, 1) := by decide +kernel
theorem dX2_init_157 : decode cX2_init 157 = .ok (.bipush 10, 2) := by decide +kernel
theorem dX2_init_159 : decode cX2_init 159 = .ok (.iastore, 1) := by decide +kernel
theorem dX2_init_160 : decode cX2_init 160 = .ok (.aload_n 0, 1) := by decide +kernel
theorem dX2_init_161 : decode cX2_init 161 = .ok (.getfield 16, 3) := by decide +kernel
theorem dX2_init_164 : decode cX2_init 164 = .ok (.iload_n 1, 1) := by decide +kernel
theorem dX2_init_165 : decode cX2_init 165 = .ok (.iconst 1, 1) := by decide +kernel
theorem dX2_init_166 : decode cX2_init 166 = .ok (.iastore, 1) := by decide +kernel
theorem dX2_init_167 : decode cX2_init 167 = .ok (.aload_n 0, 1) := by decide +kernel
theorem dX2_init_168 : decode cX2_init 168 = .ok (.getfield 22, 3) := by decide +kernel
theorem dX2_init_171 : decode cX2_init 171 = .ok (.iload_n 1, 1) := by decide +kernel
theorem dX2_init_172 : decode cX2_init 172 = .ok (.bipush 50, 2) := by decide +kernel
theorem dX2_init_174 : decode cX2_init 174 = .ok (.iastore, 1) := by decide +kernel
theorem dX2_init_175 : decode cX2_init 175 = .ok (.iinc 1 1, 3) := by decide +kernel
theorem dX2_init_178 : decode cX2_init 178 = .ok (.goto (-39), 3) := by decide +kernel
theorem dX2_init_181 : decode cX2_init 181 = .ok (.iconst 0, 1) := by decide +kernel
theorem dX2_init_182 : decode cX2_init 182 = .ok (.istore_n 1, 1) := by decide +kernel
theorem dX2_init_183 : decode cX2_init 183 = .ok (.iload_n 1, 1) := by decide +kernel
theorem dX2_init_184 : decode cX2_init 184 = .ok (.bipush 54, 2) := by decide +kernel
theorem dX2_init_186 : decode cX2_init 186 = .ok (.if_icmp .ge 22, 3) := by decide +kernel
theorem dX2_init_189 : decode cX2_init 189 = .ok (.aload_n 0, 1) := by decide +kernel
theorem dX2_init_190 : decode cX2_init 190 = .ok (.getfield 31, 3) := by decide +kernel
theorem dX2_init_193 : decode cX2_init 193 = .ok (.iload_n 1, 1) := by decide +kernel
theorem dX2_init_194 : decode cX2_init 194 = .ok (.bipush 10, 2) := by decide +kernel
theorem dX2_init_196 : decode cX2_init 196 = .ok (.iload_n 1, 1) := by decide +kernel
theorem dX2_init_197 : decode cX2_init 197 = .ok (.bipush 9, 2) := by decide +kernel
theorem dX2_init_199 : decode cX2_init 199 = .ok (.irem, 1) := by decide +kernel
theorem dX2_init_200 : decode cX2_init 200 = .ok (.imul, 1) := by decide +kernel
theorem dX2_init_201 : decode cX2_init 201 = .ok (.iastore, 1) := by decide +kernel
theorem dX2_init_202 : decode cX2_init 202 = .ok (.iinc 1 1, 3) := by decide +kernel
theorem dX2_init_205 : decode cX2_init 205 = .ok (.goto (-22), 3) := by decide +kernel
theorem dX2_init_208 : decode cX2_init 208 = .ok (.return_, 1) := by decide +kernel
theorem dX2_thrown_0 : decode cX2_thrown 0 = .ok (.aload_n 0, 1) := by decide +kernel
theorem dX2_thrown_1 : decode cX2_thrown 1 = .ok (.getfield 64, 3) := by decide +kernel
theorem dX2_thrown_4 : decode cX2_thrown 4 = .ok (.ireturn, 1) := by decide +kernel
theorem dX2_isIn_0 : decode cX2_isIn 0 = .ok (.iload_n 0, 1) := by decide +kernel
theorem dX2_isIn_1 : decode cX2_isIn 1 = .ok (.iload_n 1, 1) := by decide +kernel
theorem dX2_isIn_2 : decode cX2_isIn 2 = .ok (.if_icmp .lt 12, 3) := by decide +kernel
theorem dX2_isIn_5 : decode cX2_isIn 5 = .ok (.iload_n 0, 1) := by decide +kernel
theorem dX2_isIn_6 : decode cX2_isIn 6 = .ok (.iload_n 2, 1) := by decide +kernel
theorem dX2_isIn_7 : decode cX2_isIn 7 = .ok (.if_icmp .gt 7, 3) := by decide +kernel
theorem dX2_isIn_10 : decode cX2_isIn 10 = .ok (.iconst 1, 1) := by decide +kernel
theorem dX2_isIn_11 : decode cX2_isIn 11 = .ok (.goto 4, 3) := by decide +kernel
theorem dX2_isIn_14 : decode cX2_isIn 14 = .ok (.iconst 0, 1) := by decide +kernel
theorem dX2_isIn_15 : decode cX2_isIn 15 = .ok (.ireturn, 1) := by decide +kernel
theorem dX2_isPlant_0 : decode cX2_isPlant 0 = .ok (.iload_n 0, 1) := by decide +kernel
theorem dX2_isPlant_1 : decode cX2_isPlant 1 = .ok (.iconst 0, 1) := by decide +kernel
theorem dX2_isPlant_2 : decode cX2_isPlant 2 = .ok (.iconst 2, 1) := by decide +kernel
theorem dX2_isPlant_3 : decode cX2_isPlant 3 = .ok (.invokestatic 68, 3) := by decide +kernel
theorem dX2_isPlant_6 : decode cX2_isPlant 6 = .ok (.ireturn, 1) := by decide +kernel
theorem dX2_isOwner_0 : decode cX2_isOwner 0 = .ok (.iload_n 0, 1) := by decide +kernel
theorem dX2_isOwner_1 : decode cX2_isOwner 1 = .ok (.iconst 0, 1) := by decide +kernel
theorem dX2_isOwner_2 : decode cX2_isOwner 2 = .ok (.iconst 1, 1) := by decide +kernel
theorem dX2_isOwner_3 : decode cX2_isOwner 3 = .ok (.invokestatic 68, 3) := by decide +kernel
theorem dX2_isOwner_6 : decode cX2_isOwner 6 = .ok (.ireturn, 1) := by decide +kernel
theorem dX2_setPond_0 : decode cX2_setPond 0 = .ok (.aload_n 0, 1) := by decide +kernel
theorem dX2_setPond_1 : decode cX2_setPond 1 = .ok (.iload_n 1, 1) := by decide +kernel
theorem dX2_setPond_2 : decode cX2_setPond 2 = .ok (.invokestatic 72, 3) := by decide +kernel
theorem dX2_setPond_5 : decode cX2_setPond 5 = .ok (.ifCond .eq 38, 3) := by decide +kernel
theorem dX2_setPond_8 : decode cX2_setPond 8 = .ok (.iload_n 2, 1) := by decide +kernel
theorem dX2_setPond_9 : decode cX2_setPond 9 = .ok (.iconst 1, 1) := by decide +kernel
theorem dX2_setPond_10 : decode cX2_setPond 10 = .ok (.sipush 200, 3) := by decide +kernel
theorem dX2_setPond_13 : decode cX2_setPond 13 = .ok (.invokestatic 68, 3) := by decide +kernel
theorem dX2_setPond_16 : decode cX2_setPond 16 = .ok (.ifCond .eq 27, 3) := by decide +kernel
theorem dX2_setPond_19 : decode cX2_setPond 19 = .ok (.iload_n 3, 1) := by decide +kernel
theorem dX2_setPond_20 : decode cX2_setPond 20 = .ok (.iconst 0, 1) := by decide +kernel
theorem dX2_setPond_21 : decode cX2_setPond 21 = .ok (.bipush 100, 2) := by decide +kernel
theorem dX2_setPond_23 : decode cX2_setPond 23 = .ok (.invokestatic 68, 3) := by decide +kernel
theorem dX2_setPond_26 : decode cX2_setPond 26 = .ok (.ifCond .eq 17, 3) := by decide +kernel
theorem dX2_setPond_29 : decode cX2_setPond 29 = .ok (.iload 4, 2) := by decide +kernel
theorem dX2_setPond_31 : decode cX2_setPond 31 = .ok (.iconst 0, 1) := by decide +kernel
theorem dX2_setPond_32 : decode cX2_setPond 32 = .ok (.iconst 5, 1) := by decide +kernel
theorem dX2_setPond_33 : decode cX2_setPond 33 = .ok (.invokestatic 68, 3) := by decide +kernel
theorem dX2_setPond_36 : decode cX2_setPond 36 = .ok (.ifCond .eq 7, 3) := by decide +kernel
theorem dX2_setPond_39 : decode cX2_setPond 39 = .ok (.iconst 0, 1) := by decide +kernel
theorem dX2_setPond_40 : decode cX2_setPond 40 = .ok (.goto 4, 3) := by decide +kernel
theorem dX2_setPond_43 : decode cX2_setPond 43 = .ok (.iconst 1, 1) := by decide +kernel
theorem dX2_setPond_44 : decode cX2_setPond 44 = .ok (.putfield 64, 3) := by decide +kernel
theorem dX2_setPond_47 : decode cX2_setPond 47 = .ok (.aload_n 0, 1) := by decide +kernel
theorem dX2_setPond_48 : decode cX2_setPond 48 = .ok (.getfield 64, 3) := by decide +kernel
theorem dX2_setPond_51 : decode cX2_setPond 51 = .ok (.ifCond .ne 25, 3) := by decide +kernel
theorem dX2_setPond_54 : decode cX2_setPond 54 = .ok (.aload_n 0, 1) := by decide +kernel
theorem dX2_setPond_55 : decode cX2_setPond 55 = .ok (.getfield 7, 3) := by decide +kernel
theorem dX2_setPond_58 : decode cX2_setPond 58 = .ok (.iload_n 1, 1) := by decide +kernel
theorem dX2_setPond_59 : decode cX2_setPond 59 = .ok (.iload_n 2, 1) := by decide +kernel
theorem dX2_setPond_60 : decode cX2_setPond 60 = .ok (.iastore, 1) := by decide +kernel
theorem dX2_setPond_61 : decode cX2_setPond 61 = .ok (.aload_n 0, 1) := by decide +kernel
theorem dX2_setPond_62 : decode cX2_setPond 62 = .ok (.getfield 13, 3) := by decide +kernel
theorem dX2_setPond_65 : decode cX2_setPond 65 = .ok (.iload_n 1, 1) := by decide +kernel
theorem dX2_setPond_66 : decode cX2_setPond 66 = .ok (.iload_n 3, 1) := by decide +kernel
theorem dX2_setPond_67 : decode cX2_setPond 67 = .ok (.iastore, 1) := by decide +kernel
theorem dX2_setPond_68 : decode cX2_setPond 68 = .ok (.aload_n 0, 1) := by decide +kernel
theorem dX2_setPond_69 : decode cX2_setPond 69 = .ok (.getfield 16, 3) := by decide +kernel
theorem dX2_setPond_72 : decode cX2_setPond 72 = .ok (.iload_n 1, 1) := by decide +kernel
theorem dX2_setPond_73 : decode cX2_setPond 73 = .ok (.iload 4, 2) := by decide +kernel
theorem dX2_setPond_75 : decode cX2_setPond 75 = .ok (.iastore, 1) := by decide +kernel
theorem dX2_setPond_76 : decode cX2_setPond 76 = .ok (.return_, 1) := by decide +kernel
theorem dX2_setInflow_0 : decode cX2_setInflow 0 = .ok (.aload_n 0, 1) := by decide +kernel
theorem dX2_setInflow_1 : decode cX2_setInflow 1 = .ok (.iload_n 1, 1) := by decide +kernel
theorem dX2_setInflow_2 : decode cX2_setInflow 2 = .ok (.invokestatic 72, 3) := by decide +kernel
theorem dX2_setInflow_5 : decode cX2_setInflow 5 = .ok (.ifCond .eq 27, 3) := by decide +kernel
theorem dX2_setInflow_8 : decode cX2_setInflow 8 = .ok (.iload_n 2, 1) := by decide +kernel
theorem dX2_setInflow_9 : decode cX2_setInflow 9 = .ok (.iconst 0, 1) := by decide +kernel
theorem dX2_setInflow_10 : decode cX2_setInflow 10 = .ok (.bipush 50, 2) := by decide +kernel
theorem dX2_setInflow_12 : decode cX2_setInflow 12 = .ok (.invokestatic 68, 3) := by decide +kernel
theorem dX2_setInflow_15 : decode cX2_setInflow 15 = .ok (.ifCond .eq 17, 3) := by decide +kernel
theorem dX2_setInflow_18 : decode cX2_setInflow 18 = .ok (.iload_n 3, 1) := by decide +kernel
theorem dX2_setInflow_19 : decode cX2_setInflow 19 = .ok (.iconst 0, 1) := by decide +kernel
theorem dX2_setInflow_20 : decode cX2_setInflow 20 = .ok (.bipush 100, 2) := by decide +kernel
theorem dX2_setInflow_22 : decode cX2_setInflow 22 = .ok (.invokestatic 68, 3) := by decide +kernel
theorem dX2_setInflow_25 : decode cX2_setInflow 25 = .ok (.ifCond .eq 7, 3) := by decide +kernel
theorem dX2_setInflow_28 : decode cX2_setInflow 28 = .ok (.iconst 0, 1) := by decide +kernel
theorem dX2_setInflow_29 : decode cX2_setInflow 29 = .ok (.goto 4, 3) := by decide +kernel
theorem dX2_setInflow_32 : decode cX2_setInflow 32 = .ok (.iconst 1, 1) := by decide +kernel
theorem dX2_setInflow_33 : decode cX2_setInflow 33 = .ok (.putfield 64, 3) := by decide +kernel
theorem dX2_setInflow_36 : decode cX2_setInflow 36 = .ok (.aload_n 0, 1) := by decide +kernel
theorem dX2_setInflow_37 : decode cX2_setInflow 37 = .ok (.getfield 64, 3) := by decide +kernel
theorem dX2_setInflow_40 : decode cX2_setInflow 40 = .ok (.ifCond .le 5, 3) := by decide +kernel
theorem dX2_setInflow_43 : decode cX2_setInflow 43 = .ok (.iconst 0, 1) := by decide +kernel
theorem dX2_setInflow_44 : decode cX2_setInflow 44 = .ok (.ireturn, 1) := by decide +kernel
theorem dX2_setInflow_45 : decode cX2_setInflow 45 = .ok (.aload_n 0, 1) := by decide +kernel
theorem dX2_setInflow_46 : decode cX2_setInflow 46 = .ok (.getfield 19, 3) := by decide +kernel
theorem dX2_setInflow_49 : decode cX2_setInflow 49 = .ok (.iload_n 1, 1) := by decide +kernel
theorem dX2_setInflow_50 : decode cX2_setInflow 50 = .ok (.iaload, 1) := by decide +kernel
theorem dX2_setInflow_51 : decode cX2_setInflow 51 = .ok (.istore 4, 2) := by decide +kernel
theorem dX2_setInflow_53 : decode cX2_setInflow 53 = .ok (.aload_n 0, 1) := by decide +kernel
theorem dX2_setInflow_54 : decode cX2_setInflow 54 = .ok (.getfield 19, 3) := by decide +kernel
theorem dX2_setInflow_57 : decode cX2_setInflow 57 = .ok (.iload_n 1, 1) := by decide +kernel
theorem dX2_setInflow_58 : decode cX2_setInflow 58 = .ok (.iload_n 2, 1) := by decide +kernel
theorem dX2_setInflow_59 : decode cX2_setInflow 59 = .ok (.iastore, 1) := by decide +kernel
theorem dX2_setInflow_60 : decode cX2_setInflow 60 = .ok (.aload_n 0, 1) := by decide +kernel
theorem dX2_setInflow_61 : decode cX2_setInflow 61 = .ok (.getfield 22, 3) := by decide +kernel
theorem dX2_setInflow_64 : decode cX2_setInflow 64 = .ok (.iload_n 1, 1) := by decide +kernel
theorem dX2_setInflow_65 : decode cX2_setInflow 65 = .ok (.iload_n 3, 1) := by decide +kernel
theorem dX2_setInflow_66 : decode cX2_setInflow 66 = .ok (.iastore, 1) := by decide +kernel
theorem dX2_setInflow_67 : decode cX2_setInflow 67 = .ok (.iload 4, 2) := by decide +kernel
theorem dX2_setInflow_69 : decode cX2_setInflow 69 = .ok (.ireturn, 1) := by decide +kernel
theorem dX2_setMinimum_0 : decode cX2_setMinimum 0 = .ok (.aload_n 0, 1) := by decide +kernel
theorem dX2_setMinimum_1 : decode cX2_setMinimum 1 = .ok (.iload_n 1, 1) := by decide +kernel
theorem dX2_setMinimum_2 : decode cX2_setMinimum 2 = .ok (.invokestatic 72, 3) := by decide +kernel
theorem dX2_setMinimum_5 : decode cX2_setMinimum 5 = .ok (.ifCond .eq 17, 3) := by decide +kernel
theorem dX2_setMinimum_8 : decode cX2_setMinimum 8 = .ok (.iload_n 2, 1) := by decide +kernel
theorem dX2_setMinimum_9 : decode cX2_setMinimum 9 = .ok (.iconst 0, 1) := by decide +kernel
theorem dX2_setMinimum_10 : decode cX2_setMinimum 10 = .ok (.bipush 20, 2) := by decide +kernel
theorem dX2_setMinimum_12 : decode cX2_setMinimum 12 = .ok (.invokestatic 68, 3) := by decide +kernel
theorem dX2_setMinimum_15 : decode cX2_setMinimum 15 = .ok (.ifCond .eq 7, 3) := by decide +kernel
theorem dX2_setMinimum_18 : decode cX2_setMinimum 18 = .ok (.iconst 0, 1) := by decide +kernel
theorem dX2_setMinimum_19 : decode cX2_setMinimum 19 = .ok (.goto 4, 3) := by decide +kernel
theorem dX2_setMinimum_22 : decode cX2_setMinimum 22 = .ok (.iconst 1, 1) := by decide +kernel
theorem dX2_setMinimum_23 : decode cX2_setMinimum 23 = .ok (.putfield 64, 3) := by decide +kernel
theorem dX2_setMinimum_26 : decode cX2_setMinimum 26 = .ok (.aload_n 0, 1) := by decide +kernel
theorem dX2_setMinimum_27 : decode cX2_setMinimum 27 = .ok (.getfield 64, 3) := by decide +kernel
theorem dX2_setMinimum_30 : decode cX2_setMinimum 30 = .ok (.ifCond .le 5, 3) := by decide +kernel
theorem dX2_setMinimum_33 : decode cX2_setMinimum 33 = .ok (.iconst 0, 1) := by decide +kernel
theorem dX2_setMinimum_34 : decode cX2_setMinimum 34 = .ok (.ireturn, 1) := by decide +kernel
theorem dX2_setMinimum_35 : decode cX2_setMinimum 35 = .ok (.aload_n 0, 1) := by decide +kernel
theorem dX2_setMinimum_36 : decode cX2_setMinimum 36 = .ok (.getfield 25, 3) := by decide +kernel
theorem dX2_setMinimum_39 : decode cX2_setMinimum 39 = .ok (.iload_n 1, 1) := by decide +kernel
theorem dX2_setMinimum_40 : decode cX2_setMinimum 40 = .ok (.iaload, 1) := by decide +kernel
theorem dX2_setMinimum_41 : decode cX2_setMinimum 41 = .ok (.istore_n 3, 1) := by decide +kernel
theorem dX2_setMinimum_42 : decode cX2_setMinimum 42 = .ok (.aload_n 0, 1) := by decide +kernel
theorem dX2_setMinimum_43 : decode cX2_setMinimum 43 = .ok (.getfield 25, 3) := by decide +kernel
theorem dX2_setMinimum_46 : decode cX2_setMinimum 46 = .ok (.iload_n 1, 1) := by decide +kernel
theorem dX2_setMinimum_47 : decode cX2_setMinimum 47 = .ok (.iload_n 2, 1) := by decide +kernel
theorem dX2_setMinimum_48 : decode cX2_setMinimum 48 = .ok (.iastore, 1) := by decide +kernel
theorem dX2_setMinimum_49 : decode cX2_setMinimum 49 = .ok (.iload_n 3, 1) := by decide +kernel
theorem dX2_setMinimum_50 : decode cX2_setMinimum 50 = .ok (.ireturn, 1) := by decide +kernel
theorem dX2_order_0 : decode cX2_order 0 = .ok (.aload_n 0, 1) := by decide +kernel
theorem dX2_order_1 : decode cX2_order 1 = .ok (.iload_n 1, 1) := by decide +kernel
theorem dX2_order_2 : decode cX2_order 2 = .ok (.invokestatic 72, 3) := by decide +kernel
theorem dX2_order_5 : decode cX2_order 5 = .ok (.ifCond .eq 24, 3) := by decide +kernel
theorem dX2_order_8 : decode cX2_order 8 = .ok (.iload_n 2, 1) := by decide +kernel
theorem dX2_order_9 : decode cX2_order 9 = .ok (.invokestatic 76, 3) := by decide +kernel
theorem dX2_order_12 : decode cX2_order 12 = .ok (.ifCond .eq 17, 3) := by decide +kernel
theorem dX2_order_15 : decode cX2_order 15 = .ok (.iload_n 3, 1) := by decide +kernel
theorem dX2_order_16 : decode cX2_order 16 = .ok (.iconst 0, 1) := by decide +kernel
theorem dX2_order_17 : decode cX2_order 17 = .ok (.bipush 30, 2) := by decide +kernel
theorem dX2_order_19 : decode cX2_order 19 = .ok (.invokestatic 68, 3) := by decide +kernel
theorem dX2_order_22 : decode cX2_order 22 = .ok (.ifCond .eq 7, 3) := by decide +kernel
theorem dX2_order_25 : decode cX2_order 25 = .ok (.iconst 0, 1) := by decide +kernel
theorem dX2_order_26 : decode cX2_order 26 = .ok (.goto 4, 3) := by decide +kernel
theorem dX2_order_29 : decode cX2_order 29 = .ok (.iconst 1, 1) := by decide +kernel
theorem dX2_order_30 : decode cX2_order 30 = .ok (.putfield 64, 3) := by decide +kernel
theorem dX2_order_33 : decode cX2_order 33 = .ok (.aload_n 0, 1) := by decide +kernel
theorem dX2_order_34 : decode cX2_order 34 = .ok (.getfield 64, 3) := by decide +kernel
theorem dX2_order_37 : decode cX2_order 37 = .ok (.ifCond .le 5, 3) := by decide +kernel
theorem dX2_order_40 : decode cX2_order 40 = .ok (.iconst 0, 1) := by decide +kernel
theorem dX2_order_41 : decode cX2_order 41 = .ok (.ireturn, 1) := by decide +kernel
theorem dX2_order_42 : decode cX2_order 42 = .ok (.aload_n 0, 1) := by decide +kernel
theorem dX2_order_43 : decode cX2_order 43 = .ok (.getfield 28, 3) := by decide +kernel
theorem dX2_order_46 : decode cX2_order 46 = .ok (.iconst 2, 1) := by decide +kernel
theorem dX2_order_47 : decode cX2_order 47 = .ok (.iload_n 1, 1) := by decide +kernel
theorem dX2_order_48 : decode cX2_order 48 = .ok (.imul, 1) := by decide +kernel
theorem dX2_order_49 : decode cX2_order 49 = .ok (.iload_n 2, 1) := by decide +kernel
theorem dX2_order_50 : decode cX2_order 50 = .ok (.iadd, 1) := by decide +kernel
theorem dX2_order_51 : decode cX2_order 51 = .ok (.iaload, 1) := by decide +kernel
theorem dX2_order_52 : decode cX2_order 52 = .ok (.istore 4, 2) := by decide +kernel
theorem dX2_order_54 : decode cX2_order 54 = .ok (.aload_n 0, 1) := by decide +kernel
theorem dX2_order_55 : decode cX2_order 55 = .ok (.getfield 28, 3) := by decide +kernel
theorem dX2_order_58 : decode cX2_order 58 = .ok (.iconst 2, 1) := by decide +kernel
theorem dX2_order_59 : decode cX2_order 59 = .ok (.iload_n 1, 1) := by decide +kernel
theorem dX2_order_60 : decode cX2_order 60 = .ok (.imul, 1) := by decide +kernel
theorem dX2_order_61 : decode cX2_order 61 = .ok (.iload_n 2, 1) := by decide +kernel
theorem dX2_order_62 : decode cX2_order 62 = .ok (.iadd, 1) := by decide +kernel
theorem dX2_order_63 : decode cX2_order 63 = .ok (.iload_n 3, 1) := by decide +kernel
theorem dX2_order_64 : decode cX2_order 64 = .ok (.iastore, 1) := by decide +kernel
theorem dX2_order_65 : decode cX2_order 65 = .ok (.iload 4, 2) := by decide +kernel
theorem dX2_order_67 : decode cX2_order 67 = .ok (.ireturn, 1) := by decide +kernel
theorem dX2_setYield_0 : decode cX2_setYield 0 = .ok (.aload_n 0, 1) := by decide +kernel
theorem dX2_setYield_1 : decode cX2_setYield 1 = .ok (.iload_n 1, 1) := by decide +kernel
theorem dX2_setYield_2 : decode cX2_setYield 2 = .ok (.invokestatic 72, 3) := by decide +kernel
theorem dX2_setYield_5 : decode cX2_setYield 5 = .ok (.ifCond .eq 38, 3) := by decide +kernel
theorem dX2_setYield_8 : decode cX2_setYield 8 = .ok (.iload_n 2, 1) := by decide +kernel
theorem dX2_setYield_9 : decode cX2_setYield 9 = .ok (.iconst 0, 1) := by decide +kernel
theorem dX2_setYield_10 : decode cX2_setYield 10 = .ok (.iconst 1, 1) := by decide +kernel
theorem dX2_setYield_11 : decode cX2_setYield 11 = .ok (.invokestatic 68, 3) := by decide +kernel
theorem dX2_setYield_14 : decode cX2_setYield 14 = .ok (.ifCond .eq 29, 3) := by decide +kernel
theorem dX2_setYield_17 : decode cX2_setYield 17 = .ok (.iload_n 3, 1) := by decide +kernel
theorem dX2_setYield_18 : decode cX2_setYield 18 = .ok (.iconst 1, 1) := by decide +kernel
theorem dX2_setYield_19 : decode cX2_setYield 19 = .ok (.bipush 8, 2) := by decide +kernel
theorem dX2_setYield_21 : decode cX2_setYield 21 = .ok (.invokestatic 68, 3) := by decide +kernel
theorem dX2_setYield_24 : decode cX2_setYield 24 = .ok (.ifCond .eq 19, 3) := by decide +kernel
theorem dX2_setYield_27 : decode cX2_setYield 27 = .ok (.iload 4, 2) := by decide +kernel
theorem dX2_setYield_29 : decode cX2_setYield 29 = .ok (.iconst 0, 1) := by decide +kernel
theorem dX2_setYield_30 : decode cX2_setYield 30 = .ok (.sipush 200, 3) := by decide +kernel
theorem dX2_setYield_33 : decode cX2_setYield 33 = .ok (.invokestatic 68, 3) := by decide +kernel
theorem dX2_setYield_36 : decode cX2_setYield 36 = .ok (.ifCond .eq 7, 3) := by decide +kernel
theorem dX2_setYield_39 : decode cX2_setYield 39 = .ok (.iconst 0, 1) := by decide +kernel
theorem dX2_setYield_40 : decode cX2_setYield 40 = .ok (.goto 4, 3) := by decide +kernel
theorem dX2_setYield_43 : decode cX2_setYield 43 = .ok (.iconst 1, 1) := by decide +kernel
theorem dX2_setYield_44 : decode cX2_setYield 44 = .ok (.putfield 64, 3) := by decide +kernel
theorem dX2_setYield_47 : decode cX2_setYield 47 = .ok (.aload_n 0, 1) := by decide +kernel
theorem dX2_setYield_48 : decode cX2_setYield 48 = .ok (.getfield 64, 3) := by decide +kernel
theorem dX2_setYield_51 : decode cX2_setYield 51 = .ok (.ifCond .le 5, 3) := by decide +kernel
theorem dX2_setYield_54 : decode cX2_setYield 54 = .ok (.iconst 0, 1) := by decide +kernel
theorem dX2_setYield_55 : decode cX2_setYield 55 = .ok (.ireturn, 1) := by decide +kernel
theorem dX2_setYield_56 : decode cX2_setYield 56 = .ok (.bipush 18, 2) := by decide +kernel
theorem dX2_setYield_58 : decode cX2_setYield 58 = .ok (.iload_n 1, 1) := by decide +kernel
theorem dX2_setYield_59 : decode cX2_setYield 59 = .ok (.imul, 1) := by decide +kernel
theorem dX2_setYield_60 : decode cX2_setYield 60 = .ok (.bipush 9, 2) := by decide +kernel
theorem dX2_setYield_62 : decode cX2_setYield 62 = .ok (.iload_n 2, 1) := by decide +kernel
theorem dX2_setYield_63 : decode cX2_setYield 63 = .ok (.imul, 1) := by decide +kernel
theorem dX2_setYield_64 : decode cX2_setYield 64 = .ok (.iadd, 1) := by decide +kernel
theorem dX2_setYield_65 : decode cX2_setYield 65 = .ok (.iload_n 3, 1) := by decide +kernel
theorem dX2_setYield_66 : decode cX2_setYield 66 = .ok (.iadd, 1) := by decide +kernel
theorem dX2_setYield_67 : decode cX2_setYield 67 = .ok (.istore 5, 2) := by decide +kernel
theorem dX2_setYield_69 : decode cX2_setYield 69 = .ok (.aload_n 0, 1) := by decide +kernel
theorem dX2_setYield_70 : decode cX2_setYield 70 = .ok (.getfield 31, 3) := by decide +kernel
theorem dX2_setYield_73 : decode cX2_setYield 73 = .ok (.iload 5, 2) := by decide +kernel
theorem dX2_setYield_75 : decode cX2_setYield 75 = .ok (.iaload, 1) := by decide +kernel
theorem dX2_setYield_76 : decode cX2_setYield 76 = .ok (.istore 6, 2) := by decide +kernel
theorem dX2_setYield_78 : decode cX2_setYield 78 = .ok (.aload_n 0, 1) := by decide +kernel
theorem dX2_setYield_79 : decode cX2_setYield 79 = .ok (.getfield 31, 3) := by decide +kernel
theorem dX2_setYield_82 : decode cX2_setYield 82 = .ok (.iload 5, 2) := by decide +kernel
theorem dX2_setYield_84 : decode cX2_setYield 84 = .ok (.iload 4, 2) := by decide +kernel
theorem dX2_setYield_86 : decode cX2_setYield 86 = .ok (.iastore, 1) := by decide +kernel
theorem dX2_setYield_87 : decode cX2_setYield 87 = .ok (.iload 6, 2) := by decide +kernel
theorem dX2_setYield_89 : decode cX2_setYield 89 = .ok (.ireturn, 1) := by decide +kernel
theorem dX2_mixed_0 : decode cX2_mixed 0 = .ok (.iconst 0, 1) := by decide +kernel
theorem dX2_mixed_1 : decode cX2_mixed 1 = .ok (.istore_n 3, 1) := by decide +kernel
theorem dX2_mixed_2 : decode cX2_mixed 2 = .ok (.iconst 0, 1) := by decide +kernel
theorem dX2_mixed_3 : decode cX2_mixed 3 = .ok (.istore 4, 2) := by decide +kernel
theorem dX2_mixed_5 : decode cX2_mixed 5 = .ok (.iload 4, 2) := by decide +kernel
theorem dX2_mixed_7 : decode cX2_mixed 7 = .ok (.bipush 81, 2) := by decide +kernel
theorem dX2_mixed_9 : decode cX2_mixed 9 = .ok (.if_icmp .ge 73, 3) := by decide +kernel
theorem dX2_mixed_12 : decode cX2_mixed 12 = .ok (.aload_n 0, 1) := by decide +kernel
theorem dX2_mixed_13 : decode cX2_mixed 13 = .ok (.getfield 31, 3) := by decide +kernel
theorem dX2_mixed_16 : decode cX2_mixed 16 = .ok (.bipush 18, 2) := by decide +kernel
theorem dX2_mixed_18 : decode cX2_mixed 18 = .ok (.iload_n 1, 1) := by decide +kernel
theorem dX2_mixed_19 : decode cX2_mixed 19 = .ok (.imul, 1) := by decide +kernel
theorem dX2_mixed_20 : decode cX2_mixed 20 = .ok (.iload 4, 2) := by decide +kernel
theorem dX2_mixed_22 : decode cX2_mixed 22 = .ok (.bipush 9, 2) := by decide +kernel
theorem dX2_mixed_24 : decode cX2_mixed 24 = .ok (.idiv, 1) := by decide +kernel
theorem dX2_mixed_25 : decode cX2_mixed 25 = .ok (.iadd, 1) := by decide +kernel
theorem dX2_mixed_26 : decode cX2_mixed 26 = .ok (.iaload, 1) := by decide +kernel
theorem dX2_mixed_27 : decode cX2_mixed 27 = .ok (.aload_n 0, 1) := by decide +kernel
theorem dX2_mixed_28 : decode cX2_mixed 28 = .ok (.getfield 31, 3) := by decide +kernel
theorem dX2_mixed_31 : decode cX2_mixed 31 = .ok (.bipush 18, 2) := by decide +kernel
theorem dX2_mixed_33 : decode cX2_mixed 33 = .ok (.iload_n 1, 1) := by decide +kernel
theorem dX2_mixed_34 : decode cX2_mixed 34 = .ok (.imul, 1) := by decide +kernel
theorem dX2_mixed_35 : decode cX2_mixed 35 = .ok (.bipush 9, 2) := by decide +kernel
theorem dX2_mixed_37 : decode cX2_mixed 37 = .ok (.iadd, 1) := by decide +kernel
theorem dX2_mixed_38 : decode cX2_mixed 38 = .ok (.iload 4, 2) := by decide +kernel
theorem dX2_mixed_40 : decode cX2_mixed 40 = .ok (.bipush 9, 2) := by decide +kernel
theorem dX2_mixed_42 : decode cX2_mixed 42 = .ok (.irem, 1) := by decide +kernel
theorem dX2_mixed_43 : decode cX2_mixed 43 = .ok (.iadd, 1) := by decide +kernel
theorem dX2_mixed_44 : decode cX2_mixed 44 = .ok (.iaload, 1) := by decide +kernel
theorem dX2_mixed_45 : decode cX2_mixed 45 = .ok (.iadd, 1) := by decide +kernel
theorem dX2_mixed_46 : decode cX2_mixed 46 = .ok (.istore 5, 2) := by decide +kernel
theorem dX2_mixed_48 : decode cX2_mixed 48 = .ok (.iload 4, 2) := by decide +kernel
theorem dX2_mixed_50 : decode cX2_mixed 50 = .ok (.bipush 9, 2) := by decide +kernel
theorem dX2_mixed_52 : decode cX2_mixed 52 = .ok (.idiv, 1) := by decide +kernel
theorem dX2_mixed_53 : decode cX2_mixed 53 = .ok (.iload 4, 2) := by decide +kernel
theorem dX2_mixed_55 : decode cX2_mixed 55 = .ok (.bipush 9, 2) := by decide +kernel
theorem dX2_mixed_57 : decode cX2_mixed 57 = .ok (.irem, 1) := by decide +kernel
theorem dX2_mixed_58 : decode cX2_mixed 58 = .ok (.iadd, 1) := by decide +kernel
theorem dX2_mixed_59 : decode cX2_mixed 59 = .ok (.iload_n 2, 1) := by decide +kernel
theorem dX2_mixed_60 : decode cX2_mixed 60 = .ok (.if_icmp .gt 14, 3) := by decide +kernel
theorem dX2_mixed_63 : decode cX2_mixed 63 = .ok (.iload 5, 2) := by decide +kernel
theorem dX2_mixed_65 : decode cX2_mixed 65 = .ok (.iload_n 3, 1) := by decide +kernel
theorem dX2_mixed_66 : decode cX2_mixed 66 = .ok (.if_icmp .le 8, 3) := by decide +kernel
theorem dX2_mixed_69 : decode cX2_mixed 69 = .ok (.iload 5, 2) := by decide +kernel
theorem dX2_mixed_71 : decode cX2_mixed 71 = .ok (.goto 4, 3) := by decide +kernel
theorem dX2_mixed_74 : decode cX2_mixed 74 = .ok (.iload_n 3, 1) := by decide +kernel
theorem dX2_mixed_75 : decode cX2_mixed 75 = .ok (.istore_n 3, 1) := by decide +kernel
theorem dX2_mixed_76 : decode cX2_mixed 76 = .ok (.iinc 4 1, 3) := by decide +kernel
theorem dX2_mixed_79 : decode cX2_mixed 79 = .ok (.goto (-74), 3) := by decide +kernel
theorem dX2_mixed_82 : decode cX2_mixed 82 = .ok (.iload_n 3, 1) := by decide +kernel
theorem dX2_mixed_83 : decode cX2_mixed 83 = .ok (.ireturn, 1) := by decide +kernel
theorem dX2_filled_0 : decode cX2_filled 0 = .ok (.aload_n 0, 1) := by decide +kernel
theorem dX2_filled_1 : decode cX2_filled 1 = .ok (.getfield 34, 3) := by decide +kernel
theorem dX2_filled_4 : decode cX2_filled 4 = .ok (.iconst 2, 1) := by decide +kernel
theorem dX2_filled_5 : decode cX2_filled 5 = .ok (.iload_n 1, 1) := by decide +kernel
theorem dX2_filled_6 : decode cX2_filled 6 = .ok (.imul, 1) := by decide +kernel
theorem dX2_filled_7 : decode cX2_filled 7 = .ok (.iaload, 1) := by decide +kernel
theorem dX2_filled_8 : decode cX2_filled 8 = .ok (.aload_n 0, 1) := by decide +kernel
theorem dX2_filled_9 : decode cX2_filled 9 = .ok (.getfield 34, 3) := by decide +kernel
theorem dX2_filled_12 : decode cX2_filled 12 = .ok (.iconst 2, 1) := by decide +kernel
theorem dX2_filled_13 : decode cX2_filled 13 = .ok (.iload_n 1, 1) := by decide +kernel
theorem dX2_filled_14 : decode cX2_filled 14 = .ok (.imul, 1) := by decide +kernel
theorem dX2_filled_15 : decode cX2_filled 15 = .ok (.iconst 1, 1) := by decide +kernel
theorem dX2_filled_16 : decode cX2_filled 16 = .ok (.iadd, 1) := by decide +kernel
theorem dX2_filled_17 : decode cX2_filled 17 = .ok (.iaload, 1) := by decide +kernel
theorem dX2_filled_18 : decode cX2_filled 18 = .ok (.iadd, 1) := by decide +kernel
theorem dX2_filled_19 : decode cX2_filled 19 = .ok (.ireturn, 1) := by decide +kernel
theorem dX2_richer_0 : decode cX2_richer 0 = .ok (.aload_n 0, 1) := by decide +kernel
theorem dX2_richer_1 : decode cX2_richer 1 = .ok (.getfield 34, 3) := by decide +kernel
theorem dX2_richer_4 : decode cX2_richer 4 = .ok (.iconst 2, 1) := by decide +kernel
theorem dX2_richer_5 : decode cX2_richer 5 = .ok (.iload_n 1, 1) := by decide +kernel
theorem dX2_richer_6 : decode cX2_richer 6 = .ok (.imul, 1) := by decide +kernel
theorem dX2_richer_7 : decode cX2_richer 7 = .ok (.iconst 1, 1) := by decide +kernel
theorem dX2_richer_8 : decode cX2_richer 8 = .ok (.iadd, 1) := by decide +kernel
theorem dX2_richer_9 : decode cX2_richer 9 = .ok (.iaload, 1) := by decide +kernel
theorem dX2_richer_10 : decode cX2_richer 10 = .ok (.aload_n 0, 1) := by decide +kernel
theorem dX2_richer_11 : decode cX2_richer 11 = .ok (.getfield 34, 3) := by decide +kernel
theorem dX2_richer_14 : decode cX2_richer 14 = .ok (.iconst 2, 1) := by decide +kernel
theorem dX2_richer_15 : decode cX2_richer 15 = .ok (.iload_n 1, 1) := by decide +kernel
theorem dX2_richer_16 : decode cX2_richer 16 = .ok (.imul, 1) := by decide +kernel
theorem dX2_richer_17 : decode cX2_richer 17 = .ok (.iaload, 1) := by decide +kernel
theorem dX2_richer_18 : decode cX2_richer 18 = .ok (.if_icmp .le 7, 3) := by decide +kernel
theorem dX2_richer_21 : decode cX2_richer 21 = .ok (.iconst 1, 1) := by decide +kernel
theorem dX2_richer_22 : decode cX2_richer 22 = .ok (.goto 4, 3) := by decide +kernel
theorem dX2_richer_25 : decode cX2_richer 25 = .ok (.iconst 0, 1) := by decide +kernel
theorem dX2_richer_26 : decode cX2_richer 26 = .ok (.ireturn, 1) := by decide +kernel
theorem dX2_sends_0 : decode cX2_sends 0 = .ok (.iload_n 1, 1) := by decide +kernel
theorem dX2_sends_1 : decode cX2_sends 1 = .ok (.iconst 2, 1) := by decide +kernel
theorem dX2_sends_2 : decode cX2_sends 2 = .ok (.if_icmp .ne 16, 3) := by decide +kernel
theorem dX2_sends_5 : decode cX2_sends 5 = .ok (.aload_n 0, 1) := by decide +kernel
theorem dX2_sends_6 : decode cX2_sends 6 = .ok (.getfield 43, 3) := by decide +kernel
theorem dX2_sends_9 : decode cX2_sends 9 = .ok (.iload_n 2, 1) := by decide +kernel
theorem dX2_sends_10 : decode cX2_sends 10 = .ok (.dup2, 1) := by decide +kernel
theorem dX2_sends_11 : decode cX2_sends 11 = .ok (.iaload, 1) := by decide +kernel
theorem dX2_sends_12 : decode cX2_sends 12 = .ok (.iload_n 3, 1) := by decide +kernel
theorem dX2_sends_13 : decode cX2_sends 13 = .ok (.iadd, 1) := by decide +kernel
theorem dX2_sends_14 : decode cX2_sends 14 = .ok (.iastore, 1) := by decide +kernel
theorem dX2_sends_15 : decode cX2_sends 15 = .ok (.goto 35, 3) := by decide +kernel
theorem dX2_sends_18 : decode cX2_sends 18 = .ok (.aload_n 0, 1) := by decide +kernel
theorem dX2_sends_19 : decode cX2_sends 19 = .ok (.getfield 37, 3) := by decide +kernel
theorem dX2_sends_22 : decode cX2_sends 22 = .ok (.sipush 210, 3) := by decide +kernel
theorem dX2_sends_25 : decode cX2_sends 25 = .ok (.iconst 2, 1) := by decide +kernel
theorem dX2_sends_26 : decode cX2_sends 26 = .ok (.iload_n 1, 1) := by decide +kernel
theorem dX2_sends_27 : decode cX2_sends 27 = .ok (.imul, 1) := by decide +kernel
theorem dX2_sends_28 : decode cX2_sends 28 = .ok (.iconst 2, 1) := by decide +kernel
theorem dX2_sends_29 : decode cX2_sends 29 = .ok (.iadd, 1) := by decide +kernel
theorem dX2_sends_30 : decode cX2_sends 30 = .ok (.iload_n 2, 1) := by decide +kernel
theorem dX2_sends_31 : decode cX2_sends 31 = .ok (.iadd, 1) := by decide +kernel
theorem dX2_sends_32 : decode cX2_sends 32 = .ok (.imul, 1) := by decide +kernel
theorem dX2_sends_33 : decode cX2_sends 33 = .ok (.aload_n 0, 1) := by decide +kernel
theorem dX2_sends_34 : decode cX2_sends 34 = .ok (.getfield 79, 3) := by decide +kernel
theorem dX2_sends_37 : decode cX2_sends 37 = .ok (.iadd, 1) := by decide +kernel
theorem dX2_sends_38 : decode cX2_sends 38 = .ok (.aload_n 0, 1) := by decide +kernel
theorem dX2_sends_39 : decode cX2_sends 39 = .ok (.getfield 16, 3) := by decide +kernel
theorem dX2_sends_42 : decode cX2_sends 42 = .ok (.iload_n 1, 1) := by decide +kernel
theorem dX2_sends_43 : decode cX2_sends 43 = .ok (.iaload, 1) := by decide +kernel
theorem dX2_sends_44 : decode cX2_sends 44 = .ok (.iadd, 1) := by decide +kernel
theorem dX2_sends_45 : decode cX2_sends 45 = .ok (.dup2, 1) := by decide +kernel
theorem dX2_sends_46 : decode cX2_sends 46 = .ok (.iaload, 1) := by decide +kernel
theorem dX2_sends_47 : decode cX2_sends 47 = .ok (.iload_n 3, 1) := by decide +kernel
theorem dX2_sends_48 : decode cX2_sends 48 = .ok (.iadd, 1) := by decide +kernel
theorem dX2_sends_49 : decode cX2_sends 49 = .ok (.iastore, 1) := by decide +kernel
theorem dX2_sends_50 : decode cX2_sends 50 = .ok (.return_, 1) := by decide +kernel
theorem dX2_works_0 : decode cX2_works 0 = .ok (.iconst 2, 1) := by decide +kernel
theorem dX2_works_1 : decode cX2_works 1 = .ok (.iload_n 1, 1) := by decide +kernel
theorem dX2_works_2 : decode cX2_works 2 = .ok (.imul, 1) := by decide +kernel
theorem dX2_works_3 : decode cX2_works 3 = .ok (.istore_n 2, 1) := by decide +kernel
theorem dX2_works_4 : decode cX2_works 4 = .ok (.iload_n 2, 1) := by decide +kernel
theorem dX2_works_5 : decode cX2_works 5 = .ok (.iconst 1, 1) := by decide +kernel
theorem dX2_works_6 : decode cX2_works 6 = .ok (.iadd, 1) := by decide +kernel
theorem dX2_works_7 : decode cX2_works 7 = .ok (.istore_n 3, 1) := by decide +kernel
theorem dX2_works_8 : decode cX2_works 8 = .ok (.iconst 0, 1) := by decide +kernel
theorem dX2_works_9 : decode cX2_works 9 = .ok (.istore 4, 2) := by decide +kernel
theorem dX2_works_11 : decode cX2_works 11 = .ok (.iload 4, 2) := by decide +kernel
theorem dX2_works_13 : decode cX2_works 13 = .ok (.iconst 2, 1) := by decide +kernel
theorem dX2_works_14 : decode cX2_works 14 = .ok (.if_icmp .ge 58, 3) := by decide +kernel
theorem dX2_works_17 : decode cX2_works 17 = .ok (.aload_n 0, 1) := by decide +kernel
theorem dX2_works_18 : decode cX2_works 18 = .ok (.getfield 34, 3) := by decide +kernel
theorem dX2_works_21 : decode cX2_works 21 = .ok (.iload_n 2, 1) := by decide +kernel
theorem dX2_works_22 : decode cX2_works 22 = .ok (.iload 4, 2) := by decide +kernel
theorem dX2_works_24 : decode cX2_works 24 = .ok (.iadd, 1) := by decide +kernel
theorem dX2_works_25 : decode cX2_works 25 = .ok (.dup2, 1) := by decide +kernel
theorem dX2_works_26 : decode cX2_works 26 = .ok (.iaload, 1) := by decide +kernel
theorem dX2_works_27 : decode cX2_works 27 = .ok (.aload_n 0, 1) := by decide +kernel
theorem dX2_works_28 : decode cX2_works 28 = .ok (.getfield 37, 3) := by decide +kernel
theorem dX2_works_31 : decode cX2_works 31 = .ok (.sipush 210, 3) := by decide +kernel
theorem dX2_works_34 : decode cX2_works 34 = .ok (.iload_n 2, 1) := by decide +kernel
theorem dX2_works_35 : decode cX2_works 35 = .ok (.iload 4, 2) := by decide +kernel
theorem dX2_works_37 : decode cX2_works 37 = .ok (.iadd, 1) := by decide +kernel
theorem dX2_works_38 : decode cX2_works 38 = .ok (.imul, 1) := by decide +kernel
theorem dX2_works_39 : decode cX2_works 39 = .ok (.aload_n 0, 1) := by decide +kernel
theorem dX2_works_40 : decode cX2_works 40 = .ok (.getfield 79, 3) := by decide +kernel
theorem dX2_works_43 : decode cX2_works 43 = .ok (.iadd, 1) := by decide +kernel
theorem dX2_works_44 : decode cX2_works 44 = .ok (.iaload, 1) := by decide +kernel
theorem dX2_works_45 : decode cX2_works 45 = .ok (.iadd, 1) := by decide +kernel
theorem dX2_works_46 : decode cX2_works 46 = .ok (.iastore, 1) := by decide +kernel
theorem dX2_works_47 : decode cX2_works 47 = .ok (.aload_n 0, 1) := by decide +kernel
theorem dX2_works_48 : decode cX2_works 48 = .ok (.getfield 37, 3) := by decide +kernel
theorem dX2_works_51 : decode cX2_works 51 = .ok (.sipush 210, 3) := by decide +kernel
theorem dX2_works_54 : decode cX2_works 54 = .ok (.iload_n 2, 1) := by decide +kernel
theorem dX2_works_55 : decode cX2_works 55 = .ok (.iload 4, 2) := by decide +kernel
theorem dX2_works_57 : decode cX2_works 57 = .ok (.iadd, 1) := by decide +kernel
theorem dX2_works_58 : decode cX2_works 58 = .ok (.imul, 1) := by decide +kernel
theorem dX2_works_59 : decode cX2_works 59 = .ok (.aload_n 0, 1) := by decide +kernel
theorem dX2_works_60 : decode cX2_works 60 = .ok (.getfield 79, 3) := by decide +kernel
theorem dX2_works_63 : decode cX2_works 63 = .ok (.iadd, 1) := by decide +kernel
theorem dX2_works_64 : decode cX2_works 64 = .ok (.iconst 0, 1) := by decide +kernel
theorem dX2_works_65 : decode cX2_works 65 = .ok (.iastore, 1) := by decide +kernel
theorem dX2_works_66 : decode cX2_works 66 = .ok (.iinc 4 1, 3) := by decide +kernel
theorem dX2_works_69 : decode cX2_works 69 = .ok (.goto (-58), 3) := by decide +kernel
theorem dX2_works_72 : decode cX2_works 72 = .ok (.aload_n 0, 1) := by decide +kernel
theorem dX2_works_73 : decode cX2_works 73 = .ok (.getfield 19, 3) := by decide +kernel
theorem dX2_works_76 : decode cX2_works 76 = .ok (.iload_n 1, 1) := by decide +kernel
theorem dX2_works_77 : decode cX2_works 77 = .ok (.iaload, 1) := by decide +kernel
theorem dX2_works_78 : decode cX2_works 78 = .ok (.aload_n 0, 1) := by decide +kernel
theorem dX2_works_79 : decode cX2_works 79 = .ok (.getfield 22, 3) := by decide +kernel
theorem dX2_works_82 : decode cX2_works 82 = .ok (.iload_n 1, 1) := by decide +kernel
theorem dX2_works_83 : decode cX2_works 83 = .ok (.iaload, 1) := by decide +kernel
theorem dX2_works_84 : decode cX2_works 84 = .ok (.imul, 1) := by decide +kernel
theorem dX2_works_85 : decode cX2_works 85 = .ok (.bipush 100, 2) := by decide +kernel
theorem dX2_works_87 : decode cX2_works 87 = .ok (.idiv, 1) := by decide +kernel
theorem dX2_works_88 : decode cX2_works 88 = .ok (.istore 4, 2) := by decide +kernel
theorem dX2_works_90 : decode cX2_works 90 = .ok (.aload_n 0, 1) := by decide +kernel
theorem dX2_works_91 : decode cX2_works 91 = .ok (.getfield 34, 3) := by decide +kernel
theorem dX2_works_94 : decode cX2_works 94 = .ok (.iload_n 2, 1) := by decide +kernel
theorem dX2_works_95 : decode cX2_works 95 = .ok (.dup2, 1) := by decide +kernel
theorem dX2_works_96 : decode cX2_works 96 = .ok (.iaload, 1) := by decide +kernel
theorem dX2_works_97 : decode cX2_works 97 = .ok (.iload 4, 2) := by decide +kernel
theorem dX2_works_99 : decode cX2_works 99 = .ok (.iadd, 1) := by decide +kernel
theorem dX2_works_100 : decode cX2_works 100 = .ok (.iastore, 1) := by decide +kernel
theorem dX2_works_101 : decode cX2_works 101 = .ok (.aload_n 0, 1) := by decide +kernel
theorem dX2_works_102 : decode cX2_works 102 = .ok (.getfield 34, 3) := by decide +kernel
theorem dX2_works_105 : decode cX2_works 105 = .ok (.iload_n 3, 1) := by decide +kernel
theorem dX2_works_106 : decode cX2_works 106 = .ok (.dup2, 1) := by decide +kernel
theorem dX2_works_107 : decode cX2_works 107 = .ok (.iaload, 1) := by decide +kernel
theorem dX2_works_108 : decode cX2_works 108 = .ok (.aload_n 0, 1) := by decide +kernel
theorem dX2_works_109 : decode cX2_works 109 = .ok (.getfield 19, 3) := by decide +kernel
theorem dX2_works_112 : decode cX2_works 112 = .ok (.iload_n 1, 1) := by decide +kernel
theorem dX2_works_113 : decode cX2_works 113 = .ok (.iaload, 1) := by decide +kernel
theorem dX2_works_114 : decode cX2_works 114 = .ok (.iload 4, 2) := by decide +kernel
theorem dX2_works_116 : decode cX2_works 116 = .ok (.isub, 1) := by decide +kernel
theorem dX2_works_117 : decode cX2_works 117 = .ok (.iadd, 1) := by decide +kernel
theorem dX2_works_118 : decode cX2_works 118 = .ok (.iastore, 1) := by decide +kernel
theorem dX2_works_119 : decode cX2_works 119 = .ok (.aload_n 0, 1) := by decide +kernel
theorem dX2_works_120 : decode cX2_works 120 = .ok (.getfield 40, 3) := by decide +kernel
theorem dX2_works_123 : decode cX2_works 123 = .ok (.iconst 0, 1) := by decide +kernel
theorem dX2_works_124 : decode cX2_works 124 = .ok (.dup2, 1) := by decide +kernel
theorem dX2_works_125 : decode cX2_works 125 = .ok (.iaload, 1) := by decide +kernel
theorem dX2_works_126 : decode cX2_works 126 = .ok (.iload 4, 2) := by decide +kernel
theorem dX2_works_128 : decode cX2_works 128 = .ok (.iadd, 1) := by decide +kernel
theorem dX2_works_129 : decode cX2_works 129 = .ok (.iastore, 1) := by decide +kernel
theorem dX2_works_130 : decode cX2_works 130 = .ok (.aload_n 0, 1) := by decide +kernel
theorem dX2_works_131 : decode cX2_works 131 = .ok (.getfield 40, 3) := by decide +kernel
theorem dX2_works_134 : decode cX2_works 134 = .ok (.iconst 1, 1) := by decide +kernel
theorem dX2_works_135 : decode cX2_works 135 = .ok (.dup2, 1) := by decide +kernel
theorem dX2_works_136 : decode cX2_works 136 = .ok (.iaload, 1) := by decide +kernel
theorem dX2_works_137 : decode cX2_works 137 = .ok (.aload_n 0, 1) := by decide +kernel
theorem dX2_works_138 : decode cX2_works 138 = .ok (.getfield 19, 3) := by decide +kernel
theorem dX2_works_141 : decode cX2_works 141 = .ok (.iload_n 1, 1) := by decide +kernel
theorem dX2_works_142 : decode cX2_works 142 = .ok (.iaload, 1) := by decide +kernel
theorem dX2_works_143 : decode cX2_works 143 = .ok (.iload 4, 2) := by decide +kernel
theorem dX2_works_145 : decode cX2_works 145 = .ok (.isub, 1) := by decide +kernel
theorem dX2_works_146 : decode cX2_works 146 = .ok (.iadd, 1) := by decide +kernel
theorem dX2_works_147 : decode cX2_works 147 = .ok (.iastore, 1) := by decide +kernel
theorem dX2_works_148 : decode cX2_works 148 = .ok (.aload_n 0, 1) := by decide +kernel
theorem dX2_works_149 : decode cX2_works 149 = .ok (.getfield 13, 3) := by decide +kernel
theorem dX2_works_152 : decode cX2_works 152 = .ok (.iload_n 1, 1) := by decide +kernel
theorem dX2_works_153 : decode cX2_works 153 = .ok (.iaload, 1) := by decide +kernel
theorem dX2_works_154 : decode cX2_works 154 = .ok (.aload_n 0, 1) := by decide +kernel
theorem dX2_works_155 : decode cX2_works 155 = .ok (.iload_n 1, 1) := by decide +kernel
theorem dX2_works_156 : decode cX2_works 156 = .ok (.invokevirtual 82, 3) := by decide +kernel
theorem dX2_works_159 : decode cX2_works 159 = .ok (.iconst 5, 1) := by decide +kernel
theorem dX2_works_160 : decode cX2_works 160 = .ok (.idiv, 1) := by decide +kernel
theorem dX2_works_161 : decode cX2_works 161 = .ok (.iadd, 1) := by decide +kernel
theorem dX2_works_162 : decode cX2_works 162 = .ok (.istore 5, 2) := by decide +kernel
theorem dX2_works_164 : decode cX2_works 164 = .ok (.aload_n 0, 1) := by decide +kernel
theorem dX2_works_165 : decode cX2_works 165 = .ok (.getfield 28, 3) := by decide +kernel
theorem dX2_works_168 : decode cX2_works 168 = .ok (.iload_n 2, 1) := by decide +kernel
theorem dX2_works_169 : decode cX2_works 169 = .ok (.iaload, 1) := by decide +kernel
theorem dX2_works_170 : decode cX2_works 170 = .ok (.istore 6, 2) := by decide +kernel
theorem dX2_works_172 : decode cX2_works 172 = .ok (.aload_n 0, 1) := by decide +kernel
theorem dX2_works_173 : decode cX2_works 173 = .ok (.getfield 28, 3) := by decide +kernel
theorem dX2_works_176 : decode cX2_works 176 = .ok (.iload_n 3, 1) := by decide +kernel
theorem dX2_works_177 : decode cX2_works 177 = .ok (.iaload, 1) := by decide +kernel
theorem dX2_works_178 : decode cX2_works 178 = .ok (.istore 7, 2) := by decide +kernel
theorem dX2_works_180 : decode cX2_works 180 = .ok (.aload_n 0, 1) := by decide +kernel
theorem dX2_works_181 : decode cX2_works 181 = .ok (.getfield 25, 3) := by decide +kernel
theorem dX2_works_184 : decode cX2_works 184 = .ok (.iload_n 1, 1) := by decide +kernel
theorem dX2_works_185 : decode cX2_works 185 = .ok (.iaload, 1) := by decide +kernel
theorem dX2_works_186 : decode cX2_works 186 = .ok (.iload 6, 2) := by decide +kernel
theorem dX2_works_188 : decode cX2_works 188 = .ok (.isub, 1) := by decide +kernel
theorem dX2_works_189 : decode cX2_works 189 = .ok (.iload 7, 2) := by decide +kernel
theorem dX2_works_191 : decode cX2_works 191 = .ok (.isub, 1) := by decide +kernel
theorem dX2_works_192 : decode cX2_works 192 = .ok (.istore 8, 2) := by decide +kernel
theorem dX2_works_194 : decode cX2_works 194 = .ok (.iload 6, 2) := by decide +kernel
theorem dX2_works_196 : decode cX2_works 196 = .ok (.iload 8, 2) := by decide +kernel
theorem dX2_works_198 : decode cX2_works 198 = .ok (.ifCond .le 16, 3) := by decide +kernel
theorem dX2_works_201 : decode cX2_works 201 = .ok (.aload_n 0, 1) := by decide +kernel
theorem dX2_works_202 : decode cX2_works 202 = .ok (.iload_n 1, 1) := by decide +kernel
theorem dX2_works_203 : decode cX2_works 203 = .ok (.invokevirtual 86, 3) := by decide +kernel
theorem dX2_works_206 : decode cX2_works 206 = .ok (.ifCond .ne 8, 3) := by decide +kernel
theorem dX2_works_209 : decode cX2_works 209 = .ok (.iload 8, 2) := by decide +kernel
theorem dX2_works_211 : decode cX2_works 211 = .ok (.goto 4, 3) := by decide +kernel
theorem dX2_works_214 : decode cX2_works 214 = .ok (.iconst 0, 1) := by decide +kernel
theorem dX2_works_215 : decode cX2_works 215 = .ok (.iadd, 1) := by decide +kernel
theorem dX2_works_216 : decode cX2_works 216 = .ok (.istore 6, 2) := by decide +kernel
theorem dX2_works_218 : decode cX2_works 218 = .ok (.iload 7, 2) := by decide +kernel
theorem dX2_works_220 : decode cX2_works 220 = .ok (.iload 8, 2) := by decide +kernel
theorem dX2_works_222 : decode cX2_works 222 = .ok (.ifCond .le 17, 3) := by decide +kernel
theorem dX2_works_225 : decode cX2_works 225 = .ok (.aload_n 0, 1) := by decide +kernel
theorem dX2_works_226 : decode cX2_works 226 = .ok (.iload_n 1, 1) := by decide +kernel
theorem dX2_works_227 : decode cX2_works 227 = .ok (.invokevirtual 86, 3) := by decide +kernel
theorem dX2_works_230 : decode cX2_works 230 = .ok (.iconst 1, 1) := by decide +kernel
theorem dX2_works_231 : decode cX2_works 231 = .ok (.if_icmp .ne 8, 3) := by decide +kernel
theorem dX2_works_234 : decode cX2_works 234 = .ok (.iload 8, 2) := by decide +kernel
theorem dX2_works_236 : decode cX2_works 236 = .ok (.goto 4, 3) := by decide +kernel
theorem dX2_works_239 : decode cX2_works 239 = .ok (.iconst 0, 1) := by decide +kernel
theorem dX2_works_240 : decode cX2_works 240 = .ok (.iadd, 1) := by decide +kernel
theorem dX2_works_241 : decode cX2_works 241 = .ok (.istore 7, 2) := by decide +kernel
theorem dX2_works_243 : decode cX2_works 243 = .ok (.iload 6, 2) := by decide +kernel
theorem dX2_works_245 : decode cX2_works 245 = .ok (.iload 7, 2) := by decide +kernel
theorem dX2_works_247 : decode cX2_works 247 = .ok (.iadd, 1) := by decide +kernel
theorem dX2_works_248 : decode cX2_works 248 = .ok (.aload_n 0, 1) := by decide +kernel
theorem dX2_works_249 : decode cX2_works 249 = .ok (.iload_n 1, 1) := by decide +kernel
theorem dX2_works_250 : decode cX2_works 250 = .ok (.invokevirtual 82, 3) := by decide +kernel
theorem dX2_works_253 : decode cX2_works 253 = .ok (.isub, 1) := by decide +kernel
theorem dX2_works_254 : decode cX2_works 254 = .ok (.istore 9, 2) := by decide +kernel
theorem dX2_works_256 : decode cX2_works 256 = .ok (.iload 9, 2) := by decide +kernel
theorem dX2_works_258 : decode cX2_works 258 = .ok (.ifCond .le 101, 3) := by decide +kernel
theorem dX2_works_261 : decode cX2_works 261 = .ok (.aload_n 0, 1) := by decide +kernel
theorem dX2_works_262 : decode cX2_works 262 = .ok (.getfield 34, 3) := by decide +kernel
theorem dX2_works_265 : decode cX2_works 265 = .ok (.iload_n 2, 1) := by decide +kernel
theorem dX2_works_266 : decode cX2_works 266 = .ok (.iaload, 1) := by decide +kernel
theorem dX2_works_267 : decode cX2_works 267 = .ok (.iload 6, 2) := by decide +kernel
theorem dX2_works_269 : decode cX2_works 269 = .ok (.isub, 1) := by decide +kernel
theorem dX2_works_270 : decode cX2_works 270 = .ok (.aload_n 0, 1) := by decide +kernel
theorem dX2_works_271 : decode cX2_works 271 = .ok (.getfield 34, 3) := by decide +kernel
theorem dX2_works_274 : decode cX2_works 274 = .ok (.iload_n 3, 1) := by decide +kernel
theorem dX2_works_275 : decode cX2_works 275 = .ok (.iaload, 1) := by decide +kernel
theorem dX2_works_276 : decode cX2_works 276 = .ok (.iload 7, 2) := by decide +kernel
theorem dX2_works_278 : decode cX2_works 278 = .ok (.isub, 1) := by decide +kernel
theorem dX2_works_279 : decode cX2_works 279 = .ok (.if_icmp .ge 7, 3) := by decide +kernel
theorem dX2_works_282 : decode cX2_works 282 = .ok (.iconst 1, 1) := by decide +kernel
theorem dX2_works_283 : decode cX2_works 283 = .ok (.goto 4, 3) := by decide +kernel
theorem dX2_works_286 : decode cX2_works 286 = .ok (.iconst 0, 1) := by decide +kernel
theorem dX2_works_287 : decode cX2_works 287 = .ok (.istore 10, 2) := by decide +kernel
theorem dX2_works_289 : decode cX2_works 289 = .ok (.iload 10, 2) := by decide +kernel
theorem dX2_works_291 : decode cX2_works 291 = .ok (.ifCond .eq 8, 3) := by decide +kernel
theorem dX2_works_294 : decode cX2_works 294 = .ok (.iload 6, 2) := by decide +kernel
theorem dX2_works_296 : decode cX2_works 296 = .ok (.goto 5, 3) := by decide +kernel
theorem dX2_works_299 : decode cX2_works 299 = .ok (.iload 7, 2) := by decide +kernel
theorem dX2_works_301 : decode cX2_works 301 = .ok (.istore 11, 2) := by decide +kernel
theorem dX2_works_303 : decode cX2_works 303 = .ok (.iload 11, 2) := by decide +kernel
theorem dX2_works_305 : decode cX2_works 305 = .ok (.iload 9, 2) := by decide +kernel
theorem dX2_works_307 : decode cX2_works 307 = .ok (.if_icmp .ge 8, 3) := by decide +kernel
theorem dX2_works_310 : decode cX2_works 310 = .ok (.iload 11, 2) := by decide +kernel
theorem dX2_works_312 : decode cX2_works 312 = .ok (.goto 5, 3) := by decide +kernel
theorem dX2_works_315 : decode cX2_works 315 = .ok (.iload 9, 2) := by decide +kernel
theorem dX2_works_317 : decode cX2_works 317 = .ok (.istore 11, 2) := by decide +kernel
theorem dX2_works_319 : decode cX2_works 319 = .ok (.iload 6, 2) := by decide +kernel
theorem dX2_works_321 : decode cX2_works 321 = .ok (.iload 10, 2) := by decide +kernel
theorem dX2_works_323 : decode cX2_works 323 = .ok (.ifCond .eq 8, 3) := by decide +kernel
theorem dX2_works_326 : decode cX2_works 326 = .ok (.iload 11, 2) := by decide +kernel
theorem dX2_works_328 : decode cX2_works 328 = .ok (.goto 8, 3) := by decide +kernel
theorem dX2_works_331 : decode cX2_works 331 = .ok (.iload 9, 2) := by decide +kernel
theorem dX2_works_333 : decode cX2_works 333 = .ok (.iload 11, 2) := by decide +kernel
theorem dX2_works_335 : decode cX2_works 335 = .ok (.isub, 1) := by decide +kernel
theorem dX2_works_336 : decode cX2_works 336 = .ok (.isub, 1) := by decide +kernel
theorem dX2_works_337 : decode cX2_works 337 = .ok (.istore 6, 2) := by decide +kernel
theorem dX2_works_339 : decode cX2_works 339 = .ok (.iload 7, 2) := by decide +kernel
theorem dX2_works_341 : decode cX2_works 341 = .ok (.iload 10, 2) := by decide +kernel
theorem dX2_works_343 : decode cX2_works 343 = .ok (.ifCond .eq 11, 3) := by decide +kernel
theorem dX2_works_346 : decode cX2_works 346 = .ok (.iload 9, 2) := by decide +kernel
theorem dX2_works_348 : decode cX2_works 348 = .ok (.iload 11, 2) := by decide +kernel
theorem dX2_works_350 : decode cX2_works 350 = .ok (.isub, 1) := by decide +kernel
theorem dX2_works_351 : decode cX2_works 351 = .ok (.goto 5, 3) := by decide +kernel
theorem dX2_works_354 : decode cX2_works 354 = .ok (.iload 11, 2) := by decide +kernel
theorem dX2_works_356 : decode cX2_works 356 = .ok (.isub, 1) := by decide +kernel
theorem dX2_works_357 : decode cX2_works 357 = .ok (.istore 7, 2) := by decide +kernel
theorem dX2_works_359 : decode cX2_works 359 = .ok (.aload_n 0, 1) := by decide +kernel
theorem dX2_works_360 : decode cX2_works 360 = .ok (.getfield 34, 3) := by decide +kernel
theorem dX2_works_363 : decode cX2_works 363 = .ok (.iload_n 2, 1) := by decide +kernel
theorem dX2_works_364 : decode cX2_works 364 = .ok (.dup2, 1) := by decide +kernel
theorem dX2_works_365 : decode cX2_works 365 = .ok (.iaload, 1) := by decide +kernel
theorem dX2_works_366 : decode cX2_works 366 = .ok (.iload 6, 2) := by decide +kernel
theorem dX2_works_368 : decode cX2_works 368 = .ok (.isub, 1) := by decide +kernel
theorem dX2_works_369 : decode cX2_works 369 = .ok (.iastore, 1) := by decide +kernel
theorem dX2_works_370 : decode cX2_works 370 = .ok (.aload_n 0, 1) := by decide +kernel
theorem dX2_works_371 : decode cX2_works 371 = .ok (.getfield 34, 3) := by decide +kernel
theorem dX2_works_374 : decode cX2_works 374 = .ok (.iload_n 3, 1) := by decide +kernel
theorem dX2_works_375 : decode cX2_works 375 = .ok (.dup2, 1) := by decide +kernel
theorem dX2_works_376 : decode cX2_works 376 = .ok (.iaload, 1) := by decide +kernel
theorem dX2_works_377 : decode cX2_works 377 = .ok (.iload 7, 2) := by decide +kernel
theorem dX2_works_379 : decode cX2_works 379 = .ok (.isub, 1) := by decide +kernel
theorem dX2_works_380 : decode cX2_works 380 = .ok (.iastore, 1) := by decide +kernel
theorem dX2_works_381 : decode cX2_works 381 = .ok (.aload_n 0, 1) := by decide +kernel
theorem dX2_works_382 : decode cX2_works 382 = .ok (.iload_n 1, 1) := by decide +kernel
theorem dX2_works_383 : decode cX2_works 383 = .ok (.iconst 0, 1) := by decide +kernel
theorem dX2_works_384 : decode cX2_works 384 = .ok (.iload 6, 2) := by decide +kernel
theorem dX2_works_386 : decode cX2_works 386 = .ok (.invokevirtual 89, 3) := by decide +kernel
theorem dX2_works_389 : decode cX2_works 389 = .ok (.aload_n 0, 1) := by decide +kernel
theorem dX2_works_390 : decode cX2_works 390 = .ok (.iload_n 1, 1) := by decide +kernel
theorem dX2_works_391 : decode cX2_works 391 = .ok (.iconst 1, 1) := by decide +kernel
theorem dX2_works_392 : decode cX2_works 392 = .ok (.iload 7, 2) := by decide +kernel
theorem dX2_works_394 : decode cX2_works 394 = .ok (.invokevirtual 89, 3) := by decide +kernel
theorem dX2_works_397 : decode cX2_works 397 = .ok (.aload_n 0, 1) := by decide +kernel
theorem dX2_works_398 : decode cX2_works 398 = .ok (.getfield 52, 3) := by decide +kernel
theorem dX2_works_401 : decode cX2_works 401 = .ok (.iload_n 1, 1) := by decide +kernel
theorem dX2_works_402 : decode cX2_works 402 = .ok (.dup2, 1) := by decide +kernel
theorem dX2_works_403 : decode cX2_works 403 = .ok (.iaload, 1) := by decide +kernel
theorem dX2_works_404 : decode cX2_works 404 = .ok (.iload 6, 2) := by decide +kernel
theorem dX2_works_406 : decode cX2_works 406 = .ok (.iload 7, 2) := by decide +kernel
theorem dX2_works_408 : decode cX2_works 408 = .ok (.iadd, 1) := by decide +kernel
theorem dX2_works_409 : decode cX2_works 409 = .ok (.aload_n 0, 1) := by decide +kernel
theorem dX2_works_410 : decode cX2_works 410 = .ok (.getfield 25, 3) := by decide +kernel
theorem dX2_works_413 : decode cX2_works 413 = .ok (.iload_n 1, 1) := by decide +kernel
theorem dX2_works_414 : decode cX2_works 414 = .ok (.iaload, 1) := by decide +kernel
theorem dX2_works_415 : decode cX2_works 415 = .ok (.if_icmp .ge 7, 3) := by decide +kernel
theorem dX2_works_418 : decode cX2_works 418 = .ok (.iconst 1, 1) := by decide +kernel
theorem dX2_works_419 : decode cX2_works 419 = .ok (.goto 4, 3) := by decide +kernel
theorem dX2_works_422 : decode cX2_works 422 = .ok (.iconst 0, 1) := by decide +kernel
theorem dX2_works_423 : decode cX2_works 423 = .ok (.iadd, 1) := by decide +kernel
theorem dX2_works_424 : decode cX2_works 424 = .ok (.iastore, 1) := by decide +kernel
theorem dX2_works_425 : decode cX2_works 425 = .ok (.aload_n 0, 1) := by decide +kernel
theorem dX2_works_426 : decode cX2_works 426 = .ok (.getfield 55, 3) := by decide +kernel
theorem dX2_works_429 : decode cX2_works 429 = .ok (.iload_n 1, 1) := by decide +kernel
theorem dX2_works_430 : decode cX2_works 430 = .ok (.iload 6, 2) := by decide +kernel
theorem dX2_works_432 : decode cX2_works 432 = .ok (.iload 7, 2) := by decide +kernel
theorem dX2_works_434 : decode cX2_works 434 = .ok (.iadd, 1) := by decide +kernel
theorem dX2_works_435 : decode cX2_works 435 = .ok (.bipush 16, 2) := by decide +kernel
theorem dX2_works_437 : decode cX2_works 437 = .ok (.if_icmp .ge 11, 3) := by decide +kernel
theorem dX2_works_440 : decode cX2_works 440 = .ok (.iload 6, 2) := by decide +kernel
theorem dX2_works_442 : decode cX2_works 442 = .ok (.iload 7, 2) := by decide +kernel
theorem dX2_works_444 : decode cX2_works 444 = .ok (.iadd, 1) := by decide +kernel
theorem dX2_works_445 : decode cX2_works 445 = .ok (.goto 5, 3) := by decide +kernel
theorem dX2_works_448 : decode cX2_works 448 = .ok (.bipush 16, 2) := by decide +kernel
theorem dX2_works_450 : decode cX2_works 450 = .ok (.iastore, 1) := by decide +kernel
theorem dX2_works_451 : decode cX2_works 451 = .ok (.aload_n 0, 1) := by decide +kernel
theorem dX2_works_452 : decode cX2_works 452 = .ok (.getfield 58, 3) := by decide +kernel
theorem dX2_works_455 : decode cX2_works 455 = .ok (.iload_n 1, 1) := by decide +kernel
theorem dX2_works_456 : decode cX2_works 456 = .ok (.dup2, 1) := by decide +kernel
theorem dX2_works_457 : decode cX2_works 457 = .ok (.iaload, 1) := by decide +kernel
theorem dX2_works_458 : decode cX2_works 458 = .ok (.aload_n 0, 1) := by decide +kernel
theorem dX2_works_459 : decode cX2_works 459 = .ok (.iload_n 1, 1) := by decide +kernel
theorem dX2_works_460 : decode cX2_works 460 = .ok (.aload_n 0, 1) := by decide +kernel
theorem dX2_works_461 : decode cX2_works 461 = .ok (.getfield 55, 3) := by decide +kernel
theorem dX2_works_464 : decode cX2_works 464 = .ok (.iload_n 1, 1) := by decide +kernel
theorem dX2_works_465 : decode cX2_works 465 = .ok (.iaload, 1) := by decide +kernel
theorem dX2_works_466 : decode cX2_works 466 = .ok (.invokevirtual 93, 3) := by decide +kernel
theorem dX2_works_469 : decode cX2_works 469 = .ok (.iload 5, 2) := by decide +kernel
theorem dX2_works_471 : decode cX2_works 471 = .ok (.imul, 1) := by decide +kernel
theorem dX2_works_472 : decode cX2_works 472 = .ok (.bipush 10, 2) := by decide +kernel
theorem dX2_works_474 : decode cX2_works 474 = .ok (.idiv, 1) := by decide +kernel
theorem dX2_works_475 : decode cX2_works 475 = .ok (.iadd, 1) := by decide +kernel
theorem dX2_works_476 : decode cX2_works 476 = .ok (.iastore, 1) := by decide +kernel
theorem dX2_works_477 : decode cX2_works 477 = .ok (.aload_n 0, 1) := by decide +kernel
theorem dX2_works_478 : decode cX2_works 478 = .ok (.iload_n 1, 1) := by decide +kernel
theorem dX2_works_479 : decode cX2_works 479 = .ok (.invokevirtual 82, 3) := by decide +kernel
theorem dX2_works_482 : decode cX2_works 482 = .ok (.aload_n 0, 1) := by decide +kernel
theorem dX2_works_483 : decode cX2_works 483 = .ok (.getfield 7, 3) := by decide +kernel
theorem dX2_works_486 : decode cX2_works 486 = .ok (.iload_n 1, 1) := by decide +kernel
theorem dX2_works_487 : decode cX2_works 487 = .ok (.iaload, 1) := by decide +kernel
theorem dX2_works_488 : decode cX2_works 488 = .ok (.isub, 1) := by decide +kernel
theorem dX2_works_489 : decode cX2_works 489 = .ok (.istore 10, 2) := by decide +kernel
theorem dX2_works_491 : decode cX2_works 491 = .ok (.iload 10, 2) := by decide +kernel
theorem dX2_works_493 : decode cX2_works 493 = .ok (.ifCond .le 44, 3) := by decide +kernel
theorem dX2_works_496 : decode cX2_works 496 = .ok (.aload_n 0, 1) := by decide +kernel
theorem dX2_works_497 : decode cX2_works 497 = .ok (.iload_n 1, 1) := by decide +kernel
theorem dX2_works_498 : decode cX2_works 498 = .ok (.invokevirtual 86, 3) := by decide +kernel
theorem dX2_works_501 : decode cX2_works 501 = .ok (.istore 11, 2) := by decide +kernel
theorem dX2_works_503 : decode cX2_works 503 = .ok (.aload_n 0, 1) := by decide +kernel
theorem dX2_works_504 : decode cX2_works 504 = .ok (.getfield 34, 3) := by decide +kernel
theorem dX2_works_507 : decode cX2_works 507 = .ok (.iload_n 2, 1) := by decide +kernel
theorem dX2_works_508 : decode cX2_works 508 = .ok (.iload 11, 2) := by decide +kernel
theorem dX2_works_510 : decode cX2_works 510 = .ok (.iadd, 1) := by decide +kernel
theorem dX2_works_511 : decode cX2_works 511 = .ok (.dup2, 1) := by decide +kernel
theorem dX2_works_512 : decode cX2_works 512 = .ok (.iaload, 1) := by decide +kernel
theorem dX2_works_513 : decode cX2_works 513 = .ok (.iload 10, 2) := by decide +kernel
theorem dX2_works_515 : decode cX2_works 515 = .ok (.isub, 1) := by decide +kernel
theorem dX2_works_516 : decode cX2_works 516 = .ok (.iastore, 1) := by decide +kernel
theorem dX2_works_517 : decode cX2_works 517 = .ok (.aload_n 0, 1) := by decide +kernel
theorem dX2_works_518 : decode cX2_works 518 = .ok (.getfield 49, 3) := by decide +kernel
theorem dX2_works_521 : decode cX2_works 521 = .ok (.iload_n 1, 1) := by decide +kernel
theorem dX2_works_522 : decode cX2_works 522 = .ok (.dup2, 1) := by decide +kernel
theorem dX2_works_523 : decode cX2_works 523 = .ok (.iaload, 1) := by decide +kernel
theorem dX2_works_524 : decode cX2_works 524 = .ok (.iload 10, 2) := by decide +kernel
theorem dX2_works_526 : decode cX2_works 526 = .ok (.iadd, 1) := by decide +kernel
theorem dX2_works_527 : decode cX2_works 527 = .ok (.iastore, 1) := by decide +kernel
theorem dX2_works_528 : decode cX2_works 528 = .ok (.aload_n 0, 1) := by decide +kernel
theorem dX2_works_529 : decode cX2_works 529 = .ok (.iload_n 1, 1) := by decide +kernel
theorem dX2_works_530 : decode cX2_works 530 = .ok (.iload 11, 2) := by decide +kernel
theorem dX2_works_532 : decode cX2_works 532 = .ok (.iload 10, 2) := by decide +kernel
theorem dX2_works_534 : decode cX2_works 534 = .ok (.invokevirtual 89, 3) := by decide +kernel
theorem dX2_works_537 : decode cX2_works 537 = .ok (.return_, 1) := by decide +kernel
theorem dX2_run_0 : decode cX2_run 0 = .ok (.aload_n 0, 1) := by decide +kernel
theorem dX2_run_1 : decode cX2_run 1 = .ok (.iload_n 1, 1) := by decide +kernel
theorem dX2_run_2 : decode cX2_run 2 = .ok (.iconst 1, 1) := by decide +kernel
theorem dX2_run_3 : decode cX2_run 3 = .ok (.bipush 24, 2) := by decide +kernel
theorem dX2_run_5 : decode cX2_run 5 = .ok (.invokestatic 68, 3) := by decide +kernel
theorem dX2_run_8 : decode cX2_run 8 = .ok (.ifCond .ne 7, 3) := by decide +kernel
theorem dX2_run_11 : decode cX2_run 11 = .ok (.iconst 1, 1) := by decide +kernel
theorem dX2_run_12 : decode cX2_run 12 = .ok (.goto 20, 3) := by decide +kernel
theorem dX2_run_15 : decode cX2_run 15 = .ok (.aload_n 0, 1) := by decide +kernel
theorem dX2_run_16 : decode cX2_run 16 = .ok (.getfield 79, 3) := by decide +kernel
theorem dX2_run_19 : decode cX2_run 19 = .ok (.iload_n 1, 1) := by decide +kernel
theorem dX2_run_20 : decode cX2_run 20 = .ok (.iadd, 1) := by decide +kernel
theorem dX2_run_21 : decode cX2_run 21 = .ok (.sipush 200, 3) := by decide +kernel
theorem dX2_run_24 : decode cX2_run 24 = .ok (.if_icmp .le 7, 3) := by decide +kernel
theorem dX2_run_27 : decode cX2_run 27 = .ok (.iconst 2, 1) := by decide +kernel
theorem dX2_run_28 : decode cX2_run 28 = .ok (.goto 4, 3) := by decide +kernel
theorem dX2_run_31 : decode cX2_run 31 = .ok (.iconst 0, 1) := by decide +kernel
theorem dX2_run_32 : decode cX2_run 32 = .ok (.putfield 64, 3) := by decide +kernel
theorem dX2_run_35 : decode cX2_run 35 = .ok (.aload_n 0, 1) := by decide +kernel
theorem dX2_run_36 : decode cX2_run 36 = .ok (.getfield 64, 3) := by decide +kernel
theorem dX2_run_39 : decode cX2_run 39 = .ok (.ifCond .le 5, 3) := by decide +kernel
theorem dX2_run_42 : decode cX2_run 42 = .ok (.iconst 0, 1) := by decide +kernel
theorem dX2_run_43 : decode cX2_run 43 = .ok (.ireturn, 1) := by decide +kernel
theorem dX2_run_44 : decode cX2_run 44 = .ok (.iconst 0, 1) := by decide +kernel
theorem dX2_run_45 : decode cX2_run 45 = .ok (.istore_n 2, 1) := by decide +kernel
theorem dX2_run_46 : decode cX2_run 46 = .ok (.iload_n 2, 1) := by decide +kernel
theorem dX2_run_47 : decode cX2_run 47 = .ok (.iload_n 1, 1) := by decide +kernel
theorem dX2_run_48 : decode cX2_run 48 = .ok (.if_icmp .ge 37, 3) := by decide +kernel
theorem dX2_run_51 : decode cX2_run 51 = .ok (.iconst 0, 1) := by decide +kernel
theorem dX2_run_52 : decode cX2_run 52 = .ok (.istore_n 3, 1) := by decide +kernel
theorem dX2_run_53 : decode cX2_run 53 = .ok (.iload_n 3, 1) := by decide +kernel
theorem dX2_run_54 : decode cX2_run 54 = .ok (.iconst 3, 1) := by decide +kernel
theorem dX2_run_55 : decode cX2_run 55 = .ok (.if_icmp .ge 14, 3) := by decide +kernel
theorem dX2_run_58 : decode cX2_run 58 = .ok (.aload_n 0, 1) := by decide +kernel
theorem dX2_run_59 : decode cX2_run 59 = .ok (.iload_n 3, 1) := by decide +kernel
theorem dX2_run_60 : decode cX2_run 60 = .ok (.invokevirtual 97, 3) := by decide +kernel
theorem dX2_run_63 : decode cX2_run 63 = .ok (.iinc 3 1, 3) := by decide +kernel
theorem dX2_run_66 : decode cX2_run 66 = .ok (.goto (-13), 3) := by decide +kernel
theorem dX2_run_69 : decode cX2_run 69 = .ok (.aload_n 0, 1) := by decide +kernel
theorem dX2_run_70 : decode cX2_run 70 = .ok (.dup, 1) := by decide +kernel
theorem dX2_run_71 : decode cX2_run 71 = .ok (.getfield 79, 3) := by decide +kernel
theorem dX2_run_74 : decode cX2_run 74 = .ok (.iconst 1, 1) := by decide +kernel
theorem dX2_run_75 : decode cX2_run 75 = .ok (.iadd, 1) := by decide +kernel
theorem dX2_run_76 : decode cX2_run 76 = .ok (.putfield 79, 3) := by decide +kernel
theorem dX2_run_79 : decode cX2_run 79 = .ok (.iinc 2 1, 3) := by decide +kernel
theorem dX2_run_82 : decode cX2_run 82 = .ok (.goto (-36), 3) := by decide +kernel
theorem dX2_run_85 : decode cX2_run 85 = .ok (.aload_n 0, 1) := by decide +kernel
theorem dX2_run_86 : decode cX2_run 86 = .ok (.getfield 79, 3) := by decide +kernel
theorem dX2_run_89 : decode cX2_run 89 = .ok (.ireturn, 1) := by decide +kernel
theorem dX2_hour_0 : decode cX2_hour 0 = .ok (.aload_n 0, 1) := by decide +kernel
theorem dX2_hour_1 : decode cX2_hour 1 = .ok (.iconst 0, 1) := by decide +kernel
theorem dX2_hour_2 : decode cX2_hour 2 = .ok (.putfield 64, 3) := by decide +kernel
theorem dX2_hour_5 : decode cX2_hour 5 = .ok (.aload_n 0, 1) := by decide +kernel
theorem dX2_hour_6 : decode cX2_hour 6 = .ok (.getfield 79, 3) := by decide +kernel
theorem dX2_hour_9 : decode cX2_hour 9 = .ok (.ireturn, 1) := by decide +kernel
theorem dX2_lend_0 : decode cX2_lend 0 = .ok (.aload_n 0, 1) := by decide +kernel
theorem dX2_lend_1 : decode cX2_lend 1 = .ok (.iload_n 1, 1) := by decide +kernel
theorem dX2_lend_2 : decode cX2_lend 2 = .ok (.invokestatic 72, 3) := by decide +kernel
theorem dX2_lend_5 : decode cX2_lend 5 = .ok (.ifCond .eq 24, 3) := by decide +kernel
theorem dX2_lend_8 : decode cX2_lend 8 = .ok (.iload_n 2, 1) := by decide +kernel
theorem dX2_lend_9 : decode cX2_lend 9 = .ok (.invokestatic 76, 3) := by decide +kernel
theorem dX2_lend_12 : decode cX2_lend 12 = .ok (.ifCond .eq 17, 3) := by decide +kernel
theorem dX2_lend_15 : decode cX2_lend 15 = .ok (.iload_n 3, 1) := by decide +kernel
theorem dX2_lend_16 : decode cX2_lend 16 = .ok (.iconst 1, 1) := by decide +kernel
theorem dX2_lend_17 : decode cX2_lend 17 = .ok (.bipush 100, 2) := by decide +kernel
theorem dX2_lend_19 : decode cX2_lend 19 = .ok (.invokestatic 68, 3) := by decide +kernel
theorem dX2_lend_22 : decode cX2_lend 22 = .ok (.ifCond .eq 7, 3) := by decide +kernel
theorem dX2_lend_25 : decode cX2_lend 25 = .ok (.iconst 0, 1) := by decide +kernel
theorem dX2_lend_26 : decode cX2_lend 26 = .ok (.goto 4, 3) := by decide +kernel
theorem dX2_lend_29 : decode cX2_lend 29 = .ok (.iconst 1, 1) := by decide +kernel
theorem dX2_lend_30 : decode cX2_lend 30 = .ok (.putfield 64, 3) := by decide +kernel
theorem dX2_lend_33 : decode cX2_lend 33 = .ok (.aload_n 0, 1) := by decide +kernel
theorem dX2_lend_34 : decode cX2_lend 34 = .ok (.getfield 64, 3) := by decide +kernel
theorem dX2_lend_37 : decode cX2_lend 37 = .ok (.ifCond .le 5, 3) := by decide +kernel
theorem dX2_lend_40 : decode cX2_lend 40 = .ok (.iconst 0, 1) := by decide +kernel
theorem dX2_lend_41 : decode cX2_lend 41 = .ok (.ireturn, 1) := by decide +kernel
theorem dX2_lend_42 : decode cX2_lend 42 = .ok (.aload_n 0, 1) := by decide +kernel
theorem dX2_lend_43 : decode cX2_lend 43 = .ok (.aload_n 0, 1) := by decide +kernel
theorem dX2_lend_44 : decode cX2_lend 44 = .ok (.getfield 34, 3) := by decide +kernel
theorem dX2_lend_47 : decode cX2_lend 47 = .ok (.iconst 2, 1) := by decide +kernel
theorem dX2_lend_48 : decode cX2_lend 48 = .ok (.iload_n 1, 1) := by decide +kernel
theorem dX2_lend_49 : decode cX2_lend 49 = .ok (.imul, 1) := by decide +kernel
theorem dX2_lend_50 : decode cX2_lend 50 = .ok (.iload_n 2, 1) := by decide +kernel
theorem dX2_lend_51 : decode cX2_lend 51 = .ok (.iadd, 1) := by decide +kernel
theorem dX2_lend_52 : decode cX2_lend 52 = .ok (.iaload, 1) := by decide +kernel
theorem dX2_lend_53 : decode cX2_lend 53 = .ok (.iload_n 3, 1) := by decide +kernel
theorem dX2_lend_54 : decode cX2_lend 54 = .ok (.if_icmp .ge 7, 3) := by decide +kernel
theorem dX2_lend_57 : decode cX2_lend 57 = .ok (.iconst 2, 1) := by decide +kernel
theorem dX2_lend_58 : decode cX2_lend 58 = .ok (.goto 4, 3) := by decide +kernel
theorem dX2_lend_61 : decode cX2_lend 61 = .ok (.iconst 0, 1) := by decide +kernel
theorem dX2_lend_62 : decode cX2_lend 62 = .ok (.putfield 64, 3) := by decide +kernel
theorem dX2_lend_65 : decode cX2_lend 65 = .ok (.aload_n 0, 1) := by decide +kernel
theorem dX2_lend_66 : decode cX2_lend 66 = .ok (.getfield 64, 3) := by decide +kernel
theorem dX2_lend_69 : decode cX2_lend 69 = .ok (.ifCond .le 5, 3) := by decide +kernel
theorem dX2_lend_72 : decode cX2_lend 72 = .ok (.iconst 0, 1) := by decide +kernel
theorem dX2_lend_73 : decode cX2_lend 73 = .ok (.ireturn, 1) := by decide +kernel
theorem dX2_lend_74 : decode cX2_lend 74 = .ok (.aload_n 0, 1) := by decide +kernel
theorem dX2_lend_75 : decode cX2_lend 75 = .ok (.getfield 34, 3) := by decide +kernel
theorem dX2_lend_78 : decode cX2_lend 78 = .ok (.iconst 2, 1) := by decide +kernel
theorem dX2_lend_79 : decode cX2_lend 79 = .ok (.iload_n 1, 1) := by decide +kernel
theorem dX2_lend_80 : decode cX2_lend 80 = .ok (.imul, 1) := by decide +kernel
theorem dX2_lend_81 : decode cX2_lend 81 = .ok (.iload_n 2, 1) := by decide +kernel
theorem dX2_lend_82 : decode cX2_lend 82 = .ok (.iadd, 1) := by decide +kernel
theorem dX2_lend_83 : decode cX2_lend 83 = .ok (.dup2, 1) := by decide +kernel
theorem dX2_lend_84 : decode cX2_lend 84 = .ok (.iaload, 1) := by decide +kernel
theorem dX2_lend_85 : decode cX2_lend 85 = .ok (.iload_n 3, 1) := by decide +kernel
theorem dX2_lend_86 : decode cX2_lend 86 = .ok (.isub, 1) := by decide +kernel
theorem dX2_lend_87 : decode cX2_lend 87 = .ok (.iastore, 1) := by decide +kernel
theorem dX2_lend_88 : decode cX2_lend 88 = .ok (.aload_n 0, 1) := by decide +kernel
theorem dX2_lend_89 : decode cX2_lend 89 = .ok (.getfield 34, 3) := by decide +kernel
theorem dX2_lend_92 : decode cX2_lend 92 = .ok (.iconst 2, 1) := by decide +kernel
theorem dX2_lend_93 : decode cX2_lend 93 = .ok (.iload_n 1, 1) := by decide +kernel
theorem dX2_lend_94 : decode cX2_lend 94 = .ok (.imul, 1) := by decide +kernel
theorem dX2_lend_95 : decode cX2_lend 95 = .ok (.iconst 1, 1) := by decide +kernel
theorem dX2_lend_96 : decode cX2_lend 96 = .ok (.iadd, 1) := by decide +kernel
theorem dX2_lend_97 : decode cX2_lend 97 = .ok (.iload_n 2, 1) := by decide +kernel
theorem dX2_lend_98 : decode cX2_lend 98 = .ok (.isub, 1) := by decide +kernel
theorem dX2_lend_99 : decode cX2_lend 99 = .ok (.dup2, 1) := by decide +kernel
theorem dX2_lend_100 : decode cX2_lend 100 = .ok (.iaload, 1) := by decide +kernel
theorem dX2_lend_101 : decode cX2_lend 101 = .ok (.iload_n 3, 1) := by decide +kernel
theorem dX2_lend_102 : decode cX2_lend 102 = .ok (.iadd, 1) := by decide +kernel
theorem dX2_lend_103 : decode cX2_lend 103 = .ok (.iastore, 1) := by decide +kernel
theorem dX2_lend_104 : decode cX2_lend 104 = .ok (.aload_n 0, 1) := by decide +kernel
theorem dX2_lend_105 : decode cX2_lend 105 = .ok (.getfield 46, 3) := by decide +kernel
theorem dX2_lend_108 : decode cX2_lend 108 = .ok (.iload_n 2, 1) := by decide +kernel
theorem dX2_lend_109 : decode cX2_lend 109 = .ok (.dup2, 1) := by decide +kernel
theorem dX2_lend_110 : decode cX2_lend 110 = .ok (.iaload, 1) := by decide +kernel
theorem dX2_lend_111 : decode cX2_lend 111 = .ok (.iload_n 3, 1) := by decide +kernel
theorem dX2_lend_112 : decode cX2_lend 112 = .ok (.iadd, 1) := by decide +kernel
theorem dX2_lend_113 : decode cX2_lend 113 = .ok (.iastore, 1) := by decide +kernel
theorem dX2_lend_114 : decode cX2_lend 114 = .ok (.aload_n 0, 1) := by decide +kernel
theorem dX2_lend_115 : decode cX2_lend 115 = .ok (.getfield 46, 3) := by decide +kernel
theorem dX2_lend_118 : decode cX2_lend 118 = .ok (.iconst 1, 1) := by decide +kernel
theorem dX2_lend_119 : decode cX2_lend 119 = .ok (.iload_n 2, 1) := by decide +kernel
theorem dX2_lend_120 : decode cX2_lend 120 = .ok (.isub, 1) := by decide +kernel
theorem dX2_lend_121 : decode cX2_lend 121 = .ok (.dup2, 1) := by decide +kernel
theorem dX2_lend_122 : decode cX2_lend 122 = .ok (.iaload, 1) := by decide +kernel
theorem dX2_lend_123 : decode cX2_lend 123 = .ok (.iload_n 3, 1) := by decide +kernel
theorem dX2_lend_124 : decode cX2_lend 124 = .ok (.isub, 1) := by decide +kernel
theorem dX2_lend_125 : decode cX2_lend 125 = .ok (.iastore, 1) := by decide +kernel
theorem dX2_lend_126 : decode cX2_lend 126 = .ok (.aload_n 0, 1) := by decide +kernel
theorem dX2_lend_127 : decode cX2_lend 127 = .ok (.getfield 34, 3) := by decide +kernel
theorem dX2_lend_130 : decode cX2_lend 130 = .ok (.iconst 2, 1) := by decide +kernel
theorem dX2_lend_131 : decode cX2_lend 131 = .ok (.iload_n 1, 1) := by decide +kernel
theorem dX2_lend_132 : decode cX2_lend 132 = .ok (.imul, 1) := by decide +kernel
theorem dX2_lend_133 : decode cX2_lend 133 = .ok (.iload_n 2, 1) := by decide +kernel
theorem dX2_lend_134 : decode cX2_lend 134 = .ok (.iadd, 1) := by decide +kernel
theorem dX2_lend_135 : decode cX2_lend 135 = .ok (.iaload, 1) := by decide +kernel
theorem dX2_lend_136 : decode cX2_lend 136 = .ok (.ireturn, 1) := by decide +kernel
theorem dX2_account_0 : decode cX2_account 0 = .ok (.aload_n 0, 1) := by decide +kernel
theorem dX2_account_1 : decode cX2_account 1 = .ok (.iload_n 1, 1) := by decide +kernel
theorem dX2_account_2 : decode cX2_account 2 = .ok (.invokestatic 72, 3) := by decide +kernel
theorem dX2_account_5 : decode cX2_account 5 = .ok (.ifCond .eq 14, 3) := by decide +kernel
theorem dX2_account_8 : decode cX2_account 8 = .ok (.iload_n 2, 1) := by decide +kernel
theorem dX2_account_9 : decode cX2_account 9 = .ok (.invokestatic 76, 3) := by decide +kernel
theorem dX2_account_12 : decode cX2_account 12 = .ok (.ifCond .eq 7, 3) := by decide +kernel
theorem dX2_account_15 : decode cX2_account 15 = .ok (.iconst 0, 1) := by decide +kernel
theorem dX2_account_16 : decode cX2_account 16 = .ok (.goto 4, 3) := by decide +kernel
theorem dX2_account_19 : decode cX2_account 19 = .ok (.iconst 1, 1) := by decide +kernel
theorem dX2_account_20 : decode cX2_account 20 = .ok (.putfield 64, 3) := by decide +kernel
theorem dX2_account_23 : decode cX2_account 23 = .ok (.aload_n 0, 1) := by decide +kernel
theorem dX2_account_24 : decode cX2_account 24 = .ok (.getfield 64, 3) := by decide +kernel
theorem dX2_account_27 : decode cX2_account 27 = .ok (.ifCond .le 7, 3) := by decide +kernel
theorem dX2_account_30 : decode cX2_account 30 = .ok (.iconst 0, 1) := by decide +kernel
theorem dX2_account_31 : decode cX2_account 31 = .ok (.goto 13, 3) := by decide +kernel
theorem dX2_account_34 : decode cX2_account 34 = .ok (.aload_n 0, 1) := by decide +kernel
theorem dX2_account_35 : decode cX2_account 35 = .ok (.getfield 34, 3) := by decide +kernel
theorem dX2_account_38 : decode cX2_account 38 = .ok (.iconst 2, 1) := by decide +kernel
theorem dX2_account_39 : decode cX2_account 39 = .ok (.iload_n 1, 1) := by decide +kernel
theorem dX2_account_40 : decode cX2_account 40 = .ok (.imul, 1) := by decide +kernel
theorem dX2_account_41 : decode cX2_account 41 = .ok (.iload_n 2, 1) := by decide +kernel
theorem dX2_account_42 : decode cX2_account 42 = .ok (.iadd, 1) := by decide +kernel
theorem dX2_account_43 : decode cX2_account 43 = .ok (.iaload, 1) := by decide +kernel
theorem dX2_account_44 : decode cX2_account 44 = .ok (.ireturn, 1) := by decide +kernel
theorem dX2_asks_0 : decode cX2_asks 0 = .ok (.aload_n 0, 1) := by decide +kernel
theorem dX2_asks_1 : decode cX2_asks 1 = .ok (.iload_n 1, 1) := by decide +kernel
theorem dX2_asks_2 : decode cX2_asks 2 = .ok (.invokestatic 72, 3) := by decide +kernel
theorem dX2_asks_5 : decode cX2_asks 5 = .ok (.ifCond .eq 7, 3) := by decide +kernel
theorem dX2_asks_8 : decode cX2_asks 8 = .ok (.iconst 0, 1) := by decide +kernel
theorem dX2_asks_9 : decode cX2_asks 9 = .ok (.goto 4, 3) := by decide +kernel
theorem dX2_asks_12 : decode cX2_asks 12 = .ok (.iconst 1, 1) := by decide +kernel
theorem dX2_asks_13 : decode cX2_asks 13 = .ok (.putfield 64, 3) := by decide +kernel
theorem dX2_asks_16 : decode cX2_asks 16 = .ok (.aload_n 0, 1) := by decide +kernel
theorem dX2_asks_17 : decode cX2_asks 17 = .ok (.getfield 64, 3) := by decide +kernel
theorem dX2_asks_20 : decode cX2_asks 20 = .ok (.ifCond .ne 7, 3) := by decide +kernel
theorem dX2_asks_23 : decode cX2_asks 23 = .ok (.iconst 1, 1) := by decide +kernel
theorem dX2_asks_24 : decode cX2_asks 24 = .ok (.goto 4, 3) := by decide +kernel
theorem dX2_asks_27 : decode cX2_asks 27 = .ok (.iconst 0, 1) := by decide +kernel
theorem dX2_asks_28 : decode cX2_asks 28 = .ok (.ireturn, 1) := by decide +kernel
theorem dX2_level_0 : decode cX2_level 0 = .ok (.aload_n 0, 1) := by decide +kernel
theorem dX2_level_1 : decode cX2_level 1 = .ok (.iload_n 1, 1) := by decide +kernel
theorem dX2_level_2 : decode cX2_level 2 = .ok (.invokevirtual 101, 3) := by decide +kernel
theorem dX2_level_5 : decode cX2_level 5 = .ok (.ifCond .eq 11, 3) := by decide +kernel
theorem dX2_level_8 : decode cX2_level 8 = .ok (.aload_n 0, 1) := by decide +kernel
theorem dX2_level_9 : decode cX2_level 9 = .ok (.iload_n 1, 1) := by decide +kernel
theorem dX2_level_10 : decode cX2_level 10 = .ok (.invokevirtual 82, 3) := by decide +kernel
theorem dX2_level_13 : decode cX2_level 13 = .ok (.goto 4, 3) := by decide +kernel
theorem dX2_level_16 : decode cX2_level 16 = .ok (.iconst 0, 1) := by decide +kernel
theorem dX2_level_17 : decode cX2_level 17 = .ok (.ireturn, 1) := by decide +kernel
theorem dX2_travelling_0 : decode cX2_travelling 0 = .ok (.aload_n 0, 1) := by decide +kernel
theorem dX2_travelling_1 : decode cX2_travelling 1 = .ok (.iload_n 1, 1) := by decide +kernel
theorem dX2_travelling_2 : decode cX2_travelling 2 = .ok (.iconst 1, 1) := by decide +kernel
theorem dX2_travelling_3 : decode cX2_travelling 3 = .ok (.iconst 2, 1) := by decide +kernel
theorem dX2_travelling_4 : decode cX2_travelling 4 = .ok (.invokestatic 68, 3) := by decide +kernel
theorem dX2_travelling_7 : decode cX2_travelling 7 = .ok (.ifCond .eq 14, 3) := by decide +kernel
theorem dX2_travelling_10 : decode cX2_travelling 10 = .ok (.iload_n 2, 1) := by decide +kernel
theorem dX2_travelling_11 : decode cX2_travelling 11 = .ok (.invokestatic 76, 3) := by decide +kernel
theorem dX2_travelling_14 : decode cX2_travelling 14 = .ok (.ifCond .eq 7, 3) := by decide +kernel
theorem dX2_travelling_17 : decode cX2_travelling 17 = .ok (.iconst 0, 1) := by decide +kernel
theorem dX2_travelling_18 : decode cX2_travelling 18 = .ok (.goto 4, 3) := by decide +kernel
theorem dX2_travelling_21 : decode cX2_travelling 21 = .ok (.iconst 1, 1) := by decide +kernel
theorem dX2_travelling_22 : decode cX2_travelling 22 = .ok (.putfield 64, 3) := by decide +kernel
theorem dX2_travelling_25 : decode cX2_travelling 25 = .ok (.iconst 0, 1) := by decide +kernel
theorem dX2_travelling_26 : decode cX2_travelling 26 = .ok (.istore_n 3, 1) := by decide +kernel
theorem dX2_travelling_27 : decode cX2_travelling 27 = .ok (.iconst 0, 1) := by decide +kernel
theorem dX2_travelling_28 : decode cX2_travelling 28 = .ok (.istore 4, 2) := by decide +kernel
theorem dX2_travelling_30 : decode cX2_travelling 30 = .ok (.iload 4, 2) := by decide +kernel
theorem dX2_travelling_32 : decode cX2_travelling 32 = .ok (.sipush 210, 3) := by decide +kernel
theorem dX2_travelling_35 : decode cX2_travelling 35 = .ok (.if_icmp .ge 36, 3) := by decide +kernel
theorem dX2_travelling_38 : decode cX2_travelling 38 = .ok (.aload_n 0, 1) := by decide +kernel
theorem dX2_travelling_39 : decode cX2_travelling 39 = .ok (.getfield 64, 3) := by decide +kernel
theorem dX2_travelling_42 : decode cX2_travelling 42 = .ok (.ifCond .ne 29, 3) := by decide +kernel
theorem dX2_travelling_45 : decode cX2_travelling 45 = .ok (.iload_n 3, 1) := by decide +kernel
theorem dX2_travelling_46 : decode cX2_travelling 46 = .ok (.aload_n 0, 1) := by decide +kernel
theorem dX2_travelling_47 : decode cX2_travelling 47 = .ok (.getfield 37, 3) := by decide +kernel
theorem dX2_travelling_50 : decode cX2_travelling 50 = .ok (.sipush 210, 3) := by decide +kernel
theorem dX2_travelling_53 : decode cX2_travelling 53 = .ok (.iconst 2, 1) := by decide +kernel
theorem dX2_travelling_54 : decode cX2_travelling 54 = .ok (.iload_n 1, 1) := by decide +kernel
theorem dX2_travelling_55 : decode cX2_travelling 55 = .ok (.imul, 1) := by decide +kernel
theorem dX2_travelling_56 : decode cX2_travelling 56 = .ok (.iload_n 2, 1) := by decide +kernel
theorem dX2_travelling_57 : decode cX2_travelling 57 = .ok (.iadd, 1) := by decide +kernel
theorem dX2_travelling_58 : decode cX2_travelling 58 = .ok (.imul, 1) := by decide +kernel
theorem dX2_travelling_59 : decode cX2_travelling 59 = .ok (.iload 4, 2) := by decide +kernel
theorem dX2_travelling_61 : decode cX2_travelling 61 = .ok (.iadd, 1) := by decide +kernel
theorem dX2_travelling_62 : decode cX2_travelling 62 = .ok (.iaload, 1) := by decide +kernel
theorem dX2_travelling_63 : decode cX2_travelling 63 = .ok (.iadd, 1) := by decide +kernel
theorem dX2_travelling_64 : decode cX2_travelling 64 = .ok (.istore_n 3, 1) := by decide +kernel
theorem dX2_travelling_65 : decode cX2_travelling 65 = .ok (.iinc 4 1, 3) := by decide +kernel
theorem dX2_travelling_68 : decode cX2_travelling 68 = .ok (.goto (-38), 3) := by decide +kernel
theorem dX2_travelling_71 : decode cX2_travelling 71 = .ok (.iload_n 3, 1) := by decide +kernel
theorem dX2_travelling_72 : decode cX2_travelling 72 = .ok (.ireturn, 1) := by decide +kernel
theorem dX2_arriving_0 : decode cX2_arriving 0 = .ok (.aload_n 0, 1) := by decide +kernel
theorem dX2_arriving_1 : decode cX2_arriving 1 = .ok (.iload_n 1, 1) := by decide +kernel
theorem dX2_arriving_2 : decode cX2_arriving 2 = .ok (.iconst 1, 1) := by decide +kernel
theorem dX2_arriving_3 : decode cX2_arriving 3 = .ok (.iconst 2, 1) := by decide +kernel
theorem dX2_arriving_4 : decode cX2_arriving 4 = .ok (.invokestatic 68, 3) := by decide +kernel
theorem dX2_arriving_7 : decode cX2_arriving 7 = .ok (.ifCond .eq 25, 3) := by decide +kernel
theorem dX2_arriving_10 : decode cX2_arriving 10 = .ok (.iload_n 2, 1) := by decide +kernel
theorem dX2_arriving_11 : decode cX2_arriving 11 = .ok (.invokestatic 76, 3) := by decide +kernel
theorem dX2_arriving_14 : decode cX2_arriving 14 = .ok (.ifCond .eq 18, 3) := by decide +kernel
theorem dX2_arriving_17 : decode cX2_arriving 17 = .ok (.iload_n 3, 1) := by decide +kernel
theorem dX2_arriving_18 : decode cX2_arriving 18 = .ok (.iconst 0, 1) := by decide +kernel
theorem dX2_arriving_19 : decode cX2_arriving 19 = .ok (.sipush 300, 3) := by decide +kernel
theorem dX2_arriving_22 : decode cX2_arriving 22 = .ok (.invokestatic 68, 3) := by decide +kernel
theorem dX2_arriving_25 : decode cX2_arriving 25 = .ok (.ifCond .eq 7, 3) := by decide +kernel
theorem dX2_arriving_28 : decode cX2_arriving 28 = .ok (.iconst 0, 1) := by decide +kernel
theorem dX2_arriving_29 : decode cX2_arriving 29 = .ok (.goto 4, 3) := by decide +kernel
theorem dX2_arriving_32 : decode cX2_arriving 32 = .ok (.iconst 1, 1) := by decide +kernel
theorem dX2_arriving_33 : decode cX2_arriving 33 = .ok (.putfield 64, 3) := by decide +kernel
theorem dX2_arriving_36 : decode cX2_arriving 36 = .ok (.aload_n 0, 1) := by decide +kernel
theorem dX2_arriving_37 : decode cX2_arriving 37 = .ok (.getfield 64, 3) := by decide +kernel
theorem dX2_arriving_40 : decode cX2_arriving 40 = .ok (.ifCond .gt 10, 3) := by decide +kernel
theorem dX2_arriving_43 : decode cX2_arriving 43 = .ok (.iload_n 3, 1) := by decide +kernel
theorem dX2_arriving_44 : decode cX2_arriving 44 = .ok (.sipush 209, 3) := by decide +kernel
theorem dX2_arriving_47 : decode cX2_arriving 47 = .ok (.if_icmp .le 7, 3) := by decide +kernel
theorem dX2_arriving_50 : decode cX2_arriving 50 = .ok (.iconst 0, 1) := by decide +kernel
theorem dX2_arriving_51 : decode cX2_arriving 51 = .ok (.goto 19, 3) := by decide +kernel
theorem dX2_arriving_54 : decode cX2_arriving 54 = .ok (.aload_n 0, 1) := by decide +kernel
theorem dX2_arriving_55 : decode cX2_arriving 55 = .ok (.getfield 37, 3) := by decide +kernel
theorem dX2_arriving_58 : decode cX2_arriving 58 = .ok (.sipush 210, 3) := by decide +kernel
theorem dX2_arriving_61 : decode cX2_arriving 61 = .ok (.iconst 2, 1) := by decide +kernel
theorem dX2_arriving_62 : decode cX2_arriving 62 = .ok (.iload_n 1, 1) := by decide +kernel
theorem dX2_arriving_63 : decode cX2_arriving 63 = .ok (.imul, 1) := by decide +kernel
theorem dX2_arriving_64 : decode cX2_arriving 64 = .ok (.iload_n 2, 1) := by decide +kernel
theorem dX2_arriving_65 : decode cX2_arriving 65 = .ok (.iadd, 1) := by decide +kernel
theorem dX2_arriving_66 : decode cX2_arriving 66 = .ok (.imul, 1) := by decide +kernel
theorem dX2_arriving_67 : decode cX2_arriving 67 = .ok (.iload_n 3, 1) := by decide +kernel
theorem dX2_arriving_68 : decode cX2_arriving 68 = .ok (.iadd, 1) := by decide +kernel
theorem dX2_arriving_69 : decode cX2_arriving 69 = .ok (.iaload, 1) := by decide +kernel
theorem dX2_arriving_70 : decode cX2_arriving 70 = .ok (.ireturn, 1) := by decide +kernel
theorem dX2_knows_0 : decode cX2_knows 0 = .ok (.aload_n 0, 1) := by decide +kernel
theorem dX2_knows_1 : decode cX2_knows 1 = .ok (.iload_n 1, 1) := by decide +kernel
theorem dX2_knows_2 : decode cX2_knows 2 = .ok (.invokestatic 76, 3) := by decide +kernel
theorem dX2_knows_5 : decode cX2_knows 5 = .ok (.ifCond .eq 7, 3) := by decide +kernel
theorem dX2_knows_8 : decode cX2_knows 8 = .ok (.iconst 0, 1) := by decide +kernel
theorem dX2_knows_9 : decode cX2_knows 9 = .ok (.goto 4, 3) := by decide +kernel
theorem dX2_knows_12 : decode cX2_knows 12 = .ok (.iconst 1, 1) := by decide +kernel
theorem dX2_knows_13 : decode cX2_knows 13 = .ok (.putfield 64, 3) := by decide +kernel
theorem dX2_knows_16 : decode cX2_knows 16 = .ok (.aload_n 0, 1) := by decide +kernel
theorem dX2_knows_17 : decode cX2_knows 17 = .ok (.getfield 64, 3) := by decide +kernel
theorem dX2_knows_20 : decode cX2_knows 20 = .ok (.ifCond .ne 7, 3) := by decide +kernel
theorem dX2_knows_23 : decode cX2_knows 23 = .ok (.iconst 1, 1) := by decide +kernel
theorem dX2_knows_24 : decode cX2_knows 24 = .ok (.goto 4, 3) := by decide +kernel
theorem dX2_knows_27 : decode cX2_knows 27 = .ok (.iconst 0, 1) := by decide +kernel
theorem dX2_knows_28 : decode cX2_knows 28 = .ok (.ireturn, 1) := by decide +kernel
theorem dX2_cameIn_0 : decode cX2_cameIn 0 = .ok (.aload_n 0, 1) := by decide +kernel
theorem dX2_cameIn_1 : decode cX2_cameIn 1 = .ok (.iload_n 1, 1) := by decide +kernel
theorem dX2_cameIn_2 : decode cX2_cameIn 2 = .ok (.invokevirtual 104, 3) := by decide +kernel
theorem dX2_cameIn_5 : decode cX2_cameIn 5 = .ok (.ifCond .eq 12, 3) := by decide +kernel
theorem dX2_cameIn_8 : decode cX2_cameIn 8 = .ok (.aload_n 0, 1) := by decide +kernel
theorem dX2_cameIn_9 : decode cX2_cameIn 9 = .ok (.getfield 40, 3) := by decide +kernel
theorem dX2_cameIn_12 : decode cX2_cameIn 12 = .ok (.iload_n 1, 1) := by decide +kernel
theorem dX2_cameIn_13 : decode cX2_cameIn 13 = .ok (.iaload, 1) := by decide +kernel
theorem dX2_cameIn_14 : decode cX2_cameIn 14 = .ok (.goto 4, 3) := by decide +kernel
theorem dX2_cameIn_17 : decode cX2_cameIn 17 = .ok (.iconst 0, 1) := by decide +kernel
theorem dX2_cameIn_18 : decode cX2_cameIn 18 = .ok (.ireturn, 1) := by decide +kernel
theorem dX2_gone_0 : decode cX2_gone 0 = .ok (.aload_n 0, 1) := by decide +kernel
theorem dX2_gone_1 : decode cX2_gone 1 = .ok (.iload_n 1, 1) := by decide +kernel
theorem dX2_gone_2 : decode cX2_gone 2 = .ok (.invokevirtual 104, 3) := by decide +kernel
theorem dX2_gone_5 : decode cX2_gone 5 = .ok (.ifCond .eq 12, 3) := by decide +kernel
theorem dX2_gone_8 : decode cX2_gone 8 = .ok (.aload_n 0, 1) := by decide +kernel
theorem dX2_gone_9 : decode cX2_gone 9 = .ok (.getfield 43, 3) := by decide +kernel
theorem dX2_gone_12 : decode cX2_gone 12 = .ok (.iload_n 1, 1) := by decide +kernel
theorem dX2_gone_13 : decode cX2_gone 13 = .ok (.iaload, 1) := by decide +kernel
theorem dX2_gone_14 : decode cX2_gone 14 = .ok (.goto 4, 3) := by decide +kernel
theorem dX2_gone_17 : decode cX2_gone 17 = .ok (.iconst 0, 1) := by decide +kernel
theorem dX2_gone_18 : decode cX2_gone 18 = .ok (.ireturn, 1) := by decide +kernel
theorem dX2_balance_0 : decode cX2_balance 0 = .ok (.aload_n 0, 1) := by decide +kernel
theorem dX2_balance_1 : decode cX2_balance 1 = .ok (.iload_n 1, 1) := by decide +kernel
theorem dX2_balance_2 : decode cX2_balance 2 = .ok (.invokevirtual 104, 3) := by decide +kernel
theorem dX2_balance_5 : decode cX2_balance 5 = .ok (.ifCond .eq 26, 3) := by decide +kernel
theorem dX2_balance_8 : decode cX2_balance 8 = .ok (.aload_n 0, 1) := by decide +kernel
theorem dX2_balance_9 : decode cX2_balance 9 = .ok (.getfield 40, 3) := by decide +kernel
theorem dX2_balance_12 : decode cX2_balance 12 = .ok (.iload_n 1, 1) := by decide +kernel
theorem dX2_balance_13 : decode cX2_balance 13 = .ok (.iaload, 1) := by decide +kernel
theorem dX2_balance_14 : decode cX2_balance 14 = .ok (.aload_n 0, 1) := by decide +kernel
theorem dX2_balance_15 : decode cX2_balance 15 = .ok (.getfield 43, 3) := by decide +kernel
theorem dX2_balance_18 : decode cX2_balance 18 = .ok (.iload_n 1, 1) := by decide +kernel
theorem dX2_balance_19 : decode cX2_balance 19 = .ok (.iaload, 1) := by decide +kernel
theorem dX2_balance_20 : decode cX2_balance 20 = .ok (.isub, 1) := by decide +kernel
theorem dX2_balance_21 : decode cX2_balance 21 = .ok (.aload_n 0, 1) := by decide +kernel
theorem dX2_balance_22 : decode cX2_balance 22 = .ok (.getfield 46, 3) := by decide +kernel
theorem dX2_balance_25 : decode cX2_balance 25 = .ok (.iload_n 1, 1) := by decide +kernel
theorem dX2_balance_26 : decode cX2_balance 26 = .ok (.iaload, 1) := by decide +kernel
theorem dX2_balance_27 : decode cX2_balance 27 = .ok (.isub, 1) := by decide +kernel
theorem dX2_balance_28 : decode cX2_balance 28 = .ok (.goto 4, 3) := by decide +kernel
theorem dX2_balance_31 : decode cX2_balance 31 = .ok (.iconst 0, 1) := by decide +kernel
theorem dX2_balance_32 : decode cX2_balance 32 = .ok (.ireturn, 1) := by decide +kernel
theorem dX2_spilled_0 : decode cX2_spilled 0 = .ok (.aload_n 0, 1) := by decide +kernel
theorem dX2_spilled_1 : decode cX2_spilled 1 = .ok (.iload_n 1, 1) := by decide +kernel
theorem dX2_spilled_2 : decode cX2_spilled 2 = .ok (.invokevirtual 101, 3) := by decide +kernel
theorem dX2_spilled_5 : decode cX2_spilled 5 = .ok (.ifCond .eq 12, 3) := by decide +kernel
theorem dX2_spilled_8 : decode cX2_spilled 8 = .ok (.aload_n 0, 1) := by decide +kernel
theorem dX2_spilled_9 : decode cX2_spilled 9 = .ok (.getfield 49, 3) := by decide +kernel
theorem dX2_spilled_12 : decode cX2_spilled 12 = .ok (.iload_n 1, 1) := by decide +kernel
theorem dX2_spilled_13 : decode cX2_spilled 13 = .ok (.iaload, 1) := by decide +kernel
theorem dX2_spilled_14 : decode cX2_spilled 14 = .ok (.goto 4, 3) := by decide +kernel
theorem dX2_spilled_17 : decode cX2_spilled 17 = .ok (.iconst 0, 1) := by decide +kernel
theorem dX2_spilled_18 : decode cX2_spilled 18 = .ok (.ireturn, 1) := by decide +kernel
theorem dX2_missed_0 : decode cX2_missed 0 = .ok (.aload_n 0, 1) := by decide +kernel
theorem dX2_missed_1 : decode cX2_missed 1 = .ok (.iload_n 1, 1) := by decide +kernel
theorem dX2_missed_2 : decode cX2_missed 2 = .ok (.invokevirtual 101, 3) := by decide +kernel
theorem dX2_missed_5 : decode cX2_missed 5 = .ok (.ifCond .eq 12, 3) := by decide +kernel
theorem dX2_missed_8 : decode cX2_missed 8 = .ok (.aload_n 0, 1) := by decide +kernel
theorem dX2_missed_9 : decode cX2_missed 9 = .ok (.getfield 52, 3) := by decide +kernel
theorem dX2_missed_12 : decode cX2_missed 12 = .ok (.iload_n 1, 1) := by decide +kernel
theorem dX2_missed_13 : decode cX2_missed 13 = .ok (.iaload, 1) := by decide +kernel
theorem dX2_missed_14 : decode cX2_missed 14 = .ok (.goto 4, 3) := by decide +kernel
theorem dX2_missed_17 : decode cX2_missed 17 = .ok (.iconst 0, 1) := by decide +kernel
theorem dX2_missed_18 : decode cX2_missed 18 = .ok (.ireturn, 1) := by decide +kernel
theorem dX2_flow_0 : decode cX2_flow 0 = .ok (.aload_n 0, 1) := by decide +kernel
theorem dX2_flow_1 : decode cX2_flow 1 = .ok (.iload_n 1, 1) := by decide +kernel
theorem dX2_flow_2 : decode cX2_flow 2 = .ok (.invokevirtual 101, 3) := by decide +kernel
theorem dX2_flow_5 : decode cX2_flow 5 = .ok (.ifCond .eq 12, 3) := by decide +kernel
theorem dX2_flow_8 : decode cX2_flow 8 = .ok (.aload_n 0, 1) := by decide +kernel
theorem dX2_flow_9 : decode cX2_flow 9 = .ok (.getfield 55, 3) := by decide +kernel
theorem dX2_flow_12 : decode cX2_flow 12 = .ok (.iload_n 1, 1) := by decide +kernel
theorem dX2_flow_13 : decode cX2_flow 13 = .ok (.iaload, 1) := by decide +kernel
theorem dX2_flow_14 : decode cX2_flow 14 = .ok (.goto 4, 3) := by decide +kernel
theorem dX2_flow_17 : decode cX2_flow 17 = .ok (.iconst 0, 1) := by decide +kernel
theorem dX2_flow_18 : decode cX2_flow 18 = .ok (.ireturn, 1) := by decide +kernel
theorem dX2_energy_0 : decode cX2_energy 0 = .ok (.aload_n 0, 1) := by decide +kernel
theorem dX2_energy_1 : decode cX2_energy 1 = .ok (.iload_n 1, 1) := by decide +kernel
theorem dX2_energy_2 : decode cX2_energy 2 = .ok (.invokevirtual 101, 3) := by decide +kernel
theorem dX2_energy_5 : decode cX2_energy 5 = .ok (.ifCond .eq 12, 3) := by decide +kernel
theorem dX2_energy_8 : decode cX2_energy 8 = .ok (.aload_n 0, 1) := by decide +kernel
theorem dX2_energy_9 : decode cX2_energy 9 = .ok (.getfield 58, 3) := by decide +kernel
theorem dX2_energy_12 : decode cX2_energy 12 = .ok (.iload_n 1, 1) := by decide +kernel
theorem dX2_energy_13 : decode cX2_energy 13 = .ok (.iaload, 1) := by decide +kernel
theorem dX2_energy_14 : decode cX2_energy 14 = .ok (.goto 4, 3) := by decide +kernel
theorem dX2_energy_17 : decode cX2_energy 17 = .ok (.iconst 0, 1) := by decide +kernel
theorem dX2_energy_18 : decode cX2_energy 18 = .ok (.ireturn, 1) := by decide +kernel
theorem dX2_mix_0 : decode cX2_mix 0 = .ok (.aload_n 0, 1) := by decide +kernel
theorem dX2_mix_1 : decode cX2_mix 1 = .ok (.iload_n 1, 1) := by decide +kernel
theorem dX2_mix_2 : decode cX2_mix 2 = .ok (.invokestatic 72, 3) := by decide +kernel
theorem dX2_mix_5 : decode cX2_mix 5 = .ok (.ifCond .eq 17, 3) := by decide +kernel
theorem dX2_mix_8 : decode cX2_mix 8 = .ok (.iload_n 2, 1) := by decide +kernel
theorem dX2_mix_9 : decode cX2_mix 9 = .ok (.iconst 0, 1) := by decide +kernel
theorem dX2_mix_10 : decode cX2_mix 10 = .ok (.bipush 16, 2) := by decide +kernel
theorem dX2_mix_12 : decode cX2_mix 12 = .ok (.invokestatic 68, 3) := by decide +kernel
theorem dX2_mix_15 : decode cX2_mix 15 = .ok (.ifCond .eq 7, 3) := by decide +kernel
theorem dX2_mix_18 : decode cX2_mix 18 = .ok (.iconst 0, 1) := by decide +kernel
theorem dX2_mix_19 : decode cX2_mix 19 = .ok (.goto 4, 3) := by decide +kernel
theorem dX2_mix_22 : decode cX2_mix 22 = .ok (.iconst 1, 1) := by decide +kernel
theorem dX2_mix_23 : decode cX2_mix 23 = .ok (.putfield 64, 3) := by decide +kernel
theorem dX2_mix_26 : decode cX2_mix 26 = .ok (.aload_n 0, 1) := by decide +kernel
theorem dX2_mix_27 : decode cX2_mix 27 = .ok (.getfield 64, 3) := by decide +kernel
theorem dX2_mix_30 : decode cX2_mix 30 = .ok (.ifCond .le 7, 3) := by decide +kernel
theorem dX2_mix_33 : decode cX2_mix 33 = .ok (.iconst 0, 1) := by decide +kernel
theorem dX2_mix_34 : decode cX2_mix 34 = .ok (.goto 9, 3) := by decide +kernel
theorem dX2_mix_37 : decode cX2_mix 37 = .ok (.aload_n 0, 1) := by decide +kernel
theorem dX2_mix_38 : decode cX2_mix 38 = .ok (.iload_n 1, 1) := by decide +kernel
theorem dX2_mix_39 : decode cX2_mix 39 = .ok (.iload_n 2, 1) := by decide +kernel
theorem dX2_mix_40 : decode cX2_mix 40 = .ok (.invokevirtual 93, 3) := by decide +kernel
theorem dX2_mix_43 : decode cX2_mix 43 = .ok (.ireturn, 1) := by decide +kernel
theorem dX2_may_0 : decode cX2_may 0 = .ok (.iload_n 2, 1) := by decide +kernel
theorem dX2_may_1 : decode cX2_may 1 = .ok (.iconst 4, 1) := by decide +kernel
theorem dX2_may_2 : decode cX2_may 2 = .ok (.idiv, 1) := by decide +kernel
theorem dX2_may_3 : decode cX2_may 3 = .ok (.iconst 4, 1) := by decide +kernel
theorem dX2_may_4 : decode cX2_may 4 = .ok (.imul, 1) := by decide +kernel
theorem dX2_may_5 : decode cX2_may 5 = .ok (.bipush 16, 2) := by decide +kernel
theorem dX2_may_7 : decode cX2_may 7 = .ok (.if_icmp .ge 11, 3) := by decide +kernel
theorem dX2_may_10 : decode cX2_may 10 = .ok (.iload_n 2, 1) := by decide +kernel
theorem dX2_may_11 : decode cX2_may 11 = .ok (.iconst 4, 1) := by decide +kernel
theorem dX2_may_12 : decode cX2_may 12 = .ok (.idiv, 1) := by decide +kernel
theorem dX2_may_13 : decode cX2_may 13 = .ok (.iconst 4, 1) := by decide +kernel
theorem dX2_may_14 : decode cX2_may 14 = .ok (.imul, 1) := by decide +kernel
theorem dX2_may_15 : decode cX2_may 15 = .ok (.goto 5, 3) := by decide +kernel
theorem dX2_may_18 : decode cX2_may 18 = .ok (.bipush 16, 2) := by decide +kernel
theorem dX2_may_20 : decode cX2_may 20 = .ok (.istore_n 3, 1) := by decide +kernel
theorem dX2_may_21 : decode cX2_may 21 = .ok (.iload_n 1, 1) := by decide +kernel
theorem dX2_may_22 : decode cX2_may 22 = .ok (.iload_n 2, 1) := by decide +kernel
theorem dX2_may_23 : decode cX2_may 23 = .ok (.if_icmp .gt 27, 3) := by decide +kernel
theorem dX2_may_26 : decode cX2_may 26 = .ok (.iload_n 1, 1) := by decide +kernel
theorem dX2_may_27 : decode cX2_may 27 = .ok (.aload_n 0, 1) := by decide +kernel
theorem dX2_may_28 : decode cX2_may 28 = .ok (.getfield 25, 3) := by decide +kernel
theorem dX2_may_31 : decode cX2_may 31 = .ok (.iconst 0, 1) := by decide +kernel
theorem dX2_may_32 : decode cX2_may 32 = .ok (.iaload, 1) := by decide +kernel
theorem dX2_may_33 : decode cX2_may 33 = .ok (.if_icmp .ge 13, 3) := by decide +kernel
theorem dX2_may_36 : decode cX2_may 36 = .ok (.iload_n 3, 1) := by decide +kernel
theorem dX2_may_37 : decode cX2_may 37 = .ok (.aload_n 0, 1) := by decide +kernel
theorem dX2_may_38 : decode cX2_may 38 = .ok (.getfield 25, 3) := by decide +kernel
theorem dX2_may_41 : decode cX2_may 41 = .ok (.iconst 0, 1) := by decide +kernel
theorem dX2_may_42 : decode cX2_may 42 = .ok (.iaload, 1) := by decide +kernel
theorem dX2_may_43 : decode cX2_may 43 = .ok (.if_icmp .ge 7, 3) := by decide +kernel
theorem dX2_may_46 : decode cX2_may 46 = .ok (.iconst 1, 1) := by decide +kernel
theorem dX2_may_47 : decode cX2_may 47 = .ok (.goto 4, 3) := by decide +kernel
theorem dX2_may_50 : decode cX2_may 50 = .ok (.iconst 0, 1) := by decide +kernel
theorem dX2_may_51 : decode cX2_may 51 = .ok (.ireturn, 1) := by decide +kernel
theorem dX2_comes_0 : decode cX2_comes 0 = .ok (.iload_n 2, 1) := by decide +kernel
theorem dX2_comes_1 : decode cX2_comes 1 = .ok (.iload_n 1, 1) := by decide +kernel
theorem dX2_comes_2 : decode cX2_comes 2 = .ok (.isub, 1) := by decide +kernel
theorem dX2_comes_3 : decode cX2_comes 3 = .ok (.aload_n 0, 1) := by decide +kernel
theorem dX2_comes_4 : decode cX2_comes 4 = .ok (.getfield 7, 3) := by decide +kernel
theorem dX2_comes_7 : decode cX2_comes 7 = .ok (.iconst 0, 1) := by decide +kernel
theorem dX2_comes_8 : decode cX2_comes 8 = .ok (.iaload, 1) := by decide +kernel
theorem dX2_comes_9 : decode cX2_comes 9 = .ok (.if_icmp .ge 9, 3) := by decide +kernel
theorem dX2_comes_12 : decode cX2_comes 12 = .ok (.iload_n 2, 1) := by decide +kernel
theorem dX2_comes_13 : decode cX2_comes 13 = .ok (.iload_n 1, 1) := by decide +kernel
theorem dX2_comes_14 : decode cX2_comes 14 = .ok (.isub, 1) := by decide +kernel
theorem dX2_comes_15 : decode cX2_comes 15 = .ok (.goto 9, 3) := by decide +kernel
theorem dX2_comes_18 : decode cX2_comes 18 = .ok (.aload_n 0, 1) := by decide +kernel
theorem dX2_comes_19 : decode cX2_comes 19 = .ok (.getfield 7, 3) := by decide +kernel
theorem dX2_comes_22 : decode cX2_comes 22 = .ok (.iconst 0, 1) := by decide +kernel
theorem dX2_comes_23 : decode cX2_comes 23 = .ok (.iaload, 1) := by decide +kernel
theorem dX2_comes_24 : decode cX2_comes 24 = .ok (.istore 4, 2) := by decide +kernel
theorem dX2_comes_26 : decode cX2_comes 26 = .ok (.aload_n 0, 1) := by decide +kernel
theorem dX2_comes_27 : decode cX2_comes 27 = .ok (.iconst 0, 1) := by decide +kernel
theorem dX2_comes_28 : decode cX2_comes 28 = .ok (.iload_n 1, 1) := by decide +kernel
theorem dX2_comes_29 : decode cX2_comes 29 = .ok (.invokevirtual 93, 3) := by decide +kernel
theorem dX2_comes_32 : decode cX2_comes 32 = .ok (.aload_n 0, 1) := by decide +kernel
theorem dX2_comes_33 : decode cX2_comes 33 = .ok (.getfield 13, 3) := by decide +kernel
theorem dX2_comes_36 : decode cX2_comes 36 = .ok (.iconst 0, 1) := by decide +kernel
theorem dX2_comes_37 : decode cX2_comes 37 = .ok (.iaload, 1) := by decide +kernel
theorem dX2_comes_38 : decode cX2_comes 38 = .ok (.iload_n 2, 1) := by decide +kernel
theorem dX2_comes_39 : decode cX2_comes 39 = .ok (.iconst 5, 1) := by decide +kernel
theorem dX2_comes_40 : decode cX2_comes 40 = .ok (.idiv, 1) := by decide +kernel
theorem dX2_comes_41 : decode cX2_comes 41 = .ok (.iadd, 1) := by decide +kernel
theorem dX2_comes_42 : decode cX2_comes 42 = .ok (.imul, 1) := by decide +kernel
theorem dX2_comes_43 : decode cX2_comes 43 = .ok (.bipush 10, 2) := by decide +kernel
theorem dX2_comes_45 : decode cX2_comes 45 = .ok (.idiv, 1) := by decide +kernel
theorem dX2_comes_46 : decode cX2_comes 46 = .ok (.istore 5, 2) := by decide +kernel
theorem dX2_comes_48 : decode cX2_comes 48 = .ok (.iload 5, 2) := by decide +kernel
theorem dX2_comes_50 : decode cX2_comes 50 = .ok (.aload_n 0, 1) := by decide +kernel
theorem dX2_comes_51 : decode cX2_comes 51 = .ok (.getfield 61, 3) := by decide +kernel
theorem dX2_comes_54 : decode cX2_comes 54 = .ok (.sipush 260, 3) := by decide +kernel
theorem dX2_comes_57 : decode cX2_comes 57 = .ok (.iload_n 3, 1) := by decide +kernel
theorem dX2_comes_58 : decode cX2_comes 58 = .ok (.iconst 1, 1) := by decide +kernel
theorem dX2_comes_59 : decode cX2_comes 59 = .ok (.isub, 1) := by decide +kernel
theorem dX2_comes_60 : decode cX2_comes 60 = .ok (.imul, 1) := by decide +kernel
theorem dX2_comes_61 : decode cX2_comes 61 = .ok (.iload 4, 2) := by decide +kernel
theorem dX2_comes_63 : decode cX2_comes 63 = .ok (.iadd, 1) := by decide +kernel
theorem dX2_comes_64 : decode cX2_comes 64 = .ok (.iaload, 1) := by decide +kernel
theorem dX2_comes_65 : decode cX2_comes 65 = .ok (.iadd, 1) := by decide +kernel
theorem dX2_comes_66 : decode cX2_comes 66 = .ok (.ireturn, 1) := by decide +kernel
theorem dX2_lays_0 : decode cX2_lays 0 = .ok (.iconst 0, 1) := by decide +kernel
theorem dX2_lays_1 : decode cX2_lays 1 = .ok (.istore_n 2, 1) := by decide +kernel
theorem dX2_lays_2 : decode cX2_lays 2 = .ok (.iload_n 2, 1) := by decide +kernel
theorem dX2_lays_3 : decode cX2_lays 3 = .ok (.sipush 260, 3) := by decide +kernel
theorem dX2_lays_6 : decode cX2_lays 6 = .ok (.if_icmp .ge 16, 3) := by decide +kernel
theorem dX2_lays_9 : decode cX2_lays 9 = .ok (.aload_n 0, 1) := by decide +kernel
theorem dX2_lays_10 : decode cX2_lays 10 = .ok (.getfield 61, 3) := by decide +kernel
theorem dX2_lays_13 : decode cX2_lays 13 = .ok (.iload_n 2, 1) := by decide +kernel
theorem dX2_lays_14 : decode cX2_lays 14 = .ok (.iconst 0, 1) := by decide +kernel
theorem dX2_lays_15 : decode cX2_lays 15 = .ok (.iastore, 1) := by decide +kernel
theorem dX2_lays_16 : decode cX2_lays 16 = .ok (.iinc 2 1, 3) := by decide +kernel
theorem dX2_lays_19 : decode cX2_lays 19 = .ok (.goto (-17), 3) := by decide +kernel
theorem dX2_lays_22 : decode cX2_lays 22 = .ok (.iconst 1, 1) := by decide +kernel
theorem dX2_lays_23 : decode cX2_lays 23 = .ok (.istore_n 2, 1) := by decide +kernel
theorem dX2_lays_24 : decode cX2_lays 24 = .ok (.iload_n 2, 1) := by decide +kernel
theorem dX2_lays_25 : decode cX2_lays 25 = .ok (.iload_n 1, 1) := by decide +kernel
theorem dX2_lays_26 : decode cX2_lays 26 = .ok (.if_icmp .gt 111, 3) := by decide +kernel
theorem dX2_lays_29 : decode cX2_lays 29 = .ok (.iconst 0, 1) := by decide +kernel
theorem dX2_lays_30 : decode cX2_lays 30 = .ok (.istore_n 3, 1) := by decide +kernel
theorem dX2_lays_31 : decode cX2_lays 31 = .ok (.iload_n 3, 1) := by decide +kernel
theorem dX2_lays_32 : decode cX2_lays 32 = .ok (.sipush 200, 3) := by decide +kernel
theorem dX2_lays_35 : decode cX2_lays 35 = .ok (.if_icmp .gt 96, 3) := by decide +kernel
theorem dX2_lays_38 : decode cX2_lays 38 = .ok (.iconst 0, 1) := by decide +kernel
theorem dX2_lays_39 : decode cX2_lays 39 = .ok (.istore 4, 2) := by decide +kernel
theorem dX2_lays_41 : decode cX2_lays 41 = .ok (.iconst 0, 1) := by decide +kernel
theorem dX2_lays_42 : decode cX2_lays 42 = .ok (.istore 5, 2) := by decide +kernel
theorem dX2_lays_44 : decode cX2_lays 44 = .ok (.iload 5, 2) := by decide +kernel
theorem dX2_lays_46 : decode cX2_lays 46 = .ok (.bipush 16, 2) := by decide +kernel
theorem dX2_lays_48 : decode cX2_lays 48 = .ok (.if_icmp .gt 63, 3) := by decide +kernel
theorem dX2_lays_51 : decode cX2_lays 51 = .ok (.aload_n 0, 1) := by decide +kernel
theorem dX2_lays_52 : decode cX2_lays 52 = .ok (.iload 5, 2) := by decide +kernel
theorem dX2_lays_54 : decode cX2_lays 54 = .ok (.iload_n 3, 1) := by decide +kernel
theorem dX2_lays_55 : decode cX2_lays 55 = .ok (.aload_n 0, 1) := by decide +kernel
theorem dX2_lays_56 : decode cX2_lays 56 = .ok (.getfield 19, 3) := by decide +kernel
theorem dX2_lays_59 : decode cX2_lays 59 = .ok (.iconst 0, 1) := by decide +kernel
theorem dX2_lays_60 : decode cX2_lays 60 = .ok (.iaload, 1) := by decide +kernel
theorem dX2_lays_61 : decode cX2_lays 61 = .ok (.iadd, 1) := by decide +kernel
theorem dX2_lays_62 : decode cX2_lays 62 = .ok (.invokevirtual 107, 3) := by decide +kernel
theorem dX2_lays_65 : decode cX2_lays 65 = .ok (.ifCond .eq 21, 3) := by decide +kernel
theorem dX2_lays_68 : decode cX2_lays 68 = .ok (.aload_n 0, 1) := by decide +kernel
theorem dX2_lays_69 : decode cX2_lays 69 = .ok (.iload 5, 2) := by decide +kernel
theorem dX2_lays_71 : decode cX2_lays 71 = .ok (.iload_n 3, 1) := by decide +kernel
theorem dX2_lays_72 : decode cX2_lays 72 = .ok (.aload_n 0, 1) := by decide +kernel
theorem dX2_lays_73 : decode cX2_lays 73 = .ok (.getfield 19, 3) := by decide +kernel
theorem dX2_lays_76 : decode cX2_lays 76 = .ok (.iconst 0, 1) := by decide +kernel
theorem dX2_lays_77 : decode cX2_lays 77 = .ok (.iaload, 1) := by decide +kernel
theorem dX2_lays_78 : decode cX2_lays 78 = .ok (.iadd, 1) := by decide +kernel
theorem dX2_lays_79 : decode cX2_lays 79 = .ok (.iload_n 2, 1) := by decide +kernel
theorem dX2_lays_80 : decode cX2_lays 80 = .ok (.invokevirtual 111, 3) := by decide +kernel
theorem dX2_lays_83 : decode cX2_lays 83 = .ok (.goto 4, 3) := by decide +kernel
theorem dX2_lays_86 : decode cX2_lays 86 = .ok (.iconst 0, 1) := by decide +kernel
theorem dX2_lays_87 : decode cX2_lays 87 = .ok (.istore 6, 2) := by decide +kernel
theorem dX2_lays_89 : decode cX2_lays 89 = .ok (.iload 6, 2) := by decide +kernel
theorem dX2_lays_91 : decode cX2_lays 91 = .ok (.iload 4, 2) := by decide +kernel
theorem dX2_lays_93 : decode cX2_lays 93 = .ok (.if_icmp .le 8, 3) := by decide +kernel
theorem dX2_lays_96 : decode cX2_lays 96 = .ok (.iload 6, 2) := by decide +kernel
theorem dX2_lays_98 : decode cX2_lays 98 = .ok (.goto 5, 3) := by decide +kernel
theorem dX2_lays_101 : decode cX2_lays 101 = .ok (.iload 4, 2) := by decide +kernel
theorem dX2_lays_103 : decode cX2_lays 103 = .ok (.istore 4, 2) := by decide +kernel
theorem dX2_lays_105 : decode cX2_lays 105 = .ok (.iinc 5 4, 3) := by decide +kernel
theorem dX2_lays_108 : decode cX2_lays 108 = .ok (.goto (-64), 3) := by decide +kernel
theorem dX2_lays_111 : decode cX2_lays 111 = .ok (.aload_n 0, 1) := by decide +kernel
theorem dX2_lays_112 : decode cX2_lays 112 = .ok (.getfield 61, 3) := by decide +kernel
theorem dX2_lays_115 : decode cX2_lays 115 = .ok (.sipush 260, 3) := by decide +kernel
theorem dX2_lays_118 : decode cX2_lays 118 = .ok (.iload_n 2, 1) := by decide +kernel
theorem dX2_lays_119 : decode cX2_lays 119 = .ok (.imul, 1) := by decide +kernel
theorem dX2_lays_120 : decode cX2_lays 120 = .ok (.iload_n 3, 1) := by decide +kernel
theorem dX2_lays_121 : decode cX2_lays 121 = .ok (.iadd, 1) := by decide +kernel
theorem dX2_lays_122 : decode cX2_lays 122 = .ok (.iload 4, 2) := by decide +kernel
theorem dX2_lays_124 : decode cX2_lays 124 = .ok (.iastore, 1) := by decide +kernel
theorem dX2_lays_125 : decode cX2_lays 125 = .ok (.iinc 3 1, 3) := by decide +kernel
theorem dX2_lays_128 : decode cX2_lays 128 = .ok (.goto (-97), 3) := by decide +kernel
theorem dX2_lays_131 : decode cX2_lays 131 = .ok (.iinc 2 1, 3) := by decide +kernel
theorem dX2_lays_134 : decode cX2_lays 134 = .ok (.goto (-110), 3) := by decide +kernel
theorem dX2_lays_137 : decode cX2_lays 137 = .ok (.return_, 1) := by decide +kernel
theorem dX2_greatest_0 : decode cX2_greatest 0 = .ok (.aload_n 0, 1) := by decide +kernel
theorem dX2_greatest_1 : decode cX2_greatest 1 = .ok (.iload_n 1, 1) := by decide +kernel
theorem dX2_greatest_2 : decode cX2_greatest 2 = .ok (.iconst 1, 1) := by decide +kernel
theorem dX2_greatest_3 : decode cX2_greatest 3 = .ok (.bipush 6, 2) := by decide +kernel
theorem dX2_greatest_5 : decode cX2_greatest 5 = .ok (.invokestatic 68, 3) := by decide +kernel
theorem dX2_greatest_8 : decode cX2_greatest 8 = .ok (.ifCond .eq 7, 3) := by decide +kernel
theorem dX2_greatest_11 : decode cX2_greatest 11 = .ok (.iconst 0, 1) := by decide +kernel
theorem dX2_greatest_12 : decode cX2_greatest 12 = .ok (.goto 4, 3) := by decide +kernel
theorem dX2_greatest_15 : decode cX2_greatest 15 = .ok (.iconst 1, 1) := by decide +kernel
theorem dX2_greatest_16 : decode cX2_greatest 16 = .ok (.putfield 64, 3) := by decide +kernel
theorem dX2_greatest_19 : decode cX2_greatest 19 = .ok (.aload_n 0, 1) := by decide +kernel
theorem dX2_greatest_20 : decode cX2_greatest 20 = .ok (.getfield 64, 3) := by decide +kernel
theorem dX2_greatest_23 : decode cX2_greatest 23 = .ok (.ifCond .le 5, 3) := by decide +kernel
theorem dX2_greatest_26 : decode cX2_greatest 26 = .ok (.iconst 0, 1) := by decide +kernel
theorem dX2_greatest_27 : decode cX2_greatest 27 = .ok (.ireturn, 1) := by decide +kernel
theorem dX2_greatest_28 : decode cX2_greatest 28 = .ok (.aload_n 0, 1) := by decide +kernel
theorem dX2_greatest_29 : decode cX2_greatest 29 = .ok (.iload_n 1, 1) := by decide +kernel
theorem dX2_greatest_30 : decode cX2_greatest 30 = .ok (.invokevirtual 115, 3) := by decide +kernel
theorem dX2_greatest_33 : decode cX2_greatest 33 = .ok (.aload_n 0, 1) := by decide +kernel
theorem dX2_greatest_34 : decode cX2_greatest 34 = .ok (.getfield 61, 3) := by decide +kernel
theorem dX2_greatest_37 : decode cX2_greatest 37 = .ok (.sipush 260, 3) := by decide +kernel
theorem dX2_greatest_40 : decode cX2_greatest 40 = .ok (.iload_n 1, 1) := by decide +kernel
theorem dX2_greatest_41 : decode cX2_greatest 41 = .ok (.imul, 1) := by decide +kernel
theorem dX2_greatest_42 : decode cX2_greatest 42 = .ok (.aload_n 0, 1) := by decide +kernel
theorem dX2_greatest_43 : decode cX2_greatest 43 = .ok (.iconst 0, 1) := by decide +kernel
theorem dX2_greatest_44 : decode cX2_greatest 44 = .ok (.invokevirtual 82, 3) := by decide +kernel
theorem dX2_greatest_47 : decode cX2_greatest 47 = .ok (.iadd, 1) := by decide +kernel
theorem dX2_greatest_48 : decode cX2_greatest 48 = .ok (.iaload, 1) := by decide +kernel
theorem dX2_greatest_49 : decode cX2_greatest 49 = .ok (.ireturn, 1) := by decide +kernel
theorem dX2_bestEnergy_0 : decode cX2_bestEnergy 0 = .ok (.aload_n 0, 1) := by decide +kernel
theorem dX2_bestEnergy_1 : decode cX2_bestEnergy 1 = .ok (.iload_n 1, 1) := by decide +kernel
theorem dX2_bestEnergy_2 : decode cX2_bestEnergy 2 = .ok (.invokevirtual 118, 3) := by decide +kernel
theorem dX2_bestEnergy_5 : decode cX2_bestEnergy 5 = .ok (.ireturn, 1) := by decide +kernel
theorem dX2_bestEnergyByAll_0 : decode cX2_bestEnergyByAll 0 = .ok (.aload_n 0, 1) := by decide +kernel
theorem dX2_bestEnergyByAll_1 : decode cX2_bestEnergyByAll 1 = .ok (.iload_n 1, 1) := by decide +kernel
theorem dX2_bestEnergyByAll_2 : decode cX2_bestEnergyByAll 2 = .ok (.invokevirtual 118, 3) := by decide +kernel
theorem dX2_bestEnergyByAll_5 : decode cX2_bestEnergyByAll 5 = .ok (.ireturn, 1) := by decide +kernel
theorem dX2_bestRelease_0 : decode cX2_bestRelease 0 = .ok (.aload_n 0, 1) := by decide +kernel
theorem dX2_bestRelease_1 : decode cX2_bestRelease 1 = .ok (.iload_n 1, 1) := by decide +kernel
theorem dX2_bestRelease_2 : decode cX2_bestRelease 2 = .ok (.invokevirtual 118, 3) := by decide +kernel
theorem dX2_bestRelease_5 : decode cX2_bestRelease 5 = .ok (.istore_n 2, 1) := by decide +kernel
theorem dX2_bestRelease_6 : decode cX2_bestRelease 6 = .ok (.iconst 0, 1) := by decide +kernel
theorem dX2_bestRelease_7 : decode cX2_bestRelease 7 = .ok (.istore_n 3, 1) := by decide +kernel
theorem dX2_bestRelease_8 : decode cX2_bestRelease 8 = .ok (.aload_n 0, 1) := by decide +kernel
theorem dX2_bestRelease_9 : decode cX2_bestRelease 9 = .ok (.iconst 0, 1) := by decide +kernel
theorem dX2_bestRelease_10 : decode cX2_bestRelease 10 = .ok (.invokevirtual 82, 3) := by decide +kernel
theorem dX2_bestRelease_13 : decode cX2_bestRelease 13 = .ok (.aload_n 0, 1) := by decide +kernel
theorem dX2_bestRelease_14 : decode cX2_bestRelease 14 = .ok (.getfield 19, 3) := by decide +kernel
theorem dX2_bestRelease_17 : decode cX2_bestRelease 17 = .ok (.iconst 0, 1) := by decide +kernel
theorem dX2_bestRelease_18 : decode cX2_bestRelease 18 = .ok (.iaload, 1) := by decide +kernel
theorem dX2_bestRelease_19 : decode cX2_bestRelease 19 = .ok (.iadd, 1) := by decide +kernel
theorem dX2_bestRelease_20 : decode cX2_bestRelease 20 = .ok (.istore 4, 2) := by decide +kernel
theorem dX2_bestRelease_22 : decode cX2_bestRelease 22 = .ok (.bipush 16, 2) := by decide +kernel
theorem dX2_bestRelease_24 : decode cX2_bestRelease 24 = .ok (.istore 5, 2) := by decide +kernel
theorem dX2_bestRelease_26 : decode cX2_bestRelease 26 = .ok (.iload 5, 2) := by decide +kernel
theorem dX2_bestRelease_28 : decode cX2_bestRelease 28 = .ok (.ifCond .lt 47, 3) := by decide +kernel
theorem dX2_bestRelease_31 : decode cX2_bestRelease 31 = .ok (.aload_n 0, 1) := by decide +kernel
theorem dX2_bestRelease_32 : decode cX2_bestRelease 32 = .ok (.getfield 64, 3) := by decide +kernel
theorem dX2_bestRelease_35 : decode cX2_bestRelease 35 = .ok (.ifCond .ne 40, 3) := by decide +kernel
theorem dX2_bestRelease_38 : decode cX2_bestRelease 38 = .ok (.aload_n 0, 1) := by decide +kernel
theorem dX2_bestRelease_39 : decode cX2_bestRelease 39 = .ok (.iload 5, 2) := by decide +kernel
theorem dX2_bestRelease_41 : decode cX2_bestRelease 41 = .ok (.iload 4, 2) := by decide +kernel
theorem dX2_bestRelease_43 : decode cX2_bestRelease 43 = .ok (.invokevirtual 107, 3) := by decide +kernel
theorem dX2_bestRelease_46 : decode cX2_bestRelease 46 = .ok (.ifCond .eq 21, 3) := by decide +kernel
theorem dX2_bestRelease_49 : decode cX2_bestRelease 49 = .ok (.aload_n 0, 1) := by decide +kernel
theorem dX2_bestRelease_50 : decode cX2_bestRelease 50 = .ok (.iload 5, 2) := by decide +kernel
theorem dX2_bestRelease_52 : decode cX2_bestRelease 52 = .ok (.iload 4, 2) := by decide +kernel
theorem dX2_bestRelease_54 : decode cX2_bestRelease 54 = .ok (.iload_n 1, 1) := by decide +kernel
theorem dX2_bestRelease_55 : decode cX2_bestRelease 55 = .ok (.invokevirtual 111, 3) := by decide +kernel
theorem dX2_bestRelease_58 : decode cX2_bestRelease 58 = .ok (.iload_n 2, 1) := by decide +kernel
theorem dX2_bestRelease_59 : decode cX2_bestRelease 59 = .ok (.if_icmp .ne 8, 3) := by decide +kernel
theorem dX2_bestRelease_62 : decode cX2_bestRelease 62 = .ok (.iload 5, 2) := by decide +kernel
theorem dX2_bestRelease_64 : decode cX2_bestRelease 64 = .ok (.goto 4, 3) := by decide +kernel
theorem dX2_bestRelease_67 : decode cX2_bestRelease 67 = .ok (.iload_n 3, 1) := by decide +kernel
theorem dX2_bestRelease_68 : decode cX2_bestRelease 68 = .ok (.istore_n 3, 1) := by decide +kernel
theorem dX2_bestRelease_69 : decode cX2_bestRelease 69 = .ok (.iinc 5 (-4), 3) := by decide +kernel
theorem dX2_bestRelease_72 : decode cX2_bestRelease 72 = .ok (.goto (-46), 3) := by decide +kernel
theorem dX2_bestRelease_75 : decode cX2_bestRelease 75 = .ok (.iload_n 3, 1) := by decide +kernel
theorem dX2_bestRelease_76 : decode cX2_bestRelease 76 = .ok (.ireturn, 1) := by decide +kernel
