theorem d_PL_headerCount_0 : decode b_PL_headerCount 0 = .ok (.aload_n 0, 1) := by decide +kernel
theorem d_PL_headerCount_1 : decode b_PL_headerCount 1 = .ok (.bipush 44, 2) := by decide +kernel
theorem d_PL_headerCount_3 : decode b_PL_headerCount 3 = .ok (.iconst 2, 1) := by decide +kernel
theorem d_PL_headerCount_4 : decode b_PL_headerCount 4 = .ok (.invokevirtual 30, 3) := by decide +kernel
theorem d_PL_headerCount_7 : decode b_PL_headerCount 7 = .ok (.ireturn, 1) := by decide +kernel
theorem d_PL_rightsOf_0 : decode b_PL_rightsOf 0 = .ok (.bipush 8, 2) := by decide +kernel
theorem d_PL_rightsOf_2 : decode b_PL_rightsOf 2 = .ok (.iload_n 0, 1) := by decide +kernel
theorem d_PL_rightsOf_3 : decode b_PL_rightsOf 3 = .ok (.iconst 4, 1) := by decide +kernel
theorem d_PL_rightsOf_4 : decode b_PL_rightsOf 4 = .ok (.iand, 1) := by decide +kernel
theorem d_PL_rightsOf_5 : decode b_PL_rightsOf 5 = .ok (.ifCond .eq 7, 3) := by decide +kernel
theorem d_PL_rightsOf_8 : decode b_PL_rightsOf 8 = .ok (.iconst 1, 1) := by decide +kernel
theorem d_PL_rightsOf_9 : decode b_PL_rightsOf 9 = .ok (.goto 4, 3) := by decide +kernel
theorem d_PL_rightsOf_12 : decode b_PL_rightsOf 12 = .ok (.iconst 0, 1) := by decide +kernel
theorem d_PL_rightsOf_13 : decode b_PL_rightsOf 13 = .ok (.ior, 1) := by decide +kernel
theorem d_PL_rightsOf_14 : decode b_PL_rightsOf 14 = .ok (.iload_n 0, 1) := by decide +kernel
theorem d_PL_rightsOf_15 : decode b_PL_rightsOf 15 = .ok (.iconst 2, 1) := by decide +kernel
theorem d_PL_rightsOf_16 : decode b_PL_rightsOf 16 = .ok (.iand, 1) := by decide +kernel
theorem d_PL_rightsOf_17 : decode b_PL_rightsOf 17 = .ok (.ifCond .eq 7, 3) := by decide +kernel
theorem d_PL_rightsOf_20 : decode b_PL_rightsOf 20 = .ok (.iconst 2, 1) := by decide +kernel
theorem d_PL_rightsOf_21 : decode b_PL_rightsOf 21 = .ok (.goto 4, 3) := by decide +kernel
theorem d_PL_rightsOf_24 : decode b_PL_rightsOf 24 = .ok (.iconst 0, 1) := by decide +kernel
theorem d_PL_rightsOf_25 : decode b_PL_rightsOf 25 = .ok (.ior, 1) := by decide +kernel
theorem d_PL_rightsOf_26 : decode b_PL_rightsOf 26 = .ok (.iload_n 0, 1) := by decide +kernel
theorem d_PL_rightsOf_27 : decode b_PL_rightsOf 27 = .ok (.iconst 1, 1) := by decide +kernel
theorem d_PL_rightsOf_28 : decode b_PL_rightsOf 28 = .ok (.iand, 1) := by decide +kernel
theorem d_PL_rightsOf_29 : decode b_PL_rightsOf 29 = .ok (.ifCond .eq 7, 3) := by decide +kernel
theorem d_PL_rightsOf_32 : decode b_PL_rightsOf 32 = .ok (.iconst 4, 1) := by decide +kernel
theorem d_PL_rightsOf_33 : decode b_PL_rightsOf 33 = .ok (.goto 4, 3) := by decide +kernel
theorem d_PL_rightsOf_36 : decode b_PL_rightsOf 36 = .ok (.iconst 0, 1) := by decide +kernel
theorem d_PL_rightsOf_37 : decode b_PL_rightsOf 37 = .ok (.ior, 1) := by decide +kernel
theorem d_PL_rightsOf_38 : decode b_PL_rightsOf 38 = .ok (.ireturn, 1) := by decide +kernel
theorem d_PL_isOfOurKind_0 : decode b_PL_isOfOurKind 0 = .ok (.aload_n 1, 1) := by decide +kernel
theorem d_PL_isOfOurKind_1 : decode b_PL_isOfOurKind 1 = .ok (.bipush 16, 2) := by decide +kernel
theorem d_PL_isOfOurKind_3 : decode b_PL_isOfOurKind 3 = .ok (.iconst 2, 1) := by decide +kernel
theorem d_PL_isOfOurKind_4 : decode b_PL_isOfOurKind 4 = .ok (.invokevirtual 30, 3) := by decide +kernel
theorem d_PL_isOfOurKind_7 : decode b_PL_isOfOurKind 7 = .ok (.iconst 2, 1) := by decide +kernel
theorem d_PL_isOfOurKind_8 : decode b_PL_isOfOurKind 8 = .ok (.if_icmp .ne 52, 3) := by decide +kernel
theorem d_PL_isOfOurKind_11 : decode b_PL_isOfOurKind 11 = .ok (.aload_n 1, 1) := by decide +kernel
theorem d_PL_isOfOurKind_12 : decode b_PL_isOfOurKind 12 = .ok (.bipush 18, 2) := by decide +kernel
theorem d_PL_isOfOurKind_14 : decode b_PL_isOfOurKind 14 = .ok (.iconst 2, 1) := by decide +kernel
theorem d_PL_isOfOurKind_15 : decode b_PL_isOfOurKind 15 = .ok (.invokevirtual 30, 3) := by decide +kernel
theorem d_PL_isOfOurKind_18 : decode b_PL_isOfOurKind 18 = .ok (.sipush 243, 3) := by decide +kernel
theorem d_PL_isOfOurKind_21 : decode b_PL_isOfOurKind 21 = .ok (.if_icmp .ne 39, 3) := by decide +kernel
theorem d_PL_isOfOurKind_24 : decode b_PL_isOfOurKind 24 = .ok (.aload_n 1, 1) := by decide +kernel
theorem d_PL_isOfOurKind_25 : decode b_PL_isOfOurKind 25 = .ok (.bipush 20, 2) := by decide +kernel
theorem d_PL_isOfOurKind_27 : decode b_PL_isOfOurKind 27 = .ok (.iconst 4, 1) := by decide +kernel
theorem d_PL_isOfOurKind_28 : decode b_PL_isOfOurKind 28 = .ok (.invokevirtual 30, 3) := by decide +kernel
theorem d_PL_isOfOurKind_31 : decode b_PL_isOfOurKind 31 = .ok (.iconst 1, 1) := by decide +kernel
theorem d_PL_isOfOurKind_32 : decode b_PL_isOfOurKind 32 = .ok (.if_icmp .ne 28, 3) := by decide +kernel
theorem d_PL_isOfOurKind_35 : decode b_PL_isOfOurKind 35 = .ok (.aload_n 1, 1) := by decide +kernel
theorem d_PL_isOfOurKind_36 : decode b_PL_isOfOurKind 36 = .ok (.bipush 42, 2) := by decide +kernel
theorem d_PL_isOfOurKind_38 : decode b_PL_isOfOurKind 38 = .ok (.iconst 2, 1) := by decide +kernel
theorem d_PL_isOfOurKind_39 : decode b_PL_isOfOurKind 39 = .ok (.invokevirtual 30, 3) := by decide +kernel
theorem d_PL_isOfOurKind_42 : decode b_PL_isOfOurKind 42 = .ok (.bipush 32, 2) := by decide +kernel
theorem d_PL_isOfOurKind_44 : decode b_PL_isOfOurKind 44 = .ok (.if_icmp .ne 16, 3) := by decide +kernel
theorem d_PL_isOfOurKind_47 : decode b_PL_isOfOurKind 47 = .ok (.aload_n 1, 1) := by decide +kernel
theorem d_PL_isOfOurKind_48 : decode b_PL_isOfOurKind 48 = .ok (.invokestatic 34, 3) := by decide +kernel
theorem d_PL_isOfOurKind_51 : decode b_PL_isOfOurKind 51 = .ok (.bipush 8, 2) := by decide +kernel
theorem d_PL_isOfOurKind_53 : decode b_PL_isOfOurKind 53 = .ok (.if_icmp .gt 7, 3) := by decide +kernel
theorem d_PL_isOfOurKind_56 : decode b_PL_isOfOurKind 56 = .ok (.iconst 1, 1) := by decide +kernel
theorem d_PL_isOfOurKind_57 : decode b_PL_isOfOurKind 57 = .ok (.goto 4, 3) := by decide +kernel
theorem d_PL_isOfOurKind_60 : decode b_PL_isOfOurKind 60 = .ok (.iconst 0, 1) := by decide +kernel
theorem d_PL_isOfOurKind_61 : decode b_PL_isOfOurKind 61 = .ok (.ireturn, 1) := by decide +kernel
theorem d_PL_hasAllHeaders_0 : decode b_PL_hasAllHeaders 0 = .ok (.aload_n 1, 1) := by decide +kernel
theorem d_PL_hasAllHeaders_1 : decode b_PL_hasAllHeaders 1 = .ok (.invokestatic 34, 3) := by decide +kernel
theorem d_PL_hasAllHeaders_4 : decode b_PL_hasAllHeaders 4 = .ok (.istore_n 2, 1) := by decide +kernel
theorem d_PL_hasAllHeaders_5 : decode b_PL_hasAllHeaders 5 = .ok (.iload_n 2, 1) := by decide +kernel
theorem d_PL_hasAllHeaders_6 : decode b_PL_hasAllHeaders 6 = .ok (.ifCond .eq 21, 3) := by decide +kernel
theorem d_PL_hasAllHeaders_9 : decode b_PL_hasAllHeaders 9 = .ok (.aload_n 1, 1) := by decide +kernel
theorem d_PL_hasAllHeaders_10 : decode b_PL_hasAllHeaders 10 = .ok (.aload_n 1, 1) := by decide +kernel
theorem d_PL_hasAllHeaders_11 : decode b_PL_hasAllHeaders 11 = .ok (.bipush 28, 2) := by decide +kernel
theorem d_PL_hasAllHeaders_13 : decode b_PL_hasAllHeaders 13 = .ok (.invokevirtual 38, 3) := by decide +kernel
theorem d_PL_hasAllHeaders_16 : decode b_PL_hasAllHeaders 16 = .ok (.iload_n 2, 1) := by decide +kernel
theorem d_PL_hasAllHeaders_17 : decode b_PL_hasAllHeaders 17 = .ok (.bipush 32, 2) := by decide +kernel
theorem d_PL_hasAllHeaders_19 : decode b_PL_hasAllHeaders 19 = .ok (.imul, 1) := by decide +kernel
theorem d_PL_hasAllHeaders_20 : decode b_PL_hasAllHeaders 20 = .ok (.i2l, 1) := by decide +kernel
theorem d_PL_hasAllHeaders_21 : decode b_PL_hasAllHeaders 21 = .ok (.invokevirtual 20, 3) := by decide +kernel
theorem d_PL_hasAllHeaders_24 : decode b_PL_hasAllHeaders 24 = .ok (.ifCond .eq 7, 3) := by decide +kernel
theorem d_PL_hasAllHeaders_27 : decode b_PL_hasAllHeaders 27 = .ok (.iconst 1, 1) := by decide +kernel
theorem d_PL_hasAllHeaders_28 : decode b_PL_hasAllHeaders 28 = .ok (.goto 4, 3) := by decide +kernel
theorem d_PL_hasAllHeaders_31 : decode b_PL_hasAllHeaders 31 = .ok (.iconst 0, 1) := by decide +kernel
theorem d_PL_hasAllHeaders_32 : decode b_PL_hasAllHeaders 32 = .ok (.ireturn, 1) := by decide +kernel
theorem d_PL_readHeader_0 : decode b_PL_readHeader 0 = .ok (.aload_n 1, 1) := by decide +kernel
theorem d_PL_readHeader_1 : decode b_PL_readHeader 1 = .ok (.iload_n 2, 1) := by decide +kernel
theorem d_PL_readHeader_2 : decode b_PL_readHeader 2 = .ok (.iconst 4, 1) := by decide +kernel
theorem d_PL_readHeader_3 : decode b_PL_readHeader 3 = .ok (.iadd, 1) := by decide +kernel
theorem d_PL_readHeader_4 : decode b_PL_readHeader 4 = .ok (.invokevirtual 38, 3) := by decide +kernel
theorem d_PL_readHeader_7 : decode b_PL_readHeader 7 = .ok (.lstore_n 3, 1) := by decide +kernel
theorem d_PL_readHeader_8 : decode b_PL_readHeader 8 = .ok (.aload_n 1, 1) := by decide +kernel
theorem d_PL_readHeader_9 : decode b_PL_readHeader 9 = .ok (.iload_n 2, 1) := by decide +kernel
theorem d_PL_readHeader_10 : decode b_PL_readHeader 10 = .ok (.bipush 8, 2) := by decide +kernel
theorem d_PL_readHeader_12 : decode b_PL_readHeader 12 = .ok (.iadd, 1) := by decide +kernel
theorem d_PL_readHeader_13 : decode b_PL_readHeader 13 = .ok (.invokevirtual 38, 3) := by decide +kernel
theorem d_PL_readHeader_16 : decode b_PL_readHeader 16 = .ok (.lstore 5, 2) := by decide +kernel
theorem d_PL_readHeader_18 : decode b_PL_readHeader 18 = .ok (.aload_n 1, 1) := by decide +kernel
theorem d_PL_readHeader_19 : decode b_PL_readHeader 19 = .ok (.iload_n 2, 1) := by decide +kernel
theorem d_PL_readHeader_20 : decode b_PL_readHeader 20 = .ok (.bipush 16, 2) := by decide +kernel
theorem d_PL_readHeader_22 : decode b_PL_readHeader 22 = .ok (.iadd, 1) := by decide +kernel
theorem d_PL_readHeader_23 : decode b_PL_readHeader 23 = .ok (.invokevirtual 38, 3) := by decide +kernel
theorem d_PL_readHeader_26 : decode b_PL_readHeader 26 = .ok (.lstore 7, 2) := by decide +kernel
theorem d_PL_readHeader_28 : decode b_PL_readHeader 28 = .ok (.aload_n 1, 1) := by decide +kernel
theorem d_PL_readHeader_29 : decode b_PL_readHeader 29 = .ok (.iload_n 2, 1) := by decide +kernel
theorem d_PL_readHeader_30 : decode b_PL_readHeader 30 = .ok (.bipush 20, 2) := by decide +kernel
theorem d_PL_readHeader_32 : decode b_PL_readHeader 32 = .ok (.iadd, 1) := by decide +kernel
theorem d_PL_readHeader_33 : decode b_PL_readHeader 33 = .ok (.invokevirtual 38, 3) := by decide +kernel
theorem d_PL_readHeader_36 : decode b_PL_readHeader 36 = .ok (.lstore 9, 2) := by decide +kernel
theorem d_PL_readHeader_38 : decode b_PL_readHeader 38 = .ok (.aload_n 1, 1) := by decide +kernel
theorem d_PL_readHeader_39 : decode b_PL_readHeader 39 = .ok (.iload_n 2, 1) := by decide +kernel
theorem d_PL_readHeader_40 : decode b_PL_readHeader 40 = .ok (.iconst 4, 1) := by decide +kernel
theorem d_PL_readHeader_41 : decode b_PL_readHeader 41 = .ok (.invokevirtual 30, 3) := by decide +kernel
theorem d_PL_readHeader_44 : decode b_PL_readHeader 44 = .ok (.iconst 1, 1) := by decide +kernel
theorem d_PL_readHeader_45 : decode b_PL_readHeader 45 = .ok (.if_icmp .ne 10, 3) := by decide +kernel
theorem d_PL_readHeader_48 : decode b_PL_readHeader 48 = .ok (.lload 9, 2) := by decide +kernel
theorem d_PL_readHeader_50 : decode b_PL_readHeader 50 = .ok (.lconst 0, 1) := by decide +kernel
theorem d_PL_readHeader_51 : decode b_PL_readHeader 51 = .ok (.lcmp, 1) := by decide +kernel
theorem d_PL_readHeader_52 : decode b_PL_readHeader 52 = .ok (.ifCond .ne 5, 3) := by decide +kernel
theorem d_PL_readHeader_55 : decode b_PL_readHeader 55 = .ok (.iconst 1, 1) := by decide +kernel
theorem d_PL_readHeader_56 : decode b_PL_readHeader 56 = .ok (.ireturn, 1) := by decide +kernel
theorem d_PL_readHeader_57 : decode b_PL_readHeader 57 = .ok (.lload 5, 2) := by decide +kernel
theorem d_PL_readHeader_59 : decode b_PL_readHeader 59 = .ok (.ldc2_w 59, 3) := by decide +kernel
theorem d_PL_readHeader_62 : decode b_PL_readHeader 62 = .ok (.lrem, 1) := by decide +kernel
theorem d_PL_readHeader_63 : decode b_PL_readHeader 63 = .ok (.lconst 0, 1) := by decide +kernel
theorem d_PL_readHeader_64 : decode b_PL_readHeader 64 = .ok (.lcmp, 1) := by decide +kernel
theorem d_PL_readHeader_65 : decode b_PL_readHeader 65 = .ok (.ifCond .ne 26, 3) := by decide +kernel
theorem d_PL_readHeader_68 : decode b_PL_readHeader 68 = .ok (.lload 5, 2) := by decide +kernel
theorem d_PL_readHeader_70 : decode b_PL_readHeader 70 = .ok (.aload_n 0, 1) := by decide +kernel
theorem d_PL_readHeader_71 : decode b_PL_readHeader 71 = .ok (.getfield 49, 3) := by decide +kernel
theorem d_PL_readHeader_74 : decode b_PL_readHeader 74 = .ok (.i2l, 1) := by decide +kernel
theorem d_PL_readHeader_75 : decode b_PL_readHeader 75 = .ok (.lcmp, 1) := by decide +kernel
theorem d_PL_readHeader_76 : decode b_PL_readHeader 76 = .ok (.ifCond .lt 15, 3) := by decide +kernel
theorem d_PL_readHeader_79 : decode b_PL_readHeader 79 = .ok (.lload 5, 2) := by decide +kernel
theorem d_PL_readHeader_81 : decode b_PL_readHeader 81 = .ok (.lload 9, 2) := by decide +kernel
theorem d_PL_readHeader_83 : decode b_PL_readHeader 83 = .ok (.ladd, 1) := by decide +kernel
theorem d_PL_readHeader_84 : decode b_PL_readHeader 84 = .ok (.ldc2_w 61, 3) := by decide +kernel
theorem d_PL_readHeader_87 : decode b_PL_readHeader 87 = .ok (.lcmp, 1) := by decide +kernel
theorem d_PL_readHeader_88 : decode b_PL_readHeader 88 = .ok (.ifCond .le 5, 3) := by decide +kernel
theorem d_PL_readHeader_91 : decode b_PL_readHeader 91 = .ok (.iconst 0, 1) := by decide +kernel
theorem d_PL_readHeader_92 : decode b_PL_readHeader 92 = .ok (.ireturn, 1) := by decide +kernel
theorem d_PL_readHeader_93 : decode b_PL_readHeader 93 = .ok (.lload 7, 2) := by decide +kernel
theorem d_PL_readHeader_95 : decode b_PL_readHeader 95 = .ok (.lload 9, 2) := by decide +kernel
theorem d_PL_readHeader_97 : decode b_PL_readHeader 97 = .ok (.lcmp, 1) := by decide +kernel
theorem d_PL_readHeader_98 : decode b_PL_readHeader 98 = .ok (.ifCond .gt 25, 3) := by decide +kernel
theorem d_PL_readHeader_101 : decode b_PL_readHeader 101 = .ok (.aload_n 1, 1) := by decide +kernel
theorem d_PL_readHeader_102 : decode b_PL_readHeader 102 = .ok (.lload_n 3, 1) := by decide +kernel
theorem d_PL_readHeader_103 : decode b_PL_readHeader 103 = .ok (.lload 7, 2) := by decide +kernel
theorem d_PL_readHeader_105 : decode b_PL_readHeader 105 = .ok (.invokevirtual 20, 3) := by decide +kernel
theorem d_PL_readHeader_108 : decode b_PL_readHeader 108 = .ok (.ifCond .eq 15, 3) := by decide +kernel
theorem d_PL_readHeader_111 : decode b_PL_readHeader 111 = .ok (.aload_n 0, 1) := by decide +kernel
theorem d_PL_readHeader_112 : decode b_PL_readHeader 112 = .ok (.getfield 42, 3) := by decide +kernel
theorem d_PL_readHeader_115 : decode b_PL_readHeader 115 = .ok (.aload_n 0, 1) := by decide +kernel
theorem d_PL_readHeader_116 : decode b_PL_readHeader 116 = .ok (.getfield 11, 3) := by decide +kernel
theorem d_PL_readHeader_119 : decode b_PL_readHeader 119 = .ok (.arraylength, 1) := by decide +kernel
theorem d_PL_readHeader_120 : decode b_PL_readHeader 120 = .ok (.if_icmp .lt 5, 3) := by decide +kernel
theorem d_PL_readHeader_123 : decode b_PL_readHeader 123 = .ok (.iconst 0, 1) := by decide +kernel
theorem d_PL_readHeader_124 : decode b_PL_readHeader 124 = .ok (.ireturn, 1) := by decide +kernel
theorem d_PL_readHeader_125 : decode b_PL_readHeader 125 = .ok (.aload_n 0, 1) := by decide +kernel
theorem d_PL_readHeader_126 : decode b_PL_readHeader 126 = .ok (.getfield 11, 3) := by decide +kernel
theorem d_PL_readHeader_129 : decode b_PL_readHeader 129 = .ok (.aload_n 0, 1) := by decide +kernel
theorem d_PL_readHeader_130 : decode b_PL_readHeader 130 = .ok (.getfield 42, 3) := by decide +kernel
theorem d_PL_readHeader_133 : decode b_PL_readHeader 133 = .ok (.aaload, 1) := by decide +kernel
theorem d_PL_readHeader_134 : decode b_PL_readHeader 134 = .ok (.astore 11, 2) := by decide +kernel
theorem d_PL_readHeader_136 : decode b_PL_readHeader 136 = .ok (.aload 11, 2) := by decide +kernel
theorem d_PL_readHeader_138 : decode b_PL_readHeader 138 = .ok (.lload_n 3, 1) := by decide +kernel
theorem d_PL_readHeader_139 : decode b_PL_readHeader 139 = .ok (.l2i, 1) := by decide +kernel
theorem d_PL_readHeader_140 : decode b_PL_readHeader 140 = .ok (.putfield 63, 3) := by decide +kernel
theorem d_PL_readHeader_143 : decode b_PL_readHeader 143 = .ok (.aload 11, 2) := by decide +kernel
theorem d_PL_readHeader_145 : decode b_PL_readHeader 145 = .ok (.lload 7, 2) := by decide +kernel
theorem d_PL_readHeader_147 : decode b_PL_readHeader 147 = .ok (.l2i, 1) := by decide +kernel
theorem d_PL_readHeader_148 : decode b_PL_readHeader 148 = .ok (.putfield 66, 3) := by decide +kernel
theorem d_PL_readHeader_151 : decode b_PL_readHeader 151 = .ok (.aload 11, 2) := by decide +kernel
theorem d_PL_readHeader_153 : decode b_PL_readHeader 153 = .ok (.lload 5, 2) := by decide +kernel
theorem d_PL_readHeader_155 : decode b_PL_readHeader 155 = .ok (.l2i, 1) := by decide +kernel
theorem d_PL_readHeader_156 : decode b_PL_readHeader 156 = .ok (.putfield 69, 3) := by decide +kernel
theorem d_PL_readHeader_159 : decode b_PL_readHeader 159 = .ok (.aload 11, 2) := by decide +kernel
theorem d_PL_readHeader_161 : decode b_PL_readHeader 161 = .ok (.lload 9, 2) := by decide +kernel
theorem d_PL_readHeader_163 : decode b_PL_readHeader 163 = .ok (.ldc2_w 59, 3) := by decide +kernel
theorem d_PL_readHeader_166 : decode b_PL_readHeader 166 = .ok (.ladd, 1) := by decide +kernel
theorem d_PL_readHeader_167 : decode b_PL_readHeader 167 = .ok (.lconst 1, 1) := by decide +kernel
theorem d_PL_readHeader_168 : decode b_PL_readHeader 168 = .ok (.lsub, 1) := by decide +kernel
theorem d_PL_readHeader_169 : decode b_PL_readHeader 169 = .ok (.ldc2_w 59, 3) := by decide +kernel
theorem d_PL_readHeader_172 : decode b_PL_readHeader 172 = .ok (.ldiv, 1) := by decide +kernel
theorem d_PL_readHeader_173 : decode b_PL_readHeader 173 = .ok (.l2i, 1) := by decide +kernel
theorem d_PL_readHeader_174 : decode b_PL_readHeader 174 = .ok (.putfield 72, 3) := by decide +kernel
theorem d_PL_readHeader_177 : decode b_PL_readHeader 177 = .ok (.aload 11, 2) := by decide +kernel
theorem d_PL_readHeader_179 : decode b_PL_readHeader 179 = .ok (.aload_n 1, 1) := by decide +kernel
theorem d_PL_readHeader_180 : decode b_PL_readHeader 180 = .ok (.iload_n 2, 1) := by decide +kernel
theorem d_PL_readHeader_181 : decode b_PL_readHeader 181 = .ok (.bipush 24, 2) := by decide +kernel
theorem d_PL_readHeader_183 : decode b_PL_readHeader 183 = .ok (.iadd, 1) := by decide +kernel
theorem d_PL_readHeader_184 : decode b_PL_readHeader 184 = .ok (.iconst 4, 1) := by decide +kernel
theorem d_PL_readHeader_185 : decode b_PL_readHeader 185 = .ok (.invokevirtual 30, 3) := by decide +kernel
theorem d_PL_readHeader_188 : decode b_PL_readHeader 188 = .ok (.invokestatic 73, 3) := by decide +kernel
theorem d_PL_readHeader_191 : decode b_PL_readHeader 191 = .ok (.putfield 77, 3) := by decide +kernel
theorem d_PL_readHeader_194 : decode b_PL_readHeader 194 = .ok (.aload_n 0, 1) := by decide +kernel
theorem d_PL_readHeader_195 : decode b_PL_readHeader 195 = .ok (.dup, 1) := by decide +kernel
theorem d_PL_readHeader_196 : decode b_PL_readHeader 196 = .ok (.getfield 42, 3) := by decide +kernel
theorem d_PL_readHeader_199 : decode b_PL_readHeader 199 = .ok (.iconst 1, 1) := by decide +kernel
theorem d_PL_readHeader_200 : decode b_PL_readHeader 200 = .ok (.iadd, 1) := by decide +kernel
theorem d_PL_readHeader_201 : decode b_PL_readHeader 201 = .ok (.putfield 42, 3) := by decide +kernel
theorem d_PL_readHeader_204 : decode b_PL_readHeader 204 = .ok (.aload_n 0, 1) := by decide +kernel
theorem d_PL_readHeader_205 : decode b_PL_readHeader 205 = .ok (.aload 11, 2) := by decide +kernel
theorem d_PL_readHeader_207 : decode b_PL_readHeader 207 = .ok (.getfield 69, 3) := by decide +kernel
theorem d_PL_readHeader_210 : decode b_PL_readHeader 210 = .ok (.aload 11, 2) := by decide +kernel
theorem d_PL_readHeader_212 : decode b_PL_readHeader 212 = .ok (.getfield 72, 3) := by decide +kernel
theorem d_PL_readHeader_215 : decode b_PL_readHeader 215 = .ok (.sipush 4096, 3) := by decide +kernel
theorem d_PL_readHeader_218 : decode b_PL_readHeader 218 = .ok (.imul, 1) := by decide +kernel
theorem d_PL_readHeader_219 : decode b_PL_readHeader 219 = .ok (.iadd, 1) := by decide +kernel
theorem d_PL_readHeader_220 : decode b_PL_readHeader 220 = .ok (.putfield 49, 3) := by decide +kernel
theorem d_PL_readHeader_223 : decode b_PL_readHeader 223 = .ok (.aload_n 0, 1) := by decide +kernel
theorem d_PL_readHeader_224 : decode b_PL_readHeader 224 = .ok (.dup, 1) := by decide +kernel
theorem d_PL_readHeader_225 : decode b_PL_readHeader 225 = .ok (.getfield 52, 3) := by decide +kernel
theorem d_PL_readHeader_228 : decode b_PL_readHeader 228 = .ok (.aload 11, 2) := by decide +kernel
theorem d_PL_readHeader_230 : decode b_PL_readHeader 230 = .ok (.getfield 72, 3) := by decide +kernel
theorem d_PL_readHeader_233 : decode b_PL_readHeader 233 = .ok (.iadd, 1) := by decide +kernel
theorem d_PL_readHeader_234 : decode b_PL_readHeader 234 = .ok (.putfield 52, 3) := by decide +kernel
theorem d_PL_readHeader_237 : decode b_PL_readHeader 237 = .ok (.iconst 1, 1) := by decide +kernel
theorem d_PL_readHeader_238 : decode b_PL_readHeader 238 = .ok (.ireturn, 1) := by decide +kernel
