theorem dX4_isTeam_37 : decode cX4_isTeam 37 = .ok (.iaload, 1) := by decide +kernel
theorem dX4_isTeam_38 : decode cX4_isTeam 38 = .ok (.invokestatic 80, 3) := by decide +kernel
theorem dX4_isTeam_41 : decode cX4_isTeam 41 = .ok (.ifCond .eq 34, 3) := by decide +kernel
theorem dX4_isTeam_44 : decode cX4_isTeam 44 = .ok (.aload_n 0, 1) := by decide +kernel
theorem dX4_isTeam_45 : decode cX4_isTeam 45 = .ok (.getfield 13, 3) := by decide +kernel
theorem dX4_isTeam_48 : decode cX4_isTeam 48 = .ok (.iload_n 3, 1) := by decide +kernel
theorem dX4_isTeam_49 : decode cX4_isTeam 49 = .ok (.iaload, 1) := by decide +kernel
theorem dX4_isTeam_50 : decode cX4_isTeam 50 = .ok (.aload_n 0, 1) := by decide +kernel
theorem dX4_isTeam_51 : decode cX4_isTeam 51 = .ok (.getfield 45, 3) := by decide +kernel
theorem dX4_isTeam_54 : decode cX4_isTeam 54 = .ok (.iload_n 3, 1) := by decide +kernel
theorem dX4_isTeam_55 : decode cX4_isTeam 55 = .ok (.iaload, 1) := by decide +kernel
theorem dX4_isTeam_56 : decode cX4_isTeam 56 = .ok (.invokestatic 80, 3) := by decide +kernel
theorem dX4_isTeam_59 : decode cX4_isTeam 59 = .ok (.ifCond .eq 16, 3) := by decide +kernel
theorem dX4_isTeam_62 : decode cX4_isTeam 62 = .ok (.aload_n 0, 1) := by decide +kernel
theorem dX4_isTeam_63 : decode cX4_isTeam 63 = .ok (.getfield 19, 3) := by decide +kernel
theorem dX4_isTeam_66 : decode cX4_isTeam 66 = .ok (.iload_n 3, 1) := by decide +kernel
theorem dX4_isTeam_67 : decode cX4_isTeam 67 = .ok (.baload, 1) := by decide +kernel
theorem dX4_isTeam_68 : decode cX4_isTeam 68 = .ok (.ifCond .ne 7, 3) := by decide +kernel
theorem dX4_isTeam_71 : decode cX4_isTeam 71 = .ok (.iconst 1, 1) := by decide +kernel
theorem dX4_isTeam_72 : decode cX4_isTeam 72 = .ok (.goto 4, 3) := by decide +kernel
theorem dX4_isTeam_75 : decode cX4_isTeam 75 = .ok (.iconst 0, 1) := by decide +kernel
theorem dX4_isTeam_76 : decode cX4_isTeam 76 = .ok (.istore_n 2, 1) := by decide +kernel
theorem dX4_isTeam_77 : decode cX4_isTeam 77 = .ok (.iinc 3 1, 3) := by decide +kernel
theorem dX4_isTeam_80 : decode cX4_isTeam 80 = .ok (.goto (-76), 3) := by decide +kernel
theorem dX4_isTeam_83 : decode cX4_isTeam 83 = .ok (.iconst 0, 1) := by decide +kernel
theorem dX4_isTeam_84 : decode cX4_isTeam 84 = .ok (.istore_n 3, 1) := by decide +kernel
theorem dX4_isTeam_85 : decode cX4_isTeam 85 = .ok (.iload_n 3, 1) := by decide +kernel
theorem dX4_isTeam_86 : decode cX4_isTeam 86 = .ok (.iconst 5, 1) := by decide +kernel
theorem dX4_isTeam_87 : decode cX4_isTeam 87 = .ok (.if_icmp .ge 83, 3) := by decide +kernel
theorem dX4_isTeam_90 : decode cX4_isTeam 90 = .ok (.iload_n 2, 1) := by decide +kernel
theorem dX4_isTeam_91 : decode cX4_isTeam 91 = .ok (.ifCond .eq 79, 3) := by decide +kernel
theorem dX4_isTeam_94 : decode cX4_isTeam 94 = .ok (.iconst 0, 1) := by decide +kernel
theorem dX4_isTeam_95 : decode cX4_isTeam 95 = .ok (.istore 4, 2) := by decide +kernel
theorem dX4_isTeam_97 : decode cX4_isTeam 97 = .ok (.iconst 0, 1) := by decide +kernel
theorem dX4_isTeam_98 : decode cX4_isTeam 98 = .ok (.istore 5, 2) := by decide +kernel
theorem dX4_isTeam_100 : decode cX4_isTeam 100 = .ok (.iload 5, 2) := by decide +kernel
theorem dX4_isTeam_102 : decode cX4_isTeam 102 = .ok (.aload_n 0, 1) := by decide +kernel
theorem dX4_isTeam_103 : decode cX4_isTeam 103 = .ok (.getfield 66, 3) := by decide +kernel
theorem dX4_isTeam_106 : decode cX4_isTeam 106 = .ok (.if_icmp .ge 30, 3) := by decide +kernel
theorem dX4_isTeam_109 : decode cX4_isTeam 109 = .ok (.iload 4, 2) := by decide +kernel
theorem dX4_isTeam_111 : decode cX4_isTeam 111 = .ok (.aload_n 0, 1) := by decide +kernel
theorem dX4_isTeam_112 : decode cX4_isTeam 112 = .ok (.getfield 45, 3) := by decide +kernel
theorem dX4_isTeam_115 : decode cX4_isTeam 115 = .ok (.iload 5, 2) := by decide +kernel
theorem dX4_isTeam_117 : decode cX4_isTeam 117 = .ok (.iaload, 1) := by decide +kernel
theorem dX4_isTeam_118 : decode cX4_isTeam 118 = .ok (.iload_n 3, 1) := by decide +kernel
theorem dX4_isTeam_119 : decode cX4_isTeam 119 = .ok (.if_icmp .ne 7, 3) := by decide +kernel
theorem dX4_isTeam_122 : decode cX4_isTeam 122 = .ok (.iconst 1, 1) := by decide +kernel
theorem dX4_isTeam_123 : decode cX4_isTeam 123 = .ok (.goto 4, 3) := by decide +kernel
theorem dX4_isTeam_126 : decode cX4_isTeam 126 = .ok (.iconst 0, 1) := by decide +kernel
theorem dX4_isTeam_127 : decode cX4_isTeam 127 = .ok (.iadd, 1) := by decide +kernel
theorem dX4_isTeam_128 : decode cX4_isTeam 128 = .ok (.istore 4, 2) := by decide +kernel
theorem dX4_isTeam_130 : decode cX4_isTeam 130 = .ok (.iinc 5 1, 3) := by decide +kernel
theorem dX4_isTeam_133 : decode cX4_isTeam 133 = .ok (.goto (-33), 3) := by decide +kernel
theorem dX4_isTeam_136 : decode cX4_isTeam 136 = .ok (.aload_n 0, 1) := by decide +kernel
theorem dX4_isTeam_137 : decode cX4_isTeam 137 = .ok (.getfield 26, 3) := by decide +kernel
theorem dX4_isTeam_140 : decode cX4_isTeam 140 = .ok (.iload_n 1, 1) := by decide +kernel
theorem dX4_isTeam_141 : decode cX4_isTeam 141 = .ok (.iaload, 1) := by decide +kernel
theorem dX4_isTeam_142 : decode cX4_isTeam 142 = .ok (.iload_n 3, 1) := by decide +kernel
theorem dX4_isTeam_143 : decode cX4_isTeam 143 = .ok (.invokestatic 80, 3) := by decide +kernel
theorem dX4_isTeam_146 : decode cX4_isTeam 146 = .ok (.ifCond .eq 12, 3) := by decide +kernel
theorem dX4_isTeam_149 : decode cX4_isTeam 149 = .ok (.iload 4, 2) := by decide +kernel
theorem dX4_isTeam_151 : decode cX4_isTeam 151 = .ok (.aload_n 0, 1) := by decide +kernel
theorem dX4_isTeam_152 : decode cX4_isTeam 152 = .ok (.getfield 29, 3) := by decide +kernel
theorem dX4_isTeam_155 : decode cX4_isTeam 155 = .ok (.if_icmp .ne 7, 3) := by decide +kernel
theorem dX4_isTeam_158 : decode cX4_isTeam 158 = .ok (.iconst 1, 1) := by decide +kernel
theorem dX4_isTeam_159 : decode cX4_isTeam 159 = .ok (.goto 4, 3) := by decide +kernel
theorem dX4_isTeam_162 : decode cX4_isTeam 162 = .ok (.iconst 0, 1) := by decide +kernel
theorem dX4_isTeam_163 : decode cX4_isTeam 163 = .ok (.istore_n 2, 1) := by decide +kernel
theorem dX4_isTeam_164 : decode cX4_isTeam 164 = .ok (.iinc 3 1, 3) := by decide +kernel
theorem dX4_isTeam_167 : decode cX4_isTeam 167 = .ok (.goto (-82), 3) := by decide +kernel
theorem dX4_isTeam_170 : decode cX4_isTeam 170 = .ok (.iload_n 2, 1) := by decide +kernel
theorem dX4_isTeam_171 : decode cX4_isTeam 171 = .ok (.ireturn, 1) := by decide +kernel
theorem dX4_allKnow_0 : decode cX4_allKnow 0 = .ok (.iconst 1, 1) := by decide +kernel
theorem dX4_allKnow_1 : decode cX4_allKnow 1 = .ok (.istore_n 3, 1) := by decide +kernel
theorem dX4_allKnow_2 : decode cX4_allKnow 2 = .ok (.iconst 0, 1) := by decide +kernel
theorem dX4_allKnow_3 : decode cX4_allKnow 3 = .ok (.istore 4, 2) := by decide +kernel
theorem dX4_allKnow_5 : decode cX4_allKnow 5 = .ok (.iload 4, 2) := by decide +kernel
theorem dX4_allKnow_7 : decode cX4_allKnow 7 = .ok (.aload_n 0, 1) := by decide +kernel
theorem dX4_allKnow_8 : decode cX4_allKnow 8 = .ok (.getfield 66, 3) := by decide +kernel
theorem dX4_allKnow_11 : decode cX4_allKnow 11 = .ok (.if_icmp .ge 44, 3) := by decide +kernel
theorem dX4_allKnow_14 : decode cX4_allKnow 14 = .ok (.iload_n 3, 1) := by decide +kernel
theorem dX4_allKnow_15 : decode cX4_allKnow 15 = .ok (.ifCond .eq 32, 3) := by decide +kernel
theorem dX4_allKnow_18 : decode cX4_allKnow 18 = .ok (.aload_n 0, 1) := by decide +kernel
theorem dX4_allKnow_19 : decode cX4_allKnow 19 = .ok (.getfield 45, 3) := by decide +kernel
theorem dX4_allKnow_22 : decode cX4_allKnow 22 = .ok (.iload 4, 2) := by decide +kernel
theorem dX4_allKnow_24 : decode cX4_allKnow 24 = .ok (.iaload, 1) := by decide +kernel
theorem dX4_allKnow_25 : decode cX4_allKnow 25 = .ok (.iload_n 1, 1) := by decide +kernel
theorem dX4_allKnow_26 : decode cX4_allKnow 26 = .ok (.if_icmp .ne 17, 3) := by decide +kernel
theorem dX4_allKnow_29 : decode cX4_allKnow 29 = .ok (.aload_n 0, 1) := by decide +kernel
theorem dX4_allKnow_30 : decode cX4_allKnow 30 = .ok (.getfield 7, 3) := by decide +kernel
theorem dX4_allKnow_33 : decode cX4_allKnow 33 = .ok (.iload 4, 2) := by decide +kernel
theorem dX4_allKnow_35 : decode cX4_allKnow 35 = .ok (.iaload, 1) := by decide +kernel
theorem dX4_allKnow_36 : decode cX4_allKnow 36 = .ok (.iload_n 2, 1) := by decide +kernel
theorem dX4_allKnow_37 : decode cX4_allKnow 37 = .ok (.invokestatic 80, 3) := by decide +kernel
theorem dX4_allKnow_40 : decode cX4_allKnow 40 = .ok (.ifCond .eq 7, 3) := by decide +kernel
theorem dX4_allKnow_43 : decode cX4_allKnow 43 = .ok (.iconst 1, 1) := by decide +kernel
theorem dX4_allKnow_44 : decode cX4_allKnow 44 = .ok (.goto 4, 3) := by decide +kernel
theorem dX4_allKnow_47 : decode cX4_allKnow 47 = .ok (.iconst 0, 1) := by decide +kernel
theorem dX4_allKnow_48 : decode cX4_allKnow 48 = .ok (.istore_n 3, 1) := by decide +kernel
theorem dX4_allKnow_49 : decode cX4_allKnow 49 = .ok (.iinc 4 1, 3) := by decide +kernel
theorem dX4_allKnow_52 : decode cX4_allKnow 52 = .ok (.goto (-47), 3) := by decide +kernel
theorem dX4_allKnow_55 : decode cX4_allKnow 55 = .ok (.iload_n 3, 1) := by decide +kernel
theorem dX4_allKnow_56 : decode cX4_allKnow 56 = .ok (.ireturn, 1) := by decide +kernel
theorem dX4_isWhole_0 : decode cX4_isWhole 0 = .ok (.iconst 1, 1) := by decide +kernel
theorem dX4_isWhole_1 : decode cX4_isWhole 1 = .ok (.istore_n 2, 1) := by decide +kernel
theorem dX4_isWhole_2 : decode cX4_isWhole 2 = .ok (.iconst 0, 1) := by decide +kernel
theorem dX4_isWhole_3 : decode cX4_isWhole 3 = .ok (.istore_n 3, 1) := by decide +kernel
theorem dX4_isWhole_4 : decode cX4_isWhole 4 = .ok (.iload_n 3, 1) := by decide +kernel
theorem dX4_isWhole_5 : decode cX4_isWhole 5 = .ok (.iconst 5, 1) := by decide +kernel
theorem dX4_isWhole_6 : decode cX4_isWhole 6 = .ok (.if_icmp .ge 156, 3) := by decide +kernel
theorem dX4_isWhole_9 : decode cX4_isWhole 9 = .ok (.iconst 0, 1) := by decide +kernel
theorem dX4_isWhole_10 : decode cX4_isWhole 10 = .ok (.istore 4, 2) := by decide +kernel
theorem dX4_isWhole_12 : decode cX4_isWhole 12 = .ok (.iload 4, 2) := by decide +kernel
theorem dX4_isWhole_14 : decode cX4_isWhole 14 = .ok (.iconst 5, 1) := by decide +kernel
theorem dX4_isWhole_15 : decode cX4_isWhole 15 = .ok (.if_icmp .ge 141, 3) := by decide +kernel
theorem dX4_isWhole_18 : decode cX4_isWhole 18 = .ok (.aload_n 0, 1) := by decide +kernel
theorem dX4_isWhole_19 : decode cX4_isWhole 19 = .ok (.getfield 23, 3) := by decide +kernel
theorem dX4_isWhole_22 : decode cX4_isWhole 22 = .ok (.iload_n 1, 1) := by decide +kernel
theorem dX4_isWhole_23 : decode cX4_isWhole 23 = .ok (.iaload, 1) := by decide +kernel
theorem dX4_isWhole_24 : decode cX4_isWhole 24 = .ok (.iload_n 3, 1) := by decide +kernel
theorem dX4_isWhole_25 : decode cX4_isWhole 25 = .ok (.invokestatic 80, 3) := by decide +kernel
theorem dX4_isWhole_28 : decode cX4_isWhole 28 = .ok (.ifCond .eq 122, 3) := by decide +kernel
theorem dX4_isWhole_31 : decode cX4_isWhole 31 = .ok (.aload_n 0, 1) := by decide +kernel
theorem dX4_isWhole_32 : decode cX4_isWhole 32 = .ok (.getfield 26, 3) := by decide +kernel
theorem dX4_isWhole_35 : decode cX4_isWhole 35 = .ok (.iload_n 1, 1) := by decide +kernel
theorem dX4_isWhole_36 : decode cX4_isWhole 36 = .ok (.iaload, 1) := by decide +kernel
theorem dX4_isWhole_37 : decode cX4_isWhole 37 = .ok (.iload 4, 2) := by decide +kernel
theorem dX4_isWhole_39 : decode cX4_isWhole 39 = .ok (.invokestatic 80, 3) := by decide +kernel
theorem dX4_isWhole_42 : decode cX4_isWhole 42 = .ok (.ifCond .eq 108, 3) := by decide +kernel
theorem dX4_isWhole_45 : decode cX4_isWhole 45 = .ok (.iload 4, 2) := by decide +kernel
theorem dX4_isWhole_47 : decode cX4_isWhole 47 = .ok (.iload_n 3, 1) := by decide +kernel
theorem dX4_isWhole_48 : decode cX4_isWhole 48 = .ok (.if_icmp .eq 102, 3) := by decide +kernel
theorem dX4_isWhole_51 : decode cX4_isWhole 51 = .ok (.aload_n 0, 1) := by decide +kernel
theorem dX4_isWhole_52 : decode cX4_isWhole 52 = .ok (.iload 4, 2) := by decide +kernel
theorem dX4_isWhole_54 : decode cX4_isWhole 54 = .ok (.iload_n 3, 1) := by decide +kernel
theorem dX4_isWhole_55 : decode cX4_isWhole 55 = .ok (.invokevirtual 84, 3) := by decide +kernel
theorem dX4_isWhole_58 : decode cX4_isWhole 58 = .ok (.istore 5, 2) := by decide +kernel
theorem dX4_isWhole_60 : decode cX4_isWhole 60 = .ok (.iconst 0, 1) := by decide +kernel
theorem dX4_isWhole_61 : decode cX4_isWhole 61 = .ok (.istore 6, 2) := by decide +kernel
theorem dX4_isWhole_63 : decode cX4_isWhole 63 = .ok (.iload 6, 2) := by decide +kernel
theorem dX4_isWhole_65 : decode cX4_isWhole 65 = .ok (.iconst 5, 1) := by decide +kernel
theorem dX4_isWhole_66 : decode cX4_isWhole 66 = .ok (.if_icmp .ge 69, 3) := by decide +kernel
theorem dX4_isWhole_69 : decode cX4_isWhole 69 = .ok (.iload 5, 2) := by decide +kernel
theorem dX4_isWhole_71 : decode cX4_isWhole 71 = .ok (.ifCond .ne 51, 3) := by decide +kernel
theorem dX4_isWhole_74 : decode cX4_isWhole 74 = .ok (.aload_n 0, 1) := by decide +kernel
theorem dX4_isWhole_75 : decode cX4_isWhole 75 = .ok (.getfield 26, 3) := by decide +kernel
theorem dX4_isWhole_78 : decode cX4_isWhole 78 = .ok (.iload_n 1, 1) := by decide +kernel
theorem dX4_isWhole_79 : decode cX4_isWhole 79 = .ok (.iaload, 1) := by decide +kernel
theorem dX4_isWhole_80 : decode cX4_isWhole 80 = .ok (.iload 6, 2) := by decide +kernel
theorem dX4_isWhole_82 : decode cX4_isWhole 82 = .ok (.invokestatic 80, 3) := by decide +kernel
theorem dX4_isWhole_85 : decode cX4_isWhole 85 = .ok (.ifCond .eq 41, 3) := by decide +kernel
theorem dX4_isWhole_88 : decode cX4_isWhole 88 = .ok (.iload 6, 2) := by decide +kernel
theorem dX4_isWhole_90 : decode cX4_isWhole 90 = .ok (.iload_n 3, 1) := by decide +kernel
theorem dX4_isWhole_91 : decode cX4_isWhole 91 = .ok (.if_icmp .eq 35, 3) := by decide +kernel
theorem dX4_isWhole_94 : decode cX4_isWhole 94 = .ok (.iload 6, 2) := by decide +kernel
theorem dX4_isWhole_96 : decode cX4_isWhole 96 = .ok (.iload 4, 2) := by decide +kernel
theorem dX4_isWhole_98 : decode cX4_isWhole 98 = .ok (.if_icmp .eq 28, 3) := by decide +kernel
theorem dX4_isWhole_101 : decode cX4_isWhole 101 = .ok (.aload_n 0, 1) := by decide +kernel
theorem dX4_isWhole_102 : decode cX4_isWhole 102 = .ok (.iload 4, 2) := by decide +kernel
theorem dX4_isWhole_104 : decode cX4_isWhole 104 = .ok (.iload 6, 2) := by decide +kernel
theorem dX4_isWhole_106 : decode cX4_isWhole 106 = .ok (.invokevirtual 84, 3) := by decide +kernel
theorem dX4_isWhole_109 : decode cX4_isWhole 109 = .ok (.ifCond .eq 17, 3) := by decide +kernel
theorem dX4_isWhole_112 : decode cX4_isWhole 112 = .ok (.aload_n 0, 1) := by decide +kernel
theorem dX4_isWhole_113 : decode cX4_isWhole 113 = .ok (.iload 6, 2) := by decide +kernel
theorem dX4_isWhole_115 : decode cX4_isWhole 115 = .ok (.iload_n 3, 1) := by decide +kernel
theorem dX4_isWhole_116 : decode cX4_isWhole 116 = .ok (.invokevirtual 84, 3) := by decide +kernel
theorem dX4_isWhole_119 : decode cX4_isWhole 119 = .ok (.ifCond .eq 7, 3) := by decide +kernel
theorem dX4_isWhole_122 : decode cX4_isWhole 122 = .ok (.iconst 1, 1) := by decide +kernel
theorem dX4_isWhole_123 : decode cX4_isWhole 123 = .ok (.goto 4, 3) := by decide +kernel
theorem dX4_isWhole_126 : decode cX4_isWhole 126 = .ok (.iconst 0, 1) := by decide +kernel
theorem dX4_isWhole_127 : decode cX4_isWhole 127 = .ok (.istore 5, 2) := by decide +kernel
theorem dX4_isWhole_129 : decode cX4_isWhole 129 = .ok (.iinc 6 1, 3) := by decide +kernel
theorem dX4_isWhole_132 : decode cX4_isWhole 132 = .ok (.goto (-69), 3) := by decide +kernel
theorem dX4_isWhole_135 : decode cX4_isWhole 135 = .ok (.iload_n 2, 1) := by decide +kernel
theorem dX4_isWhole_136 : decode cX4_isWhole 136 = .ok (.ifCond .eq 12, 3) := by decide +kernel
theorem dX4_isWhole_139 : decode cX4_isWhole 139 = .ok (.iload 5, 2) := by decide +kernel
theorem dX4_isWhole_141 : decode cX4_isWhole 141 = .ok (.ifCond .eq 7, 3) := by decide +kernel
theorem dX4_isWhole_144 : decode cX4_isWhole 144 = .ok (.iconst 1, 1) := by decide +kernel
theorem dX4_isWhole_145 : decode cX4_isWhole 145 = .ok (.goto 4, 3) := by decide +kernel
theorem dX4_isWhole_148 : decode cX4_isWhole 148 = .ok (.iconst 0, 1) := by decide +kernel
theorem dX4_isWhole_149 : decode cX4_isWhole 149 = .ok (.istore_n 2, 1) := by decide +kernel
theorem dX4_isWhole_150 : decode cX4_isWhole 150 = .ok (.iinc 4 1, 3) := by decide +kernel
theorem dX4_isWhole_153 : decode cX4_isWhole 153 = .ok (.goto (-141), 3) := by decide +kernel
theorem dX4_isWhole_156 : decode cX4_isWhole 156 = .ok (.iinc 3 1, 3) := by decide +kernel
theorem dX4_isWhole_159 : decode cX4_isWhole 159 = .ok (.goto (-155), 3) := by decide +kernel
theorem dX4_isWhole_162 : decode cX4_isWhole 162 = .ok (.iload_n 2, 1) := by decide +kernel
theorem dX4_isWhole_163 : decode cX4_isWhole 163 = .ok (.ireturn, 1) := by decide +kernel
theorem dX4_findTeams_0 : decode cX4_findTeams 0 = .ok (.aload_n 0, 1) := by decide +kernel
theorem dX4_findTeams_1 : decode cX4_findTeams 1 = .ok (.iconst 0, 1) := by decide +kernel
theorem dX4_findTeams_2 : decode cX4_findTeams 2 = .ok (.putfield 87, 3) := by decide +kernel
theorem dX4_findTeams_5 : decode cX4_findTeams 5 = .ok (.aload_n 0, 1) := by decide +kernel
theorem dX4_findTeams_6 : decode cX4_findTeams 6 = .ok (.iconst (-1), 1) := by decide +kernel
theorem dX4_findTeams_7 : decode cX4_findTeams 7 = .ok (.putfield 90, 3) := by decide +kernel
theorem dX4_findTeams_10 : decode cX4_findTeams 10 = .ok (.aload_n 0, 1) := by decide +kernel
theorem dX4_findTeams_11 : decode cX4_findTeams 11 = .ok (.iconst (-1), 1) := by decide +kernel
theorem dX4_findTeams_12 : decode cX4_findTeams 12 = .ok (.putfield 93, 3) := by decide +kernel
theorem dX4_findTeams_15 : decode cX4_findTeams 15 = .ok (.aload_n 0, 1) := by decide +kernel
theorem dX4_findTeams_16 : decode cX4_findTeams 16 = .ok (.bipush 63, 2) := by decide +kernel
theorem dX4_findTeams_18 : decode cX4_findTeams 18 = .ok (.putfield 96, 3) := by decide +kernel
theorem dX4_findTeams_21 : decode cX4_findTeams 21 = .ok (.iconst 1, 1) := by decide +kernel
theorem dX4_findTeams_22 : decode cX4_findTeams 22 = .ok (.istore_n 2, 1) := by decide +kernel
theorem dX4_findTeams_23 : decode cX4_findTeams 23 = .ok (.iconst 0, 1) := by decide +kernel
theorem dX4_findTeams_24 : decode cX4_findTeams 24 = .ok (.istore_n 3, 1) := by decide +kernel
theorem dX4_findTeams_25 : decode cX4_findTeams 25 = .ok (.iload_n 3, 1) := by decide +kernel
theorem dX4_findTeams_26 : decode cX4_findTeams 26 = .ok (.aload_n 0, 1) := by decide +kernel
theorem dX4_findTeams_27 : decode cX4_findTeams 27 = .ok (.getfield 66, 3) := by decide +kernel
theorem dX4_findTeams_30 : decode cX4_findTeams 30 = .ok (.if_icmp .ge 14, 3) := by decide +kernel
theorem dX4_findTeams_33 : decode cX4_findTeams 33 = .ok (.iload_n 2, 1) := by decide +kernel
theorem dX4_findTeams_34 : decode cX4_findTeams 34 = .ok (.bipush 6, 2) := by decide +kernel
theorem dX4_findTeams_36 : decode cX4_findTeams 36 = .ok (.imul, 1) := by decide +kernel
theorem dX4_findTeams_37 : decode cX4_findTeams 37 = .ok (.istore_n 2, 1) := by decide +kernel
theorem dX4_findTeams_38 : decode cX4_findTeams 38 = .ok (.iinc 3 1, 3) := by decide +kernel
theorem dX4_findTeams_41 : decode cX4_findTeams 41 = .ok (.goto (-16), 3) := by decide +kernel
theorem dX4_findTeams_44 : decode cX4_findTeams 44 = .ok (.iconst 0, 1) := by decide +kernel
theorem dX4_findTeams_45 : decode cX4_findTeams 45 = .ok (.istore_n 3, 1) := by decide +kernel
theorem dX4_findTeams_46 : decode cX4_findTeams 46 = .ok (.iload_n 3, 1) := by decide +kernel
theorem dX4_findTeams_47 : decode cX4_findTeams 47 = .ok (.iload_n 2, 1) := by decide +kernel
theorem dX4_findTeams_48 : decode cX4_findTeams 48 = .ok (.if_icmp .ge 383, 3) := by decide +kernel
theorem dX4_findTeams_51 : decode cX4_findTeams 51 = .ok (.iload_n 3, 1) := by decide +kernel
theorem dX4_findTeams_52 : decode cX4_findTeams 52 = .ok (.istore 4, 2) := by decide +kernel
theorem dX4_findTeams_54 : decode cX4_findTeams 54 = .ok (.aload_n 0, 1) := by decide +kernel
theorem dX4_findTeams_55 : decode cX4_findTeams 55 = .ok (.getfield 66, 3) := by decide +kernel
theorem dX4_findTeams_58 : decode cX4_findTeams 58 = .ok (.iconst 1, 1) := by decide +kernel
theorem dX4_findTeams_59 : decode cX4_findTeams 59 = .ok (.isub, 1) := by decide +kernel
theorem dX4_findTeams_60 : decode cX4_findTeams 60 = .ok (.istore 5, 2) := by decide +kernel
theorem dX4_findTeams_62 : decode cX4_findTeams 62 = .ok (.iload 5, 2) := by decide +kernel
theorem dX4_findTeams_64 : decode cX4_findTeams 64 = .ok (.ifCond .lt 28, 3) := by decide +kernel
theorem dX4_findTeams_67 : decode cX4_findTeams 67 = .ok (.aload_n 0, 1) := by decide +kernel
theorem dX4_findTeams_68 : decode cX4_findTeams 68 = .ok (.getfield 45, 3) := by decide +kernel
theorem dX4_findTeams_71 : decode cX4_findTeams 71 = .ok (.iload 5, 2) := by decide +kernel
theorem dX4_findTeams_73 : decode cX4_findTeams 73 = .ok (.iload 4, 2) := by decide +kernel
theorem dX4_findTeams_75 : decode cX4_findTeams 75 = .ok (.bipush 6, 2) := by decide +kernel
theorem dX4_findTeams_77 : decode cX4_findTeams 77 = .ok (.irem, 1) := by decide +kernel
theorem dX4_findTeams_78 : decode cX4_findTeams 78 = .ok (.iastore, 1) := by decide +kernel
theorem dX4_findTeams_79 : decode cX4_findTeams 79 = .ok (.iload 4, 2) := by decide +kernel
theorem dX4_findTeams_81 : decode cX4_findTeams 81 = .ok (.bipush 6, 2) := by decide +kernel
theorem dX4_findTeams_83 : decode cX4_findTeams 83 = .ok (.idiv, 1) := by decide +kernel
theorem dX4_findTeams_84 : decode cX4_findTeams 84 = .ok (.istore 4, 2) := by decide +kernel
theorem dX4_findTeams_86 : decode cX4_findTeams 86 = .ok (.iinc 5 (-1), 3) := by decide +kernel
theorem dX4_findTeams_89 : decode cX4_findTeams 89 = .ok (.goto (-27), 3) := by decide +kernel
theorem dX4_findTeams_92 : decode cX4_findTeams 92 = .ok (.aload_n 0, 1) := by decide +kernel
theorem dX4_findTeams_93 : decode cX4_findTeams 93 = .ok (.iload_n 1, 1) := by decide +kernel
theorem dX4_findTeams_94 : decode cX4_findTeams 94 = .ok (.invokevirtual 99, 3) := by decide +kernel
theorem dX4_findTeams_97 : decode cX4_findTeams 97 = .ok (.ifCond .eq 328, 3) := by decide +kernel
theorem dX4_findTeams_100 : decode cX4_findTeams 100 = .ok (.aload_n 0, 1) := by decide +kernel
theorem dX4_findTeams_101 : decode cX4_findTeams 101 = .ok (.iload_n 1, 1) := by decide +kernel
theorem dX4_findTeams_102 : decode cX4_findTeams 102 = .ok (.invokevirtual 102, 3) := by decide +kernel
theorem dX4_findTeams_105 : decode cX4_findTeams 105 = .ok (.ifCond .eq 320, 3) := by decide +kernel
theorem dX4_findTeams_108 : decode cX4_findTeams 108 = .ok (.iconst 0, 1) := by decide +kernel
theorem dX4_findTeams_109 : decode cX4_findTeams 109 = .ok (.istore 5, 2) := by decide +kernel
theorem dX4_findTeams_111 : decode cX4_findTeams 111 = .ok (.iconst 0, 1) := by decide +kernel
theorem dX4_findTeams_112 : decode cX4_findTeams 112 = .ok (.istore 6, 2) := by decide +kernel
theorem dX4_findTeams_114 : decode cX4_findTeams 114 = .ok (.iconst 0, 1) := by decide +kernel
theorem dX4_findTeams_115 : decode cX4_findTeams 115 = .ok (.istore 7, 2) := by decide +kernel
theorem dX4_findTeams_117 : decode cX4_findTeams 117 = .ok (.iload 7, 2) := by decide +kernel
theorem dX4_findTeams_119 : decode cX4_findTeams 119 = .ok (.aload_n 0, 1) := by decide +kernel
theorem dX4_findTeams_120 : decode cX4_findTeams 120 = .ok (.getfield 66, 3) := by decide +kernel
theorem dX4_findTeams_123 : decode cX4_findTeams 123 = .ok (.if_icmp .ge 96, 3) := by decide +kernel
theorem dX4_findTeams_126 : decode cX4_findTeams 126 = .ok (.iload 5, 2) := by decide +kernel
theorem dX4_findTeams_128 : decode cX4_findTeams 128 = .ok (.aload_n 0, 1) := by decide +kernel
theorem dX4_findTeams_129 : decode cX4_findTeams 129 = .ok (.getfield 45, 3) := by decide +kernel
theorem dX4_findTeams_132 : decode cX4_findTeams 132 = .ok (.iload 7, 2) := by decide +kernel
theorem dX4_findTeams_134 : decode cX4_findTeams 134 = .ok (.iaload, 1) := by decide +kernel
theorem dX4_findTeams_135 : decode cX4_findTeams 135 = .ok (.iconst 5, 1) := by decide +kernel
theorem dX4_findTeams_136 : decode cX4_findTeams 136 = .ok (.if_icmp .ge 13, 3) := by decide +kernel
theorem dX4_findTeams_139 : decode cX4_findTeams 139 = .ok (.aload_n 0, 1) := by decide +kernel
theorem dX4_findTeams_140 : decode cX4_findTeams 140 = .ok (.getfield 16, 3) := by decide +kernel
theorem dX4_findTeams_143 : decode cX4_findTeams 143 = .ok (.iload 7, 2) := by decide +kernel
theorem dX4_findTeams_145 : decode cX4_findTeams 145 = .ok (.iaload, 1) := by decide +kernel
theorem dX4_findTeams_146 : decode cX4_findTeams 146 = .ok (.goto 4, 3) := by decide +kernel
theorem dX4_findTeams_149 : decode cX4_findTeams 149 = .ok (.iconst 0, 1) := by decide +kernel
theorem dX4_findTeams_150 : decode cX4_findTeams 150 = .ok (.iadd, 1) := by decide +kernel
theorem dX4_findTeams_151 : decode cX4_findTeams 151 = .ok (.istore 5, 2) := by decide +kernel
theorem dX4_findTeams_153 : decode cX4_findTeams 153 = .ok (.iload 6, 2) := by decide +kernel
theorem dX4_findTeams_155 : decode cX4_findTeams 155 = .ok (.aload_n 0, 1) := by decide +kernel
theorem dX4_findTeams_156 : decode cX4_findTeams 156 = .ok (.getfield 45, 3) := by decide +kernel
theorem dX4_findTeams_159 : decode cX4_findTeams 159 = .ok (.iload 7, 2) := by decide +kernel
theorem dX4_findTeams_161 : decode cX4_findTeams 161 = .ok (.iaload, 1) := by decide +kernel
theorem dX4_findTeams_162 : decode cX4_findTeams 162 = .ok (.aload_n 0, 1) := by decide +kernel
theorem dX4_findTeams_163 : decode cX4_findTeams 163 = .ok (.getfield 33, 3) := by decide +kernel
theorem dX4_findTeams_166 : decode cX4_findTeams 166 = .ok (.iload 7, 2) := by decide +kernel
theorem dX4_findTeams_168 : decode cX4_findTeams 168 = .ok (.iaload, 1) := by decide +kernel
theorem dX4_findTeams_169 : decode cX4_findTeams 169 = .ok (.if_icmp .eq 7, 3) := by decide +kernel
theorem dX4_findTeams_172 : decode cX4_findTeams 172 = .ok (.iconst 1, 1) := by decide +kernel
theorem dX4_findTeams_173 : decode cX4_findTeams 173 = .ok (.goto 4, 3) := by decide +kernel
theorem dX4_findTeams_176 : decode cX4_findTeams 176 = .ok (.iconst 0, 1) := by decide +kernel
theorem dX4_findTeams_177 : decode cX4_findTeams 177 = .ok (.iadd, 1) := by decide +kernel
theorem dX4_findTeams_178 : decode cX4_findTeams 178 = .ok (.istore 6, 2) := by decide +kernel
theorem dX4_findTeams_180 : decode cX4_findTeams 180 = .ok (.aload_n 0, 1) := by decide +kernel
theorem dX4_findTeams_181 : decode cX4_findTeams 181 = .ok (.aload_n 0, 1) := by decide +kernel
theorem dX4_findTeams_182 : decode cX4_findTeams 182 = .ok (.getfield 45, 3) := by decide +kernel
theorem dX4_findTeams_185 : decode cX4_findTeams 185 = .ok (.iload 7, 2) := by decide +kernel
theorem dX4_findTeams_187 : decode cX4_findTeams 187 = .ok (.iaload, 1) := by decide +kernel
theorem dX4_findTeams_188 : decode cX4_findTeams 188 = .ok (.iconst 5, 1) := by decide +kernel
theorem dX4_findTeams_189 : decode cX4_findTeams 189 = .ok (.if_icmp .ge 10, 3) := by decide +kernel
theorem dX4_findTeams_192 : decode cX4_findTeams 192 = .ok (.aload_n 0, 1) := by decide +kernel
theorem dX4_findTeams_193 : decode cX4_findTeams 193 = .ok (.getfield 96, 3) := by decide +kernel
theorem dX4_findTeams_196 : decode cX4_findTeams 196 = .ok (.goto 14, 3) := by decide +kernel
theorem dX4_findTeams_199 : decode cX4_findTeams 199 = .ok (.aload_n 0, 1) := by decide +kernel
theorem dX4_findTeams_200 : decode cX4_findTeams 200 = .ok (.getfield 96, 3) := by decide +kernel
theorem dX4_findTeams_203 : decode cX4_findTeams 203 = .ok (.iconst 1, 1) := by decide +kernel
theorem dX4_findTeams_204 : decode cX4_findTeams 204 = .ok (.iload 7, 2) := by decide +kernel
theorem dX4_findTeams_206 : decode cX4_findTeams 206 = .ok (.ishl, 1) := by decide +kernel
theorem dX4_findTeams_207 : decode cX4_findTeams 207 = .ok (.iconst (-1), 1) := by decide +kernel
theorem dX4_findTeams_208 : decode cX4_findTeams 208 = .ok (.ixor, 1) := by decide +kernel
theorem dX4_findTeams_209 : decode cX4_findTeams 209 = .ok (.iand, 1) := by decide +kernel
theorem dX4_findTeams_210 : decode cX4_findTeams 210 = .ok (.putfield 96, 3) := by decide +kernel
theorem dX4_findTeams_213 : decode cX4_findTeams 213 = .ok (.iinc 7 1, 3) := by decide +kernel
theorem dX4_findTeams_216 : decode cX4_findTeams 216 = .ok (.goto (-99), 3) := by decide +kernel
theorem dX4_findTeams_219 : decode cX4_findTeams 219 = .ok (.aload_n 0, 1) := by decide +kernel
theorem dX4_findTeams_220 : decode cX4_findTeams 220 = .ok (.dup, 1) := by decide +kernel
theorem dX4_findTeams_221 : decode cX4_findTeams 221 = .ok (.getfield 87, 3) := by decide +kernel
theorem dX4_findTeams_224 : decode cX4_findTeams 224 = .ok (.iconst 1, 1) := by decide +kernel
theorem dX4_findTeams_225 : decode cX4_findTeams 225 = .ok (.iadd, 1) := by decide +kernel
theorem dX4_findTeams_226 : decode cX4_findTeams 226 = .ok (.putfield 87, 3) := by decide +kernel
theorem dX4_findTeams_229 : decode cX4_findTeams 229 = .ok (.aload_n 0, 1) := by decide +kernel
theorem dX4_findTeams_230 : decode cX4_findTeams 230 = .ok (.getfield 90, 3) := by decide +kernel
theorem dX4_findTeams_233 : decode cX4_findTeams 233 = .ok (.iconst (-1), 1) := by decide +kernel
theorem dX4_findTeams_234 : decode cX4_findTeams 234 = .ok (.if_icmp .eq 12, 3) := by decide +kernel
theorem dX4_findTeams_237 : decode cX4_findTeams 237 = .ok (.iload 5, 2) := by decide +kernel
theorem dX4_findTeams_239 : decode cX4_findTeams 239 = .ok (.aload_n 0, 1) := by decide +kernel
theorem dX4_findTeams_240 : decode cX4_findTeams 240 = .ok (.getfield 90, 3) := by decide +kernel
theorem dX4_findTeams_243 : decode cX4_findTeams 243 = .ok (.if_icmp .ge 7, 3) := by decide +kernel
theorem dX4_findTeams_246 : decode cX4_findTeams 246 = .ok (.iconst 1, 1) := by decide +kernel
theorem dX4_findTeams_247 : decode cX4_findTeams 247 = .ok (.goto 4, 3) := by decide +kernel
theorem dX4_findTeams_250 : decode cX4_findTeams 250 = .ok (.iconst 0, 1) := by decide +kernel
theorem dX4_findTeams_251 : decode cX4_findTeams 251 = .ok (.istore 7, 2) := by decide +kernel
theorem dX4_findTeams_253 : decode cX4_findTeams 253 = .ok (.aload_n 0, 1) := by decide +kernel
theorem dX4_findTeams_254 : decode cX4_findTeams 254 = .ok (.getfield 93, 3) := by decide +kernel
theorem dX4_findTeams_257 : decode cX4_findTeams 257 = .ok (.iconst (-1), 1) := by decide +kernel
theorem dX4_findTeams_258 : decode cX4_findTeams 258 = .ok (.if_icmp .eq 30, 3) := by decide +kernel
theorem dX4_findTeams_261 : decode cX4_findTeams 261 = .ok (.iload 6, 2) := by decide +kernel
theorem dX4_findTeams_263 : decode cX4_findTeams 263 = .ok (.aload_n 0, 1) := by decide +kernel
theorem dX4_findTeams_264 : decode cX4_findTeams 264 = .ok (.getfield 93, 3) := by decide +kernel
theorem dX4_findTeams_267 : decode cX4_findTeams 267 = .ok (.if_icmp .lt 21, 3) := by decide +kernel
theorem dX4_findTeams_270 : decode cX4_findTeams 270 = .ok (.iload 6, 2) := by decide +kernel
theorem dX4_findTeams_272 : decode cX4_findTeams 272 = .ok (.aload_n 0, 1) := by decide +kernel
theorem dX4_findTeams_273 : decode cX4_findTeams 273 = .ok (.getfield 93, 3) := by decide +kernel
theorem dX4_findTeams_276 : decode cX4_findTeams 276 = .ok (.if_icmp .ne 16, 3) := by decide +kernel
theorem dX4_findTeams_279 : decode cX4_findTeams 279 = .ok (.iload 5, 2) := by decide +kernel
theorem dX4_findTeams_281 : decode cX4_findTeams 281 = .ok (.aload_n 0, 1) := by decide +kernel
theorem dX4_findTeams_282 : decode cX4_findTeams 282 = .ok (.getfield 105, 3) := by decide +kernel
theorem dX4_findTeams_285 : decode cX4_findTeams 285 = .ok (.if_icmp .ge 7, 3) := by decide +kernel
theorem dX4_findTeams_288 : decode cX4_findTeams 288 = .ok (.iconst 1, 1) := by decide +kernel
theorem dX4_findTeams_289 : decode cX4_findTeams 289 = .ok (.goto 4, 3) := by decide +kernel
theorem dX4_findTeams_292 : decode cX4_findTeams 292 = .ok (.iconst 0, 1) := by decide +kernel
theorem dX4_findTeams_293 : decode cX4_findTeams 293 = .ok (.istore 8, 2) := by decide +kernel
theorem dX4_findTeams_295 : decode cX4_findTeams 295 = .ok (.iconst 0, 1) := by decide +kernel
theorem dX4_findTeams_296 : decode cX4_findTeams 296 = .ok (.istore 9, 2) := by decide +kernel
theorem dX4_findTeams_298 : decode cX4_findTeams 298 = .ok (.iload 9, 2) := by decide +kernel
theorem dX4_findTeams_300 : decode cX4_findTeams 300 = .ok (.aload_n 0, 1) := by decide +kernel
theorem dX4_findTeams_301 : decode cX4_findTeams 301 = .ok (.getfield 66, 3) := by decide +kernel
theorem dX4_findTeams_304 : decode cX4_findTeams 304 = .ok (.if_icmp .ge 67, 3) := by decide +kernel
theorem dX4_findTeams_307 : decode cX4_findTeams 307 = .ok (.aload_n 0, 1) := by decide +kernel
theorem dX4_findTeams_308 : decode cX4_findTeams 308 = .ok (.getfield 48, 3) := by decide +kernel
theorem dX4_findTeams_311 : decode cX4_findTeams 311 = .ok (.iload 9, 2) := by decide +kernel
theorem dX4_findTeams_313 : decode cX4_findTeams 313 = .ok (.iload 7, 2) := by decide +kernel
theorem dX4_findTeams_315 : decode cX4_findTeams 315 = .ok (.ifCond .eq 13, 3) := by decide +kernel
theorem dX4_findTeams_318 : decode cX4_findTeams 318 = .ok (.aload_n 0, 1) := by decide +kernel
theorem dX4_findTeams_319 : decode cX4_findTeams 319 = .ok (.getfield 45, 3) := by decide +kernel
theorem dX4_findTeams_322 : decode cX4_findTeams 322 = .ok (.iload 9, 2) := by decide +kernel
theorem dX4_findTeams_324 : decode cX4_findTeams 324 = .ok (.iaload, 1) := by decide +kernel
theorem dX4_findTeams_325 : decode cX4_findTeams 325 = .ok (.goto 10, 3) := by decide +kernel
theorem dX4_findTeams_328 : decode cX4_findTeams 328 = .ok (.aload_n 0, 1) := by decide +kernel
theorem dX4_findTeams_329 : decode cX4_findTeams 329 = .ok (.getfield 48, 3) := by decide +kernel
theorem dX4_findTeams_332 : decode cX4_findTeams 332 = .ok (.iload 9, 2) := by decide +kernel
theorem dX4_findTeams_334 : decode cX4_findTeams 334 = .ok (.iaload, 1) := by decide +kernel
theorem dX4_findTeams_335 : decode cX4_findTeams 335 = .ok (.iastore, 1) := by decide +kernel
theorem dX4_findTeams_336 : decode cX4_findTeams 336 = .ok (.aload_n 0, 1) := by decide +kernel
theorem dX4_findTeams_337 : decode cX4_findTeams 337 = .ok (.getfield 51, 3) := by decide +kernel
theorem dX4_findTeams_340 : decode cX4_findTeams 340 = .ok (.iload 9, 2) := by decide +kernel
theorem dX4_findTeams_342 : decode cX4_findTeams 342 = .ok (.iload 8, 2) := by decide +kernel
theorem dX4_findTeams_344 : decode cX4_findTeams 344 = .ok (.ifCond .eq 13, 3) := by decide +kernel
theorem dX4_findTeams_347 : decode cX4_findTeams 347 = .ok (.aload_n 0, 1) := by decide +kernel
theorem dX4_findTeams_348 : decode cX4_findTeams 348 = .ok (.getfield 45, 3) := by decide +kernel
theorem dX4_findTeams_351 : decode cX4_findTeams 351 = .ok (.iload 9, 2) := by decide +kernel
theorem dX4_findTeams_353 : decode cX4_findTeams 353 = .ok (.iaload, 1) := by decide +kernel
theorem dX4_findTeams_354 : decode cX4_findTeams 354 = .ok (.goto 10, 3) := by decide +kernel
theorem dX4_findTeams_357 : decode cX4_findTeams 357 = .ok (.aload_n 0, 1) := by decide +kernel
theorem dX4_findTeams_358 : decode cX4_findTeams 358 = .ok (.getfield 51, 3) := by decide +kernel
theorem dX4_findTeams_361 : decode cX4_findTeams 361 = .ok (.iload 9, 2) := by decide +kernel
theorem dX4_findTeams_363 : decode cX4_findTeams 363 = .ok (.iaload, 1) := by decide +kernel
theorem dX4_findTeams_364 : decode cX4_findTeams 364 = .ok (.iastore, 1) := by decide +kernel
theorem dX4_findTeams_365 : decode cX4_findTeams 365 = .ok (.iinc 9 1, 3) := by decide +kernel
theorem dX4_findTeams_368 : decode cX4_findTeams 368 = .ok (.goto (-70), 3) := by decide +kernel
theorem dX4_findTeams_371 : decode cX4_findTeams 371 = .ok (.aload_n 0, 1) := by decide +kernel
theorem dX4_findTeams_372 : decode cX4_findTeams 372 = .ok (.iload 7, 2) := by decide +kernel
theorem dX4_findTeams_374 : decode cX4_findTeams 374 = .ok (.ifCond .eq 8, 3) := by decide +kernel
theorem dX4_findTeams_377 : decode cX4_findTeams 377 = .ok (.iload 5, 2) := by decide +kernel
theorem dX4_findTeams_379 : decode cX4_findTeams 379 = .ok (.goto 7, 3) := by decide +kernel
theorem dX4_findTeams_382 : decode cX4_findTeams 382 = .ok (.aload_n 0, 1) := by decide +kernel
theorem dX4_findTeams_383 : decode cX4_findTeams 383 = .ok (.getfield 90, 3) := by decide +kernel
theorem dX4_findTeams_386 : decode cX4_findTeams 386 = .ok (.putfield 90, 3) := by decide +kernel
theorem dX4_findTeams_389 : decode cX4_findTeams 389 = .ok (.aload_n 0, 1) := by decide +kernel
theorem dX4_findTeams_390 : decode cX4_findTeams 390 = .ok (.iload 8, 2) := by decide +kernel
theorem dX4_findTeams_392 : decode cX4_findTeams 392 = .ok (.ifCond .eq 8, 3) := by decide +kernel
theorem dX4_findTeams_395 : decode cX4_findTeams 395 = .ok (.iload 6, 2) := by decide +kernel
theorem dX4_findTeams_397 : decode cX4_findTeams 397 = .ok (.goto 7, 3) := by decide +kernel
theorem dX4_findTeams_400 : decode cX4_findTeams 400 = .ok (.aload_n 0, 1) := by decide +kernel
theorem dX4_findTeams_401 : decode cX4_findTeams 401 = .ok (.getfield 93, 3) := by decide +kernel
theorem dX4_findTeams_404 : decode cX4_findTeams 404 = .ok (.putfield 93, 3) := by decide +kernel
theorem dX4_findTeams_407 : decode cX4_findTeams 407 = .ok (.aload_n 0, 1) := by decide +kernel
theorem dX4_findTeams_408 : decode cX4_findTeams 408 = .ok (.iload 8, 2) := by decide +kernel
theorem dX4_findTeams_410 : decode cX4_findTeams 410 = .ok (.ifCond .eq 8, 3) := by decide +kernel
theorem dX4_findTeams_413 : decode cX4_findTeams 413 = .ok (.iload 5, 2) := by decide +kernel
theorem dX4_findTeams_415 : decode cX4_findTeams 415 = .ok (.goto 7, 3) := by decide +kernel
theorem dX4_findTeams_418 : decode cX4_findTeams 418 = .ok (.aload_n 0, 1) := by decide +kernel
theorem dX4_findTeams_419 : decode cX4_findTeams 419 = .ok (.getfield 105, 3) := by decide +kernel
theorem dX4_findTeams_422 : decode cX4_findTeams 422 = .ok (.putfield 105, 3) := by decide +kernel
theorem dX4_findTeams_425 : decode cX4_findTeams 425 = .ok (.iinc 3 1, 3) := by decide +kernel
theorem dX4_findTeams_428 : decode cX4_findTeams 428 = .ok (.goto (-382), 3) := by decide +kernel
theorem dX4_findTeams_431 : decode cX4_findTeams 431 = .ok (.return_, 1) := by decide +kernel
theorem dX4_whole_0 : decode cX4_whole 0 = .ok (.iload_n 1, 1) := by decide +kernel
theorem dX4_whole_1 : decode cX4_whole 1 = .ok (.invokestatic 77, 3) := by decide +kernel
theorem dX4_whole_4 : decode cX4_whole 4 = .ok (.ifCond .ne 6, 3) := by decide +kernel
theorem dX4_whole_7 : decode cX4_whole 7 = .ok (.bipush (-2), 2) := by decide +kernel
theorem dX4_whole_9 : decode cX4_whole 9 = .ok (.ireturn, 1) := by decide +kernel
theorem dX4_whole_10 : decode cX4_whole 10 = .ok (.aload_n 0, 1) := by decide +kernel
theorem dX4_whole_11 : decode cX4_whole 11 = .ok (.iload_n 1, 1) := by decide +kernel
theorem dX4_whole_12 : decode cX4_whole 12 = .ok (.invokevirtual 108, 3) := by decide +kernel
theorem dX4_whole_15 : decode cX4_whole 15 = .ok (.aload_n 0, 1) := by decide +kernel
theorem dX4_whole_16 : decode cX4_whole 16 = .ok (.getfield 87, 3) := by decide +kernel
theorem dX4_whole_19 : decode cX4_whole 19 = .ok (.ireturn, 1) := by decide +kernel
theorem dX4_cheapest_0 : decode cX4_cheapest 0 = .ok (.iload_n 1, 1) := by decide +kernel
theorem dX4_cheapest_1 : decode cX4_cheapest 1 = .ok (.invokestatic 77, 3) := by decide +kernel
theorem dX4_cheapest_4 : decode cX4_cheapest 4 = .ok (.ifCond .ne 6, 3) := by decide +kernel
theorem dX4_cheapest_7 : decode cX4_cheapest 7 = .ok (.bipush (-2), 2) := by decide +kernel
theorem dX4_cheapest_9 : decode cX4_cheapest 9 = .ok (.ireturn, 1) := by decide +kernel
theorem dX4_cheapest_10 : decode cX4_cheapest 10 = .ok (.aload_n 0, 1) := by decide +kernel
theorem dX4_cheapest_11 : decode cX4_cheapest 11 = .ok (.iload_n 1, 1) := by decide +kernel
theorem dX4_cheapest_12 : decode cX4_cheapest 12 = .ok (.invokevirtual 108, 3) := by decide +kernel
theorem dX4_cheapest_15 : decode cX4_cheapest 15 = .ok (.aload_n 0, 1) := by decide +kernel
theorem dX4_cheapest_16 : decode cX4_cheapest 16 = .ok (.getfield 90, 3) := by decide +kernel
theorem dX4_cheapest_19 : decode cX4_cheapest 19 = .ok (.ireturn, 1) := by decide +kernel
theorem dX4_nearest_0 : decode cX4_nearest 0 = .ok (.iload_n 1, 1) := by decide +kernel
theorem dX4_nearest_1 : decode cX4_nearest 1 = .ok (.invokestatic 77, 3) := by decide +kernel
theorem dX4_nearest_4 : decode cX4_nearest 4 = .ok (.ifCond .ne 6, 3) := by decide +kernel
theorem dX4_nearest_7 : decode cX4_nearest 7 = .ok (.bipush (-2), 2) := by decide +kernel
theorem dX4_nearest_9 : decode cX4_nearest 9 = .ok (.ireturn, 1) := by decide +kernel
theorem dX4_nearest_10 : decode cX4_nearest 10 = .ok (.aload_n 0, 1) := by decide +kernel
theorem dX4_nearest_11 : decode cX4_nearest 11 = .ok (.iload_n 1, 1) := by decide +kernel
theorem dX4_nearest_12 : decode cX4_nearest 12 = .ok (.invokevirtual 108, 3) := by decide +kernel
theorem dX4_nearest_15 : decode cX4_nearest 15 = .ok (.aload_n 0, 1) := by decide +kernel
theorem dX4_nearest_16 : decode cX4_nearest 16 = .ok (.getfield 93, 3) := by decide +kernel
theorem dX4_nearest_19 : decode cX4_nearest 19 = .ok (.ireturn, 1) := by decide +kernel
theorem dX4_take_0 : decode cX4_take 0 = .ok (.iload_n 1, 1) := by decide +kernel
theorem dX4_take_1 : decode cX4_take 1 = .ok (.invokestatic 77, 3) := by decide +kernel
theorem dX4_take_4 : decode cX4_take 4 = .ok (.ifCond .ne 6, 3) := by decide +kernel
theorem dX4_take_7 : decode cX4_take 7 = .ok (.bipush (-2), 2) := by decide +kernel
theorem dX4_take_9 : decode cX4_take 9 = .ok (.ireturn, 1) := by decide +kernel
theorem dX4_take_10 : decode cX4_take 10 = .ok (.iload_n 2, 1) := by decide +kernel
theorem dX4_take_11 : decode cX4_take 11 = .ok (.iconst 0, 1) := by decide +kernel
theorem dX4_take_12 : decode cX4_take 12 = .ok (.iconst 1, 1) := by decide +kernel
theorem dX4_take_13 : decode cX4_take 13 = .ok (.invokestatic 69, 3) := by decide +kernel
theorem dX4_take_16 : decode cX4_take 16 = .ok (.ifCond .ne 6, 3) := by decide +kernel
theorem dX4_take_19 : decode cX4_take 19 = .ok (.bipush (-3), 2) := by decide +kernel
theorem dX4_take_21 : decode cX4_take 21 = .ok (.ireturn, 1) := by decide +kernel
theorem dX4_take_22 : decode cX4_take 22 = .ok (.aload_n 0, 1) := by decide +kernel
theorem dX4_take_23 : decode cX4_take 23 = .ok (.iload_n 1, 1) := by decide +kernel
theorem dX4_take_24 : decode cX4_take 24 = .ok (.invokevirtual 108, 3) := by decide +kernel
theorem dX4_take_27 : decode cX4_take 27 = .ok (.aload_n 0, 1) := by decide +kernel
theorem dX4_take_28 : decode cX4_take 28 = .ok (.getfield 87, 3) := by decide +kernel
theorem dX4_take_31 : decode cX4_take 31 = .ok (.ifCond .ne 6, 3) := by decide +kernel
theorem dX4_take_34 : decode cX4_take 34 = .ok (.bipush (-4), 2) := by decide +kernel
theorem dX4_take_36 : decode cX4_take 36 = .ok (.ireturn, 1) := by decide +kernel
theorem dX4_take_37 : decode cX4_take 37 = .ok (.iconst 0, 1) := by decide +kernel
theorem dX4_take_38 : decode cX4_take 38 = .ok (.istore_n 3, 1) := by decide +kernel
theorem dX4_take_39 : decode cX4_take 39 = .ok (.iload_n 3, 1) := by decide +kernel
theorem dX4_take_40 : decode cX4_take 40 = .ok (.aload_n 0, 1) := by decide +kernel
theorem dX4_take_41 : decode cX4_take 41 = .ok (.getfield 66, 3) := by decide +kernel
theorem dX4_take_44 : decode cX4_take 44 = .ok (.if_icmp .ge 34, 3) := by decide +kernel
theorem dX4_take_47 : decode cX4_take 47 = .ok (.aload_n 0, 1) := by decide +kernel
theorem dX4_take_48 : decode cX4_take 48 = .ok (.getfield 33, 3) := by decide +kernel
theorem dX4_take_51 : decode cX4_take 51 = .ok (.iload_n 3, 1) := by decide +kernel
theorem dX4_take_52 : decode cX4_take 52 = .ok (.iload_n 2, 1) := by decide +kernel
theorem dX4_take_53 : decode cX4_take 53 = .ok (.ifCond .ne 12, 3) := by decide +kernel
theorem dX4_take_56 : decode cX4_take 56 = .ok (.aload_n 0, 1) := by decide +kernel
theorem dX4_take_57 : decode cX4_take 57 = .ok (.getfield 48, 3) := by decide +kernel
theorem dX4_take_60 : decode cX4_take 60 = .ok (.iload_n 3, 1) := by decide +kernel
theorem dX4_take_61 : decode cX4_take 61 = .ok (.iaload, 1) := by decide +kernel
theorem dX4_take_62 : decode cX4_take 62 = .ok (.goto 9, 3) := by decide +kernel
theorem dX4_take_65 : decode cX4_take 65 = .ok (.aload_n 0, 1) := by decide +kernel
theorem dX4_take_66 : decode cX4_take 66 = .ok (.getfield 51, 3) := by decide +kernel
theorem dX4_take_69 : decode cX4_take 69 = .ok (.iload_n 3, 1) := by decide +kernel
theorem dX4_take_70 : decode cX4_take 70 = .ok (.iaload, 1) := by decide +kernel
theorem dX4_take_71 : decode cX4_take 71 = .ok (.iastore, 1) := by decide +kernel
theorem dX4_take_72 : decode cX4_take 72 = .ok (.iinc 3 1, 3) := by decide +kernel
theorem dX4_take_75 : decode cX4_take 75 = .ok (.goto (-36), 3) := by decide +kernel
theorem dX4_take_78 : decode cX4_take 78 = .ok (.iload_n 2, 1) := by decide +kernel
theorem dX4_take_79 : decode cX4_take 79 = .ok (.ifCond .ne 10, 3) := by decide +kernel
theorem dX4_take_82 : decode cX4_take 82 = .ok (.aload_n 0, 1) := by decide +kernel
theorem dX4_take_83 : decode cX4_take 83 = .ok (.getfield 90, 3) := by decide +kernel
theorem dX4_take_86 : decode cX4_take 86 = .ok (.goto 7, 3) := by decide +kernel
theorem dX4_take_89 : decode cX4_take 89 = .ok (.aload_n 0, 1) := by decide +kernel
theorem dX4_take_90 : decode cX4_take 90 = .ok (.getfield 105, 3) := by decide +kernel
theorem dX4_take_93 : decode cX4_take 93 = .ok (.ireturn, 1) := by decide +kernel
theorem dX4_seated_0 : decode cX4_seated 0 = .ok (.iconst 0, 1) := by decide +kernel
theorem dX4_seated_1 : decode cX4_seated 1 = .ok (.istore_n 1, 1) := by decide +kernel
theorem dX4_seated_2 : decode cX4_seated 2 = .ok (.iconst 0, 1) := by decide +kernel
theorem dX4_seated_3 : decode cX4_seated 3 = .ok (.istore_n 2, 1) := by decide +kernel
theorem dX4_seated_4 : decode cX4_seated 4 = .ok (.iload_n 2, 1) := by decide +kernel
theorem dX4_seated_5 : decode cX4_seated 5 = .ok (.aload_n 0, 1) := by decide +kernel
theorem dX4_seated_6 : decode cX4_seated 6 = .ok (.getfield 66, 3) := by decide +kernel
theorem dX4_seated_9 : decode cX4_seated 9 = .ok (.if_icmp .ge 27, 3) := by decide +kernel
theorem dX4_seated_12 : decode cX4_seated 12 = .ok (.iload_n 1, 1) := by decide +kernel
theorem dX4_seated_13 : decode cX4_seated 13 = .ok (.aload_n 0, 1) := by decide +kernel
theorem dX4_seated_14 : decode cX4_seated 14 = .ok (.getfield 33, 3) := by decide +kernel
theorem dX4_seated_17 : decode cX4_seated 17 = .ok (.iload_n 2, 1) := by decide +kernel
theorem dX4_seated_18 : decode cX4_seated 18 = .ok (.iaload, 1) := by decide +kernel
theorem dX4_seated_19 : decode cX4_seated 19 = .ok (.iconst 5, 1) := by decide +kernel
theorem dX4_seated_20 : decode cX4_seated 20 = .ok (.if_icmp .ge 7, 3) := by decide +kernel
theorem dX4_seated_23 : decode cX4_seated 23 = .ok (.iconst 1, 1) := by decide +kernel
theorem dX4_seated_24 : decode cX4_seated 24 = .ok (.goto 4, 3) := by decide +kernel
theorem dX4_seated_27 : decode cX4_seated 27 = .ok (.iconst 0, 1) := by decide +kernel
theorem dX4_seated_28 : decode cX4_seated 28 = .ok (.iadd, 1) := by decide +kernel
theorem dX4_seated_29 : decode cX4_seated 29 = .ok (.istore_n 1, 1) := by decide +kernel
theorem dX4_seated_30 : decode cX4_seated 30 = .ok (.iinc 2 1, 3) := by decide +kernel
theorem dX4_seated_33 : decode cX4_seated 33 = .ok (.goto (-29), 3) := by decide +kernel
theorem dX4_seated_36 : decode cX4_seated 36 = .ok (.iload_n 1, 1) := by decide +kernel
theorem dX4_seated_37 : decode cX4_seated 37 = .ok (.ireturn, 1) := by decide +kernel
theorem dX4_leave_0 : decode cX4_leave 0 = .ok (.aload_n 0, 1) := by decide +kernel
theorem dX4_leave_1 : decode cX4_leave 1 = .ok (.invokevirtual 112, 3) := by decide +kernel
theorem dX4_leave_4 : decode cX4_leave 4 = .ok (.istore_n 1, 1) := by decide +kernel
theorem dX4_leave_5 : decode cX4_leave 5 = .ok (.iconst 0, 1) := by decide +kernel
theorem dX4_leave_6 : decode cX4_leave 6 = .ok (.istore_n 2, 1) := by decide +kernel
theorem dX4_leave_7 : decode cX4_leave 7 = .ok (.iload_n 2, 1) := by decide +kernel
theorem dX4_leave_8 : decode cX4_leave 8 = .ok (.bipush 6, 2) := by decide +kernel
theorem dX4_leave_10 : decode cX4_leave 10 = .ok (.if_icmp .ge 16, 3) := by decide +kernel
theorem dX4_leave_13 : decode cX4_leave 13 = .ok (.aload_n 0, 1) := by decide +kernel
theorem dX4_leave_14 : decode cX4_leave 14 = .ok (.getfield 33, 3) := by decide +kernel
theorem dX4_leave_17 : decode cX4_leave 17 = .ok (.iload_n 2, 1) := by decide +kernel
theorem dX4_leave_18 : decode cX4_leave 18 = .ok (.iconst 5, 1) := by decide +kernel
theorem dX4_leave_19 : decode cX4_leave 19 = .ok (.iastore, 1) := by decide +kernel
theorem dX4_leave_20 : decode cX4_leave 20 = .ok (.iinc 2 1, 3) := by decide +kernel
theorem dX4_leave_23 : decode cX4_leave 23 = .ok (.goto (-16), 3) := by decide +kernel
theorem dX4_leave_26 : decode cX4_leave 26 = .ok (.iload_n 1, 1) := by decide +kernel
theorem dX4_leave_27 : decode cX4_leave 27 = .ok (.ireturn, 1) := by decide +kernel
theorem dX4_booth_0 : decode cX4_booth 0 = .ok (.aload_n 0, 1) := by decide +kernel
theorem dX4_booth_1 : decode cX4_booth 1 = .ok (.iload_n 1, 1) := by decide +kernel
theorem dX4_booth_2 : decode cX4_booth 2 = .ok (.invokevirtual 73, 3) := by decide +kernel
theorem dX4_booth_5 : decode cX4_booth 5 = .ok (.ifCond .eq 12, 3) := by decide +kernel
theorem dX4_booth_8 : decode cX4_booth 8 = .ok (.aload_n 0, 1) := by decide +kernel
theorem dX4_booth_9 : decode cX4_booth 9 = .ok (.getfield 33, 3) := by decide +kernel
theorem dX4_booth_12 : decode cX4_booth 12 = .ok (.iload_n 1, 1) := by decide +kernel
theorem dX4_booth_13 : decode cX4_booth 13 = .ok (.iaload, 1) := by decide +kernel
theorem dX4_booth_14 : decode cX4_booth 14 = .ok (.goto 5, 3) := by decide +kernel
theorem dX4_booth_17 : decode cX4_booth 17 = .ok (.bipush (-2), 2) := by decide +kernel
theorem dX4_booth_19 : decode cX4_booth 19 = .ok (.ireturn, 1) := by decide +kernel
theorem dX4_lacking_0 : decode cX4_lacking 0 = .ok (.iload_n 1, 1) := by decide +kernel
theorem dX4_lacking_1 : decode cX4_lacking 1 = .ok (.invokestatic 77, 3) := by decide +kernel
theorem dX4_lacking_4 : decode cX4_lacking 4 = .ok (.ifCond .ne 6, 3) := by decide +kernel
theorem dX4_lacking_7 : decode cX4_lacking 7 = .ok (.bipush (-2), 2) := by decide +kernel
theorem dX4_lacking_9 : decode cX4_lacking 9 = .ok (.ireturn, 1) := by decide +kernel
theorem dX4_lacking_10 : decode cX4_lacking 10 = .ok (.iconst 0, 1) := by decide +kernel
theorem dX4_lacking_11 : decode cX4_lacking 11 = .ok (.istore_n 2, 1) := by decide +kernel
theorem dX4_lacking_12 : decode cX4_lacking 12 = .ok (.iconst 0, 1) := by decide +kernel
theorem dX4_lacking_13 : decode cX4_lacking 13 = .ok (.istore_n 3, 1) := by decide +kernel
theorem dX4_lacking_14 : decode cX4_lacking 14 = .ok (.iload_n 3, 1) := by decide +kernel
theorem dX4_lacking_15 : decode cX4_lacking 15 = .ok (.iconst 5, 1) := by decide +kernel
theorem dX4_lacking_16 : decode cX4_lacking 16 = .ok (.if_icmp .ge 96, 3) := by decide +kernel
theorem dX4_lacking_19 : decode cX4_lacking 19 = .ok (.iconst 0, 1) := by decide +kernel
theorem dX4_lacking_20 : decode cX4_lacking 20 = .ok (.istore 4, 2) := by decide +kernel
theorem dX4_lacking_22 : decode cX4_lacking 22 = .ok (.iconst 0, 1) := by decide +kernel
theorem dX4_lacking_23 : decode cX4_lacking 23 = .ok (.istore 5, 2) := by decide +kernel
theorem dX4_lacking_25 : decode cX4_lacking 25 = .ok (.iload 5, 2) := by decide +kernel
theorem dX4_lacking_27 : decode cX4_lacking 27 = .ok (.aload_n 0, 1) := by decide +kernel
theorem dX4_lacking_28 : decode cX4_lacking 28 = .ok (.getfield 66, 3) := by decide +kernel
theorem dX4_lacking_31 : decode cX4_lacking 31 = .ok (.if_icmp .ge 43, 3) := by decide +kernel
theorem dX4_lacking_34 : decode cX4_lacking 34 = .ok (.iload 4, 2) := by decide +kernel
theorem dX4_lacking_36 : decode cX4_lacking 36 = .ok (.aload_n 0, 1) := by decide +kernel
theorem dX4_lacking_37 : decode cX4_lacking 37 = .ok (.getfield 19, 3) := by decide +kernel
theorem dX4_lacking_40 : decode cX4_lacking 40 = .ok (.iload 5, 2) := by decide +kernel
theorem dX4_lacking_42 : decode cX4_lacking 42 = .ok (.baload, 1) := by decide +kernel
theorem dX4_lacking_43 : decode cX4_lacking 43 = .ok (.ifCond .ne 21, 3) := by decide +kernel
theorem dX4_lacking_46 : decode cX4_lacking 46 = .ok (.aload_n 0, 1) := by decide +kernel
theorem dX4_lacking_47 : decode cX4_lacking 47 = .ok (.getfield 13, 3) := by decide +kernel
theorem dX4_lacking_50 : decode cX4_lacking 50 = .ok (.iload 5, 2) := by decide +kernel
theorem dX4_lacking_52 : decode cX4_lacking 52 = .ok (.iaload, 1) := by decide +kernel
theorem dX4_lacking_53 : decode cX4_lacking 53 = .ok (.iload_n 3, 1) := by decide +kernel
theorem dX4_lacking_54 : decode cX4_lacking 54 = .ok (.invokestatic 80, 3) := by decide +kernel
theorem dX4_lacking_57 : decode cX4_lacking 57 = .ok (.ifCond .eq 7, 3) := by decide +kernel
theorem dX4_lacking_60 : decode cX4_lacking 60 = .ok (.iconst 1, 1) := by decide +kernel
theorem dX4_lacking_61 : decode cX4_lacking 61 = .ok (.goto 4, 3) := by decide +kernel
theorem dX4_lacking_64 : decode cX4_lacking 64 = .ok (.iconst 0, 1) := by decide +kernel
theorem dX4_lacking_65 : decode cX4_lacking 65 = .ok (.iadd, 1) := by decide +kernel
theorem dX4_lacking_66 : decode cX4_lacking 66 = .ok (.istore 4, 2) := by decide +kernel
theorem dX4_lacking_68 : decode cX4_lacking 68 = .ok (.iinc 5 1, 3) := by decide +kernel
theorem dX4_lacking_71 : decode cX4_lacking 71 = .ok (.goto (-46), 3) := by decide +kernel
theorem dX4_lacking_74 : decode cX4_lacking 74 = .ok (.iload_n 2, 1) := by decide +kernel
theorem dX4_lacking_75 : decode cX4_lacking 75 = .ok (.aload_n 0, 1) := by decide +kernel
theorem dX4_lacking_76 : decode cX4_lacking 76 = .ok (.getfield 26, 3) := by decide +kernel
theorem dX4_lacking_79 : decode cX4_lacking 79 = .ok (.iload_n 1, 1) := by decide +kernel
theorem dX4_lacking_80 : decode cX4_lacking 80 = .ok (.iaload, 1) := by decide +kernel
theorem dX4_lacking_81 : decode cX4_lacking 81 = .ok (.iload_n 3, 1) := by decide +kernel
theorem dX4_lacking_82 : decode cX4_lacking 82 = .ok (.invokestatic 80, 3) := by decide +kernel
theorem dX4_lacking_85 : decode cX4_lacking 85 = .ok (.ifCond .eq 18, 3) := by decide +kernel
theorem dX4_lacking_88 : decode cX4_lacking 88 = .ok (.iload 4, 2) := by decide +kernel
theorem dX4_lacking_90 : decode cX4_lacking 90 = .ok (.aload_n 0, 1) := by decide +kernel
theorem dX4_lacking_91 : decode cX4_lacking 91 = .ok (.getfield 29, 3) := by decide +kernel
theorem dX4_lacking_94 : decode cX4_lacking 94 = .ok (.if_icmp .ge 9, 3) := by decide +kernel
theorem dX4_lacking_97 : decode cX4_lacking 97 = .ok (.iconst 1, 1) := by decide +kernel
theorem dX4_lacking_98 : decode cX4_lacking 98 = .ok (.iload_n 3, 1) := by decide +kernel
theorem dX4_lacking_99 : decode cX4_lacking 99 = .ok (.ishl, 1) := by decide +kernel
theorem dX4_lacking_100 : decode cX4_lacking 100 = .ok (.goto 4, 3) := by decide +kernel
theorem dX4_lacking_103 : decode cX4_lacking 103 = .ok (.iconst 0, 1) := by decide +kernel
theorem dX4_lacking_104 : decode cX4_lacking 104 = .ok (.ior, 1) := by decide +kernel
theorem dX4_lacking_105 : decode cX4_lacking 105 = .ok (.istore_n 2, 1) := by decide +kernel
theorem dX4_lacking_106 : decode cX4_lacking 106 = .ok (.iinc 3 1, 3) := by decide +kernel
theorem dX4_lacking_109 : decode cX4_lacking 109 = .ok (.goto (-95), 3) := by decide +kernel
theorem dX4_lacking_112 : decode cX4_lacking 112 = .ok (.iload_n 2, 1) := by decide +kernel
theorem dX4_lacking_113 : decode cX4_lacking 113 = .ok (.ireturn, 1) := by decide +kernel
theorem dX4_needed_0 : decode cX4_needed 0 = .ok (.aload_n 0, 1) := by decide +kernel
theorem dX4_needed_1 : decode cX4_needed 1 = .ok (.iload_n 1, 1) := by decide +kernel
theorem dX4_needed_2 : decode cX4_needed 2 = .ok (.invokevirtual 73, 3) := by decide +kernel
theorem dX4_needed_5 : decode cX4_needed 5 = .ok (.ifCond .eq 10, 3) := by decide +kernel
theorem dX4_needed_8 : decode cX4_needed 8 = .ok (.iload_n 2, 1) := by decide +kernel
theorem dX4_needed_9 : decode cX4_needed 9 = .ok (.invokestatic 77, 3) := by decide +kernel
theorem dX4_needed_12 : decode cX4_needed 12 = .ok (.ifCond .ne 6, 3) := by decide +kernel
theorem dX4_needed_15 : decode cX4_needed 15 = .ok (.bipush (-2), 2) := by decide +kernel
theorem dX4_needed_17 : decode cX4_needed 17 = .ok (.ireturn, 1) := by decide +kernel
theorem dX4_needed_18 : decode cX4_needed 18 = .ok (.aload_n 0, 1) := by decide +kernel
theorem dX4_needed_19 : decode cX4_needed 19 = .ok (.iload_n 2, 1) := by decide +kernel
theorem dX4_needed_20 : decode cX4_needed 20 = .ok (.invokevirtual 108, 3) := by decide +kernel
theorem dX4_needed_23 : decode cX4_needed 23 = .ok (.aload_n 0, 1) := by decide +kernel
theorem dX4_needed_24 : decode cX4_needed 24 = .ok (.getfield 87, 3) := by decide +kernel
theorem dX4_needed_27 : decode cX4_needed 27 = .ok (.ifCond .le 18, 3) := by decide +kernel
theorem dX4_needed_30 : decode cX4_needed 30 = .ok (.aload_n 0, 1) := by decide +kernel
theorem dX4_needed_31 : decode cX4_needed 31 = .ok (.getfield 96, 3) := by decide +kernel
theorem dX4_needed_34 : decode cX4_needed 34 = .ok (.iload_n 1, 1) := by decide +kernel
theorem dX4_needed_35 : decode cX4_needed 35 = .ok (.invokestatic 80, 3) := by decide +kernel
theorem dX4_needed_38 : decode cX4_needed 38 = .ok (.ifCond .eq 7, 3) := by decide +kernel
theorem dX4_needed_41 : decode cX4_needed 41 = .ok (.iconst 1, 1) := by decide +kernel
theorem dX4_needed_42 : decode cX4_needed 42 = .ok (.goto 4, 3) := by decide +kernel
theorem dX4_needed_45 : decode cX4_needed 45 = .ok (.iconst 0, 1) := by decide +kernel
theorem dX4_needed_46 : decode cX4_needed 46 = .ok (.ireturn, 1) := by decide +kernel
theorem dX4_speak_0 : decode cX4_speak 0 = .ok (.iload_n 1, 1) := by decide +kernel
theorem dX4_speak_1 : decode cX4_speak 1 = .ok (.invokestatic 116, 3) := by decide +kernel
theorem dX4_speak_4 : decode cX4_speak 4 = .ok (.ifCond .eq 10, 3) := by decide +kernel
theorem dX4_speak_7 : decode cX4_speak 7 = .ok (.iload_n 2, 1) := by decide +kernel
theorem dX4_speak_8 : decode cX4_speak 8 = .ok (.invokestatic 119, 3) := by decide +kernel
theorem dX4_speak_11 : decode cX4_speak 11 = .ok (.ifCond .ne 6, 3) := by decide +kernel
theorem dX4_speak_14 : decode cX4_speak 14 = .ok (.bipush (-2), 2) := by decide +kernel
theorem dX4_speak_16 : decode cX4_speak 16 = .ok (.ireturn, 1) := by decide +kernel
theorem dX4_speak_17 : decode cX4_speak 17 = .ok (.iload_n 3, 1) := by decide +kernel
theorem dX4_speak_18 : decode cX4_speak 18 = .ok (.iconst 1, 1) := by decide +kernel
theorem dX4_speak_19 : decode cX4_speak 19 = .ok (.bipush 9, 2) := by decide +kernel
theorem dX4_speak_21 : decode cX4_speak 21 = .ok (.invokestatic 69, 3) := by decide +kernel
theorem dX4_speak_24 : decode cX4_speak 24 = .ok (.ifCond .ne 6, 3) := by decide +kernel
theorem dX4_speak_27 : decode cX4_speak 27 = .ok (.bipush (-3), 2) := by decide +kernel
theorem dX4_speak_29 : decode cX4_speak 29 = .ok (.ireturn, 1) := by decide +kernel
theorem dX4_speak_30 : decode cX4_speak 30 = .ok (.aload_n 0, 1) := by decide +kernel
theorem dX4_speak_31 : decode cX4_speak 31 = .ok (.getfield 36, 3) := by decide +kernel
theorem dX4_speak_34 : decode cX4_speak 34 = .ok (.iload_n 1, 1) := by decide +kernel
theorem dX4_speak_35 : decode cX4_speak 35 = .ok (.iload_n 2, 1) := by decide +kernel
theorem dX4_speak_36 : decode cX4_speak 36 = .ok (.iastore, 1) := by decide +kernel
theorem dX4_speak_37 : decode cX4_speak 37 = .ok (.aload_n 0, 1) := by decide +kernel
theorem dX4_speak_38 : decode cX4_speak 38 = .ok (.getfield 39, 3) := by decide +kernel
theorem dX4_speak_41 : decode cX4_speak 41 = .ok (.iload_n 1, 1) := by decide +kernel
theorem dX4_speak_42 : decode cX4_speak 42 = .ok (.iload_n 3, 1) := by decide +kernel
theorem dX4_speak_43 : decode cX4_speak 43 = .ok (.iastore, 1) := by decide +kernel
theorem dX4_speak_44 : decode cX4_speak 44 = .ok (.iconst 1, 1) := by decide +kernel
theorem dX4_speak_45 : decode cX4_speak 45 = .ok (.ireturn, 1) := by decide +kernel
theorem dX4_silence_0 : decode cX4_silence 0 = .ok (.iload_n 1, 1) := by decide +kernel
theorem dX4_silence_1 : decode cX4_silence 1 = .ok (.invokestatic 116, 3) := by decide +kernel
theorem dX4_silence_4 : decode cX4_silence 4 = .ok (.ifCond .ne 6, 3) := by decide +kernel
theorem dX4_silence_7 : decode cX4_silence 7 = .ok (.bipush (-2), 2) := by decide +kernel
theorem dX4_silence_9 : decode cX4_silence 9 = .ok (.ireturn, 1) := by decide +kernel
theorem dX4_silence_10 : decode cX4_silence 10 = .ok (.aload_n 0, 1) := by decide +kernel
theorem dX4_silence_11 : decode cX4_silence 11 = .ok (.getfield 36, 3) := by decide +kernel
theorem dX4_silence_14 : decode cX4_silence 14 = .ok (.iload_n 1, 1) := by decide +kernel
theorem dX4_silence_15 : decode cX4_silence 15 = .ok (.iaload, 1) := by decide +kernel
theorem dX4_silence_16 : decode cX4_silence 16 = .ok (.iconst (-1), 1) := by decide +kernel
theorem dX4_silence_17 : decode cX4_silence 17 = .ok (.if_icmp .ne 7, 3) := by decide +kernel
theorem dX4_silence_20 : decode cX4_silence 20 = .ok (.iconst 0, 1) := by decide +kernel
theorem dX4_silence_21 : decode cX4_silence 21 = .ok (.goto 4, 3) := by decide +kernel
theorem dX4_silence_24 : decode cX4_silence 24 = .ok (.iconst 1, 1) := by decide +kernel
theorem dX4_silence_25 : decode cX4_silence 25 = .ok (.istore_n 2, 1) := by decide +kernel
theorem dX4_silence_26 : decode cX4_silence 26 = .ok (.aload_n 0, 1) := by decide +kernel
theorem dX4_silence_27 : decode cX4_silence 27 = .ok (.getfield 36, 3) := by decide +kernel
theorem dX4_silence_30 : decode cX4_silence 30 = .ok (.iload_n 1, 1) := by decide +kernel
theorem dX4_silence_31 : decode cX4_silence 31 = .ok (.iconst (-1), 1) := by decide +kernel
theorem dX4_silence_32 : decode cX4_silence 32 = .ok (.iastore, 1) := by decide +kernel
theorem dX4_silence_33 : decode cX4_silence 33 = .ok (.iload_n 2, 1) := by decide +kernel
theorem dX4_silence_34 : decode cX4_silence 34 = .ok (.ireturn, 1) := by decide +kernel
theorem dX4_limit_0 : decode cX4_limit 0 = .ok (.iload_n 1, 1) := by decide +kernel
theorem dX4_limit_1 : decode cX4_limit 1 = .ok (.iconst 5, 1) := by decide +kernel
theorem dX4_limit_2 : decode cX4_limit 2 = .ok (.bipush 60, 2) := by decide +kernel
theorem dX4_limit_4 : decode cX4_limit 4 = .ok (.invokestatic 69, 3) := by decide +kernel
theorem dX4_limit_7 : decode cX4_limit 7 = .ok (.ifCond .ne 6, 3) := by decide +kernel
theorem dX4_limit_10 : decode cX4_limit 10 = .ok (.bipush (-3), 2) := by decide +kernel
theorem dX4_limit_12 : decode cX4_limit 12 = .ok (.ireturn, 1) := by decide +kernel
theorem dX4_limit_13 : decode cX4_limit 13 = .ok (.aload_n 0, 1) := by decide +kernel
theorem dX4_limit_14 : decode cX4_limit 14 = .ok (.getfield 42, 3) := by decide +kernel
theorem dX4_limit_17 : decode cX4_limit 17 = .ok (.istore_n 2, 1) := by decide +kernel
theorem dX4_limit_18 : decode cX4_limit 18 = .ok (.aload_n 0, 1) := by decide +kernel
theorem dX4_limit_19 : decode cX4_limit 19 = .ok (.iload_n 1, 1) := by decide +kernel
theorem dX4_limit_20 : decode cX4_limit 20 = .ok (.putfield 42, 3) := by decide +kernel
theorem dX4_limit_23 : decode cX4_limit 23 = .ok (.iload_n 2, 1) := by decide +kernel
theorem dX4_limit_24 : decode cX4_limit 24 = .ok (.ireturn, 1) := by decide +kernel
theorem dX4_knowsIt_0 : decode cX4_knowsIt 0 = .ok (.iload_n 1, 1) := by decide +kernel
theorem dX4_knowsIt_1 : decode cX4_knowsIt 1 = .ok (.iconst (-1), 1) := by decide +kernel
theorem dX4_knowsIt_2 : decode cX4_knowsIt 2 = .ok (.if_icmp .eq 20, 3) := by decide +kernel
theorem dX4_knowsIt_5 : decode cX4_knowsIt 5 = .ok (.aload_n 0, 1) := by decide +kernel
theorem dX4_knowsIt_6 : decode cX4_knowsIt 6 = .ok (.getfield 7, 3) := by decide +kernel
theorem dX4_knowsIt_9 : decode cX4_knowsIt 9 = .ok (.iload_n 1, 1) := by decide +kernel
theorem dX4_knowsIt_10 : decode cX4_knowsIt 10 = .ok (.iaload, 1) := by decide +kernel
theorem dX4_knowsIt_11 : decode cX4_knowsIt 11 = .ok (.iload_n 2, 1) := by decide +kernel
theorem dX4_knowsIt_12 : decode cX4_knowsIt 12 = .ok (.invokestatic 80, 3) := by decide +kernel
theorem dX4_knowsIt_15 : decode cX4_knowsIt 15 = .ok (.ifCond .eq 7, 3) := by decide +kernel
theorem dX4_knowsIt_18 : decode cX4_knowsIt 18 = .ok (.iconst 1, 1) := by decide +kernel
theorem dX4_knowsIt_19 : decode cX4_knowsIt 19 = .ok (.goto 4, 3) := by decide +kernel
theorem dX4_knowsIt_22 : decode cX4_knowsIt 22 = .ok (.iconst 0, 1) := by decide +kernel
theorem dX4_knowsIt_23 : decode cX4_knowsIt 23 = .ok (.ireturn, 1) := by decide +kernel
theorem dX4_findOn_0 : decode cX4_findOn 0 = .ok (.iconst 0, 1) := by decide +kernel
theorem dX4_findOn_1 : decode cX4_findOn 1 = .ok (.istore_n 2, 1) := by decide +kernel
theorem dX4_findOn_2 : decode cX4_findOn 2 = .ok (.iload_n 2, 1) := by decide +kernel
theorem dX4_findOn_3 : decode cX4_findOn 3 = .ok (.iconst 5, 1) := by decide +kernel
theorem dX4_findOn_4 : decode cX4_findOn 4 = .ok (.if_icmp .ge 88, 3) := by decide +kernel
theorem dX4_findOn_7 : decode cX4_findOn 7 = .ok (.aload_n 0, 1) := by decide +kernel
theorem dX4_findOn_8 : decode cX4_findOn 8 = .ok (.getfield 57, 3) := by decide +kernel
theorem dX4_findOn_11 : decode cX4_findOn 11 = .ok (.iload_n 2, 1) := by decide +kernel
theorem dX4_findOn_12 : decode cX4_findOn 12 = .ok (.iconst (-1), 1) := by decide +kernel
theorem dX4_findOn_13 : decode cX4_findOn 13 = .ok (.iastore, 1) := by decide +kernel
theorem dX4_findOn_14 : decode cX4_findOn 14 = .ok (.iconst 0, 1) := by decide +kernel
theorem dX4_findOn_15 : decode cX4_findOn 15 = .ok (.istore_n 3, 1) := by decide +kernel
theorem dX4_findOn_16 : decode cX4_findOn 16 = .ok (.iload_n 3, 1) := by decide +kernel
theorem dX4_findOn_17 : decode cX4_findOn 17 = .ok (.aload_n 0, 1) := by decide +kernel
theorem dX4_findOn_18 : decode cX4_findOn 18 = .ok (.getfield 66, 3) := by decide +kernel
theorem dX4_findOn_21 : decode cX4_findOn 21 = .ok (.if_icmp .ge 65, 3) := by decide +kernel
theorem dX4_findOn_24 : decode cX4_findOn 24 = .ok (.aload_n 0, 1) := by decide +kernel
theorem dX4_findOn_25 : decode cX4_findOn 25 = .ok (.getfield 57, 3) := by decide +kernel
theorem dX4_findOn_28 : decode cX4_findOn 28 = .ok (.iload_n 2, 1) := by decide +kernel
theorem dX4_findOn_29 : decode cX4_findOn 29 = .ok (.aload_n 0, 1) := by decide +kernel
theorem dX4_findOn_30 : decode cX4_findOn 30 = .ok (.getfield 33, 3) := by decide +kernel
theorem dX4_findOn_33 : decode cX4_findOn 33 = .ok (.iload_n 3, 1) := by decide +kernel
theorem dX4_findOn_34 : decode cX4_findOn 34 = .ok (.iaload, 1) := by decide +kernel
theorem dX4_findOn_35 : decode cX4_findOn 35 = .ok (.iload_n 2, 1) := by decide +kernel
theorem dX4_findOn_36 : decode cX4_findOn 36 = .ok (.if_icmp .ne 37, 3) := by decide +kernel
theorem dX4_findOn_39 : decode cX4_findOn 39 = .ok (.aload_n 0, 1) := by decide +kernel
theorem dX4_findOn_40 : decode cX4_findOn 40 = .ok (.getfield 57, 3) := by decide +kernel
theorem dX4_findOn_43 : decode cX4_findOn 43 = .ok (.iload_n 2, 1) := by decide +kernel
theorem dX4_findOn_44 : decode cX4_findOn 44 = .ok (.iaload, 1) := by decide +kernel
theorem dX4_findOn_45 : decode cX4_findOn 45 = .ok (.iconst (-1), 1) := by decide +kernel
theorem dX4_findOn_46 : decode cX4_findOn 46 = .ok (.if_icmp .eq 23, 3) := by decide +kernel
theorem dX4_findOn_49 : decode cX4_findOn 49 = .ok (.aload_n 0, 1) := by decide +kernel
theorem dX4_findOn_50 : decode cX4_findOn 50 = .ok (.getfield 54, 3) := by decide +kernel
theorem dX4_findOn_53 : decode cX4_findOn 53 = .ok (.iload_n 3, 1) := by decide +kernel
theorem dX4_findOn_54 : decode cX4_findOn 54 = .ok (.iaload, 1) := by decide +kernel
theorem dX4_findOn_55 : decode cX4_findOn 55 = .ok (.aload_n 0, 1) := by decide +kernel
theorem dX4_findOn_56 : decode cX4_findOn 56 = .ok (.getfield 54, 3) := by decide +kernel
theorem dX4_findOn_59 : decode cX4_findOn 59 = .ok (.aload_n 0, 1) := by decide +kernel
theorem dX4_findOn_60 : decode cX4_findOn 60 = .ok (.getfield 57, 3) := by decide +kernel
theorem dX4_findOn_63 : decode cX4_findOn 63 = .ok (.iload_n 2, 1) := by decide +kernel
theorem dX4_findOn_64 : decode cX4_findOn 64 = .ok (.iaload, 1) := by decide +kernel
theorem dX4_findOn_65 : decode cX4_findOn 65 = .ok (.iaload, 1) := by decide +kernel
theorem dX4_findOn_66 : decode cX4_findOn 66 = .ok (.if_icmp .ge 7, 3) := by decide +kernel
theorem dX4_findOn_69 : decode cX4_findOn 69 = .ok (.iload_n 3, 1) := by decide +kernel
theorem dX4_findOn_70 : decode cX4_findOn 70 = .ok (.goto 9, 3) := by decide +kernel
theorem dX4_findOn_73 : decode cX4_findOn 73 = .ok (.aload_n 0, 1) := by decide +kernel
theorem dX4_findOn_74 : decode cX4_findOn 74 = .ok (.getfield 57, 3) := by decide +kernel
theorem dX4_findOn_77 : decode cX4_findOn 77 = .ok (.iload_n 2, 1) := by decide +kernel
theorem dX4_findOn_78 : decode cX4_findOn 78 = .ok (.iaload, 1) := by decide +kernel
theorem dX4_findOn_79 : decode cX4_findOn 79 = .ok (.iastore, 1) := by decide +kernel
theorem dX4_findOn_80 : decode cX4_findOn 80 = .ok (.iinc 3 1, 3) := by decide +kernel
theorem dX4_findOn_83 : decode cX4_findOn 83 = .ok (.goto (-67), 3) := by decide +kernel
theorem dX4_findOn_86 : decode cX4_findOn 86 = .ok (.iinc 2 1, 3) := by decide +kernel
theorem dX4_findOn_89 : decode cX4_findOn 89 = .ok (.goto (-87), 3) := by decide +kernel
theorem dX4_findOn_92 : decode cX4_findOn 92 = .ok (.aload_n 0, 1) := by decide +kernel
theorem dX4_findOn_93 : decode cX4_findOn 93 = .ok (.getfield 36, 3) := by decide +kernel
theorem dX4_findOn_96 : decode cX4_findOn 96 = .ok (.iload_n 1, 1) := by decide +kernel
theorem dX4_findOn_97 : decode cX4_findOn 97 = .ok (.iaload, 1) := by decide +kernel
theorem dX4_findOn_98 : decode cX4_findOn 98 = .ok (.istore_n 2, 1) := by decide +kernel
theorem dX4_findOn_99 : decode cX4_findOn 99 = .ok (.iconst 0, 1) := by decide +kernel
theorem dX4_findOn_100 : decode cX4_findOn 100 = .ok (.istore_n 3, 1) := by decide +kernel
theorem dX4_findOn_101 : decode cX4_findOn 101 = .ok (.iload_n 3, 1) := by decide +kernel
theorem dX4_findOn_102 : decode cX4_findOn 102 = .ok (.iconst 5, 1) := by decide +kernel
theorem dX4_findOn_103 : decode cX4_findOn 103 = .ok (.if_icmp .ge 147, 3) := by decide +kernel
theorem dX4_findOn_106 : decode cX4_findOn 106 = .ok (.aload_n 0, 1) := by decide +kernel
theorem dX4_findOn_107 : decode cX4_findOn 107 = .ok (.getfield 60, 3) := by decide +kernel
theorem dX4_findOn_110 : decode cX4_findOn 110 = .ok (.iload_n 3, 1) := by decide +kernel
theorem dX4_findOn_111 : decode cX4_findOn 111 = .ok (.iconst (-1), 1) := by decide +kernel
theorem dX4_findOn_112 : decode cX4_findOn 112 = .ok (.iastore, 1) := by decide +kernel
theorem dX4_findOn_113 : decode cX4_findOn 113 = .ok (.iload_n 2, 1) := by decide +kernel
theorem dX4_findOn_114 : decode cX4_findOn 114 = .ok (.iconst (-1), 1) := by decide +kernel
theorem dX4_findOn_115 : decode cX4_findOn 115 = .ok (.if_icmp .eq 129, 3) := by decide +kernel
theorem dX4_findOn_118 : decode cX4_findOn 118 = .ok (.iload_n 3, 1) := by decide +kernel
theorem dX4_findOn_119 : decode cX4_findOn 119 = .ok (.iload_n 2, 1) := by decide +kernel
theorem dX4_findOn_120 : decode cX4_findOn 120 = .ok (.if_icmp .eq 124, 3) := by decide +kernel
theorem dX4_findOn_123 : decode cX4_findOn 123 = .ok (.aload_n 0, 1) := by decide +kernel
theorem dX4_findOn_124 : decode cX4_findOn 124 = .ok (.getfield 57, 3) := by decide +kernel
theorem dX4_findOn_127 : decode cX4_findOn 127 = .ok (.iload_n 3, 1) := by decide +kernel
theorem dX4_findOn_128 : decode cX4_findOn 128 = .ok (.iaload, 1) := by decide +kernel
theorem dX4_findOn_129 : decode cX4_findOn 129 = .ok (.iconst (-1), 1) := by decide +kernel
theorem dX4_findOn_130 : decode cX4_findOn 130 = .ok (.if_icmp .eq 114, 3) := by decide +kernel
theorem dX4_findOn_133 : decode cX4_findOn 133 = .ok (.iconst 4, 1) := by decide +kernel
theorem dX4_findOn_134 : decode cX4_findOn 134 = .ok (.istore 4, 2) := by decide +kernel
theorem dX4_findOn_136 : decode cX4_findOn 136 = .ok (.iload 4, 2) := by decide +kernel
theorem dX4_findOn_138 : decode cX4_findOn 138 = .ok (.ifCond .lt 72, 3) := by decide +kernel
theorem dX4_findOn_141 : decode cX4_findOn 141 = .ok (.aload_n 0, 1) := by decide +kernel
theorem dX4_findOn_142 : decode cX4_findOn 142 = .ok (.getfield 60, 3) := by decide +kernel
theorem dX4_findOn_145 : decode cX4_findOn 145 = .ok (.iload_n 3, 1) := by decide +kernel
theorem dX4_findOn_146 : decode cX4_findOn 146 = .ok (.iload 4, 2) := by decide +kernel
theorem dX4_findOn_148 : decode cX4_findOn 148 = .ok (.iload_n 2, 1) := by decide +kernel
theorem dX4_findOn_149 : decode cX4_findOn 149 = .ok (.if_icmp .eq 48, 3) := by decide +kernel
theorem dX4_findOn_152 : decode cX4_findOn 152 = .ok (.iload 4, 2) := by decide +kernel
theorem dX4_findOn_154 : decode cX4_findOn 154 = .ok (.iload_n 3, 1) := by decide +kernel
theorem dX4_findOn_155 : decode cX4_findOn 155 = .ok (.if_icmp .eq 42, 3) := by decide +kernel
theorem dX4_findOn_158 : decode cX4_findOn 158 = .ok (.aload_n 0, 1) := by decide +kernel
theorem dX4_findOn_159 : decode cX4_findOn 159 = .ok (.aload_n 0, 1) := by decide +kernel
theorem dX4_findOn_160 : decode cX4_findOn 160 = .ok (.getfield 57, 3) := by decide +kernel
theorem dX4_findOn_163 : decode cX4_findOn 163 = .ok (.iload 4, 2) := by decide +kernel
theorem dX4_findOn_165 : decode cX4_findOn 165 = .ok (.iaload, 1) := by decide +kernel
theorem dX4_findOn_166 : decode cX4_findOn 166 = .ok (.iload_n 2, 1) := by decide +kernel
theorem dX4_findOn_167 : decode cX4_findOn 167 = .ok (.invokevirtual 122, 3) := by decide +kernel
theorem dX4_findOn_170 : decode cX4_findOn 170 = .ok (.ifCond .eq 27, 3) := by decide +kernel
theorem dX4_findOn_173 : decode cX4_findOn 173 = .ok (.aload_n 0, 1) := by decide +kernel
theorem dX4_findOn_174 : decode cX4_findOn 174 = .ok (.getfield 7, 3) := by decide +kernel
theorem dX4_findOn_177 : decode cX4_findOn 177 = .ok (.aload_n 0, 1) := by decide +kernel
theorem dX4_findOn_178 : decode cX4_findOn 178 = .ok (.getfield 57, 3) := by decide +kernel
theorem dX4_findOn_181 : decode cX4_findOn 181 = .ok (.iload_n 3, 1) := by decide +kernel
theorem dX4_findOn_182 : decode cX4_findOn 182 = .ok (.iaload, 1) := by decide +kernel
theorem dX4_findOn_183 : decode cX4_findOn 183 = .ok (.iaload, 1) := by decide +kernel
theorem dX4_findOn_184 : decode cX4_findOn 184 = .ok (.iload 4, 2) := by decide +kernel
theorem dX4_findOn_186 : decode cX4_findOn 186 = .ok (.invokestatic 80, 3) := by decide +kernel
theorem dX4_findOn_189 : decode cX4_findOn 189 = .ok (.ifCond .eq 8, 3) := by decide +kernel
theorem dX4_findOn_192 : decode cX4_findOn 192 = .ok (.iload 4, 2) := by decide +kernel
theorem dX4_findOn_194 : decode cX4_findOn 194 = .ok (.goto 9, 3) := by decide +kernel
theorem dX4_findOn_197 : decode cX4_findOn 197 = .ok (.aload_n 0, 1) := by decide +kernel
theorem dX4_findOn_198 : decode cX4_findOn 198 = .ok (.getfield 60, 3) := by decide +kernel
theorem dX4_findOn_201 : decode cX4_findOn 201 = .ok (.iload_n 3, 1) := by decide +kernel
theorem dX4_findOn_202 : decode cX4_findOn 202 = .ok (.iaload, 1) := by decide +kernel
theorem dX4_findOn_203 : decode cX4_findOn 203 = .ok (.iastore, 1) := by decide +kernel
theorem dX4_findOn_204 : decode cX4_findOn 204 = .ok (.iinc 4 (-1), 3) := by decide +kernel
theorem dX4_findOn_207 : decode cX4_findOn 207 = .ok (.goto (-71), 3) := by decide +kernel
theorem dX4_findOn_210 : decode cX4_findOn 210 = .ok (.aload_n 0, 1) := by decide +kernel
theorem dX4_findOn_211 : decode cX4_findOn 211 = .ok (.getfield 60, 3) := by decide +kernel
theorem dX4_findOn_214 : decode cX4_findOn 214 = .ok (.iload_n 3, 1) := by decide +kernel
theorem dX4_findOn_215 : decode cX4_findOn 215 = .ok (.aload_n 0, 1) := by decide +kernel
theorem dX4_findOn_216 : decode cX4_findOn 216 = .ok (.getfield 7, 3) := by decide +kernel
theorem dX4_findOn_219 : decode cX4_findOn 219 = .ok (.aload_n 0, 1) := by decide +kernel
theorem dX4_findOn_220 : decode cX4_findOn 220 = .ok (.getfield 57, 3) := by decide +kernel
theorem dX4_findOn_223 : decode cX4_findOn 223 = .ok (.iload_n 3, 1) := by decide +kernel
theorem dX4_findOn_224 : decode cX4_findOn 224 = .ok (.iaload, 1) := by decide +kernel
theorem dX4_findOn_225 : decode cX4_findOn 225 = .ok (.iaload, 1) := by decide +kernel
theorem dX4_findOn_226 : decode cX4_findOn 226 = .ok (.iload_n 2, 1) := by decide +kernel
theorem dX4_findOn_227 : decode cX4_findOn 227 = .ok (.invokestatic 80, 3) := by decide +kernel
theorem dX4_findOn_230 : decode cX4_findOn 230 = .ok (.ifCond .eq 7, 3) := by decide +kernel
theorem dX4_findOn_233 : decode cX4_findOn 233 = .ok (.iload_n 3, 1) := by decide +kernel
theorem dX4_findOn_234 : decode cX4_findOn 234 = .ok (.goto 9, 3) := by decide +kernel
theorem dX4_findOn_237 : decode cX4_findOn 237 = .ok (.aload_n 0, 1) := by decide +kernel
theorem dX4_findOn_238 : decode cX4_findOn 238 = .ok (.getfield 60, 3) := by decide +kernel
theorem dX4_findOn_241 : decode cX4_findOn 241 = .ok (.iload_n 3, 1) := by decide +kernel
theorem dX4_findOn_242 : decode cX4_findOn 242 = .ok (.iaload, 1) := by decide +kernel
theorem dX4_findOn_243 : decode cX4_findOn 243 = .ok (.iastore, 1) := by decide +kernel
theorem dX4_findOn_244 : decode cX4_findOn 244 = .ok (.iinc 3 1, 3) := by decide +kernel
theorem dX4_findOn_247 : decode cX4_findOn 247 = .ok (.goto (-146), 3) := by decide +kernel
theorem dX4_findOn_250 : decode cX4_findOn 250 = .ok (.return_, 1) := by decide +kernel
theorem dX4_goTo_0 : decode cX4_goTo 0 = .ok (.aload_n 0, 1) := by decide +kernel
theorem dX4_goTo_1 : decode cX4_goTo 1 = .ok (.iconst 0, 1) := by decide +kernel
theorem dX4_goTo_2 : decode cX4_goTo 2 = .ok (.putfield 125, 3) := by decide +kernel
theorem dX4_goTo_5 : decode cX4_goTo 5 = .ok (.iconst 0, 1) := by decide +kernel
theorem dX4_goTo_6 : decode cX4_goTo 6 = .ok (.istore_n 2, 1) := by decide +kernel
theorem dX4_goTo_7 : decode cX4_goTo 7 = .ok (.iload_n 2, 1) := by decide +kernel
theorem dX4_goTo_8 : decode cX4_goTo 8 = .ok (.bipush 6, 2) := by decide +kernel
theorem dX4_goTo_10 : decode cX4_goTo 10 = .ok (.if_icmp .ge 16, 3) := by decide +kernel
theorem dX4_goTo_13 : decode cX4_goTo 13 = .ok (.aload_n 0, 1) := by decide +kernel
theorem dX4_goTo_14 : decode cX4_goTo 14 = .ok (.getfield 54, 3) := by decide +kernel
theorem dX4_goTo_17 : decode cX4_goTo 17 = .ok (.iload_n 2, 1) := by decide +kernel
theorem dX4_goTo_18 : decode cX4_goTo 18 = .ok (.iconst 0, 1) := by decide +kernel
theorem dX4_goTo_19 : decode cX4_goTo 19 = .ok (.iastore, 1) := by decide +kernel
theorem dX4_goTo_20 : decode cX4_goTo 20 = .ok (.iinc 2 1, 3) := by decide +kernel
theorem dX4_goTo_23 : decode cX4_goTo 23 = .ok (.goto (-16), 3) := by decide +kernel
theorem dX4_goTo_26 : decode cX4_goTo 26 = .ok (.iconst 0, 1) := by decide +kernel
theorem dX4_goTo_27 : decode cX4_goTo 27 = .ok (.istore_n 2, 1) := by decide +kernel
theorem dX4_goTo_28 : decode cX4_goTo 28 = .ok (.iload_n 2, 1) := by decide +kernel
theorem dX4_goTo_29 : decode cX4_goTo 29 = .ok (.iconst 5, 1) := by decide +kernel
theorem dX4_goTo_30 : decode cX4_goTo 30 = .ok (.if_icmp .ge 16, 3) := by decide +kernel
theorem dX4_goTo_33 : decode cX4_goTo 33 = .ok (.aload_n 0, 1) := by decide +kernel
theorem dX4_goTo_34 : decode cX4_goTo 34 = .ok (.getfield 63, 3) := by decide +kernel
theorem dX4_goTo_37 : decode cX4_goTo 37 = .ok (.iload_n 2, 1) := by decide +kernel
theorem dX4_goTo_38 : decode cX4_goTo 38 = .ok (.iconst 0, 1) := by decide +kernel
theorem dX4_goTo_39 : decode cX4_goTo 39 = .ok (.iastore, 1) := by decide +kernel
theorem dX4_goTo_40 : decode cX4_goTo 40 = .ok (.iinc 2 1, 3) := by decide +kernel
theorem dX4_goTo_43 : decode cX4_goTo 43 = .ok (.goto (-15), 3) := by decide +kernel
theorem dX4_goTo_46 : decode cX4_goTo 46 = .ok (.iconst 0, 1) := by decide +kernel
theorem dX4_goTo_47 : decode cX4_goTo 47 = .ok (.istore_n 2, 1) := by decide +kernel
theorem dX4_goTo_48 : decode cX4_goTo 48 = .ok (.iload_n 2, 1) := by decide +kernel
theorem dX4_goTo_49 : decode cX4_goTo 49 = .ok (.iload_n 1, 1) := by decide +kernel
theorem dX4_goTo_50 : decode cX4_goTo 50 = .ok (.if_icmp .gt 234, 3) := by decide +kernel
theorem dX4_goTo_53 : decode cX4_goTo 53 = .ok (.aload_n 0, 1) := by decide +kernel
theorem dX4_goTo_54 : decode cX4_goTo 54 = .ok (.iload_n 2, 1) := by decide +kernel
theorem dX4_goTo_55 : decode cX4_goTo 55 = .ok (.invokevirtual 128, 3) := by decide +kernel
theorem dX4_goTo_58 : decode cX4_goTo 58 = .ok (.iconst 0, 1) := by decide +kernel
theorem dX4_goTo_59 : decode cX4_goTo 59 = .ok (.istore_n 3, 1) := by decide +kernel
theorem dX4_goTo_60 : decode cX4_goTo 60 = .ok (.iload_n 3, 1) := by decide +kernel
theorem dX4_goTo_61 : decode cX4_goTo 61 = .ok (.aload_n 0, 1) := by decide +kernel
theorem dX4_goTo_62 : decode cX4_goTo 62 = .ok (.getfield 66, 3) := by decide +kernel
theorem dX4_goTo_65 : decode cX4_goTo 65 = .ok (.if_icmp .ge 139, 3) := by decide +kernel
theorem dX4_goTo_68 : decode cX4_goTo 68 = .ok (.iconst 0, 1) := by decide +kernel
theorem dX4_goTo_69 : decode cX4_goTo 69 = .ok (.istore 4, 2) := by decide +kernel
