theorem fj_okL_0 : fj_i165_0.all (fun q => fj_okI 165 q.1 q.2) = true := by decide +kernel
theorem fj_okL_1 : fj_i165_1.all (fun q => fj_okI 165 q.1 q.2) = true := by decide +kernel
theorem fj_okL_2 : fj_i165_2.all (fun q => fj_okI 165 q.1 q.2) = true := by decide +kernel
theorem fj_okL_3 : fj_i165_3.all (fun q => fj_okI 165 q.1 q.2) = true := by decide +kernel
theorem fj_okL_4 : fj_i165_4.all (fun q => fj_okI 165 q.1 q.2) = true := by decide +kernel
theorem fj_okL_5 : fj_i165_5.all (fun q => fj_okI 165 q.1 q.2) = true := by decide +kernel
theorem fj_okL_6 : fj_i165_6.all (fun q => fj_okI 165 q.1 q.2) = true := by decide +kernel
theorem fj_okL_7 : fj_i165_7.all (fun q => fj_okI 165 q.1 q.2) = true := by decide +kernel
theorem fj_okL_8 : fj_i165_8.all (fun q => fj_okI 165 q.1 q.2) = true := by decide +kernel
theorem fj_okL_9 : fj_i165_9.all (fun q => fj_okI 165 q.1 q.2) = true := by decide +kernel
theorem fj_okL_10 : fj_i165_10.all (fun q => fj_okI 165 q.1 q.2) = true := by decide +kernel
theorem fj_okL_11 : fj_i165_11.all (fun q => fj_okI 165 q.1 q.2) = true := by decide +kernel
theorem fj_okL_12 : fj_i165_12.all (fun q => fj_okI 165 q.1 q.2) = true := by decide +kernel
theorem fj_okL_13 : fj_i165_13.all (fun q => fj_okI 165 q.1 q.2) = true := by decide +kernel
theorem fj_okL_14 : fj_i165_14.all (fun q => fj_okI 165 q.1 q.2) = true := by decide +kernel
theorem fj_okL_15 : fj_i165_15.all (fun q => fj_okI 165 q.1 q.2) = true := by decide +kernel
theorem fj_okL_16 : fj_i165_16.all (fun q => fj_okI 165 q.1 q.2) = true := by decide +kernel
theorem fj_okL_17 : fj_i165_17.all (fun q => fj_okI 165 q.1 q.2) = true := by decide +kernel
theorem fj_okL_18 : fj_i165_18.all (fun q => fj_okI 165 q.1 q.2) = true := by decide +kernel
theorem fj_okL_19 : fj_i165_19.all (fun q => fj_okI 165 q.1 q.2) = true := by decide +kernel
theorem fj_okL_20 : fj_i165_20.all (fun q => fj_okI 165 q.1 q.2) = true := by decide +kernel
theorem fj_okL_21 : fj_i165_21.all (fun q => fj_okI 165 q.1 q.2) = true := by decide +kernel
theorem fj_okL_22 : fj_i165_22.all (fun q => fj_okI 165 q.1 q.2) = true := by decide +kernel
theorem fj_okL_23 : fj_i165_23.all (fun q => fj_okI 165 q.1 q.2) = true := by decide +kernel
theorem fj_okL_24 : fj_i165_24.all (fun q => fj_okI 165 q.1 q.2) = true := by decide +kernel
theorem fj_okL_25 : fj_i165_25.all (fun q => fj_okI 165 q.1 q.2) = true := by decide +kernel
theorem fj_okL_26 : fj_i165_26.all (fun q => fj_okI 165 q.1 q.2) = true := by decide +kernel
theorem fj_okL_27 : fj_i165_27.all (fun q => fj_okI 165 q.1 q.2) = true := by decide +kernel
theorem fj_okL_28 : fj_i165_28.all (fun q => fj_okI 165 q.1 q.2) = true := by decide +kernel
theorem fj_okL_29 : fj_i165_29.all (fun q => fj_okI 165 q.1 q.2) = true := by decide +kernel
theorem fj_okL_30 : fj_i165_30.all (fun q => fj_okI 165 q.1 q.2) = true := by decide +kernel
theorem fj_okL_31 : fj_i165_31.all (fun q => fj_okI 165 q.1 q.2) = true := by decide +kernel
theorem fj_okL_32 : fj_i165_32.all (fun q => fj_okI 165 q.1 q.2) = true := by decide +kernel
theorem fj_okM_165 : fj_okM 165 = true := by
  show fj_i165.all (fun q => fj_okI 165 q.1 q.2) = true
  simp only [fj_i165, List.all_append, Bool.and_eq_true, fj_okL_0, fj_okL_1, fj_okL_2, fj_okL_3, fj_okL_4, fj_okL_5, fj_okL_6, fj_okL_7, fj_okL_8, fj_okL_9, fj_okL_10, fj_okL_11, fj_okL_12, fj_okL_13, fj_okL_14, fj_okL_15, fj_okL_16, fj_okL_17, fj_okL_18, fj_okL_19, fj_okL_20, fj_okL_21, fj_okL_22, fj_okL_23, fj_okL_24, fj_okL_25, fj_okL_26, fj_okL_27, fj_okL_28, fj_okL_29, fj_okL_30, fj_okL_31, fj_okL_32, and_self]
theorem fj_me_out (y : Nat) (h : 166 ≤ y) : fj_me y = fj_d0 := by
  unfold fj_me
  rw [List.getD_eq_getElem?_getD, List.getElem?_eq_none (Nat.le_trans (show fj_mt.length ≤ 166 from by decide +kernel) h)]
  rfl
theorem fj_okM_all (y : Nat) : fj_okM y = true := by
  by_cases h : 166 ≤ y
  · unfold fj_okM
    rw [fj_me_out y h]
    rfl
  · match y, h with
    | 0, _ => exact fj_okM_0
    | 1, _ => exact fj_okM_1
    | 2, _ => exact fj_okM_2
    | 3, _ => exact fj_okM_3
    | 4, _ => exact fj_okM_4
    | 5, _ => exact fj_okM_5
    | 6, _ => exact fj_okM_6
    | 7, _ => exact fj_okM_7
    | 8, _ => exact fj_okM_8
    | 9, _ => exact fj_okM_9
    | 10, _ => exact fj_okM_10
    | 11, _ => exact fj_okM_11
    | 12, _ => exact fj_okM_12
    | 13, _ => exact fj_okM_13
    | 14, _ => exact fj_okM_14
    | 15, _ => exact fj_okM_15
    | 16, _ => exact fj_okM_16
    | 17, _ => exact fj_okM_17
    | 18, _ => exact fj_okM_18
    | 19, _ => exact fj_okM_19
    | 20, _ => exact fj_okM_20
    | 21, _ => exact fj_okM_21
    | 22, _ => exact fj_okM_22
    | 23, _ => exact fj_okM_23
    | 24, _ => exact fj_okM_24
    | 25, _ => exact fj_okM_25
    | 26, _ => exact fj_okM_26
    | 27, _ => exact fj_okM_27
    | 28, _ => exact fj_okM_28
    | 29, _ => exact fj_okM_29
    | 30, _ => exact fj_okM_30
    | 31, _ => exact fj_okM_31
    | 32, _ => exact fj_okM_32
    | 33, _ => exact fj_okM_33
    | 34, _ => exact fj_okM_34
    | 35, _ => exact fj_okM_35
    | 36, _ => exact fj_okM_36
    | 37, _ => exact fj_okM_37
    | 38, _ => exact fj_okM_38
    | 39, _ => exact fj_okM_39
    | 40, _ => exact fj_okM_40
    | 41, _ => exact fj_okM_41
    | 42, _ => exact fj_okM_42
    | 43, _ => exact fj_okM_43
    | 44, _ => exact fj_okM_44
    | 45, _ => exact fj_okM_45
    | 46, _ => exact fj_okM_46
    | 47, _ => exact fj_okM_47
    | 48, _ => exact fj_okM_48
    | 49, _ => exact fj_okM_49
    | 50, _ => exact fj_okM_50
    | 51, _ => exact fj_okM_51
    | 52, _ => exact fj_okM_52
    | 53, _ => exact fj_okM_53
    | 54, _ => exact fj_okM_54
    | 55, _ => exact fj_okM_55
    | 56, _ => exact fj_okM_56
    | 57, _ => exact fj_okM_57
    | 58, _ => exact fj_okM_58
    | 59, _ => exact fj_okM_59
    | 60, _ => exact fj_okM_60
    | 61, _ => exact fj_okM_61
    | 62, _ => exact fj_okM_62
    | 63, _ => exact fj_okM_63
    | 64, _ => exact fj_okM_64
    | 65, _ => exact fj_okM_65
    | 66, _ => exact fj_okM_66
    | 67, _ => exact fj_okM_67
    | 68, _ => exact fj_okM_68
    | 69, _ => exact fj_okM_69
    | 70, _ => exact fj_okM_70
    | 71, _ => exact fj_okM_71
    | 72, _ => exact fj_okM_72
    | 73, _ => exact fj_okM_73
    | 74, _ => exact fj_okM_74
    | 75, _ => exact fj_okM_75
    | 76, _ => exact fj_okM_76
    | 77, _ => exact fj_okM_77
    | 78, _ => exact fj_okM_78
    | 79, _ => exact fj_okM_79
    | 80, _ => exact fj_okM_80
    | 81, _ => exact fj_okM_81
    | 82, _ => exact fj_okM_82
    | 83, _ => exact fj_okM_83
    | 84, _ => exact fj_okM_84
    | 85, _ => exact fj_okM_85
    | 86, _ => exact fj_okM_86
    | 87, _ => exact fj_okM_87
    | 88, _ => exact fj_okM_88
    | 89, _ => exact fj_okM_89
    | 90, _ => exact fj_okM_90
    | 91, _ => exact fj_okM_91
    | 92, _ => exact fj_okM_92
    | 93, _ => exact fj_okM_93
    | 94, _ => exact fj_okM_94
    | 95, _ => exact fj_okM_95
    | 96, _ => exact fj_okM_96
    | 97, _ => exact fj_okM_97
    | 98, _ => exact fj_okM_98
    | 99, _ => exact fj_okM_99
    | 100, _ => exact fj_okM_100
    | 101, _ => exact fj_okM_101
    | 102, _ => exact fj_okM_102
    | 103, _ => exact fj_okM_103
    | 104, _ => exact fj_okM_104
    | 105, _ => exact fj_okM_105
    | 106, _ => exact fj_okM_106
    | 107, _ => exact fj_okM_107
    | 108, _ => exact fj_okM_108
    | 109, _ => exact fj_okM_109
    | 110, _ => exact fj_okM_110
    | 111, _ => exact fj_okM_111
    | 112, _ => exact fj_okM_112
    | 113, _ => exact fj_okM_113
    | 114, _ => exact fj_okM_114
    | 115, _ => exact fj_okM_115
    | 116, _ => exact fj_okM_116
    | 117, _ => exact fj_okM_117
    | 118, _ => exact fj_okM_118
    | 119, _ => exact fj_okM_119
    | 120, _ => exact fj_okM_120
    | 121, _ => exact fj_okM_121
    | 122, _ => exact fj_okM_122
    | 123, _ => exact fj_okM_123
    | 124, _ => exact fj_okM_124
    | 125, _ => exact fj_okM_125
    | 126, _ => exact fj_okM_126
    | 127, _ => exact fj_okM_127
    | 128, _ => exact fj_okM_128
    | 129, _ => exact fj_okM_129
    | 130, _ => exact fj_okM_130
    | 131, _ => exact fj_okM_131
    | 132, _ => exact fj_okM_132
    | 133, _ => exact fj_okM_133
    | 134, _ => exact fj_okM_134
    | 135, _ => exact fj_okM_135
    | 136, _ => exact fj_okM_136
    | 137, _ => exact fj_okM_137
    | 138, _ => exact fj_okM_138
    | 139, _ => exact fj_okM_139
    | 140, _ => exact fj_okM_140
    | 141, _ => exact fj_okM_141
    | 142, _ => exact fj_okM_142
    | 143, _ => exact fj_okM_143
    | 144, _ => exact fj_okM_144
    | 145, _ => exact fj_okM_145
    | 146, _ => exact fj_okM_146
    | 147, _ => exact fj_okM_147
    | 148, _ => exact fj_okM_148
    | 149, _ => exact fj_okM_149
    | 150, _ => exact fj_okM_150
    | 151, _ => exact fj_okM_151
    | 152, _ => exact fj_okM_152
    | 153, _ => exact fj_okM_153
    | 154, _ => exact fj_okM_154
    | 155, _ => exact fj_okM_155
    | 156, _ => exact fj_okM_156
    | 157, _ => exact fj_okM_157
    | 158, _ => exact fj_okM_158
    | 159, _ => exact fj_okM_159
    | 160, _ => exact fj_okM_160
    | 161, _ => exact fj_okM_161
    | 162, _ => exact fj_okM_162
    | 163, _ => exact fj_okM_163
    | 164, _ => exact fj_okM_164
    | 165, _ => exact fj_okM_165
    | n + 166, h => exact absurd (Nat.le_add_left _ _) h
theorem fj_okI_of {y pc : Nat} {ai : fj_AI} (h : fj_cd y pc = some ai) : fj_okI y pc ai = true := List.all_eq_true.mp (fj_okM_all y) (pc, ai) (fj_lookup_mem h)
theorem fj_okY_of {y : Nat} (h : y < 165) : fj_okY y = true := List.all_eq_true.mp fj_okY_all y (List.mem_range.mpr h)
set_option maxRecDepth 100000 in
theorem fj_kw_0 : lw_tbl[149]? = some (.code (fj_yn 0) (fj_bc 0) (fj_ml 0) (fj_rt 0)) := by rfl
set_option maxRecDepth 100000 in
theorem fj_kw_1 : lw_tbl[457]? = some (.code (fj_yn 1) (fj_bc 1) (fj_ml 1) (fj_rt 1)) := by rfl
set_option maxRecDepth 100000 in
theorem fj_kw_2 : lw_tbl[461]? = some (.code (fj_yn 2) (fj_bc 2) (fj_ml 2) (fj_rt 2)) := by rfl
set_option maxRecDepth 100000 in
theorem fj_kw_3 : lw_tbl[93]? = some (.code (fj_yn 3) (fj_bc 3) (fj_ml 3) (fj_rt 3)) := by rfl
set_option maxRecDepth 100000 in
theorem fj_kw_4 : lw_tbl[536]? = some (.code (fj_yn 4) (fj_bc 4) (fj_ml 4) (fj_rt 4)) := by rfl
set_option maxRecDepth 100000 in
theorem fj_kw_5 : lw_tbl[548]? = some (.code (fj_yn 5) (fj_bc 5) (fj_ml 5) (fj_rt 5)) := by rfl
set_option maxRecDepth 100000 in
theorem fj_kw_6 : lw_tbl[562]? = some (.code (fj_yn 6) (fj_bc 6) (fj_ml 6) (fj_rt 6)) := by rfl
set_option maxRecDepth 100000 in
theorem fj_kw_7 : lw_tbl[552]? = some (.code (fj_yn 7) (fj_bc 7) (fj_ml 7) (fj_rt 7)) := by rfl
set_option maxRecDepth 100000 in
theorem fj_kw_8 : lw_tbl[168]? = some (.code (fj_yn 8) (fj_bc 8) (fj_ml 8) (fj_rt 8)) := by rfl
set_option maxRecDepth 100000 in
theorem fj_kw_9 : lw_tbl[474]? = some (.code (fj_yn 9) (fj_bc 9) (fj_ml 9) (fj_rt 9)) := by rfl
set_option maxRecDepth 100000 in
theorem fj_kw_10 : lw_tbl[518]? = some (.code (fj_yn 10) (fj_bc 10) (fj_ml 10) (fj_rt 10)) := by rfl
set_option maxRecDepth 100000 in
theorem fj_kw_11 : lw_tbl[478]? = some (.code (fj_yn 11) (fj_bc 11) (fj_ml 11) (fj_rt 11)) := by rfl
set_option maxRecDepth 100000 in
theorem fj_kw_12 : lw_tbl[495]? = some (.code (fj_yn 12) (fj_bc 12) (fj_ml 12) (fj_rt 12)) := by rfl
set_option maxRecDepth 100000 in
theorem fj_kw_13 : lw_tbl[482]? = some (.code (fj_yn 13) (fj_bc 13) (fj_ml 13) (fj_rt 13)) := by rfl
set_option maxRecDepth 100000 in
theorem fj_kw_14 : lw_tbl[488]? = some (.code (fj_yn 14) (fj_bc 14) (fj_ml 14) (fj_rt 14)) := by rfl
set_option maxRecDepth 100000 in
theorem fj_kw_15 : lw_tbl[499]? = some (.code (fj_yn 15) (fj_bc 15) (fj_ml 15) (fj_rt 15)) := by rfl
set_option maxRecDepth 100000 in
theorem fj_kw_16 : lw_tbl[506]? = some (.code (fj_yn 16) (fj_bc 16) (fj_ml 16) (fj_rt 16)) := by rfl
set_option maxRecDepth 100000 in
theorem fj_kw_17 : lw_tbl[510]? = some (.code (fj_yn 17) (fj_bc 17) (fj_ml 17) (fj_rt 17)) := by rfl
set_option maxRecDepth 100000 in
theorem fj_kw_18 : lw_tbl[76]? = some (.code (fj_yn 18) (fj_bc 18) (fj_ml 18) (fj_rt 18)) := by rfl
set_option maxRecDepth 100000 in
theorem fj_kw_19 : lw_tbl[289]? = some (.code (fj_yn 19) (fj_bc 19) (fj_ml 19) (fj_rt 19)) := by rfl
set_option maxRecDepth 100000 in
theorem fj_kw_20 : lw_tbl[292]? = some (.code (fj_yn 20) (fj_bc 20) (fj_ml 20) (fj_rt 20)) := by rfl
set_option maxRecDepth 100000 in
theorem fj_kw_21 : lw_tbl[300]? = some (.code (fj_yn 21) (fj_bc 21) (fj_ml 21) (fj_rt 21)) := by rfl
set_option maxRecDepth 100000 in
theorem fj_kw_22 : lw_tbl[617]? = some (.code (fj_yn 22) (fj_bc 22) (fj_ml 22) (fj_rt 22)) := by rfl
set_option maxRecDepth 100000 in
theorem fj_kw_23 : lw_tbl[296]? = some (.code (fj_yn 23) (fj_bc 23) (fj_ml 23) (fj_rt 23)) := by rfl
set_option maxRecDepth 100000 in
theorem fj_kw_24 : lw_tbl[597]? = some (.code (fj_yn 24) (fj_bc 24) (fj_ml 24) (fj_rt 24)) := by rfl
set_option maxRecDepth 100000 in
theorem fj_kw_25 : lw_tbl[308]? = some (.code (fj_yn 25) (fj_bc 25) (fj_ml 25) (fj_rt 25)) := by rfl
set_option maxRecDepth 100000 in
theorem fj_kw_26 : lw_tbl[580]? = some (.code (fj_yn 26) (fj_bc 26) (fj_ml 26) (fj_rt 26)) := by rfl
set_option maxRecDepth 100000 in
theorem fj_kw_27 : lw_tbl[589]? = some (.code (fj_yn 27) (fj_bc 27) (fj_ml 27) (fj_rt 27)) := by rfl
set_option maxRecDepth 100000 in
theorem fj_kw_28 : lw_tbl[316]? = some (.code (fj_yn 28) (fj_bc 28) (fj_ml 28) (fj_rt 28)) := by rfl
set_option maxRecDepth 100000 in
theorem fj_kw_29 : lw_tbl[601]? = some (.code (fj_yn 29) (fj_bc 29) (fj_ml 29) (fj_rt 29)) := by rfl
set_option maxRecDepth 100000 in
theorem fj_kw_30 : lw_tbl[604]? = some (.code (fj_yn 30) (fj_bc 30) (fj_ml 30) (fj_rt 30)) := by rfl
set_option maxRecDepth 100000 in
theorem fj_kw_31 : lw_tbl[621]? = some (.code (fj_yn 31) (fj_bc 31) (fj_ml 31) (fj_rt 31)) := by rfl
set_option maxRecDepth 100000 in
theorem fj_kw_32 : lw_tbl[312]? = some (.code (fj_yn 32) (fj_bc 32) (fj_ml 32) (fj_rt 32)) := by rfl
set_option maxRecDepth 100000 in
theorem fj_kw_33 : lw_tbl[114]? = some (.code (fj_yn 33) (fj_bc 33) (fj_ml 33) (fj_rt 33)) := by rfl
set_option maxRecDepth 100000 in
theorem fj_kw_34 : lw_tbl[431]? = some (.code (fj_yn 34) (fj_bc 34) (fj_ml 34) (fj_rt 34)) := by rfl
set_option maxRecDepth 100000 in
theorem fj_kw_35 : lw_tbl[444]? = some (.code (fj_yn 35) (fj_bc 35) (fj_ml 35) (fj_rt 35)) := by rfl
set_option maxRecDepth 100000 in
theorem fj_kw_36 : lw_tbl[435]? = some (.code (fj_yn 36) (fj_bc 36) (fj_ml 36) (fj_rt 36)) := by rfl
set_option maxRecDepth 100000 in
theorem fj_kw_37 : lw_tbl[439]? = some (.code (fj_yn 37) (fj_bc 37) (fj_ml 37) (fj_rt 37)) := by rfl
set_option maxRecDepth 100000 in
theorem fj_kw_38 : lw_tbl[448]? = some (.code (fj_yn 38) (fj_bc 38) (fj_ml 38) (fj_rt 38)) := by rfl
set_option maxRecDepth 100000 in
theorem fj_kw_39 : lw_tbl[184]? = some (.code (fj_yn 39) (fj_bc 39) (fj_ml 39) (fj_rt 39)) := by rfl
set_option maxRecDepth 100000 in
theorem fj_kw_40 : lw_tbl[392]? = some (.code (fj_yn 40) (fj_bc 40) (fj_ml 40) (fj_rt 40)) := by rfl
set_option maxRecDepth 100000 in
theorem fj_kw_41 : lw_tbl[358]? = some (.code (fj_yn 41) (fj_bc 41) (fj_ml 41) (fj_rt 41)) := by rfl
set_option maxRecDepth 100000 in
theorem fj_kw_42 : lw_tbl[366]? = some (.code (fj_yn 42) (fj_bc 42) (fj_ml 42) (fj_rt 42)) := by rfl
set_option maxRecDepth 100000 in
theorem fj_kw_43 : lw_tbl[373]? = some (.code (fj_yn 43) (fj_bc 43) (fj_ml 43) (fj_rt 43)) := by rfl
set_option maxRecDepth 100000 in
theorem fj_kw_44 : lw_tbl[324]? = some (.code (fj_yn 44) (fj_bc 44) (fj_ml 44) (fj_rt 44)) := by rfl
set_option maxRecDepth 100000 in
theorem fj_kw_45 : lw_tbl[328]? = some (.code (fj_yn 45) (fj_bc 45) (fj_ml 45) (fj_rt 45)) := by rfl
set_option maxRecDepth 100000 in
theorem fj_kw_46 : lw_tbl[331]? = some (.code (fj_yn 46) (fj_bc 46) (fj_ml 46) (fj_rt 46)) := by rfl
set_option maxRecDepth 100000 in
theorem fj_kw_47 : lw_tbl[335]? = some (.code (fj_yn 47) (fj_bc 47) (fj_ml 47) (fj_rt 47)) := by rfl
set_option maxRecDepth 100000 in
theorem fj_kw_48 : lw_tbl[342]? = some (.code (fj_yn 48) (fj_bc 48) (fj_ml 48) (fj_rt 48)) := by rfl
set_option maxRecDepth 100000 in
theorem fj_kw_49 : lw_tbl[339]? = some (.code (fj_yn 49) (fj_bc 49) (fj_ml 49) (fj_rt 49)) := by rfl
set_option maxRecDepth 100000 in
theorem fj_kw_50 : lw_tbl[346]? = some (.code (fj_yn 50) (fj_bc 50) (fj_ml 50) (fj_rt 50)) := by rfl
set_option maxRecDepth 100000 in
theorem fj_kw_51 : lw_tbl[350]? = some (.code (fj_yn 51) (fj_bc 51) (fj_ml 51) (fj_rt 51)) := by rfl
set_option maxRecDepth 100000 in
theorem fj_kw_52 : lw_tbl[381]? = some (.code (fj_yn 52) (fj_bc 52) (fj_ml 52) (fj_rt 52)) := by rfl
set_option maxRecDepth 100000 in
theorem fj_kw_53 : lw_tbl[369]? = some (.code (fj_yn 53) (fj_bc 53) (fj_ml 53) (fj_rt 53)) := by rfl
set_option maxRecDepth 100000 in
theorem fj_kw_54 : lw_tbl[408]? = some (.code (fj_yn 54) (fj_bc 54) (fj_ml 54) (fj_rt 54)) := by rfl
set_option maxRecDepth 100000 in
theorem fj_kw_55 : lw_tbl[422]? = some (.code (fj_yn 55) (fj_bc 55) (fj_ml 55) (fj_rt 55)) := by rfl
set_option maxRecDepth 100000 in
theorem fj_kw_56 : lw_tbl[427]? = some (.code (fj_yn 56) (fj_bc 56) (fj_ml 56) (fj_rt 56)) := by rfl
set_option maxRecDepth 100000 in
theorem fj_kw_57 : lw_tbl[68]? = some (.code (fj_yn 57) (fj_bc 57) (fj_ml 57) (fj_rt 57)) := by rfl
set_option maxRecDepth 100000 in
theorem fj_kw_58 : lw_tbl[286]? = some (.code (fj_yn 58) (fj_bc 58) (fj_ml 58) (fj_rt 58)) := by rfl
set_option maxRecDepth 100000 in
theorem fj_kw_59 : lw_tbl[320]? = some (.code (fj_yn 59) (fj_bc 59) (fj_ml 59) (fj_rt 59)) := by rfl
set_option maxRecDepth 100000 in
theorem fj_kw_60 : lw_tbl[354]? = some (.code (fj_yn 60) (fj_bc 60) (fj_ml 60) (fj_rt 60)) := by rfl
set_option maxRecDepth 100000 in
theorem fj_kw_61 : lw_tbl[362]? = some (.code (fj_yn 61) (fj_bc 61) (fj_ml 61) (fj_rt 61)) := by rfl
set_option maxRecDepth 100000 in
theorem fj_kw_62 : lw_tbl[377]? = some (.code (fj_yn 62) (fj_bc 62) (fj_ml 62) (fj_rt 62)) := by rfl
set_option maxRecDepth 100000 in
theorem fj_kw_63 : lw_tbl[388]? = some (.code (fj_yn 63) (fj_bc 63) (fj_ml 63) (fj_rt 63)) := by rfl
set_option maxRecDepth 100000 in
theorem fj_kw_64 : lw_tbl[396]? = some (.code (fj_yn 64) (fj_bc 64) (fj_ml 64) (fj_rt 64)) := by rfl
set_option maxRecDepth 100000 in
theorem fj_kw_65 : lw_tbl[400]? = some (.code (fj_yn 65) (fj_bc 65) (fj_ml 65) (fj_rt 65)) := by rfl
set_option maxRecDepth 100000 in
theorem fj_kw_66 : lw_tbl[404]? = some (.code (fj_yn 66) (fj_bc 66) (fj_ml 66) (fj_rt 66)) := by rfl
set_option maxRecDepth 100000 in
theorem fj_kw_67 : lw_tbl[414]? = some (.code (fj_yn 67) (fj_bc 67) (fj_ml 67) (fj_rt 67)) := by rfl
set_option maxRecDepth 100000 in
theorem fj_kw_68 : lw_tbl[418]? = some (.code (fj_yn 68) (fj_bc 68) (fj_ml 68) (fj_rt 68)) := by rfl
set_option maxRecDepth 100000 in
theorem fj_kw_69 : lw_tbl[453]? = some (.code (fj_yn 69) (fj_bc 69) (fj_ml 69) (fj_rt 69)) := by rfl
set_option maxRecDepth 100000 in
theorem fj_kw_70 : lw_tbl[466]? = some (.code (fj_yn 70) (fj_bc 70) (fj_ml 70) (fj_rt 70)) := by rfl
set_option maxRecDepth 100000 in
theorem fj_kw_71 : lw_tbl[470]? = some (.code (fj_yn 71) (fj_bc 71) (fj_ml 71) (fj_rt 71)) := by rfl
set_option maxRecDepth 100000 in
theorem fj_kw_72 : lw_tbl[514]? = some (.code (fj_yn 72) (fj_bc 72) (fj_ml 72) (fj_rt 72)) := by rfl
set_option maxRecDepth 100000 in
theorem fj_kw_73 : lw_tbl[528]? = some (.code (fj_yn 73) (fj_bc 73) (fj_ml 73) (fj_rt 73)) := by rfl
set_option maxRecDepth 100000 in
theorem fj_kw_74 : lw_tbl[532]? = some (.code (fj_yn 74) (fj_bc 74) (fj_ml 74) (fj_rt 74)) := by rfl
set_option maxRecDepth 100000 in
theorem fj_kw_75 : lw_tbl[540]? = some (.code (fj_yn 75) (fj_bc 75) (fj_ml 75) (fj_rt 75)) := by rfl
set_option maxRecDepth 100000 in
theorem fj_kw_76 : lw_tbl[544]? = some (.code (fj_yn 76) (fj_bc 76) (fj_ml 76) (fj_rt 76)) := by rfl
set_option maxRecDepth 100000 in
theorem fj_kw_77 : lw_tbl[558]? = some (.code (fj_yn 77) (fj_bc 77) (fj_ml 77) (fj_rt 77)) := by rfl
set_option maxRecDepth 100000 in
theorem fj_kw_78 : lw_tbl[566]? = some (.code (fj_yn 78) (fj_bc 78) (fj_ml 78) (fj_rt 78)) := by rfl
set_option maxRecDepth 100000 in
theorem fj_kw_79 : lw_tbl[570]? = some (.code (fj_yn 79) (fj_bc 79) (fj_ml 79) (fj_rt 79)) := by rfl
set_option maxRecDepth 100000 in
theorem fj_kw_80 : lw_tbl[576]? = some (.code (fj_yn 80) (fj_bc 80) (fj_ml 80) (fj_rt 80)) := by rfl
set_option maxRecDepth 100000 in
theorem fj_kw_81 : lw_tbl[584]? = some (.code (fj_yn 81) (fj_bc 81) (fj_ml 81) (fj_rt 81)) := by rfl
set_option maxRecDepth 100000 in
theorem fj_kw_82 : lw_tbl[593]? = some (.code (fj_yn 82) (fj_bc 82) (fj_ml 82) (fj_rt 82)) := by rfl
set_option maxRecDepth 100000 in
theorem fj_kw_83 : lw_tbl[608]? = some (.code (fj_yn 83) (fj_bc 83) (fj_ml 83) (fj_rt 83)) := by rfl
set_option maxRecDepth 100000 in
theorem fj_kw_84 : lw_tbl[613]? = some (.code (fj_yn 84) (fj_bc 84) (fj_ml 84) (fj_rt 84)) := by rfl
set_option maxRecDepth 100000 in
theorem fj_kw_85 : lw_tbl[628]? = some (.code (fj_yn 85) (fj_bc 85) (fj_ml 85) (fj_rt 85)) := by rfl
set_option maxRecDepth 100000 in
theorem fj_kw_86 : lw_tbl[644]? = some (.code (fj_yn 86) (fj_bc 86) (fj_ml 86) (fj_rt 86)) := by rfl
set_option maxRecDepth 100000 in
theorem fj_kw_87 : lw_tbl[640]? = some (.code (fj_yn 87) (fj_bc 87) (fj_ml 87) (fj_rt 87)) := by rfl
set_option maxRecDepth 100000 in
theorem fj_kw_88 : lw_tbl[632]? = some (.code (fj_yn 88) (fj_bc 88) (fj_ml 88) (fj_rt 88)) := by rfl
set_option maxRecDepth 100000 in
theorem fj_kw_89 : lw_tbl[648]? = some (.code (fj_yn 89) (fj_bc 89) (fj_ml 89) (fj_rt 89)) := by rfl
set_option maxRecDepth 100000 in
theorem fj_kw_90 : lw_tbl[636]? = some (.code (fj_yn 90) (fj_bc 90) (fj_ml 90) (fj_rt 90)) := by rfl
set_option maxRecDepth 100000 in
theorem fj_kw_91 : lw_tbl[652]? = some (.code (fj_yn 91) (fj_bc 91) (fj_ml 91) (fj_rt 91)) := by rfl
set_option maxRecDepth 100000 in
theorem fj_kw_92 : lw_tbl[656]? = some (.code (fj_yn 92) (fj_bc 92) (fj_ml 92) (fj_rt 92)) := by rfl
set_option maxRecDepth 100000 in
theorem fj_kw_93 : lw_tbl[660]? = some (.code (fj_yn 93) (fj_bc 93) (fj_ml 93) (fj_rt 93)) := by rfl
set_option maxRecDepth 100000 in
theorem fj_kw_94 : lw_tbl[664]? = some (.code (fj_yn 94) (fj_bc 94) (fj_ml 94) (fj_rt 94)) := by rfl
set_option maxRecDepth 100000 in
theorem fj_kw_95 : lw_tbl[304]? = some (.code (fj_yn 95) (fj_bc 95) (fj_ml 95) (fj_rt 95)) := by rfl
set_option maxRecDepth 100000 in
theorem fj_kw_96 : lw_tbl[669]? = some (.code (fj_yn 96) (fj_bc 96) (fj_ml 96) (fj_rt 96)) := by rfl
set_option maxRecDepth 100000 in
theorem fj_kw_97 : lw_tbl[805]? = some (.code (fj_yn 97) (fj_bc 97) (fj_ml 97) (fj_rt 97)) := by rfl
set_option maxRecDepth 100000 in
theorem fj_kw_98 : lw_tbl[998]? = some (.code (fj_yn 98) (fj_bc 98) (fj_ml 98) (fj_rt 98)) := by rfl
set_option maxRecDepth 100000 in
theorem fj_kw_99 : lw_tbl[864]? = some (.code (fj_yn 99) (fj_bc 99) (fj_ml 99) (fj_rt 99)) := by rfl
set_option maxRecDepth 100000 in
theorem fj_kw_100 : lw_tbl[963]? = some (.code (fj_yn 100) (fj_bc 100) (fj_ml 100) (fj_rt 100)) := by rfl
set_option maxRecDepth 100000 in
theorem fj_kw_101 : lw_tbl[1002]? = some (.code (fj_yn 101) (fj_bc 101) (fj_ml 101) (fj_rt 101)) := by rfl
set_option maxRecDepth 100000 in
theorem fj_kw_102 : lw_tbl[809]? = some (.code (fj_yn 102) (fj_bc 102) (fj_ml 102) (fj_rt 102)) := by rfl
set_option maxRecDepth 100000 in
theorem fj_kw_103 : lw_tbl[818]? = some (.code (fj_yn 103) (fj_bc 103) (fj_ml 103) (fj_rt 103)) := by rfl
set_option maxRecDepth 100000 in
theorem fj_kw_104 : lw_tbl[1026]? = some (.code (fj_yn 104) (fj_bc 104) (fj_ml 104) (fj_rt 104)) := by rfl
set_option maxRecDepth 100000 in
theorem fj_kw_105 : lw_tbl[849]? = some (.code (fj_yn 105) (fj_bc 105) (fj_ml 105) (fj_rt 105)) := by rfl
set_option maxRecDepth 100000 in
theorem fj_kw_106 : lw_tbl[857]? = some (.code (fj_yn 106) (fj_bc 106) (fj_ml 106) (fj_rt 106)) := by rfl
set_option maxRecDepth 100000 in
theorem fj_kw_107 : lw_tbl[894]? = some (.code (fj_yn 107) (fj_bc 107) (fj_ml 107) (fj_rt 107)) := by rfl
set_option maxRecDepth 100000 in
theorem fj_kw_108 : lw_tbl[829]? = some (.code (fj_yn 108) (fj_bc 108) (fj_ml 108) (fj_rt 108)) := by rfl
set_option maxRecDepth 100000 in
theorem fj_kw_109 : lw_tbl[833]? = some (.code (fj_yn 109) (fj_bc 109) (fj_ml 109) (fj_rt 109)) := by rfl
set_option maxRecDepth 100000 in
theorem fj_kw_110 : lw_tbl[841]? = some (.code (fj_yn 110) (fj_bc 110) (fj_ml 110) (fj_rt 110)) := by rfl
set_option maxRecDepth 100000 in
theorem fj_kw_111 : lw_tbl[837]? = some (.code (fj_yn 111) (fj_bc 111) (fj_ml 111) (fj_rt 111)) := by rfl
set_option maxRecDepth 100000 in
theorem fj_kw_112 : lw_tbl[825]? = some (.code (fj_yn 112) (fj_bc 112) (fj_ml 112) (fj_rt 112)) := by rfl
set_option maxRecDepth 100000 in
theorem fj_kw_113 : lw_tbl[814]? = some (.code (fj_yn 113) (fj_bc 113) (fj_ml 113) (fj_rt 113)) := by rfl
set_option maxRecDepth 100000 in
theorem fj_kw_114 : lw_tbl[798]? = some (.code (fj_yn 114) (fj_bc 114) (fj_ml 114) (fj_rt 114)) := by rfl
set_option maxRecDepth 100000 in
theorem fj_kw_115 : lw_tbl[845]? = some (.code (fj_yn 115) (fj_bc 115) (fj_ml 115) (fj_rt 115)) := by rfl
set_option maxRecDepth 100000 in
theorem fj_kw_116 : lw_tbl[861]? = some (.code (fj_yn 116) (fj_bc 116) (fj_ml 116) (fj_rt 116)) := by rfl
set_option maxRecDepth 100000 in
theorem fj_kw_117 : lw_tbl[853]? = some (.code (fj_yn 117) (fj_bc 117) (fj_ml 117) (fj_rt 117)) := by rfl
set_option maxRecDepth 100000 in
theorem fj_kw_118 : lw_tbl[872]? = some (.code (fj_yn 118) (fj_bc 118) (fj_ml 118) (fj_rt 118)) := by rfl
set_option maxRecDepth 100000 in
theorem fj_kw_119 : lw_tbl[868]? = some (.code (fj_yn 119) (fj_bc 119) (fj_ml 119) (fj_rt 119)) := by rfl
set_option maxRecDepth 100000 in
theorem fj_kw_120 : lw_tbl[876]? = some (.code (fj_yn 120) (fj_bc 120) (fj_ml 120) (fj_rt 120)) := by rfl
set_option maxRecDepth 100000 in
theorem fj_kw_121 : lw_tbl[881]? = some (.code (fj_yn 121) (fj_bc 121) (fj_ml 121) (fj_rt 121)) := by rfl
set_option maxRecDepth 100000 in
theorem fj_kw_122 : lw_tbl[886]? = some (.code (fj_yn 122) (fj_bc 122) (fj_ml 122) (fj_rt 122)) := by rfl
set_option maxRecDepth 100000 in
theorem fj_kw_123 : lw_tbl[898]? = some (.code (fj_yn 123) (fj_bc 123) (fj_ml 123) (fj_rt 123)) := by rfl
set_option maxRecDepth 100000 in
theorem fj_kw_124 : lw_tbl[890]? = some (.code (fj_yn 124) (fj_bc 124) (fj_ml 124) (fj_rt 124)) := by rfl
set_option maxRecDepth 100000 in
theorem fj_kw_125 : lw_tbl[912]? = some (.code (fj_yn 125) (fj_bc 125) (fj_ml 125) (fj_rt 125)) := by rfl
set_option maxRecDepth 100000 in
theorem fj_kw_126 : lw_tbl[916]? = some (.code (fj_yn 126) (fj_bc 126) (fj_ml 126) (fj_rt 126)) := by rfl
set_option maxRecDepth 100000 in
theorem fj_kw_127 : lw_tbl[907]? = some (.code (fj_yn 127) (fj_bc 127) (fj_ml 127) (fj_rt 127)) := by rfl
set_option maxRecDepth 100000 in
theorem fj_kw_128 : lw_tbl[902]? = some (.code (fj_yn 128) (fj_bc 128) (fj_ml 128) (fj_rt 128)) := by rfl
set_option maxRecDepth 100000 in
theorem fj_kw_129 : lw_tbl[924]? = some (.code (fj_yn 129) (fj_bc 129) (fj_ml 129) (fj_rt 129)) := by rfl
set_option maxRecDepth 100000 in
theorem fj_kw_130 : lw_tbl[920]? = some (.code (fj_yn 130) (fj_bc 130) (fj_ml 130) (fj_rt 130)) := by rfl
set_option maxRecDepth 100000 in
theorem fj_kw_131 : lw_tbl[928]? = some (.code (fj_yn 131) (fj_bc 131) (fj_ml 131) (fj_rt 131)) := by rfl
set_option maxRecDepth 100000 in
theorem fj_kw_132 : lw_tbl[952]? = some (.code (fj_yn 132) (fj_bc 132) (fj_ml 132) (fj_rt 132)) := by rfl
set_option maxRecDepth 100000 in
theorem fj_kw_133 : lw_tbl[944]? = some (.code (fj_yn 133) (fj_bc 133) (fj_ml 133) (fj_rt 133)) := by rfl
set_option maxRecDepth 100000 in
theorem fj_kw_134 : lw_tbl[948]? = some (.code (fj_yn 134) (fj_bc 134) (fj_ml 134) (fj_rt 134)) := by rfl
set_option maxRecDepth 100000 in
theorem fj_kw_135 : lw_tbl[940]? = some (.code (fj_yn 135) (fj_bc 135) (fj_ml 135) (fj_rt 135)) := by rfl
set_option maxRecDepth 100000 in
theorem fj_kw_136 : lw_tbl[956]? = some (.code (fj_yn 136) (fj_bc 136) (fj_ml 136) (fj_rt 136)) := by rfl
set_option maxRecDepth 100000 in
theorem fj_kw_137 : lw_tbl[936]? = some (.code (fj_yn 137) (fj_bc 137) (fj_ml 137) (fj_rt 137)) := by rfl
set_option maxRecDepth 100000 in
theorem fj_kw_138 : lw_tbl[932]? = some (.code (fj_yn 138) (fj_bc 138) (fj_ml 138) (fj_rt 138)) := by rfl
set_option maxRecDepth 100000 in
theorem fj_kw_139 : lw_tbl[960]? = some (.code (fj_yn 139) (fj_bc 139) (fj_ml 139) (fj_rt 139)) := by rfl
set_option maxRecDepth 100000 in
theorem fj_kw_140 : lw_tbl[967]? = some (.code (fj_yn 140) (fj_bc 140) (fj_ml 140) (fj_rt 140)) := by rfl
set_option maxRecDepth 100000 in
theorem fj_kw_141 : lw_tbl[971]? = some (.code (fj_yn 141) (fj_bc 141) (fj_ml 141) (fj_rt 141)) := by rfl
set_option maxRecDepth 100000 in
theorem fj_kw_142 : lw_tbl[975]? = some (.code (fj_yn 142) (fj_bc 142) (fj_ml 142) (fj_rt 142)) := by rfl
set_option maxRecDepth 100000 in
theorem fj_kw_143 : lw_tbl[983]? = some (.code (fj_yn 143) (fj_bc 143) (fj_ml 143) (fj_rt 143)) := by rfl
set_option maxRecDepth 100000 in
theorem fj_kw_144 : lw_tbl[979]? = some (.code (fj_yn 144) (fj_bc 144) (fj_ml 144) (fj_rt 144)) := by rfl
set_option maxRecDepth 100000 in
theorem fj_kw_145 : lw_tbl[987]? = some (.code (fj_yn 145) (fj_bc 145) (fj_ml 145) (fj_rt 145)) := by rfl
set_option maxRecDepth 100000 in
theorem fj_kw_146 : lw_tbl[991]? = some (.code (fj_yn 146) (fj_bc 146) (fj_ml 146) (fj_rt 146)) := by rfl
set_option maxRecDepth 100000 in
theorem fj_kw_147 : lw_tbl[995]? = some (.code (fj_yn 147) (fj_bc 147) (fj_ml 147) (fj_rt 147)) := by rfl
set_option maxRecDepth 100000 in
theorem fj_kw_148 : lw_tbl[801]? = some (.code (fj_yn 148) (fj_bc 148) (fj_ml 148) (fj_rt 148)) := by rfl
set_option maxRecDepth 100000 in
theorem fj_kw_149 : lw_tbl[1006]? = some (.code (fj_yn 149) (fj_bc 149) (fj_ml 149) (fj_rt 149)) := by rfl
set_option maxRecDepth 100000 in
theorem fj_kw_150 : lw_tbl[1010]? = some (.code (fj_yn 150) (fj_bc 150) (fj_ml 150) (fj_rt 150)) := by rfl
set_option maxRecDepth 100000 in
theorem fj_kw_151 : lw_tbl[1018]? = some (.code (fj_yn 151) (fj_bc 151) (fj_ml 151) (fj_rt 151)) := by rfl
set_option maxRecDepth 100000 in
theorem fj_kw_152 : lw_tbl[1014]? = some (.code (fj_yn 152) (fj_bc 152) (fj_ml 152) (fj_rt 152)) := by rfl
set_option maxRecDepth 100000 in
theorem fj_kw_153 : lw_tbl[1022]? = some (.code (fj_yn 153) (fj_bc 153) (fj_ml 153) (fj_rt 153)) := by rfl
set_option maxRecDepth 100000 in
theorem fj_kw_154 : lw_tbl[821]? = some (.code (fj_yn 154) (fj_bc 154) (fj_ml 154) (fj_rt 154)) := by rfl
set_option maxRecDepth 100000 in
theorem fj_kw_155 : lw_tbl[1030]? = some (.code (fj_yn 155) (fj_bc 155) (fj_ml 155) (fj_rt 155)) := by rfl
set_option maxRecDepth 100000 in
theorem fj_kw_156 : lw_tbl[1038]? = some (.code (fj_yn 156) (fj_bc 156) (fj_ml 156) (fj_rt 156)) := by rfl
set_option maxRecDepth 100000 in
theorem fj_kw_157 : lw_tbl[1034]? = some (.code (fj_yn 157) (fj_bc 157) (fj_ml 157) (fj_rt 157)) := by rfl
set_option maxRecDepth 100000 in
theorem fj_kw_158 : lw_tbl[1042]? = some (.code (fj_yn 158) (fj_bc 158) (fj_ml 158) (fj_rt 158)) := by rfl
set_option maxRecDepth 100000 in
theorem fj_kw_159 : lw_tbl[1046]? = some (.code (fj_yn 159) (fj_bc 159) (fj_ml 159) (fj_rt 159)) := by rfl
set_option maxRecDepth 100000 in
theorem fj_kw_160 : lw_tbl[1050]? = some (.code (fj_yn 160) (fj_bc 160) (fj_ml 160) (fj_rt 160)) := by rfl
set_option maxRecDepth 100000 in
theorem fj_kw_161 : lw_tbl[1054]? = some (.code (fj_yn 161) (fj_bc 161) (fj_ml 161) (fj_rt 161)) := by rfl
set_option maxRecDepth 100000 in
theorem fj_kw_162 : lw_tbl[1058]? = some (.code (fj_yn 162) (fj_bc 162) (fj_ml 162) (fj_rt 162)) := by rfl
set_option maxRecDepth 100000 in
theorem fj_kw_163 : lw_tbl[521]? = some (.code (fj_yn 163) (fj_bc 163) (fj_ml 163) (fj_rt 163)) := by rfl
set_option maxRecDepth 100000 in
theorem fj_kw_164 : lw_tbl[502]? = some (.code (fj_yn 164) (fj_bc 164) (fj_ml 164) (fj_rt 164)) := by rfl
theorem fj_code_in {y : Nat} (h : y < 165) : Cond.code (fj_yn y) (fj_bc y) (fj_ml y) (fj_rt y) ∈ fj_T := by
  refine List.mem_filter.mpr ⟨?_, rfl⟩
  match y, h with
  | 0, _ => exact List.mem_of_getElem? fj_kw_0
  | 1, _ => exact List.mem_of_getElem? fj_kw_1
  | 2, _ => exact List.mem_of_getElem? fj_kw_2
  | 3, _ => exact List.mem_of_getElem? fj_kw_3
  | 4, _ => exact List.mem_of_getElem? fj_kw_4
  | 5, _ => exact List.mem_of_getElem? fj_kw_5
  | 6, _ => exact List.mem_of_getElem? fj_kw_6
  | 7, _ => exact List.mem_of_getElem? fj_kw_7
  | 8, _ => exact List.mem_of_getElem? fj_kw_8
  | 9, _ => exact List.mem_of_getElem? fj_kw_9
  | 10, _ => exact List.mem_of_getElem? fj_kw_10
  | 11, _ => exact List.mem_of_getElem? fj_kw_11
  | 12, _ => exact List.mem_of_getElem? fj_kw_12
  | 13, _ => exact List.mem_of_getElem? fj_kw_13
  | 14, _ => exact List.mem_of_getElem? fj_kw_14
  | 15, _ => exact List.mem_of_getElem? fj_kw_15
  | 16, _ => exact List.mem_of_getElem? fj_kw_16
  | 17, _ => exact List.mem_of_getElem? fj_kw_17
  | 18, _ => exact List.mem_of_getElem? fj_kw_18
  | 19, _ => exact List.mem_of_getElem? fj_kw_19
  | 20, _ => exact List.mem_of_getElem? fj_kw_20
  | 21, _ => exact List.mem_of_getElem? fj_kw_21
  | 22, _ => exact List.mem_of_getElem? fj_kw_22
  | 23, _ => exact List.mem_of_getElem? fj_kw_23
  | 24, _ => exact List.mem_of_getElem? fj_kw_24
  | 25, _ => exact List.mem_of_getElem? fj_kw_25
  | 26, _ => exact List.mem_of_getElem? fj_kw_26
  | 27, _ => exact List.mem_of_getElem? fj_kw_27
  | 28, _ => exact List.mem_of_getElem? fj_kw_28
  | 29, _ => exact List.mem_of_getElem? fj_kw_29
  | 30, _ => exact List.mem_of_getElem? fj_kw_30
  | 31, _ => exact List.mem_of_getElem? fj_kw_31
  | 32, _ => exact List.mem_of_getElem? fj_kw_32
  | 33, _ => exact List.mem_of_getElem? fj_kw_33
  | 34, _ => exact List.mem_of_getElem? fj_kw_34
  | 35, _ => exact List.mem_of_getElem? fj_kw_35
  | 36, _ => exact List.mem_of_getElem? fj_kw_36
  | 37, _ => exact List.mem_of_getElem? fj_kw_37
  | 38, _ => exact List.mem_of_getElem? fj_kw_38
  | 39, _ => exact List.mem_of_getElem? fj_kw_39
  | 40, _ => exact List.mem_of_getElem? fj_kw_40
  | 41, _ => exact List.mem_of_getElem? fj_kw_41
  | 42, _ => exact List.mem_of_getElem? fj_kw_42
  | 43, _ => exact List.mem_of_getElem? fj_kw_43
  | 44, _ => exact List.mem_of_getElem? fj_kw_44
  | 45, _ => exact List.mem_of_getElem? fj_kw_45
  | 46, _ => exact List.mem_of_getElem? fj_kw_46
  | 47, _ => exact List.mem_of_getElem? fj_kw_47
  | 48, _ => exact List.mem_of_getElem? fj_kw_48
  | 49, _ => exact List.mem_of_getElem? fj_kw_49
  | 50, _ => exact List.mem_of_getElem? fj_kw_50
  | 51, _ => exact List.mem_of_getElem? fj_kw_51
  | 52, _ => exact List.mem_of_getElem? fj_kw_52
  | 53, _ => exact List.mem_of_getElem? fj_kw_53
  | 54, _ => exact List.mem_of_getElem? fj_kw_54
  | 55, _ => exact List.mem_of_getElem? fj_kw_55
  | 56, _ => exact List.mem_of_getElem? fj_kw_56
  | 57, _ => exact List.mem_of_getElem? fj_kw_57
  | 58, _ => exact List.mem_of_getElem? fj_kw_58
  | 59, _ => exact List.mem_of_getElem? fj_kw_59
  | 60, _ => exact List.mem_of_getElem? fj_kw_60
  | 61, _ => exact List.mem_of_getElem? fj_kw_61
  | 62, _ => exact List.mem_of_getElem? fj_kw_62
  | 63, _ => exact List.mem_of_getElem? fj_kw_63
  | 64, _ => exact List.mem_of_getElem? fj_kw_64
  | 65, _ => exact List.mem_of_getElem? fj_kw_65
  | 66, _ => exact List.mem_of_getElem? fj_kw_66
  | 67, _ => exact List.mem_of_getElem? fj_kw_67
  | 68, _ => exact List.mem_of_getElem? fj_kw_68
  | 69, _ => exact List.mem_of_getElem? fj_kw_69
  | 70, _ => exact List.mem_of_getElem? fj_kw_70
  | 71, _ => exact List.mem_of_getElem? fj_kw_71
  | 72, _ => exact List.mem_of_getElem? fj_kw_72
  | 73, _ => exact List.mem_of_getElem? fj_kw_73
  | 74, _ => exact List.mem_of_getElem? fj_kw_74
  | 75, _ => exact List.mem_of_getElem? fj_kw_75
  | 76, _ => exact List.mem_of_getElem? fj_kw_76
  | 77, _ => exact List.mem_of_getElem? fj_kw_77
  | 78, _ => exact List.mem_of_getElem? fj_kw_78
  | 79, _ => exact List.mem_of_getElem? fj_kw_79
  | 80, _ => exact List.mem_of_getElem? fj_kw_80
  | 81, _ => exact List.mem_of_getElem? fj_kw_81
  | 82, _ => exact List.mem_of_getElem? fj_kw_82
  | 83, _ => exact List.mem_of_getElem? fj_kw_83
  | 84, _ => exact List.mem_of_getElem? fj_kw_84
  | 85, _ => exact List.mem_of_getElem? fj_kw_85
  | 86, _ => exact List.mem_of_getElem? fj_kw_86
  | 87, _ => exact List.mem_of_getElem? fj_kw_87
  | 88, _ => exact List.mem_of_getElem? fj_kw_88
  | 89, _ => exact List.mem_of_getElem? fj_kw_89
  | 90, _ => exact List.mem_of_getElem? fj_kw_90
  | 91, _ => exact List.mem_of_getElem? fj_kw_91
  | 92, _ => exact List.mem_of_getElem? fj_kw_92
  | 93, _ => exact List.mem_of_getElem? fj_kw_93
  | 94, _ => exact List.mem_of_getElem? fj_kw_94
  | 95, _ => exact List.mem_of_getElem? fj_kw_95
  | 96, _ => exact List.mem_of_getElem? fj_kw_96
  | 97, _ => exact List.mem_of_getElem? fj_kw_97
  | 98, _ => exact List.mem_of_getElem? fj_kw_98
  | 99, _ => exact List.mem_of_getElem? fj_kw_99
  | 100, _ => exact List.mem_of_getElem? fj_kw_100
  | 101, _ => exact List.mem_of_getElem? fj_kw_101
  | 102, _ => exact List.mem_of_getElem? fj_kw_102
  | 103, _ => exact List.mem_of_getElem? fj_kw_103
  | 104, _ => exact List.mem_of_getElem? fj_kw_104
  | 105, _ => exact List.mem_of_getElem? fj_kw_105
  | 106, _ => exact List.mem_of_getElem? fj_kw_106
  | 107, _ => exact List.mem_of_getElem? fj_kw_107
  | 108, _ => exact List.mem_of_getElem? fj_kw_108
  | 109, _ => exact List.mem_of_getElem? fj_kw_109
  | 110, _ => exact List.mem_of_getElem? fj_kw_110
  | 111, _ => exact List.mem_of_getElem? fj_kw_111
  | 112, _ => exact List.mem_of_getElem? fj_kw_112
  | 113, _ => exact List.mem_of_getElem? fj_kw_113
  | 114, _ => exact List.mem_of_getElem? fj_kw_114
  | 115, _ => exact List.mem_of_getElem? fj_kw_115
  | 116, _ => exact List.mem_of_getElem? fj_kw_116
  | 117, _ => exact List.mem_of_getElem? fj_kw_117
  | 118, _ => exact List.mem_of_getElem? fj_kw_118
  | 119, _ => exact List.mem_of_getElem? fj_kw_119
  | 120, _ => exact List.mem_of_getElem? fj_kw_120
  | 121, _ => exact List.mem_of_getElem? fj_kw_121
  | 122, _ => exact List.mem_of_getElem? fj_kw_122
  | 123, _ => exact List.mem_of_getElem? fj_kw_123
  | 124, _ => exact List.mem_of_getElem? fj_kw_124
  | 125, _ => exact List.mem_of_getElem? fj_kw_125
  | 126, _ => exact List.mem_of_getElem? fj_kw_126
  | 127, _ => exact List.mem_of_getElem? fj_kw_127
  | 128, _ => exact List.mem_of_getElem? fj_kw_128
  | 129, _ => exact List.mem_of_getElem? fj_kw_129
  | 130, _ => exact List.mem_of_getElem? fj_kw_130
  | 131, _ => exact List.mem_of_getElem? fj_kw_131
  | 132, _ => exact List.mem_of_getElem? fj_kw_132
  | 133, _ => exact List.mem_of_getElem? fj_kw_133
  | 134, _ => exact List.mem_of_getElem? fj_kw_134
  | 135, _ => exact List.mem_of_getElem? fj_kw_135
  | 136, _ => exact List.mem_of_getElem? fj_kw_136
  | 137, _ => exact List.mem_of_getElem? fj_kw_137
  | 138, _ => exact List.mem_of_getElem? fj_kw_138
  | 139, _ => exact List.mem_of_getElem? fj_kw_139
  | 140, _ => exact List.mem_of_getElem? fj_kw_140
  | 141, _ => exact List.mem_of_getElem? fj_kw_141
  | 142, _ => exact List.mem_of_getElem? fj_kw_142
  | 143, _ => exact List.mem_of_getElem? fj_kw_143
  | 144, _ => exact List.mem_of_getElem? fj_kw_144
  | 145, _ => exact List.mem_of_getElem? fj_kw_145
  | 146, _ => exact List.mem_of_getElem? fj_kw_146
  | 147, _ => exact List.mem_of_getElem? fj_kw_147
  | 148, _ => exact List.mem_of_getElem? fj_kw_148
  | 149, _ => exact List.mem_of_getElem? fj_kw_149
  | 150, _ => exact List.mem_of_getElem? fj_kw_150
  | 151, _ => exact List.mem_of_getElem? fj_kw_151
  | 152, _ => exact List.mem_of_getElem? fj_kw_152
  | 153, _ => exact List.mem_of_getElem? fj_kw_153
  | 154, _ => exact List.mem_of_getElem? fj_kw_154
  | 155, _ => exact List.mem_of_getElem? fj_kw_155
  | 156, _ => exact List.mem_of_getElem? fj_kw_156
  | 157, _ => exact List.mem_of_getElem? fj_kw_157
  | 158, _ => exact List.mem_of_getElem? fj_kw_158
  | 159, _ => exact List.mem_of_getElem? fj_kw_159
  | 160, _ => exact List.mem_of_getElem? fj_kw_160
  | 161, _ => exact List.mem_of_getElem? fj_kw_161
  | 162, _ => exact List.mem_of_getElem? fj_kw_162
  | 163, _ => exact List.mem_of_getElem? fj_kw_163
  | 164, _ => exact List.mem_of_getElem? fj_kw_164
  | n + 165, h => exact absurd h (Nat.not_lt.mpr (Nat.le_add_left _ _))
