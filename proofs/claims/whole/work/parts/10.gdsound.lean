set_option maxRecDepth 20000 in
theorem gd_io : ∀ M, M < 176 → ab_Iok gd_I uw M := by
  have h0 : ∀ a, a < 0 → ab_Iok gd_I uw a := lt_0
  have h1 : ∀ a, a < 1 → ab_Iok gd_I uw a := lt_s h0 io_0
  have h2 : ∀ a, a < 2 → ab_Iok gd_I uw a := lt_s h1 io_1
  have h3 : ∀ a, a < 3 → ab_Iok gd_I uw a := lt_s h2 io_2
  have h4 : ∀ a, a < 4 → ab_Iok gd_I uw a := lt_s h3 io_3
  have h5 : ∀ a, a < 5 → ab_Iok gd_I uw a := lt_s h4 io_4
  have h6 : ∀ a, a < 6 → ab_Iok gd_I uw a := lt_s h5 io_5
  have h7 : ∀ a, a < 7 → ab_Iok gd_I uw a := lt_s h6 io_6
  have h8 : ∀ a, a < 8 → ab_Iok gd_I uw a := lt_s h7 io_7
  have h9 : ∀ a, a < 9 → ab_Iok gd_I uw a := lt_s h8 io_8
  have h10 : ∀ a, a < 10 → ab_Iok gd_I uw a := lt_s h9 io_9
  have h11 : ∀ a, a < 11 → ab_Iok gd_I uw a := lt_s h10 io_10
  have h12 : ∀ a, a < 12 → ab_Iok gd_I uw a := lt_s h11 io_11
  have h13 : ∀ a, a < 13 → ab_Iok gd_I uw a := lt_s h12 io_12
  have h14 : ∀ a, a < 14 → ab_Iok gd_I uw a := lt_s h13 io_13
  have h15 : ∀ a, a < 15 → ab_Iok gd_I uw a := lt_s h14 io_14
  have h16 : ∀ a, a < 16 → ab_Iok gd_I uw a := lt_s h15 io_15
  have h17 : ∀ a, a < 17 → ab_Iok gd_I uw a := lt_s h16 io_16
  have h18 : ∀ a, a < 18 → ab_Iok gd_I uw a := lt_s h17 io_17
  have h19 : ∀ a, a < 19 → ab_Iok gd_I uw a := lt_s h18 io_18
  have h20 : ∀ a, a < 20 → ab_Iok gd_I uw a := lt_s h19 io_19
  have h21 : ∀ a, a < 21 → ab_Iok gd_I uw a := lt_s h20 io_20
  have h22 : ∀ a, a < 22 → ab_Iok gd_I uw a := lt_s h21 io_21
  have h23 : ∀ a, a < 23 → ab_Iok gd_I uw a := lt_s h22 io_22
  have h24 : ∀ a, a < 24 → ab_Iok gd_I uw a := lt_s h23 io_23
  have h25 : ∀ a, a < 25 → ab_Iok gd_I uw a := lt_s h24 io_24
  have h26 : ∀ a, a < 26 → ab_Iok gd_I uw a := lt_s h25 io_25
  have h27 : ∀ a, a < 27 → ab_Iok gd_I uw a := lt_s h26 io_26
  have h28 : ∀ a, a < 28 → ab_Iok gd_I uw a := lt_s h27 io_27
  have h29 : ∀ a, a < 29 → ab_Iok gd_I uw a := lt_s h28 io_28
  have h30 : ∀ a, a < 30 → ab_Iok gd_I uw a := lt_s h29 io_29
  have h31 : ∀ a, a < 31 → ab_Iok gd_I uw a := lt_s h30 io_30
  have h32 : ∀ a, a < 32 → ab_Iok gd_I uw a := lt_s h31 io_31
  have h33 : ∀ a, a < 33 → ab_Iok gd_I uw a := lt_s h32 io_32
  have h34 : ∀ a, a < 34 → ab_Iok gd_I uw a := lt_s h33 io_33
  have h35 : ∀ a, a < 35 → ab_Iok gd_I uw a := lt_s h34 io_34
  have h36 : ∀ a, a < 36 → ab_Iok gd_I uw a := lt_s h35 io_35
  have h37 : ∀ a, a < 37 → ab_Iok gd_I uw a := lt_s h36 io_36
  have h38 : ∀ a, a < 38 → ab_Iok gd_I uw a := lt_s h37 io_37
  have h39 : ∀ a, a < 39 → ab_Iok gd_I uw a := lt_s h38 io_38
  have h40 : ∀ a, a < 40 → ab_Iok gd_I uw a := lt_s h39 io_39
  have h41 : ∀ a, a < 41 → ab_Iok gd_I uw a := lt_s h40 io_40
  have h42 : ∀ a, a < 42 → ab_Iok gd_I uw a := lt_s h41 io_41
  have h43 : ∀ a, a < 43 → ab_Iok gd_I uw a := lt_s h42 io_42
  have h44 : ∀ a, a < 44 → ab_Iok gd_I uw a := lt_s h43 io_43
  have h45 : ∀ a, a < 45 → ab_Iok gd_I uw a := lt_s h44 io_44
  have h46 : ∀ a, a < 46 → ab_Iok gd_I uw a := lt_s h45 io_45
  have h47 : ∀ a, a < 47 → ab_Iok gd_I uw a := lt_s h46 io_46
  have h48 : ∀ a, a < 48 → ab_Iok gd_I uw a := lt_s h47 io_47
  have h49 : ∀ a, a < 49 → ab_Iok gd_I uw a := lt_s h48 io_48
  have h50 : ∀ a, a < 50 → ab_Iok gd_I uw a := lt_s h49 io_49
  have h51 : ∀ a, a < 51 → ab_Iok gd_I uw a := lt_s h50 io_50
  have h52 : ∀ a, a < 52 → ab_Iok gd_I uw a := lt_s h51 io_51
  have h53 : ∀ a, a < 53 → ab_Iok gd_I uw a := lt_s h52 io_52
  have h54 : ∀ a, a < 54 → ab_Iok gd_I uw a := lt_s h53 io_53
  have h55 : ∀ a, a < 55 → ab_Iok gd_I uw a := lt_s h54 io_54
  have h56 : ∀ a, a < 56 → ab_Iok gd_I uw a := lt_s h55 io_55
  have h57 : ∀ a, a < 57 → ab_Iok gd_I uw a := lt_s h56 io_56
  have h58 : ∀ a, a < 58 → ab_Iok gd_I uw a := lt_s h57 io_57
  have h59 : ∀ a, a < 59 → ab_Iok gd_I uw a := lt_s h58 io_58
  have h60 : ∀ a, a < 60 → ab_Iok gd_I uw a := lt_s h59 io_59
  have h61 : ∀ a, a < 61 → ab_Iok gd_I uw a := lt_s h60 io_60
  have h62 : ∀ a, a < 62 → ab_Iok gd_I uw a := lt_s h61 io_61
  have h63 : ∀ a, a < 63 → ab_Iok gd_I uw a := lt_s h62 io_62
  have h64 : ∀ a, a < 64 → ab_Iok gd_I uw a := lt_s h63 io_63
  have h65 : ∀ a, a < 65 → ab_Iok gd_I uw a := lt_s h64 io_64
  have h66 : ∀ a, a < 66 → ab_Iok gd_I uw a := lt_s h65 io_65
  have h67 : ∀ a, a < 67 → ab_Iok gd_I uw a := lt_s h66 io_66
  have h68 : ∀ a, a < 68 → ab_Iok gd_I uw a := lt_s h67 io_67
  have h69 : ∀ a, a < 69 → ab_Iok gd_I uw a := lt_s h68 io_68
  have h70 : ∀ a, a < 70 → ab_Iok gd_I uw a := lt_s h69 io_69
  have h71 : ∀ a, a < 71 → ab_Iok gd_I uw a := lt_s h70 io_70
  have h72 : ∀ a, a < 72 → ab_Iok gd_I uw a := lt_s h71 io_71
  have h73 : ∀ a, a < 73 → ab_Iok gd_I uw a := lt_s h72 io_72
  have h74 : ∀ a, a < 74 → ab_Iok gd_I uw a := lt_s h73 io_73
  have h75 : ∀ a, a < 75 → ab_Iok gd_I uw a := lt_s h74 io_74
  have h76 : ∀ a, a < 76 → ab_Iok gd_I uw a := lt_s h75 io_75
  have h77 : ∀ a, a < 77 → ab_Iok gd_I uw a := lt_s h76 io_76
  have h78 : ∀ a, a < 78 → ab_Iok gd_I uw a := lt_s h77 io_77
  have h79 : ∀ a, a < 79 → ab_Iok gd_I uw a := lt_s h78 io_78
  have h80 : ∀ a, a < 80 → ab_Iok gd_I uw a := lt_s h79 io_79
  have h81 : ∀ a, a < 81 → ab_Iok gd_I uw a := lt_s h80 io_80
  have h82 : ∀ a, a < 82 → ab_Iok gd_I uw a := lt_s h81 io_81
  have h83 : ∀ a, a < 83 → ab_Iok gd_I uw a := lt_s h82 io_82
  have h84 : ∀ a, a < 84 → ab_Iok gd_I uw a := lt_s h83 io_83
  have h85 : ∀ a, a < 85 → ab_Iok gd_I uw a := lt_s h84 io_84
  have h86 : ∀ a, a < 86 → ab_Iok gd_I uw a := lt_s h85 io_85
  have h87 : ∀ a, a < 87 → ab_Iok gd_I uw a := lt_s h86 io_86
  have h88 : ∀ a, a < 88 → ab_Iok gd_I uw a := lt_s h87 io_87
  have h89 : ∀ a, a < 89 → ab_Iok gd_I uw a := lt_s h88 io_88
  have h90 : ∀ a, a < 90 → ab_Iok gd_I uw a := lt_s h89 io_89
  have h91 : ∀ a, a < 91 → ab_Iok gd_I uw a := lt_s h90 io_90
  have h92 : ∀ a, a < 92 → ab_Iok gd_I uw a := lt_s h91 io_91
  have h93 : ∀ a, a < 93 → ab_Iok gd_I uw a := lt_s h92 io_92
  have h94 : ∀ a, a < 94 → ab_Iok gd_I uw a := lt_s h93 io_93
  have h95 : ∀ a, a < 95 → ab_Iok gd_I uw a := lt_s h94 io_94
  have h96 : ∀ a, a < 96 → ab_Iok gd_I uw a := lt_s h95 io_95
  have h97 : ∀ a, a < 97 → ab_Iok gd_I uw a := lt_s h96 io_96
  have h98 : ∀ a, a < 98 → ab_Iok gd_I uw a := lt_s h97 io_97
  have h99 : ∀ a, a < 99 → ab_Iok gd_I uw a := lt_s h98 io_98
  have h100 : ∀ a, a < 100 → ab_Iok gd_I uw a := lt_s h99 io_99
  have h101 : ∀ a, a < 101 → ab_Iok gd_I uw a := lt_s h100 io_100
  have h102 : ∀ a, a < 102 → ab_Iok gd_I uw a := lt_s h101 io_101
  have h103 : ∀ a, a < 103 → ab_Iok gd_I uw a := lt_s h102 io_102
  have h104 : ∀ a, a < 104 → ab_Iok gd_I uw a := lt_s h103 io_103
  have h105 : ∀ a, a < 105 → ab_Iok gd_I uw a := lt_s h104 io_104
  have h106 : ∀ a, a < 106 → ab_Iok gd_I uw a := lt_s h105 io_105
  have h107 : ∀ a, a < 107 → ab_Iok gd_I uw a := lt_s h106 io_106
  have h108 : ∀ a, a < 108 → ab_Iok gd_I uw a := lt_s h107 io_107
  have h109 : ∀ a, a < 109 → ab_Iok gd_I uw a := lt_s h108 io_108
  have h110 : ∀ a, a < 110 → ab_Iok gd_I uw a := lt_s h109 io_109
  have h111 : ∀ a, a < 111 → ab_Iok gd_I uw a := lt_s h110 io_110
  have h112 : ∀ a, a < 112 → ab_Iok gd_I uw a := lt_s h111 io_111
  have h113 : ∀ a, a < 113 → ab_Iok gd_I uw a := lt_s h112 io_112
  have h114 : ∀ a, a < 114 → ab_Iok gd_I uw a := lt_s h113 io_113
  have h115 : ∀ a, a < 115 → ab_Iok gd_I uw a := lt_s h114 io_114
  have h116 : ∀ a, a < 116 → ab_Iok gd_I uw a := lt_s h115 io_115
  have h117 : ∀ a, a < 117 → ab_Iok gd_I uw a := lt_s h116 io_116
  have h118 : ∀ a, a < 118 → ab_Iok gd_I uw a := lt_s h117 io_117
  have h119 : ∀ a, a < 119 → ab_Iok gd_I uw a := lt_s h118 io_118
  have h120 : ∀ a, a < 120 → ab_Iok gd_I uw a := lt_s h119 io_119
  have h121 : ∀ a, a < 121 → ab_Iok gd_I uw a := lt_s h120 io_120
  have h122 : ∀ a, a < 122 → ab_Iok gd_I uw a := lt_s h121 io_121
  have h123 : ∀ a, a < 123 → ab_Iok gd_I uw a := lt_s h122 io_122
  have h124 : ∀ a, a < 124 → ab_Iok gd_I uw a := lt_s h123 io_123
  have h125 : ∀ a, a < 125 → ab_Iok gd_I uw a := lt_s h124 io_124
  have h126 : ∀ a, a < 126 → ab_Iok gd_I uw a := lt_s h125 io_125
  have h127 : ∀ a, a < 127 → ab_Iok gd_I uw a := lt_s h126 io_126
  have h128 : ∀ a, a < 128 → ab_Iok gd_I uw a := lt_s h127 io_127
  have h129 : ∀ a, a < 129 → ab_Iok gd_I uw a := lt_s h128 io_128
  have h130 : ∀ a, a < 130 → ab_Iok gd_I uw a := lt_s h129 io_129
  have h131 : ∀ a, a < 131 → ab_Iok gd_I uw a := lt_s h130 io_130
  have h132 : ∀ a, a < 132 → ab_Iok gd_I uw a := lt_s h131 io_131
  have h133 : ∀ a, a < 133 → ab_Iok gd_I uw a := lt_s h132 io_132
  have h134 : ∀ a, a < 134 → ab_Iok gd_I uw a := lt_s h133 io_133
  have h135 : ∀ a, a < 135 → ab_Iok gd_I uw a := lt_s h134 io_134
  have h136 : ∀ a, a < 136 → ab_Iok gd_I uw a := lt_s h135 io_135
  have h137 : ∀ a, a < 137 → ab_Iok gd_I uw a := lt_s h136 io_136
  have h138 : ∀ a, a < 138 → ab_Iok gd_I uw a := lt_s h137 io_137
  have h139 : ∀ a, a < 139 → ab_Iok gd_I uw a := lt_s h138 io_138
  have h140 : ∀ a, a < 140 → ab_Iok gd_I uw a := lt_s h139 io_139
  have h141 : ∀ a, a < 141 → ab_Iok gd_I uw a := lt_s h140 io_140
  have h142 : ∀ a, a < 142 → ab_Iok gd_I uw a := lt_s h141 io_141
  have h143 : ∀ a, a < 143 → ab_Iok gd_I uw a := lt_s h142 io_142
  have h144 : ∀ a, a < 144 → ab_Iok gd_I uw a := lt_s h143 io_143
  have h145 : ∀ a, a < 145 → ab_Iok gd_I uw a := lt_s h144 io_144
  have h146 : ∀ a, a < 146 → ab_Iok gd_I uw a := lt_s h145 io_145
  have h147 : ∀ a, a < 147 → ab_Iok gd_I uw a := lt_s h146 io_146
  have h148 : ∀ a, a < 148 → ab_Iok gd_I uw a := lt_s h147 io_147
  have h149 : ∀ a, a < 149 → ab_Iok gd_I uw a := lt_s h148 io_148
  have h150 : ∀ a, a < 150 → ab_Iok gd_I uw a := lt_s h149 io_149
  have h151 : ∀ a, a < 151 → ab_Iok gd_I uw a := lt_s h150 io_150
  have h152 : ∀ a, a < 152 → ab_Iok gd_I uw a := lt_s h151 io_151
  have h153 : ∀ a, a < 153 → ab_Iok gd_I uw a := lt_s h152 io_152
  have h154 : ∀ a, a < 154 → ab_Iok gd_I uw a := lt_s h153 io_153
  have h155 : ∀ a, a < 155 → ab_Iok gd_I uw a := lt_s h154 io_154
  have h156 : ∀ a, a < 156 → ab_Iok gd_I uw a := lt_s h155 io_155
  have h157 : ∀ a, a < 157 → ab_Iok gd_I uw a := lt_s h156 io_156
  have h158 : ∀ a, a < 158 → ab_Iok gd_I uw a := lt_s h157 io_157
  have h159 : ∀ a, a < 159 → ab_Iok gd_I uw a := lt_s h158 io_158
  have h160 : ∀ a, a < 160 → ab_Iok gd_I uw a := lt_s h159 io_159
  have h161 : ∀ a, a < 161 → ab_Iok gd_I uw a := lt_s h160 io_160
  have h162 : ∀ a, a < 162 → ab_Iok gd_I uw a := lt_s h161 io_161
  have h163 : ∀ a, a < 163 → ab_Iok gd_I uw a := lt_s h162 io_162
  have h164 : ∀ a, a < 164 → ab_Iok gd_I uw a := lt_s h163 io_163
  have h165 : ∀ a, a < 165 → ab_Iok gd_I uw a := lt_s h164 io_164
  have h166 : ∀ a, a < 166 → ab_Iok gd_I uw a := lt_s h165 io_165
  have h167 : ∀ a, a < 167 → ab_Iok gd_I uw a := lt_s h166 io_166
  have h168 : ∀ a, a < 168 → ab_Iok gd_I uw a := lt_s h167 io_167
  have h169 : ∀ a, a < 169 → ab_Iok gd_I uw a := lt_s h168 io_168
  have h170 : ∀ a, a < 170 → ab_Iok gd_I uw a := lt_s h169 io_169
  have h171 : ∀ a, a < 171 → ab_Iok gd_I uw a := lt_s h170 io_170
  have h172 : ∀ a, a < 172 → ab_Iok gd_I uw a := lt_s h171 io_171
  have h173 : ∀ a, a < 173 → ab_Iok gd_I uw a := lt_s h172 io_172
  have h174 : ∀ a, a < 174 → ab_Iok gd_I uw a := lt_s h173 io_173
  have h175 : ∀ a, a < 175 → ab_Iok gd_I uw a := lt_s h174 io_174
  have h176 : ∀ a, a < 176 → ab_Iok gd_I uw a := lt_s h175 io_175
  exact h176
set_option maxRecDepth 20000 in
set_option maxHeartbeats 1000000 in
theorem gd_ok {l : Launch} {D : va_G} {cy : Nat → ClassId} {adS : Nat → Nat} : ∀ a, a < 176 → (a ≠ 25 ∧ a ≠ 173) → ∀ pc, ab_Ok l gd_I gd_lay gd_N gd_mv vwCl D cy adS (gd_X adS) a pc (gd_code a pc) := by
  have h0 : ∀ a, a < 0 → (a ≠ 25 ∧ a ≠ 173) → ∀ pc, ab_Ok l gd_I gd_lay gd_N gd_mv vwCl D cy adS (gd_X adS) a pc (gd_code a pc) := lt_0
  have h1 : ∀ a, a < 1 → (a ≠ 25 ∧ a ≠ 173) → ∀ pc, ab_Ok l gd_I gd_lay gd_N gd_mv vwCl D cy adS (gd_X adS) a pc (gd_code a pc) := lt_s h0 (fun _ => ok_0)
  have h2 : ∀ a, a < 2 → (a ≠ 25 ∧ a ≠ 173) → ∀ pc, ab_Ok l gd_I gd_lay gd_N gd_mv vwCl D cy adS (gd_X adS) a pc (gd_code a pc) := lt_s h1 (fun _ => ok_1)
  have h3 : ∀ a, a < 3 → (a ≠ 25 ∧ a ≠ 173) → ∀ pc, ab_Ok l gd_I gd_lay gd_N gd_mv vwCl D cy adS (gd_X adS) a pc (gd_code a pc) := lt_s h2 (fun _ => ok_2)
  have h4 : ∀ a, a < 4 → (a ≠ 25 ∧ a ≠ 173) → ∀ pc, ab_Ok l gd_I gd_lay gd_N gd_mv vwCl D cy adS (gd_X adS) a pc (gd_code a pc) := lt_s h3 (fun _ => ok_3)
  have h5 : ∀ a, a < 5 → (a ≠ 25 ∧ a ≠ 173) → ∀ pc, ab_Ok l gd_I gd_lay gd_N gd_mv vwCl D cy adS (gd_X adS) a pc (gd_code a pc) := lt_s h4 (fun _ => ok_4)
  have h6 : ∀ a, a < 6 → (a ≠ 25 ∧ a ≠ 173) → ∀ pc, ab_Ok l gd_I gd_lay gd_N gd_mv vwCl D cy adS (gd_X adS) a pc (gd_code a pc) := lt_s h5 (fun _ => ok_5)
  have h7 : ∀ a, a < 7 → (a ≠ 25 ∧ a ≠ 173) → ∀ pc, ab_Ok l gd_I gd_lay gd_N gd_mv vwCl D cy adS (gd_X adS) a pc (gd_code a pc) := lt_s h6 (fun _ => ok_6)
  have h8 : ∀ a, a < 8 → (a ≠ 25 ∧ a ≠ 173) → ∀ pc, ab_Ok l gd_I gd_lay gd_N gd_mv vwCl D cy adS (gd_X adS) a pc (gd_code a pc) := lt_s h7 (fun _ => ok_7)
  have h9 : ∀ a, a < 9 → (a ≠ 25 ∧ a ≠ 173) → ∀ pc, ab_Ok l gd_I gd_lay gd_N gd_mv vwCl D cy adS (gd_X adS) a pc (gd_code a pc) := lt_s h8 (fun _ => ok_8)
  have h10 : ∀ a, a < 10 → (a ≠ 25 ∧ a ≠ 173) → ∀ pc, ab_Ok l gd_I gd_lay gd_N gd_mv vwCl D cy adS (gd_X adS) a pc (gd_code a pc) := lt_s h9 (fun _ => ok_9)
  have h11 : ∀ a, a < 11 → (a ≠ 25 ∧ a ≠ 173) → ∀ pc, ab_Ok l gd_I gd_lay gd_N gd_mv vwCl D cy adS (gd_X adS) a pc (gd_code a pc) := lt_s h10 (fun _ => ok_10)
  have h12 : ∀ a, a < 12 → (a ≠ 25 ∧ a ≠ 173) → ∀ pc, ab_Ok l gd_I gd_lay gd_N gd_mv vwCl D cy adS (gd_X adS) a pc (gd_code a pc) := lt_s h11 (fun _ => ok_11)
  have h13 : ∀ a, a < 13 → (a ≠ 25 ∧ a ≠ 173) → ∀ pc, ab_Ok l gd_I gd_lay gd_N gd_mv vwCl D cy adS (gd_X adS) a pc (gd_code a pc) := lt_s h12 (fun _ => ok_12)
  have h14 : ∀ a, a < 14 → (a ≠ 25 ∧ a ≠ 173) → ∀ pc, ab_Ok l gd_I gd_lay gd_N gd_mv vwCl D cy adS (gd_X adS) a pc (gd_code a pc) := lt_s h13 (fun _ => ok_13)
  have h15 : ∀ a, a < 15 → (a ≠ 25 ∧ a ≠ 173) → ∀ pc, ab_Ok l gd_I gd_lay gd_N gd_mv vwCl D cy adS (gd_X adS) a pc (gd_code a pc) := lt_s h14 (fun _ => ok_14)
  have h16 : ∀ a, a < 16 → (a ≠ 25 ∧ a ≠ 173) → ∀ pc, ab_Ok l gd_I gd_lay gd_N gd_mv vwCl D cy adS (gd_X adS) a pc (gd_code a pc) := lt_s h15 (fun _ => ok_15)
  have h17 : ∀ a, a < 17 → (a ≠ 25 ∧ a ≠ 173) → ∀ pc, ab_Ok l gd_I gd_lay gd_N gd_mv vwCl D cy adS (gd_X adS) a pc (gd_code a pc) := lt_s h16 (fun _ => ok_16)
  have h18 : ∀ a, a < 18 → (a ≠ 25 ∧ a ≠ 173) → ∀ pc, ab_Ok l gd_I gd_lay gd_N gd_mv vwCl D cy adS (gd_X adS) a pc (gd_code a pc) := lt_s h17 (fun _ => ok_17)
  have h19 : ∀ a, a < 19 → (a ≠ 25 ∧ a ≠ 173) → ∀ pc, ab_Ok l gd_I gd_lay gd_N gd_mv vwCl D cy adS (gd_X adS) a pc (gd_code a pc) := lt_s h18 (fun _ => ok_18)
  have h20 : ∀ a, a < 20 → (a ≠ 25 ∧ a ≠ 173) → ∀ pc, ab_Ok l gd_I gd_lay gd_N gd_mv vwCl D cy adS (gd_X adS) a pc (gd_code a pc) := lt_s h19 (fun _ => ok_19)
  have h21 : ∀ a, a < 21 → (a ≠ 25 ∧ a ≠ 173) → ∀ pc, ab_Ok l gd_I gd_lay gd_N gd_mv vwCl D cy adS (gd_X adS) a pc (gd_code a pc) := lt_s h20 (fun _ => ok_20)
  have h22 : ∀ a, a < 22 → (a ≠ 25 ∧ a ≠ 173) → ∀ pc, ab_Ok l gd_I gd_lay gd_N gd_mv vwCl D cy adS (gd_X adS) a pc (gd_code a pc) := lt_s h21 (fun _ => ok_21)
  have h23 : ∀ a, a < 23 → (a ≠ 25 ∧ a ≠ 173) → ∀ pc, ab_Ok l gd_I gd_lay gd_N gd_mv vwCl D cy adS (gd_X adS) a pc (gd_code a pc) := lt_s h22 (fun _ => ok_22)
  have h24 : ∀ a, a < 24 → (a ≠ 25 ∧ a ≠ 173) → ∀ pc, ab_Ok l gd_I gd_lay gd_N gd_mv vwCl D cy adS (gd_X adS) a pc (gd_code a pc) := lt_s h23 (fun _ => ok_23)
  have h25 : ∀ a, a < 25 → (a ≠ 25 ∧ a ≠ 173) → ∀ pc, ab_Ok l gd_I gd_lay gd_N gd_mv vwCl D cy adS (gd_X adS) a pc (gd_code a pc) := lt_s h24 (fun _ => ok_24)
  have h26 : ∀ a, a < 26 → (a ≠ 25 ∧ a ≠ 173) → ∀ pc, ab_Ok l gd_I gd_lay gd_N gd_mv vwCl D cy adS (gd_X adS) a pc (gd_code a pc) := lt_s h25 (fun h => absurd rfl h.1)
  have h27 : ∀ a, a < 27 → (a ≠ 25 ∧ a ≠ 173) → ∀ pc, ab_Ok l gd_I gd_lay gd_N gd_mv vwCl D cy adS (gd_X adS) a pc (gd_code a pc) := lt_s h26 (fun _ => ok_26)
  have h28 : ∀ a, a < 28 → (a ≠ 25 ∧ a ≠ 173) → ∀ pc, ab_Ok l gd_I gd_lay gd_N gd_mv vwCl D cy adS (gd_X adS) a pc (gd_code a pc) := lt_s h27 (fun _ => ok_27)
  have h29 : ∀ a, a < 29 → (a ≠ 25 ∧ a ≠ 173) → ∀ pc, ab_Ok l gd_I gd_lay gd_N gd_mv vwCl D cy adS (gd_X adS) a pc (gd_code a pc) := lt_s h28 (fun _ => ok_28)
  have h30 : ∀ a, a < 30 → (a ≠ 25 ∧ a ≠ 173) → ∀ pc, ab_Ok l gd_I gd_lay gd_N gd_mv vwCl D cy adS (gd_X adS) a pc (gd_code a pc) := lt_s h29 (fun _ => ok_29)
  have h31 : ∀ a, a < 31 → (a ≠ 25 ∧ a ≠ 173) → ∀ pc, ab_Ok l gd_I gd_lay gd_N gd_mv vwCl D cy adS (gd_X adS) a pc (gd_code a pc) := lt_s h30 (fun _ => ok_30)
  have h32 : ∀ a, a < 32 → (a ≠ 25 ∧ a ≠ 173) → ∀ pc, ab_Ok l gd_I gd_lay gd_N gd_mv vwCl D cy adS (gd_X adS) a pc (gd_code a pc) := lt_s h31 (fun _ => ok_31)
  have h33 : ∀ a, a < 33 → (a ≠ 25 ∧ a ≠ 173) → ∀ pc, ab_Ok l gd_I gd_lay gd_N gd_mv vwCl D cy adS (gd_X adS) a pc (gd_code a pc) := lt_s h32 (fun _ => ok_32)
  have h34 : ∀ a, a < 34 → (a ≠ 25 ∧ a ≠ 173) → ∀ pc, ab_Ok l gd_I gd_lay gd_N gd_mv vwCl D cy adS (gd_X adS) a pc (gd_code a pc) := lt_s h33 (fun _ => ok_33)
  have h35 : ∀ a, a < 35 → (a ≠ 25 ∧ a ≠ 173) → ∀ pc, ab_Ok l gd_I gd_lay gd_N gd_mv vwCl D cy adS (gd_X adS) a pc (gd_code a pc) := lt_s h34 (fun _ => ok_34)
  have h36 : ∀ a, a < 36 → (a ≠ 25 ∧ a ≠ 173) → ∀ pc, ab_Ok l gd_I gd_lay gd_N gd_mv vwCl D cy adS (gd_X adS) a pc (gd_code a pc) := lt_s h35 (fun _ => ok_35)
  have h37 : ∀ a, a < 37 → (a ≠ 25 ∧ a ≠ 173) → ∀ pc, ab_Ok l gd_I gd_lay gd_N gd_mv vwCl D cy adS (gd_X adS) a pc (gd_code a pc) := lt_s h36 (fun _ => ok_36)
  have h38 : ∀ a, a < 38 → (a ≠ 25 ∧ a ≠ 173) → ∀ pc, ab_Ok l gd_I gd_lay gd_N gd_mv vwCl D cy adS (gd_X adS) a pc (gd_code a pc) := lt_s h37 (fun _ => ok_37)
  have h39 : ∀ a, a < 39 → (a ≠ 25 ∧ a ≠ 173) → ∀ pc, ab_Ok l gd_I gd_lay gd_N gd_mv vwCl D cy adS (gd_X adS) a pc (gd_code a pc) := lt_s h38 (fun _ => ok_38)
  have h40 : ∀ a, a < 40 → (a ≠ 25 ∧ a ≠ 173) → ∀ pc, ab_Ok l gd_I gd_lay gd_N gd_mv vwCl D cy adS (gd_X adS) a pc (gd_code a pc) := lt_s h39 (fun _ => ok_39)
  have h41 : ∀ a, a < 41 → (a ≠ 25 ∧ a ≠ 173) → ∀ pc, ab_Ok l gd_I gd_lay gd_N gd_mv vwCl D cy adS (gd_X adS) a pc (gd_code a pc) := lt_s h40 (fun _ => ok_40)
  have h42 : ∀ a, a < 42 → (a ≠ 25 ∧ a ≠ 173) → ∀ pc, ab_Ok l gd_I gd_lay gd_N gd_mv vwCl D cy adS (gd_X adS) a pc (gd_code a pc) := lt_s h41 (fun _ => ok_41)
  have h43 : ∀ a, a < 43 → (a ≠ 25 ∧ a ≠ 173) → ∀ pc, ab_Ok l gd_I gd_lay gd_N gd_mv vwCl D cy adS (gd_X adS) a pc (gd_code a pc) := lt_s h42 (fun _ => ok_42)
  have h44 : ∀ a, a < 44 → (a ≠ 25 ∧ a ≠ 173) → ∀ pc, ab_Ok l gd_I gd_lay gd_N gd_mv vwCl D cy adS (gd_X adS) a pc (gd_code a pc) := lt_s h43 (fun _ => ok_43)
  have h45 : ∀ a, a < 45 → (a ≠ 25 ∧ a ≠ 173) → ∀ pc, ab_Ok l gd_I gd_lay gd_N gd_mv vwCl D cy adS (gd_X adS) a pc (gd_code a pc) := lt_s h44 (fun _ => ok_44)
  have h46 : ∀ a, a < 46 → (a ≠ 25 ∧ a ≠ 173) → ∀ pc, ab_Ok l gd_I gd_lay gd_N gd_mv vwCl D cy adS (gd_X adS) a pc (gd_code a pc) := lt_s h45 (fun _ => ok_45)
  have h47 : ∀ a, a < 47 → (a ≠ 25 ∧ a ≠ 173) → ∀ pc, ab_Ok l gd_I gd_lay gd_N gd_mv vwCl D cy adS (gd_X adS) a pc (gd_code a pc) := lt_s h46 (fun _ => ok_46)
  have h48 : ∀ a, a < 48 → (a ≠ 25 ∧ a ≠ 173) → ∀ pc, ab_Ok l gd_I gd_lay gd_N gd_mv vwCl D cy adS (gd_X adS) a pc (gd_code a pc) := lt_s h47 (fun _ => ok_47)
  have h49 : ∀ a, a < 49 → (a ≠ 25 ∧ a ≠ 173) → ∀ pc, ab_Ok l gd_I gd_lay gd_N gd_mv vwCl D cy adS (gd_X adS) a pc (gd_code a pc) := lt_s h48 (fun _ => ok_48)
  have h50 : ∀ a, a < 50 → (a ≠ 25 ∧ a ≠ 173) → ∀ pc, ab_Ok l gd_I gd_lay gd_N gd_mv vwCl D cy adS (gd_X adS) a pc (gd_code a pc) := lt_s h49 (fun _ => ok_49)
  have h51 : ∀ a, a < 51 → (a ≠ 25 ∧ a ≠ 173) → ∀ pc, ab_Ok l gd_I gd_lay gd_N gd_mv vwCl D cy adS (gd_X adS) a pc (gd_code a pc) := lt_s h50 (fun _ => ok_50)
  have h52 : ∀ a, a < 52 → (a ≠ 25 ∧ a ≠ 173) → ∀ pc, ab_Ok l gd_I gd_lay gd_N gd_mv vwCl D cy adS (gd_X adS) a pc (gd_code a pc) := lt_s h51 (fun _ => ok_51)
  have h53 : ∀ a, a < 53 → (a ≠ 25 ∧ a ≠ 173) → ∀ pc, ab_Ok l gd_I gd_lay gd_N gd_mv vwCl D cy adS (gd_X adS) a pc (gd_code a pc) := lt_s h52 (fun _ => ok_52)
  have h54 : ∀ a, a < 54 → (a ≠ 25 ∧ a ≠ 173) → ∀ pc, ab_Ok l gd_I gd_lay gd_N gd_mv vwCl D cy adS (gd_X adS) a pc (gd_code a pc) := lt_s h53 (fun _ => ok_53)
  have h55 : ∀ a, a < 55 → (a ≠ 25 ∧ a ≠ 173) → ∀ pc, ab_Ok l gd_I gd_lay gd_N gd_mv vwCl D cy adS (gd_X adS) a pc (gd_code a pc) := lt_s h54 (fun _ => ok_54)
  have h56 : ∀ a, a < 56 → (a ≠ 25 ∧ a ≠ 173) → ∀ pc, ab_Ok l gd_I gd_lay gd_N gd_mv vwCl D cy adS (gd_X adS) a pc (gd_code a pc) := lt_s h55 (fun _ => ok_55)
  have h57 : ∀ a, a < 57 → (a ≠ 25 ∧ a ≠ 173) → ∀ pc, ab_Ok l gd_I gd_lay gd_N gd_mv vwCl D cy adS (gd_X adS) a pc (gd_code a pc) := lt_s h56 (fun _ => ok_56)
  have h58 : ∀ a, a < 58 → (a ≠ 25 ∧ a ≠ 173) → ∀ pc, ab_Ok l gd_I gd_lay gd_N gd_mv vwCl D cy adS (gd_X adS) a pc (gd_code a pc) := lt_s h57 (fun _ => ok_57)
  have h59 : ∀ a, a < 59 → (a ≠ 25 ∧ a ≠ 173) → ∀ pc, ab_Ok l gd_I gd_lay gd_N gd_mv vwCl D cy adS (gd_X adS) a pc (gd_code a pc) := lt_s h58 (fun _ => ok_58)
  have h60 : ∀ a, a < 60 → (a ≠ 25 ∧ a ≠ 173) → ∀ pc, ab_Ok l gd_I gd_lay gd_N gd_mv vwCl D cy adS (gd_X adS) a pc (gd_code a pc) := lt_s h59 (fun _ => ok_59)
  have h61 : ∀ a, a < 61 → (a ≠ 25 ∧ a ≠ 173) → ∀ pc, ab_Ok l gd_I gd_lay gd_N gd_mv vwCl D cy adS (gd_X adS) a pc (gd_code a pc) := lt_s h60 (fun _ => ok_60)
  have h62 : ∀ a, a < 62 → (a ≠ 25 ∧ a ≠ 173) → ∀ pc, ab_Ok l gd_I gd_lay gd_N gd_mv vwCl D cy adS (gd_X adS) a pc (gd_code a pc) := lt_s h61 (fun _ => ok_61)
  have h63 : ∀ a, a < 63 → (a ≠ 25 ∧ a ≠ 173) → ∀ pc, ab_Ok l gd_I gd_lay gd_N gd_mv vwCl D cy adS (gd_X adS) a pc (gd_code a pc) := lt_s h62 (fun _ => ok_62)
  have h64 : ∀ a, a < 64 → (a ≠ 25 ∧ a ≠ 173) → ∀ pc, ab_Ok l gd_I gd_lay gd_N gd_mv vwCl D cy adS (gd_X adS) a pc (gd_code a pc) := lt_s h63 (fun _ => ok_63)
  have h65 : ∀ a, a < 65 → (a ≠ 25 ∧ a ≠ 173) → ∀ pc, ab_Ok l gd_I gd_lay gd_N gd_mv vwCl D cy adS (gd_X adS) a pc (gd_code a pc) := lt_s h64 (fun _ => ok_64)
  have h66 : ∀ a, a < 66 → (a ≠ 25 ∧ a ≠ 173) → ∀ pc, ab_Ok l gd_I gd_lay gd_N gd_mv vwCl D cy adS (gd_X adS) a pc (gd_code a pc) := lt_s h65 (fun _ => ok_65)
  have h67 : ∀ a, a < 67 → (a ≠ 25 ∧ a ≠ 173) → ∀ pc, ab_Ok l gd_I gd_lay gd_N gd_mv vwCl D cy adS (gd_X adS) a pc (gd_code a pc) := lt_s h66 (fun _ => ok_66)
  have h68 : ∀ a, a < 68 → (a ≠ 25 ∧ a ≠ 173) → ∀ pc, ab_Ok l gd_I gd_lay gd_N gd_mv vwCl D cy adS (gd_X adS) a pc (gd_code a pc) := lt_s h67 (fun _ => ok_67)
  have h69 : ∀ a, a < 69 → (a ≠ 25 ∧ a ≠ 173) → ∀ pc, ab_Ok l gd_I gd_lay gd_N gd_mv vwCl D cy adS (gd_X adS) a pc (gd_code a pc) := lt_s h68 (fun _ => ok_68)
  have h70 : ∀ a, a < 70 → (a ≠ 25 ∧ a ≠ 173) → ∀ pc, ab_Ok l gd_I gd_lay gd_N gd_mv vwCl D cy adS (gd_X adS) a pc (gd_code a pc) := lt_s h69 (fun _ => ok_69)
  have h71 : ∀ a, a < 71 → (a ≠ 25 ∧ a ≠ 173) → ∀ pc, ab_Ok l gd_I gd_lay gd_N gd_mv vwCl D cy adS (gd_X adS) a pc (gd_code a pc) := lt_s h70 (fun _ => ok_70)
  have h72 : ∀ a, a < 72 → (a ≠ 25 ∧ a ≠ 173) → ∀ pc, ab_Ok l gd_I gd_lay gd_N gd_mv vwCl D cy adS (gd_X adS) a pc (gd_code a pc) := lt_s h71 (fun _ => ok_71)
  have h73 : ∀ a, a < 73 → (a ≠ 25 ∧ a ≠ 173) → ∀ pc, ab_Ok l gd_I gd_lay gd_N gd_mv vwCl D cy adS (gd_X adS) a pc (gd_code a pc) := lt_s h72 (fun _ => ok_72)
  have h74 : ∀ a, a < 74 → (a ≠ 25 ∧ a ≠ 173) → ∀ pc, ab_Ok l gd_I gd_lay gd_N gd_mv vwCl D cy adS (gd_X adS) a pc (gd_code a pc) := lt_s h73 (fun _ => ok_73)
  have h75 : ∀ a, a < 75 → (a ≠ 25 ∧ a ≠ 173) → ∀ pc, ab_Ok l gd_I gd_lay gd_N gd_mv vwCl D cy adS (gd_X adS) a pc (gd_code a pc) := lt_s h74 (fun _ => ok_74)
  have h76 : ∀ a, a < 76 → (a ≠ 25 ∧ a ≠ 173) → ∀ pc, ab_Ok l gd_I gd_lay gd_N gd_mv vwCl D cy adS (gd_X adS) a pc (gd_code a pc) := lt_s h75 (fun _ => ok_75)
  have h77 : ∀ a, a < 77 → (a ≠ 25 ∧ a ≠ 173) → ∀ pc, ab_Ok l gd_I gd_lay gd_N gd_mv vwCl D cy adS (gd_X adS) a pc (gd_code a pc) := lt_s h76 (fun _ => ok_76)
  have h78 : ∀ a, a < 78 → (a ≠ 25 ∧ a ≠ 173) → ∀ pc, ab_Ok l gd_I gd_lay gd_N gd_mv vwCl D cy adS (gd_X adS) a pc (gd_code a pc) := lt_s h77 (fun _ => ok_77)
  have h79 : ∀ a, a < 79 → (a ≠ 25 ∧ a ≠ 173) → ∀ pc, ab_Ok l gd_I gd_lay gd_N gd_mv vwCl D cy adS (gd_X adS) a pc (gd_code a pc) := lt_s h78 (fun _ => ok_78)
  have h80 : ∀ a, a < 80 → (a ≠ 25 ∧ a ≠ 173) → ∀ pc, ab_Ok l gd_I gd_lay gd_N gd_mv vwCl D cy adS (gd_X adS) a pc (gd_code a pc) := lt_s h79 (fun _ => ok_79)
  have h81 : ∀ a, a < 81 → (a ≠ 25 ∧ a ≠ 173) → ∀ pc, ab_Ok l gd_I gd_lay gd_N gd_mv vwCl D cy adS (gd_X adS) a pc (gd_code a pc) := lt_s h80 (fun _ => ok_80)
  have h82 : ∀ a, a < 82 → (a ≠ 25 ∧ a ≠ 173) → ∀ pc, ab_Ok l gd_I gd_lay gd_N gd_mv vwCl D cy adS (gd_X adS) a pc (gd_code a pc) := lt_s h81 (fun _ => ok_81)
  have h83 : ∀ a, a < 83 → (a ≠ 25 ∧ a ≠ 173) → ∀ pc, ab_Ok l gd_I gd_lay gd_N gd_mv vwCl D cy adS (gd_X adS) a pc (gd_code a pc) := lt_s h82 (fun _ => ok_82)
  have h84 : ∀ a, a < 84 → (a ≠ 25 ∧ a ≠ 173) → ∀ pc, ab_Ok l gd_I gd_lay gd_N gd_mv vwCl D cy adS (gd_X adS) a pc (gd_code a pc) := lt_s h83 (fun _ => ok_83)
  have h85 : ∀ a, a < 85 → (a ≠ 25 ∧ a ≠ 173) → ∀ pc, ab_Ok l gd_I gd_lay gd_N gd_mv vwCl D cy adS (gd_X adS) a pc (gd_code a pc) := lt_s h84 (fun _ => ok_84)
  have h86 : ∀ a, a < 86 → (a ≠ 25 ∧ a ≠ 173) → ∀ pc, ab_Ok l gd_I gd_lay gd_N gd_mv vwCl D cy adS (gd_X adS) a pc (gd_code a pc) := lt_s h85 (fun _ => ok_85)
  have h87 : ∀ a, a < 87 → (a ≠ 25 ∧ a ≠ 173) → ∀ pc, ab_Ok l gd_I gd_lay gd_N gd_mv vwCl D cy adS (gd_X adS) a pc (gd_code a pc) := lt_s h86 (fun _ => ok_86)
  have h88 : ∀ a, a < 88 → (a ≠ 25 ∧ a ≠ 173) → ∀ pc, ab_Ok l gd_I gd_lay gd_N gd_mv vwCl D cy adS (gd_X adS) a pc (gd_code a pc) := lt_s h87 (fun _ => ok_87)
  have h89 : ∀ a, a < 89 → (a ≠ 25 ∧ a ≠ 173) → ∀ pc, ab_Ok l gd_I gd_lay gd_N gd_mv vwCl D cy adS (gd_X adS) a pc (gd_code a pc) := lt_s h88 (fun _ => ok_88)
  have h90 : ∀ a, a < 90 → (a ≠ 25 ∧ a ≠ 173) → ∀ pc, ab_Ok l gd_I gd_lay gd_N gd_mv vwCl D cy adS (gd_X adS) a pc (gd_code a pc) := lt_s h89 (fun _ => ok_89)
  have h91 : ∀ a, a < 91 → (a ≠ 25 ∧ a ≠ 173) → ∀ pc, ab_Ok l gd_I gd_lay gd_N gd_mv vwCl D cy adS (gd_X adS) a pc (gd_code a pc) := lt_s h90 (fun _ => ok_90)
  have h92 : ∀ a, a < 92 → (a ≠ 25 ∧ a ≠ 173) → ∀ pc, ab_Ok l gd_I gd_lay gd_N gd_mv vwCl D cy adS (gd_X adS) a pc (gd_code a pc) := lt_s h91 (fun _ => ok_91)
  have h93 : ∀ a, a < 93 → (a ≠ 25 ∧ a ≠ 173) → ∀ pc, ab_Ok l gd_I gd_lay gd_N gd_mv vwCl D cy adS (gd_X adS) a pc (gd_code a pc) := lt_s h92 (fun _ => ok_92)
  have h94 : ∀ a, a < 94 → (a ≠ 25 ∧ a ≠ 173) → ∀ pc, ab_Ok l gd_I gd_lay gd_N gd_mv vwCl D cy adS (gd_X adS) a pc (gd_code a pc) := lt_s h93 (fun _ => ok_93)
  have h95 : ∀ a, a < 95 → (a ≠ 25 ∧ a ≠ 173) → ∀ pc, ab_Ok l gd_I gd_lay gd_N gd_mv vwCl D cy adS (gd_X adS) a pc (gd_code a pc) := lt_s h94 (fun _ => ok_94)
  have h96 : ∀ a, a < 96 → (a ≠ 25 ∧ a ≠ 173) → ∀ pc, ab_Ok l gd_I gd_lay gd_N gd_mv vwCl D cy adS (gd_X adS) a pc (gd_code a pc) := lt_s h95 (fun _ => ok_95)
  have h97 : ∀ a, a < 97 → (a ≠ 25 ∧ a ≠ 173) → ∀ pc, ab_Ok l gd_I gd_lay gd_N gd_mv vwCl D cy adS (gd_X adS) a pc (gd_code a pc) := lt_s h96 (fun _ => ok_96)
  have h98 : ∀ a, a < 98 → (a ≠ 25 ∧ a ≠ 173) → ∀ pc, ab_Ok l gd_I gd_lay gd_N gd_mv vwCl D cy adS (gd_X adS) a pc (gd_code a pc) := lt_s h97 (fun _ => ok_97)
  have h99 : ∀ a, a < 99 → (a ≠ 25 ∧ a ≠ 173) → ∀ pc, ab_Ok l gd_I gd_lay gd_N gd_mv vwCl D cy adS (gd_X adS) a pc (gd_code a pc) := lt_s h98 (fun _ => ok_98)
  have h100 : ∀ a, a < 100 → (a ≠ 25 ∧ a ≠ 173) → ∀ pc, ab_Ok l gd_I gd_lay gd_N gd_mv vwCl D cy adS (gd_X adS) a pc (gd_code a pc) := lt_s h99 (fun _ => ok_99)
  have h101 : ∀ a, a < 101 → (a ≠ 25 ∧ a ≠ 173) → ∀ pc, ab_Ok l gd_I gd_lay gd_N gd_mv vwCl D cy adS (gd_X adS) a pc (gd_code a pc) := lt_s h100 (fun _ => ok_100)
  have h102 : ∀ a, a < 102 → (a ≠ 25 ∧ a ≠ 173) → ∀ pc, ab_Ok l gd_I gd_lay gd_N gd_mv vwCl D cy adS (gd_X adS) a pc (gd_code a pc) := lt_s h101 (fun _ => ok_101)
  have h103 : ∀ a, a < 103 → (a ≠ 25 ∧ a ≠ 173) → ∀ pc, ab_Ok l gd_I gd_lay gd_N gd_mv vwCl D cy adS (gd_X adS) a pc (gd_code a pc) := lt_s h102 (fun _ => ok_102)
  have h104 : ∀ a, a < 104 → (a ≠ 25 ∧ a ≠ 173) → ∀ pc, ab_Ok l gd_I gd_lay gd_N gd_mv vwCl D cy adS (gd_X adS) a pc (gd_code a pc) := lt_s h103 (fun _ => ok_103)
  have h105 : ∀ a, a < 105 → (a ≠ 25 ∧ a ≠ 173) → ∀ pc, ab_Ok l gd_I gd_lay gd_N gd_mv vwCl D cy adS (gd_X adS) a pc (gd_code a pc) := lt_s h104 (fun _ => ok_104)
  have h106 : ∀ a, a < 106 → (a ≠ 25 ∧ a ≠ 173) → ∀ pc, ab_Ok l gd_I gd_lay gd_N gd_mv vwCl D cy adS (gd_X adS) a pc (gd_code a pc) := lt_s h105 (fun _ => ok_105)
  have h107 : ∀ a, a < 107 → (a ≠ 25 ∧ a ≠ 173) → ∀ pc, ab_Ok l gd_I gd_lay gd_N gd_mv vwCl D cy adS (gd_X adS) a pc (gd_code a pc) := lt_s h106 (fun _ => ok_106)
  have h108 : ∀ a, a < 108 → (a ≠ 25 ∧ a ≠ 173) → ∀ pc, ab_Ok l gd_I gd_lay gd_N gd_mv vwCl D cy adS (gd_X adS) a pc (gd_code a pc) := lt_s h107 (fun _ => ok_107)
  have h109 : ∀ a, a < 109 → (a ≠ 25 ∧ a ≠ 173) → ∀ pc, ab_Ok l gd_I gd_lay gd_N gd_mv vwCl D cy adS (gd_X adS) a pc (gd_code a pc) := lt_s h108 (fun _ => ok_108)
  have h110 : ∀ a, a < 110 → (a ≠ 25 ∧ a ≠ 173) → ∀ pc, ab_Ok l gd_I gd_lay gd_N gd_mv vwCl D cy adS (gd_X adS) a pc (gd_code a pc) := lt_s h109 (fun _ => ok_109)
  have h111 : ∀ a, a < 111 → (a ≠ 25 ∧ a ≠ 173) → ∀ pc, ab_Ok l gd_I gd_lay gd_N gd_mv vwCl D cy adS (gd_X adS) a pc (gd_code a pc) := lt_s h110 (fun _ => ok_110)
  have h112 : ∀ a, a < 112 → (a ≠ 25 ∧ a ≠ 173) → ∀ pc, ab_Ok l gd_I gd_lay gd_N gd_mv vwCl D cy adS (gd_X adS) a pc (gd_code a pc) := lt_s h111 (fun _ => ok_111)
  have h113 : ∀ a, a < 113 → (a ≠ 25 ∧ a ≠ 173) → ∀ pc, ab_Ok l gd_I gd_lay gd_N gd_mv vwCl D cy adS (gd_X adS) a pc (gd_code a pc) := lt_s h112 (fun _ => ok_112)
  have h114 : ∀ a, a < 114 → (a ≠ 25 ∧ a ≠ 173) → ∀ pc, ab_Ok l gd_I gd_lay gd_N gd_mv vwCl D cy adS (gd_X adS) a pc (gd_code a pc) := lt_s h113 (fun _ => ok_113)
  have h115 : ∀ a, a < 115 → (a ≠ 25 ∧ a ≠ 173) → ∀ pc, ab_Ok l gd_I gd_lay gd_N gd_mv vwCl D cy adS (gd_X adS) a pc (gd_code a pc) := lt_s h114 (fun _ => ok_114)
  have h116 : ∀ a, a < 116 → (a ≠ 25 ∧ a ≠ 173) → ∀ pc, ab_Ok l gd_I gd_lay gd_N gd_mv vwCl D cy adS (gd_X adS) a pc (gd_code a pc) := lt_s h115 (fun _ => ok_115)
  have h117 : ∀ a, a < 117 → (a ≠ 25 ∧ a ≠ 173) → ∀ pc, ab_Ok l gd_I gd_lay gd_N gd_mv vwCl D cy adS (gd_X adS) a pc (gd_code a pc) := lt_s h116 (fun _ => ok_116)
  have h118 : ∀ a, a < 118 → (a ≠ 25 ∧ a ≠ 173) → ∀ pc, ab_Ok l gd_I gd_lay gd_N gd_mv vwCl D cy adS (gd_X adS) a pc (gd_code a pc) := lt_s h117 (fun _ => ok_117)
  have h119 : ∀ a, a < 119 → (a ≠ 25 ∧ a ≠ 173) → ∀ pc, ab_Ok l gd_I gd_lay gd_N gd_mv vwCl D cy adS (gd_X adS) a pc (gd_code a pc) := lt_s h118 (fun _ => ok_118)
  have h120 : ∀ a, a < 120 → (a ≠ 25 ∧ a ≠ 173) → ∀ pc, ab_Ok l gd_I gd_lay gd_N gd_mv vwCl D cy adS (gd_X adS) a pc (gd_code a pc) := lt_s h119 (fun _ => ok_119)
  have h121 : ∀ a, a < 121 → (a ≠ 25 ∧ a ≠ 173) → ∀ pc, ab_Ok l gd_I gd_lay gd_N gd_mv vwCl D cy adS (gd_X adS) a pc (gd_code a pc) := lt_s h120 (fun _ => ok_120)
  have h122 : ∀ a, a < 122 → (a ≠ 25 ∧ a ≠ 173) → ∀ pc, ab_Ok l gd_I gd_lay gd_N gd_mv vwCl D cy adS (gd_X adS) a pc (gd_code a pc) := lt_s h121 (fun _ => ok_121)
  have h123 : ∀ a, a < 123 → (a ≠ 25 ∧ a ≠ 173) → ∀ pc, ab_Ok l gd_I gd_lay gd_N gd_mv vwCl D cy adS (gd_X adS) a pc (gd_code a pc) := lt_s h122 (fun _ => ok_122)
  have h124 : ∀ a, a < 124 → (a ≠ 25 ∧ a ≠ 173) → ∀ pc, ab_Ok l gd_I gd_lay gd_N gd_mv vwCl D cy adS (gd_X adS) a pc (gd_code a pc) := lt_s h123 (fun _ => ok_123)
  have h125 : ∀ a, a < 125 → (a ≠ 25 ∧ a ≠ 173) → ∀ pc, ab_Ok l gd_I gd_lay gd_N gd_mv vwCl D cy adS (gd_X adS) a pc (gd_code a pc) := lt_s h124 (fun _ => ok_124)
  have h126 : ∀ a, a < 126 → (a ≠ 25 ∧ a ≠ 173) → ∀ pc, ab_Ok l gd_I gd_lay gd_N gd_mv vwCl D cy adS (gd_X adS) a pc (gd_code a pc) := lt_s h125 (fun _ => ok_125)
  have h127 : ∀ a, a < 127 → (a ≠ 25 ∧ a ≠ 173) → ∀ pc, ab_Ok l gd_I gd_lay gd_N gd_mv vwCl D cy adS (gd_X adS) a pc (gd_code a pc) := lt_s h126 (fun _ => ok_126)
  have h128 : ∀ a, a < 128 → (a ≠ 25 ∧ a ≠ 173) → ∀ pc, ab_Ok l gd_I gd_lay gd_N gd_mv vwCl D cy adS (gd_X adS) a pc (gd_code a pc) := lt_s h127 (fun _ => ok_127)
  have h129 : ∀ a, a < 129 → (a ≠ 25 ∧ a ≠ 173) → ∀ pc, ab_Ok l gd_I gd_lay gd_N gd_mv vwCl D cy adS (gd_X adS) a pc (gd_code a pc) := lt_s h128 (fun _ => ok_128)
  have h130 : ∀ a, a < 130 → (a ≠ 25 ∧ a ≠ 173) → ∀ pc, ab_Ok l gd_I gd_lay gd_N gd_mv vwCl D cy adS (gd_X adS) a pc (gd_code a pc) := lt_s h129 (fun _ => ok_129)
  have h131 : ∀ a, a < 131 → (a ≠ 25 ∧ a ≠ 173) → ∀ pc, ab_Ok l gd_I gd_lay gd_N gd_mv vwCl D cy adS (gd_X adS) a pc (gd_code a pc) := lt_s h130 (fun _ => ok_130)
  have h132 : ∀ a, a < 132 → (a ≠ 25 ∧ a ≠ 173) → ∀ pc, ab_Ok l gd_I gd_lay gd_N gd_mv vwCl D cy adS (gd_X adS) a pc (gd_code a pc) := lt_s h131 (fun _ => ok_131)
  have h133 : ∀ a, a < 133 → (a ≠ 25 ∧ a ≠ 173) → ∀ pc, ab_Ok l gd_I gd_lay gd_N gd_mv vwCl D cy adS (gd_X adS) a pc (gd_code a pc) := lt_s h132 (fun _ => ok_132)
  have h134 : ∀ a, a < 134 → (a ≠ 25 ∧ a ≠ 173) → ∀ pc, ab_Ok l gd_I gd_lay gd_N gd_mv vwCl D cy adS (gd_X adS) a pc (gd_code a pc) := lt_s h133 (fun _ => ok_133)
  have h135 : ∀ a, a < 135 → (a ≠ 25 ∧ a ≠ 173) → ∀ pc, ab_Ok l gd_I gd_lay gd_N gd_mv vwCl D cy adS (gd_X adS) a pc (gd_code a pc) := lt_s h134 (fun _ => ok_134)
  have h136 : ∀ a, a < 136 → (a ≠ 25 ∧ a ≠ 173) → ∀ pc, ab_Ok l gd_I gd_lay gd_N gd_mv vwCl D cy adS (gd_X adS) a pc (gd_code a pc) := lt_s h135 (fun _ => ok_135)
  have h137 : ∀ a, a < 137 → (a ≠ 25 ∧ a ≠ 173) → ∀ pc, ab_Ok l gd_I gd_lay gd_N gd_mv vwCl D cy adS (gd_X adS) a pc (gd_code a pc) := lt_s h136 (fun _ => ok_136)
  have h138 : ∀ a, a < 138 → (a ≠ 25 ∧ a ≠ 173) → ∀ pc, ab_Ok l gd_I gd_lay gd_N gd_mv vwCl D cy adS (gd_X adS) a pc (gd_code a pc) := lt_s h137 (fun _ => ok_137)
  have h139 : ∀ a, a < 139 → (a ≠ 25 ∧ a ≠ 173) → ∀ pc, ab_Ok l gd_I gd_lay gd_N gd_mv vwCl D cy adS (gd_X adS) a pc (gd_code a pc) := lt_s h138 (fun _ => ok_138)
  have h140 : ∀ a, a < 140 → (a ≠ 25 ∧ a ≠ 173) → ∀ pc, ab_Ok l gd_I gd_lay gd_N gd_mv vwCl D cy adS (gd_X adS) a pc (gd_code a pc) := lt_s h139 (fun _ => ok_139)
  have h141 : ∀ a, a < 141 → (a ≠ 25 ∧ a ≠ 173) → ∀ pc, ab_Ok l gd_I gd_lay gd_N gd_mv vwCl D cy adS (gd_X adS) a pc (gd_code a pc) := lt_s h140 (fun _ => ok_140)
  have h142 : ∀ a, a < 142 → (a ≠ 25 ∧ a ≠ 173) → ∀ pc, ab_Ok l gd_I gd_lay gd_N gd_mv vwCl D cy adS (gd_X adS) a pc (gd_code a pc) := lt_s h141 (fun _ => ok_141)
  have h143 : ∀ a, a < 143 → (a ≠ 25 ∧ a ≠ 173) → ∀ pc, ab_Ok l gd_I gd_lay gd_N gd_mv vwCl D cy adS (gd_X adS) a pc (gd_code a pc) := lt_s h142 (fun _ => ok_142)
  have h144 : ∀ a, a < 144 → (a ≠ 25 ∧ a ≠ 173) → ∀ pc, ab_Ok l gd_I gd_lay gd_N gd_mv vwCl D cy adS (gd_X adS) a pc (gd_code a pc) := lt_s h143 (fun _ => ok_143)
  have h145 : ∀ a, a < 145 → (a ≠ 25 ∧ a ≠ 173) → ∀ pc, ab_Ok l gd_I gd_lay gd_N gd_mv vwCl D cy adS (gd_X adS) a pc (gd_code a pc) := lt_s h144 (fun _ => ok_144)
  have h146 : ∀ a, a < 146 → (a ≠ 25 ∧ a ≠ 173) → ∀ pc, ab_Ok l gd_I gd_lay gd_N gd_mv vwCl D cy adS (gd_X adS) a pc (gd_code a pc) := lt_s h145 (fun _ => ok_145)
  have h147 : ∀ a, a < 147 → (a ≠ 25 ∧ a ≠ 173) → ∀ pc, ab_Ok l gd_I gd_lay gd_N gd_mv vwCl D cy adS (gd_X adS) a pc (gd_code a pc) := lt_s h146 (fun _ => ok_146)
  have h148 : ∀ a, a < 148 → (a ≠ 25 ∧ a ≠ 173) → ∀ pc, ab_Ok l gd_I gd_lay gd_N gd_mv vwCl D cy adS (gd_X adS) a pc (gd_code a pc) := lt_s h147 (fun _ => ok_147)
  have h149 : ∀ a, a < 149 → (a ≠ 25 ∧ a ≠ 173) → ∀ pc, ab_Ok l gd_I gd_lay gd_N gd_mv vwCl D cy adS (gd_X adS) a pc (gd_code a pc) := lt_s h148 (fun _ => ok_148)
  have h150 : ∀ a, a < 150 → (a ≠ 25 ∧ a ≠ 173) → ∀ pc, ab_Ok l gd_I gd_lay gd_N gd_mv vwCl D cy adS (gd_X adS) a pc (gd_code a pc) := lt_s h149 (fun _ => ok_149)
  have h151 : ∀ a, a < 151 → (a ≠ 25 ∧ a ≠ 173) → ∀ pc, ab_Ok l gd_I gd_lay gd_N gd_mv vwCl D cy adS (gd_X adS) a pc (gd_code a pc) := lt_s h150 (fun _ => ok_150)
  have h152 : ∀ a, a < 152 → (a ≠ 25 ∧ a ≠ 173) → ∀ pc, ab_Ok l gd_I gd_lay gd_N gd_mv vwCl D cy adS (gd_X adS) a pc (gd_code a pc) := lt_s h151 (fun _ => ok_151)
  have h153 : ∀ a, a < 153 → (a ≠ 25 ∧ a ≠ 173) → ∀ pc, ab_Ok l gd_I gd_lay gd_N gd_mv vwCl D cy adS (gd_X adS) a pc (gd_code a pc) := lt_s h152 (fun _ => ok_152)
  have h154 : ∀ a, a < 154 → (a ≠ 25 ∧ a ≠ 173) → ∀ pc, ab_Ok l gd_I gd_lay gd_N gd_mv vwCl D cy adS (gd_X adS) a pc (gd_code a pc) := lt_s h153 (fun _ => ok_153)
  have h155 : ∀ a, a < 155 → (a ≠ 25 ∧ a ≠ 173) → ∀ pc, ab_Ok l gd_I gd_lay gd_N gd_mv vwCl D cy adS (gd_X adS) a pc (gd_code a pc) := lt_s h154 (fun _ => ok_154)
  have h156 : ∀ a, a < 156 → (a ≠ 25 ∧ a ≠ 173) → ∀ pc, ab_Ok l gd_I gd_lay gd_N gd_mv vwCl D cy adS (gd_X adS) a pc (gd_code a pc) := lt_s h155 (fun _ => ok_155)
  have h157 : ∀ a, a < 157 → (a ≠ 25 ∧ a ≠ 173) → ∀ pc, ab_Ok l gd_I gd_lay gd_N gd_mv vwCl D cy adS (gd_X adS) a pc (gd_code a pc) := lt_s h156 (fun _ => ok_156)
  have h158 : ∀ a, a < 158 → (a ≠ 25 ∧ a ≠ 173) → ∀ pc, ab_Ok l gd_I gd_lay gd_N gd_mv vwCl D cy adS (gd_X adS) a pc (gd_code a pc) := lt_s h157 (fun _ => ok_157)
  have h159 : ∀ a, a < 159 → (a ≠ 25 ∧ a ≠ 173) → ∀ pc, ab_Ok l gd_I gd_lay gd_N gd_mv vwCl D cy adS (gd_X adS) a pc (gd_code a pc) := lt_s h158 (fun _ => ok_158)
  have h160 : ∀ a, a < 160 → (a ≠ 25 ∧ a ≠ 173) → ∀ pc, ab_Ok l gd_I gd_lay gd_N gd_mv vwCl D cy adS (gd_X adS) a pc (gd_code a pc) := lt_s h159 (fun _ => ok_159)
  have h161 : ∀ a, a < 161 → (a ≠ 25 ∧ a ≠ 173) → ∀ pc, ab_Ok l gd_I gd_lay gd_N gd_mv vwCl D cy adS (gd_X adS) a pc (gd_code a pc) := lt_s h160 (fun _ => ok_160)
  have h162 : ∀ a, a < 162 → (a ≠ 25 ∧ a ≠ 173) → ∀ pc, ab_Ok l gd_I gd_lay gd_N gd_mv vwCl D cy adS (gd_X adS) a pc (gd_code a pc) := lt_s h161 (fun _ => ok_161)
  have h163 : ∀ a, a < 163 → (a ≠ 25 ∧ a ≠ 173) → ∀ pc, ab_Ok l gd_I gd_lay gd_N gd_mv vwCl D cy adS (gd_X adS) a pc (gd_code a pc) := lt_s h162 (fun _ => ok_162)
  have h164 : ∀ a, a < 164 → (a ≠ 25 ∧ a ≠ 173) → ∀ pc, ab_Ok l gd_I gd_lay gd_N gd_mv vwCl D cy adS (gd_X adS) a pc (gd_code a pc) := lt_s h163 (fun _ => ok_163)
  have h165 : ∀ a, a < 165 → (a ≠ 25 ∧ a ≠ 173) → ∀ pc, ab_Ok l gd_I gd_lay gd_N gd_mv vwCl D cy adS (gd_X adS) a pc (gd_code a pc) := lt_s h164 (fun _ => ok_164)
  have h166 : ∀ a, a < 166 → (a ≠ 25 ∧ a ≠ 173) → ∀ pc, ab_Ok l gd_I gd_lay gd_N gd_mv vwCl D cy adS (gd_X adS) a pc (gd_code a pc) := lt_s h165 (fun _ => ok_165)
  have h167 : ∀ a, a < 167 → (a ≠ 25 ∧ a ≠ 173) → ∀ pc, ab_Ok l gd_I gd_lay gd_N gd_mv vwCl D cy adS (gd_X adS) a pc (gd_code a pc) := lt_s h166 (fun _ => ok_166)
  have h168 : ∀ a, a < 168 → (a ≠ 25 ∧ a ≠ 173) → ∀ pc, ab_Ok l gd_I gd_lay gd_N gd_mv vwCl D cy adS (gd_X adS) a pc (gd_code a pc) := lt_s h167 (fun _ => ok_167)
  have h169 : ∀ a, a < 169 → (a ≠ 25 ∧ a ≠ 173) → ∀ pc, ab_Ok l gd_I gd_lay gd_N gd_mv vwCl D cy adS (gd_X adS) a pc (gd_code a pc) := lt_s h168 (fun _ => ok_168)
  have h170 : ∀ a, a < 170 → (a ≠ 25 ∧ a ≠ 173) → ∀ pc, ab_Ok l gd_I gd_lay gd_N gd_mv vwCl D cy adS (gd_X adS) a pc (gd_code a pc) := lt_s h169 (fun _ => ok_169)
  have h171 : ∀ a, a < 171 → (a ≠ 25 ∧ a ≠ 173) → ∀ pc, ab_Ok l gd_I gd_lay gd_N gd_mv vwCl D cy adS (gd_X adS) a pc (gd_code a pc) := lt_s h170 (fun _ => ok_170)
  have h172 : ∀ a, a < 172 → (a ≠ 25 ∧ a ≠ 173) → ∀ pc, ab_Ok l gd_I gd_lay gd_N gd_mv vwCl D cy adS (gd_X adS) a pc (gd_code a pc) := lt_s h171 (fun _ => ok_171)
  have h173 : ∀ a, a < 173 → (a ≠ 25 ∧ a ≠ 173) → ∀ pc, ab_Ok l gd_I gd_lay gd_N gd_mv vwCl D cy adS (gd_X adS) a pc (gd_code a pc) := lt_s h172 (fun _ => ok_172)
  have h174 : ∀ a, a < 174 → (a ≠ 25 ∧ a ≠ 173) → ∀ pc, ab_Ok l gd_I gd_lay gd_N gd_mv vwCl D cy adS (gd_X adS) a pc (gd_code a pc) := lt_s h173 (fun h => absurd rfl h.2)
  have h175 : ∀ a, a < 175 → (a ≠ 25 ∧ a ≠ 173) → ∀ pc, ab_Ok l gd_I gd_lay gd_N gd_mv vwCl D cy adS (gd_X adS) a pc (gd_code a pc) := lt_s h174 (fun _ => ok_174)
  have h176 : ∀ a, a < 176 → (a ≠ 25 ∧ a ≠ 173) → ∀ pc, ab_Ok l gd_I gd_lay gd_N gd_mv vwCl D cy adS (gd_X adS) a pc (gd_code a pc) := lt_s h175 (fun _ => ok_175)
  exact h176
theorem gd_far {M : Nat} (h : 176 ≤ M) : gd_code M = fun _ => o_fail := by
  unfold gd_code
  rw [show Nat.ble M 87 = false from by cases hb : Nat.ble M 87 with
    | false => rfl
    | true => exact absurd (Nat.le_of_ble_eq_true hb) (by omega)]
  dsimp only [cond]
  rw [show Nat.ble M 131 = false from by cases hb : Nat.ble M 131 with
    | false => rfl
    | true => exact absurd (Nat.le_of_ble_eq_true hb) (by omega)]
  dsimp only [cond]
  rw [show Nat.ble M 153 = false from by cases hb : Nat.ble M 153 with
    | false => rfl
    | true => exact absurd (Nat.le_of_ble_eq_true hb) (by omega)]
  dsimp only [cond]
  rw [show Nat.ble M 164 = false from by cases hb : Nat.ble M 164 with
    | false => rfl
    | true => exact absurd (Nat.le_of_ble_eq_true hb) (by omega)]
  dsimp only [cond]
  rw [show Nat.ble M 169 = false from by cases hb : Nat.ble M 169 with
    | false => rfl
    | true => exact absurd (Nat.le_of_ble_eq_true hb) (by omega)]
  dsimp only [cond]
  rw [show Nat.ble M 172 = false from by cases hb : Nat.ble M 172 with
    | false => rfl
    | true => exact absurd (Nat.le_of_ble_eq_true hb) (by omega)]
  dsimp only [cond]
  rw [show Nat.ble M 173 = false from by cases hb : Nat.ble M 173 with
    | false => rfl
    | true => exact absurd (Nat.le_of_ble_eq_true hb) (by omega)]
  dsimp only [cond]
  rw [show Nat.ble M 174 = false from by cases hb : Nat.ble M 174 with
    | false => rfl
    | true => exact absurd (Nat.le_of_ble_eq_true hb) (by omega)]
  dsimp only [cond]
  rw [show Nat.beq M 175 = false from by cases hb : Nat.beq M 175 with
    | false => rfl
    | true => exact absurd (Nat.eq_of_beq_eq_true hb) (by omega)]
theorem gd_sound {l : Launch} {D : va_G} {cy : Nat → ClassId} {adS : Nat → Nat} {M : Nat} {as : List ab_V} {μ : ab_S} {b : ab_B} {Q : ab_Q} (h : gd_run M 0 (ab_init gd_I M as) [] μ b Q) (hlen : as.length ≤ i_n gd_I M) : ab_Met l gd_I gd_lay gd_N gd_mv vwCl D cy adS (gd_X adS) M as μ b Q := by
  refine ab_sound (uw := uw) (code := gd_code) (spec := fun M => M = 25 ∨ M = 173 ∨ 176 ≤ M) (fun M hM => gd_io M (by omega)) (fun M hM => gd_ok M (by omega) (by omega)) (fun M as μ b Q K C hs hc hlen => ?_) h hlen
  rcases hs with rfl | rfl | hs
  · exact sp_grow (K := K) (C := C) hc hlen
  · exact sp_chk (K := K) (C := C) hc hlen
  · rw [gd_far hs] at hc
    exact hc.elim
