theorem eX11_init_0 : (decode cX11_init 0 = .ok (.aload_n 0, 1)) ∧ (decode cX11_init 1 = .ok (.invokespecial 1, 3)) ∧ (decode cX11_init 4 = .ok (.aload_n 0, 1)) ∧ (decode cX11_init 5 = .ok (.iconst 4, 1)) ∧ (decode cX11_init 6 = .ok (.newarray .int, 2)) ∧ (decode cX11_init 8 = .ok (.putfield 7, 3)) ∧ (decode cX11_init 11 = .ok (.aload_n 0, 1)) ∧ (decode cX11_init 12 = .ok (.iconst 4, 1)) := by decide +kernel
theorem dX11_init_0 : decode cX11_init 0 = .ok (.aload_n 0, 1) := eX11_init_0.1
theorem dX11_init_1 : decode cX11_init 1 = .ok (.invokespecial 1, 3) := eX11_init_0.2.1
theorem dX11_init_4 : decode cX11_init 4 = .ok (.aload_n 0, 1) := eX11_init_0.2.2.1
theorem dX11_init_5 : decode cX11_init 5 = .ok (.iconst 4, 1) := eX11_init_0.2.2.2.1
theorem dX11_init_6 : decode cX11_init 6 = .ok (.newarray .int, 2) := eX11_init_0.2.2.2.2.1
theorem dX11_init_8 : decode cX11_init 8 = .ok (.putfield 7, 3) := eX11_init_0.2.2.2.2.2.1
theorem dX11_init_11 : decode cX11_init 11 = .ok (.aload_n 0, 1) := eX11_init_0.2.2.2.2.2.2.1
theorem dX11_init_12 : decode cX11_init 12 = .ok (.iconst 4, 1) := eX11_init_0.2.2.2.2.2.2.2
theorem eX11_init_8 : (decode cX11_init 13 = .ok (.newarray .int, 2)) ∧ (decode cX11_init 15 = .ok (.putfield 13, 3)) ∧ (decode cX11_init 18 = .ok (.aload_n 0, 1)) ∧ (decode cX11_init 19 = .ok (.iconst 4, 1)) ∧ (decode cX11_init 20 = .ok (.newarray .int, 2)) ∧ (decode cX11_init 22 = .ok (.putfield 16, 3)) ∧ (decode cX11_init 25 = .ok (.aload_n 0, 1)) ∧ (decode cX11_init 26 = .ok (.iconst 4, 1)) := by decide +kernel
theorem dX11_init_13 : decode cX11_init 13 = .ok (.newarray .int, 2) := eX11_init_8.1
theorem dX11_init_15 : decode cX11_init 15 = .ok (.putfield 13, 3) := eX11_init_8.2.1
theorem dX11_init_18 : decode cX11_init 18 = .ok (.aload_n 0, 1) := eX11_init_8.2.2.1
theorem dX11_init_19 : decode cX11_init 19 = .ok (.iconst 4, 1) := eX11_init_8.2.2.2.1
theorem dX11_init_20 : decode cX11_init 20 = .ok (.newarray .int, 2) := eX11_init_8.2.2.2.2.1
theorem dX11_init_22 : decode cX11_init 22 = .ok (.putfield 16, 3) := eX11_init_8.2.2.2.2.2.1
theorem dX11_init_25 : decode cX11_init 25 = .ok (.aload_n 0, 1) := eX11_init_8.2.2.2.2.2.2.1
theorem dX11_init_26 : decode cX11_init 26 = .ok (.iconst 4, 1) := eX11_init_8.2.2.2.2.2.2.2
theorem eX11_init_16 : (decode cX11_init 27 = .ok (.newarray .int, 2)) ∧ (decode cX11_init 29 = .ok (.putfield 19, 3)) ∧ (decode cX11_init 32 = .ok (.aload_n 0, 1)) ∧ (decode cX11_init 33 = .ok (.bipush 20, 2)) ∧ (decode cX11_init 35 = .ok (.newarray .int, 2)) ∧ (decode cX11_init 37 = .ok (.putfield 22, 3)) ∧ (decode cX11_init 40 = .ok (.aload_n 0, 1)) ∧ (decode cX11_init 41 = .ok (.bipush 20, 2)) := by decide +kernel
theorem dX11_init_27 : decode cX11_init 27 = .ok (.newarray .int, 2) := eX11_init_16.1
theorem dX11_init_29 : decode cX11_init 29 = .ok (.putfield 19, 3) := eX11_init_16.2.1
theorem dX11_init_32 : decode cX11_init 32 = .ok (.aload_n 0, 1) := eX11_init_16.2.2.1
theorem dX11_init_33 : decode cX11_init 33 = .ok (.bipush 20, 2) := eX11_init_16.2.2.2.1
theorem dX11_init_35 : decode cX11_init 35 = .ok (.newarray .int, 2) := eX11_init_16.2.2.2.2.1
theorem dX11_init_37 : decode cX11_init 37 = .ok (.putfield 22, 3) := eX11_init_16.2.2.2.2.2.1
theorem dX11_init_40 : decode cX11_init 40 = .ok (.aload_n 0, 1) := eX11_init_16.2.2.2.2.2.2.1
theorem dX11_init_41 : decode cX11_init 41 = .ok (.bipush 20, 2) := eX11_init_16.2.2.2.2.2.2.2
theorem eX11_init_24 : (decode cX11_init 43 = .ok (.newarray .int, 2)) ∧ (decode cX11_init 45 = .ok (.putfield 25, 3)) ∧ (decode cX11_init 48 = .ok (.aload_n 0, 1)) ∧ (decode cX11_init 49 = .ok (.bipush 20, 2)) ∧ (decode cX11_init 51 = .ok (.newarray .int, 2)) ∧ (decode cX11_init 53 = .ok (.putfield 28, 3)) ∧ (decode cX11_init 56 = .ok (.aload_n 0, 1)) ∧ (decode cX11_init 57 = .ok (.bipush 20, 2)) := by decide +kernel
theorem dX11_init_43 : decode cX11_init 43 = .ok (.newarray .int, 2) := eX11_init_24.1
theorem dX11_init_45 : decode cX11_init 45 = .ok (.putfield 25, 3) := eX11_init_24.2.1
theorem dX11_init_48 : decode cX11_init 48 = .ok (.aload_n 0, 1) := eX11_init_24.2.2.1
theorem dX11_init_49 : decode cX11_init 49 = .ok (.bipush 20, 2) := eX11_init_24.2.2.2.1
theorem dX11_init_51 : decode cX11_init 51 = .ok (.newarray .int, 2) := eX11_init_24.2.2.2.2.1
theorem dX11_init_53 : decode cX11_init 53 = .ok (.putfield 28, 3) := eX11_init_24.2.2.2.2.2.1
theorem dX11_init_56 : decode cX11_init 56 = .ok (.aload_n 0, 1) := eX11_init_24.2.2.2.2.2.2.1
theorem dX11_init_57 : decode cX11_init 57 = .ok (.bipush 20, 2) := eX11_init_24.2.2.2.2.2.2.2
theorem eX11_init_32 : (decode cX11_init 59 = .ok (.newarray .int, 2)) ∧ (decode cX11_init 61 = .ok (.putfield 31, 3)) ∧ (decode cX11_init 64 = .ok (.aload_n 0, 1)) ∧ (decode cX11_init 65 = .ok (.bipush 20, 2)) ∧ (decode cX11_init 67 = .ok (.newarray .int, 2)) ∧ (decode cX11_init 69 = .ok (.putfield 34, 3)) ∧ (decode cX11_init 72 = .ok (.aload_n 0, 1)) ∧ (decode cX11_init 73 = .ok (.bipush 20, 2)) := by decide +kernel
theorem dX11_init_59 : decode cX11_init 59 = .ok (.newarray .int, 2) := eX11_init_32.1
theorem dX11_init_61 : decode cX11_init 61 = .ok (.putfield 31, 3) := eX11_init_32.2.1
theorem dX11_init_64 : decode cX11_init 64 = .ok (.aload_n 0, 1) := eX11_init_32.2.2.1
theorem dX11_init_65 : decode cX11_init 65 = .ok (.bipush 20, 2) := eX11_init_32.2.2.2.1
theorem dX11_init_67 : decode cX11_init 67 = .ok (.newarray .int, 2) := eX11_init_32.2.2.2.2.1
theorem dX11_init_69 : decode cX11_init 69 = .ok (.putfield 34, 3) := eX11_init_32.2.2.2.2.2.1
theorem dX11_init_72 : decode cX11_init 72 = .ok (.aload_n 0, 1) := eX11_init_32.2.2.2.2.2.2.1
theorem dX11_init_73 : decode cX11_init 73 = .ok (.bipush 20, 2) := eX11_init_32.2.2.2.2.2.2.2
theorem eX11_init_40 : (decode cX11_init 75 = .ok (.newarray .int, 2)) ∧ (decode cX11_init 77 = .ok (.putfield 37, 3)) ∧ (decode cX11_init 80 = .ok (.aload_n 0, 1)) ∧ (decode cX11_init 81 = .ok (.bipush 20, 2)) ∧ (decode cX11_init 83 = .ok (.newarray .int, 2)) ∧ (decode cX11_init 85 = .ok (.putfield 40, 3)) ∧ (decode cX11_init 88 = .ok (.aload_n 0, 1)) ∧ (decode cX11_init 89 = .ok (.bipush 20, 2)) := by decide +kernel
theorem dX11_init_75 : decode cX11_init 75 = .ok (.newarray .int, 2) := eX11_init_40.1
theorem dX11_init_77 : decode cX11_init 77 = .ok (.putfield 37, 3) := eX11_init_40.2.1
theorem dX11_init_80 : decode cX11_init 80 = .ok (.aload_n 0, 1) := eX11_init_40.2.2.1
theorem dX11_init_81 : decode cX11_init 81 = .ok (.bipush 20, 2) := eX11_init_40.2.2.2.1
theorem dX11_init_83 : decode cX11_init 83 = .ok (.newarray .int, 2) := eX11_init_40.2.2.2.2.1
theorem dX11_init_85 : decode cX11_init 85 = .ok (.putfield 40, 3) := eX11_init_40.2.2.2.2.2.1
theorem dX11_init_88 : decode cX11_init 88 = .ok (.aload_n 0, 1) := eX11_init_40.2.2.2.2.2.2.1
theorem dX11_init_89 : decode cX11_init 89 = .ok (.bipush 20, 2) := eX11_init_40.2.2.2.2.2.2.2
theorem eX11_init_48 : (decode cX11_init 91 = .ok (.newarray .int, 2)) ∧ (decode cX11_init 93 = .ok (.putfield 43, 3)) ∧ (decode cX11_init 96 = .ok (.aload_n 0, 1)) ∧ (decode cX11_init 97 = .ok (.bipush 25, 2)) ∧ (decode cX11_init 99 = .ok (.newarray .int, 2)) ∧ (decode cX11_init 101 = .ok (.putfield 46, 3)) ∧ (decode cX11_init 104 = .ok (.aload_n 0, 1)) ∧ (decode cX11_init 105 = .ok (.bipush 60, 2)) := by decide +kernel
theorem dX11_init_91 : decode cX11_init 91 = .ok (.newarray .int, 2) := eX11_init_48.1
theorem dX11_init_93 : decode cX11_init 93 = .ok (.putfield 43, 3) := eX11_init_48.2.1
theorem dX11_init_96 : decode cX11_init 96 = .ok (.aload_n 0, 1) := eX11_init_48.2.2.1
theorem dX11_init_97 : decode cX11_init 97 = .ok (.bipush 25, 2) := eX11_init_48.2.2.2.1
theorem dX11_init_99 : decode cX11_init 99 = .ok (.newarray .int, 2) := eX11_init_48.2.2.2.2.1
theorem dX11_init_101 : decode cX11_init 101 = .ok (.putfield 46, 3) := eX11_init_48.2.2.2.2.2.1
theorem dX11_init_104 : decode cX11_init 104 = .ok (.aload_n 0, 1) := eX11_init_48.2.2.2.2.2.2.1
theorem dX11_init_105 : decode cX11_init 105 = .ok (.bipush 60, 2) := eX11_init_48.2.2.2.2.2.2.2
theorem eX11_init_56 : (decode cX11_init 107 = .ok (.newarray .boolean, 2)) ∧ (decode cX11_init 109 = .ok (.putfield 49, 3)) ∧ (decode cX11_init 112 = .ok (.aload_n 0, 1)) ∧ (decode cX11_init 113 = .ok (.bipush 60, 2)) ∧ (decode cX11_init 115 = .ok (.newarray .int, 2)) ∧ (decode cX11_init 117 = .ok (.putfield 53, 3)) ∧ (decode cX11_init 120 = .ok (.aload_n 0, 1)) ∧ (decode cX11_init 121 = .ok (.bipush 60, 2)) := by decide +kernel
theorem dX11_init_107 : decode cX11_init 107 = .ok (.newarray .boolean, 2) := eX11_init_56.1
theorem dX11_init_109 : decode cX11_init 109 = .ok (.putfield 49, 3) := eX11_init_56.2.1
theorem dX11_init_112 : decode cX11_init 112 = .ok (.aload_n 0, 1) := eX11_init_56.2.2.1
theorem dX11_init_113 : decode cX11_init 113 = .ok (.bipush 60, 2) := eX11_init_56.2.2.2.1
theorem dX11_init_115 : decode cX11_init 115 = .ok (.newarray .int, 2) := eX11_init_56.2.2.2.2.1
theorem dX11_init_117 : decode cX11_init 117 = .ok (.putfield 53, 3) := eX11_init_56.2.2.2.2.2.1
theorem dX11_init_120 : decode cX11_init 120 = .ok (.aload_n 0, 1) := eX11_init_56.2.2.2.2.2.2.1
theorem dX11_init_121 : decode cX11_init 121 = .ok (.bipush 60, 2) := eX11_init_56.2.2.2.2.2.2.2
theorem eX11_init_64 : (decode cX11_init 123 = .ok (.newarray .int, 2)) ∧ (decode cX11_init 125 = .ok (.putfield 56, 3)) ∧ (decode cX11_init 128 = .ok (.aload_n 0, 1)) ∧ (decode cX11_init 129 = .ok (.bipush 60, 2)) ∧ (decode cX11_init 131 = .ok (.newarray .int, 2)) ∧ (decode cX11_init 133 = .ok (.putfield 59, 3)) ∧ (decode cX11_init 136 = .ok (.aload_n 0, 1)) ∧ (decode cX11_init 137 = .ok (.bipush 60, 2)) := by decide +kernel
theorem dX11_init_123 : decode cX11_init 123 = .ok (.newarray .int, 2) := eX11_init_64.1
theorem dX11_init_125 : decode cX11_init 125 = .ok (.putfield 56, 3) := eX11_init_64.2.1
theorem dX11_init_128 : decode cX11_init 128 = .ok (.aload_n 0, 1) := eX11_init_64.2.2.1
theorem dX11_init_129 : decode cX11_init 129 = .ok (.bipush 60, 2) := eX11_init_64.2.2.2.1
theorem dX11_init_131 : decode cX11_init 131 = .ok (.newarray .int, 2) := eX11_init_64.2.2.2.2.1
theorem dX11_init_133 : decode cX11_init 133 = .ok (.putfield 59, 3) := eX11_init_64.2.2.2.2.2.1
theorem dX11_init_136 : decode cX11_init 136 = .ok (.aload_n 0, 1) := eX11_init_64.2.2.2.2.2.2.1
theorem dX11_init_137 : decode cX11_init 137 = .ok (.bipush 60, 2) := eX11_init_64.2.2.2.2.2.2.2
theorem eX11_init_72 : (decode cX11_init 139 = .ok (.newarray .int, 2)) ∧ (decode cX11_init 141 = .ok (.putfield 62, 3)) ∧ (decode cX11_init 144 = .ok (.aload_n 0, 1)) ∧ (decode cX11_init 145 = .ok (.bipush 60, 2)) ∧ (decode cX11_init 147 = .ok (.newarray .int, 2)) ∧ (decode cX11_init 149 = .ok (.putfield 65, 3)) ∧ (decode cX11_init 152 = .ok (.aload_n 0, 1)) ∧ (decode cX11_init 153 = .ok (.sipush 3060, 3)) := by decide +kernel
theorem dX11_init_139 : decode cX11_init 139 = .ok (.newarray .int, 2) := eX11_init_72.1
theorem dX11_init_141 : decode cX11_init 141 = .ok (.putfield 62, 3) := eX11_init_72.2.1
theorem dX11_init_144 : decode cX11_init 144 = .ok (.aload_n 0, 1) := eX11_init_72.2.2.1
theorem dX11_init_145 : decode cX11_init 145 = .ok (.bipush 60, 2) := eX11_init_72.2.2.2.1
theorem dX11_init_147 : decode cX11_init 147 = .ok (.newarray .int, 2) := eX11_init_72.2.2.2.2.1
theorem dX11_init_149 : decode cX11_init 149 = .ok (.putfield 65, 3) := eX11_init_72.2.2.2.2.2.1
theorem dX11_init_152 : decode cX11_init 152 = .ok (.aload_n 0, 1) := eX11_init_72.2.2.2.2.2.2.1
theorem dX11_init_153 : decode cX11_init 153 = .ok (.sipush 3060, 3) := eX11_init_72.2.2.2.2.2.2.2
theorem eX11_init_80 : (decode cX11_init 156 = .ok (.newarray .int, 2)) ∧ (decode cX11_init 158 = .ok (.putfield 68, 3)) ∧ (decode cX11_init 161 = .ok (.aload_n 0, 1)) ∧ (decode cX11_init 162 = .ok (.bipush 24, 2)) ∧ (decode cX11_init 164 = .ok (.newarray .int, 2)) ∧ (decode cX11_init 166 = .ok (.dup, 1)) ∧ (decode cX11_init 167 = .ok (.iconst 0, 1)) ∧ (decode cX11_init 168 = .ok (.bipush 100, 2)) := by decide +kernel
theorem dX11_init_156 : decode cX11_init 156 = .ok (.newarray .int, 2) := eX11_init_80.1
theorem dX11_init_158 : decode cX11_init 158 = .ok (.putfield 68, 3) := eX11_init_80.2.1
theorem dX11_init_161 : decode cX11_init 161 = .ok (.aload_n 0, 1) := eX11_init_80.2.2.1
theorem dX11_init_162 : decode cX11_init 162 = .ok (.bipush 24, 2) := eX11_init_80.2.2.2.1
theorem dX11_init_164 : decode cX11_init 164 = .ok (.newarray .int, 2) := eX11_init_80.2.2.2.2.1
theorem dX11_init_166 : decode cX11_init 166 = .ok (.dup, 1) := eX11_init_80.2.2.2.2.2.1
theorem dX11_init_167 : decode cX11_init 167 = .ok (.iconst 0, 1) := eX11_init_80.2.2.2.2.2.2.1
theorem dX11_init_168 : decode cX11_init 168 = .ok (.bipush 100, 2) := eX11_init_80.2.2.2.2.2.2.2
theorem eX11_init_88 : (decode cX11_init 170 = .ok (.iastore, 1)) ∧ (decode cX11_init 171 = .ok (.dup, 1)) ∧ (decode cX11_init 172 = .ok (.iconst 1, 1)) ∧ (decode cX11_init 173 = .ok (.bipush 100, 2)) ∧ (decode cX11_init 175 = .ok (.iastore, 1)) ∧ (decode cX11_init 176 = .ok (.dup, 1)) ∧ (decode cX11_init 177 = .ok (.iconst 2, 1)) ∧ (decode cX11_init 178 = .ok (.bipush 100, 2)) := by decide +kernel
theorem dX11_init_170 : decode cX11_init 170 = .ok (.iastore, 1) := eX11_init_88.1
theorem dX11_init_171 : decode cX11_init 171 = .ok (.dup, 1) := eX11_init_88.2.1
theorem dX11_init_172 : decode cX11_init 172 = .ok (.iconst 1, 1) := eX11_init_88.2.2.1
theorem dX11_init_173 : decode cX11_init 173 = .ok (.bipush 100, 2) := eX11_init_88.2.2.2.1
theorem dX11_init_175 : decode cX11_init 175 = .ok (.iastore, 1) := eX11_init_88.2.2.2.2.1
theorem dX11_init_176 : decode cX11_init 176 = .ok (.dup, 1) := eX11_init_88.2.2.2.2.2.1
theorem dX11_init_177 : decode cX11_init 177 = .ok (.iconst 2, 1) := eX11_init_88.2.2.2.2.2.2.1
theorem dX11_init_178 : decode cX11_init 178 = .ok (.bipush 100, 2) := eX11_init_88.2.2.2.2.2.2.2
theorem eX11_init_96 : (decode cX11_init 180 = .ok (.iastore, 1)) ∧ (decode cX11_init 181 = .ok (.dup, 1)) ∧ (decode cX11_init 182 = .ok (.iconst 3, 1)) ∧ (decode cX11_init 183 = .ok (.bipush 100, 2)) ∧ (decode cX11_init 185 = .ok (.iastore, 1)) ∧ (decode cX11_init 186 = .ok (.dup, 1)) ∧ (decode cX11_init 187 = .ok (.iconst 4, 1)) ∧ (decode cX11_init 188 = .ok (.bipush 100, 2)) := by decide +kernel
theorem dX11_init_180 : decode cX11_init 180 = .ok (.iastore, 1) := eX11_init_96.1
theorem dX11_init_181 : decode cX11_init 181 = .ok (.dup, 1) := eX11_init_96.2.1
theorem dX11_init_182 : decode cX11_init 182 = .ok (.iconst 3, 1) := eX11_init_96.2.2.1
theorem dX11_init_183 : decode cX11_init 183 = .ok (.bipush 100, 2) := eX11_init_96.2.2.2.1
theorem dX11_init_185 : decode cX11_init 185 = .ok (.iastore, 1) := eX11_init_96.2.2.2.2.1
theorem dX11_init_186 : decode cX11_init 186 = .ok (.dup, 1) := eX11_init_96.2.2.2.2.2.1
theorem dX11_init_187 : decode cX11_init 187 = .ok (.iconst 4, 1) := eX11_init_96.2.2.2.2.2.2.1
theorem dX11_init_188 : decode cX11_init 188 = .ok (.bipush 100, 2) := eX11_init_96.2.2.2.2.2.2.2
theorem eX11_init_104 : (decode cX11_init 190 = .ok (.iastore, 1)) ∧ (decode cX11_init 191 = .ok (.dup, 1)) ∧ (decode cX11_init 192 = .ok (.iconst 5, 1)) ∧ (decode cX11_init 193 = .ok (.bipush 100, 2)) ∧ (decode cX11_init 195 = .ok (.iastore, 1)) ∧ (decode cX11_init 196 = .ok (.dup, 1)) ∧ (decode cX11_init 197 = .ok (.bipush 6, 2)) ∧ (decode cX11_init 199 = .ok (.bipush 100, 2)) := by decide +kernel
theorem dX11_init_190 : decode cX11_init 190 = .ok (.iastore, 1) := eX11_init_104.1
theorem dX11_init_191 : decode cX11_init 191 = .ok (.dup, 1) := eX11_init_104.2.1
theorem dX11_init_192 : decode cX11_init 192 = .ok (.iconst 5, 1) := eX11_init_104.2.2.1
theorem dX11_init_193 : decode cX11_init 193 = .ok (.bipush 100, 2) := eX11_init_104.2.2.2.1
theorem dX11_init_195 : decode cX11_init 195 = .ok (.iastore, 1) := eX11_init_104.2.2.2.2.1
theorem dX11_init_196 : decode cX11_init 196 = .ok (.dup, 1) := eX11_init_104.2.2.2.2.2.1
theorem dX11_init_197 : decode cX11_init 197 = .ok (.bipush 6, 2) := eX11_init_104.2.2.2.2.2.2.1
theorem dX11_init_199 : decode cX11_init 199 = .ok (.bipush 100, 2) := eX11_init_104.2.2.2.2.2.2.2
theorem eX11_init_112 : (decode cX11_init 201 = .ok (.iastore, 1)) ∧ (decode cX11_init 202 = .ok (.dup, 1)) ∧ (decode cX11_init 203 = .ok (.bipush 7, 2)) ∧ (decode cX11_init 205 = .ok (.bipush 100, 2)) ∧ (decode cX11_init 207 = .ok (.iastore, 1)) ∧ (decode cX11_init 208 = .ok (.dup, 1)) ∧ (decode cX11_init 209 = .ok (.bipush 8, 2)) ∧ (decode cX11_init 211 = .ok (.bipush 100, 2)) := by decide +kernel
theorem dX11_init_201 : decode cX11_init 201 = .ok (.iastore, 1) := eX11_init_112.1
theorem dX11_init_202 : decode cX11_init 202 = .ok (.dup, 1) := eX11_init_112.2.1
theorem dX11_init_203 : decode cX11_init 203 = .ok (.bipush 7, 2) := eX11_init_112.2.2.1
theorem dX11_init_205 : decode cX11_init 205 = .ok (.bipush 100, 2) := eX11_init_112.2.2.2.1
theorem dX11_init_207 : decode cX11_init 207 = .ok (.iastore, 1) := eX11_init_112.2.2.2.2.1
theorem dX11_init_208 : decode cX11_init 208 = .ok (.dup, 1) := eX11_init_112.2.2.2.2.2.1
theorem dX11_init_209 : decode cX11_init 209 = .ok (.bipush 8, 2) := eX11_init_112.2.2.2.2.2.2.1
theorem dX11_init_211 : decode cX11_init 211 = .ok (.bipush 100, 2) := eX11_init_112.2.2.2.2.2.2.2
theorem eX11_init_120 : (decode cX11_init 213 = .ok (.iastore, 1)) ∧ (decode cX11_init 214 = .ok (.dup, 1)) ∧ (decode cX11_init 215 = .ok (.bipush 9, 2)) ∧ (decode cX11_init 217 = .ok (.bipush 100, 2)) ∧ (decode cX11_init 219 = .ok (.iastore, 1)) ∧ (decode cX11_init 220 = .ok (.dup, 1)) ∧ (decode cX11_init 221 = .ok (.bipush 10, 2)) ∧ (decode cX11_init 223 = .ok (.bipush 100, 2)) := by decide +kernel
theorem dX11_init_213 : decode cX11_init 213 = .ok (.iastore, 1) := eX11_init_120.1
theorem dX11_init_214 : decode cX11_init 214 = .ok (.dup, 1) := eX11_init_120.2.1
theorem dX11_init_215 : decode cX11_init 215 = .ok (.bipush 9, 2) := eX11_init_120.2.2.1
theorem dX11_init_217 : decode cX11_init 217 = .ok (.bipush 100, 2) := eX11_init_120.2.2.2.1
theorem dX11_init_219 : decode cX11_init 219 = .ok (.iastore, 1) := eX11_init_120.2.2.2.2.1
theorem dX11_init_220 : decode cX11_init 220 = .ok (.dup, 1) := eX11_init_120.2.2.2.2.2.1
theorem dX11_init_221 : decode cX11_init 221 = .ok (.bipush 10, 2) := eX11_init_120.2.2.2.2.2.2.1
theorem dX11_init_223 : decode cX11_init 223 = .ok (.bipush 100, 2) := eX11_init_120.2.2.2.2.2.2.2
theorem eX11_init_128 : (decode cX11_init 225 = .ok (.iastore, 1)) ∧ (decode cX11_init 226 = .ok (.dup, 1)) ∧ (decode cX11_init 227 = .ok (.bipush 11, 2)) ∧ (decode cX11_init 229 = .ok (.bipush 100, 2)) ∧ (decode cX11_init 231 = .ok (.iastore, 1)) ∧ (decode cX11_init 232 = .ok (.dup, 1)) ∧ (decode cX11_init 233 = .ok (.bipush 12, 2)) ∧ (decode cX11_init 235 = .ok (.bipush 100, 2)) := by decide +kernel
theorem dX11_init_225 : decode cX11_init 225 = .ok (.iastore, 1) := eX11_init_128.1
theorem dX11_init_226 : decode cX11_init 226 = .ok (.dup, 1) := eX11_init_128.2.1
theorem dX11_init_227 : decode cX11_init 227 = .ok (.bipush 11, 2) := eX11_init_128.2.2.1
theorem dX11_init_229 : decode cX11_init 229 = .ok (.bipush 100, 2) := eX11_init_128.2.2.2.1
theorem dX11_init_231 : decode cX11_init 231 = .ok (.iastore, 1) := eX11_init_128.2.2.2.2.1
theorem dX11_init_232 : decode cX11_init 232 = .ok (.dup, 1) := eX11_init_128.2.2.2.2.2.1
theorem dX11_init_233 : decode cX11_init 233 = .ok (.bipush 12, 2) := eX11_init_128.2.2.2.2.2.2.1
theorem dX11_init_235 : decode cX11_init 235 = .ok (.bipush 100, 2) := eX11_init_128.2.2.2.2.2.2.2
theorem eX11_init_136 : (decode cX11_init 237 = .ok (.iastore, 1)) ∧ (decode cX11_init 238 = .ok (.dup, 1)) ∧ (decode cX11_init 239 = .ok (.bipush 13, 2)) ∧ (decode cX11_init 241 = .ok (.bipush 100, 2)) ∧ (decode cX11_init 243 = .ok (.iastore, 1)) ∧ (decode cX11_init 244 = .ok (.dup, 1)) ∧ (decode cX11_init 245 = .ok (.bipush 14, 2)) ∧ (decode cX11_init 247 = .ok (.bipush 100, 2)) := by decide +kernel
theorem dX11_init_237 : decode cX11_init 237 = .ok (.iastore, 1) := eX11_init_136.1
theorem dX11_init_238 : decode cX11_init 238 = .ok (.dup, 1) := eX11_init_136.2.1
theorem dX11_init_239 : decode cX11_init 239 = .ok (.bipush 13, 2) := eX11_init_136.2.2.1
theorem dX11_init_241 : decode cX11_init 241 = .ok (.bipush 100, 2) := eX11_init_136.2.2.2.1
theorem dX11_init_243 : decode cX11_init 243 = .ok (.iastore, 1) := eX11_init_136.2.2.2.2.1
theorem dX11_init_244 : decode cX11_init 244 = .ok (.dup, 1) := eX11_init_136.2.2.2.2.2.1
theorem dX11_init_245 : decode cX11_init 245 = .ok (.bipush 14, 2) := eX11_init_136.2.2.2.2.2.2.1
theorem dX11_init_247 : decode cX11_init 247 = .ok (.bipush 100, 2) := eX11_init_136.2.2.2.2.2.2.2
theorem eX11_init_144 : (decode cX11_init 249 = .ok (.iastore, 1)) ∧ (decode cX11_init 250 = .ok (.dup, 1)) ∧ (decode cX11_init 251 = .ok (.bipush 15, 2)) ∧ (decode cX11_init 253 = .ok (.bipush 100, 2)) ∧ (decode cX11_init 255 = .ok (.iastore, 1)) ∧ (decode cX11_init 256 = .ok (.dup, 1)) ∧ (decode cX11_init 257 = .ok (.bipush 16, 2)) ∧ (decode cX11_init 259 = .ok (.bipush 100, 2)) := by decide +kernel
theorem dX11_init_249 : decode cX11_init 249 = .ok (.iastore, 1) := eX11_init_144.1
theorem dX11_init_250 : decode cX11_init 250 = .ok (.dup, 1) := eX11_init_144.2.1
theorem dX11_init_251 : decode cX11_init 251 = .ok (.bipush 15, 2) := eX11_init_144.2.2.1
theorem dX11_init_253 : decode cX11_init 253 = .ok (.bipush 100, 2) := eX11_init_144.2.2.2.1
theorem dX11_init_255 : decode cX11_init 255 = .ok (.iastore, 1) := eX11_init_144.2.2.2.2.1
theorem dX11_init_256 : decode cX11_init 256 = .ok (.dup, 1) := eX11_init_144.2.2.2.2.2.1
theorem dX11_init_257 : decode cX11_init 257 = .ok (.bipush 16, 2) := eX11_init_144.2.2.2.2.2.2.1
theorem dX11_init_259 : decode cX11_init 259 = .ok (.bipush 100, 2) := eX11_init_144.2.2.2.2.2.2.2
theorem eX11_init_152 : (decode cX11_init 261 = .ok (.iastore, 1)) ∧ (decode cX11_init 262 = .ok (.dup, 1)) ∧ (decode cX11_init 263 = .ok (.bipush 17, 2)) ∧ (decode cX11_init 265 = .ok (.bipush 100, 2)) ∧ (decode cX11_init 267 = .ok (.iastore, 1)) ∧ (decode cX11_init 268 = .ok (.dup, 1)) ∧ (decode cX11_init 269 = .ok (.bipush 18, 2)) ∧ (decode cX11_init 271 = .ok (.bipush 100, 2)) := by decide +kernel
theorem dX11_init_261 : decode cX11_init 261 = .ok (.iastore, 1) := eX11_init_152.1
theorem dX11_init_262 : decode cX11_init 262 = .ok (.dup, 1) := eX11_init_152.2.1
theorem dX11_init_263 : decode cX11_init 263 = .ok (.bipush 17, 2) := eX11_init_152.2.2.1
theorem dX11_init_265 : decode cX11_init 265 = .ok (.bipush 100, 2) := eX11_init_152.2.2.2.1
theorem dX11_init_267 : decode cX11_init 267 = .ok (.iastore, 1) := eX11_init_152.2.2.2.2.1
theorem dX11_init_268 : decode cX11_init 268 = .ok (.dup, 1) := eX11_init_152.2.2.2.2.2.1
theorem dX11_init_269 : decode cX11_init 269 = .ok (.bipush 18, 2) := eX11_init_152.2.2.2.2.2.2.1
theorem dX11_init_271 : decode cX11_init 271 = .ok (.bipush 100, 2) := eX11_init_152.2.2.2.2.2.2.2
theorem eX11_init_160 : (decode cX11_init 273 = .ok (.iastore, 1)) ∧ (decode cX11_init 274 = .ok (.dup, 1)) ∧ (decode cX11_init 275 = .ok (.bipush 19, 2)) ∧ (decode cX11_init 277 = .ok (.bipush 100, 2)) ∧ (decode cX11_init 279 = .ok (.iastore, 1)) ∧ (decode cX11_init 280 = .ok (.dup, 1)) ∧ (decode cX11_init 281 = .ok (.bipush 20, 2)) ∧ (decode cX11_init 283 = .ok (.bipush 100, 2)) := by decide +kernel
theorem dX11_init_273 : decode cX11_init 273 = .ok (.iastore, 1) := eX11_init_160.1
theorem dX11_init_274 : decode cX11_init 274 = .ok (.dup, 1) := eX11_init_160.2.1
theorem dX11_init_275 : decode cX11_init 275 = .ok (.bipush 19, 2) := eX11_init_160.2.2.1
theorem dX11_init_277 : decode cX11_init 277 = .ok (.bipush 100, 2) := eX11_init_160.2.2.2.1
theorem dX11_init_279 : decode cX11_init 279 = .ok (.iastore, 1) := eX11_init_160.2.2.2.2.1
theorem dX11_init_280 : decode cX11_init 280 = .ok (.dup, 1) := eX11_init_160.2.2.2.2.2.1
theorem dX11_init_281 : decode cX11_init 281 = .ok (.bipush 20, 2) := eX11_init_160.2.2.2.2.2.2.1
theorem dX11_init_283 : decode cX11_init 283 = .ok (.bipush 100, 2) := eX11_init_160.2.2.2.2.2.2.2
theorem eX11_init_168 : (decode cX11_init 285 = .ok (.iastore, 1)) ∧ (decode cX11_init 286 = .ok (.dup, 1)) ∧ (decode cX11_init 287 = .ok (.bipush 21, 2)) ∧ (decode cX11_init 289 = .ok (.bipush 100, 2)) ∧ (decode cX11_init 291 = .ok (.iastore, 1)) ∧ (decode cX11_init 292 = .ok (.dup, 1)) ∧ (decode cX11_init 293 = .ok (.bipush 22, 2)) ∧ (decode cX11_init 295 = .ok (.bipush 100, 2)) := by decide +kernel
theorem dX11_init_285 : decode cX11_init 285 = .ok (.iastore, 1) := eX11_init_168.1
theorem dX11_init_286 : decode cX11_init 286 = .ok (.dup, 1) := eX11_init_168.2.1
theorem dX11_init_287 : decode cX11_init 287 = .ok (.bipush 21, 2) := eX11_init_168.2.2.1
theorem dX11_init_289 : decode cX11_init 289 = .ok (.bipush 100, 2) := eX11_init_168.2.2.2.1
theorem dX11_init_291 : decode cX11_init 291 = .ok (.iastore, 1) := eX11_init_168.2.2.2.2.1
theorem dX11_init_292 : decode cX11_init 292 = .ok (.dup, 1) := eX11_init_168.2.2.2.2.2.1
theorem dX11_init_293 : decode cX11_init 293 = .ok (.bipush 22, 2) := eX11_init_168.2.2.2.2.2.2.1
theorem dX11_init_295 : decode cX11_init 295 = .ok (.bipush 100, 2) := eX11_init_168.2.2.2.2.2.2.2
theorem eX11_init_176 : (decode cX11_init 297 = .ok (.iastore, 1)) ∧ (decode cX11_init 298 = .ok (.dup, 1)) ∧ (decode cX11_init 299 = .ok (.bipush 23, 2)) ∧ (decode cX11_init 301 = .ok (.bipush 100, 2)) ∧ (decode cX11_init 303 = .ok (.iastore, 1)) ∧ (decode cX11_init 304 = .ok (.putfield 71, 3)) ∧ (decode cX11_init 307 = .ok (.aload_n 0, 1)) ∧ (decode cX11_init 308 = .ok (.bipush 10, 2)) := by decide +kernel
theorem dX11_init_297 : decode cX11_init 297 = .ok (.iastore, 1) := eX11_init_176.1
theorem dX11_init_298 : decode cX11_init 298 = .ok (.dup, 1) := eX11_init_176.2.1
theorem dX11_init_299 : decode cX11_init 299 = .ok (.bipush 23, 2) := eX11_init_176.2.2.1
theorem dX11_init_301 : decode cX11_init 301 = .ok (.bipush 100, 2) := eX11_init_176.2.2.2.1
theorem dX11_init_303 : decode cX11_init 303 = .ok (.iastore, 1) := eX11_init_176.2.2.2.2.1
theorem dX11_init_304 : decode cX11_init 304 = .ok (.putfield 71, 3) := eX11_init_176.2.2.2.2.2.1
theorem dX11_init_307 : decode cX11_init 307 = .ok (.aload_n 0, 1) := eX11_init_176.2.2.2.2.2.2.1
theorem dX11_init_308 : decode cX11_init 308 = .ok (.bipush 10, 2) := eX11_init_176.2.2.2.2.2.2.2
theorem eX11_init_184 : (decode cX11_init 310 = .ok (.newarray .int, 2)) ∧ (decode cX11_init 312 = .ok (.putfield 74, 3)) ∧ (decode cX11_init 315 = .ok (.aload_n 0, 1)) ∧ (decode cX11_init 316 = .ok (.bipush 50, 2)) ∧ (decode cX11_init 318 = .ok (.putfield 77, 3)) ∧ (decode cX11_init 321 = .ok (.aload_n 0, 1)) ∧ (decode cX11_init 322 = .ok (.bipush 60, 2)) ∧ (decode cX11_init 324 = .ok (.newarray .int, 2)) := by decide +kernel
theorem dX11_init_310 : decode cX11_init 310 = .ok (.newarray .int, 2) := eX11_init_184.1
theorem dX11_init_312 : decode cX11_init 312 = .ok (.putfield 74, 3) := eX11_init_184.2.1
theorem dX11_init_315 : decode cX11_init 315 = .ok (.aload_n 0, 1) := eX11_init_184.2.2.1
theorem dX11_init_316 : decode cX11_init 316 = .ok (.bipush 50, 2) := eX11_init_184.2.2.2.1
theorem dX11_init_318 : decode cX11_init 318 = .ok (.putfield 77, 3) := eX11_init_184.2.2.2.2.1
theorem dX11_init_321 : decode cX11_init 321 = .ok (.aload_n 0, 1) := eX11_init_184.2.2.2.2.2.1
theorem dX11_init_322 : decode cX11_init 322 = .ok (.bipush 60, 2) := eX11_init_184.2.2.2.2.2.2.1
theorem dX11_init_324 : decode cX11_init 324 = .ok (.newarray .int, 2) := eX11_init_184.2.2.2.2.2.2.2
theorem eX11_init_192 : (decode cX11_init 326 = .ok (.putfield 81, 3)) ∧ (decode cX11_init 329 = .ok (.aload_n 0, 1)) ∧ (decode cX11_init 330 = .ok (.bipush 60, 2)) ∧ (decode cX11_init 332 = .ok (.newarray .boolean, 2)) ∧ (decode cX11_init 334 = .ok (.putfield 84, 3)) ∧ (decode cX11_init 337 = .ok (.aload_n 0, 1)) ∧ (decode cX11_init 338 = .ok (.bipush 10, 2)) ∧ (decode cX11_init 340 = .ok (.newarray .int, 2)) := by decide +kernel
theorem dX11_init_326 : decode cX11_init 326 = .ok (.putfield 81, 3) := eX11_init_192.1
theorem dX11_init_329 : decode cX11_init 329 = .ok (.aload_n 0, 1) := eX11_init_192.2.1
theorem dX11_init_330 : decode cX11_init 330 = .ok (.bipush 60, 2) := eX11_init_192.2.2.1
theorem dX11_init_332 : decode cX11_init 332 = .ok (.newarray .boolean, 2) := eX11_init_192.2.2.2.1
theorem dX11_init_334 : decode cX11_init 334 = .ok (.putfield 84, 3) := eX11_init_192.2.2.2.2.1
theorem dX11_init_337 : decode cX11_init 337 = .ok (.aload_n 0, 1) := eX11_init_192.2.2.2.2.2.1
theorem dX11_init_338 : decode cX11_init 338 = .ok (.bipush 10, 2) := eX11_init_192.2.2.2.2.2.2.1
theorem dX11_init_340 : decode cX11_init 340 = .ok (.newarray .int, 2) := eX11_init_192.2.2.2.2.2.2.2
theorem eX11_init_200 : (decode cX11_init 342 = .ok (.putfield 87, 3)) ∧ (decode cX11_init 345 = .ok (.aload_n 0, 1)) ∧ (decode cX11_init 346 = .ok (.bipush 50, 2)) ∧ (decode cX11_init 348 = .ok (.newarray .int, 2)) ∧ (decode cX11_init 350 = .ok (.putfield 90, 3)) ∧ (decode cX11_init 353 = .ok (.aload_n 0, 1)) ∧ (decode cX11_init 354 = .ok (.bipush 10, 2)) ∧ (decode cX11_init 356 = .ok (.newarray .int, 2)) := by decide +kernel
theorem dX11_init_342 : decode cX11_init 342 = .ok (.putfield 87, 3) := eX11_init_200.1
theorem dX11_init_345 : decode cX11_init 345 = .ok (.aload_n 0, 1) := eX11_init_200.2.1
theorem dX11_init_346 : decode cX11_init 346 = .ok (.bipush 50, 2) := eX11_init_200.2.2.1
theorem dX11_init_348 : decode cX11_init 348 = .ok (.newarray .int, 2) := eX11_init_200.2.2.2.1
theorem dX11_init_350 : decode cX11_init 350 = .ok (.putfield 90, 3) := eX11_init_200.2.2.2.2.1
theorem dX11_init_353 : decode cX11_init 353 = .ok (.aload_n 0, 1) := eX11_init_200.2.2.2.2.2.1
theorem dX11_init_354 : decode cX11_init 354 = .ok (.bipush 10, 2) := eX11_init_200.2.2.2.2.2.2.1
theorem dX11_init_356 : decode cX11_init 356 = .ok (.newarray .int, 2) := eX11_init_200.2.2.2.2.2.2.2
theorem eX11_init_208 : (decode cX11_init 358 = .ok (.putfield 93, 3)) ∧ (decode cX11_init 361 = .ok (.aload_n 0, 1)) ∧ (decode cX11_init 362 = .ok (.bipush 100, 2)) ∧ (decode cX11_init 364 = .ok (.newarray .int, 2)) ∧ (decode cX11_init 366 = .ok (.putfield 96, 3)) ∧ (decode cX11_init 369 = .ok (.aload_n 0, 1)) ∧ (decode cX11_init 370 = .ok (.bipush 100, 2)) ∧ (decode cX11_init 372 = .ok (.newarray .int, 2)) := by decide +kernel
theorem dX11_init_358 : decode cX11_init 358 = .ok (.putfield 93, 3) := eX11_init_208.1
theorem dX11_init_361 : decode cX11_init 361 = .ok (.aload_n 0, 1) := eX11_init_208.2.1
theorem dX11_init_362 : decode cX11_init 362 = .ok (.bipush 100, 2) := eX11_init_208.2.2.1
theorem dX11_init_364 : decode cX11_init 364 = .ok (.newarray .int, 2) := eX11_init_208.2.2.2.1
theorem dX11_init_366 : decode cX11_init 366 = .ok (.putfield 96, 3) := eX11_init_208.2.2.2.2.1
theorem dX11_init_369 : decode cX11_init 369 = .ok (.aload_n 0, 1) := eX11_init_208.2.2.2.2.2.1
theorem dX11_init_370 : decode cX11_init 370 = .ok (.bipush 100, 2) := eX11_init_208.2.2.2.2.2.2.1
theorem dX11_init_372 : decode cX11_init 372 = .ok (.newarray .int, 2) := eX11_init_208.2.2.2.2.2.2.2
theorem eX11_init_216 : (decode cX11_init 374 = .ok (.putfield 99, 3)) ∧ (decode cX11_init 377 = .ok (.aload_n 0, 1)) ∧ (decode cX11_init 378 = .ok (.bipush 100, 2)) ∧ (decode cX11_init 380 = .ok (.newarray .int, 2)) ∧ (decode cX11_init 382 = .ok (.putfield 102, 3)) ∧ (decode cX11_init 385 = .ok (.aload_n 0, 1)) ∧ (decode cX11_init 386 = .ok (.bipush 100, 2)) ∧ (decode cX11_init 388 = .ok (.newarray .int, 2)) := by decide +kernel
theorem dX11_init_374 : decode cX11_init 374 = .ok (.putfield 99, 3) := eX11_init_216.1
theorem dX11_init_377 : decode cX11_init 377 = .ok (.aload_n 0, 1) := eX11_init_216.2.1
theorem dX11_init_378 : decode cX11_init 378 = .ok (.bipush 100, 2) := eX11_init_216.2.2.1
theorem dX11_init_380 : decode cX11_init 380 = .ok (.newarray .int, 2) := eX11_init_216.2.2.2.1
theorem dX11_init_382 : decode cX11_init 382 = .ok (.putfield 102, 3) := eX11_init_216.2.2.2.2.1
theorem dX11_init_385 : decode cX11_init 385 = .ok (.aload_n 0, 1) := eX11_init_216.2.2.2.2.2.1
theorem dX11_init_386 : decode cX11_init 386 = .ok (.bipush 100, 2) := eX11_init_216.2.2.2.2.2.2.1
theorem dX11_init_388 : decode cX11_init 388 = .ok (.newarray .int, 2) := eX11_init_216.2.2.2.2.2.2.2
theorem eX11_init_224 : (decode cX11_init 390 = .ok (.putfield 105, 3)) ∧ (decode cX11_init 393 = .ok (.aload_n 0, 1)) ∧ (decode cX11_init 394 = .ok (.sipush 300, 3)) ∧ (decode cX11_init 397 = .ok (.newarray .int, 2)) ∧ (decode cX11_init 399 = .ok (.putfield 108, 3)) ∧ (decode cX11_init 402 = .ok (.aload_n 0, 1)) ∧ (decode cX11_init 403 = .ok (.iconst 5, 1)) ∧ (decode cX11_init 404 = .ok (.newarray .int, 2)) := by decide +kernel
theorem dX11_init_390 : decode cX11_init 390 = .ok (.putfield 105, 3) := eX11_init_224.1
theorem dX11_init_393 : decode cX11_init 393 = .ok (.aload_n 0, 1) := eX11_init_224.2.1
theorem dX11_init_394 : decode cX11_init 394 = .ok (.sipush 300, 3) := eX11_init_224.2.2.1
theorem dX11_init_397 : decode cX11_init 397 = .ok (.newarray .int, 2) := eX11_init_224.2.2.2.1
theorem dX11_init_399 : decode cX11_init 399 = .ok (.putfield 108, 3) := eX11_init_224.2.2.2.2.1
theorem dX11_init_402 : decode cX11_init 402 = .ok (.aload_n 0, 1) := eX11_init_224.2.2.2.2.2.1
theorem dX11_init_403 : decode cX11_init 403 = .ok (.iconst 5, 1) := eX11_init_224.2.2.2.2.2.2.1
theorem dX11_init_404 : decode cX11_init 404 = .ok (.newarray .int, 2) := eX11_init_224.2.2.2.2.2.2.2
theorem eX11_init_232 : (decode cX11_init 406 = .ok (.putfield 111, 3)) ∧ (decode cX11_init 409 = .ok (.aload_n 0, 1)) ∧ (decode cX11_init 410 = .ok (.sipush 300, 3)) ∧ (decode cX11_init 413 = .ok (.newarray .int, 2)) ∧ (decode cX11_init 415 = .ok (.putfield 114, 3)) ∧ (decode cX11_init 418 = .ok (.aload_n 0, 1)) ∧ (decode cX11_init 419 = .ok (.iconst 5, 1)) ∧ (decode cX11_init 420 = .ok (.newarray .int, 2)) := by decide +kernel
theorem dX11_init_406 : decode cX11_init 406 = .ok (.putfield 111, 3) := eX11_init_232.1
theorem dX11_init_409 : decode cX11_init 409 = .ok (.aload_n 0, 1) := eX11_init_232.2.1
theorem dX11_init_410 : decode cX11_init 410 = .ok (.sipush 300, 3) := eX11_init_232.2.2.1
theorem dX11_init_413 : decode cX11_init 413 = .ok (.newarray .int, 2) := eX11_init_232.2.2.2.1
theorem dX11_init_415 : decode cX11_init 415 = .ok (.putfield 114, 3) := eX11_init_232.2.2.2.2.1
theorem dX11_init_418 : decode cX11_init 418 = .ok (.aload_n 0, 1) := eX11_init_232.2.2.2.2.2.1
theorem dX11_init_419 : decode cX11_init 419 = .ok (.iconst 5, 1) := eX11_init_232.2.2.2.2.2.2.1
theorem dX11_init_420 : decode cX11_init 420 = .ok (.newarray .int, 2) := eX11_init_232.2.2.2.2.2.2.2
theorem eX11_init_240 : (decode cX11_init 422 = .ok (.putfield 117, 3)) ∧ (decode cX11_init 425 = .ok (.aload_n 0, 1)) ∧ (decode cX11_init 426 = .ok (.sipush 300, 3)) ∧ (decode cX11_init 429 = .ok (.newarray .int, 2)) ∧ (decode cX11_init 431 = .ok (.putfield 120, 3)) ∧ (decode cX11_init 434 = .ok (.aload_n 0, 1)) ∧ (decode cX11_init 435 = .ok (.sipush 300, 3)) ∧ (decode cX11_init 438 = .ok (.newarray .int, 2)) := by decide +kernel
theorem dX11_init_422 : decode cX11_init 422 = .ok (.putfield 117, 3) := eX11_init_240.1
theorem dX11_init_425 : decode cX11_init 425 = .ok (.aload_n 0, 1) := eX11_init_240.2.1
theorem dX11_init_426 : decode cX11_init 426 = .ok (.sipush 300, 3) := eX11_init_240.2.2.1
theorem dX11_init_429 : decode cX11_init 429 = .ok (.newarray .int, 2) := eX11_init_240.2.2.2.1
theorem dX11_init_431 : decode cX11_init 431 = .ok (.putfield 120, 3) := eX11_init_240.2.2.2.2.1
theorem dX11_init_434 : decode cX11_init 434 = .ok (.aload_n 0, 1) := eX11_init_240.2.2.2.2.2.1
theorem dX11_init_435 : decode cX11_init 435 = .ok (.sipush 300, 3) := eX11_init_240.2.2.2.2.2.2.1
theorem dX11_init_438 : decode cX11_init 438 = .ok (.newarray .int, 2) := eX11_init_240.2.2.2.2.2.2.2
theorem eX11_init_248 : (decode cX11_init 440 = .ok (.putfield 123, 3)) ∧ (decode cX11_init 443 = .ok (.aload_n 0, 1)) ∧ (decode cX11_init 444 = .ok (.iconst (-1), 1)) ∧ (decode cX11_init 445 = .ok (.putfield 126, 3)) ∧ (decode cX11_init 448 = .ok (.aload_n 0, 1)) ∧ (decode cX11_init 449 = .ok (.bipush 50, 2)) ∧ (decode cX11_init 451 = .ok (.newarray .boolean, 2)) ∧ (decode cX11_init 453 = .ok (.putfield 129, 3)) := by decide +kernel
theorem dX11_init_440 : decode cX11_init 440 = .ok (.putfield 123, 3) := eX11_init_248.1
theorem dX11_init_443 : decode cX11_init 443 = .ok (.aload_n 0, 1) := eX11_init_248.2.1
theorem dX11_init_444 : decode cX11_init 444 = .ok (.iconst (-1), 1) := eX11_init_248.2.2.1
theorem dX11_init_445 : decode cX11_init 445 = .ok (.putfield 126, 3) := eX11_init_248.2.2.2.1
theorem dX11_init_448 : decode cX11_init 448 = .ok (.aload_n 0, 1) := eX11_init_248.2.2.2.2.1
theorem dX11_init_449 : decode cX11_init 449 = .ok (.bipush 50, 2) := eX11_init_248.2.2.2.2.2.1
theorem dX11_init_451 : decode cX11_init 451 = .ok (.newarray .boolean, 2) := eX11_init_248.2.2.2.2.2.2.1
theorem dX11_init_453 : decode cX11_init 453 = .ok (.putfield 129, 3) := eX11_init_248.2.2.2.2.2.2.2
theorem eX11_init_256 : (decode cX11_init 456 = .ok (.aload_n 0, 1)) ∧ (decode cX11_init 457 = .ok (.bipush 20, 2)) ∧ (decode cX11_init 459 = .ok (.newarray .boolean, 2)) ∧ (decode cX11_init 461 = .ok (.putfield 132, 3)) ∧ (decode cX11_init 464 = .ok (.aload_n 0, 1)) ∧ (decode cX11_init 465 = .ok (.bipush 20, 2)) ∧ (decode cX11_init 467 = .ok (.newarray .int, 2)) ∧ (decode cX11_init 469 = .ok (.putfield 135, 3)) := by decide +kernel
theorem dX11_init_456 : decode cX11_init 456 = .ok (.aload_n 0, 1) := eX11_init_256.1
theorem dX11_init_457 : decode cX11_init 457 = .ok (.bipush 20, 2) := eX11_init_256.2.1
theorem dX11_init_459 : decode cX11_init 459 = .ok (.newarray .boolean, 2) := eX11_init_256.2.2.1
theorem dX11_init_461 : decode cX11_init 461 = .ok (.putfield 132, 3) := eX11_init_256.2.2.2.1
theorem dX11_init_464 : decode cX11_init 464 = .ok (.aload_n 0, 1) := eX11_init_256.2.2.2.2.1
theorem dX11_init_465 : decode cX11_init 465 = .ok (.bipush 20, 2) := eX11_init_256.2.2.2.2.2.1
theorem dX11_init_467 : decode cX11_init 467 = .ok (.newarray .int, 2) := eX11_init_256.2.2.2.2.2.2.1
theorem dX11_init_469 : decode cX11_init 469 = .ok (.putfield 135, 3) := eX11_init_256.2.2.2.2.2.2.2
theorem eX11_init_264 : (decode cX11_init 472 = .ok (.aload_n 0, 1)) ∧ (decode cX11_init 473 = .ok (.sipush 420, 3)) ∧ (decode cX11_init 476 = .ok (.newarray .int, 2)) ∧ (decode cX11_init 478 = .ok (.putfield 138, 3)) ∧ (decode cX11_init 481 = .ok (.aload_n 0, 1)) ∧ (decode cX11_init 482 = .ok (.iconst (-1), 1)) ∧ (decode cX11_init 483 = .ok (.putfield 141, 3)) ∧ (decode cX11_init 486 = .ok (.return_, 1)) := by decide +kernel
theorem dX11_init_472 : decode cX11_init 472 = .ok (.aload_n 0, 1) := eX11_init_264.1
theorem dX11_init_473 : decode cX11_init 473 = .ok (.sipush 420, 3) := eX11_init_264.2.1
theorem dX11_init_476 : decode cX11_init 476 = .ok (.newarray .int, 2) := eX11_init_264.2.2.1
theorem dX11_init_478 : decode cX11_init 478 = .ok (.putfield 138, 3) := eX11_init_264.2.2.2.1
theorem dX11_init_481 : decode cX11_init 481 = .ok (.aload_n 0, 1) := eX11_init_264.2.2.2.2.1
theorem dX11_init_482 : decode cX11_init 482 = .ok (.iconst (-1), 1) := eX11_init_264.2.2.2.2.2.1
theorem dX11_init_483 : decode cX11_init 483 = .ok (.putfield 141, 3) := eX11_init_264.2.2.2.2.2.2.1
theorem dX11_init_486 : decode cX11_init 486 = .ok (.return_, 1) := eX11_init_264.2.2.2.2.2.2.2
theorem eX11_in_0 : (decode cX11_in 0 = .ok (.lload_n 0, 1)) ∧ (decode cX11_in 1 = .ok (.lload_n 2, 1)) ∧ (decode cX11_in 2 = .ok (.lcmp, 1)) ∧ (decode cX11_in 3 = .ok (.ifCond .lt 14, 3)) ∧ (decode cX11_in 6 = .ok (.lload_n 0, 1)) ∧ (decode cX11_in 7 = .ok (.lload 4, 2)) ∧ (decode cX11_in 9 = .ok (.lcmp, 1)) ∧ (decode cX11_in 10 = .ok (.ifCond .gt 7, 3)) := by decide +kernel
theorem dX11_in_0 : decode cX11_in 0 = .ok (.lload_n 0, 1) := eX11_in_0.1
theorem dX11_in_1 : decode cX11_in 1 = .ok (.lload_n 2, 1) := eX11_in_0.2.1
theorem dX11_in_2 : decode cX11_in 2 = .ok (.lcmp, 1) := eX11_in_0.2.2.1
theorem dX11_in_3 : decode cX11_in 3 = .ok (.ifCond .lt 14, 3) := eX11_in_0.2.2.2.1
theorem dX11_in_6 : decode cX11_in 6 = .ok (.lload_n 0, 1) := eX11_in_0.2.2.2.2.1
theorem dX11_in_7 : decode cX11_in 7 = .ok (.lload 4, 2) := eX11_in_0.2.2.2.2.2.1
theorem dX11_in_9 : decode cX11_in 9 = .ok (.lcmp, 1) := eX11_in_0.2.2.2.2.2.2.1
theorem dX11_in_10 : decode cX11_in 10 = .ok (.ifCond .gt 7, 3) := eX11_in_0.2.2.2.2.2.2.2
theorem eX11_in_8 : (decode cX11_in 13 = .ok (.iconst 1, 1)) ∧ (decode cX11_in 14 = .ok (.goto 4, 3)) ∧ (decode cX11_in 17 = .ok (.iconst 0, 1)) ∧ (decode cX11_in 18 = .ok (.ireturn, 1)) := by decide +kernel
theorem dX11_in_13 : decode cX11_in 13 = .ok (.iconst 1, 1) := eX11_in_8.1
theorem dX11_in_14 : decode cX11_in 14 = .ok (.goto 4, 3) := eX11_in_8.2.1
theorem dX11_in_17 : decode cX11_in 17 = .ok (.iconst 0, 1) := eX11_in_8.2.2.1
theorem dX11_in_18 : decode cX11_in 18 = .ok (.ireturn, 1) := eX11_in_8.2.2.2
theorem eX11_told_0 : (decode cX11_told 0 = .ok (.aload_n 0, 1)) ∧ (decode cX11_told 1 = .ok (.iload_n 1, 1)) ∧ (decode cX11_told 2 = .ok (.ifCond .ge 7, 3)) ∧ (decode cX11_told 5 = .ok (.iload_n 1, 1)) ∧ (decode cX11_told 6 = .ok (.goto 4, 3)) ∧ (decode cX11_told 9 = .ok (.iconst 0, 1)) ∧ (decode cX11_told 10 = .ok (.putfield 147, 3)) ∧ (decode cX11_told 13 = .ok (.iload_n 1, 1)) := by decide +kernel
theorem dX11_told_0 : decode cX11_told 0 = .ok (.aload_n 0, 1) := eX11_told_0.1
theorem dX11_told_1 : decode cX11_told 1 = .ok (.iload_n 1, 1) := eX11_told_0.2.1
theorem dX11_told_2 : decode cX11_told 2 = .ok (.ifCond .ge 7, 3) := eX11_told_0.2.2.1
theorem dX11_told_5 : decode cX11_told 5 = .ok (.iload_n 1, 1) := eX11_told_0.2.2.2.1
theorem dX11_told_6 : decode cX11_told 6 = .ok (.goto 4, 3) := eX11_told_0.2.2.2.2.1
theorem dX11_told_9 : decode cX11_told 9 = .ok (.iconst 0, 1) := eX11_told_0.2.2.2.2.2.1
theorem dX11_told_10 : decode cX11_told 10 = .ok (.putfield 147, 3) := eX11_told_0.2.2.2.2.2.2.1
theorem dX11_told_13 : decode cX11_told 13 = .ok (.iload_n 1, 1) := eX11_told_0.2.2.2.2.2.2.2
theorem dX11_told_14 : decode cX11_told 14 = .ok (.ireturn, 1) := by decide +kernel
theorem eX11_isHall_0 : (decode cX11_isHall 0 = .ok (.iload_n 1, 1)) ∧ (decode cX11_isHall 1 = .ok (.i2l, 1)) ∧ (decode cX11_isHall 2 = .ok (.lconst 0, 1)) ∧ (decode cX11_isHall 3 = .ok (.aload_n 0, 1)) ∧ (decode cX11_isHall 4 = .ok (.getfield 150, 3)) ∧ (decode cX11_isHall 7 = .ok (.i2l, 1)) ∧ (decode cX11_isHall 8 = .ok (.lconst 1, 1)) ∧ (decode cX11_isHall 9 = .ok (.lsub, 1)) := by decide +kernel
theorem dX11_isHall_0 : decode cX11_isHall 0 = .ok (.iload_n 1, 1) := eX11_isHall_0.1
theorem dX11_isHall_1 : decode cX11_isHall 1 = .ok (.i2l, 1) := eX11_isHall_0.2.1
theorem dX11_isHall_2 : decode cX11_isHall 2 = .ok (.lconst 0, 1) := eX11_isHall_0.2.2.1
theorem dX11_isHall_3 : decode cX11_isHall 3 = .ok (.aload_n 0, 1) := eX11_isHall_0.2.2.2.1
theorem dX11_isHall_4 : decode cX11_isHall 4 = .ok (.getfield 150, 3) := eX11_isHall_0.2.2.2.2.1
theorem dX11_isHall_7 : decode cX11_isHall 7 = .ok (.i2l, 1) := eX11_isHall_0.2.2.2.2.2.1
theorem dX11_isHall_8 : decode cX11_isHall 8 = .ok (.lconst 1, 1) := eX11_isHall_0.2.2.2.2.2.2.1
theorem dX11_isHall_9 : decode cX11_isHall 9 = .ok (.lsub, 1) := eX11_isHall_0.2.2.2.2.2.2.2
theorem eX11_isHall_8 : (decode cX11_isHall 10 = .ok (.invokestatic 153, 3)) ∧ (decode cX11_isHall 13 = .ok (.ireturn, 1)) := by decide +kernel
theorem dX11_isHall_10 : decode cX11_isHall 10 = .ok (.invokestatic 153, 3) := eX11_isHall_8.1
theorem dX11_isHall_13 : decode cX11_isHall 13 = .ok (.ireturn, 1) := eX11_isHall_8.2
theorem eX11_isFilm_0 : (decode cX11_isFilm 0 = .ok (.iload_n 1, 1)) ∧ (decode cX11_isFilm 1 = .ok (.i2l, 1)) ∧ (decode cX11_isFilm 2 = .ok (.lconst 0, 1)) ∧ (decode cX11_isFilm 3 = .ok (.aload_n 0, 1)) ∧ (decode cX11_isFilm 4 = .ok (.getfield 157, 3)) ∧ (decode cX11_isFilm 7 = .ok (.i2l, 1)) ∧ (decode cX11_isFilm 8 = .ok (.lconst 1, 1)) ∧ (decode cX11_isFilm 9 = .ok (.lsub, 1)) := by decide +kernel
theorem dX11_isFilm_0 : decode cX11_isFilm 0 = .ok (.iload_n 1, 1) := eX11_isFilm_0.1
theorem dX11_isFilm_1 : decode cX11_isFilm 1 = .ok (.i2l, 1) := eX11_isFilm_0.2.1
theorem dX11_isFilm_2 : decode cX11_isFilm 2 = .ok (.lconst 0, 1) := eX11_isFilm_0.2.2.1
theorem dX11_isFilm_3 : decode cX11_isFilm 3 = .ok (.aload_n 0, 1) := eX11_isFilm_0.2.2.2.1
theorem dX11_isFilm_4 : decode cX11_isFilm 4 = .ok (.getfield 157, 3) := eX11_isFilm_0.2.2.2.2.1
theorem dX11_isFilm_7 : decode cX11_isFilm 7 = .ok (.i2l, 1) := eX11_isFilm_0.2.2.2.2.2.1
theorem dX11_isFilm_8 : decode cX11_isFilm 8 = .ok (.lconst 1, 1) := eX11_isFilm_0.2.2.2.2.2.2.1
theorem dX11_isFilm_9 : decode cX11_isFilm 9 = .ok (.lsub, 1) := eX11_isFilm_0.2.2.2.2.2.2.2
theorem eX11_isFilm_8 : (decode cX11_isFilm 10 = .ok (.invokestatic 153, 3)) ∧ (decode cX11_isFilm 13 = .ok (.ireturn, 1)) := by decide +kernel
theorem dX11_isFilm_10 : decode cX11_isFilm 10 = .ok (.invokestatic 153, 3) := eX11_isFilm_8.1
theorem dX11_isFilm_13 : decode cX11_isFilm 13 = .ok (.ireturn, 1) := eX11_isFilm_8.2
theorem eX11_isShowing_0 : (decode cX11_isShowing 0 = .ok (.iload_n 1, 1)) ∧ (decode cX11_isShowing 1 = .ok (.i2l, 1)) ∧ (decode cX11_isShowing 2 = .ok (.lconst 0, 1)) ∧ (decode cX11_isShowing 3 = .ok (.aload_n 0, 1)) ∧ (decode cX11_isShowing 4 = .ok (.getfield 160, 3)) ∧ (decode cX11_isShowing 7 = .ok (.i2l, 1)) ∧ (decode cX11_isShowing 8 = .ok (.lconst 1, 1)) ∧ (decode cX11_isShowing 9 = .ok (.lsub, 1)) := by decide +kernel
theorem dX11_isShowing_0 : decode cX11_isShowing 0 = .ok (.iload_n 1, 1) := eX11_isShowing_0.1
theorem dX11_isShowing_1 : decode cX11_isShowing 1 = .ok (.i2l, 1) := eX11_isShowing_0.2.1
theorem dX11_isShowing_2 : decode cX11_isShowing 2 = .ok (.lconst 0, 1) := eX11_isShowing_0.2.2.1
theorem dX11_isShowing_3 : decode cX11_isShowing 3 = .ok (.aload_n 0, 1) := eX11_isShowing_0.2.2.2.1
theorem dX11_isShowing_4 : decode cX11_isShowing 4 = .ok (.getfield 160, 3) := eX11_isShowing_0.2.2.2.2.1
theorem dX11_isShowing_7 : decode cX11_isShowing 7 = .ok (.i2l, 1) := eX11_isShowing_0.2.2.2.2.2.1
theorem dX11_isShowing_8 : decode cX11_isShowing 8 = .ok (.lconst 1, 1) := eX11_isShowing_0.2.2.2.2.2.2.1
theorem dX11_isShowing_9 : decode cX11_isShowing 9 = .ok (.lsub, 1) := eX11_isShowing_0.2.2.2.2.2.2.2
theorem eX11_isShowing_8 : (decode cX11_isShowing 10 = .ok (.invokestatic 153, 3)) ∧ (decode cX11_isShowing 13 = .ok (.ifCond .eq 16, 3)) ∧ (decode cX11_isShowing 16 = .ok (.aload_n 0, 1)) ∧ (decode cX11_isShowing 17 = .ok (.getfield 49, 3)) ∧ (decode cX11_isShowing 20 = .ok (.iload_n 1, 1)) ∧ (decode cX11_isShowing 21 = .ok (.baload, 1)) ∧ (decode cX11_isShowing 22 = .ok (.ifCond .eq 7, 3)) ∧ (decode cX11_isShowing 25 = .ok (.iconst 1, 1)) := by decide +kernel
theorem dX11_isShowing_10 : decode cX11_isShowing 10 = .ok (.invokestatic 153, 3) := eX11_isShowing_8.1
theorem dX11_isShowing_13 : decode cX11_isShowing 13 = .ok (.ifCond .eq 16, 3) := eX11_isShowing_8.2.1
theorem dX11_isShowing_16 : decode cX11_isShowing 16 = .ok (.aload_n 0, 1) := eX11_isShowing_8.2.2.1
theorem dX11_isShowing_17 : decode cX11_isShowing 17 = .ok (.getfield 49, 3) := eX11_isShowing_8.2.2.2.1
theorem dX11_isShowing_20 : decode cX11_isShowing 20 = .ok (.iload_n 1, 1) := eX11_isShowing_8.2.2.2.2.1
theorem dX11_isShowing_21 : decode cX11_isShowing 21 = .ok (.baload, 1) := eX11_isShowing_8.2.2.2.2.2.1
theorem dX11_isShowing_22 : decode cX11_isShowing 22 = .ok (.ifCond .eq 7, 3) := eX11_isShowing_8.2.2.2.2.2.2.1
theorem dX11_isShowing_25 : decode cX11_isShowing 25 = .ok (.iconst 1, 1) := eX11_isShowing_8.2.2.2.2.2.2.2
theorem eX11_isShowing_16 : (decode cX11_isShowing 26 = .ok (.goto 4, 3)) ∧ (decode cX11_isShowing 29 = .ok (.iconst 0, 1)) ∧ (decode cX11_isShowing 30 = .ok (.ireturn, 1)) := by decide +kernel
theorem dX11_isShowing_26 : decode cX11_isShowing 26 = .ok (.goto 4, 3) := eX11_isShowing_16.1
theorem dX11_isShowing_29 : decode cX11_isShowing 29 = .ok (.iconst 0, 1) := eX11_isShowing_16.2.1
theorem dX11_isShowing_30 : decode cX11_isShowing 30 = .ok (.ireturn, 1) := eX11_isShowing_16.2.2
theorem eX11_isMinute_0 : (decode cX11_isMinute 0 = .ok (.iload_n 0, 1)) ∧ (decode cX11_isMinute 1 = .ok (.i2l, 1)) ∧ (decode cX11_isMinute 2 = .ok (.lconst 0, 1)) ∧ (decode cX11_isMinute 3 = .ok (.ldc2_w 163, 3)) ∧ (decode cX11_isMinute 6 = .ok (.invokestatic 153, 3)) ∧ (decode cX11_isMinute 9 = .ok (.ireturn, 1)) := by decide +kernel
theorem dX11_isMinute_0 : decode cX11_isMinute 0 = .ok (.iload_n 0, 1) := eX11_isMinute_0.1
theorem dX11_isMinute_1 : decode cX11_isMinute 1 = .ok (.i2l, 1) := eX11_isMinute_0.2.1
theorem dX11_isMinute_2 : decode cX11_isMinute 2 = .ok (.lconst 0, 1) := eX11_isMinute_0.2.2.1
theorem dX11_isMinute_3 : decode cX11_isMinute 3 = .ok (.ldc2_w 163, 3) := eX11_isMinute_0.2.2.2.1
theorem dX11_isMinute_6 : decode cX11_isMinute 6 = .ok (.invokestatic 153, 3) := eX11_isMinute_0.2.2.2.2.1
theorem dX11_isMinute_9 : decode cX11_isMinute 9 = .ok (.ireturn, 1) := eX11_isMinute_0.2.2.2.2.2
theorem eX11_hall_0 : (decode cX11_hall 0 = .ok (.aload_n 0, 1)) ∧ (decode cX11_hall 1 = .ok (.iconst 0, 1)) ∧ (decode cX11_hall 2 = .ok (.putfield 144, 3)) ∧ (decode cX11_hall 5 = .ok (.iload_n 1, 1)) ∧ (decode cX11_hall 6 = .ok (.i2l, 1)) ∧ (decode cX11_hall 7 = .ok (.lconst 0, 1)) ∧ (decode cX11_hall 8 = .ok (.ldc2_w 165, 3)) ∧ (decode cX11_hall 11 = .ok (.invokestatic 153, 3)) := by decide +kernel
theorem dX11_hall_0 : decode cX11_hall 0 = .ok (.aload_n 0, 1) := eX11_hall_0.1
theorem dX11_hall_1 : decode cX11_hall 1 = .ok (.iconst 0, 1) := eX11_hall_0.2.1
theorem dX11_hall_2 : decode cX11_hall 2 = .ok (.putfield 144, 3) := eX11_hall_0.2.2.1
theorem dX11_hall_5 : decode cX11_hall 5 = .ok (.iload_n 1, 1) := eX11_hall_0.2.2.2.1
theorem dX11_hall_6 : decode cX11_hall 6 = .ok (.i2l, 1) := eX11_hall_0.2.2.2.2.1
theorem dX11_hall_7 : decode cX11_hall 7 = .ok (.lconst 0, 1) := eX11_hall_0.2.2.2.2.2.1
theorem dX11_hall_8 : decode cX11_hall 8 = .ok (.ldc2_w 165, 3) := eX11_hall_0.2.2.2.2.2.2.1
theorem dX11_hall_11 : decode cX11_hall 11 = .ok (.invokestatic 153, 3) := eX11_hall_0.2.2.2.2.2.2.2
theorem eX11_hall_8 : (decode cX11_hall 14 = .ok (.ifCond .eq 40, 3)) ∧ (decode cX11_hall 17 = .ok (.iload_n 2, 1)) ∧ (decode cX11_hall 18 = .ok (.i2l, 1)) ∧ (decode cX11_hall 19 = .ok (.lconst 1, 1)) ∧ (decode cX11_hall 20 = .ok (.ldc2_w 167, 3)) ∧ (decode cX11_hall 23 = .ok (.invokestatic 153, 3)) ∧ (decode cX11_hall 26 = .ok (.ifCond .eq 28, 3)) ∧ (decode cX11_hall 29 = .ok (.iload_n 3, 1)) := by decide +kernel
theorem dX11_hall_14 : decode cX11_hall 14 = .ok (.ifCond .eq 40, 3) := eX11_hall_8.1
theorem dX11_hall_17 : decode cX11_hall 17 = .ok (.iload_n 2, 1) := eX11_hall_8.2.1
theorem dX11_hall_18 : decode cX11_hall 18 = .ok (.i2l, 1) := eX11_hall_8.2.2.1
theorem dX11_hall_19 : decode cX11_hall 19 = .ok (.lconst 1, 1) := eX11_hall_8.2.2.2.1
theorem dX11_hall_20 : decode cX11_hall 20 = .ok (.ldc2_w 167, 3) := eX11_hall_8.2.2.2.2.1
theorem dX11_hall_23 : decode cX11_hall 23 = .ok (.invokestatic 153, 3) := eX11_hall_8.2.2.2.2.2.1
theorem dX11_hall_26 : decode cX11_hall 26 = .ok (.ifCond .eq 28, 3) := eX11_hall_8.2.2.2.2.2.2.1
theorem dX11_hall_29 : decode cX11_hall 29 = .ok (.iload_n 3, 1) := eX11_hall_8.2.2.2.2.2.2.2
theorem eX11_hall_16 : (decode cX11_hall 30 = .ok (.i2l, 1)) ∧ (decode cX11_hall 31 = .ok (.lconst 0, 1)) ∧ (decode cX11_hall 32 = .ok (.ldc2_w 169, 3)) ∧ (decode cX11_hall 35 = .ok (.invokestatic 153, 3)) ∧ (decode cX11_hall 38 = .ok (.ifCond .eq 16, 3)) ∧ (decode cX11_hall 41 = .ok (.iload 4, 2)) ∧ (decode cX11_hall 43 = .ok (.i2l, 1)) ∧ (decode cX11_hall 44 = .ok (.lconst 1, 1)) := by decide +kernel
theorem dX11_hall_30 : decode cX11_hall 30 = .ok (.i2l, 1) := eX11_hall_16.1
theorem dX11_hall_31 : decode cX11_hall 31 = .ok (.lconst 0, 1) := eX11_hall_16.2.1
theorem dX11_hall_32 : decode cX11_hall 32 = .ok (.ldc2_w 169, 3) := eX11_hall_16.2.2.1
theorem dX11_hall_35 : decode cX11_hall 35 = .ok (.invokestatic 153, 3) := eX11_hall_16.2.2.2.1
theorem dX11_hall_38 : decode cX11_hall 38 = .ok (.ifCond .eq 16, 3) := eX11_hall_16.2.2.2.2.1
theorem dX11_hall_41 : decode cX11_hall 41 = .ok (.iload 4, 2) := eX11_hall_16.2.2.2.2.2.1
theorem dX11_hall_43 : decode cX11_hall 43 = .ok (.i2l, 1) := eX11_hall_16.2.2.2.2.2.2.1
theorem dX11_hall_44 : decode cX11_hall 44 = .ok (.lconst 1, 1) := eX11_hall_16.2.2.2.2.2.2.2
theorem eX11_hall_24 : (decode cX11_hall 45 = .ok (.ldc2_w 171, 3)) ∧ (decode cX11_hall 48 = .ok (.invokestatic 153, 3)) ∧ (decode cX11_hall 51 = .ok (.ifCond .ne 9, 3)) ∧ (decode cX11_hall 54 = .ok (.aload_n 0, 1)) ∧ (decode cX11_hall 55 = .ok (.iconst (-1), 1)) ∧ (decode cX11_hall 56 = .ok (.invokevirtual 173, 3)) ∧ (decode cX11_hall 59 = .ok (.ireturn, 1)) ∧ (decode cX11_hall 60 = .ok (.aload_n 0, 1)) := by decide +kernel
theorem dX11_hall_45 : decode cX11_hall 45 = .ok (.ldc2_w 171, 3) := eX11_hall_24.1
theorem dX11_hall_48 : decode cX11_hall 48 = .ok (.invokestatic 153, 3) := eX11_hall_24.2.1
theorem dX11_hall_51 : decode cX11_hall 51 = .ok (.ifCond .ne 9, 3) := eX11_hall_24.2.2.1
theorem dX11_hall_54 : decode cX11_hall 54 = .ok (.aload_n 0, 1) := eX11_hall_24.2.2.2.1
theorem dX11_hall_55 : decode cX11_hall 55 = .ok (.iconst (-1), 1) := eX11_hall_24.2.2.2.2.1
theorem dX11_hall_56 : decode cX11_hall 56 = .ok (.invokevirtual 173, 3) := eX11_hall_24.2.2.2.2.2.1
theorem dX11_hall_59 : decode cX11_hall 59 = .ok (.ireturn, 1) := eX11_hall_24.2.2.2.2.2.2.1
theorem dX11_hall_60 : decode cX11_hall 60 = .ok (.aload_n 0, 1) := eX11_hall_24.2.2.2.2.2.2.2
theorem eX11_hall_32 : (decode cX11_hall 61 = .ok (.getfield 150, 3)) ∧ (decode cX11_hall 64 = .ok (.iconst 4, 1)) ∧ (decode cX11_hall 65 = .ok (.if_icmp .ne 10, 3)) ∧ (decode cX11_hall 68 = .ok (.aload_n 0, 1)) ∧ (decode cX11_hall 69 = .ok (.bipush (-5), 2)) ∧ (decode cX11_hall 71 = .ok (.invokevirtual 173, 3)) ∧ (decode cX11_hall 74 = .ok (.ireturn, 1)) ∧ (decode cX11_hall 75 = .ok (.aload_n 0, 1)) := by decide +kernel
theorem dX11_hall_61 : decode cX11_hall 61 = .ok (.getfield 150, 3) := eX11_hall_32.1
theorem dX11_hall_64 : decode cX11_hall 64 = .ok (.iconst 4, 1) := eX11_hall_32.2.1
theorem dX11_hall_65 : decode cX11_hall 65 = .ok (.if_icmp .ne 10, 3) := eX11_hall_32.2.2.1
theorem dX11_hall_68 : decode cX11_hall 68 = .ok (.aload_n 0, 1) := eX11_hall_32.2.2.2.1
theorem dX11_hall_69 : decode cX11_hall 69 = .ok (.bipush (-5), 2) := eX11_hall_32.2.2.2.2.1
theorem dX11_hall_71 : decode cX11_hall 71 = .ok (.invokevirtual 173, 3) := eX11_hall_32.2.2.2.2.2.1
theorem dX11_hall_74 : decode cX11_hall 74 = .ok (.ireturn, 1) := eX11_hall_32.2.2.2.2.2.2.1
theorem dX11_hall_75 : decode cX11_hall 75 = .ok (.aload_n 0, 1) := eX11_hall_32.2.2.2.2.2.2.2
theorem eX11_hall_40 : (decode cX11_hall 76 = .ok (.getfield 7, 3)) ∧ (decode cX11_hall 79 = .ok (.aload_n 0, 1)) ∧ (decode cX11_hall 80 = .ok (.getfield 150, 3)) ∧ (decode cX11_hall 83 = .ok (.iload_n 1, 1)) ∧ (decode cX11_hall 84 = .ok (.iastore, 1)) ∧ (decode cX11_hall 85 = .ok (.aload_n 0, 1)) ∧ (decode cX11_hall 86 = .ok (.getfield 13, 3)) ∧ (decode cX11_hall 89 = .ok (.aload_n 0, 1)) := by decide +kernel
theorem dX11_hall_76 : decode cX11_hall 76 = .ok (.getfield 7, 3) := eX11_hall_40.1
theorem dX11_hall_79 : decode cX11_hall 79 = .ok (.aload_n 0, 1) := eX11_hall_40.2.1
theorem dX11_hall_80 : decode cX11_hall 80 = .ok (.getfield 150, 3) := eX11_hall_40.2.2.1
theorem dX11_hall_83 : decode cX11_hall 83 = .ok (.iload_n 1, 1) := eX11_hall_40.2.2.2.1
theorem dX11_hall_84 : decode cX11_hall 84 = .ok (.iastore, 1) := eX11_hall_40.2.2.2.2.1
theorem dX11_hall_85 : decode cX11_hall 85 = .ok (.aload_n 0, 1) := eX11_hall_40.2.2.2.2.2.1
theorem dX11_hall_86 : decode cX11_hall 86 = .ok (.getfield 13, 3) := eX11_hall_40.2.2.2.2.2.2.1
theorem dX11_hall_89 : decode cX11_hall 89 = .ok (.aload_n 0, 1) := eX11_hall_40.2.2.2.2.2.2.2
theorem eX11_hall_48 : (decode cX11_hall 90 = .ok (.getfield 150, 3)) ∧ (decode cX11_hall 93 = .ok (.iload_n 2, 1)) ∧ (decode cX11_hall 94 = .ok (.iastore, 1)) ∧ (decode cX11_hall 95 = .ok (.aload_n 0, 1)) ∧ (decode cX11_hall 96 = .ok (.getfield 16, 3)) ∧ (decode cX11_hall 99 = .ok (.aload_n 0, 1)) ∧ (decode cX11_hall 100 = .ok (.getfield 150, 3)) ∧ (decode cX11_hall 103 = .ok (.iload_n 3, 1)) := by decide +kernel
theorem dX11_hall_90 : decode cX11_hall 90 = .ok (.getfield 150, 3) := eX11_hall_48.1
theorem dX11_hall_93 : decode cX11_hall 93 = .ok (.iload_n 2, 1) := eX11_hall_48.2.1
theorem dX11_hall_94 : decode cX11_hall 94 = .ok (.iastore, 1) := eX11_hall_48.2.2.1
theorem dX11_hall_95 : decode cX11_hall 95 = .ok (.aload_n 0, 1) := eX11_hall_48.2.2.2.1
theorem dX11_hall_96 : decode cX11_hall 96 = .ok (.getfield 16, 3) := eX11_hall_48.2.2.2.2.1
theorem dX11_hall_99 : decode cX11_hall 99 = .ok (.aload_n 0, 1) := eX11_hall_48.2.2.2.2.2.1
theorem dX11_hall_100 : decode cX11_hall 100 = .ok (.getfield 150, 3) := eX11_hall_48.2.2.2.2.2.2.1
theorem dX11_hall_103 : decode cX11_hall 103 = .ok (.iload_n 3, 1) := eX11_hall_48.2.2.2.2.2.2.2
theorem eX11_hall_56 : (decode cX11_hall 104 = .ok (.iastore, 1)) ∧ (decode cX11_hall 105 = .ok (.aload_n 0, 1)) ∧ (decode cX11_hall 106 = .ok (.getfield 19, 3)) ∧ (decode cX11_hall 109 = .ok (.aload_n 0, 1)) ∧ (decode cX11_hall 110 = .ok (.getfield 150, 3)) ∧ (decode cX11_hall 113 = .ok (.iload 4, 2)) ∧ (decode cX11_hall 115 = .ok (.iastore, 1)) ∧ (decode cX11_hall 116 = .ok (.aload_n 0, 1)) := by decide +kernel
theorem dX11_hall_104 : decode cX11_hall 104 = .ok (.iastore, 1) := eX11_hall_56.1
theorem dX11_hall_105 : decode cX11_hall 105 = .ok (.aload_n 0, 1) := eX11_hall_56.2.1
theorem dX11_hall_106 : decode cX11_hall 106 = .ok (.getfield 19, 3) := eX11_hall_56.2.2.1
theorem dX11_hall_109 : decode cX11_hall 109 = .ok (.aload_n 0, 1) := eX11_hall_56.2.2.2.1
theorem dX11_hall_110 : decode cX11_hall 110 = .ok (.getfield 150, 3) := eX11_hall_56.2.2.2.2.1
theorem dX11_hall_113 : decode cX11_hall 113 = .ok (.iload 4, 2) := eX11_hall_56.2.2.2.2.2.1
theorem dX11_hall_115 : decode cX11_hall 115 = .ok (.iastore, 1) := eX11_hall_56.2.2.2.2.2.2.1
theorem dX11_hall_116 : decode cX11_hall 116 = .ok (.aload_n 0, 1) := eX11_hall_56.2.2.2.2.2.2.2
theorem eX11_hall_64 : (decode cX11_hall 117 = .ok (.dup, 1)) ∧ (decode cX11_hall 118 = .ok (.getfield 150, 3)) ∧ (decode cX11_hall 121 = .ok (.iconst 1, 1)) ∧ (decode cX11_hall 122 = .ok (.iadd, 1)) ∧ (decode cX11_hall 123 = .ok (.putfield 150, 3)) ∧ (decode cX11_hall 126 = .ok (.aload_n 0, 1)) ∧ (decode cX11_hall 127 = .ok (.aload_n 0, 1)) ∧ (decode cX11_hall 128 = .ok (.getfield 150, 3)) := by decide +kernel
theorem dX11_hall_117 : decode cX11_hall 117 = .ok (.dup, 1) := eX11_hall_64.1
theorem dX11_hall_118 : decode cX11_hall 118 = .ok (.getfield 150, 3) := eX11_hall_64.2.1
theorem dX11_hall_121 : decode cX11_hall 121 = .ok (.iconst 1, 1) := eX11_hall_64.2.2.1
theorem dX11_hall_122 : decode cX11_hall 122 = .ok (.iadd, 1) := eX11_hall_64.2.2.2.1
theorem dX11_hall_123 : decode cX11_hall 123 = .ok (.putfield 150, 3) := eX11_hall_64.2.2.2.2.1
theorem dX11_hall_126 : decode cX11_hall 126 = .ok (.aload_n 0, 1) := eX11_hall_64.2.2.2.2.2.1
theorem dX11_hall_127 : decode cX11_hall 127 = .ok (.aload_n 0, 1) := eX11_hall_64.2.2.2.2.2.2.1
theorem dX11_hall_128 : decode cX11_hall 128 = .ok (.getfield 150, 3) := eX11_hall_64.2.2.2.2.2.2.2
theorem eX11_hall_72 : (decode cX11_hall 131 = .ok (.iconst 1, 1)) ∧ (decode cX11_hall 132 = .ok (.isub, 1)) ∧ (decode cX11_hall 133 = .ok (.invokevirtual 173, 3)) ∧ (decode cX11_hall 136 = .ok (.ireturn, 1)) := by decide +kernel
theorem dX11_hall_131 : decode cX11_hall 131 = .ok (.iconst 1, 1) := eX11_hall_72.1
theorem dX11_hall_132 : decode cX11_hall 132 = .ok (.isub, 1) := eX11_hall_72.2.1
theorem dX11_hall_133 : decode cX11_hall 133 = .ok (.invokevirtual 173, 3) := eX11_hall_72.2.2.1
theorem dX11_hall_136 : decode cX11_hall 136 = .ok (.ireturn, 1) := eX11_hall_72.2.2.2
theorem eX11_film_0 : (decode cX11_film 0 = .ok (.aload_n 0, 1)) ∧ (decode cX11_film 1 = .ok (.iconst 0, 1)) ∧ (decode cX11_film 2 = .ok (.putfield 144, 3)) ∧ (decode cX11_film 5 = .ok (.iload_n 1, 1)) ∧ (decode cX11_film 6 = .ok (.i2l, 1)) ∧ (decode cX11_film 7 = .ok (.lconst 1, 1)) ∧ (decode cX11_film 8 = .ok (.ldc2_w 177, 3)) ∧ (decode cX11_film 11 = .ok (.invokestatic 153, 3)) := by decide +kernel
theorem dX11_film_0 : decode cX11_film 0 = .ok (.aload_n 0, 1) := eX11_film_0.1
theorem dX11_film_1 : decode cX11_film 1 = .ok (.iconst 0, 1) := eX11_film_0.2.1
theorem dX11_film_2 : decode cX11_film 2 = .ok (.putfield 144, 3) := eX11_film_0.2.2.1
theorem dX11_film_5 : decode cX11_film 5 = .ok (.iload_n 1, 1) := eX11_film_0.2.2.2.1
theorem dX11_film_6 : decode cX11_film 6 = .ok (.i2l, 1) := eX11_film_0.2.2.2.2.1
theorem dX11_film_7 : decode cX11_film 7 = .ok (.lconst 1, 1) := eX11_film_0.2.2.2.2.2.1
theorem dX11_film_8 : decode cX11_film 8 = .ok (.ldc2_w 177, 3) := eX11_film_0.2.2.2.2.2.2.1
theorem dX11_film_11 : decode cX11_film 11 = .ok (.invokestatic 153, 3) := eX11_film_0.2.2.2.2.2.2.2
theorem eX11_film_8 : (decode cX11_film 14 = .ok (.ifCond .eq 27, 3)) ∧ (decode cX11_film 17 = .ok (.iload_n 2, 1)) ∧ (decode cX11_film 18 = .ok (.i2l, 1)) ∧ (decode cX11_film 19 = .ok (.lconst 0, 1)) ∧ (decode cX11_film 20 = .ok (.ldc2_w 179, 3)) ∧ (decode cX11_film 23 = .ok (.invokestatic 153, 3)) ∧ (decode cX11_film 26 = .ok (.ifCond .eq 15, 3)) ∧ (decode cX11_film 29 = .ok (.iload_n 3, 1)) := by decide +kernel
theorem dX11_film_14 : decode cX11_film 14 = .ok (.ifCond .eq 27, 3) := eX11_film_8.1
theorem dX11_film_17 : decode cX11_film 17 = .ok (.iload_n 2, 1) := eX11_film_8.2.1
theorem dX11_film_18 : decode cX11_film 18 = .ok (.i2l, 1) := eX11_film_8.2.2.1
theorem dX11_film_19 : decode cX11_film 19 = .ok (.lconst 0, 1) := eX11_film_8.2.2.2.1
theorem dX11_film_20 : decode cX11_film 20 = .ok (.ldc2_w 179, 3) := eX11_film_8.2.2.2.2.1
theorem dX11_film_23 : decode cX11_film 23 = .ok (.invokestatic 153, 3) := eX11_film_8.2.2.2.2.2.1
theorem dX11_film_26 : decode cX11_film 26 = .ok (.ifCond .eq 15, 3) := eX11_film_8.2.2.2.2.2.2.1
theorem dX11_film_29 : decode cX11_film 29 = .ok (.iload_n 3, 1) := eX11_film_8.2.2.2.2.2.2.2
theorem eX11_film_16 : (decode cX11_film 30 = .ok (.i2l, 1)) ∧ (decode cX11_film 31 = .ok (.lconst 0, 1)) ∧ (decode cX11_film 32 = .ok (.ldc2_w 181, 3)) ∧ (decode cX11_film 35 = .ok (.invokestatic 153, 3)) ∧ (decode cX11_film 38 = .ok (.ifCond .ne 9, 3)) ∧ (decode cX11_film 41 = .ok (.aload_n 0, 1)) ∧ (decode cX11_film 42 = .ok (.iconst (-1), 1)) ∧ (decode cX11_film 43 = .ok (.invokevirtual 173, 3)) := by decide +kernel
theorem dX11_film_30 : decode cX11_film 30 = .ok (.i2l, 1) := eX11_film_16.1
theorem dX11_film_31 : decode cX11_film 31 = .ok (.lconst 0, 1) := eX11_film_16.2.1
theorem dX11_film_32 : decode cX11_film 32 = .ok (.ldc2_w 181, 3) := eX11_film_16.2.2.1
theorem dX11_film_35 : decode cX11_film 35 = .ok (.invokestatic 153, 3) := eX11_film_16.2.2.2.1
theorem dX11_film_38 : decode cX11_film 38 = .ok (.ifCond .ne 9, 3) := eX11_film_16.2.2.2.2.1
theorem dX11_film_41 : decode cX11_film 41 = .ok (.aload_n 0, 1) := eX11_film_16.2.2.2.2.2.1
theorem dX11_film_42 : decode cX11_film 42 = .ok (.iconst (-1), 1) := eX11_film_16.2.2.2.2.2.2.1
theorem dX11_film_43 : decode cX11_film 43 = .ok (.invokevirtual 173, 3) := eX11_film_16.2.2.2.2.2.2.2
theorem eX11_film_24 : (decode cX11_film 46 = .ok (.ireturn, 1)) ∧ (decode cX11_film 47 = .ok (.aload_n 0, 1)) ∧ (decode cX11_film 48 = .ok (.getfield 157, 3)) ∧ (decode cX11_film 51 = .ok (.bipush 20, 2)) ∧ (decode cX11_film 53 = .ok (.if_icmp .ne 10, 3)) ∧ (decode cX11_film 56 = .ok (.aload_n 0, 1)) ∧ (decode cX11_film 57 = .ok (.bipush (-5), 2)) ∧ (decode cX11_film 59 = .ok (.invokevirtual 173, 3)) := by decide +kernel
theorem dX11_film_46 : decode cX11_film 46 = .ok (.ireturn, 1) := eX11_film_24.1
theorem dX11_film_47 : decode cX11_film 47 = .ok (.aload_n 0, 1) := eX11_film_24.2.1
theorem dX11_film_48 : decode cX11_film 48 = .ok (.getfield 157, 3) := eX11_film_24.2.2.1
theorem dX11_film_51 : decode cX11_film 51 = .ok (.bipush 20, 2) := eX11_film_24.2.2.2.1
theorem dX11_film_53 : decode cX11_film 53 = .ok (.if_icmp .ne 10, 3) := eX11_film_24.2.2.2.2.1
theorem dX11_film_56 : decode cX11_film 56 = .ok (.aload_n 0, 1) := eX11_film_24.2.2.2.2.2.1
theorem dX11_film_57 : decode cX11_film 57 = .ok (.bipush (-5), 2) := eX11_film_24.2.2.2.2.2.2.1
theorem dX11_film_59 : decode cX11_film 59 = .ok (.invokevirtual 173, 3) := eX11_film_24.2.2.2.2.2.2.2
theorem eX11_film_32 : (decode cX11_film 62 = .ok (.ireturn, 1)) ∧ (decode cX11_film 63 = .ok (.aload_n 0, 1)) ∧ (decode cX11_film 64 = .ok (.getfield 22, 3)) ∧ (decode cX11_film 67 = .ok (.aload_n 0, 1)) ∧ (decode cX11_film 68 = .ok (.getfield 157, 3)) ∧ (decode cX11_film 71 = .ok (.iload_n 1, 1)) ∧ (decode cX11_film 72 = .ok (.iastore, 1)) ∧ (decode cX11_film 73 = .ok (.aload_n 0, 1)) := by decide +kernel
theorem dX11_film_62 : decode cX11_film 62 = .ok (.ireturn, 1) := eX11_film_32.1
theorem dX11_film_63 : decode cX11_film 63 = .ok (.aload_n 0, 1) := eX11_film_32.2.1
theorem dX11_film_64 : decode cX11_film 64 = .ok (.getfield 22, 3) := eX11_film_32.2.2.1
theorem dX11_film_67 : decode cX11_film 67 = .ok (.aload_n 0, 1) := eX11_film_32.2.2.2.1
theorem dX11_film_68 : decode cX11_film 68 = .ok (.getfield 157, 3) := eX11_film_32.2.2.2.2.1
theorem dX11_film_71 : decode cX11_film 71 = .ok (.iload_n 1, 1) := eX11_film_32.2.2.2.2.2.1
theorem dX11_film_72 : decode cX11_film 72 = .ok (.iastore, 1) := eX11_film_32.2.2.2.2.2.2.1
theorem dX11_film_73 : decode cX11_film 73 = .ok (.aload_n 0, 1) := eX11_film_32.2.2.2.2.2.2.2
theorem eX11_film_40 : (decode cX11_film 74 = .ok (.getfield 25, 3)) ∧ (decode cX11_film 77 = .ok (.aload_n 0, 1)) ∧ (decode cX11_film 78 = .ok (.getfield 157, 3)) ∧ (decode cX11_film 81 = .ok (.iload_n 2, 1)) ∧ (decode cX11_film 82 = .ok (.iastore, 1)) ∧ (decode cX11_film 83 = .ok (.aload_n 0, 1)) ∧ (decode cX11_film 84 = .ok (.getfield 28, 3)) ∧ (decode cX11_film 87 = .ok (.aload_n 0, 1)) := by decide +kernel
theorem dX11_film_74 : decode cX11_film 74 = .ok (.getfield 25, 3) := eX11_film_40.1
theorem dX11_film_77 : decode cX11_film 77 = .ok (.aload_n 0, 1) := eX11_film_40.2.1
theorem dX11_film_78 : decode cX11_film 78 = .ok (.getfield 157, 3) := eX11_film_40.2.2.1
theorem dX11_film_81 : decode cX11_film 81 = .ok (.iload_n 2, 1) := eX11_film_40.2.2.2.1
theorem dX11_film_82 : decode cX11_film 82 = .ok (.iastore, 1) := eX11_film_40.2.2.2.2.1
theorem dX11_film_83 : decode cX11_film 83 = .ok (.aload_n 0, 1) := eX11_film_40.2.2.2.2.2.1
theorem dX11_film_84 : decode cX11_film 84 = .ok (.getfield 28, 3) := eX11_film_40.2.2.2.2.2.2.1
theorem dX11_film_87 : decode cX11_film 87 = .ok (.aload_n 0, 1) := eX11_film_40.2.2.2.2.2.2.2
theorem eX11_film_48 : (decode cX11_film 88 = .ok (.getfield 157, 3)) ∧ (decode cX11_film 91 = .ok (.iload_n 3, 1)) ∧ (decode cX11_film 92 = .ok (.iastore, 1)) ∧ (decode cX11_film 93 = .ok (.aload_n 0, 1)) ∧ (decode cX11_film 94 = .ok (.getfield 31, 3)) ∧ (decode cX11_film 97 = .ok (.aload_n 0, 1)) ∧ (decode cX11_film 98 = .ok (.getfield 157, 3)) ∧ (decode cX11_film 101 = .ok (.iconst (-1), 1)) := by decide +kernel
theorem dX11_film_88 : decode cX11_film 88 = .ok (.getfield 157, 3) := eX11_film_48.1
theorem dX11_film_91 : decode cX11_film 91 = .ok (.iload_n 3, 1) := eX11_film_48.2.1
theorem dX11_film_92 : decode cX11_film 92 = .ok (.iastore, 1) := eX11_film_48.2.2.1
theorem dX11_film_93 : decode cX11_film 93 = .ok (.aload_n 0, 1) := eX11_film_48.2.2.2.1
theorem dX11_film_94 : decode cX11_film 94 = .ok (.getfield 31, 3) := eX11_film_48.2.2.2.2.1
theorem dX11_film_97 : decode cX11_film 97 = .ok (.aload_n 0, 1) := eX11_film_48.2.2.2.2.2.1
theorem dX11_film_98 : decode cX11_film 98 = .ok (.getfield 157, 3) := eX11_film_48.2.2.2.2.2.2.1
theorem dX11_film_101 : decode cX11_film 101 = .ok (.iconst (-1), 1) := eX11_film_48.2.2.2.2.2.2.2
theorem eX11_film_56 : (decode cX11_film 102 = .ok (.iastore, 1)) ∧ (decode cX11_film 103 = .ok (.aload_n 0, 1)) ∧ (decode cX11_film 104 = .ok (.getfield 34, 3)) ∧ (decode cX11_film 107 = .ok (.aload_n 0, 1)) ∧ (decode cX11_film 108 = .ok (.getfield 157, 3)) ∧ (decode cX11_film 111 = .ok (.iconst (-1), 1)) ∧ (decode cX11_film 112 = .ok (.iastore, 1)) ∧ (decode cX11_film 113 = .ok (.aload_n 0, 1)) := by decide +kernel
theorem dX11_film_102 : decode cX11_film 102 = .ok (.iastore, 1) := eX11_film_56.1
theorem dX11_film_103 : decode cX11_film 103 = .ok (.aload_n 0, 1) := eX11_film_56.2.1
theorem dX11_film_104 : decode cX11_film 104 = .ok (.getfield 34, 3) := eX11_film_56.2.2.1
theorem dX11_film_107 : decode cX11_film 107 = .ok (.aload_n 0, 1) := eX11_film_56.2.2.2.1
theorem dX11_film_108 : decode cX11_film 108 = .ok (.getfield 157, 3) := eX11_film_56.2.2.2.2.1
theorem dX11_film_111 : decode cX11_film 111 = .ok (.iconst (-1), 1) := eX11_film_56.2.2.2.2.2.1
theorem dX11_film_112 : decode cX11_film 112 = .ok (.iastore, 1) := eX11_film_56.2.2.2.2.2.2.1
theorem dX11_film_113 : decode cX11_film 113 = .ok (.aload_n 0, 1) := eX11_film_56.2.2.2.2.2.2.2
theorem eX11_film_64 : (decode cX11_film 114 = .ok (.getfield 37, 3)) ∧ (decode cX11_film 117 = .ok (.aload_n 0, 1)) ∧ (decode cX11_film 118 = .ok (.getfield 157, 3)) ∧ (decode cX11_film 121 = .ok (.iconst 0, 1)) ∧ (decode cX11_film 122 = .ok (.iastore, 1)) ∧ (decode cX11_film 123 = .ok (.aload_n 0, 1)) ∧ (decode cX11_film 124 = .ok (.getfield 40, 3)) ∧ (decode cX11_film 127 = .ok (.aload_n 0, 1)) := by decide +kernel
theorem dX11_film_114 : decode cX11_film 114 = .ok (.getfield 37, 3) := eX11_film_64.1
theorem dX11_film_117 : decode cX11_film 117 = .ok (.aload_n 0, 1) := eX11_film_64.2.1
theorem dX11_film_118 : decode cX11_film 118 = .ok (.getfield 157, 3) := eX11_film_64.2.2.1
theorem dX11_film_121 : decode cX11_film 121 = .ok (.iconst 0, 1) := eX11_film_64.2.2.2.1
theorem dX11_film_122 : decode cX11_film 122 = .ok (.iastore, 1) := eX11_film_64.2.2.2.2.1
theorem dX11_film_123 : decode cX11_film 123 = .ok (.aload_n 0, 1) := eX11_film_64.2.2.2.2.2.1
theorem dX11_film_124 : decode cX11_film 124 = .ok (.getfield 40, 3) := eX11_film_64.2.2.2.2.2.2.1
theorem dX11_film_127 : decode cX11_film 127 = .ok (.aload_n 0, 1) := eX11_film_64.2.2.2.2.2.2.2
theorem eX11_film_72 : (decode cX11_film 128 = .ok (.getfield 157, 3)) ∧ (decode cX11_film 131 = .ok (.bipush 60, 2)) ∧ (decode cX11_film 133 = .ok (.iastore, 1)) ∧ (decode cX11_film 134 = .ok (.aload_n 0, 1)) ∧ (decode cX11_film 135 = .ok (.getfield 43, 3)) ∧ (decode cX11_film 138 = .ok (.aload_n 0, 1)) ∧ (decode cX11_film 139 = .ok (.getfield 157, 3)) ∧ (decode cX11_film 142 = .ok (.iconst (-1), 1)) := by decide +kernel
theorem dX11_film_128 : decode cX11_film 128 = .ok (.getfield 157, 3) := eX11_film_72.1
theorem dX11_film_131 : decode cX11_film 131 = .ok (.bipush 60, 2) := eX11_film_72.2.1
theorem dX11_film_133 : decode cX11_film 133 = .ok (.iastore, 1) := eX11_film_72.2.2.1
theorem dX11_film_134 : decode cX11_film 134 = .ok (.aload_n 0, 1) := eX11_film_72.2.2.2.1
theorem dX11_film_135 : decode cX11_film 135 = .ok (.getfield 43, 3) := eX11_film_72.2.2.2.2.1
theorem dX11_film_138 : decode cX11_film 138 = .ok (.aload_n 0, 1) := eX11_film_72.2.2.2.2.2.1
theorem dX11_film_139 : decode cX11_film 139 = .ok (.getfield 157, 3) := eX11_film_72.2.2.2.2.2.2.1
theorem dX11_film_142 : decode cX11_film 142 = .ok (.iconst (-1), 1) := eX11_film_72.2.2.2.2.2.2.2
theorem eX11_film_80 : (decode cX11_film 143 = .ok (.iastore, 1)) ∧ (decode cX11_film 144 = .ok (.aload_n 0, 1)) ∧ (decode cX11_film 145 = .ok (.dup, 1)) ∧ (decode cX11_film 146 = .ok (.getfield 157, 3)) ∧ (decode cX11_film 149 = .ok (.iconst 1, 1)) ∧ (decode cX11_film 150 = .ok (.iadd, 1)) ∧ (decode cX11_film 151 = .ok (.putfield 157, 3)) ∧ (decode cX11_film 154 = .ok (.aload_n 0, 1)) := by decide +kernel
theorem dX11_film_143 : decode cX11_film 143 = .ok (.iastore, 1) := eX11_film_80.1
theorem dX11_film_144 : decode cX11_film 144 = .ok (.aload_n 0, 1) := eX11_film_80.2.1
theorem dX11_film_145 : decode cX11_film 145 = .ok (.dup, 1) := eX11_film_80.2.2.1
theorem dX11_film_146 : decode cX11_film 146 = .ok (.getfield 157, 3) := eX11_film_80.2.2.2.1
theorem dX11_film_149 : decode cX11_film 149 = .ok (.iconst 1, 1) := eX11_film_80.2.2.2.2.1
theorem dX11_film_150 : decode cX11_film 150 = .ok (.iadd, 1) := eX11_film_80.2.2.2.2.2.1
theorem dX11_film_151 : decode cX11_film 151 = .ok (.putfield 157, 3) := eX11_film_80.2.2.2.2.2.2.1
theorem dX11_film_154 : decode cX11_film 154 = .ok (.aload_n 0, 1) := eX11_film_80.2.2.2.2.2.2.2
theorem eX11_film_88 : (decode cX11_film 155 = .ok (.aload_n 0, 1)) ∧ (decode cX11_film 156 = .ok (.getfield 157, 3)) ∧ (decode cX11_film 159 = .ok (.iconst 1, 1)) ∧ (decode cX11_film 160 = .ok (.isub, 1)) ∧ (decode cX11_film 161 = .ok (.invokevirtual 173, 3)) ∧ (decode cX11_film 164 = .ok (.ireturn, 1)) := by decide +kernel
theorem dX11_film_155 : decode cX11_film 155 = .ok (.aload_n 0, 1) := eX11_film_88.1
theorem dX11_film_156 : decode cX11_film 156 = .ok (.getfield 157, 3) := eX11_film_88.2.1
theorem dX11_film_159 : decode cX11_film 159 = .ok (.iconst 1, 1) := eX11_film_88.2.2.1
theorem dX11_film_160 : decode cX11_film 160 = .ok (.isub, 1) := eX11_film_88.2.2.2.1
theorem dX11_film_161 : decode cX11_film 161 = .ok (.invokevirtual 173, 3) := eX11_film_88.2.2.2.2.1
theorem dX11_film_164 : decode cX11_film 164 = .ok (.ireturn, 1) := eX11_film_88.2.2.2.2.2
theorem eX11_way_0 : (decode cX11_way 0 = .ok (.aload_n 0, 1)) ∧ (decode cX11_way 1 = .ok (.iconst 0, 1)) ∧ (decode cX11_way 2 = .ok (.putfield 144, 3)) ∧ (decode cX11_way 5 = .ok (.iload_n 1, 1)) ∧ (decode cX11_way 6 = .ok (.i2l, 1)) ∧ (decode cX11_way 7 = .ok (.lconst 0, 1)) ∧ (decode cX11_way 8 = .ok (.ldc2_w 165, 3)) ∧ (decode cX11_way 11 = .ok (.invokestatic 153, 3)) := by decide +kernel
theorem dX11_way_0 : decode cX11_way 0 = .ok (.aload_n 0, 1) := eX11_way_0.1
theorem dX11_way_1 : decode cX11_way 1 = .ok (.iconst 0, 1) := eX11_way_0.2.1
theorem dX11_way_2 : decode cX11_way 2 = .ok (.putfield 144, 3) := eX11_way_0.2.2.1
theorem dX11_way_5 : decode cX11_way 5 = .ok (.iload_n 1, 1) := eX11_way_0.2.2.2.1
theorem dX11_way_6 : decode cX11_way 6 = .ok (.i2l, 1) := eX11_way_0.2.2.2.2.1
theorem dX11_way_7 : decode cX11_way 7 = .ok (.lconst 0, 1) := eX11_way_0.2.2.2.2.2.1
theorem dX11_way_8 : decode cX11_way 8 = .ok (.ldc2_w 165, 3) := eX11_way_0.2.2.2.2.2.2.1
theorem dX11_way_11 : decode cX11_way 11 = .ok (.invokestatic 153, 3) := eX11_way_0.2.2.2.2.2.2.2
theorem eX11_way_8 : (decode cX11_way 14 = .ok (.ifCond .eq 32, 3)) ∧ (decode cX11_way 17 = .ok (.iload_n 2, 1)) ∧ (decode cX11_way 18 = .ok (.i2l, 1)) ∧ (decode cX11_way 19 = .ok (.lconst 0, 1)) ∧ (decode cX11_way 20 = .ok (.ldc2_w 165, 3)) ∧ (decode cX11_way 23 = .ok (.invokestatic 153, 3)) ∧ (decode cX11_way 26 = .ok (.ifCond .eq 20, 3)) ∧ (decode cX11_way 29 = .ok (.iload_n 1, 1)) := by decide +kernel
theorem dX11_way_14 : decode cX11_way 14 = .ok (.ifCond .eq 32, 3) := eX11_way_8.1
theorem dX11_way_17 : decode cX11_way 17 = .ok (.iload_n 2, 1) := eX11_way_8.2.1
theorem dX11_way_18 : decode cX11_way 18 = .ok (.i2l, 1) := eX11_way_8.2.2.1
theorem dX11_way_19 : decode cX11_way 19 = .ok (.lconst 0, 1) := eX11_way_8.2.2.2.1
theorem dX11_way_20 : decode cX11_way 20 = .ok (.ldc2_w 165, 3) := eX11_way_8.2.2.2.2.1
theorem dX11_way_23 : decode cX11_way 23 = .ok (.invokestatic 153, 3) := eX11_way_8.2.2.2.2.2.1
theorem dX11_way_26 : decode cX11_way 26 = .ok (.ifCond .eq 20, 3) := eX11_way_8.2.2.2.2.2.2.1
theorem dX11_way_29 : decode cX11_way 29 = .ok (.iload_n 1, 1) := eX11_way_8.2.2.2.2.2.2.2
theorem eX11_way_16 : (decode cX11_way 30 = .ok (.iload_n 2, 1)) ∧ (decode cX11_way 31 = .ok (.if_icmp .eq 15, 3)) ∧ (decode cX11_way 34 = .ok (.iload_n 3, 1)) ∧ (decode cX11_way 35 = .ok (.i2l, 1)) ∧ (decode cX11_way 36 = .ok (.lconst 0, 1)) ∧ (decode cX11_way 37 = .ok (.ldc2_w 167, 3)) ∧ (decode cX11_way 40 = .ok (.invokestatic 153, 3)) ∧ (decode cX11_way 43 = .ok (.ifCond .ne 9, 3)) := by decide +kernel
theorem dX11_way_30 : decode cX11_way 30 = .ok (.iload_n 2, 1) := eX11_way_16.1
theorem dX11_way_31 : decode cX11_way 31 = .ok (.if_icmp .eq 15, 3) := eX11_way_16.2.1
theorem dX11_way_34 : decode cX11_way 34 = .ok (.iload_n 3, 1) := eX11_way_16.2.2.1
theorem dX11_way_35 : decode cX11_way 35 = .ok (.i2l, 1) := eX11_way_16.2.2.2.1
theorem dX11_way_36 : decode cX11_way 36 = .ok (.lconst 0, 1) := eX11_way_16.2.2.2.2.1
theorem dX11_way_37 : decode cX11_way 37 = .ok (.ldc2_w 167, 3) := eX11_way_16.2.2.2.2.2.1
theorem dX11_way_40 : decode cX11_way 40 = .ok (.invokestatic 153, 3) := eX11_way_16.2.2.2.2.2.2.1
theorem dX11_way_43 : decode cX11_way 43 = .ok (.ifCond .ne 9, 3) := eX11_way_16.2.2.2.2.2.2.2
theorem eX11_way_24 : (decode cX11_way 46 = .ok (.aload_n 0, 1)) ∧ (decode cX11_way 47 = .ok (.iconst (-1), 1)) ∧ (decode cX11_way 48 = .ok (.invokevirtual 173, 3)) ∧ (decode cX11_way 51 = .ok (.ireturn, 1)) ∧ (decode cX11_way 52 = .ok (.aload_n 0, 1)) ∧ (decode cX11_way 53 = .ok (.getfield 46, 3)) ∧ (decode cX11_way 56 = .ok (.iconst 5, 1)) ∧ (decode cX11_way 57 = .ok (.iload_n 1, 1)) := by decide +kernel
theorem dX11_way_46 : decode cX11_way 46 = .ok (.aload_n 0, 1) := eX11_way_24.1
theorem dX11_way_47 : decode cX11_way 47 = .ok (.iconst (-1), 1) := eX11_way_24.2.1
theorem dX11_way_48 : decode cX11_way 48 = .ok (.invokevirtual 173, 3) := eX11_way_24.2.2.1
theorem dX11_way_51 : decode cX11_way 51 = .ok (.ireturn, 1) := eX11_way_24.2.2.2.1
theorem dX11_way_52 : decode cX11_way 52 = .ok (.aload_n 0, 1) := eX11_way_24.2.2.2.2.1
theorem dX11_way_53 : decode cX11_way 53 = .ok (.getfield 46, 3) := eX11_way_24.2.2.2.2.2.1
theorem dX11_way_56 : decode cX11_way 56 = .ok (.iconst 5, 1) := eX11_way_24.2.2.2.2.2.2.1
theorem dX11_way_57 : decode cX11_way 57 = .ok (.iload_n 1, 1) := eX11_way_24.2.2.2.2.2.2.2
theorem eX11_way_32 : (decode cX11_way 58 = .ok (.imul, 1)) ∧ (decode cX11_way 59 = .ok (.iload_n 2, 1)) ∧ (decode cX11_way 60 = .ok (.iadd, 1)) ∧ (decode cX11_way 61 = .ok (.iload_n 3, 1)) ∧ (decode cX11_way 62 = .ok (.iastore, 1)) ∧ (decode cX11_way 63 = .ok (.aload_n 0, 1)) ∧ (decode cX11_way 64 = .ok (.getfield 46, 3)) ∧ (decode cX11_way 67 = .ok (.iconst 5, 1)) := by decide +kernel
theorem dX11_way_58 : decode cX11_way 58 = .ok (.imul, 1) := eX11_way_32.1
theorem dX11_way_59 : decode cX11_way 59 = .ok (.iload_n 2, 1) := eX11_way_32.2.1
theorem dX11_way_60 : decode cX11_way 60 = .ok (.iadd, 1) := eX11_way_32.2.2.1
theorem dX11_way_61 : decode cX11_way 61 = .ok (.iload_n 3, 1) := eX11_way_32.2.2.2.1
theorem dX11_way_62 : decode cX11_way 62 = .ok (.iastore, 1) := eX11_way_32.2.2.2.2.1
theorem dX11_way_63 : decode cX11_way 63 = .ok (.aload_n 0, 1) := eX11_way_32.2.2.2.2.2.1
theorem dX11_way_64 : decode cX11_way 64 = .ok (.getfield 46, 3) := eX11_way_32.2.2.2.2.2.2.1
theorem dX11_way_67 : decode cX11_way 67 = .ok (.iconst 5, 1) := eX11_way_32.2.2.2.2.2.2.2
theorem eX11_way_40 : (decode cX11_way 68 = .ok (.iload_n 2, 1)) ∧ (decode cX11_way 69 = .ok (.imul, 1)) ∧ (decode cX11_way 70 = .ok (.iload_n 1, 1)) ∧ (decode cX11_way 71 = .ok (.iadd, 1)) ∧ (decode cX11_way 72 = .ok (.iload_n 3, 1)) ∧ (decode cX11_way 73 = .ok (.iastore, 1)) ∧ (decode cX11_way 74 = .ok (.aload_n 0, 1)) ∧ (decode cX11_way 75 = .ok (.iconst 0, 1)) := by decide +kernel
theorem dX11_way_68 : decode cX11_way 68 = .ok (.iload_n 2, 1) := eX11_way_40.1
theorem dX11_way_69 : decode cX11_way 69 = .ok (.imul, 1) := eX11_way_40.2.1
theorem dX11_way_70 : decode cX11_way 70 = .ok (.iload_n 1, 1) := eX11_way_40.2.2.1
theorem dX11_way_71 : decode cX11_way 71 = .ok (.iadd, 1) := eX11_way_40.2.2.2.1
theorem dX11_way_72 : decode cX11_way 72 = .ok (.iload_n 3, 1) := eX11_way_40.2.2.2.2.1
theorem dX11_way_73 : decode cX11_way 73 = .ok (.iastore, 1) := eX11_way_40.2.2.2.2.2.1
theorem dX11_way_74 : decode cX11_way 74 = .ok (.aload_n 0, 1) := eX11_way_40.2.2.2.2.2.2.1
theorem dX11_way_75 : decode cX11_way 75 = .ok (.iconst 0, 1) := eX11_way_40.2.2.2.2.2.2.2
theorem eX11_way_48 : (decode cX11_way 76 = .ok (.invokevirtual 173, 3)) ∧ (decode cX11_way 79 = .ok (.ireturn, 1)) := by decide +kernel
theorem dX11_way_76 : decode cX11_way 76 = .ok (.invokevirtual 173, 3) := eX11_way_48.1
theorem dX11_way_79 : decode cX11_way 79 = .ok (.ireturn, 1) := eX11_way_48.2
theorem eX11_guest_0 : (decode cX11_guest 0 = .ok (.aload_n 0, 1)) ∧ (decode cX11_guest 1 = .ok (.iconst 0, 1)) ∧ (decode cX11_guest 2 = .ok (.putfield 144, 3)) ∧ (decode cX11_guest 5 = .ok (.iload_n 2, 1)) ∧ (decode cX11_guest 6 = .ok (.iconst (-1), 1)) ∧ (decode cX11_guest 7 = .ok (.if_icmp .ne 12, 3)) ∧ (decode cX11_guest 10 = .ok (.iload_n 3, 1)) ∧ (decode cX11_guest 11 = .ok (.iconst (-1), 1)) := by decide +kernel
theorem dX11_guest_0 : decode cX11_guest 0 = .ok (.aload_n 0, 1) := eX11_guest_0.1
theorem dX11_guest_1 : decode cX11_guest 1 = .ok (.iconst 0, 1) := eX11_guest_0.2.1
theorem dX11_guest_2 : decode cX11_guest 2 = .ok (.putfield 144, 3) := eX11_guest_0.2.2.1
theorem dX11_guest_5 : decode cX11_guest 5 = .ok (.iload_n 2, 1) := eX11_guest_0.2.2.2.1
theorem dX11_guest_6 : decode cX11_guest 6 = .ok (.iconst (-1), 1) := eX11_guest_0.2.2.2.2.1
theorem dX11_guest_7 : decode cX11_guest 7 = .ok (.if_icmp .ne 12, 3) := eX11_guest_0.2.2.2.2.2.1
theorem dX11_guest_10 : decode cX11_guest 10 = .ok (.iload_n 3, 1) := eX11_guest_0.2.2.2.2.2.2.1
theorem dX11_guest_11 : decode cX11_guest 11 = .ok (.iconst (-1), 1) := eX11_guest_0.2.2.2.2.2.2.2
theorem eX11_guest_8 : (decode cX11_guest 12 = .ok (.if_icmp .ne 7, 3)) ∧ (decode cX11_guest 15 = .ok (.iconst 1, 1)) ∧ (decode cX11_guest 16 = .ok (.goto 4, 3)) ∧ (decode cX11_guest 19 = .ok (.iconst 0, 1)) ∧ (decode cX11_guest 20 = .ok (.istore 4, 2)) ∧ (decode cX11_guest 22 = .ok (.iload 4, 2)) ∧ (decode cX11_guest 24 = .ok (.ifCond .ne 28, 3)) ∧ (decode cX11_guest 27 = .ok (.iload_n 2, 1)) := by decide +kernel
theorem dX11_guest_12 : decode cX11_guest 12 = .ok (.if_icmp .ne 7, 3) := eX11_guest_8.1
theorem dX11_guest_15 : decode cX11_guest 15 = .ok (.iconst 1, 1) := eX11_guest_8.2.1
theorem dX11_guest_16 : decode cX11_guest 16 = .ok (.goto 4, 3) := eX11_guest_8.2.2.1
theorem dX11_guest_19 : decode cX11_guest 19 = .ok (.iconst 0, 1) := eX11_guest_8.2.2.2.1
theorem dX11_guest_20 : decode cX11_guest 20 = .ok (.istore 4, 2) := eX11_guest_8.2.2.2.2.1
theorem dX11_guest_22 : decode cX11_guest 22 = .ok (.iload 4, 2) := eX11_guest_8.2.2.2.2.2.1
theorem dX11_guest_24 : decode cX11_guest 24 = .ok (.ifCond .ne 28, 3) := eX11_guest_8.2.2.2.2.2.2.1
theorem dX11_guest_27 : decode cX11_guest 27 = .ok (.iload_n 2, 1) := eX11_guest_8.2.2.2.2.2.2.2
theorem eX11_guest_16 : (decode cX11_guest 28 = .ok (.invokestatic 183, 3)) ∧ (decode cX11_guest 31 = .ok (.ifCond .eq 15, 3)) ∧ (decode cX11_guest 34 = .ok (.iload_n 3, 1)) ∧ (decode cX11_guest 35 = .ok (.invokestatic 183, 3)) ∧ (decode cX11_guest 38 = .ok (.ifCond .eq 8, 3)) ∧ (decode cX11_guest 41 = .ok (.iload_n 2, 1)) ∧ (decode cX11_guest 42 = .ok (.iload_n 3, 1)) ∧ (decode cX11_guest 43 = .ok (.if_icmp .le 9, 3)) := by decide +kernel
theorem dX11_guest_28 : decode cX11_guest 28 = .ok (.invokestatic 183, 3) := eX11_guest_16.1
theorem dX11_guest_31 : decode cX11_guest 31 = .ok (.ifCond .eq 15, 3) := eX11_guest_16.2.1
theorem dX11_guest_34 : decode cX11_guest 34 = .ok (.iload_n 3, 1) := eX11_guest_16.2.2.1
theorem dX11_guest_35 : decode cX11_guest 35 = .ok (.invokestatic 183, 3) := eX11_guest_16.2.2.2.1
theorem dX11_guest_38 : decode cX11_guest 38 = .ok (.ifCond .eq 8, 3) := eX11_guest_16.2.2.2.2.1
theorem dX11_guest_41 : decode cX11_guest 41 = .ok (.iload_n 2, 1) := eX11_guest_16.2.2.2.2.2.1
theorem dX11_guest_42 : decode cX11_guest 42 = .ok (.iload_n 3, 1) := eX11_guest_16.2.2.2.2.2.2.1
theorem dX11_guest_43 : decode cX11_guest 43 = .ok (.if_icmp .le 9, 3) := eX11_guest_16.2.2.2.2.2.2.2
theorem eX11_guest_24 : (decode cX11_guest 46 = .ok (.aload_n 0, 1)) ∧ (decode cX11_guest 47 = .ok (.iconst (-1), 1)) ∧ (decode cX11_guest 48 = .ok (.invokevirtual 173, 3)) ∧ (decode cX11_guest 51 = .ok (.ireturn, 1)) ∧ (decode cX11_guest 52 = .ok (.aload_n 0, 1)) ∧ (decode cX11_guest 53 = .ok (.iload_n 1, 1)) ∧ (decode cX11_guest 54 = .ok (.invokevirtual 187, 3)) ∧ (decode cX11_guest 57 = .ok (.ifCond .ne 10, 3)) := by decide +kernel
theorem dX11_guest_46 : decode cX11_guest 46 = .ok (.aload_n 0, 1) := eX11_guest_24.1
theorem dX11_guest_47 : decode cX11_guest 47 = .ok (.iconst (-1), 1) := eX11_guest_24.2.1
theorem dX11_guest_48 : decode cX11_guest 48 = .ok (.invokevirtual 173, 3) := eX11_guest_24.2.2.1
theorem dX11_guest_51 : decode cX11_guest 51 = .ok (.ireturn, 1) := eX11_guest_24.2.2.2.1
theorem dX11_guest_52 : decode cX11_guest 52 = .ok (.aload_n 0, 1) := eX11_guest_24.2.2.2.2.1
theorem dX11_guest_53 : decode cX11_guest 53 = .ok (.iload_n 1, 1) := eX11_guest_24.2.2.2.2.2.1
theorem dX11_guest_54 : decode cX11_guest 54 = .ok (.invokevirtual 187, 3) := eX11_guest_24.2.2.2.2.2.2.1
theorem dX11_guest_57 : decode cX11_guest 57 = .ok (.ifCond .ne 10, 3) := eX11_guest_24.2.2.2.2.2.2.2
theorem eX11_guest_32 : (decode cX11_guest 60 = .ok (.aload_n 0, 1)) ∧ (decode cX11_guest 61 = .ok (.bipush (-2), 2)) ∧ (decode cX11_guest 63 = .ok (.invokevirtual 173, 3)) ∧ (decode cX11_guest 66 = .ok (.ireturn, 1)) ∧ (decode cX11_guest 67 = .ok (.aload_n 0, 1)) ∧ (decode cX11_guest 68 = .ok (.getfield 31, 3)) ∧ (decode cX11_guest 71 = .ok (.iload_n 1, 1)) ∧ (decode cX11_guest 72 = .ok (.iload_n 2, 1)) := by decide +kernel
theorem dX11_guest_60 : decode cX11_guest 60 = .ok (.aload_n 0, 1) := eX11_guest_32.1
theorem dX11_guest_61 : decode cX11_guest 61 = .ok (.bipush (-2), 2) := eX11_guest_32.2.1
theorem dX11_guest_63 : decode cX11_guest 63 = .ok (.invokevirtual 173, 3) := eX11_guest_32.2.2.1
theorem dX11_guest_66 : decode cX11_guest 66 = .ok (.ireturn, 1) := eX11_guest_32.2.2.2.1
theorem dX11_guest_67 : decode cX11_guest 67 = .ok (.aload_n 0, 1) := eX11_guest_32.2.2.2.2.1
theorem dX11_guest_68 : decode cX11_guest 68 = .ok (.getfield 31, 3) := eX11_guest_32.2.2.2.2.2.1
theorem dX11_guest_71 : decode cX11_guest 71 = .ok (.iload_n 1, 1) := eX11_guest_32.2.2.2.2.2.2.1
theorem dX11_guest_72 : decode cX11_guest 72 = .ok (.iload_n 2, 1) := eX11_guest_32.2.2.2.2.2.2.2
theorem eX11_guest_40 : (decode cX11_guest 73 = .ok (.iastore, 1)) ∧ (decode cX11_guest 74 = .ok (.aload_n 0, 1)) ∧ (decode cX11_guest 75 = .ok (.getfield 34, 3)) ∧ (decode cX11_guest 78 = .ok (.iload_n 1, 1)) ∧ (decode cX11_guest 79 = .ok (.iload_n 3, 1)) ∧ (decode cX11_guest 80 = .ok (.iastore, 1)) ∧ (decode cX11_guest 81 = .ok (.aload_n 0, 1)) ∧ (decode cX11_guest 82 = .ok (.iconst 0, 1)) := by decide +kernel
theorem dX11_guest_73 : decode cX11_guest 73 = .ok (.iastore, 1) := eX11_guest_40.1
theorem dX11_guest_74 : decode cX11_guest 74 = .ok (.aload_n 0, 1) := eX11_guest_40.2.1
theorem dX11_guest_75 : decode cX11_guest 75 = .ok (.getfield 34, 3) := eX11_guest_40.2.2.1
theorem dX11_guest_78 : decode cX11_guest 78 = .ok (.iload_n 1, 1) := eX11_guest_40.2.2.2.1
theorem dX11_guest_79 : decode cX11_guest 79 = .ok (.iload_n 3, 1) := eX11_guest_40.2.2.2.2.1
theorem dX11_guest_80 : decode cX11_guest 80 = .ok (.iastore, 1) := eX11_guest_40.2.2.2.2.2.1
theorem dX11_guest_81 : decode cX11_guest 81 = .ok (.aload_n 0, 1) := eX11_guest_40.2.2.2.2.2.2.1
theorem dX11_guest_82 : decode cX11_guest 82 = .ok (.iconst 0, 1) := eX11_guest_40.2.2.2.2.2.2.2
theorem eX11_guest_48 : (decode cX11_guest 83 = .ok (.invokevirtual 173, 3)) ∧ (decode cX11_guest 86 = .ok (.ireturn, 1)) := by decide +kernel
theorem dX11_guest_83 : decode cX11_guest 83 = .ok (.invokevirtual 173, 3) := eX11_guest_48.1
theorem dX11_guest_86 : decode cX11_guest 86 = .ok (.ireturn, 1) := eX11_guest_48.2
theorem eX11_bar_0 : (decode cX11_bar 0 = .ok (.aload_n 0, 1)) ∧ (decode cX11_bar 1 = .ok (.iconst 0, 1)) ∧ (decode cX11_bar 2 = .ok (.putfield 144, 3)) ∧ (decode cX11_bar 5 = .ok (.iload_n 2, 1)) ∧ (decode cX11_bar 6 = .ok (.invokestatic 183, 3)) ∧ (decode cX11_bar 9 = .ok (.ifCond .eq 27, 3)) ∧ (decode cX11_bar 12 = .ok (.iload_n 3, 1)) ∧ (decode cX11_bar 13 = .ok (.i2l, 1)) := by decide +kernel
theorem dX11_bar_0 : decode cX11_bar 0 = .ok (.aload_n 0, 1) := eX11_bar_0.1
theorem dX11_bar_1 : decode cX11_bar 1 = .ok (.iconst 0, 1) := eX11_bar_0.2.1
theorem dX11_bar_2 : decode cX11_bar 2 = .ok (.putfield 144, 3) := eX11_bar_0.2.2.1
theorem dX11_bar_5 : decode cX11_bar 5 = .ok (.iload_n 2, 1) := eX11_bar_0.2.2.2.1
theorem dX11_bar_6 : decode cX11_bar 6 = .ok (.invokestatic 183, 3) := eX11_bar_0.2.2.2.2.1
theorem dX11_bar_9 : decode cX11_bar 9 = .ok (.ifCond .eq 27, 3) := eX11_bar_0.2.2.2.2.2.1
theorem dX11_bar_12 : decode cX11_bar 12 = .ok (.iload_n 3, 1) := eX11_bar_0.2.2.2.2.2.2.1
theorem dX11_bar_13 : decode cX11_bar 13 = .ok (.i2l, 1) := eX11_bar_0.2.2.2.2.2.2.2
theorem eX11_bar_8 : (decode cX11_bar 14 = .ok (.lconst 0, 1)) ∧ (decode cX11_bar 15 = .ok (.ldc2_w 190, 3)) ∧ (decode cX11_bar 18 = .ok (.invokestatic 153, 3)) ∧ (decode cX11_bar 21 = .ok (.ifCond .eq 15, 3)) ∧ (decode cX11_bar 24 = .ok (.iload 4, 2)) ∧ (decode cX11_bar 26 = .ok (.iconst (-1), 1)) ∧ (decode cX11_bar 27 = .ok (.if_icmp .eq 15, 3)) ∧ (decode cX11_bar 30 = .ok (.iload 4, 2)) := by decide +kernel
theorem dX11_bar_14 : decode cX11_bar 14 = .ok (.lconst 0, 1) := eX11_bar_8.1
theorem dX11_bar_15 : decode cX11_bar 15 = .ok (.ldc2_w 190, 3) := eX11_bar_8.2.1
theorem dX11_bar_18 : decode cX11_bar 18 = .ok (.invokestatic 153, 3) := eX11_bar_8.2.2.1
theorem dX11_bar_21 : decode cX11_bar 21 = .ok (.ifCond .eq 15, 3) := eX11_bar_8.2.2.2.1
theorem dX11_bar_24 : decode cX11_bar 24 = .ok (.iload 4, 2) := eX11_bar_8.2.2.2.2.1
theorem dX11_bar_26 : decode cX11_bar 26 = .ok (.iconst (-1), 1) := eX11_bar_8.2.2.2.2.2.1
theorem dX11_bar_27 : decode cX11_bar 27 = .ok (.if_icmp .eq 15, 3) := eX11_bar_8.2.2.2.2.2.2.1
theorem dX11_bar_30 : decode cX11_bar 30 = .ok (.iload 4, 2) := eX11_bar_8.2.2.2.2.2.2.2
theorem eX11_bar_16 : (decode cX11_bar 32 = .ok (.iload_n 1, 1)) ∧ (decode cX11_bar 33 = .ok (.if_icmp .ne 9, 3)) ∧ (decode cX11_bar 36 = .ok (.aload_n 0, 1)) ∧ (decode cX11_bar 37 = .ok (.iconst (-1), 1)) ∧ (decode cX11_bar 38 = .ok (.invokevirtual 173, 3)) ∧ (decode cX11_bar 41 = .ok (.ireturn, 1)) ∧ (decode cX11_bar 42 = .ok (.aload_n 0, 1)) ∧ (decode cX11_bar 43 = .ok (.iload_n 1, 1)) := by decide +kernel
theorem dX11_bar_32 : decode cX11_bar 32 = .ok (.iload_n 1, 1) := eX11_bar_16.1
theorem dX11_bar_33 : decode cX11_bar 33 = .ok (.if_icmp .ne 9, 3) := eX11_bar_16.2.1
theorem dX11_bar_36 : decode cX11_bar 36 = .ok (.aload_n 0, 1) := eX11_bar_16.2.2.1
theorem dX11_bar_37 : decode cX11_bar 37 = .ok (.iconst (-1), 1) := eX11_bar_16.2.2.2.1
theorem dX11_bar_38 : decode cX11_bar 38 = .ok (.invokevirtual 173, 3) := eX11_bar_16.2.2.2.2.1
theorem dX11_bar_41 : decode cX11_bar 41 = .ok (.ireturn, 1) := eX11_bar_16.2.2.2.2.2.1
theorem dX11_bar_42 : decode cX11_bar 42 = .ok (.aload_n 0, 1) := eX11_bar_16.2.2.2.2.2.2.1
theorem dX11_bar_43 : decode cX11_bar 43 = .ok (.iload_n 1, 1) := eX11_bar_16.2.2.2.2.2.2.2
theorem eX11_bar_24 : (decode cX11_bar 44 = .ok (.invokevirtual 187, 3)) ∧ (decode cX11_bar 47 = .ok (.ifCond .eq 18, 3)) ∧ (decode cX11_bar 50 = .ok (.iload 4, 2)) ∧ (decode cX11_bar 52 = .ok (.iconst (-1), 1)) ∧ (decode cX11_bar 53 = .ok (.if_icmp .eq 19, 3)) ∧ (decode cX11_bar 56 = .ok (.aload_n 0, 1)) ∧ (decode cX11_bar 57 = .ok (.iload 4, 2)) ∧ (decode cX11_bar 59 = .ok (.invokevirtual 187, 3)) := by decide +kernel
theorem dX11_bar_44 : decode cX11_bar 44 = .ok (.invokevirtual 187, 3) := eX11_bar_24.1
theorem dX11_bar_47 : decode cX11_bar 47 = .ok (.ifCond .eq 18, 3) := eX11_bar_24.2.1
theorem dX11_bar_50 : decode cX11_bar 50 = .ok (.iload 4, 2) := eX11_bar_24.2.2.1
theorem dX11_bar_52 : decode cX11_bar 52 = .ok (.iconst (-1), 1) := eX11_bar_24.2.2.2.1
theorem dX11_bar_53 : decode cX11_bar 53 = .ok (.if_icmp .eq 19, 3) := eX11_bar_24.2.2.2.2.1
theorem dX11_bar_56 : decode cX11_bar 56 = .ok (.aload_n 0, 1) := eX11_bar_24.2.2.2.2.2.1
theorem dX11_bar_57 : decode cX11_bar 57 = .ok (.iload 4, 2) := eX11_bar_24.2.2.2.2.2.2.1
theorem dX11_bar_59 : decode cX11_bar 59 = .ok (.invokevirtual 187, 3) := eX11_bar_24.2.2.2.2.2.2.2
theorem eX11_bar_32 : (decode cX11_bar 62 = .ok (.ifCond .ne 10, 3)) ∧ (decode cX11_bar 65 = .ok (.aload_n 0, 1)) ∧ (decode cX11_bar 66 = .ok (.bipush (-2), 2)) ∧ (decode cX11_bar 68 = .ok (.invokevirtual 173, 3)) ∧ (decode cX11_bar 71 = .ok (.ireturn, 1)) ∧ (decode cX11_bar 72 = .ok (.aload_n 0, 1)) ∧ (decode cX11_bar 73 = .ok (.getfield 37, 3)) ∧ (decode cX11_bar 76 = .ok (.iload_n 1, 1)) := by decide +kernel
theorem dX11_bar_62 : decode cX11_bar 62 = .ok (.ifCond .ne 10, 3) := eX11_bar_32.1
theorem dX11_bar_65 : decode cX11_bar 65 = .ok (.aload_n 0, 1) := eX11_bar_32.2.1
theorem dX11_bar_66 : decode cX11_bar 66 = .ok (.bipush (-2), 2) := eX11_bar_32.2.2.1
theorem dX11_bar_68 : decode cX11_bar 68 = .ok (.invokevirtual 173, 3) := eX11_bar_32.2.2.2.1
theorem dX11_bar_71 : decode cX11_bar 71 = .ok (.ireturn, 1) := eX11_bar_32.2.2.2.2.1
theorem dX11_bar_72 : decode cX11_bar 72 = .ok (.aload_n 0, 1) := eX11_bar_32.2.2.2.2.2.1
theorem dX11_bar_73 : decode cX11_bar 73 = .ok (.getfield 37, 3) := eX11_bar_32.2.2.2.2.2.2.1
theorem dX11_bar_76 : decode cX11_bar 76 = .ok (.iload_n 1, 1) := eX11_bar_32.2.2.2.2.2.2.2
theorem eX11_bar_40 : (decode cX11_bar 77 = .ok (.iload_n 2, 1)) ∧ (decode cX11_bar 78 = .ok (.iastore, 1)) ∧ (decode cX11_bar 79 = .ok (.aload_n 0, 1)) ∧ (decode cX11_bar 80 = .ok (.getfield 40, 3)) ∧ (decode cX11_bar 83 = .ok (.iload_n 1, 1)) ∧ (decode cX11_bar 84 = .ok (.iload_n 3, 1)) ∧ (decode cX11_bar 85 = .ok (.iastore, 1)) ∧ (decode cX11_bar 86 = .ok (.aload_n 0, 1)) := by decide +kernel
theorem dX11_bar_77 : decode cX11_bar 77 = .ok (.iload_n 2, 1) := eX11_bar_40.1
theorem dX11_bar_78 : decode cX11_bar 78 = .ok (.iastore, 1) := eX11_bar_40.2.1
theorem dX11_bar_79 : decode cX11_bar 79 = .ok (.aload_n 0, 1) := eX11_bar_40.2.2.1
theorem dX11_bar_80 : decode cX11_bar 80 = .ok (.getfield 40, 3) := eX11_bar_40.2.2.2.1
theorem dX11_bar_83 : decode cX11_bar 83 = .ok (.iload_n 1, 1) := eX11_bar_40.2.2.2.2.1
theorem dX11_bar_84 : decode cX11_bar 84 = .ok (.iload_n 3, 1) := eX11_bar_40.2.2.2.2.2.1
theorem dX11_bar_85 : decode cX11_bar 85 = .ok (.iastore, 1) := eX11_bar_40.2.2.2.2.2.2.1
theorem dX11_bar_86 : decode cX11_bar 86 = .ok (.aload_n 0, 1) := eX11_bar_40.2.2.2.2.2.2.2
theorem eX11_bar_48 : (decode cX11_bar 87 = .ok (.getfield 43, 3)) ∧ (decode cX11_bar 90 = .ok (.iload_n 1, 1)) ∧ (decode cX11_bar 91 = .ok (.iload 4, 2)) ∧ (decode cX11_bar 93 = .ok (.iastore, 1)) ∧ (decode cX11_bar 94 = .ok (.aload_n 0, 1)) ∧ (decode cX11_bar 95 = .ok (.iconst 0, 1)) ∧ (decode cX11_bar 96 = .ok (.invokevirtual 173, 3)) ∧ (decode cX11_bar 99 = .ok (.ireturn, 1)) := by decide +kernel
theorem dX11_bar_87 : decode cX11_bar 87 = .ok (.getfield 43, 3) := eX11_bar_48.1
theorem dX11_bar_90 : decode cX11_bar 90 = .ok (.iload_n 1, 1) := eX11_bar_48.2.1
theorem dX11_bar_91 : decode cX11_bar 91 = .ok (.iload 4, 2) := eX11_bar_48.2.2.1
theorem dX11_bar_93 : decode cX11_bar 93 = .ok (.iastore, 1) := eX11_bar_48.2.2.2.1
theorem dX11_bar_94 : decode cX11_bar 94 = .ok (.aload_n 0, 1) := eX11_bar_48.2.2.2.2.1
theorem dX11_bar_95 : decode cX11_bar 95 = .ok (.iconst 0, 1) := eX11_bar_48.2.2.2.2.2.1
theorem dX11_bar_96 : decode cX11_bar 96 = .ok (.invokevirtual 173, 3) := eX11_bar_48.2.2.2.2.2.2.1
theorem dX11_bar_99 : decode cX11_bar 99 = .ok (.ireturn, 1) := eX11_bar_48.2.2.2.2.2.2.2
theorem eX11_endOf_0 : (decode cX11_endOf 0 = .ok (.aload_n 0, 1)) ∧ (decode cX11_endOf 1 = .ok (.getfield 59, 3)) ∧ (decode cX11_endOf 4 = .ok (.iload_n 1, 1)) ∧ (decode cX11_endOf 5 = .ok (.iaload, 1)) ∧ (decode cX11_endOf 6 = .ok (.aload_n 0, 1)) ∧ (decode cX11_endOf 7 = .ok (.getfield 22, 3)) ∧ (decode cX11_endOf 10 = .ok (.aload_n 0, 1)) ∧ (decode cX11_endOf 11 = .ok (.getfield 53, 3)) := by decide +kernel
theorem dX11_endOf_0 : decode cX11_endOf 0 = .ok (.aload_n 0, 1) := eX11_endOf_0.1
theorem dX11_endOf_1 : decode cX11_endOf 1 = .ok (.getfield 59, 3) := eX11_endOf_0.2.1
theorem dX11_endOf_4 : decode cX11_endOf 4 = .ok (.iload_n 1, 1) := eX11_endOf_0.2.2.1
theorem dX11_endOf_5 : decode cX11_endOf 5 = .ok (.iaload, 1) := eX11_endOf_0.2.2.2.1
theorem dX11_endOf_6 : decode cX11_endOf 6 = .ok (.aload_n 0, 1) := eX11_endOf_0.2.2.2.2.1
theorem dX11_endOf_7 : decode cX11_endOf 7 = .ok (.getfield 22, 3) := eX11_endOf_0.2.2.2.2.2.1
theorem dX11_endOf_10 : decode cX11_endOf 10 = .ok (.aload_n 0, 1) := eX11_endOf_0.2.2.2.2.2.2.1
theorem dX11_endOf_11 : decode cX11_endOf 11 = .ok (.getfield 53, 3) := eX11_endOf_0.2.2.2.2.2.2.2
theorem eX11_endOf_8 : (decode cX11_endOf 14 = .ok (.iload_n 1, 1)) ∧ (decode cX11_endOf 15 = .ok (.iaload, 1)) ∧ (decode cX11_endOf 16 = .ok (.iaload, 1)) ∧ (decode cX11_endOf 17 = .ok (.iadd, 1)) ∧ (decode cX11_endOf 18 = .ok (.ireturn, 1)) := by decide +kernel
theorem dX11_endOf_14 : decode cX11_endOf 14 = .ok (.iload_n 1, 1) := eX11_endOf_8.1
theorem dX11_endOf_15 : decode cX11_endOf 15 = .ok (.iaload, 1) := eX11_endOf_8.2.1
theorem dX11_endOf_16 : decode cX11_endOf 16 = .ok (.iaload, 1) := eX11_endOf_8.2.2.1
theorem dX11_endOf_17 : decode cX11_endOf 17 = .ok (.iadd, 1) := eX11_endOf_8.2.2.2.1
theorem dX11_endOf_18 : decode cX11_endOf 18 = .ok (.ireturn, 1) := eX11_endOf_8.2.2.2.2
theorem eX11_whyOf_0 : (decode cX11_whyOf 0 = .ok (.iload_n 3, 1)) ∧ (decode cX11_whyOf 1 = .ok (.aload_n 0, 1)) ∧ (decode cX11_whyOf 2 = .ok (.getfield 22, 3)) ∧ (decode cX11_whyOf 5 = .ok (.iload_n 1, 1)) ∧ (decode cX11_whyOf 6 = .ok (.iaload, 1)) ∧ (decode cX11_whyOf 7 = .ok (.iadd, 1)) ∧ (decode cX11_whyOf 8 = .ok (.istore 6, 2)) ∧ (decode cX11_whyOf 10 = .ok (.iload 6, 2)) := by decide +kernel
theorem dX11_whyOf_0 : decode cX11_whyOf 0 = .ok (.iload_n 3, 1) := eX11_whyOf_0.1
theorem dX11_whyOf_1 : decode cX11_whyOf 1 = .ok (.aload_n 0, 1) := eX11_whyOf_0.2.1
theorem dX11_whyOf_2 : decode cX11_whyOf 2 = .ok (.getfield 22, 3) := eX11_whyOf_0.2.2.1
theorem dX11_whyOf_5 : decode cX11_whyOf 5 = .ok (.iload_n 1, 1) := eX11_whyOf_0.2.2.2.1
theorem dX11_whyOf_6 : decode cX11_whyOf 6 = .ok (.iaload, 1) := eX11_whyOf_0.2.2.2.2.1
theorem dX11_whyOf_7 : decode cX11_whyOf 7 = .ok (.iadd, 1) := eX11_whyOf_0.2.2.2.2.2.1
theorem dX11_whyOf_8 : decode cX11_whyOf 8 = .ok (.istore 6, 2) := eX11_whyOf_0.2.2.2.2.2.2.1
theorem dX11_whyOf_10 : decode cX11_whyOf 10 = .ok (.iload 6, 2) := eX11_whyOf_0.2.2.2.2.2.2.2
theorem eX11_whyOf_8 : (decode cX11_whyOf 12 = .ok (.sipush 14400, 3)) ∧ (decode cX11_whyOf 15 = .ok (.if_icmp .le 5, 3)) ∧ (decode cX11_whyOf 18 = .ok (.iconst 1, 1)) ∧ (decode cX11_whyOf 19 = .ok (.ireturn, 1)) ∧ (decode cX11_whyOf 20 = .ok (.aload_n 0, 1)) ∧ (decode cX11_whyOf 21 = .ok (.getfield 19, 3)) ∧ (decode cX11_whyOf 24 = .ok (.iload_n 2, 1)) ∧ (decode cX11_whyOf 25 = .ok (.iaload, 1)) := by decide +kernel
theorem dX11_whyOf_12 : decode cX11_whyOf 12 = .ok (.sipush 14400, 3) := eX11_whyOf_8.1
theorem dX11_whyOf_15 : decode cX11_whyOf 15 = .ok (.if_icmp .le 5, 3) := eX11_whyOf_8.2.1
theorem dX11_whyOf_18 : decode cX11_whyOf 18 = .ok (.iconst 1, 1) := eX11_whyOf_8.2.2.1
theorem dX11_whyOf_19 : decode cX11_whyOf 19 = .ok (.ireturn, 1) := eX11_whyOf_8.2.2.2.1
theorem dX11_whyOf_20 : decode cX11_whyOf 20 = .ok (.aload_n 0, 1) := eX11_whyOf_8.2.2.2.2.1
theorem dX11_whyOf_21 : decode cX11_whyOf 21 = .ok (.getfield 19, 3) := eX11_whyOf_8.2.2.2.2.2.1
theorem dX11_whyOf_24 : decode cX11_whyOf 24 = .ok (.iload_n 2, 1) := eX11_whyOf_8.2.2.2.2.2.2.1
theorem dX11_whyOf_25 : decode cX11_whyOf 25 = .ok (.iaload, 1) := eX11_whyOf_8.2.2.2.2.2.2.2
theorem eX11_whyOf_16 : (decode cX11_whyOf 26 = .ok (.aload_n 0, 1)) ∧ (decode cX11_whyOf 27 = .ok (.getfield 25, 3)) ∧ (decode cX11_whyOf 30 = .ok (.iload_n 1, 1)) ∧ (decode cX11_whyOf 31 = .ok (.iaload, 1)) ∧ (decode cX11_whyOf 32 = .ok (.ishr, 1)) ∧ (decode cX11_whyOf 33 = .ok (.iconst 1, 1)) ∧ (decode cX11_whyOf 34 = .ok (.iand, 1)) ∧ (decode cX11_whyOf 35 = .ok (.ifCond .ne 5, 3)) := by decide +kernel
theorem dX11_whyOf_26 : decode cX11_whyOf 26 = .ok (.aload_n 0, 1) := eX11_whyOf_16.1
theorem dX11_whyOf_27 : decode cX11_whyOf 27 = .ok (.getfield 25, 3) := eX11_whyOf_16.2.1
theorem dX11_whyOf_30 : decode cX11_whyOf 30 = .ok (.iload_n 1, 1) := eX11_whyOf_16.2.2.1
theorem dX11_whyOf_31 : decode cX11_whyOf 31 = .ok (.iaload, 1) := eX11_whyOf_16.2.2.2.1
theorem dX11_whyOf_32 : decode cX11_whyOf 32 = .ok (.ishr, 1) := eX11_whyOf_16.2.2.2.2.1
theorem dX11_whyOf_33 : decode cX11_whyOf 33 = .ok (.iconst 1, 1) := eX11_whyOf_16.2.2.2.2.2.1
theorem dX11_whyOf_34 : decode cX11_whyOf 34 = .ok (.iand, 1) := eX11_whyOf_16.2.2.2.2.2.2.1
theorem dX11_whyOf_35 : decode cX11_whyOf 35 = .ok (.ifCond .ne 5, 3) := eX11_whyOf_16.2.2.2.2.2.2.2
theorem eX11_whyOf_24 : (decode cX11_whyOf 38 = .ok (.iconst 2, 1)) ∧ (decode cX11_whyOf 39 = .ok (.ireturn, 1)) ∧ (decode cX11_whyOf 40 = .ok (.iconst 0, 1)) ∧ (decode cX11_whyOf 41 = .ok (.istore 7, 2)) ∧ (decode cX11_whyOf 43 = .ok (.iconst 0, 1)) ∧ (decode cX11_whyOf 44 = .ok (.istore 8, 2)) ∧ (decode cX11_whyOf 46 = .ok (.iconst 0, 1)) ∧ (decode cX11_whyOf 47 = .ok (.istore 9, 2)) := by decide +kernel
theorem dX11_whyOf_38 : decode cX11_whyOf 38 = .ok (.iconst 2, 1) := eX11_whyOf_24.1
theorem dX11_whyOf_39 : decode cX11_whyOf 39 = .ok (.ireturn, 1) := eX11_whyOf_24.2.1
theorem dX11_whyOf_40 : decode cX11_whyOf 40 = .ok (.iconst 0, 1) := eX11_whyOf_24.2.2.1
theorem dX11_whyOf_41 : decode cX11_whyOf 41 = .ok (.istore 7, 2) := eX11_whyOf_24.2.2.2.1
theorem dX11_whyOf_43 : decode cX11_whyOf 43 = .ok (.iconst 0, 1) := eX11_whyOf_24.2.2.2.2.1
theorem dX11_whyOf_44 : decode cX11_whyOf 44 = .ok (.istore 8, 2) := eX11_whyOf_24.2.2.2.2.2.1
theorem dX11_whyOf_46 : decode cX11_whyOf 46 = .ok (.iconst 0, 1) := eX11_whyOf_24.2.2.2.2.2.2.1
theorem dX11_whyOf_47 : decode cX11_whyOf 47 = .ok (.istore 9, 2) := eX11_whyOf_24.2.2.2.2.2.2.2
theorem eX11_whyOf_32 : (decode cX11_whyOf 49 = .ok (.iconst 1, 1)) ∧ (decode cX11_whyOf 50 = .ok (.istore 10, 2)) ∧ (decode cX11_whyOf 52 = .ok (.iconst 0, 1)) ∧ (decode cX11_whyOf 53 = .ok (.istore 11, 2)) ∧ (decode cX11_whyOf 55 = .ok (.iload 11, 2)) ∧ (decode cX11_whyOf 57 = .ok (.aload_n 0, 1)) ∧ (decode cX11_whyOf 58 = .ok (.getfield 160, 3)) ∧ (decode cX11_whyOf 61 = .ok (.if_icmp .ge 294, 3)) := by decide +kernel
theorem dX11_whyOf_49 : decode cX11_whyOf 49 = .ok (.iconst 1, 1) := eX11_whyOf_32.1
theorem dX11_whyOf_50 : decode cX11_whyOf 50 = .ok (.istore 10, 2) := eX11_whyOf_32.2.1
theorem dX11_whyOf_52 : decode cX11_whyOf 52 = .ok (.iconst 0, 1) := eX11_whyOf_32.2.2.1
theorem dX11_whyOf_53 : decode cX11_whyOf 53 = .ok (.istore 11, 2) := eX11_whyOf_32.2.2.2.1
theorem dX11_whyOf_55 : decode cX11_whyOf 55 = .ok (.iload 11, 2) := eX11_whyOf_32.2.2.2.2.1
theorem dX11_whyOf_57 : decode cX11_whyOf 57 = .ok (.aload_n 0, 1) := eX11_whyOf_32.2.2.2.2.2.1
theorem dX11_whyOf_58 : decode cX11_whyOf 58 = .ok (.getfield 160, 3) := eX11_whyOf_32.2.2.2.2.2.2.1
theorem dX11_whyOf_61 : decode cX11_whyOf 61 = .ok (.if_icmp .ge 294, 3) := eX11_whyOf_32.2.2.2.2.2.2.2
theorem eX11_whyOf_40 : (decode cX11_whyOf 64 = .ok (.aload_n 0, 1)) ∧ (decode cX11_whyOf 65 = .ok (.getfield 49, 3)) ∧ (decode cX11_whyOf 68 = .ok (.iload 11, 2)) ∧ (decode cX11_whyOf 70 = .ok (.baload, 1)) ∧ (decode cX11_whyOf 71 = .ok (.ifCond .eq 278, 3)) ∧ (decode cX11_whyOf 74 = .ok (.iload 11, 2)) ∧ (decode cX11_whyOf 76 = .ok (.iload 5, 2)) ∧ (decode cX11_whyOf 78 = .ok (.if_icmp .ne 6, 3)) := by decide +kernel
theorem dX11_whyOf_64 : decode cX11_whyOf 64 = .ok (.aload_n 0, 1) := eX11_whyOf_40.1
theorem dX11_whyOf_65 : decode cX11_whyOf 65 = .ok (.getfield 49, 3) := eX11_whyOf_40.2.1
theorem dX11_whyOf_68 : decode cX11_whyOf 68 = .ok (.iload 11, 2) := eX11_whyOf_40.2.2.1
theorem dX11_whyOf_70 : decode cX11_whyOf 70 = .ok (.baload, 1) := eX11_whyOf_40.2.2.2.1
theorem dX11_whyOf_71 : decode cX11_whyOf 71 = .ok (.ifCond .eq 278, 3) := eX11_whyOf_40.2.2.2.2.1
theorem dX11_whyOf_74 : decode cX11_whyOf 74 = .ok (.iload 11, 2) := eX11_whyOf_40.2.2.2.2.2.1
theorem dX11_whyOf_76 : decode cX11_whyOf 76 = .ok (.iload 5, 2) := eX11_whyOf_40.2.2.2.2.2.2.1
theorem dX11_whyOf_78 : decode cX11_whyOf 78 = .ok (.if_icmp .ne 6, 3) := eX11_whyOf_40.2.2.2.2.2.2.2
theorem eX11_whyOf_48 : (decode cX11_whyOf 81 = .ok (.goto 268, 3)) ∧ (decode cX11_whyOf 84 = .ok (.iload 7, 2)) ∧ (decode cX11_whyOf 86 = .ok (.ifCond .ne 50, 3)) ∧ (decode cX11_whyOf 89 = .ok (.aload_n 0, 1)) ∧ (decode cX11_whyOf 90 = .ok (.getfield 56, 3)) ∧ (decode cX11_whyOf 93 = .ok (.iload 11, 2)) ∧ (decode cX11_whyOf 95 = .ok (.iaload, 1)) ∧ (decode cX11_whyOf 96 = .ok (.iload_n 2, 1)) := by decide +kernel
theorem dX11_whyOf_81 : decode cX11_whyOf 81 = .ok (.goto 268, 3) := eX11_whyOf_48.1
theorem dX11_whyOf_84 : decode cX11_whyOf 84 = .ok (.iload 7, 2) := eX11_whyOf_48.2.1
theorem dX11_whyOf_86 : decode cX11_whyOf 86 = .ok (.ifCond .ne 50, 3) := eX11_whyOf_48.2.2.1
theorem dX11_whyOf_89 : decode cX11_whyOf 89 = .ok (.aload_n 0, 1) := eX11_whyOf_48.2.2.2.1
theorem dX11_whyOf_90 : decode cX11_whyOf 90 = .ok (.getfield 56, 3) := eX11_whyOf_48.2.2.2.2.1
theorem dX11_whyOf_93 : decode cX11_whyOf 93 = .ok (.iload 11, 2) := eX11_whyOf_48.2.2.2.2.2.1
theorem dX11_whyOf_95 : decode cX11_whyOf 95 = .ok (.iaload, 1) := eX11_whyOf_48.2.2.2.2.2.2.1
theorem dX11_whyOf_96 : decode cX11_whyOf 96 = .ok (.iload_n 2, 1) := eX11_whyOf_48.2.2.2.2.2.2.2
theorem eX11_whyOf_56 : (decode cX11_whyOf 97 = .ok (.if_icmp .ne 43, 3)) ∧ (decode cX11_whyOf 100 = .ok (.aload_n 0, 1)) ∧ (decode cX11_whyOf 101 = .ok (.getfield 59, 3)) ∧ (decode cX11_whyOf 104 = .ok (.iload 11, 2)) ∧ (decode cX11_whyOf 106 = .ok (.iaload, 1)) ∧ (decode cX11_whyOf 107 = .ok (.iload 6, 2)) ∧ (decode cX11_whyOf 109 = .ok (.aload_n 0, 1)) ∧ (decode cX11_whyOf 110 = .ok (.getfield 16, 3)) := by decide +kernel
theorem dX11_whyOf_97 : decode cX11_whyOf 97 = .ok (.if_icmp .ne 43, 3) := eX11_whyOf_56.1
theorem dX11_whyOf_100 : decode cX11_whyOf 100 = .ok (.aload_n 0, 1) := eX11_whyOf_56.2.1
theorem dX11_whyOf_101 : decode cX11_whyOf 101 = .ok (.getfield 59, 3) := eX11_whyOf_56.2.2.1
theorem dX11_whyOf_104 : decode cX11_whyOf 104 = .ok (.iload 11, 2) := eX11_whyOf_56.2.2.2.1
theorem dX11_whyOf_106 : decode cX11_whyOf 106 = .ok (.iaload, 1) := eX11_whyOf_56.2.2.2.2.1
theorem dX11_whyOf_107 : decode cX11_whyOf 107 = .ok (.iload 6, 2) := eX11_whyOf_56.2.2.2.2.2.1
theorem dX11_whyOf_109 : decode cX11_whyOf 109 = .ok (.aload_n 0, 1) := eX11_whyOf_56.2.2.2.2.2.2.1
theorem dX11_whyOf_110 : decode cX11_whyOf 110 = .ok (.getfield 16, 3) := eX11_whyOf_56.2.2.2.2.2.2.2
theorem eX11_whyOf_64 : (decode cX11_whyOf 113 = .ok (.iload_n 2, 1)) ∧ (decode cX11_whyOf 114 = .ok (.iaload, 1)) ∧ (decode cX11_whyOf 115 = .ok (.iadd, 1)) ∧ (decode cX11_whyOf 116 = .ok (.if_icmp .ge 24, 3)) ∧ (decode cX11_whyOf 119 = .ok (.aload_n 0, 1)) ∧ (decode cX11_whyOf 120 = .ok (.iload 11, 2)) ∧ (decode cX11_whyOf 122 = .ok (.invokevirtual 192, 3)) ∧ (decode cX11_whyOf 125 = .ok (.aload_n 0, 1)) := by decide +kernel
theorem dX11_whyOf_113 : decode cX11_whyOf 113 = .ok (.iload_n 2, 1) := eX11_whyOf_64.1
theorem dX11_whyOf_114 : decode cX11_whyOf 114 = .ok (.iaload, 1) := eX11_whyOf_64.2.1
theorem dX11_whyOf_115 : decode cX11_whyOf 115 = .ok (.iadd, 1) := eX11_whyOf_64.2.2.1
theorem dX11_whyOf_116 : decode cX11_whyOf 116 = .ok (.if_icmp .ge 24, 3) := eX11_whyOf_64.2.2.2.1
theorem dX11_whyOf_119 : decode cX11_whyOf 119 = .ok (.aload_n 0, 1) := eX11_whyOf_64.2.2.2.2.1
theorem dX11_whyOf_120 : decode cX11_whyOf 120 = .ok (.iload 11, 2) := eX11_whyOf_64.2.2.2.2.2.1
theorem dX11_whyOf_122 : decode cX11_whyOf 122 = .ok (.invokevirtual 192, 3) := eX11_whyOf_64.2.2.2.2.2.2.1
theorem dX11_whyOf_125 : decode cX11_whyOf 125 = .ok (.aload_n 0, 1) := eX11_whyOf_64.2.2.2.2.2.2.2
theorem eX11_whyOf_72 : (decode cX11_whyOf 126 = .ok (.getfield 16, 3)) ∧ (decode cX11_whyOf 129 = .ok (.iload_n 2, 1)) ∧ (decode cX11_whyOf 130 = .ok (.iaload, 1)) ∧ (decode cX11_whyOf 131 = .ok (.iadd, 1)) ∧ (decode cX11_whyOf 132 = .ok (.iload_n 3, 1)) ∧ (decode cX11_whyOf 133 = .ok (.if_icmp .le 7, 3)) ∧ (decode cX11_whyOf 136 = .ok (.iconst 1, 1)) ∧ (decode cX11_whyOf 137 = .ok (.goto 4, 3)) := by decide +kernel
theorem dX11_whyOf_126 : decode cX11_whyOf 126 = .ok (.getfield 16, 3) := eX11_whyOf_72.1
theorem dX11_whyOf_129 : decode cX11_whyOf 129 = .ok (.iload_n 2, 1) := eX11_whyOf_72.2.1
theorem dX11_whyOf_130 : decode cX11_whyOf 130 = .ok (.iaload, 1) := eX11_whyOf_72.2.2.1
theorem dX11_whyOf_131 : decode cX11_whyOf 131 = .ok (.iadd, 1) := eX11_whyOf_72.2.2.2.1
theorem dX11_whyOf_132 : decode cX11_whyOf 132 = .ok (.iload_n 3, 1) := eX11_whyOf_72.2.2.2.2.1
theorem dX11_whyOf_133 : decode cX11_whyOf 133 = .ok (.if_icmp .le 7, 3) := eX11_whyOf_72.2.2.2.2.2.1
theorem dX11_whyOf_136 : decode cX11_whyOf 136 = .ok (.iconst 1, 1) := eX11_whyOf_72.2.2.2.2.2.2.1
theorem dX11_whyOf_137 : decode cX11_whyOf 137 = .ok (.goto 4, 3) := eX11_whyOf_72.2.2.2.2.2.2.2
theorem eX11_whyOf_80 : (decode cX11_whyOf 140 = .ok (.iconst 0, 1)) ∧ (decode cX11_whyOf 141 = .ok (.istore 7, 2)) ∧ (decode cX11_whyOf 143 = .ok (.aload_n 0, 1)) ∧ (decode cX11_whyOf 144 = .ok (.getfield 53, 3)) ∧ (decode cX11_whyOf 147 = .ok (.iload 11, 2)) ∧ (decode cX11_whyOf 149 = .ok (.iaload, 1)) ∧ (decode cX11_whyOf 150 = .ok (.iload_n 1, 1)) ∧ (decode cX11_whyOf 151 = .ok (.if_icmp .ne 99, 3)) := by decide +kernel
theorem dX11_whyOf_140 : decode cX11_whyOf 140 = .ok (.iconst 0, 1) := eX11_whyOf_80.1
theorem dX11_whyOf_141 : decode cX11_whyOf 141 = .ok (.istore 7, 2) := eX11_whyOf_80.2.1
theorem dX11_whyOf_143 : decode cX11_whyOf 143 = .ok (.aload_n 0, 1) := eX11_whyOf_80.2.2.1
theorem dX11_whyOf_144 : decode cX11_whyOf 144 = .ok (.getfield 53, 3) := eX11_whyOf_80.2.2.2.1
theorem dX11_whyOf_147 : decode cX11_whyOf 147 = .ok (.iload 11, 2) := eX11_whyOf_80.2.2.2.2.1
theorem dX11_whyOf_149 : decode cX11_whyOf 149 = .ok (.iaload, 1) := eX11_whyOf_80.2.2.2.2.2.1
theorem dX11_whyOf_150 : decode cX11_whyOf 150 = .ok (.iload_n 1, 1) := eX11_whyOf_80.2.2.2.2.2.2.1
theorem dX11_whyOf_151 : decode cX11_whyOf 151 = .ok (.if_icmp .ne 99, 3) := eX11_whyOf_80.2.2.2.2.2.2.2
theorem eX11_whyOf_88 : (decode cX11_whyOf 154 = .ok (.iinc 10 1, 3)) ∧ (decode cX11_whyOf 157 = .ok (.aload_n 0, 1)) ∧ (decode cX11_whyOf 158 = .ok (.getfield 46, 3)) ∧ (decode cX11_whyOf 161 = .ok (.iconst 5, 1)) ∧ (decode cX11_whyOf 162 = .ok (.aload_n 0, 1)) ∧ (decode cX11_whyOf 163 = .ok (.getfield 7, 3)) ∧ (decode cX11_whyOf 166 = .ok (.iload_n 2, 1)) ∧ (decode cX11_whyOf 167 = .ok (.iaload, 1)) := by decide +kernel
theorem dX11_whyOf_154 : decode cX11_whyOf 154 = .ok (.iinc 10 1, 3) := eX11_whyOf_88.1
theorem dX11_whyOf_157 : decode cX11_whyOf 157 = .ok (.aload_n 0, 1) := eX11_whyOf_88.2.1
theorem dX11_whyOf_158 : decode cX11_whyOf 158 = .ok (.getfield 46, 3) := eX11_whyOf_88.2.2.1
theorem dX11_whyOf_161 : decode cX11_whyOf 161 = .ok (.iconst 5, 1) := eX11_whyOf_88.2.2.2.1
theorem dX11_whyOf_162 : decode cX11_whyOf 162 = .ok (.aload_n 0, 1) := eX11_whyOf_88.2.2.2.2.1
theorem dX11_whyOf_163 : decode cX11_whyOf 163 = .ok (.getfield 7, 3) := eX11_whyOf_88.2.2.2.2.2.1
theorem dX11_whyOf_166 : decode cX11_whyOf 166 = .ok (.iload_n 2, 1) := eX11_whyOf_88.2.2.2.2.2.2.1
theorem dX11_whyOf_167 : decode cX11_whyOf 167 = .ok (.iaload, 1) := eX11_whyOf_88.2.2.2.2.2.2.2
theorem eX11_whyOf_96 : (decode cX11_whyOf 168 = .ok (.imul, 1)) ∧ (decode cX11_whyOf 169 = .ok (.aload_n 0, 1)) ∧ (decode cX11_whyOf 170 = .ok (.getfield 7, 3)) ∧ (decode cX11_whyOf 173 = .ok (.aload_n 0, 1)) ∧ (decode cX11_whyOf 174 = .ok (.getfield 56, 3)) ∧ (decode cX11_whyOf 177 = .ok (.iload 11, 2)) ∧ (decode cX11_whyOf 179 = .ok (.iaload, 1)) ∧ (decode cX11_whyOf 180 = .ok (.iaload, 1)) := by decide +kernel
theorem dX11_whyOf_168 : decode cX11_whyOf 168 = .ok (.imul, 1) := eX11_whyOf_96.1
theorem dX11_whyOf_169 : decode cX11_whyOf 169 = .ok (.aload_n 0, 1) := eX11_whyOf_96.2.1
theorem dX11_whyOf_170 : decode cX11_whyOf 170 = .ok (.getfield 7, 3) := eX11_whyOf_96.2.2.1
theorem dX11_whyOf_173 : decode cX11_whyOf 173 = .ok (.aload_n 0, 1) := eX11_whyOf_96.2.2.2.1
theorem dX11_whyOf_174 : decode cX11_whyOf 174 = .ok (.getfield 56, 3) := eX11_whyOf_96.2.2.2.2.1
theorem dX11_whyOf_177 : decode cX11_whyOf 177 = .ok (.iload 11, 2) := eX11_whyOf_96.2.2.2.2.2.1
theorem dX11_whyOf_179 : decode cX11_whyOf 179 = .ok (.iaload, 1) := eX11_whyOf_96.2.2.2.2.2.2.1
theorem dX11_whyOf_180 : decode cX11_whyOf 180 = .ok (.iaload, 1) := eX11_whyOf_96.2.2.2.2.2.2.2
theorem eX11_whyOf_104 : (decode cX11_whyOf 181 = .ok (.iadd, 1)) ∧ (decode cX11_whyOf 182 = .ok (.iaload, 1)) ∧ (decode cX11_whyOf 183 = .ok (.istore 12, 2)) ∧ (decode cX11_whyOf 185 = .ok (.iload 8, 2)) ∧ (decode cX11_whyOf 187 = .ok (.ifCond .ne 56, 3)) ∧ (decode cX11_whyOf 190 = .ok (.iload_n 3, 1)) ∧ (decode cX11_whyOf 191 = .ok (.aload_n 0, 1)) ∧ (decode cX11_whyOf 192 = .ok (.getfield 59, 3)) := by decide +kernel
theorem dX11_whyOf_181 : decode cX11_whyOf 181 = .ok (.iadd, 1) := eX11_whyOf_104.1
theorem dX11_whyOf_182 : decode cX11_whyOf 182 = .ok (.iaload, 1) := eX11_whyOf_104.2.1
theorem dX11_whyOf_183 : decode cX11_whyOf 183 = .ok (.istore 12, 2) := eX11_whyOf_104.2.2.1
theorem dX11_whyOf_185 : decode cX11_whyOf 185 = .ok (.iload 8, 2) := eX11_whyOf_104.2.2.2.1
theorem dX11_whyOf_187 : decode cX11_whyOf 187 = .ok (.ifCond .ne 56, 3) := eX11_whyOf_104.2.2.2.2.1
theorem dX11_whyOf_190 : decode cX11_whyOf 190 = .ok (.iload_n 3, 1) := eX11_whyOf_104.2.2.2.2.2.1
theorem dX11_whyOf_191 : decode cX11_whyOf 191 = .ok (.aload_n 0, 1) := eX11_whyOf_104.2.2.2.2.2.2.1
theorem dX11_whyOf_192 : decode cX11_whyOf 192 = .ok (.getfield 59, 3) := eX11_whyOf_104.2.2.2.2.2.2.2
theorem eX11_whyOf_112 : (decode cX11_whyOf 195 = .ok (.iload 11, 2)) ∧ (decode cX11_whyOf 197 = .ok (.iaload, 1)) ∧ (decode cX11_whyOf 198 = .ok (.if_icmp .eq 45, 3)) ∧ (decode cX11_whyOf 201 = .ok (.iload_n 3, 1)) ∧ (decode cX11_whyOf 202 = .ok (.aload_n 0, 1)) ∧ (decode cX11_whyOf 203 = .ok (.getfield 59, 3)) ∧ (decode cX11_whyOf 206 = .ok (.iload 11, 2)) ∧ (decode cX11_whyOf 208 = .ok (.iaload, 1)) := by decide +kernel
theorem dX11_whyOf_195 : decode cX11_whyOf 195 = .ok (.iload 11, 2) := eX11_whyOf_112.1
theorem dX11_whyOf_197 : decode cX11_whyOf 197 = .ok (.iaload, 1) := eX11_whyOf_112.2.1
theorem dX11_whyOf_198 : decode cX11_whyOf 198 = .ok (.if_icmp .eq 45, 3) := eX11_whyOf_112.2.2.1
theorem dX11_whyOf_201 : decode cX11_whyOf 201 = .ok (.iload_n 3, 1) := eX11_whyOf_112.2.2.2.1
theorem dX11_whyOf_202 : decode cX11_whyOf 202 = .ok (.aload_n 0, 1) := eX11_whyOf_112.2.2.2.2.1
theorem dX11_whyOf_203 : decode cX11_whyOf 203 = .ok (.getfield 59, 3) := eX11_whyOf_112.2.2.2.2.2.1
theorem dX11_whyOf_206 : decode cX11_whyOf 206 = .ok (.iload 11, 2) := eX11_whyOf_112.2.2.2.2.2.2.1
theorem dX11_whyOf_208 : decode cX11_whyOf 208 = .ok (.iaload, 1) := eX11_whyOf_112.2.2.2.2.2.2.2
theorem eX11_whyOf_120 : (decode cX11_whyOf 209 = .ok (.if_icmp .le 19, 3)) ∧ (decode cX11_whyOf 212 = .ok (.iload_n 3, 1)) ∧ (decode cX11_whyOf 213 = .ok (.aload_n 0, 1)) ∧ (decode cX11_whyOf 214 = .ok (.iload 11, 2)) ∧ (decode cX11_whyOf 216 = .ok (.invokevirtual 192, 3)) ∧ (decode cX11_whyOf 219 = .ok (.iload 12, 2)) ∧ (decode cX11_whyOf 221 = .ok (.iadd, 1)) ∧ (decode cX11_whyOf 222 = .ok (.if_icmp .ge 25, 3)) := by decide +kernel
theorem dX11_whyOf_209 : decode cX11_whyOf 209 = .ok (.if_icmp .le 19, 3) := eX11_whyOf_120.1
theorem dX11_whyOf_212 : decode cX11_whyOf 212 = .ok (.iload_n 3, 1) := eX11_whyOf_120.2.1
theorem dX11_whyOf_213 : decode cX11_whyOf 213 = .ok (.aload_n 0, 1) := eX11_whyOf_120.2.2.1
theorem dX11_whyOf_214 : decode cX11_whyOf 214 = .ok (.iload 11, 2) := eX11_whyOf_120.2.2.2.1
theorem dX11_whyOf_216 : decode cX11_whyOf 216 = .ok (.invokevirtual 192, 3) := eX11_whyOf_120.2.2.2.2.1
theorem dX11_whyOf_219 : decode cX11_whyOf 219 = .ok (.iload 12, 2) := eX11_whyOf_120.2.2.2.2.2.1
theorem dX11_whyOf_221 : decode cX11_whyOf 221 = .ok (.iadd, 1) := eX11_whyOf_120.2.2.2.2.2.2.1
theorem dX11_whyOf_222 : decode cX11_whyOf 222 = .ok (.if_icmp .ge 25, 3) := eX11_whyOf_120.2.2.2.2.2.2.2
theorem eX11_whyOf_128 : (decode cX11_whyOf 225 = .ok (.goto 18, 3)) ∧ (decode cX11_whyOf 228 = .ok (.aload_n 0, 1)) ∧ (decode cX11_whyOf 229 = .ok (.getfield 59, 3)) ∧ (decode cX11_whyOf 232 = .ok (.iload 11, 2)) ∧ (decode cX11_whyOf 234 = .ok (.iaload, 1)) ∧ (decode cX11_whyOf 235 = .ok (.iload 6, 2)) ∧ (decode cX11_whyOf 237 = .ok (.iload 12, 2)) ∧ (decode cX11_whyOf 239 = .ok (.iadd, 1)) := by decide +kernel
theorem dX11_whyOf_225 : decode cX11_whyOf 225 = .ok (.goto 18, 3) := eX11_whyOf_128.1
theorem dX11_whyOf_228 : decode cX11_whyOf 228 = .ok (.aload_n 0, 1) := eX11_whyOf_128.2.1
theorem dX11_whyOf_229 : decode cX11_whyOf 229 = .ok (.getfield 59, 3) := eX11_whyOf_128.2.2.1
theorem dX11_whyOf_232 : decode cX11_whyOf 232 = .ok (.iload 11, 2) := eX11_whyOf_128.2.2.2.1
theorem dX11_whyOf_234 : decode cX11_whyOf 234 = .ok (.iaload, 1) := eX11_whyOf_128.2.2.2.2.1
theorem dX11_whyOf_235 : decode cX11_whyOf 235 = .ok (.iload 6, 2) := eX11_whyOf_128.2.2.2.2.2.1
theorem dX11_whyOf_237 : decode cX11_whyOf 237 = .ok (.iload 12, 2) := eX11_whyOf_128.2.2.2.2.2.2.1
theorem dX11_whyOf_239 : decode cX11_whyOf 239 = .ok (.iadd, 1) := eX11_whyOf_128.2.2.2.2.2.2.2
theorem eX11_whyOf_136 : (decode cX11_whyOf 240 = .ok (.if_icmp .ge 7, 3)) ∧ (decode cX11_whyOf 243 = .ok (.iconst 1, 1)) ∧ (decode cX11_whyOf 244 = .ok (.goto 4, 3)) ∧ (decode cX11_whyOf 247 = .ok (.iconst 0, 1)) ∧ (decode cX11_whyOf 248 = .ok (.istore 8, 2)) ∧ (decode cX11_whyOf 250 = .ok (.aload_n 0, 1)) ∧ (decode cX11_whyOf 251 = .ok (.getfield 43, 3)) ∧ (decode cX11_whyOf 254 = .ok (.iload_n 1, 1)) := by decide +kernel
theorem dX11_whyOf_240 : decode cX11_whyOf 240 = .ok (.if_icmp .ge 7, 3) := eX11_whyOf_136.1
theorem dX11_whyOf_243 : decode cX11_whyOf 243 = .ok (.iconst 1, 1) := eX11_whyOf_136.2.1
theorem dX11_whyOf_244 : decode cX11_whyOf 244 = .ok (.goto 4, 3) := eX11_whyOf_136.2.2.1
theorem dX11_whyOf_247 : decode cX11_whyOf 247 = .ok (.iconst 0, 1) := eX11_whyOf_136.2.2.2.1
theorem dX11_whyOf_248 : decode cX11_whyOf 248 = .ok (.istore 8, 2) := eX11_whyOf_136.2.2.2.2.1
theorem dX11_whyOf_250 : decode cX11_whyOf 250 = .ok (.aload_n 0, 1) := eX11_whyOf_136.2.2.2.2.2.1
theorem dX11_whyOf_251 : decode cX11_whyOf 251 = .ok (.getfield 43, 3) := eX11_whyOf_136.2.2.2.2.2.2.1
theorem dX11_whyOf_254 : decode cX11_whyOf 254 = .ok (.iload_n 1, 1) := eX11_whyOf_136.2.2.2.2.2.2.2
theorem eX11_whyOf_144 : (decode cX11_whyOf 255 = .ok (.iaload, 1)) ∧ (decode cX11_whyOf 256 = .ok (.aload_n 0, 1)) ∧ (decode cX11_whyOf 257 = .ok (.getfield 53, 3)) ∧ (decode cX11_whyOf 260 = .ok (.iload 11, 2)) ∧ (decode cX11_whyOf 262 = .ok (.iaload, 1)) ∧ (decode cX11_whyOf 263 = .ok (.if_icmp .eq 19, 3)) ∧ (decode cX11_whyOf 266 = .ok (.aload_n 0, 1)) ∧ (decode cX11_whyOf 267 = .ok (.getfield 43, 3)) := by decide +kernel
theorem dX11_whyOf_255 : decode cX11_whyOf 255 = .ok (.iaload, 1) := eX11_whyOf_144.1
theorem dX11_whyOf_256 : decode cX11_whyOf 256 = .ok (.aload_n 0, 1) := eX11_whyOf_144.2.1
theorem dX11_whyOf_257 : decode cX11_whyOf 257 = .ok (.getfield 53, 3) := eX11_whyOf_144.2.2.1
theorem dX11_whyOf_260 : decode cX11_whyOf 260 = .ok (.iload 11, 2) := eX11_whyOf_144.2.2.2.1
theorem dX11_whyOf_262 : decode cX11_whyOf 262 = .ok (.iaload, 1) := eX11_whyOf_144.2.2.2.2.1
theorem dX11_whyOf_263 : decode cX11_whyOf 263 = .ok (.if_icmp .eq 19, 3) := eX11_whyOf_144.2.2.2.2.2.1
theorem dX11_whyOf_266 : decode cX11_whyOf 266 = .ok (.aload_n 0, 1) := eX11_whyOf_144.2.2.2.2.2.2.1
theorem dX11_whyOf_267 : decode cX11_whyOf 267 = .ok (.getfield 43, 3) := eX11_whyOf_144.2.2.2.2.2.2.2
theorem eX11_whyOf_152 : (decode cX11_whyOf 270 = .ok (.aload_n 0, 1)) ∧ (decode cX11_whyOf 271 = .ok (.getfield 53, 3)) ∧ (decode cX11_whyOf 274 = .ok (.iload 11, 2)) ∧ (decode cX11_whyOf 276 = .ok (.iaload, 1)) ∧ (decode cX11_whyOf 277 = .ok (.iaload, 1)) ∧ (decode cX11_whyOf 278 = .ok (.iload_n 1, 1)) ∧ (decode cX11_whyOf 279 = .ok (.if_icmp .ne 7, 3)) ∧ (decode cX11_whyOf 282 = .ok (.iconst 1, 1)) := by decide +kernel
theorem dX11_whyOf_270 : decode cX11_whyOf 270 = .ok (.aload_n 0, 1) := eX11_whyOf_152.1
theorem dX11_whyOf_271 : decode cX11_whyOf 271 = .ok (.getfield 53, 3) := eX11_whyOf_152.2.1
theorem dX11_whyOf_274 : decode cX11_whyOf 274 = .ok (.iload 11, 2) := eX11_whyOf_152.2.2.1
theorem dX11_whyOf_276 : decode cX11_whyOf 276 = .ok (.iaload, 1) := eX11_whyOf_152.2.2.2.1
theorem dX11_whyOf_277 : decode cX11_whyOf 277 = .ok (.iaload, 1) := eX11_whyOf_152.2.2.2.2.1
theorem dX11_whyOf_278 : decode cX11_whyOf 278 = .ok (.iload_n 1, 1) := eX11_whyOf_152.2.2.2.2.2.1
theorem dX11_whyOf_279 : decode cX11_whyOf 279 = .ok (.if_icmp .ne 7, 3) := eX11_whyOf_152.2.2.2.2.2.2.1
theorem dX11_whyOf_282 : decode cX11_whyOf 282 = .ok (.iconst 1, 1) := eX11_whyOf_152.2.2.2.2.2.2.2
theorem eX11_whyOf_160 : (decode cX11_whyOf 283 = .ok (.goto 4, 3)) ∧ (decode cX11_whyOf 286 = .ok (.iconst 0, 1)) ∧ (decode cX11_whyOf 287 = .ok (.istore 12, 2)) ∧ (decode cX11_whyOf 289 = .ok (.iload 9, 2)) ∧ (decode cX11_whyOf 291 = .ok (.ifCond .ne 51, 3)) ∧ (decode cX11_whyOf 294 = .ok (.iload 12, 2)) ∧ (decode cX11_whyOf 296 = .ok (.ifCond .eq 50, 3)) ∧ (decode cX11_whyOf 299 = .ok (.aload_n 0, 1)) := by decide +kernel
theorem dX11_whyOf_283 : decode cX11_whyOf 283 = .ok (.goto 4, 3) := eX11_whyOf_160.1
theorem dX11_whyOf_286 : decode cX11_whyOf 286 = .ok (.iconst 0, 1) := eX11_whyOf_160.2.1
theorem dX11_whyOf_287 : decode cX11_whyOf 287 = .ok (.istore 12, 2) := eX11_whyOf_160.2.2.1
theorem dX11_whyOf_289 : decode cX11_whyOf 289 = .ok (.iload 9, 2) := eX11_whyOf_160.2.2.2.1
theorem dX11_whyOf_291 : decode cX11_whyOf 291 = .ok (.ifCond .ne 51, 3) := eX11_whyOf_160.2.2.2.2.1
theorem dX11_whyOf_294 : decode cX11_whyOf 294 = .ok (.iload 12, 2) := eX11_whyOf_160.2.2.2.2.2.1
theorem dX11_whyOf_296 : decode cX11_whyOf 296 = .ok (.ifCond .eq 50, 3) := eX11_whyOf_160.2.2.2.2.2.2.1
theorem dX11_whyOf_299 : decode cX11_whyOf 299 = .ok (.aload_n 0, 1) := eX11_whyOf_160.2.2.2.2.2.2.2
theorem eX11_whyOf_168 : (decode cX11_whyOf 300 = .ok (.getfield 7, 3)) ∧ (decode cX11_whyOf 303 = .ok (.aload_n 0, 1)) ∧ (decode cX11_whyOf 304 = .ok (.getfield 56, 3)) ∧ (decode cX11_whyOf 307 = .ok (.iload 11, 2)) ∧ (decode cX11_whyOf 309 = .ok (.iaload, 1)) ∧ (decode cX11_whyOf 310 = .ok (.iaload, 1)) ∧ (decode cX11_whyOf 311 = .ok (.aload_n 0, 1)) ∧ (decode cX11_whyOf 312 = .ok (.getfield 7, 3)) := by decide +kernel
theorem dX11_whyOf_300 : decode cX11_whyOf 300 = .ok (.getfield 7, 3) := eX11_whyOf_168.1
theorem dX11_whyOf_303 : decode cX11_whyOf 303 = .ok (.aload_n 0, 1) := eX11_whyOf_168.2.1
theorem dX11_whyOf_304 : decode cX11_whyOf 304 = .ok (.getfield 56, 3) := eX11_whyOf_168.2.2.1
theorem dX11_whyOf_307 : decode cX11_whyOf 307 = .ok (.iload 11, 2) := eX11_whyOf_168.2.2.2.1
theorem dX11_whyOf_309 : decode cX11_whyOf 309 = .ok (.iaload, 1) := eX11_whyOf_168.2.2.2.2.1
theorem dX11_whyOf_310 : decode cX11_whyOf 310 = .ok (.iaload, 1) := eX11_whyOf_168.2.2.2.2.2.1
theorem dX11_whyOf_311 : decode cX11_whyOf 311 = .ok (.aload_n 0, 1) := eX11_whyOf_168.2.2.2.2.2.2.1
theorem dX11_whyOf_312 : decode cX11_whyOf 312 = .ok (.getfield 7, 3) := eX11_whyOf_168.2.2.2.2.2.2.2
theorem eX11_whyOf_176 : (decode cX11_whyOf 315 = .ok (.iload_n 2, 1)) ∧ (decode cX11_whyOf 316 = .ok (.iaload, 1)) ∧ (decode cX11_whyOf 317 = .ok (.if_icmp .ne 29, 3)) ∧ (decode cX11_whyOf 320 = .ok (.aload_n 0, 1)) ∧ (decode cX11_whyOf 321 = .ok (.getfield 59, 3)) ∧ (decode cX11_whyOf 324 = .ok (.iload 11, 2)) ∧ (decode cX11_whyOf 326 = .ok (.iaload, 1)) ∧ (decode cX11_whyOf 327 = .ok (.iload 6, 2)) := by decide +kernel
theorem dX11_whyOf_315 : decode cX11_whyOf 315 = .ok (.iload_n 2, 1) := eX11_whyOf_176.1
theorem dX11_whyOf_316 : decode cX11_whyOf 316 = .ok (.iaload, 1) := eX11_whyOf_176.2.1
theorem dX11_whyOf_317 : decode cX11_whyOf 317 = .ok (.if_icmp .ne 29, 3) := eX11_whyOf_176.2.2.1
theorem dX11_whyOf_320 : decode cX11_whyOf 320 = .ok (.aload_n 0, 1) := eX11_whyOf_176.2.2.2.1
theorem dX11_whyOf_321 : decode cX11_whyOf 321 = .ok (.getfield 59, 3) := eX11_whyOf_176.2.2.2.2.1
theorem dX11_whyOf_324 : decode cX11_whyOf 324 = .ok (.iload 11, 2) := eX11_whyOf_176.2.2.2.2.2.1
theorem dX11_whyOf_326 : decode cX11_whyOf 326 = .ok (.iaload, 1) := eX11_whyOf_176.2.2.2.2.2.2.1
theorem dX11_whyOf_327 : decode cX11_whyOf 327 = .ok (.iload 6, 2) := eX11_whyOf_176.2.2.2.2.2.2.2
theorem eX11_whyOf_184 : (decode cX11_whyOf 329 = .ok (.if_icmp .ge 17, 3)) ∧ (decode cX11_whyOf 332 = .ok (.aload_n 0, 1)) ∧ (decode cX11_whyOf 333 = .ok (.iload 11, 2)) ∧ (decode cX11_whyOf 335 = .ok (.invokevirtual 192, 3)) ∧ (decode cX11_whyOf 338 = .ok (.iload_n 3, 1)) ∧ (decode cX11_whyOf 339 = .ok (.if_icmp .le 7, 3)) ∧ (decode cX11_whyOf 342 = .ok (.iconst 1, 1)) ∧ (decode cX11_whyOf 343 = .ok (.goto 4, 3)) := by decide +kernel
theorem dX11_whyOf_329 : decode cX11_whyOf 329 = .ok (.if_icmp .ge 17, 3) := eX11_whyOf_184.1
theorem dX11_whyOf_332 : decode cX11_whyOf 332 = .ok (.aload_n 0, 1) := eX11_whyOf_184.2.1
theorem dX11_whyOf_333 : decode cX11_whyOf 333 = .ok (.iload 11, 2) := eX11_whyOf_184.2.2.1
theorem dX11_whyOf_335 : decode cX11_whyOf 335 = .ok (.invokevirtual 192, 3) := eX11_whyOf_184.2.2.2.1
theorem dX11_whyOf_338 : decode cX11_whyOf 338 = .ok (.iload_n 3, 1) := eX11_whyOf_184.2.2.2.2.1
theorem dX11_whyOf_339 : decode cX11_whyOf 339 = .ok (.if_icmp .le 7, 3) := eX11_whyOf_184.2.2.2.2.2.1
theorem dX11_whyOf_342 : decode cX11_whyOf 342 = .ok (.iconst 1, 1) := eX11_whyOf_184.2.2.2.2.2.2.1
theorem dX11_whyOf_343 : decode cX11_whyOf 343 = .ok (.goto 4, 3) := eX11_whyOf_184.2.2.2.2.2.2.2
theorem eX11_whyOf_192 : (decode cX11_whyOf 346 = .ok (.iconst 0, 1)) ∧ (decode cX11_whyOf 347 = .ok (.istore 9, 2)) ∧ (decode cX11_whyOf 349 = .ok (.iinc 11 1, 3)) ∧ (decode cX11_whyOf 352 = .ok (.goto (-297), 3)) ∧ (decode cX11_whyOf 355 = .ok (.iload 7, 2)) ∧ (decode cX11_whyOf 357 = .ok (.ifCond .ne 8, 3)) ∧ (decode cX11_whyOf 360 = .ok (.iload 8, 2)) ∧ (decode cX11_whyOf 362 = .ok (.ifCond .eq 14, 3)) := by decide +kernel
theorem dX11_whyOf_346 : decode cX11_whyOf 346 = .ok (.iconst 0, 1) := eX11_whyOf_192.1
theorem dX11_whyOf_347 : decode cX11_whyOf 347 = .ok (.istore 9, 2) := eX11_whyOf_192.2.1
theorem dX11_whyOf_349 : decode cX11_whyOf 349 = .ok (.iinc 11 1, 3) := eX11_whyOf_192.2.2.1
theorem dX11_whyOf_352 : decode cX11_whyOf 352 = .ok (.goto (-297), 3) := eX11_whyOf_192.2.2.2.1
theorem dX11_whyOf_355 : decode cX11_whyOf 355 = .ok (.iload 7, 2) := eX11_whyOf_192.2.2.2.2.1
theorem dX11_whyOf_357 : decode cX11_whyOf 357 = .ok (.ifCond .ne 8, 3) := eX11_whyOf_192.2.2.2.2.2.1
theorem dX11_whyOf_360 : decode cX11_whyOf 360 = .ok (.iload 8, 2) := eX11_whyOf_192.2.2.2.2.2.2.1
theorem dX11_whyOf_362 : decode cX11_whyOf 362 = .ok (.ifCond .eq 14, 3) := eX11_whyOf_192.2.2.2.2.2.2.2
theorem eX11_whyOf_200 : (decode cX11_whyOf 365 = .ok (.iload 7, 2)) ∧ (decode cX11_whyOf 367 = .ok (.ifCond .eq 7, 3)) ∧ (decode cX11_whyOf 370 = .ok (.iconst 3, 1)) ∧ (decode cX11_whyOf 371 = .ok (.goto 4, 3)) ∧ (decode cX11_whyOf 374 = .ok (.iconst 4, 1)) ∧ (decode cX11_whyOf 375 = .ok (.ireturn, 1)) ∧ (decode cX11_whyOf 376 = .ok (.iload 4, 2)) ∧ (decode cX11_whyOf 378 = .ok (.iconst 1, 1)) := by decide +kernel
theorem dX11_whyOf_365 : decode cX11_whyOf 365 = .ok (.iload 7, 2) := eX11_whyOf_200.1
theorem dX11_whyOf_367 : decode cX11_whyOf 367 = .ok (.ifCond .eq 7, 3) := eX11_whyOf_200.2.1
theorem dX11_whyOf_370 : decode cX11_whyOf 370 = .ok (.iconst 3, 1) := eX11_whyOf_200.2.2.1
theorem dX11_whyOf_371 : decode cX11_whyOf 371 = .ok (.goto 4, 3) := eX11_whyOf_200.2.2.2.1
theorem dX11_whyOf_374 : decode cX11_whyOf 374 = .ok (.iconst 4, 1) := eX11_whyOf_200.2.2.2.2.1
theorem dX11_whyOf_375 : decode cX11_whyOf 375 = .ok (.ireturn, 1) := eX11_whyOf_200.2.2.2.2.2.1
theorem dX11_whyOf_376 : decode cX11_whyOf 376 = .ok (.iload 4, 2) := eX11_whyOf_200.2.2.2.2.2.2.1
theorem dX11_whyOf_378 : decode cX11_whyOf 378 = .ok (.iconst 1, 1) := eX11_whyOf_200.2.2.2.2.2.2.2
theorem eX11_whyOf_208 : (decode cX11_whyOf 379 = .ok (.if_icmp .ne 36, 3)) ∧ (decode cX11_whyOf 382 = .ok (.aload_n 0, 1)) ∧ (decode cX11_whyOf 383 = .ok (.getfield 31, 3)) ∧ (decode cX11_whyOf 386 = .ok (.iload_n 1, 1)) ∧ (decode cX11_whyOf 387 = .ok (.iaload, 1)) ∧ (decode cX11_whyOf 388 = .ok (.iconst (-1), 1)) ∧ (decode cX11_whyOf 389 = .ok (.if_icmp .eq 24, 3)) ∧ (decode cX11_whyOf 392 = .ok (.aload_n 0, 1)) := by decide +kernel
theorem dX11_whyOf_379 : decode cX11_whyOf 379 = .ok (.if_icmp .ne 36, 3) := eX11_whyOf_208.1
theorem dX11_whyOf_382 : decode cX11_whyOf 382 = .ok (.aload_n 0, 1) := eX11_whyOf_208.2.1
theorem dX11_whyOf_383 : decode cX11_whyOf 383 = .ok (.getfield 31, 3) := eX11_whyOf_208.2.2.1
theorem dX11_whyOf_386 : decode cX11_whyOf 386 = .ok (.iload_n 1, 1) := eX11_whyOf_208.2.2.2.1
theorem dX11_whyOf_387 : decode cX11_whyOf 387 = .ok (.iaload, 1) := eX11_whyOf_208.2.2.2.2.1
theorem dX11_whyOf_388 : decode cX11_whyOf 388 = .ok (.iconst (-1), 1) := eX11_whyOf_208.2.2.2.2.2.1
theorem dX11_whyOf_389 : decode cX11_whyOf 389 = .ok (.if_icmp .eq 24, 3) := eX11_whyOf_208.2.2.2.2.2.2.1
theorem dX11_whyOf_392 : decode cX11_whyOf 392 = .ok (.aload_n 0, 1) := eX11_whyOf_208.2.2.2.2.2.2.2
theorem eX11_whyOf_216 : (decode cX11_whyOf 393 = .ok (.getfield 31, 3)) ∧ (decode cX11_whyOf 396 = .ok (.iload_n 1, 1)) ∧ (decode cX11_whyOf 397 = .ok (.iaload, 1)) ∧ (decode cX11_whyOf 398 = .ok (.iload_n 3, 1)) ∧ (decode cX11_whyOf 399 = .ok (.if_icmp .gt 14, 3)) ∧ (decode cX11_whyOf 402 = .ok (.aload_n 0, 1)) ∧ (decode cX11_whyOf 403 = .ok (.getfield 34, 3)) ∧ (decode cX11_whyOf 406 = .ok (.iload_n 1, 1)) := by decide +kernel
theorem dX11_whyOf_393 : decode cX11_whyOf 393 = .ok (.getfield 31, 3) := eX11_whyOf_216.1
theorem dX11_whyOf_396 : decode cX11_whyOf 396 = .ok (.iload_n 1, 1) := eX11_whyOf_216.2.1
theorem dX11_whyOf_397 : decode cX11_whyOf 397 = .ok (.iaload, 1) := eX11_whyOf_216.2.2.1
theorem dX11_whyOf_398 : decode cX11_whyOf 398 = .ok (.iload_n 3, 1) := eX11_whyOf_216.2.2.2.1
theorem dX11_whyOf_399 : decode cX11_whyOf 399 = .ok (.if_icmp .gt 14, 3) := eX11_whyOf_216.2.2.2.2.1
theorem dX11_whyOf_402 : decode cX11_whyOf 402 = .ok (.aload_n 0, 1) := eX11_whyOf_216.2.2.2.2.2.1
theorem dX11_whyOf_403 : decode cX11_whyOf 403 = .ok (.getfield 34, 3) := eX11_whyOf_216.2.2.2.2.2.2.1
theorem dX11_whyOf_406 : decode cX11_whyOf 406 = .ok (.iload_n 1, 1) := eX11_whyOf_216.2.2.2.2.2.2.2
theorem eX11_whyOf_224 : (decode cX11_whyOf 407 = .ok (.iaload, 1)) ∧ (decode cX11_whyOf 408 = .ok (.iload 6, 2)) ∧ (decode cX11_whyOf 410 = .ok (.if_icmp .ge 5, 3)) ∧ (decode cX11_whyOf 413 = .ok (.iconst 5, 1)) ∧ (decode cX11_whyOf 414 = .ok (.ireturn, 1)) ∧ (decode cX11_whyOf 415 = .ok (.iload 4, 2)) ∧ (decode cX11_whyOf 417 = .ok (.iconst 2, 1)) ∧ (decode cX11_whyOf 418 = .ok (.if_icmp .ne 27, 3)) := by decide +kernel
theorem dX11_whyOf_407 : decode cX11_whyOf 407 = .ok (.iaload, 1) := eX11_whyOf_224.1
theorem dX11_whyOf_408 : decode cX11_whyOf 408 = .ok (.iload 6, 2) := eX11_whyOf_224.2.1
theorem dX11_whyOf_410 : decode cX11_whyOf 410 = .ok (.if_icmp .ge 5, 3) := eX11_whyOf_224.2.2.1
theorem dX11_whyOf_413 : decode cX11_whyOf 413 = .ok (.iconst 5, 1) := eX11_whyOf_224.2.2.2.1
theorem dX11_whyOf_414 : decode cX11_whyOf 414 = .ok (.ireturn, 1) := eX11_whyOf_224.2.2.2.2.1
theorem dX11_whyOf_415 : decode cX11_whyOf 415 = .ok (.iload 4, 2) := eX11_whyOf_224.2.2.2.2.2.1
theorem dX11_whyOf_417 : decode cX11_whyOf 417 = .ok (.iconst 2, 1) := eX11_whyOf_224.2.2.2.2.2.2.1
theorem dX11_whyOf_418 : decode cX11_whyOf 418 = .ok (.if_icmp .ne 27, 3) := eX11_whyOf_224.2.2.2.2.2.2.2
theorem eX11_whyOf_232 : (decode cX11_whyOf 421 = .ok (.iload_n 3, 1)) ∧ (decode cX11_whyOf 422 = .ok (.sipush 1440, 3)) ∧ (decode cX11_whyOf 425 = .ok (.irem, 1)) ∧ (decode cX11_whyOf 426 = .ok (.bipush 120, 2)) ∧ (decode cX11_whyOf 428 = .ok (.if_icmp .lt 17, 3)) ∧ (decode cX11_whyOf 431 = .ok (.iload_n 3, 1)) ∧ (decode cX11_whyOf 432 = .ok (.sipush 1440, 3)) ∧ (decode cX11_whyOf 435 = .ok (.irem, 1)) := by decide +kernel
theorem dX11_whyOf_421 : decode cX11_whyOf 421 = .ok (.iload_n 3, 1) := eX11_whyOf_232.1
theorem dX11_whyOf_422 : decode cX11_whyOf 422 = .ok (.sipush 1440, 3) := eX11_whyOf_232.2.1
theorem dX11_whyOf_425 : decode cX11_whyOf 425 = .ok (.irem, 1) := eX11_whyOf_232.2.2.1
theorem dX11_whyOf_426 : decode cX11_whyOf 426 = .ok (.bipush 120, 2) := eX11_whyOf_232.2.2.2.1
theorem dX11_whyOf_428 : decode cX11_whyOf 428 = .ok (.if_icmp .lt 17, 3) := eX11_whyOf_232.2.2.2.2.1
theorem dX11_whyOf_431 : decode cX11_whyOf 431 = .ok (.iload_n 3, 1) := eX11_whyOf_232.2.2.2.2.2.1
theorem dX11_whyOf_432 : decode cX11_whyOf 432 = .ok (.sipush 1440, 3) := eX11_whyOf_232.2.2.2.2.2.2.1
theorem dX11_whyOf_435 : decode cX11_whyOf 435 = .ok (.irem, 1) := eX11_whyOf_232.2.2.2.2.2.2.2
theorem eX11_whyOf_240 : (decode cX11_whyOf 436 = .ok (.sipush 1320, 3)) ∧ (decode cX11_whyOf 439 = .ok (.if_icmp .ge 6, 3)) ∧ (decode cX11_whyOf 442 = .ok (.bipush 6, 2)) ∧ (decode cX11_whyOf 444 = .ok (.ireturn, 1)) ∧ (decode cX11_whyOf 445 = .ok (.iload_n 3, 1)) ∧ (decode cX11_whyOf 446 = .ok (.aload_n 0, 1)) ∧ (decode cX11_whyOf 447 = .ok (.getfield 37, 3)) ∧ (decode cX11_whyOf 450 = .ok (.iload_n 1, 1)) := by decide +kernel
theorem dX11_whyOf_436 : decode cX11_whyOf 436 = .ok (.sipush 1320, 3) := eX11_whyOf_240.1
theorem dX11_whyOf_439 : decode cX11_whyOf 439 = .ok (.if_icmp .ge 6, 3) := eX11_whyOf_240.2.1
theorem dX11_whyOf_442 : decode cX11_whyOf 442 = .ok (.bipush 6, 2) := eX11_whyOf_240.2.2.1
theorem dX11_whyOf_444 : decode cX11_whyOf 444 = .ok (.ireturn, 1) := eX11_whyOf_240.2.2.2.1
theorem dX11_whyOf_445 : decode cX11_whyOf 445 = .ok (.iload_n 3, 1) := eX11_whyOf_240.2.2.2.2.1
theorem dX11_whyOf_446 : decode cX11_whyOf 446 = .ok (.aload_n 0, 1) := eX11_whyOf_240.2.2.2.2.2.1
theorem dX11_whyOf_447 : decode cX11_whyOf 447 = .ok (.getfield 37, 3) := eX11_whyOf_240.2.2.2.2.2.2.1
theorem dX11_whyOf_450 : decode cX11_whyOf 450 = .ok (.iload_n 1, 1) := eX11_whyOf_240.2.2.2.2.2.2.2
theorem eX11_whyOf_248 : (decode cX11_whyOf 451 = .ok (.iaload, 1)) ∧ (decode cX11_whyOf 452 = .ok (.if_icmp .ge 8, 3)) ∧ (decode cX11_whyOf 455 = .ok (.bipush 7, 2)) ∧ (decode cX11_whyOf 457 = .ok (.goto 30, 3)) ∧ (decode cX11_whyOf 460 = .ok (.iload 10, 2)) ∧ (decode cX11_whyOf 462 = .ok (.aload_n 0, 1)) ∧ (decode cX11_whyOf 463 = .ok (.getfield 40, 3)) ∧ (decode cX11_whyOf 466 = .ok (.iload_n 1, 1)) := by decide +kernel
theorem dX11_whyOf_451 : decode cX11_whyOf 451 = .ok (.iaload, 1) := eX11_whyOf_248.1
theorem dX11_whyOf_452 : decode cX11_whyOf 452 = .ok (.if_icmp .ge 8, 3) := eX11_whyOf_248.2.1
theorem dX11_whyOf_455 : decode cX11_whyOf 455 = .ok (.bipush 7, 2) := eX11_whyOf_248.2.2.1
theorem dX11_whyOf_457 : decode cX11_whyOf 457 = .ok (.goto 30, 3) := eX11_whyOf_248.2.2.2.1
theorem dX11_whyOf_460 : decode cX11_whyOf 460 = .ok (.iload 10, 2) := eX11_whyOf_248.2.2.2.2.1
theorem dX11_whyOf_462 : decode cX11_whyOf 462 = .ok (.aload_n 0, 1) := eX11_whyOf_248.2.2.2.2.2.1
theorem dX11_whyOf_463 : decode cX11_whyOf 463 = .ok (.getfield 40, 3) := eX11_whyOf_248.2.2.2.2.2.2.1
theorem dX11_whyOf_466 : decode cX11_whyOf 466 = .ok (.iload_n 1, 1) := eX11_whyOf_248.2.2.2.2.2.2.2
theorem eX11_whyOf_256 : (decode cX11_whyOf 467 = .ok (.iaload, 1)) ∧ (decode cX11_whyOf 468 = .ok (.if_icmp .le 8, 3)) ∧ (decode cX11_whyOf 471 = .ok (.bipush 8, 2)) ∧ (decode cX11_whyOf 473 = .ok (.goto 14, 3)) ∧ (decode cX11_whyOf 476 = .ok (.iload 9, 2)) ∧ (decode cX11_whyOf 478 = .ok (.ifCond .eq 8, 3)) ∧ (decode cX11_whyOf 481 = .ok (.bipush 9, 2)) ∧ (decode cX11_whyOf 483 = .ok (.goto 4, 3)) := by decide +kernel
theorem dX11_whyOf_467 : decode cX11_whyOf 467 = .ok (.iaload, 1) := eX11_whyOf_256.1
theorem dX11_whyOf_468 : decode cX11_whyOf 468 = .ok (.if_icmp .le 8, 3) := eX11_whyOf_256.2.1
theorem dX11_whyOf_471 : decode cX11_whyOf 471 = .ok (.bipush 8, 2) := eX11_whyOf_256.2.2.1
theorem dX11_whyOf_473 : decode cX11_whyOf 473 = .ok (.goto 14, 3) := eX11_whyOf_256.2.2.2.1
theorem dX11_whyOf_476 : decode cX11_whyOf 476 = .ok (.iload 9, 2) := eX11_whyOf_256.2.2.2.2.1
theorem dX11_whyOf_478 : decode cX11_whyOf 478 = .ok (.ifCond .eq 8, 3) := eX11_whyOf_256.2.2.2.2.2.1
theorem dX11_whyOf_481 : decode cX11_whyOf 481 = .ok (.bipush 9, 2) := eX11_whyOf_256.2.2.2.2.2.2.1
theorem dX11_whyOf_483 : decode cX11_whyOf 483 = .ok (.goto 4, 3) := eX11_whyOf_256.2.2.2.2.2.2.2
theorem eX11_whyOf_264 : (decode cX11_whyOf 486 = .ok (.iconst 0, 1)) ∧ (decode cX11_whyOf 487 = .ok (.ireturn, 1)) := by decide +kernel
theorem dX11_whyOf_486 : decode cX11_whyOf 486 = .ok (.iconst 0, 1) := eX11_whyOf_264.1
theorem dX11_whyOf_487 : decode cX11_whyOf 487 = .ok (.ireturn, 1) := eX11_whyOf_264.2
theorem eX11_why_0 : (decode cX11_why 0 = .ok (.aload_n 0, 1)) ∧ (decode cX11_why 1 = .ok (.iconst 0, 1)) ∧ (decode cX11_why 2 = .ok (.putfield 144, 3)) ∧ (decode cX11_why 5 = .ok (.iload_n 3, 1)) ∧ (decode cX11_why 6 = .ok (.invokestatic 183, 3)) ∧ (decode cX11_why 9 = .ok (.ifCond .eq 16, 3)) ∧ (decode cX11_why 12 = .ok (.iload 4, 2)) ∧ (decode cX11_why 14 = .ok (.i2l, 1)) := by decide +kernel
theorem dX11_why_0 : decode cX11_why 0 = .ok (.aload_n 0, 1) := eX11_why_0.1
theorem dX11_why_1 : decode cX11_why 1 = .ok (.iconst 0, 1) := eX11_why_0.2.1
theorem dX11_why_2 : decode cX11_why 2 = .ok (.putfield 144, 3) := eX11_why_0.2.2.1
theorem dX11_why_5 : decode cX11_why 5 = .ok (.iload_n 3, 1) := eX11_why_0.2.2.2.1
theorem dX11_why_6 : decode cX11_why 6 = .ok (.invokestatic 183, 3) := eX11_why_0.2.2.2.2.1
theorem dX11_why_9 : decode cX11_why 9 = .ok (.ifCond .eq 16, 3) := eX11_why_0.2.2.2.2.2.1
theorem dX11_why_12 : decode cX11_why 12 = .ok (.iload 4, 2) := eX11_why_0.2.2.2.2.2.2.1
theorem dX11_why_14 : decode cX11_why 14 = .ok (.i2l, 1) := eX11_why_0.2.2.2.2.2.2.2
theorem eX11_why_8 : (decode cX11_why 15 = .ok (.lconst 0, 1)) ∧ (decode cX11_why 16 = .ok (.ldc2_w 195, 3)) ∧ (decode cX11_why 19 = .ok (.invokestatic 153, 3)) ∧ (decode cX11_why 22 = .ok (.ifCond .ne 5, 3)) ∧ (decode cX11_why 25 = .ok (.iconst (-1), 1)) ∧ (decode cX11_why 26 = .ok (.ireturn, 1)) ∧ (decode cX11_why 27 = .ok (.aload_n 0, 1)) ∧ (decode cX11_why 28 = .ok (.iload_n 1, 1)) := by decide +kernel
theorem dX11_why_15 : decode cX11_why 15 = .ok (.lconst 0, 1) := eX11_why_8.1
theorem dX11_why_16 : decode cX11_why 16 = .ok (.ldc2_w 195, 3) := eX11_why_8.2.1
theorem dX11_why_19 : decode cX11_why 19 = .ok (.invokestatic 153, 3) := eX11_why_8.2.2.1
theorem dX11_why_22 : decode cX11_why 22 = .ok (.ifCond .ne 5, 3) := eX11_why_8.2.2.2.1
theorem dX11_why_25 : decode cX11_why 25 = .ok (.iconst (-1), 1) := eX11_why_8.2.2.2.2.1
theorem dX11_why_26 : decode cX11_why 26 = .ok (.ireturn, 1) := eX11_why_8.2.2.2.2.2.1
theorem dX11_why_27 : decode cX11_why 27 = .ok (.aload_n 0, 1) := eX11_why_8.2.2.2.2.2.2.1
theorem dX11_why_28 : decode cX11_why 28 = .ok (.iload_n 1, 1) := eX11_why_8.2.2.2.2.2.2.2
theorem eX11_why_16 : (decode cX11_why 29 = .ok (.invokevirtual 187, 3)) ∧ (decode cX11_why 32 = .ok (.ifCond .eq 24, 3)) ∧ (decode cX11_why 35 = .ok (.aload_n 0, 1)) ∧ (decode cX11_why 36 = .ok (.iload_n 2, 1)) ∧ (decode cX11_why 37 = .ok (.invokevirtual 197, 3)) ∧ (decode cX11_why 40 = .ok (.ifCond .eq 16, 3)) ∧ (decode cX11_why 43 = .ok (.aload_n 0, 1)) ∧ (decode cX11_why 44 = .ok (.iload_n 1, 1)) := by decide +kernel
theorem dX11_why_29 : decode cX11_why 29 = .ok (.invokevirtual 187, 3) := eX11_why_16.1
theorem dX11_why_32 : decode cX11_why 32 = .ok (.ifCond .eq 24, 3) := eX11_why_16.2.1
theorem dX11_why_35 : decode cX11_why 35 = .ok (.aload_n 0, 1) := eX11_why_16.2.2.1
theorem dX11_why_36 : decode cX11_why 36 = .ok (.iload_n 2, 1) := eX11_why_16.2.2.2.1
theorem dX11_why_37 : decode cX11_why 37 = .ok (.invokevirtual 197, 3) := eX11_why_16.2.2.2.2.1
theorem dX11_why_40 : decode cX11_why 40 = .ok (.ifCond .eq 16, 3) := eX11_why_16.2.2.2.2.2.1
theorem dX11_why_43 : decode cX11_why 43 = .ok (.aload_n 0, 1) := eX11_why_16.2.2.2.2.2.2.1
theorem dX11_why_44 : decode cX11_why 44 = .ok (.iload_n 1, 1) := eX11_why_16.2.2.2.2.2.2.2
theorem eX11_why_24 : (decode cX11_why 45 = .ok (.iload_n 2, 1)) ∧ (decode cX11_why 46 = .ok (.iload_n 3, 1)) ∧ (decode cX11_why 47 = .ok (.iload 4, 2)) ∧ (decode cX11_why 49 = .ok (.iconst (-1), 1)) ∧ (decode cX11_why 50 = .ok (.invokevirtual 200, 3)) ∧ (decode cX11_why 53 = .ok (.goto 5, 3)) ∧ (decode cX11_why 56 = .ok (.bipush (-2), 2)) ∧ (decode cX11_why 58 = .ok (.ireturn, 1)) := by decide +kernel
theorem dX11_why_45 : decode cX11_why 45 = .ok (.iload_n 2, 1) := eX11_why_24.1
theorem dX11_why_46 : decode cX11_why 46 = .ok (.iload_n 3, 1) := eX11_why_24.2.1
theorem dX11_why_47 : decode cX11_why 47 = .ok (.iload 4, 2) := eX11_why_24.2.2.1
theorem dX11_why_49 : decode cX11_why 49 = .ok (.iconst (-1), 1) := eX11_why_24.2.2.2.1
theorem dX11_why_50 : decode cX11_why 50 = .ok (.invokevirtual 200, 3) := eX11_why_24.2.2.2.2.1
theorem dX11_why_53 : decode cX11_why 53 = .ok (.goto 5, 3) := eX11_why_24.2.2.2.2.2.1
theorem dX11_why_56 : decode cX11_why 56 = .ok (.bipush (-2), 2) := eX11_why_24.2.2.2.2.2.2.1
theorem dX11_why_58 : decode cX11_why 58 = .ok (.ireturn, 1) := eX11_why_24.2.2.2.2.2.2.2
theorem eX11_put_0 : (decode cX11_put 0 = .ok (.aload_n 0, 1)) ∧ (decode cX11_put 1 = .ok (.iconst 0, 1)) ∧ (decode cX11_put 2 = .ok (.putfield 144, 3)) ∧ (decode cX11_put 5 = .ok (.iload_n 3, 1)) ∧ (decode cX11_put 6 = .ok (.invokestatic 183, 3)) ∧ (decode cX11_put 9 = .ok (.ifCond .eq 16, 3)) ∧ (decode cX11_put 12 = .ok (.iload 4, 2)) ∧ (decode cX11_put 14 = .ok (.i2l, 1)) := by decide +kernel
theorem dX11_put_0 : decode cX11_put 0 = .ok (.aload_n 0, 1) := eX11_put_0.1
theorem dX11_put_1 : decode cX11_put 1 = .ok (.iconst 0, 1) := eX11_put_0.2.1
theorem dX11_put_2 : decode cX11_put 2 = .ok (.putfield 144, 3) := eX11_put_0.2.2.1
theorem dX11_put_5 : decode cX11_put 5 = .ok (.iload_n 3, 1) := eX11_put_0.2.2.2.1
theorem dX11_put_6 : decode cX11_put 6 = .ok (.invokestatic 183, 3) := eX11_put_0.2.2.2.2.1
theorem dX11_put_9 : decode cX11_put 9 = .ok (.ifCond .eq 16, 3) := eX11_put_0.2.2.2.2.2.1
theorem dX11_put_12 : decode cX11_put 12 = .ok (.iload 4, 2) := eX11_put_0.2.2.2.2.2.2.1
theorem dX11_put_14 : decode cX11_put 14 = .ok (.i2l, 1) := eX11_put_0.2.2.2.2.2.2.2
theorem eX11_put_8 : (decode cX11_put 15 = .ok (.lconst 0, 1)) ∧ (decode cX11_put 16 = .ok (.ldc2_w 195, 3)) ∧ (decode cX11_put 19 = .ok (.invokestatic 153, 3)) ∧ (decode cX11_put 22 = .ok (.ifCond .ne 9, 3)) ∧ (decode cX11_put 25 = .ok (.aload_n 0, 1)) ∧ (decode cX11_put 26 = .ok (.iconst (-1), 1)) ∧ (decode cX11_put 27 = .ok (.invokevirtual 173, 3)) ∧ (decode cX11_put 30 = .ok (.ireturn, 1)) := by decide +kernel
theorem dX11_put_15 : decode cX11_put 15 = .ok (.lconst 0, 1) := eX11_put_8.1
theorem dX11_put_16 : decode cX11_put 16 = .ok (.ldc2_w 195, 3) := eX11_put_8.2.1
theorem dX11_put_19 : decode cX11_put 19 = .ok (.invokestatic 153, 3) := eX11_put_8.2.2.1
theorem dX11_put_22 : decode cX11_put 22 = .ok (.ifCond .ne 9, 3) := eX11_put_8.2.2.2.1
theorem dX11_put_25 : decode cX11_put 25 = .ok (.aload_n 0, 1) := eX11_put_8.2.2.2.2.1
theorem dX11_put_26 : decode cX11_put 26 = .ok (.iconst (-1), 1) := eX11_put_8.2.2.2.2.2.1
theorem dX11_put_27 : decode cX11_put 27 = .ok (.invokevirtual 173, 3) := eX11_put_8.2.2.2.2.2.2.1
theorem dX11_put_30 : decode cX11_put 30 = .ok (.ireturn, 1) := eX11_put_8.2.2.2.2.2.2.2
theorem eX11_put_16 : (decode cX11_put 31 = .ok (.aload_n 0, 1)) ∧ (decode cX11_put 32 = .ok (.iload_n 1, 1)) ∧ (decode cX11_put 33 = .ok (.invokevirtual 187, 3)) ∧ (decode cX11_put 36 = .ok (.ifCond .eq 11, 3)) ∧ (decode cX11_put 39 = .ok (.aload_n 0, 1)) ∧ (decode cX11_put 40 = .ok (.iload_n 2, 1)) ∧ (decode cX11_put 41 = .ok (.invokevirtual 197, 3)) ∧ (decode cX11_put 44 = .ok (.ifCond .ne 10, 3)) := by decide +kernel
theorem dX11_put_31 : decode cX11_put 31 = .ok (.aload_n 0, 1) := eX11_put_16.1
theorem dX11_put_32 : decode cX11_put 32 = .ok (.iload_n 1, 1) := eX11_put_16.2.1
theorem dX11_put_33 : decode cX11_put 33 = .ok (.invokevirtual 187, 3) := eX11_put_16.2.2.1
theorem dX11_put_36 : decode cX11_put 36 = .ok (.ifCond .eq 11, 3) := eX11_put_16.2.2.2.1
theorem dX11_put_39 : decode cX11_put 39 = .ok (.aload_n 0, 1) := eX11_put_16.2.2.2.2.1
theorem dX11_put_40 : decode cX11_put 40 = .ok (.iload_n 2, 1) := eX11_put_16.2.2.2.2.2.1
theorem dX11_put_41 : decode cX11_put 41 = .ok (.invokevirtual 197, 3) := eX11_put_16.2.2.2.2.2.2.1
theorem dX11_put_44 : decode cX11_put 44 = .ok (.ifCond .ne 10, 3) := eX11_put_16.2.2.2.2.2.2.2
theorem eX11_put_24 : (decode cX11_put 47 = .ok (.aload_n 0, 1)) ∧ (decode cX11_put 48 = .ok (.bipush (-2), 2)) ∧ (decode cX11_put 50 = .ok (.invokevirtual 173, 3)) ∧ (decode cX11_put 53 = .ok (.ireturn, 1)) ∧ (decode cX11_put 54 = .ok (.aload_n 0, 1)) ∧ (decode cX11_put 55 = .ok (.iload_n 1, 1)) ∧ (decode cX11_put 56 = .ok (.iload_n 2, 1)) ∧ (decode cX11_put 57 = .ok (.iload_n 3, 1)) := by decide +kernel
theorem dX11_put_47 : decode cX11_put 47 = .ok (.aload_n 0, 1) := eX11_put_24.1
theorem dX11_put_48 : decode cX11_put 48 = .ok (.bipush (-2), 2) := eX11_put_24.2.1
theorem dX11_put_50 : decode cX11_put 50 = .ok (.invokevirtual 173, 3) := eX11_put_24.2.2.1
theorem dX11_put_53 : decode cX11_put 53 = .ok (.ireturn, 1) := eX11_put_24.2.2.2.1
theorem dX11_put_54 : decode cX11_put 54 = .ok (.aload_n 0, 1) := eX11_put_24.2.2.2.2.1
theorem dX11_put_55 : decode cX11_put 55 = .ok (.iload_n 1, 1) := eX11_put_24.2.2.2.2.2.1
theorem dX11_put_56 : decode cX11_put 56 = .ok (.iload_n 2, 1) := eX11_put_24.2.2.2.2.2.2.1
theorem dX11_put_57 : decode cX11_put 57 = .ok (.iload_n 3, 1) := eX11_put_24.2.2.2.2.2.2.2
theorem eX11_put_32 : (decode cX11_put 58 = .ok (.iload 4, 2)) ∧ (decode cX11_put 60 = .ok (.iconst (-1), 1)) ∧ (decode cX11_put 61 = .ok (.invokevirtual 200, 3)) ∧ (decode cX11_put 64 = .ok (.ifCond .le 10, 3)) ∧ (decode cX11_put 67 = .ok (.aload_n 0, 1)) ∧ (decode cX11_put 68 = .ok (.bipush (-3), 2)) ∧ (decode cX11_put 70 = .ok (.invokevirtual 173, 3)) ∧ (decode cX11_put 73 = .ok (.ireturn, 1)) := by decide +kernel
theorem dX11_put_58 : decode cX11_put 58 = .ok (.iload 4, 2) := eX11_put_32.1
theorem dX11_put_60 : decode cX11_put 60 = .ok (.iconst (-1), 1) := eX11_put_32.2.1
theorem dX11_put_61 : decode cX11_put 61 = .ok (.invokevirtual 200, 3) := eX11_put_32.2.2.1
theorem dX11_put_64 : decode cX11_put 64 = .ok (.ifCond .le 10, 3) := eX11_put_32.2.2.2.1
theorem dX11_put_67 : decode cX11_put 67 = .ok (.aload_n 0, 1) := eX11_put_32.2.2.2.2.1
theorem dX11_put_68 : decode cX11_put 68 = .ok (.bipush (-3), 2) := eX11_put_32.2.2.2.2.2.1
theorem dX11_put_70 : decode cX11_put 70 = .ok (.invokevirtual 173, 3) := eX11_put_32.2.2.2.2.2.2.1
theorem dX11_put_73 : decode cX11_put 73 = .ok (.ireturn, 1) := eX11_put_32.2.2.2.2.2.2.2
theorem eX11_put_40 : (decode cX11_put 74 = .ok (.aload_n 0, 1)) ∧ (decode cX11_put 75 = .ok (.getfield 160, 3)) ∧ (decode cX11_put 78 = .ok (.bipush 60, 2)) ∧ (decode cX11_put 80 = .ok (.if_icmp .ne 10, 3)) ∧ (decode cX11_put 83 = .ok (.aload_n 0, 1)) ∧ (decode cX11_put 84 = .ok (.bipush (-5), 2)) ∧ (decode cX11_put 86 = .ok (.invokevirtual 173, 3)) ∧ (decode cX11_put 89 = .ok (.ireturn, 1)) := by decide +kernel
theorem dX11_put_74 : decode cX11_put 74 = .ok (.aload_n 0, 1) := eX11_put_40.1
theorem dX11_put_75 : decode cX11_put 75 = .ok (.getfield 160, 3) := eX11_put_40.2.1
theorem dX11_put_78 : decode cX11_put 78 = .ok (.bipush 60, 2) := eX11_put_40.2.2.1
theorem dX11_put_80 : decode cX11_put 80 = .ok (.if_icmp .ne 10, 3) := eX11_put_40.2.2.2.1
theorem dX11_put_83 : decode cX11_put 83 = .ok (.aload_n 0, 1) := eX11_put_40.2.2.2.2.1
theorem dX11_put_84 : decode cX11_put 84 = .ok (.bipush (-5), 2) := eX11_put_40.2.2.2.2.2.1
theorem dX11_put_86 : decode cX11_put 86 = .ok (.invokevirtual 173, 3) := eX11_put_40.2.2.2.2.2.2.1
theorem dX11_put_89 : decode cX11_put 89 = .ok (.ireturn, 1) := eX11_put_40.2.2.2.2.2.2.2
theorem eX11_put_48 : (decode cX11_put 90 = .ok (.aload_n 0, 1)) ∧ (decode cX11_put 91 = .ok (.getfield 49, 3)) ∧ (decode cX11_put 94 = .ok (.aload_n 0, 1)) ∧ (decode cX11_put 95 = .ok (.getfield 160, 3)) ∧ (decode cX11_put 98 = .ok (.iconst 1, 1)) ∧ (decode cX11_put 99 = .ok (.bastore, 1)) ∧ (decode cX11_put 100 = .ok (.aload_n 0, 1)) ∧ (decode cX11_put 101 = .ok (.getfield 53, 3)) := by decide +kernel
theorem dX11_put_90 : decode cX11_put 90 = .ok (.aload_n 0, 1) := eX11_put_48.1
theorem dX11_put_91 : decode cX11_put 91 = .ok (.getfield 49, 3) := eX11_put_48.2.1
theorem dX11_put_94 : decode cX11_put 94 = .ok (.aload_n 0, 1) := eX11_put_48.2.2.1
theorem dX11_put_95 : decode cX11_put 95 = .ok (.getfield 160, 3) := eX11_put_48.2.2.2.1
theorem dX11_put_98 : decode cX11_put 98 = .ok (.iconst 1, 1) := eX11_put_48.2.2.2.2.1
theorem dX11_put_99 : decode cX11_put 99 = .ok (.bastore, 1) := eX11_put_48.2.2.2.2.2.1
theorem dX11_put_100 : decode cX11_put 100 = .ok (.aload_n 0, 1) := eX11_put_48.2.2.2.2.2.2.1
theorem dX11_put_101 : decode cX11_put 101 = .ok (.getfield 53, 3) := eX11_put_48.2.2.2.2.2.2.2
theorem eX11_put_56 : (decode cX11_put 104 = .ok (.aload_n 0, 1)) ∧ (decode cX11_put 105 = .ok (.getfield 160, 3)) ∧ (decode cX11_put 108 = .ok (.iload_n 1, 1)) ∧ (decode cX11_put 109 = .ok (.iastore, 1)) ∧ (decode cX11_put 110 = .ok (.aload_n 0, 1)) ∧ (decode cX11_put 111 = .ok (.getfield 56, 3)) ∧ (decode cX11_put 114 = .ok (.aload_n 0, 1)) ∧ (decode cX11_put 115 = .ok (.getfield 160, 3)) := by decide +kernel
theorem dX11_put_104 : decode cX11_put 104 = .ok (.aload_n 0, 1) := eX11_put_56.1
theorem dX11_put_105 : decode cX11_put 105 = .ok (.getfield 160, 3) := eX11_put_56.2.1
theorem dX11_put_108 : decode cX11_put 108 = .ok (.iload_n 1, 1) := eX11_put_56.2.2.1
theorem dX11_put_109 : decode cX11_put 109 = .ok (.iastore, 1) := eX11_put_56.2.2.2.1
theorem dX11_put_110 : decode cX11_put 110 = .ok (.aload_n 0, 1) := eX11_put_56.2.2.2.2.1
theorem dX11_put_111 : decode cX11_put 111 = .ok (.getfield 56, 3) := eX11_put_56.2.2.2.2.2.1
theorem dX11_put_114 : decode cX11_put 114 = .ok (.aload_n 0, 1) := eX11_put_56.2.2.2.2.2.2.1
theorem dX11_put_115 : decode cX11_put 115 = .ok (.getfield 160, 3) := eX11_put_56.2.2.2.2.2.2.2
theorem eX11_put_64 : (decode cX11_put 118 = .ok (.iload_n 2, 1)) ∧ (decode cX11_put 119 = .ok (.iastore, 1)) ∧ (decode cX11_put 120 = .ok (.aload_n 0, 1)) ∧ (decode cX11_put 121 = .ok (.getfield 59, 3)) ∧ (decode cX11_put 124 = .ok (.aload_n 0, 1)) ∧ (decode cX11_put 125 = .ok (.getfield 160, 3)) ∧ (decode cX11_put 128 = .ok (.iload_n 3, 1)) ∧ (decode cX11_put 129 = .ok (.iastore, 1)) := by decide +kernel
theorem dX11_put_118 : decode cX11_put 118 = .ok (.iload_n 2, 1) := eX11_put_64.1
theorem dX11_put_119 : decode cX11_put 119 = .ok (.iastore, 1) := eX11_put_64.2.1
theorem dX11_put_120 : decode cX11_put 120 = .ok (.aload_n 0, 1) := eX11_put_64.2.2.1
theorem dX11_put_121 : decode cX11_put 121 = .ok (.getfield 59, 3) := eX11_put_64.2.2.2.1
theorem dX11_put_124 : decode cX11_put 124 = .ok (.aload_n 0, 1) := eX11_put_64.2.2.2.2.1
theorem dX11_put_125 : decode cX11_put 125 = .ok (.getfield 160, 3) := eX11_put_64.2.2.2.2.2.1
theorem dX11_put_128 : decode cX11_put 128 = .ok (.iload_n 3, 1) := eX11_put_64.2.2.2.2.2.2.1
theorem dX11_put_129 : decode cX11_put 129 = .ok (.iastore, 1) := eX11_put_64.2.2.2.2.2.2.2
theorem eX11_put_72 : (decode cX11_put 130 = .ok (.aload_n 0, 1)) ∧ (decode cX11_put 131 = .ok (.getfield 62, 3)) ∧ (decode cX11_put 134 = .ok (.aload_n 0, 1)) ∧ (decode cX11_put 135 = .ok (.getfield 160, 3)) ∧ (decode cX11_put 138 = .ok (.iload 4, 2)) ∧ (decode cX11_put 140 = .ok (.iastore, 1)) ∧ (decode cX11_put 141 = .ok (.aload_n 0, 1)) ∧ (decode cX11_put 142 = .ok (.dup, 1)) := by decide +kernel
theorem dX11_put_130 : decode cX11_put 130 = .ok (.aload_n 0, 1) := eX11_put_72.1
theorem dX11_put_131 : decode cX11_put 131 = .ok (.getfield 62, 3) := eX11_put_72.2.1
theorem dX11_put_134 : decode cX11_put 134 = .ok (.aload_n 0, 1) := eX11_put_72.2.2.1
theorem dX11_put_135 : decode cX11_put 135 = .ok (.getfield 160, 3) := eX11_put_72.2.2.2.1
theorem dX11_put_138 : decode cX11_put 138 = .ok (.iload 4, 2) := eX11_put_72.2.2.2.2.1
theorem dX11_put_140 : decode cX11_put 140 = .ok (.iastore, 1) := eX11_put_72.2.2.2.2.2.1
theorem dX11_put_141 : decode cX11_put 141 = .ok (.aload_n 0, 1) := eX11_put_72.2.2.2.2.2.2.1
theorem dX11_put_142 : decode cX11_put 142 = .ok (.dup, 1) := eX11_put_72.2.2.2.2.2.2.2
theorem eX11_put_80 : (decode cX11_put 143 = .ok (.getfield 160, 3)) ∧ (decode cX11_put 146 = .ok (.iconst 1, 1)) ∧ (decode cX11_put 147 = .ok (.iadd, 1)) ∧ (decode cX11_put 148 = .ok (.putfield 160, 3)) ∧ (decode cX11_put 151 = .ok (.aload_n 0, 1)) ∧ (decode cX11_put 152 = .ok (.aload_n 0, 1)) ∧ (decode cX11_put 153 = .ok (.getfield 160, 3)) ∧ (decode cX11_put 156 = .ok (.iconst 1, 1)) := by decide +kernel
theorem dX11_put_143 : decode cX11_put 143 = .ok (.getfield 160, 3) := eX11_put_80.1
theorem dX11_put_146 : decode cX11_put 146 = .ok (.iconst 1, 1) := eX11_put_80.2.1
theorem dX11_put_147 : decode cX11_put 147 = .ok (.iadd, 1) := eX11_put_80.2.2.1
theorem dX11_put_148 : decode cX11_put 148 = .ok (.putfield 160, 3) := eX11_put_80.2.2.2.1
theorem dX11_put_151 : decode cX11_put 151 = .ok (.aload_n 0, 1) := eX11_put_80.2.2.2.2.1
theorem dX11_put_152 : decode cX11_put 152 = .ok (.aload_n 0, 1) := eX11_put_80.2.2.2.2.2.1
theorem dX11_put_153 : decode cX11_put 153 = .ok (.getfield 160, 3) := eX11_put_80.2.2.2.2.2.2.1
theorem dX11_put_156 : decode cX11_put 156 = .ok (.iconst 1, 1) := eX11_put_80.2.2.2.2.2.2.2
theorem eX11_put_88 : (decode cX11_put 157 = .ok (.isub, 1)) ∧ (decode cX11_put 158 = .ok (.invokevirtual 173, 3)) ∧ (decode cX11_put 161 = .ok (.ireturn, 1)) := by decide +kernel
theorem dX11_put_157 : decode cX11_put 157 = .ok (.isub, 1) := eX11_put_88.1
theorem dX11_put_158 : decode cX11_put 158 = .ok (.invokevirtual 173, 3) := eX11_put_88.2.1
theorem dX11_put_161 : decode cX11_put 161 = .ok (.ireturn, 1) := eX11_put_88.2.2
theorem eX11_take_0 : (decode cX11_take 0 = .ok (.aload_n 0, 1)) ∧ (decode cX11_take 1 = .ok (.iconst 0, 1)) ∧ (decode cX11_take 2 = .ok (.putfield 144, 3)) ∧ (decode cX11_take 5 = .ok (.aload_n 0, 1)) ∧ (decode cX11_take 6 = .ok (.iload_n 1, 1)) ∧ (decode cX11_take 7 = .ok (.invokevirtual 204, 3)) ∧ (decode cX11_take 10 = .ok (.ifCond .ne 10, 3)) ∧ (decode cX11_take 13 = .ok (.aload_n 0, 1)) := by decide +kernel
theorem dX11_take_0 : decode cX11_take 0 = .ok (.aload_n 0, 1) := eX11_take_0.1
theorem dX11_take_1 : decode cX11_take 1 = .ok (.iconst 0, 1) := eX11_take_0.2.1
theorem dX11_take_2 : decode cX11_take 2 = .ok (.putfield 144, 3) := eX11_take_0.2.2.1
theorem dX11_take_5 : decode cX11_take 5 = .ok (.aload_n 0, 1) := eX11_take_0.2.2.2.1
theorem dX11_take_6 : decode cX11_take 6 = .ok (.iload_n 1, 1) := eX11_take_0.2.2.2.2.1
theorem dX11_take_7 : decode cX11_take 7 = .ok (.invokevirtual 204, 3) := eX11_take_0.2.2.2.2.2.1
theorem dX11_take_10 : decode cX11_take 10 = .ok (.ifCond .ne 10, 3) := eX11_take_0.2.2.2.2.2.2.1
theorem dX11_take_13 : decode cX11_take 13 = .ok (.aload_n 0, 1) := eX11_take_0.2.2.2.2.2.2.2
theorem eX11_take_8 : (decode cX11_take 14 = .ok (.bipush (-2), 2)) ∧ (decode cX11_take 16 = .ok (.invokevirtual 173, 3)) ∧ (decode cX11_take 19 = .ok (.ireturn, 1)) ∧ (decode cX11_take 20 = .ok (.aload_n 0, 1)) ∧ (decode cX11_take 21 = .ok (.getfield 49, 3)) ∧ (decode cX11_take 24 = .ok (.iload_n 1, 1)) ∧ (decode cX11_take 25 = .ok (.iconst 0, 1)) ∧ (decode cX11_take 26 = .ok (.bastore, 1)) := by decide +kernel
theorem dX11_take_14 : decode cX11_take 14 = .ok (.bipush (-2), 2) := eX11_take_8.1
theorem dX11_take_16 : decode cX11_take 16 = .ok (.invokevirtual 173, 3) := eX11_take_8.2.1
theorem dX11_take_19 : decode cX11_take 19 = .ok (.ireturn, 1) := eX11_take_8.2.2.1
theorem dX11_take_20 : decode cX11_take 20 = .ok (.aload_n 0, 1) := eX11_take_8.2.2.2.1
theorem dX11_take_21 : decode cX11_take 21 = .ok (.getfield 49, 3) := eX11_take_8.2.2.2.2.1
theorem dX11_take_24 : decode cX11_take 24 = .ok (.iload_n 1, 1) := eX11_take_8.2.2.2.2.2.1
theorem dX11_take_25 : decode cX11_take 25 = .ok (.iconst 0, 1) := eX11_take_8.2.2.2.2.2.2.1
theorem dX11_take_26 : decode cX11_take 26 = .ok (.bastore, 1) := eX11_take_8.2.2.2.2.2.2.2
theorem eX11_take_16 : (decode cX11_take 27 = .ok (.aload_n 0, 1)) ∧ (decode cX11_take 28 = .ok (.iconst 0, 1)) ∧ (decode cX11_take 29 = .ok (.invokevirtual 173, 3)) ∧ (decode cX11_take 32 = .ok (.ireturn, 1)) := by decide +kernel
theorem dX11_take_27 : decode cX11_take 27 = .ok (.aload_n 0, 1) := eX11_take_16.1
theorem dX11_take_28 : decode cX11_take 28 = .ok (.iconst 0, 1) := eX11_take_16.2.1
theorem dX11_take_29 : decode cX11_take 29 = .ok (.invokevirtual 173, 3) := eX11_take_16.2.2.1
theorem dX11_take_32 : decode cX11_take 32 = .ok (.ireturn, 1) := eX11_take_16.2.2.2
theorem eX11_crowdOf_0 : (decode cX11_crowdOf 0 = .ok (.iconst 1, 1)) ∧ (decode cX11_crowdOf 1 = .ok (.istore_n 2, 1)) ∧ (decode cX11_crowdOf 2 = .ok (.iconst 0, 1)) ∧ (decode cX11_crowdOf 3 = .ok (.istore_n 3, 1)) ∧ (decode cX11_crowdOf 4 = .ok (.iload_n 3, 1)) ∧ (decode cX11_crowdOf 5 = .ok (.aload_n 0, 1)) ∧ (decode cX11_crowdOf 6 = .ok (.getfield 160, 3)) ∧ (decode cX11_crowdOf 9 = .ok (.if_icmp .ge 84, 3)) := by decide +kernel
theorem dX11_crowdOf_0 : decode cX11_crowdOf 0 = .ok (.iconst 1, 1) := eX11_crowdOf_0.1
theorem dX11_crowdOf_1 : decode cX11_crowdOf 1 = .ok (.istore_n 2, 1) := eX11_crowdOf_0.2.1
theorem dX11_crowdOf_2 : decode cX11_crowdOf 2 = .ok (.iconst 0, 1) := eX11_crowdOf_0.2.2.1
theorem dX11_crowdOf_3 : decode cX11_crowdOf 3 = .ok (.istore_n 3, 1) := eX11_crowdOf_0.2.2.2.1
theorem dX11_crowdOf_4 : decode cX11_crowdOf 4 = .ok (.iload_n 3, 1) := eX11_crowdOf_0.2.2.2.2.1
theorem dX11_crowdOf_5 : decode cX11_crowdOf 5 = .ok (.aload_n 0, 1) := eX11_crowdOf_0.2.2.2.2.2.1
theorem dX11_crowdOf_6 : decode cX11_crowdOf 6 = .ok (.getfield 160, 3) := eX11_crowdOf_0.2.2.2.2.2.2.1
theorem dX11_crowdOf_9 : decode cX11_crowdOf 9 = .ok (.if_icmp .ge 84, 3) := eX11_crowdOf_0.2.2.2.2.2.2.2
theorem eX11_crowdOf_8 : (decode cX11_crowdOf 12 = .ok (.iload_n 2, 1)) ∧ (decode cX11_crowdOf 13 = .ok (.aload_n 0, 1)) ∧ (decode cX11_crowdOf 14 = .ok (.getfield 49, 3)) ∧ (decode cX11_crowdOf 17 = .ok (.iload_n 3, 1)) ∧ (decode cX11_crowdOf 18 = .ok (.baload, 1)) ∧ (decode cX11_crowdOf 19 = .ok (.ifCond .eq 65, 3)) ∧ (decode cX11_crowdOf 22 = .ok (.iload_n 3, 1)) ∧ (decode cX11_crowdOf 23 = .ok (.iload_n 1, 1)) := by decide +kernel
theorem dX11_crowdOf_12 : decode cX11_crowdOf 12 = .ok (.iload_n 2, 1) := eX11_crowdOf_8.1
theorem dX11_crowdOf_13 : decode cX11_crowdOf 13 = .ok (.aload_n 0, 1) := eX11_crowdOf_8.2.1
theorem dX11_crowdOf_14 : decode cX11_crowdOf 14 = .ok (.getfield 49, 3) := eX11_crowdOf_8.2.2.1
theorem dX11_crowdOf_17 : decode cX11_crowdOf 17 = .ok (.iload_n 3, 1) := eX11_crowdOf_8.2.2.2.1
theorem dX11_crowdOf_18 : decode cX11_crowdOf 18 = .ok (.baload, 1) := eX11_crowdOf_8.2.2.2.2.1
theorem dX11_crowdOf_19 : decode cX11_crowdOf 19 = .ok (.ifCond .eq 65, 3) := eX11_crowdOf_8.2.2.2.2.2.1
theorem dX11_crowdOf_22 : decode cX11_crowdOf 22 = .ok (.iload_n 3, 1) := eX11_crowdOf_8.2.2.2.2.2.2.1
theorem dX11_crowdOf_23 : decode cX11_crowdOf 23 = .ok (.iload_n 1, 1) := eX11_crowdOf_8.2.2.2.2.2.2.2
theorem eX11_crowdOf_16 : (decode cX11_crowdOf 24 = .ok (.if_icmp .eq 60, 3)) ∧ (decode cX11_crowdOf 27 = .ok (.aload_n 0, 1)) ∧ (decode cX11_crowdOf 28 = .ok (.getfield 7, 3)) ∧ (decode cX11_crowdOf 31 = .ok (.aload_n 0, 1)) ∧ (decode cX11_crowdOf 32 = .ok (.getfield 56, 3)) ∧ (decode cX11_crowdOf 35 = .ok (.iload_n 3, 1)) ∧ (decode cX11_crowdOf 36 = .ok (.iaload, 1)) ∧ (decode cX11_crowdOf 37 = .ok (.iaload, 1)) := by decide +kernel
theorem dX11_crowdOf_24 : decode cX11_crowdOf 24 = .ok (.if_icmp .eq 60, 3) := eX11_crowdOf_16.1
theorem dX11_crowdOf_27 : decode cX11_crowdOf 27 = .ok (.aload_n 0, 1) := eX11_crowdOf_16.2.1
theorem dX11_crowdOf_28 : decode cX11_crowdOf 28 = .ok (.getfield 7, 3) := eX11_crowdOf_16.2.2.1
theorem dX11_crowdOf_31 : decode cX11_crowdOf 31 = .ok (.aload_n 0, 1) := eX11_crowdOf_16.2.2.2.1
theorem dX11_crowdOf_32 : decode cX11_crowdOf 32 = .ok (.getfield 56, 3) := eX11_crowdOf_16.2.2.2.2.1
theorem dX11_crowdOf_35 : decode cX11_crowdOf 35 = .ok (.iload_n 3, 1) := eX11_crowdOf_16.2.2.2.2.2.1
theorem dX11_crowdOf_36 : decode cX11_crowdOf 36 = .ok (.iaload, 1) := eX11_crowdOf_16.2.2.2.2.2.2.1
theorem dX11_crowdOf_37 : decode cX11_crowdOf 37 = .ok (.iaload, 1) := eX11_crowdOf_16.2.2.2.2.2.2.2
theorem eX11_crowdOf_24 : (decode cX11_crowdOf 38 = .ok (.aload_n 0, 1)) ∧ (decode cX11_crowdOf 39 = .ok (.getfield 7, 3)) ∧ (decode cX11_crowdOf 42 = .ok (.aload_n 0, 1)) ∧ (decode cX11_crowdOf 43 = .ok (.getfield 56, 3)) ∧ (decode cX11_crowdOf 46 = .ok (.iload_n 1, 1)) ∧ (decode cX11_crowdOf 47 = .ok (.iaload, 1)) ∧ (decode cX11_crowdOf 48 = .ok (.iaload, 1)) ∧ (decode cX11_crowdOf 49 = .ok (.if_icmp .ne 35, 3)) := by decide +kernel
theorem dX11_crowdOf_38 : decode cX11_crowdOf 38 = .ok (.aload_n 0, 1) := eX11_crowdOf_24.1
theorem dX11_crowdOf_39 : decode cX11_crowdOf 39 = .ok (.getfield 7, 3) := eX11_crowdOf_24.2.1
theorem dX11_crowdOf_42 : decode cX11_crowdOf 42 = .ok (.aload_n 0, 1) := eX11_crowdOf_24.2.2.1
theorem dX11_crowdOf_43 : decode cX11_crowdOf 43 = .ok (.getfield 56, 3) := eX11_crowdOf_24.2.2.2.1
theorem dX11_crowdOf_46 : decode cX11_crowdOf 46 = .ok (.iload_n 1, 1) := eX11_crowdOf_24.2.2.2.2.1
theorem dX11_crowdOf_47 : decode cX11_crowdOf 47 = .ok (.iaload, 1) := eX11_crowdOf_24.2.2.2.2.2.1
theorem dX11_crowdOf_48 : decode cX11_crowdOf 48 = .ok (.iaload, 1) := eX11_crowdOf_24.2.2.2.2.2.2.1
theorem dX11_crowdOf_49 : decode cX11_crowdOf 49 = .ok (.if_icmp .ne 35, 3) := eX11_crowdOf_24.2.2.2.2.2.2.2
theorem eX11_crowdOf_32 : (decode cX11_crowdOf 52 = .ok (.aload_n 0, 1)) ∧ (decode cX11_crowdOf 53 = .ok (.getfield 59, 3)) ∧ (decode cX11_crowdOf 56 = .ok (.iload_n 3, 1)) ∧ (decode cX11_crowdOf 57 = .ok (.iaload, 1)) ∧ (decode cX11_crowdOf 58 = .ok (.aload_n 0, 1)) ∧ (decode cX11_crowdOf 59 = .ok (.iload_n 1, 1)) ∧ (decode cX11_crowdOf 60 = .ok (.invokevirtual 192, 3)) ∧ (decode cX11_crowdOf 63 = .ok (.if_icmp .ge 21, 3)) := by decide +kernel
theorem dX11_crowdOf_52 : decode cX11_crowdOf 52 = .ok (.aload_n 0, 1) := eX11_crowdOf_32.1
theorem dX11_crowdOf_53 : decode cX11_crowdOf 53 = .ok (.getfield 59, 3) := eX11_crowdOf_32.2.1
theorem dX11_crowdOf_56 : decode cX11_crowdOf 56 = .ok (.iload_n 3, 1) := eX11_crowdOf_32.2.2.1
theorem dX11_crowdOf_57 : decode cX11_crowdOf 57 = .ok (.iaload, 1) := eX11_crowdOf_32.2.2.2.1
theorem dX11_crowdOf_58 : decode cX11_crowdOf 58 = .ok (.aload_n 0, 1) := eX11_crowdOf_32.2.2.2.2.1
theorem dX11_crowdOf_59 : decode cX11_crowdOf 59 = .ok (.iload_n 1, 1) := eX11_crowdOf_32.2.2.2.2.2.1
theorem dX11_crowdOf_60 : decode cX11_crowdOf 60 = .ok (.invokevirtual 192, 3) := eX11_crowdOf_32.2.2.2.2.2.2.1
theorem dX11_crowdOf_63 : decode cX11_crowdOf 63 = .ok (.if_icmp .ge 21, 3) := eX11_crowdOf_32.2.2.2.2.2.2.2
theorem eX11_crowdOf_40 : (decode cX11_crowdOf 66 = .ok (.aload_n 0, 1)) ∧ (decode cX11_crowdOf 67 = .ok (.iload_n 3, 1)) ∧ (decode cX11_crowdOf 68 = .ok (.invokevirtual 192, 3)) ∧ (decode cX11_crowdOf 71 = .ok (.aload_n 0, 1)) ∧ (decode cX11_crowdOf 72 = .ok (.getfield 59, 3)) ∧ (decode cX11_crowdOf 75 = .ok (.iload_n 1, 1)) ∧ (decode cX11_crowdOf 76 = .ok (.iaload, 1)) ∧ (decode cX11_crowdOf 77 = .ok (.if_icmp .le 7, 3)) := by decide +kernel
theorem dX11_crowdOf_66 : decode cX11_crowdOf 66 = .ok (.aload_n 0, 1) := eX11_crowdOf_40.1
theorem dX11_crowdOf_67 : decode cX11_crowdOf 67 = .ok (.iload_n 3, 1) := eX11_crowdOf_40.2.1
theorem dX11_crowdOf_68 : decode cX11_crowdOf 68 = .ok (.invokevirtual 192, 3) := eX11_crowdOf_40.2.2.1
theorem dX11_crowdOf_71 : decode cX11_crowdOf 71 = .ok (.aload_n 0, 1) := eX11_crowdOf_40.2.2.2.1
theorem dX11_crowdOf_72 : decode cX11_crowdOf 72 = .ok (.getfield 59, 3) := eX11_crowdOf_40.2.2.2.2.1
theorem dX11_crowdOf_75 : decode cX11_crowdOf 75 = .ok (.iload_n 1, 1) := eX11_crowdOf_40.2.2.2.2.2.1
theorem dX11_crowdOf_76 : decode cX11_crowdOf 76 = .ok (.iaload, 1) := eX11_crowdOf_40.2.2.2.2.2.2.1
theorem dX11_crowdOf_77 : decode cX11_crowdOf 77 = .ok (.if_icmp .le 7, 3) := eX11_crowdOf_40.2.2.2.2.2.2.2
theorem eX11_crowdOf_48 : (decode cX11_crowdOf 80 = .ok (.iconst 1, 1)) ∧ (decode cX11_crowdOf 81 = .ok (.goto 4, 3)) ∧ (decode cX11_crowdOf 84 = .ok (.iconst 0, 1)) ∧ (decode cX11_crowdOf 85 = .ok (.iadd, 1)) ∧ (decode cX11_crowdOf 86 = .ok (.istore_n 2, 1)) ∧ (decode cX11_crowdOf 87 = .ok (.iinc 3 1, 3)) ∧ (decode cX11_crowdOf 90 = .ok (.goto (-86), 3)) ∧ (decode cX11_crowdOf 93 = .ok (.aload_n 0, 1)) := by decide +kernel
theorem dX11_crowdOf_80 : decode cX11_crowdOf 80 = .ok (.iconst 1, 1) := eX11_crowdOf_48.1
theorem dX11_crowdOf_81 : decode cX11_crowdOf 81 = .ok (.goto 4, 3) := eX11_crowdOf_48.2.1
theorem dX11_crowdOf_84 : decode cX11_crowdOf 84 = .ok (.iconst 0, 1) := eX11_crowdOf_48.2.2.1
theorem dX11_crowdOf_85 : decode cX11_crowdOf 85 = .ok (.iadd, 1) := eX11_crowdOf_48.2.2.2.1
theorem dX11_crowdOf_86 : decode cX11_crowdOf 86 = .ok (.istore_n 2, 1) := eX11_crowdOf_48.2.2.2.2.1
theorem dX11_crowdOf_87 : decode cX11_crowdOf 87 = .ok (.iinc 3 1, 3) := eX11_crowdOf_48.2.2.2.2.2.1
theorem dX11_crowdOf_90 : decode cX11_crowdOf 90 = .ok (.goto (-86), 3) := eX11_crowdOf_48.2.2.2.2.2.2.1
theorem dX11_crowdOf_93 : decode cX11_crowdOf 93 = .ok (.aload_n 0, 1) := eX11_crowdOf_48.2.2.2.2.2.2.2
theorem eX11_crowdOf_56 : (decode cX11_crowdOf 94 = .ok (.getfield 28, 3)) ∧ (decode cX11_crowdOf 97 = .ok (.aload_n 0, 1)) ∧ (decode cX11_crowdOf 98 = .ok (.getfield 53, 3)) ∧ (decode cX11_crowdOf 101 = .ok (.iload_n 1, 1)) ∧ (decode cX11_crowdOf 102 = .ok (.iaload, 1)) ∧ (decode cX11_crowdOf 103 = .ok (.iaload, 1)) ∧ (decode cX11_crowdOf 104 = .ok (.aload_n 0, 1)) ∧ (decode cX11_crowdOf 105 = .ok (.getfield 71, 3)) := by decide +kernel
theorem dX11_crowdOf_94 : decode cX11_crowdOf 94 = .ok (.getfield 28, 3) := eX11_crowdOf_56.1
theorem dX11_crowdOf_97 : decode cX11_crowdOf 97 = .ok (.aload_n 0, 1) := eX11_crowdOf_56.2.1
theorem dX11_crowdOf_98 : decode cX11_crowdOf 98 = .ok (.getfield 53, 3) := eX11_crowdOf_56.2.2.1
theorem dX11_crowdOf_101 : decode cX11_crowdOf 101 = .ok (.iload_n 1, 1) := eX11_crowdOf_56.2.2.2.1
theorem dX11_crowdOf_102 : decode cX11_crowdOf 102 = .ok (.iaload, 1) := eX11_crowdOf_56.2.2.2.2.1
theorem dX11_crowdOf_103 : decode cX11_crowdOf 103 = .ok (.iaload, 1) := eX11_crowdOf_56.2.2.2.2.2.1
theorem dX11_crowdOf_104 : decode cX11_crowdOf 104 = .ok (.aload_n 0, 1) := eX11_crowdOf_56.2.2.2.2.2.2.1
theorem dX11_crowdOf_105 : decode cX11_crowdOf 105 = .ok (.getfield 71, 3) := eX11_crowdOf_56.2.2.2.2.2.2.2
theorem eX11_crowdOf_64 : (decode cX11_crowdOf 108 = .ok (.aload_n 0, 1)) ∧ (decode cX11_crowdOf 109 = .ok (.getfield 59, 3)) ∧ (decode cX11_crowdOf 112 = .ok (.iload_n 1, 1)) ∧ (decode cX11_crowdOf 113 = .ok (.iaload, 1)) ∧ (decode cX11_crowdOf 114 = .ok (.sipush 1440, 3)) ∧ (decode cX11_crowdOf 117 = .ok (.irem, 1)) ∧ (decode cX11_crowdOf 118 = .ok (.bipush 60, 2)) ∧ (decode cX11_crowdOf 120 = .ok (.idiv, 1)) := by decide +kernel
theorem dX11_crowdOf_108 : decode cX11_crowdOf 108 = .ok (.aload_n 0, 1) := eX11_crowdOf_64.1
theorem dX11_crowdOf_109 : decode cX11_crowdOf 109 = .ok (.getfield 59, 3) := eX11_crowdOf_64.2.1
theorem dX11_crowdOf_112 : decode cX11_crowdOf 112 = .ok (.iload_n 1, 1) := eX11_crowdOf_64.2.2.1
theorem dX11_crowdOf_113 : decode cX11_crowdOf 113 = .ok (.iaload, 1) := eX11_crowdOf_64.2.2.2.1
theorem dX11_crowdOf_114 : decode cX11_crowdOf 114 = .ok (.sipush 1440, 3) := eX11_crowdOf_64.2.2.2.2.1
theorem dX11_crowdOf_117 : decode cX11_crowdOf 117 = .ok (.irem, 1) := eX11_crowdOf_64.2.2.2.2.2.1
theorem dX11_crowdOf_118 : decode cX11_crowdOf 118 = .ok (.bipush 60, 2) := eX11_crowdOf_64.2.2.2.2.2.2.1
theorem dX11_crowdOf_120 : decode cX11_crowdOf 120 = .ok (.idiv, 1) := eX11_crowdOf_64.2.2.2.2.2.2.2
theorem eX11_crowdOf_72 : (decode cX11_crowdOf 121 = .ok (.iaload, 1)) ∧ (decode cX11_crowdOf 122 = .ok (.imul, 1)) ∧ (decode cX11_crowdOf 123 = .ok (.bipush 100, 2)) ∧ (decode cX11_crowdOf 125 = .ok (.idiv, 1)) ∧ (decode cX11_crowdOf 126 = .ok (.iload_n 2, 1)) ∧ (decode cX11_crowdOf 127 = .ok (.idiv, 1)) ∧ (decode cX11_crowdOf 128 = .ok (.ireturn, 1)) := by decide +kernel
theorem dX11_crowdOf_121 : decode cX11_crowdOf 121 = .ok (.iaload, 1) := eX11_crowdOf_72.1
theorem dX11_crowdOf_122 : decode cX11_crowdOf 122 = .ok (.imul, 1) := eX11_crowdOf_72.2.1
theorem dX11_crowdOf_123 : decode cX11_crowdOf 123 = .ok (.bipush 100, 2) := eX11_crowdOf_72.2.2.1
theorem dX11_crowdOf_125 : decode cX11_crowdOf 125 = .ok (.idiv, 1) := eX11_crowdOf_72.2.2.2.1
theorem dX11_crowdOf_126 : decode cX11_crowdOf 126 = .ok (.iload_n 2, 1) := eX11_crowdOf_72.2.2.2.2.1
theorem dX11_crowdOf_127 : decode cX11_crowdOf 127 = .ok (.idiv, 1) := eX11_crowdOf_72.2.2.2.2.2.1
theorem dX11_crowdOf_128 : decode cX11_crowdOf 128 = .ok (.ireturn, 1) := eX11_crowdOf_72.2.2.2.2.2.2
theorem eX11_worthOf_0 : (decode cX11_worthOf 0 = .ok (.aload_n 0, 1)) ∧ (decode cX11_worthOf 1 = .ok (.iload_n 1, 1)) ∧ (decode cX11_worthOf 2 = .ok (.invokevirtual 207, 3)) ∧ (decode cX11_worthOf 5 = .ok (.istore_n 2, 1)) ∧ (decode cX11_worthOf 6 = .ok (.iload_n 2, 1)) ∧ (decode cX11_worthOf 7 = .ok (.aload_n 0, 1)) ∧ (decode cX11_worthOf 8 = .ok (.getfield 13, 3)) ∧ (decode cX11_worthOf 11 = .ok (.aload_n 0, 1)) := by decide +kernel
theorem dX11_worthOf_0 : decode cX11_worthOf 0 = .ok (.aload_n 0, 1) := eX11_worthOf_0.1
theorem dX11_worthOf_1 : decode cX11_worthOf 1 = .ok (.iload_n 1, 1) := eX11_worthOf_0.2.1
theorem dX11_worthOf_2 : decode cX11_worthOf 2 = .ok (.invokevirtual 207, 3) := eX11_worthOf_0.2.2.1
theorem dX11_worthOf_5 : decode cX11_worthOf 5 = .ok (.istore_n 2, 1) := eX11_worthOf_0.2.2.2.1
theorem dX11_worthOf_6 : decode cX11_worthOf 6 = .ok (.iload_n 2, 1) := eX11_worthOf_0.2.2.2.2.1
theorem dX11_worthOf_7 : decode cX11_worthOf 7 = .ok (.aload_n 0, 1) := eX11_worthOf_0.2.2.2.2.2.1
theorem dX11_worthOf_8 : decode cX11_worthOf 8 = .ok (.getfield 13, 3) := eX11_worthOf_0.2.2.2.2.2.2.1
theorem dX11_worthOf_11 : decode cX11_worthOf 11 = .ok (.aload_n 0, 1) := eX11_worthOf_0.2.2.2.2.2.2.2
theorem eX11_worthOf_8 : (decode cX11_worthOf 12 = .ok (.getfield 56, 3)) ∧ (decode cX11_worthOf 15 = .ok (.iload_n 1, 1)) ∧ (decode cX11_worthOf 16 = .ok (.iaload, 1)) ∧ (decode cX11_worthOf 17 = .ok (.iaload, 1)) ∧ (decode cX11_worthOf 18 = .ok (.if_icmp .ge 7, 3)) ∧ (decode cX11_worthOf 21 = .ok (.iload_n 2, 1)) ∧ (decode cX11_worthOf 22 = .ok (.goto 14, 3)) ∧ (decode cX11_worthOf 25 = .ok (.aload_n 0, 1)) := by decide +kernel
theorem dX11_worthOf_12 : decode cX11_worthOf 12 = .ok (.getfield 56, 3) := eX11_worthOf_8.1
theorem dX11_worthOf_15 : decode cX11_worthOf 15 = .ok (.iload_n 1, 1) := eX11_worthOf_8.2.1
theorem dX11_worthOf_16 : decode cX11_worthOf 16 = .ok (.iaload, 1) := eX11_worthOf_8.2.2.1
theorem dX11_worthOf_17 : decode cX11_worthOf 17 = .ok (.iaload, 1) := eX11_worthOf_8.2.2.2.1
theorem dX11_worthOf_18 : decode cX11_worthOf 18 = .ok (.if_icmp .ge 7, 3) := eX11_worthOf_8.2.2.2.2.1
theorem dX11_worthOf_21 : decode cX11_worthOf 21 = .ok (.iload_n 2, 1) := eX11_worthOf_8.2.2.2.2.2.1
theorem dX11_worthOf_22 : decode cX11_worthOf 22 = .ok (.goto 14, 3) := eX11_worthOf_8.2.2.2.2.2.2.1
theorem dX11_worthOf_25 : decode cX11_worthOf 25 = .ok (.aload_n 0, 1) := eX11_worthOf_8.2.2.2.2.2.2.2
theorem eX11_worthOf_16 : (decode cX11_worthOf 26 = .ok (.getfield 13, 3)) ∧ (decode cX11_worthOf 29 = .ok (.aload_n 0, 1)) ∧ (decode cX11_worthOf 30 = .ok (.getfield 56, 3)) ∧ (decode cX11_worthOf 33 = .ok (.iload_n 1, 1)) ∧ (decode cX11_worthOf 34 = .ok (.iaload, 1)) ∧ (decode cX11_worthOf 35 = .ok (.iaload, 1)) ∧ (decode cX11_worthOf 36 = .ok (.ireturn, 1)) := by decide +kernel
theorem dX11_worthOf_26 : decode cX11_worthOf 26 = .ok (.getfield 13, 3) := eX11_worthOf_16.1
theorem dX11_worthOf_29 : decode cX11_worthOf 29 = .ok (.aload_n 0, 1) := eX11_worthOf_16.2.1
theorem dX11_worthOf_30 : decode cX11_worthOf 30 = .ok (.getfield 56, 3) := eX11_worthOf_16.2.2.1
theorem dX11_worthOf_33 : decode cX11_worthOf 33 = .ok (.iload_n 1, 1) := eX11_worthOf_16.2.2.2.1
theorem dX11_worthOf_34 : decode cX11_worthOf 34 = .ok (.iaload, 1) := eX11_worthOf_16.2.2.2.2.1
theorem dX11_worthOf_35 : decode cX11_worthOf 35 = .ok (.iaload, 1) := eX11_worthOf_16.2.2.2.2.2.1
theorem dX11_worthOf_36 : decode cX11_worthOf 36 = .ok (.ireturn, 1) := eX11_worthOf_16.2.2.2.2.2.2
theorem eX11_gridOf_0 : (decode cX11_gridOf 0 = .ok (.iconst 0, 1)) ∧ (decode cX11_gridOf 1 = .ok (.istore_n 1, 1)) ∧ (decode cX11_gridOf 2 = .ok (.iconst 0, 1)) ∧ (decode cX11_gridOf 3 = .ok (.istore_n 2, 1)) ∧ (decode cX11_gridOf 4 = .ok (.iload_n 2, 1)) ∧ (decode cX11_gridOf 5 = .ok (.aload_n 0, 1)) ∧ (decode cX11_gridOf 6 = .ok (.getfield 160, 3)) ∧ (decode cX11_gridOf 9 = .ok (.if_icmp .ge 30, 3)) := by decide +kernel
theorem dX11_gridOf_0 : decode cX11_gridOf 0 = .ok (.iconst 0, 1) := eX11_gridOf_0.1
theorem dX11_gridOf_1 : decode cX11_gridOf 1 = .ok (.istore_n 1, 1) := eX11_gridOf_0.2.1
theorem dX11_gridOf_2 : decode cX11_gridOf 2 = .ok (.iconst 0, 1) := eX11_gridOf_0.2.2.1
theorem dX11_gridOf_3 : decode cX11_gridOf 3 = .ok (.istore_n 2, 1) := eX11_gridOf_0.2.2.2.1
theorem dX11_gridOf_4 : decode cX11_gridOf 4 = .ok (.iload_n 2, 1) := eX11_gridOf_0.2.2.2.2.1
theorem dX11_gridOf_5 : decode cX11_gridOf 5 = .ok (.aload_n 0, 1) := eX11_gridOf_0.2.2.2.2.2.1
theorem dX11_gridOf_6 : decode cX11_gridOf 6 = .ok (.getfield 160, 3) := eX11_gridOf_0.2.2.2.2.2.2.1
theorem dX11_gridOf_9 : decode cX11_gridOf 9 = .ok (.if_icmp .ge 30, 3) := eX11_gridOf_0.2.2.2.2.2.2.2
theorem eX11_gridOf_8 : (decode cX11_gridOf 12 = .ok (.iload_n 1, 1)) ∧ (decode cX11_gridOf 13 = .ok (.aload_n 0, 1)) ∧ (decode cX11_gridOf 14 = .ok (.getfield 49, 3)) ∧ (decode cX11_gridOf 17 = .ok (.iload_n 2, 1)) ∧ (decode cX11_gridOf 18 = .ok (.baload, 1)) ∧ (decode cX11_gridOf 19 = .ok (.ifCond .eq 11, 3)) ∧ (decode cX11_gridOf 22 = .ok (.aload_n 0, 1)) ∧ (decode cX11_gridOf 23 = .ok (.iload_n 2, 1)) := by decide +kernel
theorem dX11_gridOf_12 : decode cX11_gridOf 12 = .ok (.iload_n 1, 1) := eX11_gridOf_8.1
theorem dX11_gridOf_13 : decode cX11_gridOf 13 = .ok (.aload_n 0, 1) := eX11_gridOf_8.2.1
theorem dX11_gridOf_14 : decode cX11_gridOf 14 = .ok (.getfield 49, 3) := eX11_gridOf_8.2.2.1
theorem dX11_gridOf_17 : decode cX11_gridOf 17 = .ok (.iload_n 2, 1) := eX11_gridOf_8.2.2.2.1
theorem dX11_gridOf_18 : decode cX11_gridOf 18 = .ok (.baload, 1) := eX11_gridOf_8.2.2.2.2.1
theorem dX11_gridOf_19 : decode cX11_gridOf 19 = .ok (.ifCond .eq 11, 3) := eX11_gridOf_8.2.2.2.2.2.1
theorem dX11_gridOf_22 : decode cX11_gridOf 22 = .ok (.aload_n 0, 1) := eX11_gridOf_8.2.2.2.2.2.2.1
theorem dX11_gridOf_23 : decode cX11_gridOf 23 = .ok (.iload_n 2, 1) := eX11_gridOf_8.2.2.2.2.2.2.2
theorem eX11_gridOf_16 : (decode cX11_gridOf 24 = .ok (.invokevirtual 210, 3)) ∧ (decode cX11_gridOf 27 = .ok (.goto 4, 3)) ∧ (decode cX11_gridOf 30 = .ok (.iconst 0, 1)) ∧ (decode cX11_gridOf 31 = .ok (.iadd, 1)) ∧ (decode cX11_gridOf 32 = .ok (.istore_n 1, 1)) ∧ (decode cX11_gridOf 33 = .ok (.iinc 2 1, 3)) ∧ (decode cX11_gridOf 36 = .ok (.goto (-32), 3)) ∧ (decode cX11_gridOf 39 = .ok (.iload_n 1, 1)) := by decide +kernel
theorem dX11_gridOf_24 : decode cX11_gridOf 24 = .ok (.invokevirtual 210, 3) := eX11_gridOf_16.1
theorem dX11_gridOf_27 : decode cX11_gridOf 27 = .ok (.goto 4, 3) := eX11_gridOf_16.2.1
theorem dX11_gridOf_30 : decode cX11_gridOf 30 = .ok (.iconst 0, 1) := eX11_gridOf_16.2.2.1
theorem dX11_gridOf_31 : decode cX11_gridOf 31 = .ok (.iadd, 1) := eX11_gridOf_16.2.2.2.1
theorem dX11_gridOf_32 : decode cX11_gridOf 32 = .ok (.istore_n 1, 1) := eX11_gridOf_16.2.2.2.2.1
theorem dX11_gridOf_33 : decode cX11_gridOf 33 = .ok (.iinc 2 1, 3) := eX11_gridOf_16.2.2.2.2.2.1
theorem dX11_gridOf_36 : decode cX11_gridOf 36 = .ok (.goto (-32), 3) := eX11_gridOf_16.2.2.2.2.2.2.1
theorem dX11_gridOf_39 : decode cX11_gridOf 39 = .ok (.iload_n 1, 1) := eX11_gridOf_16.2.2.2.2.2.2.2
theorem dX11_gridOf_40 : decode cX11_gridOf 40 = .ok (.ireturn, 1) := by decide +kernel
theorem eX11_trueEnd_0 : (decode cX11_trueEnd 0 = .ok (.aload_n 0, 1)) ∧ (decode cX11_trueEnd 1 = .ok (.getfield 81, 3)) ∧ (decode cX11_trueEnd 4 = .ok (.iload_n 1, 1)) ∧ (decode cX11_trueEnd 5 = .ok (.iaload, 1)) ∧ (decode cX11_trueEnd 6 = .ok (.aload_n 0, 1)) ∧ (decode cX11_trueEnd 7 = .ok (.getfield 22, 3)) ∧ (decode cX11_trueEnd 10 = .ok (.aload_n 0, 1)) ∧ (decode cX11_trueEnd 11 = .ok (.getfield 53, 3)) := by decide +kernel
theorem dX11_trueEnd_0 : decode cX11_trueEnd 0 = .ok (.aload_n 0, 1) := eX11_trueEnd_0.1
theorem dX11_trueEnd_1 : decode cX11_trueEnd 1 = .ok (.getfield 81, 3) := eX11_trueEnd_0.2.1
theorem dX11_trueEnd_4 : decode cX11_trueEnd 4 = .ok (.iload_n 1, 1) := eX11_trueEnd_0.2.2.1
theorem dX11_trueEnd_5 : decode cX11_trueEnd 5 = .ok (.iaload, 1) := eX11_trueEnd_0.2.2.2.1
theorem dX11_trueEnd_6 : decode cX11_trueEnd 6 = .ok (.aload_n 0, 1) := eX11_trueEnd_0.2.2.2.2.1
theorem dX11_trueEnd_7 : decode cX11_trueEnd 7 = .ok (.getfield 22, 3) := eX11_trueEnd_0.2.2.2.2.2.1
theorem dX11_trueEnd_10 : decode cX11_trueEnd 10 = .ok (.aload_n 0, 1) := eX11_trueEnd_0.2.2.2.2.2.2.1
theorem dX11_trueEnd_11 : decode cX11_trueEnd 11 = .ok (.getfield 53, 3) := eX11_trueEnd_0.2.2.2.2.2.2.2
theorem eX11_trueEnd_8 : (decode cX11_trueEnd 14 = .ok (.iload_n 1, 1)) ∧ (decode cX11_trueEnd 15 = .ok (.iaload, 1)) ∧ (decode cX11_trueEnd 16 = .ok (.iaload, 1)) ∧ (decode cX11_trueEnd 17 = .ok (.iadd, 1)) ∧ (decode cX11_trueEnd 18 = .ok (.aload_n 0, 1)) ∧ (decode cX11_trueEnd 19 = .ok (.getfield 65, 3)) ∧ (decode cX11_trueEnd 22 = .ok (.iload_n 1, 1)) ∧ (decode cX11_trueEnd 23 = .ok (.iaload, 1)) := by decide +kernel
theorem dX11_trueEnd_14 : decode cX11_trueEnd 14 = .ok (.iload_n 1, 1) := eX11_trueEnd_8.1
theorem dX11_trueEnd_15 : decode cX11_trueEnd 15 = .ok (.iaload, 1) := eX11_trueEnd_8.2.1
theorem dX11_trueEnd_16 : decode cX11_trueEnd 16 = .ok (.iaload, 1) := eX11_trueEnd_8.2.2.1
theorem dX11_trueEnd_17 : decode cX11_trueEnd 17 = .ok (.iadd, 1) := eX11_trueEnd_8.2.2.2.1
theorem dX11_trueEnd_18 : decode cX11_trueEnd 18 = .ok (.aload_n 0, 1) := eX11_trueEnd_8.2.2.2.2.1
theorem dX11_trueEnd_19 : decode cX11_trueEnd 19 = .ok (.getfield 65, 3) := eX11_trueEnd_8.2.2.2.2.2.1
theorem dX11_trueEnd_22 : decode cX11_trueEnd 22 = .ok (.iload_n 1, 1) := eX11_trueEnd_8.2.2.2.2.2.2.1
theorem dX11_trueEnd_23 : decode cX11_trueEnd 23 = .ok (.iaload, 1) := eX11_trueEnd_8.2.2.2.2.2.2.2
theorem eX11_trueEnd_16 : (decode cX11_trueEnd 24 = .ok (.iadd, 1)) ∧ (decode cX11_trueEnd 25 = .ok (.ireturn, 1)) := by decide +kernel
theorem dX11_trueEnd_24 : decode cX11_trueEnd 24 = .ok (.iadd, 1) := eX11_trueEnd_16.1
theorem dX11_trueEnd_25 : decode cX11_trueEnd 25 = .ok (.ireturn, 1) := eX11_trueEnd_16.2
theorem eX11_findTrue_0 : (decode cX11_findTrue 0 = .ok (.iconst 0, 1)) ∧ (decode cX11_findTrue 1 = .ok (.istore_n 1, 1)) ∧ (decode cX11_findTrue 2 = .ok (.iload_n 1, 1)) ∧ (decode cX11_findTrue 3 = .ok (.aload_n 0, 1)) ∧ (decode cX11_findTrue 4 = .ok (.getfield 160, 3)) ∧ (decode cX11_findTrue 7 = .ok (.if_icmp .ge 29, 3)) ∧ (decode cX11_findTrue 10 = .ok (.aload_n 0, 1)) ∧ (decode cX11_findTrue 11 = .ok (.getfield 84, 3)) := by decide +kernel
theorem dX11_findTrue_0 : decode cX11_findTrue 0 = .ok (.iconst 0, 1) := eX11_findTrue_0.1
theorem dX11_findTrue_1 : decode cX11_findTrue 1 = .ok (.istore_n 1, 1) := eX11_findTrue_0.2.1
theorem dX11_findTrue_2 : decode cX11_findTrue 2 = .ok (.iload_n 1, 1) := eX11_findTrue_0.2.2.1
theorem dX11_findTrue_3 : decode cX11_findTrue 3 = .ok (.aload_n 0, 1) := eX11_findTrue_0.2.2.2.1
theorem dX11_findTrue_4 : decode cX11_findTrue 4 = .ok (.getfield 160, 3) := eX11_findTrue_0.2.2.2.2.1
theorem dX11_findTrue_7 : decode cX11_findTrue 7 = .ok (.if_icmp .ge 29, 3) := eX11_findTrue_0.2.2.2.2.2.1
theorem dX11_findTrue_10 : decode cX11_findTrue 10 = .ok (.aload_n 0, 1) := eX11_findTrue_0.2.2.2.2.2.2.1
theorem dX11_findTrue_11 : decode cX11_findTrue 11 = .ok (.getfield 84, 3) := eX11_findTrue_0.2.2.2.2.2.2.2
theorem eX11_findTrue_8 : (decode cX11_findTrue 14 = .ok (.iload_n 1, 1)) ∧ (decode cX11_findTrue 15 = .ok (.aload_n 0, 1)) ∧ (decode cX11_findTrue 16 = .ok (.getfield 49, 3)) ∧ (decode cX11_findTrue 19 = .ok (.iload_n 1, 1)) ∧ (decode cX11_findTrue 20 = .ok (.baload, 1)) ∧ (decode cX11_findTrue 21 = .ok (.ifCond .ne 7, 3)) ∧ (decode cX11_findTrue 24 = .ok (.iconst 1, 1)) ∧ (decode cX11_findTrue 25 = .ok (.goto 4, 3)) := by decide +kernel
theorem dX11_findTrue_14 : decode cX11_findTrue 14 = .ok (.iload_n 1, 1) := eX11_findTrue_8.1
theorem dX11_findTrue_15 : decode cX11_findTrue 15 = .ok (.aload_n 0, 1) := eX11_findTrue_8.2.1
theorem dX11_findTrue_16 : decode cX11_findTrue 16 = .ok (.getfield 49, 3) := eX11_findTrue_8.2.2.1
theorem dX11_findTrue_19 : decode cX11_findTrue 19 = .ok (.iload_n 1, 1) := eX11_findTrue_8.2.2.2.1
theorem dX11_findTrue_20 : decode cX11_findTrue 20 = .ok (.baload, 1) := eX11_findTrue_8.2.2.2.2.1
theorem dX11_findTrue_21 : decode cX11_findTrue 21 = .ok (.ifCond .ne 7, 3) := eX11_findTrue_8.2.2.2.2.2.1
theorem dX11_findTrue_24 : decode cX11_findTrue 24 = .ok (.iconst 1, 1) := eX11_findTrue_8.2.2.2.2.2.2.1
theorem dX11_findTrue_25 : decode cX11_findTrue 25 = .ok (.goto 4, 3) := eX11_findTrue_8.2.2.2.2.2.2.2
theorem eX11_findTrue_16 : (decode cX11_findTrue 28 = .ok (.iconst 0, 1)) ∧ (decode cX11_findTrue 29 = .ok (.bastore, 1)) ∧ (decode cX11_findTrue 30 = .ok (.iinc 1 1, 3)) ∧ (decode cX11_findTrue 33 = .ok (.goto (-31), 3)) ∧ (decode cX11_findTrue 36 = .ok (.aload_n 0, 1)) ∧ (decode cX11_findTrue 37 = .ok (.invokevirtual 213, 3)) ∧ (decode cX11_findTrue 40 = .ok (.istore_n 1, 1)) ∧ (decode cX11_findTrue 41 = .ok (.iload_n 1, 1)) := by decide +kernel
theorem dX11_findTrue_28 : decode cX11_findTrue 28 = .ok (.iconst 0, 1) := eX11_findTrue_16.1
theorem dX11_findTrue_29 : decode cX11_findTrue 29 = .ok (.bastore, 1) := eX11_findTrue_16.2.1
theorem dX11_findTrue_30 : decode cX11_findTrue 30 = .ok (.iinc 1 1, 3) := eX11_findTrue_16.2.2.1
theorem dX11_findTrue_33 : decode cX11_findTrue 33 = .ok (.goto (-31), 3) := eX11_findTrue_16.2.2.2.1
theorem dX11_findTrue_36 : decode cX11_findTrue 36 = .ok (.aload_n 0, 1) := eX11_findTrue_16.2.2.2.2.1
theorem dX11_findTrue_37 : decode cX11_findTrue 37 = .ok (.invokevirtual 213, 3) := eX11_findTrue_16.2.2.2.2.2.1
theorem dX11_findTrue_40 : decode cX11_findTrue 40 = .ok (.istore_n 1, 1) := eX11_findTrue_16.2.2.2.2.2.2.1
theorem dX11_findTrue_41 : decode cX11_findTrue 41 = .ok (.iload_n 1, 1) := eX11_findTrue_16.2.2.2.2.2.2.2
theorem eX11_findTrue_24 : (decode cX11_findTrue 42 = .ok (.ifCond .lt 272, 3)) ∧ (decode cX11_findTrue 45 = .ok (.iconst (-1), 1)) ∧ (decode cX11_findTrue 46 = .ok (.istore_n 2, 1)) ∧ (decode cX11_findTrue 47 = .ok (.iconst (-1), 1)) ∧ (decode cX11_findTrue 48 = .ok (.istore_n 3, 1)) ∧ (decode cX11_findTrue 49 = .ok (.iconst 0, 1)) ∧ (decode cX11_findTrue 50 = .ok (.istore 4, 2)) ∧ (decode cX11_findTrue 52 = .ok (.iload 4, 2)) := by decide +kernel
theorem dX11_findTrue_42 : decode cX11_findTrue 42 = .ok (.ifCond .lt 272, 3) := eX11_findTrue_24.1
theorem dX11_findTrue_45 : decode cX11_findTrue 45 = .ok (.iconst (-1), 1) := eX11_findTrue_24.2.1
theorem dX11_findTrue_46 : decode cX11_findTrue 46 = .ok (.istore_n 2, 1) := eX11_findTrue_24.2.2.1
theorem dX11_findTrue_47 : decode cX11_findTrue 47 = .ok (.iconst (-1), 1) := eX11_findTrue_24.2.2.2.1
theorem dX11_findTrue_48 : decode cX11_findTrue 48 = .ok (.istore_n 3, 1) := eX11_findTrue_24.2.2.2.2.1
theorem dX11_findTrue_49 : decode cX11_findTrue 49 = .ok (.iconst 0, 1) := eX11_findTrue_24.2.2.2.2.2.1
theorem dX11_findTrue_50 : decode cX11_findTrue 50 = .ok (.istore 4, 2) := eX11_findTrue_24.2.2.2.2.2.2.1
theorem dX11_findTrue_52 : decode cX11_findTrue 52 = .ok (.iload 4, 2) := eX11_findTrue_24.2.2.2.2.2.2.2
theorem eX11_findTrue_32 : (decode cX11_findTrue 54 = .ok (.aload_n 0, 1)) ∧ (decode cX11_findTrue 55 = .ok (.getfield 160, 3)) ∧ (decode cX11_findTrue 58 = .ok (.if_icmp .ge 124, 3)) ∧ (decode cX11_findTrue 61 = .ok (.aload_n 0, 1)) ∧ (decode cX11_findTrue 62 = .ok (.getfield 49, 3)) ∧ (decode cX11_findTrue 65 = .ok (.iload 4, 2)) ∧ (decode cX11_findTrue 67 = .ok (.baload, 1)) ∧ (decode cX11_findTrue 68 = .ok (.ifCond .eq 108, 3)) := by decide +kernel
theorem dX11_findTrue_54 : decode cX11_findTrue 54 = .ok (.aload_n 0, 1) := eX11_findTrue_32.1
theorem dX11_findTrue_55 : decode cX11_findTrue 55 = .ok (.getfield 160, 3) := eX11_findTrue_32.2.1
theorem dX11_findTrue_58 : decode cX11_findTrue 58 = .ok (.if_icmp .ge 124, 3) := eX11_findTrue_32.2.2.1
theorem dX11_findTrue_61 : decode cX11_findTrue 61 = .ok (.aload_n 0, 1) := eX11_findTrue_32.2.2.2.1
theorem dX11_findTrue_62 : decode cX11_findTrue 62 = .ok (.getfield 49, 3) := eX11_findTrue_32.2.2.2.2.1
theorem dX11_findTrue_65 : decode cX11_findTrue 65 = .ok (.iload 4, 2) := eX11_findTrue_32.2.2.2.2.2.1
theorem dX11_findTrue_67 : decode cX11_findTrue 67 = .ok (.baload, 1) := eX11_findTrue_32.2.2.2.2.2.2.1
theorem dX11_findTrue_68 : decode cX11_findTrue 68 = .ok (.ifCond .eq 108, 3) := eX11_findTrue_32.2.2.2.2.2.2.2
theorem eX11_findTrue_40 : (decode cX11_findTrue 71 = .ok (.aload_n 0, 1)) ∧ (decode cX11_findTrue 72 = .ok (.getfield 59, 3)) ∧ (decode cX11_findTrue 75 = .ok (.iload 4, 2)) ∧ (decode cX11_findTrue 77 = .ok (.iaload, 1)) ∧ (decode cX11_findTrue 78 = .ok (.aload_n 0, 1)) ∧ (decode cX11_findTrue 79 = .ok (.getfield 59, 3)) ∧ (decode cX11_findTrue 82 = .ok (.iload_n 1, 1)) ∧ (decode cX11_findTrue 83 = .ok (.iaload, 1)) := by decide +kernel
theorem dX11_findTrue_71 : decode cX11_findTrue 71 = .ok (.aload_n 0, 1) := eX11_findTrue_40.1
theorem dX11_findTrue_72 : decode cX11_findTrue 72 = .ok (.getfield 59, 3) := eX11_findTrue_40.2.1
theorem dX11_findTrue_75 : decode cX11_findTrue 75 = .ok (.iload 4, 2) := eX11_findTrue_40.2.2.1
theorem dX11_findTrue_77 : decode cX11_findTrue 77 = .ok (.iaload, 1) := eX11_findTrue_40.2.2.2.1
theorem dX11_findTrue_78 : decode cX11_findTrue 78 = .ok (.aload_n 0, 1) := eX11_findTrue_40.2.2.2.2.1
theorem dX11_findTrue_79 : decode cX11_findTrue 79 = .ok (.getfield 59, 3) := eX11_findTrue_40.2.2.2.2.2.1
theorem dX11_findTrue_82 : decode cX11_findTrue 82 = .ok (.iload_n 1, 1) := eX11_findTrue_40.2.2.2.2.2.2.1
theorem dX11_findTrue_83 : decode cX11_findTrue 83 = .ok (.iaload, 1) := eX11_findTrue_40.2.2.2.2.2.2.2
theorem eX11_findTrue_48 : (decode cX11_findTrue 84 = .ok (.if_icmp .lt 6, 3)) ∧ (decode cX11_findTrue 87 = .ok (.goto 89, 3)) ∧ (decode cX11_findTrue 90 = .ok (.aload_n 0, 1)) ∧ (decode cX11_findTrue 91 = .ok (.getfield 56, 3)) ∧ (decode cX11_findTrue 94 = .ok (.iload 4, 2)) ∧ (decode cX11_findTrue 96 = .ok (.iaload, 1)) ∧ (decode cX11_findTrue 97 = .ok (.aload_n 0, 1)) ∧ (decode cX11_findTrue 98 = .ok (.getfield 56, 3)) := by decide +kernel
theorem dX11_findTrue_84 : decode cX11_findTrue 84 = .ok (.if_icmp .lt 6, 3) := eX11_findTrue_48.1
theorem dX11_findTrue_87 : decode cX11_findTrue 87 = .ok (.goto 89, 3) := eX11_findTrue_48.2.1
theorem dX11_findTrue_90 : decode cX11_findTrue 90 = .ok (.aload_n 0, 1) := eX11_findTrue_48.2.2.1
theorem dX11_findTrue_91 : decode cX11_findTrue 91 = .ok (.getfield 56, 3) := eX11_findTrue_48.2.2.2.1
theorem dX11_findTrue_94 : decode cX11_findTrue 94 = .ok (.iload 4, 2) := eX11_findTrue_48.2.2.2.2.1
theorem dX11_findTrue_96 : decode cX11_findTrue 96 = .ok (.iaload, 1) := eX11_findTrue_48.2.2.2.2.2.1
theorem dX11_findTrue_97 : decode cX11_findTrue 97 = .ok (.aload_n 0, 1) := eX11_findTrue_48.2.2.2.2.2.2.1
theorem dX11_findTrue_98 : decode cX11_findTrue 98 = .ok (.getfield 56, 3) := eX11_findTrue_48.2.2.2.2.2.2.2
theorem eX11_findTrue_56 : (decode cX11_findTrue 101 = .ok (.iload_n 1, 1)) ∧ (decode cX11_findTrue 102 = .ok (.iaload, 1)) ∧ (decode cX11_findTrue 103 = .ok (.if_icmp .ne 28, 3)) ∧ (decode cX11_findTrue 106 = .ok (.iload_n 2, 1)) ∧ (decode cX11_findTrue 107 = .ok (.ifCond .lt 19, 3)) ∧ (decode cX11_findTrue 110 = .ok (.aload_n 0, 1)) ∧ (decode cX11_findTrue 111 = .ok (.getfield 59, 3)) ∧ (decode cX11_findTrue 114 = .ok (.iload 4, 2)) := by decide +kernel
theorem dX11_findTrue_101 : decode cX11_findTrue 101 = .ok (.iload_n 1, 1) := eX11_findTrue_56.1
theorem dX11_findTrue_102 : decode cX11_findTrue 102 = .ok (.iaload, 1) := eX11_findTrue_56.2.1
theorem dX11_findTrue_103 : decode cX11_findTrue 103 = .ok (.if_icmp .ne 28, 3) := eX11_findTrue_56.2.2.1
theorem dX11_findTrue_106 : decode cX11_findTrue 106 = .ok (.iload_n 2, 1) := eX11_findTrue_56.2.2.2.1
theorem dX11_findTrue_107 : decode cX11_findTrue 107 = .ok (.ifCond .lt 19, 3) := eX11_findTrue_56.2.2.2.2.1
theorem dX11_findTrue_110 : decode cX11_findTrue 110 = .ok (.aload_n 0, 1) := eX11_findTrue_56.2.2.2.2.2.1
theorem dX11_findTrue_111 : decode cX11_findTrue 111 = .ok (.getfield 59, 3) := eX11_findTrue_56.2.2.2.2.2.2.1
theorem dX11_findTrue_114 : decode cX11_findTrue 114 = .ok (.iload 4, 2) := eX11_findTrue_56.2.2.2.2.2.2.2
theorem eX11_findTrue_64 : (decode cX11_findTrue 116 = .ok (.iaload, 1)) ∧ (decode cX11_findTrue 117 = .ok (.aload_n 0, 1)) ∧ (decode cX11_findTrue 118 = .ok (.getfield 59, 3)) ∧ (decode cX11_findTrue 121 = .ok (.iload_n 2, 1)) ∧ (decode cX11_findTrue 122 = .ok (.iaload, 1)) ∧ (decode cX11_findTrue 123 = .ok (.if_icmp .le 8, 3)) ∧ (decode cX11_findTrue 126 = .ok (.iload 4, 2)) ∧ (decode cX11_findTrue 128 = .ok (.goto 4, 3)) := by decide +kernel
theorem dX11_findTrue_116 : decode cX11_findTrue 116 = .ok (.iaload, 1) := eX11_findTrue_64.1
theorem dX11_findTrue_117 : decode cX11_findTrue 117 = .ok (.aload_n 0, 1) := eX11_findTrue_64.2.1
theorem dX11_findTrue_118 : decode cX11_findTrue 118 = .ok (.getfield 59, 3) := eX11_findTrue_64.2.2.1
theorem dX11_findTrue_121 : decode cX11_findTrue 121 = .ok (.iload_n 2, 1) := eX11_findTrue_64.2.2.2.1
theorem dX11_findTrue_122 : decode cX11_findTrue 122 = .ok (.iaload, 1) := eX11_findTrue_64.2.2.2.2.1
theorem dX11_findTrue_123 : decode cX11_findTrue 123 = .ok (.if_icmp .le 8, 3) := eX11_findTrue_64.2.2.2.2.2.1
theorem dX11_findTrue_126 : decode cX11_findTrue 126 = .ok (.iload 4, 2) := eX11_findTrue_64.2.2.2.2.2.2.1
theorem dX11_findTrue_128 : decode cX11_findTrue 128 = .ok (.goto 4, 3) := eX11_findTrue_64.2.2.2.2.2.2.2
theorem eX11_findTrue_72 : (decode cX11_findTrue 131 = .ok (.iload_n 2, 1)) ∧ (decode cX11_findTrue 132 = .ok (.istore_n 2, 1)) ∧ (decode cX11_findTrue 133 = .ok (.aload_n 0, 1)) ∧ (decode cX11_findTrue 134 = .ok (.getfield 53, 3)) ∧ (decode cX11_findTrue 137 = .ok (.iload 4, 2)) ∧ (decode cX11_findTrue 139 = .ok (.iaload, 1)) ∧ (decode cX11_findTrue 140 = .ok (.aload_n 0, 1)) ∧ (decode cX11_findTrue 141 = .ok (.getfield 53, 3)) := by decide +kernel
theorem dX11_findTrue_131 : decode cX11_findTrue 131 = .ok (.iload_n 2, 1) := eX11_findTrue_72.1
theorem dX11_findTrue_132 : decode cX11_findTrue 132 = .ok (.istore_n 2, 1) := eX11_findTrue_72.2.1
theorem dX11_findTrue_133 : decode cX11_findTrue 133 = .ok (.aload_n 0, 1) := eX11_findTrue_72.2.2.1
theorem dX11_findTrue_134 : decode cX11_findTrue 134 = .ok (.getfield 53, 3) := eX11_findTrue_72.2.2.2.1
theorem dX11_findTrue_137 : decode cX11_findTrue 137 = .ok (.iload 4, 2) := eX11_findTrue_72.2.2.2.2.1
theorem dX11_findTrue_139 : decode cX11_findTrue 139 = .ok (.iaload, 1) := eX11_findTrue_72.2.2.2.2.2.1
theorem dX11_findTrue_140 : decode cX11_findTrue 140 = .ok (.aload_n 0, 1) := eX11_findTrue_72.2.2.2.2.2.2.1
theorem dX11_findTrue_141 : decode cX11_findTrue 141 = .ok (.getfield 53, 3) := eX11_findTrue_72.2.2.2.2.2.2.2
theorem eX11_findTrue_80 : (decode cX11_findTrue 144 = .ok (.iload_n 1, 1)) ∧ (decode cX11_findTrue 145 = .ok (.iaload, 1)) ∧ (decode cX11_findTrue 146 = .ok (.if_icmp .ne 28, 3)) ∧ (decode cX11_findTrue 149 = .ok (.iload_n 3, 1)) ∧ (decode cX11_findTrue 150 = .ok (.ifCond .lt 19, 3)) ∧ (decode cX11_findTrue 153 = .ok (.aload_n 0, 1)) ∧ (decode cX11_findTrue 154 = .ok (.getfield 59, 3)) ∧ (decode cX11_findTrue 157 = .ok (.iload 4, 2)) := by decide +kernel
theorem dX11_findTrue_144 : decode cX11_findTrue 144 = .ok (.iload_n 1, 1) := eX11_findTrue_80.1
theorem dX11_findTrue_145 : decode cX11_findTrue 145 = .ok (.iaload, 1) := eX11_findTrue_80.2.1
theorem dX11_findTrue_146 : decode cX11_findTrue 146 = .ok (.if_icmp .ne 28, 3) := eX11_findTrue_80.2.2.1
theorem dX11_findTrue_149 : decode cX11_findTrue 149 = .ok (.iload_n 3, 1) := eX11_findTrue_80.2.2.2.1
theorem dX11_findTrue_150 : decode cX11_findTrue 150 = .ok (.ifCond .lt 19, 3) := eX11_findTrue_80.2.2.2.2.1
theorem dX11_findTrue_153 : decode cX11_findTrue 153 = .ok (.aload_n 0, 1) := eX11_findTrue_80.2.2.2.2.2.1
theorem dX11_findTrue_154 : decode cX11_findTrue 154 = .ok (.getfield 59, 3) := eX11_findTrue_80.2.2.2.2.2.2.1
theorem dX11_findTrue_157 : decode cX11_findTrue 157 = .ok (.iload 4, 2) := eX11_findTrue_80.2.2.2.2.2.2.2
theorem eX11_findTrue_88 : (decode cX11_findTrue 159 = .ok (.iaload, 1)) ∧ (decode cX11_findTrue 160 = .ok (.aload_n 0, 1)) ∧ (decode cX11_findTrue 161 = .ok (.getfield 59, 3)) ∧ (decode cX11_findTrue 164 = .ok (.iload_n 3, 1)) ∧ (decode cX11_findTrue 165 = .ok (.iaload, 1)) ∧ (decode cX11_findTrue 166 = .ok (.if_icmp .le 8, 3)) ∧ (decode cX11_findTrue 169 = .ok (.iload 4, 2)) ∧ (decode cX11_findTrue 171 = .ok (.goto 4, 3)) := by decide +kernel
theorem dX11_findTrue_159 : decode cX11_findTrue 159 = .ok (.iaload, 1) := eX11_findTrue_88.1
theorem dX11_findTrue_160 : decode cX11_findTrue 160 = .ok (.aload_n 0, 1) := eX11_findTrue_88.2.1
theorem dX11_findTrue_161 : decode cX11_findTrue 161 = .ok (.getfield 59, 3) := eX11_findTrue_88.2.2.1
theorem dX11_findTrue_164 : decode cX11_findTrue 164 = .ok (.iload_n 3, 1) := eX11_findTrue_88.2.2.2.1
theorem dX11_findTrue_165 : decode cX11_findTrue 165 = .ok (.iaload, 1) := eX11_findTrue_88.2.2.2.2.1
theorem dX11_findTrue_166 : decode cX11_findTrue 166 = .ok (.if_icmp .le 8, 3) := eX11_findTrue_88.2.2.2.2.2.1
theorem dX11_findTrue_169 : decode cX11_findTrue 169 = .ok (.iload 4, 2) := eX11_findTrue_88.2.2.2.2.2.2.1
theorem dX11_findTrue_171 : decode cX11_findTrue 171 = .ok (.goto 4, 3) := eX11_findTrue_88.2.2.2.2.2.2.2
theorem eX11_findTrue_96 : (decode cX11_findTrue 174 = .ok (.iload_n 3, 1)) ∧ (decode cX11_findTrue 175 = .ok (.istore_n 3, 1)) ∧ (decode cX11_findTrue 176 = .ok (.iinc 4 1, 3)) ∧ (decode cX11_findTrue 179 = .ok (.goto (-127), 3)) ∧ (decode cX11_findTrue 182 = .ok (.aload_n 0, 1)) ∧ (decode cX11_findTrue 183 = .ok (.getfield 59, 3)) ∧ (decode cX11_findTrue 186 = .ok (.iload_n 1, 1)) ∧ (decode cX11_findTrue 187 = .ok (.iaload, 1)) := by decide +kernel
theorem dX11_findTrue_174 : decode cX11_findTrue 174 = .ok (.iload_n 3, 1) := eX11_findTrue_96.1
theorem dX11_findTrue_175 : decode cX11_findTrue 175 = .ok (.istore_n 3, 1) := eX11_findTrue_96.2.1
theorem dX11_findTrue_176 : decode cX11_findTrue 176 = .ok (.iinc 4 1, 3) := eX11_findTrue_96.2.2.1
theorem dX11_findTrue_179 : decode cX11_findTrue 179 = .ok (.goto (-127), 3) := eX11_findTrue_96.2.2.2.1
theorem dX11_findTrue_182 : decode cX11_findTrue 182 = .ok (.aload_n 0, 1) := eX11_findTrue_96.2.2.2.2.1
theorem dX11_findTrue_183 : decode cX11_findTrue 183 = .ok (.getfield 59, 3) := eX11_findTrue_96.2.2.2.2.2.1
theorem dX11_findTrue_186 : decode cX11_findTrue 186 = .ok (.iload_n 1, 1) := eX11_findTrue_96.2.2.2.2.2.2.1
theorem dX11_findTrue_187 : decode cX11_findTrue 187 = .ok (.iaload, 1) := eX11_findTrue_96.2.2.2.2.2.2.2
theorem eX11_findTrue_104 : (decode cX11_findTrue 188 = .ok (.istore 4, 2)) ∧ (decode cX11_findTrue 190 = .ok (.iload_n 2, 1)) ∧ (decode cX11_findTrue 191 = .ok (.ifCond .ge 7, 3)) ∧ (decode cX11_findTrue 194 = .ok (.iconst 0, 1)) ∧ (decode cX11_findTrue 195 = .ok (.goto 20, 3)) ∧ (decode cX11_findTrue 198 = .ok (.aload_n 0, 1)) ∧ (decode cX11_findTrue 199 = .ok (.iload_n 2, 1)) ∧ (decode cX11_findTrue 200 = .ok (.invokevirtual 217, 3)) := by decide +kernel
theorem dX11_findTrue_188 : decode cX11_findTrue 188 = .ok (.istore 4, 2) := eX11_findTrue_104.1
theorem dX11_findTrue_190 : decode cX11_findTrue 190 = .ok (.iload_n 2, 1) := eX11_findTrue_104.2.1
theorem dX11_findTrue_191 : decode cX11_findTrue 191 = .ok (.ifCond .ge 7, 3) := eX11_findTrue_104.2.2.1
theorem dX11_findTrue_194 : decode cX11_findTrue 194 = .ok (.iconst 0, 1) := eX11_findTrue_104.2.2.2.1
theorem dX11_findTrue_195 : decode cX11_findTrue 195 = .ok (.goto 20, 3) := eX11_findTrue_104.2.2.2.2.1
theorem dX11_findTrue_198 : decode cX11_findTrue 198 = .ok (.aload_n 0, 1) := eX11_findTrue_104.2.2.2.2.2.1
theorem dX11_findTrue_199 : decode cX11_findTrue 199 = .ok (.iload_n 2, 1) := eX11_findTrue_104.2.2.2.2.2.2.1
theorem dX11_findTrue_200 : decode cX11_findTrue 200 = .ok (.invokevirtual 217, 3) := eX11_findTrue_104.2.2.2.2.2.2.2
theorem eX11_findTrue_112 : (decode cX11_findTrue 203 = .ok (.aload_n 0, 1)) ∧ (decode cX11_findTrue 204 = .ok (.getfield 16, 3)) ∧ (decode cX11_findTrue 207 = .ok (.aload_n 0, 1)) ∧ (decode cX11_findTrue 208 = .ok (.getfield 56, 3)) ∧ (decode cX11_findTrue 211 = .ok (.iload_n 1, 1)) ∧ (decode cX11_findTrue 212 = .ok (.iaload, 1)) ∧ (decode cX11_findTrue 213 = .ok (.iaload, 1)) ∧ (decode cX11_findTrue 214 = .ok (.iadd, 1)) := by decide +kernel
theorem dX11_findTrue_203 : decode cX11_findTrue 203 = .ok (.aload_n 0, 1) := eX11_findTrue_112.1
theorem dX11_findTrue_204 : decode cX11_findTrue 204 = .ok (.getfield 16, 3) := eX11_findTrue_112.2.1
theorem dX11_findTrue_207 : decode cX11_findTrue 207 = .ok (.aload_n 0, 1) := eX11_findTrue_112.2.2.1
theorem dX11_findTrue_208 : decode cX11_findTrue 208 = .ok (.getfield 56, 3) := eX11_findTrue_112.2.2.2.1
theorem dX11_findTrue_211 : decode cX11_findTrue 211 = .ok (.iload_n 1, 1) := eX11_findTrue_112.2.2.2.2.1
theorem dX11_findTrue_212 : decode cX11_findTrue 212 = .ok (.iaload, 1) := eX11_findTrue_112.2.2.2.2.2.1
theorem dX11_findTrue_213 : decode cX11_findTrue 213 = .ok (.iaload, 1) := eX11_findTrue_112.2.2.2.2.2.2.1
theorem dX11_findTrue_214 : decode cX11_findTrue 214 = .ok (.iadd, 1) := eX11_findTrue_112.2.2.2.2.2.2.2
theorem eX11_findTrue_120 : (decode cX11_findTrue 215 = .ok (.istore 5, 2)) ∧ (decode cX11_findTrue 217 = .ok (.iload_n 3, 1)) ∧ (decode cX11_findTrue 218 = .ok (.ifCond .ge 7, 3)) ∧ (decode cX11_findTrue 221 = .ok (.iconst 0, 1)) ∧ (decode cX11_findTrue 222 = .ok (.goto 39, 3)) ∧ (decode cX11_findTrue 225 = .ok (.aload_n 0, 1)) ∧ (decode cX11_findTrue 226 = .ok (.iload_n 3, 1)) ∧ (decode cX11_findTrue 227 = .ok (.invokevirtual 217, 3)) := by decide +kernel
theorem dX11_findTrue_215 : decode cX11_findTrue 215 = .ok (.istore 5, 2) := eX11_findTrue_120.1
theorem dX11_findTrue_217 : decode cX11_findTrue 217 = .ok (.iload_n 3, 1) := eX11_findTrue_120.2.1
theorem dX11_findTrue_218 : decode cX11_findTrue 218 = .ok (.ifCond .ge 7, 3) := eX11_findTrue_120.2.2.1
theorem dX11_findTrue_221 : decode cX11_findTrue 221 = .ok (.iconst 0, 1) := eX11_findTrue_120.2.2.2.1
theorem dX11_findTrue_222 : decode cX11_findTrue 222 = .ok (.goto 39, 3) := eX11_findTrue_120.2.2.2.2.1
theorem dX11_findTrue_225 : decode cX11_findTrue 225 = .ok (.aload_n 0, 1) := eX11_findTrue_120.2.2.2.2.2.1
theorem dX11_findTrue_226 : decode cX11_findTrue 226 = .ok (.iload_n 3, 1) := eX11_findTrue_120.2.2.2.2.2.2.1
theorem dX11_findTrue_227 : decode cX11_findTrue 227 = .ok (.invokevirtual 217, 3) := eX11_findTrue_120.2.2.2.2.2.2.2
theorem eX11_findTrue_128 : (decode cX11_findTrue 230 = .ok (.aload_n 0, 1)) ∧ (decode cX11_findTrue 231 = .ok (.getfield 46, 3)) ∧ (decode cX11_findTrue 234 = .ok (.iconst 5, 1)) ∧ (decode cX11_findTrue 235 = .ok (.aload_n 0, 1)) ∧ (decode cX11_findTrue 236 = .ok (.getfield 7, 3)) ∧ (decode cX11_findTrue 239 = .ok (.aload_n 0, 1)) ∧ (decode cX11_findTrue 240 = .ok (.getfield 56, 3)) ∧ (decode cX11_findTrue 243 = .ok (.iload_n 3, 1)) := by decide +kernel
theorem dX11_findTrue_230 : decode cX11_findTrue 230 = .ok (.aload_n 0, 1) := eX11_findTrue_128.1
theorem dX11_findTrue_231 : decode cX11_findTrue 231 = .ok (.getfield 46, 3) := eX11_findTrue_128.2.1
theorem dX11_findTrue_234 : decode cX11_findTrue 234 = .ok (.iconst 5, 1) := eX11_findTrue_128.2.2.1
theorem dX11_findTrue_235 : decode cX11_findTrue 235 = .ok (.aload_n 0, 1) := eX11_findTrue_128.2.2.2.1
theorem dX11_findTrue_236 : decode cX11_findTrue 236 = .ok (.getfield 7, 3) := eX11_findTrue_128.2.2.2.2.1
theorem dX11_findTrue_239 : decode cX11_findTrue 239 = .ok (.aload_n 0, 1) := eX11_findTrue_128.2.2.2.2.2.1
theorem dX11_findTrue_240 : decode cX11_findTrue 240 = .ok (.getfield 56, 3) := eX11_findTrue_128.2.2.2.2.2.2.1
theorem dX11_findTrue_243 : decode cX11_findTrue 243 = .ok (.iload_n 3, 1) := eX11_findTrue_128.2.2.2.2.2.2.2
theorem eX11_findTrue_136 : (decode cX11_findTrue 244 = .ok (.iaload, 1)) ∧ (decode cX11_findTrue 245 = .ok (.iaload, 1)) ∧ (decode cX11_findTrue 246 = .ok (.imul, 1)) ∧ (decode cX11_findTrue 247 = .ok (.aload_n 0, 1)) ∧ (decode cX11_findTrue 248 = .ok (.getfield 7, 3)) ∧ (decode cX11_findTrue 251 = .ok (.aload_n 0, 1)) ∧ (decode cX11_findTrue 252 = .ok (.getfield 56, 3)) ∧ (decode cX11_findTrue 255 = .ok (.iload_n 1, 1)) := by decide +kernel
theorem dX11_findTrue_244 : decode cX11_findTrue 244 = .ok (.iaload, 1) := eX11_findTrue_136.1
theorem dX11_findTrue_245 : decode cX11_findTrue 245 = .ok (.iaload, 1) := eX11_findTrue_136.2.1
theorem dX11_findTrue_246 : decode cX11_findTrue 246 = .ok (.imul, 1) := eX11_findTrue_136.2.2.1
theorem dX11_findTrue_247 : decode cX11_findTrue 247 = .ok (.aload_n 0, 1) := eX11_findTrue_136.2.2.2.1
theorem dX11_findTrue_248 : decode cX11_findTrue 248 = .ok (.getfield 7, 3) := eX11_findTrue_136.2.2.2.2.1
theorem dX11_findTrue_251 : decode cX11_findTrue 251 = .ok (.aload_n 0, 1) := eX11_findTrue_136.2.2.2.2.2.1
theorem dX11_findTrue_252 : decode cX11_findTrue 252 = .ok (.getfield 56, 3) := eX11_findTrue_136.2.2.2.2.2.2.1
theorem dX11_findTrue_255 : decode cX11_findTrue 255 = .ok (.iload_n 1, 1) := eX11_findTrue_136.2.2.2.2.2.2.2
theorem eX11_findTrue_144 : (decode cX11_findTrue 256 = .ok (.iaload, 1)) ∧ (decode cX11_findTrue 257 = .ok (.iaload, 1)) ∧ (decode cX11_findTrue 258 = .ok (.iadd, 1)) ∧ (decode cX11_findTrue 259 = .ok (.iaload, 1)) ∧ (decode cX11_findTrue 260 = .ok (.iadd, 1)) ∧ (decode cX11_findTrue 261 = .ok (.istore 6, 2)) ∧ (decode cX11_findTrue 263 = .ok (.iload 5, 2)) ∧ (decode cX11_findTrue 265 = .ok (.iload 4, 2)) := by decide +kernel
theorem dX11_findTrue_256 : decode cX11_findTrue 256 = .ok (.iaload, 1) := eX11_findTrue_144.1
theorem dX11_findTrue_257 : decode cX11_findTrue 257 = .ok (.iaload, 1) := eX11_findTrue_144.2.1
theorem dX11_findTrue_258 : decode cX11_findTrue 258 = .ok (.iadd, 1) := eX11_findTrue_144.2.2.1
theorem dX11_findTrue_259 : decode cX11_findTrue 259 = .ok (.iaload, 1) := eX11_findTrue_144.2.2.2.1
theorem dX11_findTrue_260 : decode cX11_findTrue 260 = .ok (.iadd, 1) := eX11_findTrue_144.2.2.2.2.1
theorem dX11_findTrue_261 : decode cX11_findTrue 261 = .ok (.istore 6, 2) := eX11_findTrue_144.2.2.2.2.2.1
theorem dX11_findTrue_263 : decode cX11_findTrue 263 = .ok (.iload 5, 2) := eX11_findTrue_144.2.2.2.2.2.2.1
theorem dX11_findTrue_265 : decode cX11_findTrue 265 = .ok (.iload 4, 2) := eX11_findTrue_144.2.2.2.2.2.2.2
theorem eX11_findTrue_152 : (decode cX11_findTrue 267 = .ok (.if_icmp .le 8, 3)) ∧ (decode cX11_findTrue 270 = .ok (.iload 5, 2)) ∧ (decode cX11_findTrue 272 = .ok (.goto 5, 3)) ∧ (decode cX11_findTrue 275 = .ok (.iload 4, 2)) ∧ (decode cX11_findTrue 277 = .ok (.istore 4, 2)) ∧ (decode cX11_findTrue 279 = .ok (.aload_n 0, 1)) ∧ (decode cX11_findTrue 280 = .ok (.getfield 81, 3)) ∧ (decode cX11_findTrue 283 = .ok (.iload_n 1, 1)) := by decide +kernel
theorem dX11_findTrue_267 : decode cX11_findTrue 267 = .ok (.if_icmp .le 8, 3) := eX11_findTrue_152.1
theorem dX11_findTrue_270 : decode cX11_findTrue 270 = .ok (.iload 5, 2) := eX11_findTrue_152.2.1
theorem dX11_findTrue_272 : decode cX11_findTrue 272 = .ok (.goto 5, 3) := eX11_findTrue_152.2.2.1
theorem dX11_findTrue_275 : decode cX11_findTrue 275 = .ok (.iload 4, 2) := eX11_findTrue_152.2.2.2.1
theorem dX11_findTrue_277 : decode cX11_findTrue 277 = .ok (.istore 4, 2) := eX11_findTrue_152.2.2.2.2.1
theorem dX11_findTrue_279 : decode cX11_findTrue 279 = .ok (.aload_n 0, 1) := eX11_findTrue_152.2.2.2.2.2.1
theorem dX11_findTrue_280 : decode cX11_findTrue 280 = .ok (.getfield 81, 3) := eX11_findTrue_152.2.2.2.2.2.2.1
theorem dX11_findTrue_283 : decode cX11_findTrue 283 = .ok (.iload_n 1, 1) := eX11_findTrue_152.2.2.2.2.2.2.2
theorem eX11_findTrue_160 : (decode cX11_findTrue 284 = .ok (.iload 6, 2)) ∧ (decode cX11_findTrue 286 = .ok (.iload 4, 2)) ∧ (decode cX11_findTrue 288 = .ok (.if_icmp .le 8, 3)) ∧ (decode cX11_findTrue 291 = .ok (.iload 6, 2)) ∧ (decode cX11_findTrue 293 = .ok (.goto 5, 3)) ∧ (decode cX11_findTrue 296 = .ok (.iload 4, 2)) ∧ (decode cX11_findTrue 298 = .ok (.iastore, 1)) ∧ (decode cX11_findTrue 299 = .ok (.aload_n 0, 1)) := by decide +kernel
theorem dX11_findTrue_284 : decode cX11_findTrue 284 = .ok (.iload 6, 2) := eX11_findTrue_160.1
theorem dX11_findTrue_286 : decode cX11_findTrue 286 = .ok (.iload 4, 2) := eX11_findTrue_160.2.1
theorem dX11_findTrue_288 : decode cX11_findTrue 288 = .ok (.if_icmp .le 8, 3) := eX11_findTrue_160.2.2.1
theorem dX11_findTrue_291 : decode cX11_findTrue 291 = .ok (.iload 6, 2) := eX11_findTrue_160.2.2.2.1
theorem dX11_findTrue_293 : decode cX11_findTrue 293 = .ok (.goto 5, 3) := eX11_findTrue_160.2.2.2.2.1
theorem dX11_findTrue_296 : decode cX11_findTrue 296 = .ok (.iload 4, 2) := eX11_findTrue_160.2.2.2.2.2.1
theorem dX11_findTrue_298 : decode cX11_findTrue 298 = .ok (.iastore, 1) := eX11_findTrue_160.2.2.2.2.2.2.1
theorem dX11_findTrue_299 : decode cX11_findTrue 299 = .ok (.aload_n 0, 1) := eX11_findTrue_160.2.2.2.2.2.2.2
theorem eX11_findTrue_168 : (decode cX11_findTrue 300 = .ok (.getfield 84, 3)) ∧ (decode cX11_findTrue 303 = .ok (.iload_n 1, 1)) ∧ (decode cX11_findTrue 304 = .ok (.iconst 1, 1)) ∧ (decode cX11_findTrue 305 = .ok (.bastore, 1)) ∧ (decode cX11_findTrue 306 = .ok (.aload_n 0, 1)) ∧ (decode cX11_findTrue 307 = .ok (.invokevirtual 213, 3)) ∧ (decode cX11_findTrue 310 = .ok (.istore_n 1, 1)) ∧ (decode cX11_findTrue 311 = .ok (.goto (-270), 3)) := by decide +kernel
theorem dX11_findTrue_300 : decode cX11_findTrue 300 = .ok (.getfield 84, 3) := eX11_findTrue_168.1
theorem dX11_findTrue_303 : decode cX11_findTrue 303 = .ok (.iload_n 1, 1) := eX11_findTrue_168.2.1
theorem dX11_findTrue_304 : decode cX11_findTrue 304 = .ok (.iconst 1, 1) := eX11_findTrue_168.2.2.1
theorem dX11_findTrue_305 : decode cX11_findTrue 305 = .ok (.bastore, 1) := eX11_findTrue_168.2.2.2.1
theorem dX11_findTrue_306 : decode cX11_findTrue 306 = .ok (.aload_n 0, 1) := eX11_findTrue_168.2.2.2.2.1
theorem dX11_findTrue_307 : decode cX11_findTrue 307 = .ok (.invokevirtual 213, 3) := eX11_findTrue_168.2.2.2.2.2.1
theorem dX11_findTrue_310 : decode cX11_findTrue 310 = .ok (.istore_n 1, 1) := eX11_findTrue_168.2.2.2.2.2.2.1
theorem dX11_findTrue_311 : decode cX11_findTrue 311 = .ok (.goto (-270), 3) := eX11_findTrue_168.2.2.2.2.2.2.2
theorem dX11_findTrue_314 : decode cX11_findTrue 314 = .ok (.return_, 1) := by decide +kernel
theorem eX11_nextTrue_0 : (decode cX11_nextTrue 0 = .ok (.iconst (-1), 1)) ∧ (decode cX11_nextTrue 1 = .ok (.istore_n 1, 1)) ∧ (decode cX11_nextTrue 2 = .ok (.iconst 0, 1)) ∧ (decode cX11_nextTrue 3 = .ok (.istore_n 2, 1)) ∧ (decode cX11_nextTrue 4 = .ok (.iload_n 2, 1)) ∧ (decode cX11_nextTrue 5 = .ok (.aload_n 0, 1)) ∧ (decode cX11_nextTrue 6 = .ok (.getfield 160, 3)) ∧ (decode cX11_nextTrue 9 = .ok (.if_icmp .ge 43, 3)) := by decide +kernel
theorem dX11_nextTrue_0 : decode cX11_nextTrue 0 = .ok (.iconst (-1), 1) := eX11_nextTrue_0.1
theorem dX11_nextTrue_1 : decode cX11_nextTrue 1 = .ok (.istore_n 1, 1) := eX11_nextTrue_0.2.1
theorem dX11_nextTrue_2 : decode cX11_nextTrue 2 = .ok (.iconst 0, 1) := eX11_nextTrue_0.2.2.1
theorem dX11_nextTrue_3 : decode cX11_nextTrue 3 = .ok (.istore_n 2, 1) := eX11_nextTrue_0.2.2.2.1
theorem dX11_nextTrue_4 : decode cX11_nextTrue 4 = .ok (.iload_n 2, 1) := eX11_nextTrue_0.2.2.2.2.1
theorem dX11_nextTrue_5 : decode cX11_nextTrue 5 = .ok (.aload_n 0, 1) := eX11_nextTrue_0.2.2.2.2.2.1
theorem dX11_nextTrue_6 : decode cX11_nextTrue 6 = .ok (.getfield 160, 3) := eX11_nextTrue_0.2.2.2.2.2.2.1
theorem dX11_nextTrue_9 : decode cX11_nextTrue 9 = .ok (.if_icmp .ge 43, 3) := eX11_nextTrue_0.2.2.2.2.2.2.2
theorem eX11_nextTrue_8 : (decode cX11_nextTrue 12 = .ok (.aload_n 0, 1)) ∧ (decode cX11_nextTrue 13 = .ok (.getfield 84, 3)) ∧ (decode cX11_nextTrue 16 = .ok (.iload_n 2, 1)) ∧ (decode cX11_nextTrue 17 = .ok (.baload, 1)) ∧ (decode cX11_nextTrue 18 = .ok (.ifCond .ne 26, 3)) ∧ (decode cX11_nextTrue 21 = .ok (.iload_n 1, 1)) ∧ (decode cX11_nextTrue 22 = .ok (.ifCond .lt 18, 3)) ∧ (decode cX11_nextTrue 25 = .ok (.aload_n 0, 1)) := by decide +kernel
theorem dX11_nextTrue_12 : decode cX11_nextTrue 12 = .ok (.aload_n 0, 1) := eX11_nextTrue_8.1
theorem dX11_nextTrue_13 : decode cX11_nextTrue 13 = .ok (.getfield 84, 3) := eX11_nextTrue_8.2.1
theorem dX11_nextTrue_16 : decode cX11_nextTrue 16 = .ok (.iload_n 2, 1) := eX11_nextTrue_8.2.2.1
theorem dX11_nextTrue_17 : decode cX11_nextTrue 17 = .ok (.baload, 1) := eX11_nextTrue_8.2.2.2.1
theorem dX11_nextTrue_18 : decode cX11_nextTrue 18 = .ok (.ifCond .ne 26, 3) := eX11_nextTrue_8.2.2.2.2.1
theorem dX11_nextTrue_21 : decode cX11_nextTrue 21 = .ok (.iload_n 1, 1) := eX11_nextTrue_8.2.2.2.2.2.1
theorem dX11_nextTrue_22 : decode cX11_nextTrue 22 = .ok (.ifCond .lt 18, 3) := eX11_nextTrue_8.2.2.2.2.2.2.1
theorem dX11_nextTrue_25 : decode cX11_nextTrue 25 = .ok (.aload_n 0, 1) := eX11_nextTrue_8.2.2.2.2.2.2.2
theorem eX11_nextTrue_16 : (decode cX11_nextTrue 26 = .ok (.getfield 59, 3)) ∧ (decode cX11_nextTrue 29 = .ok (.iload_n 2, 1)) ∧ (decode cX11_nextTrue 30 = .ok (.iaload, 1)) ∧ (decode cX11_nextTrue 31 = .ok (.aload_n 0, 1)) ∧ (decode cX11_nextTrue 32 = .ok (.getfield 59, 3)) ∧ (decode cX11_nextTrue 35 = .ok (.iload_n 1, 1)) ∧ (decode cX11_nextTrue 36 = .ok (.iaload, 1)) ∧ (decode cX11_nextTrue 37 = .ok (.if_icmp .ge 7, 3)) := by decide +kernel
theorem dX11_nextTrue_26 : decode cX11_nextTrue 26 = .ok (.getfield 59, 3) := eX11_nextTrue_16.1
theorem dX11_nextTrue_29 : decode cX11_nextTrue 29 = .ok (.iload_n 2, 1) := eX11_nextTrue_16.2.1
theorem dX11_nextTrue_30 : decode cX11_nextTrue 30 = .ok (.iaload, 1) := eX11_nextTrue_16.2.2.1
theorem dX11_nextTrue_31 : decode cX11_nextTrue 31 = .ok (.aload_n 0, 1) := eX11_nextTrue_16.2.2.2.1
theorem dX11_nextTrue_32 : decode cX11_nextTrue 32 = .ok (.getfield 59, 3) := eX11_nextTrue_16.2.2.2.2.1
theorem dX11_nextTrue_35 : decode cX11_nextTrue 35 = .ok (.iload_n 1, 1) := eX11_nextTrue_16.2.2.2.2.2.1
theorem dX11_nextTrue_36 : decode cX11_nextTrue 36 = .ok (.iaload, 1) := eX11_nextTrue_16.2.2.2.2.2.2.1
theorem dX11_nextTrue_37 : decode cX11_nextTrue 37 = .ok (.if_icmp .ge 7, 3) := eX11_nextTrue_16.2.2.2.2.2.2.2
theorem eX11_nextTrue_24 : (decode cX11_nextTrue 40 = .ok (.iload_n 2, 1)) ∧ (decode cX11_nextTrue 41 = .ok (.goto 4, 3)) ∧ (decode cX11_nextTrue 44 = .ok (.iload_n 1, 1)) ∧ (decode cX11_nextTrue 45 = .ok (.istore_n 1, 1)) ∧ (decode cX11_nextTrue 46 = .ok (.iinc 2 1, 3)) ∧ (decode cX11_nextTrue 49 = .ok (.goto (-45), 3)) ∧ (decode cX11_nextTrue 52 = .ok (.iload_n 1, 1)) ∧ (decode cX11_nextTrue 53 = .ok (.ireturn, 1)) := by decide +kernel
theorem dX11_nextTrue_40 : decode cX11_nextTrue 40 = .ok (.iload_n 2, 1) := eX11_nextTrue_24.1
theorem dX11_nextTrue_41 : decode cX11_nextTrue 41 = .ok (.goto 4, 3) := eX11_nextTrue_24.2.1
theorem dX11_nextTrue_44 : decode cX11_nextTrue 44 = .ok (.iload_n 1, 1) := eX11_nextTrue_24.2.2.1
theorem dX11_nextTrue_45 : decode cX11_nextTrue 45 = .ok (.istore_n 1, 1) := eX11_nextTrue_24.2.2.2.1
theorem dX11_nextTrue_46 : decode cX11_nextTrue 46 = .ok (.iinc 2 1, 3) := eX11_nextTrue_24.2.2.2.2.1
theorem dX11_nextTrue_49 : decode cX11_nextTrue 49 = .ok (.goto (-45), 3) := eX11_nextTrue_24.2.2.2.2.2.1
theorem dX11_nextTrue_52 : decode cX11_nextTrue 52 = .ok (.iload_n 1, 1) := eX11_nextTrue_24.2.2.2.2.2.2.1
theorem dX11_nextTrue_53 : decode cX11_nextTrue 53 = .ok (.ireturn, 1) := eX11_nextTrue_24.2.2.2.2.2.2.2
theorem eX11_of_0 : (decode cX11_of 0 = .ok (.aload_n 0, 1)) ∧ (decode cX11_of 1 = .ok (.iconst 0, 1)) ∧ (decode cX11_of 2 = .ok (.putfield 144, 3)) ∧ (decode cX11_of 5 = .ok (.aload_n 0, 1)) ∧ (decode cX11_of 6 = .ok (.iload_n 1, 1)) ∧ (decode cX11_of 7 = .ok (.invokevirtual 204, 3)) ∧ (decode cX11_of 10 = .ok (.ifCond .ne 5, 3)) ∧ (decode cX11_of 13 = .ok (.iconst (-1), 1)) := by decide +kernel
theorem dX11_of_0 : decode cX11_of 0 = .ok (.aload_n 0, 1) := eX11_of_0.1
theorem dX11_of_1 : decode cX11_of 1 = .ok (.iconst 0, 1) := eX11_of_0.2.1
theorem dX11_of_2 : decode cX11_of 2 = .ok (.putfield 144, 3) := eX11_of_0.2.2.1
theorem dX11_of_5 : decode cX11_of 5 = .ok (.aload_n 0, 1) := eX11_of_0.2.2.2.1
theorem dX11_of_6 : decode cX11_of 6 = .ok (.iload_n 1, 1) := eX11_of_0.2.2.2.2.1
theorem dX11_of_7 : decode cX11_of 7 = .ok (.invokevirtual 204, 3) := eX11_of_0.2.2.2.2.2.1
theorem dX11_of_10 : decode cX11_of 10 = .ok (.ifCond .ne 5, 3) := eX11_of_0.2.2.2.2.2.2.1
theorem dX11_of_13 : decode cX11_of 13 = .ok (.iconst (-1), 1) := eX11_of_0.2.2.2.2.2.2.2
theorem eX11_of_8 : (decode cX11_of 14 = .ok (.ireturn, 1)) ∧ (decode cX11_of 15 = .ok (.iload_n 2, 1)) ∧ (decode cX11_of 16 = .ok (.tableswitch 119 0 8 #[52, 59, 66, 73, 80, 86, 92, 98, 109], 52)) ∧ (decode cX11_of 68 = .ok (.aload_n 0, 1)) ∧ (decode cX11_of 69 = .ok (.getfield 53, 3)) ∧ (decode cX11_of 72 = .ok (.iload_n 1, 1)) ∧ (decode cX11_of 73 = .ok (.iaload, 1)) ∧ (decode cX11_of 74 = .ok (.ireturn, 1)) := by decide +kernel
theorem dX11_of_14 : decode cX11_of 14 = .ok (.ireturn, 1) := eX11_of_8.1
theorem dX11_of_15 : decode cX11_of 15 = .ok (.iload_n 2, 1) := eX11_of_8.2.1
theorem dX11_of_16 : decode cX11_of 16 = .ok (.tableswitch 119 0 8 #[52, 59, 66, 73, 80, 86, 92, 98, 109], 52) := eX11_of_8.2.2.1
theorem dX11_of_68 : decode cX11_of 68 = .ok (.aload_n 0, 1) := eX11_of_8.2.2.2.1
theorem dX11_of_69 : decode cX11_of 69 = .ok (.getfield 53, 3) := eX11_of_8.2.2.2.2.1
theorem dX11_of_72 : decode cX11_of 72 = .ok (.iload_n 1, 1) := eX11_of_8.2.2.2.2.2.1
theorem dX11_of_73 : decode cX11_of 73 = .ok (.iaload, 1) := eX11_of_8.2.2.2.2.2.2.1
theorem dX11_of_74 : decode cX11_of 74 = .ok (.ireturn, 1) := eX11_of_8.2.2.2.2.2.2.2
theorem eX11_of_16 : (decode cX11_of 75 = .ok (.aload_n 0, 1)) ∧ (decode cX11_of 76 = .ok (.getfield 56, 3)) ∧ (decode cX11_of 79 = .ok (.iload_n 1, 1)) ∧ (decode cX11_of 80 = .ok (.iaload, 1)) ∧ (decode cX11_of 81 = .ok (.ireturn, 1)) ∧ (decode cX11_of 82 = .ok (.aload_n 0, 1)) ∧ (decode cX11_of 83 = .ok (.getfield 59, 3)) ∧ (decode cX11_of 86 = .ok (.iload_n 1, 1)) := by decide +kernel
theorem dX11_of_75 : decode cX11_of 75 = .ok (.aload_n 0, 1) := eX11_of_16.1
theorem dX11_of_76 : decode cX11_of 76 = .ok (.getfield 56, 3) := eX11_of_16.2.1
theorem dX11_of_79 : decode cX11_of 79 = .ok (.iload_n 1, 1) := eX11_of_16.2.2.1
theorem dX11_of_80 : decode cX11_of 80 = .ok (.iaload, 1) := eX11_of_16.2.2.2.1
theorem dX11_of_81 : decode cX11_of 81 = .ok (.ireturn, 1) := eX11_of_16.2.2.2.2.1
theorem dX11_of_82 : decode cX11_of 82 = .ok (.aload_n 0, 1) := eX11_of_16.2.2.2.2.2.1
theorem dX11_of_83 : decode cX11_of 83 = .ok (.getfield 59, 3) := eX11_of_16.2.2.2.2.2.2.1
theorem dX11_of_86 : decode cX11_of 86 = .ok (.iload_n 1, 1) := eX11_of_16.2.2.2.2.2.2.2
theorem eX11_of_24 : (decode cX11_of 87 = .ok (.iaload, 1)) ∧ (decode cX11_of 88 = .ok (.ireturn, 1)) ∧ (decode cX11_of 89 = .ok (.aload_n 0, 1)) ∧ (decode cX11_of 90 = .ok (.getfield 62, 3)) ∧ (decode cX11_of 93 = .ok (.iload_n 1, 1)) ∧ (decode cX11_of 94 = .ok (.iaload, 1)) ∧ (decode cX11_of 95 = .ok (.ireturn, 1)) ∧ (decode cX11_of 96 = .ok (.aload_n 0, 1)) := by decide +kernel
theorem dX11_of_87 : decode cX11_of 87 = .ok (.iaload, 1) := eX11_of_24.1
theorem dX11_of_88 : decode cX11_of 88 = .ok (.ireturn, 1) := eX11_of_24.2.1
theorem dX11_of_89 : decode cX11_of 89 = .ok (.aload_n 0, 1) := eX11_of_24.2.2.1
theorem dX11_of_90 : decode cX11_of 90 = .ok (.getfield 62, 3) := eX11_of_24.2.2.2.1
theorem dX11_of_93 : decode cX11_of 93 = .ok (.iload_n 1, 1) := eX11_of_24.2.2.2.2.1
theorem dX11_of_94 : decode cX11_of 94 = .ok (.iaload, 1) := eX11_of_24.2.2.2.2.2.1
theorem dX11_of_95 : decode cX11_of 95 = .ok (.ireturn, 1) := eX11_of_24.2.2.2.2.2.2.1
theorem dX11_of_96 : decode cX11_of 96 = .ok (.aload_n 0, 1) := eX11_of_24.2.2.2.2.2.2.2
theorem eX11_of_32 : (decode cX11_of 97 = .ok (.iload_n 1, 1)) ∧ (decode cX11_of 98 = .ok (.invokevirtual 192, 3)) ∧ (decode cX11_of 101 = .ok (.ireturn, 1)) ∧ (decode cX11_of 102 = .ok (.aload_n 0, 1)) ∧ (decode cX11_of 103 = .ok (.iload_n 1, 1)) ∧ (decode cX11_of 104 = .ok (.invokevirtual 207, 3)) ∧ (decode cX11_of 107 = .ok (.ireturn, 1)) ∧ (decode cX11_of 108 = .ok (.aload_n 0, 1)) := by decide +kernel
theorem dX11_of_97 : decode cX11_of 97 = .ok (.iload_n 1, 1) := eX11_of_32.1
theorem dX11_of_98 : decode cX11_of 98 = .ok (.invokevirtual 192, 3) := eX11_of_32.2.1
theorem dX11_of_101 : decode cX11_of 101 = .ok (.ireturn, 1) := eX11_of_32.2.2.1
theorem dX11_of_102 : decode cX11_of 102 = .ok (.aload_n 0, 1) := eX11_of_32.2.2.2.1
theorem dX11_of_103 : decode cX11_of 103 = .ok (.iload_n 1, 1) := eX11_of_32.2.2.2.2.1
theorem dX11_of_104 : decode cX11_of 104 = .ok (.invokevirtual 207, 3) := eX11_of_32.2.2.2.2.2.1
theorem dX11_of_107 : decode cX11_of 107 = .ok (.ireturn, 1) := eX11_of_32.2.2.2.2.2.2.1
theorem dX11_of_108 : decode cX11_of 108 = .ok (.aload_n 0, 1) := eX11_of_32.2.2.2.2.2.2.2
theorem eX11_of_40 : (decode cX11_of 109 = .ok (.iload_n 1, 1)) ∧ (decode cX11_of 110 = .ok (.invokevirtual 210, 3)) ∧ (decode cX11_of 113 = .ok (.ireturn, 1)) ∧ (decode cX11_of 114 = .ok (.aload_n 0, 1)) ∧ (decode cX11_of 115 = .ok (.invokevirtual 220, 3)) ∧ (decode cX11_of 118 = .ok (.aload_n 0, 1)) ∧ (decode cX11_of 119 = .ok (.getfield 81, 3)) ∧ (decode cX11_of 122 = .ok (.iload_n 1, 1)) := by decide +kernel
theorem dX11_of_109 : decode cX11_of 109 = .ok (.iload_n 1, 1) := eX11_of_40.1
theorem dX11_of_110 : decode cX11_of 110 = .ok (.invokevirtual 210, 3) := eX11_of_40.2.1
theorem dX11_of_113 : decode cX11_of 113 = .ok (.ireturn, 1) := eX11_of_40.2.2.1
theorem dX11_of_114 : decode cX11_of 114 = .ok (.aload_n 0, 1) := eX11_of_40.2.2.2.1
theorem dX11_of_115 : decode cX11_of 115 = .ok (.invokevirtual 220, 3) := eX11_of_40.2.2.2.2.1
theorem dX11_of_118 : decode cX11_of 118 = .ok (.aload_n 0, 1) := eX11_of_40.2.2.2.2.2.1
theorem dX11_of_119 : decode cX11_of 119 = .ok (.getfield 81, 3) := eX11_of_40.2.2.2.2.2.2.1
theorem dX11_of_122 : decode cX11_of 122 = .ok (.iload_n 1, 1) := eX11_of_40.2.2.2.2.2.2.2
theorem eX11_of_48 : (decode cX11_of 123 = .ok (.iaload, 1)) ∧ (decode cX11_of 124 = .ok (.ireturn, 1)) ∧ (decode cX11_of 125 = .ok (.aload_n 0, 1)) ∧ (decode cX11_of 126 = .ok (.invokevirtual 220, 3)) ∧ (decode cX11_of 129 = .ok (.aload_n 0, 1)) ∧ (decode cX11_of 130 = .ok (.iload_n 1, 1)) ∧ (decode cX11_of 131 = .ok (.invokevirtual 217, 3)) ∧ (decode cX11_of 134 = .ok (.ireturn, 1)) := by decide +kernel
theorem dX11_of_123 : decode cX11_of 123 = .ok (.iaload, 1) := eX11_of_48.1
theorem dX11_of_124 : decode cX11_of 124 = .ok (.ireturn, 1) := eX11_of_48.2.1
theorem dX11_of_125 : decode cX11_of 125 = .ok (.aload_n 0, 1) := eX11_of_48.2.2.1
theorem dX11_of_126 : decode cX11_of 126 = .ok (.invokevirtual 220, 3) := eX11_of_48.2.2.2.1
theorem dX11_of_129 : decode cX11_of 129 = .ok (.aload_n 0, 1) := eX11_of_48.2.2.2.2.1
theorem dX11_of_130 : decode cX11_of 130 = .ok (.iload_n 1, 1) := eX11_of_48.2.2.2.2.2.1
theorem dX11_of_131 : decode cX11_of 131 = .ok (.invokevirtual 217, 3) := eX11_of_48.2.2.2.2.2.2.1
theorem dX11_of_134 : decode cX11_of 134 = .ok (.ireturn, 1) := eX11_of_48.2.2.2.2.2.2.2
theorem eX11_of_56 : (decode cX11_of 135 = .ok (.iconst (-1), 1)) ∧ (decode cX11_of 136 = .ok (.ireturn, 1)) := by decide +kernel
theorem dX11_of_135 : decode cX11_of 135 = .ok (.iconst (-1), 1) := eX11_of_56.1
theorem dX11_of_136 : decode cX11_of 136 = .ok (.ireturn, 1) := eX11_of_56.2
theorem eX11_part_0 : (decode cX11_part 0 = .ok (.aload_n 0, 1)) ∧ (decode cX11_part 1 = .ok (.iconst 0, 1)) ∧ (decode cX11_part 2 = .ok (.putfield 144, 3)) ∧ (decode cX11_part 5 = .ok (.iload_n 1, 1)) ∧ (decode cX11_part 6 = .ok (.i2l, 1)) ∧ (decode cX11_part 7 = .ok (.lconst 0, 1)) ∧ (decode cX11_part 8 = .ok (.ldc2_w 223, 3)) ∧ (decode cX11_part 11 = .ok (.invokestatic 153, 3)) := by decide +kernel
theorem dX11_part_0 : decode cX11_part 0 = .ok (.aload_n 0, 1) := eX11_part_0.1
theorem dX11_part_1 : decode cX11_part 1 = .ok (.iconst 0, 1) := eX11_part_0.2.1
theorem dX11_part_2 : decode cX11_part 2 = .ok (.putfield 144, 3) := eX11_part_0.2.2.1
theorem dX11_part_5 : decode cX11_part 5 = .ok (.iload_n 1, 1) := eX11_part_0.2.2.2.1
theorem dX11_part_6 : decode cX11_part 6 = .ok (.i2l, 1) := eX11_part_0.2.2.2.2.1
theorem dX11_part_7 : decode cX11_part 7 = .ok (.lconst 0, 1) := eX11_part_0.2.2.2.2.2.1
theorem dX11_part_8 : decode cX11_part 8 = .ok (.ldc2_w 223, 3) := eX11_part_0.2.2.2.2.2.2.1
theorem dX11_part_11 : decode cX11_part 11 = .ok (.invokestatic 153, 3) := eX11_part_0.2.2.2.2.2.2.2
theorem eX11_part_8 : (decode cX11_part 14 = .ok (.ifCond .eq 15, 3)) ∧ (decode cX11_part 17 = .ok (.iload_n 2, 1)) ∧ (decode cX11_part 18 = .ok (.i2l, 1)) ∧ (decode cX11_part 19 = .ok (.lconst 0, 1)) ∧ (decode cX11_part 20 = .ok (.ldc2_w 177, 3)) ∧ (decode cX11_part 23 = .ok (.invokestatic 153, 3)) ∧ (decode cX11_part 26 = .ok (.ifCond .ne 9, 3)) ∧ (decode cX11_part 29 = .ok (.aload_n 0, 1)) := by decide +kernel
theorem dX11_part_14 : decode cX11_part 14 = .ok (.ifCond .eq 15, 3) := eX11_part_8.1
theorem dX11_part_17 : decode cX11_part 17 = .ok (.iload_n 2, 1) := eX11_part_8.2.1
theorem dX11_part_18 : decode cX11_part 18 = .ok (.i2l, 1) := eX11_part_8.2.2.1
theorem dX11_part_19 : decode cX11_part 19 = .ok (.lconst 0, 1) := eX11_part_8.2.2.2.1
theorem dX11_part_20 : decode cX11_part 20 = .ok (.ldc2_w 177, 3) := eX11_part_8.2.2.2.2.1
theorem dX11_part_23 : decode cX11_part 23 = .ok (.invokestatic 153, 3) := eX11_part_8.2.2.2.2.2.1
theorem dX11_part_26 : decode cX11_part 26 = .ok (.ifCond .ne 9, 3) := eX11_part_8.2.2.2.2.2.2.1
theorem dX11_part_29 : decode cX11_part 29 = .ok (.aload_n 0, 1) := eX11_part_8.2.2.2.2.2.2.2
theorem eX11_part_16 : (decode cX11_part 30 = .ok (.iconst (-1), 1)) ∧ (decode cX11_part 31 = .ok (.invokevirtual 173, 3)) ∧ (decode cX11_part 34 = .ok (.ireturn, 1)) ∧ (decode cX11_part 35 = .ok (.aload_n 0, 1)) ∧ (decode cX11_part 36 = .ok (.getfield 71, 3)) ∧ (decode cX11_part 39 = .ok (.iload_n 1, 1)) ∧ (decode cX11_part 40 = .ok (.iload_n 2, 1)) ∧ (decode cX11_part 41 = .ok (.iastore, 1)) := by decide +kernel
theorem dX11_part_30 : decode cX11_part 30 = .ok (.iconst (-1), 1) := eX11_part_16.1
theorem dX11_part_31 : decode cX11_part 31 = .ok (.invokevirtual 173, 3) := eX11_part_16.2.1
theorem dX11_part_34 : decode cX11_part 34 = .ok (.ireturn, 1) := eX11_part_16.2.2.1
theorem dX11_part_35 : decode cX11_part 35 = .ok (.aload_n 0, 1) := eX11_part_16.2.2.2.1
theorem dX11_part_36 : decode cX11_part 36 = .ok (.getfield 71, 3) := eX11_part_16.2.2.2.2.1
theorem dX11_part_39 : decode cX11_part 39 = .ok (.iload_n 1, 1) := eX11_part_16.2.2.2.2.2.1
theorem dX11_part_40 : decode cX11_part 40 = .ok (.iload_n 2, 1) := eX11_part_16.2.2.2.2.2.2.1
theorem dX11_part_41 : decode cX11_part 41 = .ok (.iastore, 1) := eX11_part_16.2.2.2.2.2.2.2
theorem eX11_part_24 : (decode cX11_part 42 = .ok (.aload_n 0, 1)) ∧ (decode cX11_part 43 = .ok (.iconst 0, 1)) ∧ (decode cX11_part 44 = .ok (.invokevirtual 173, 3)) ∧ (decode cX11_part 47 = .ok (.ireturn, 1)) := by decide +kernel
theorem dX11_part_42 : decode cX11_part 42 = .ok (.aload_n 0, 1) := eX11_part_24.1
theorem dX11_part_43 : decode cX11_part 43 = .ok (.iconst 0, 1) := eX11_part_24.2.1
theorem dX11_part_44 : decode cX11_part 44 = .ok (.invokevirtual 173, 3) := eX11_part_24.2.2.1
theorem dX11_part_47 : decode cX11_part 47 = .ok (.ireturn, 1) := eX11_part_24.2.2.2
theorem eX11_grid_0 : (decode cX11_grid 0 = .ok (.aload_n 0, 1)) ∧ (decode cX11_grid 1 = .ok (.iconst 0, 1)) ∧ (decode cX11_grid 2 = .ok (.putfield 144, 3)) ∧ (decode cX11_grid 5 = .ok (.aload_n 0, 1)) ∧ (decode cX11_grid 6 = .ok (.invokevirtual 225, 3)) ∧ (decode cX11_grid 9 = .ok (.ireturn, 1)) := by decide +kernel
theorem dX11_grid_0 : decode cX11_grid 0 = .ok (.aload_n 0, 1) := eX11_grid_0.1
theorem dX11_grid_1 : decode cX11_grid 1 = .ok (.iconst 0, 1) := eX11_grid_0.2.1
theorem dX11_grid_2 : decode cX11_grid 2 = .ok (.putfield 144, 3) := eX11_grid_0.2.2.1
theorem dX11_grid_5 : decode cX11_grid 5 = .ok (.aload_n 0, 1) := eX11_grid_0.2.2.2.1
theorem dX11_grid_6 : decode cX11_grid 6 = .ok (.invokevirtual 225, 3) := eX11_grid_0.2.2.2.2.1
theorem dX11_grid_9 : decode cX11_grid 9 = .ok (.ireturn, 1) := eX11_grid_0.2.2.2.2.2
theorem eX11_hour_0 : (decode cX11_hour 0 = .ok (.aload_n 0, 1)) ∧ (decode cX11_hour 1 = .ok (.iconst 0, 1)) ∧ (decode cX11_hour 2 = .ok (.putfield 144, 3)) ∧ (decode cX11_hour 5 = .ok (.iload_n 1, 1)) ∧ (decode cX11_hour 6 = .ok (.invokestatic 183, 3)) ∧ (decode cX11_hour 9 = .ok (.ifCond .ne 9, 3)) ∧ (decode cX11_hour 12 = .ok (.aload_n 0, 1)) ∧ (decode cX11_hour 13 = .ok (.iconst (-1), 1)) := by decide +kernel
theorem dX11_hour_0 : decode cX11_hour 0 = .ok (.aload_n 0, 1) := eX11_hour_0.1
theorem dX11_hour_1 : decode cX11_hour 1 = .ok (.iconst 0, 1) := eX11_hour_0.2.1
theorem dX11_hour_2 : decode cX11_hour 2 = .ok (.putfield 144, 3) := eX11_hour_0.2.2.1
theorem dX11_hour_5 : decode cX11_hour 5 = .ok (.iload_n 1, 1) := eX11_hour_0.2.2.2.1
theorem dX11_hour_6 : decode cX11_hour 6 = .ok (.invokestatic 183, 3) := eX11_hour_0.2.2.2.2.1
theorem dX11_hour_9 : decode cX11_hour 9 = .ok (.ifCond .ne 9, 3) := eX11_hour_0.2.2.2.2.2.1
theorem dX11_hour_12 : decode cX11_hour 12 = .ok (.aload_n 0, 1) := eX11_hour_0.2.2.2.2.2.2.1
theorem dX11_hour_13 : decode cX11_hour 13 = .ok (.iconst (-1), 1) := eX11_hour_0.2.2.2.2.2.2.2
theorem eX11_hour_8 : (decode cX11_hour 14 = .ok (.invokevirtual 173, 3)) ∧ (decode cX11_hour 17 = .ok (.ireturn, 1)) ∧ (decode cX11_hour 18 = .ok (.aload_n 0, 1)) ∧ (decode cX11_hour 19 = .ok (.getfield 228, 3)) ∧ (decode cX11_hour 22 = .ok (.bipush 10, 2)) ∧ (decode cX11_hour 24 = .ok (.if_icmp .ne 10, 3)) ∧ (decode cX11_hour 27 = .ok (.aload_n 0, 1)) ∧ (decode cX11_hour 28 = .ok (.bipush (-5), 2)) := by decide +kernel
theorem dX11_hour_14 : decode cX11_hour 14 = .ok (.invokevirtual 173, 3) := eX11_hour_8.1
theorem dX11_hour_17 : decode cX11_hour 17 = .ok (.ireturn, 1) := eX11_hour_8.2.1
theorem dX11_hour_18 : decode cX11_hour 18 = .ok (.aload_n 0, 1) := eX11_hour_8.2.2.1
theorem dX11_hour_19 : decode cX11_hour 19 = .ok (.getfield 228, 3) := eX11_hour_8.2.2.2.1
theorem dX11_hour_22 : decode cX11_hour 22 = .ok (.bipush 10, 2) := eX11_hour_8.2.2.2.2.1
theorem dX11_hour_24 : decode cX11_hour 24 = .ok (.if_icmp .ne 10, 3) := eX11_hour_8.2.2.2.2.2.1
theorem dX11_hour_27 : decode cX11_hour 27 = .ok (.aload_n 0, 1) := eX11_hour_8.2.2.2.2.2.2.1
theorem dX11_hour_28 : decode cX11_hour 28 = .ok (.bipush (-5), 2) := eX11_hour_8.2.2.2.2.2.2.2
theorem eX11_hour_16 : (decode cX11_hour 30 = .ok (.invokevirtual 173, 3)) ∧ (decode cX11_hour 33 = .ok (.ireturn, 1)) ∧ (decode cX11_hour 34 = .ok (.aload_n 0, 1)) ∧ (decode cX11_hour 35 = .ok (.getfield 74, 3)) ∧ (decode cX11_hour 38 = .ok (.aload_n 0, 1)) ∧ (decode cX11_hour 39 = .ok (.getfield 228, 3)) ∧ (decode cX11_hour 42 = .ok (.iload_n 1, 1)) ∧ (decode cX11_hour 43 = .ok (.iastore, 1)) := by decide +kernel
theorem dX11_hour_30 : decode cX11_hour 30 = .ok (.invokevirtual 173, 3) := eX11_hour_16.1
theorem dX11_hour_33 : decode cX11_hour 33 = .ok (.ireturn, 1) := eX11_hour_16.2.1
theorem dX11_hour_34 : decode cX11_hour 34 = .ok (.aload_n 0, 1) := eX11_hour_16.2.2.1
theorem dX11_hour_35 : decode cX11_hour 35 = .ok (.getfield 74, 3) := eX11_hour_16.2.2.2.1
theorem dX11_hour_38 : decode cX11_hour 38 = .ok (.aload_n 0, 1) := eX11_hour_16.2.2.2.2.1
theorem dX11_hour_39 : decode cX11_hour 39 = .ok (.getfield 228, 3) := eX11_hour_16.2.2.2.2.2.1
theorem dX11_hour_42 : decode cX11_hour 42 = .ok (.iload_n 1, 1) := eX11_hour_16.2.2.2.2.2.2.1
theorem dX11_hour_43 : decode cX11_hour 43 = .ok (.iastore, 1) := eX11_hour_16.2.2.2.2.2.2.2
theorem eX11_hour_24 : (decode cX11_hour 44 = .ok (.aload_n 0, 1)) ∧ (decode cX11_hour 45 = .ok (.dup, 1)) ∧ (decode cX11_hour 46 = .ok (.getfield 228, 3)) ∧ (decode cX11_hour 49 = .ok (.iconst 1, 1)) ∧ (decode cX11_hour 50 = .ok (.iadd, 1)) ∧ (decode cX11_hour 51 = .ok (.putfield 228, 3)) ∧ (decode cX11_hour 54 = .ok (.aload_n 0, 1)) ∧ (decode cX11_hour 55 = .ok (.aload_n 0, 1)) := by decide +kernel
theorem dX11_hour_44 : decode cX11_hour 44 = .ok (.aload_n 0, 1) := eX11_hour_24.1
theorem dX11_hour_45 : decode cX11_hour 45 = .ok (.dup, 1) := eX11_hour_24.2.1
theorem dX11_hour_46 : decode cX11_hour 46 = .ok (.getfield 228, 3) := eX11_hour_24.2.2.1
theorem dX11_hour_49 : decode cX11_hour 49 = .ok (.iconst 1, 1) := eX11_hour_24.2.2.2.1
theorem dX11_hour_50 : decode cX11_hour 50 = .ok (.iadd, 1) := eX11_hour_24.2.2.2.2.1
theorem dX11_hour_51 : decode cX11_hour 51 = .ok (.putfield 228, 3) := eX11_hour_24.2.2.2.2.2.1
theorem dX11_hour_54 : decode cX11_hour 54 = .ok (.aload_n 0, 1) := eX11_hour_24.2.2.2.2.2.2.1
theorem dX11_hour_55 : decode cX11_hour 55 = .ok (.aload_n 0, 1) := eX11_hour_24.2.2.2.2.2.2.2
theorem eX11_hour_32 : (decode cX11_hour 56 = .ok (.getfield 228, 3)) ∧ (decode cX11_hour 59 = .ok (.invokevirtual 173, 3)) ∧ (decode cX11_hour 62 = .ok (.ireturn, 1)) := by decide +kernel
theorem dX11_hour_56 : decode cX11_hour 56 = .ok (.getfield 228, 3) := eX11_hour_32.1
theorem dX11_hour_59 : decode cX11_hour 59 = .ok (.invokevirtual 173, 3) := eX11_hour_32.2.1
theorem dX11_hour_62 : decode cX11_hour 62 = .ok (.ireturn, 1) := eX11_hour_32.2.2
theorem eX11_tryChange_0 : (decode cX11_tryChange 0 = .ok (.aload_n 0, 1)) ∧ (decode cX11_tryChange 1 = .ok (.aload_n 0, 1)) ∧ (decode cX11_tryChange 2 = .ok (.getfield 53, 3)) ∧ (decode cX11_tryChange 5 = .ok (.iload_n 1, 1)) ∧ (decode cX11_tryChange 6 = .ok (.iaload, 1)) ∧ (decode cX11_tryChange 7 = .ok (.iload_n 2, 1)) ∧ (decode cX11_tryChange 8 = .ok (.iload_n 3, 1)) ∧ (decode cX11_tryChange 9 = .ok (.aload_n 0, 1)) := by decide +kernel
theorem dX11_tryChange_0 : decode cX11_tryChange 0 = .ok (.aload_n 0, 1) := eX11_tryChange_0.1
theorem dX11_tryChange_1 : decode cX11_tryChange 1 = .ok (.aload_n 0, 1) := eX11_tryChange_0.2.1
theorem dX11_tryChange_2 : decode cX11_tryChange 2 = .ok (.getfield 53, 3) := eX11_tryChange_0.2.2.1
theorem dX11_tryChange_5 : decode cX11_tryChange 5 = .ok (.iload_n 1, 1) := eX11_tryChange_0.2.2.2.1
theorem dX11_tryChange_6 : decode cX11_tryChange 6 = .ok (.iaload, 1) := eX11_tryChange_0.2.2.2.2.1
theorem dX11_tryChange_7 : decode cX11_tryChange 7 = .ok (.iload_n 2, 1) := eX11_tryChange_0.2.2.2.2.2.1
theorem dX11_tryChange_8 : decode cX11_tryChange 8 = .ok (.iload_n 3, 1) := eX11_tryChange_0.2.2.2.2.2.2.1
theorem dX11_tryChange_9 : decode cX11_tryChange 9 = .ok (.aload_n 0, 1) := eX11_tryChange_0.2.2.2.2.2.2.2
theorem eX11_tryChange_8 : (decode cX11_tryChange 10 = .ok (.getfield 62, 3)) ∧ (decode cX11_tryChange 13 = .ok (.iload_n 1, 1)) ∧ (decode cX11_tryChange 14 = .ok (.iaload, 1)) ∧ (decode cX11_tryChange 15 = .ok (.iload_n 1, 1)) ∧ (decode cX11_tryChange 16 = .ok (.invokevirtual 200, 3)) ∧ (decode cX11_tryChange 19 = .ok (.ifCond .le 4, 3)) ∧ (decode cX11_tryChange 22 = .ok (.return_, 1)) ∧ (decode cX11_tryChange 23 = .ok (.aload_n 0, 1)) := by decide +kernel
theorem dX11_tryChange_10 : decode cX11_tryChange 10 = .ok (.getfield 62, 3) := eX11_tryChange_8.1
theorem dX11_tryChange_13 : decode cX11_tryChange 13 = .ok (.iload_n 1, 1) := eX11_tryChange_8.2.1
theorem dX11_tryChange_14 : decode cX11_tryChange 14 = .ok (.iaload, 1) := eX11_tryChange_8.2.2.1
theorem dX11_tryChange_15 : decode cX11_tryChange 15 = .ok (.iload_n 1, 1) := eX11_tryChange_8.2.2.2.1
theorem dX11_tryChange_16 : decode cX11_tryChange 16 = .ok (.invokevirtual 200, 3) := eX11_tryChange_8.2.2.2.2.1
theorem dX11_tryChange_19 : decode cX11_tryChange 19 = .ok (.ifCond .le 4, 3) := eX11_tryChange_8.2.2.2.2.2.1
theorem dX11_tryChange_22 : decode cX11_tryChange 22 = .ok (.return_, 1) := eX11_tryChange_8.2.2.2.2.2.2.1
theorem dX11_tryChange_23 : decode cX11_tryChange 23 = .ok (.aload_n 0, 1) := eX11_tryChange_8.2.2.2.2.2.2.2
theorem eX11_tryChange_16 : (decode cX11_tryChange 24 = .ok (.getfield 56, 3)) ∧ (decode cX11_tryChange 27 = .ok (.iload_n 1, 1)) ∧ (decode cX11_tryChange 28 = .ok (.iaload, 1)) ∧ (decode cX11_tryChange 29 = .ok (.istore 4, 2)) ∧ (decode cX11_tryChange 31 = .ok (.aload_n 0, 1)) ∧ (decode cX11_tryChange 32 = .ok (.getfield 59, 3)) ∧ (decode cX11_tryChange 35 = .ok (.iload_n 1, 1)) ∧ (decode cX11_tryChange 36 = .ok (.iaload, 1)) := by decide +kernel
theorem dX11_tryChange_24 : decode cX11_tryChange 24 = .ok (.getfield 56, 3) := eX11_tryChange_16.1
theorem dX11_tryChange_27 : decode cX11_tryChange 27 = .ok (.iload_n 1, 1) := eX11_tryChange_16.2.1
theorem dX11_tryChange_28 : decode cX11_tryChange 28 = .ok (.iaload, 1) := eX11_tryChange_16.2.2.1
theorem dX11_tryChange_29 : decode cX11_tryChange 29 = .ok (.istore 4, 2) := eX11_tryChange_16.2.2.2.1
theorem dX11_tryChange_31 : decode cX11_tryChange 31 = .ok (.aload_n 0, 1) := eX11_tryChange_16.2.2.2.2.1
theorem dX11_tryChange_32 : decode cX11_tryChange 32 = .ok (.getfield 59, 3) := eX11_tryChange_16.2.2.2.2.2.1
theorem dX11_tryChange_35 : decode cX11_tryChange 35 = .ok (.iload_n 1, 1) := eX11_tryChange_16.2.2.2.2.2.2.1
theorem dX11_tryChange_36 : decode cX11_tryChange 36 = .ok (.iaload, 1) := eX11_tryChange_16.2.2.2.2.2.2.2
theorem eX11_tryChange_24 : (decode cX11_tryChange 37 = .ok (.istore 5, 2)) ∧ (decode cX11_tryChange 39 = .ok (.aload_n 0, 1)) ∧ (decode cX11_tryChange 40 = .ok (.getfield 56, 3)) ∧ (decode cX11_tryChange 43 = .ok (.iload_n 1, 1)) ∧ (decode cX11_tryChange 44 = .ok (.iload_n 2, 1)) ∧ (decode cX11_tryChange 45 = .ok (.iastore, 1)) ∧ (decode cX11_tryChange 46 = .ok (.aload_n 0, 1)) ∧ (decode cX11_tryChange 47 = .ok (.getfield 59, 3)) := by decide +kernel
theorem dX11_tryChange_37 : decode cX11_tryChange 37 = .ok (.istore 5, 2) := eX11_tryChange_24.1
theorem dX11_tryChange_39 : decode cX11_tryChange 39 = .ok (.aload_n 0, 1) := eX11_tryChange_24.2.1
theorem dX11_tryChange_40 : decode cX11_tryChange 40 = .ok (.getfield 56, 3) := eX11_tryChange_24.2.2.1
theorem dX11_tryChange_43 : decode cX11_tryChange 43 = .ok (.iload_n 1, 1) := eX11_tryChange_24.2.2.2.1
theorem dX11_tryChange_44 : decode cX11_tryChange 44 = .ok (.iload_n 2, 1) := eX11_tryChange_24.2.2.2.2.1
theorem dX11_tryChange_45 : decode cX11_tryChange 45 = .ok (.iastore, 1) := eX11_tryChange_24.2.2.2.2.2.1
theorem dX11_tryChange_46 : decode cX11_tryChange 46 = .ok (.aload_n 0, 1) := eX11_tryChange_24.2.2.2.2.2.2.1
theorem dX11_tryChange_47 : decode cX11_tryChange 47 = .ok (.getfield 59, 3) := eX11_tryChange_24.2.2.2.2.2.2.2
theorem eX11_tryChange_32 : (decode cX11_tryChange 50 = .ok (.iload_n 1, 1)) ∧ (decode cX11_tryChange 51 = .ok (.iload_n 3, 1)) ∧ (decode cX11_tryChange 52 = .ok (.iastore, 1)) ∧ (decode cX11_tryChange 53 = .ok (.aload_n 0, 1)) ∧ (decode cX11_tryChange 54 = .ok (.invokevirtual 225, 3)) ∧ (decode cX11_tryChange 57 = .ok (.istore 6, 2)) ∧ (decode cX11_tryChange 59 = .ok (.iload 6, 2)) ∧ (decode cX11_tryChange 61 = .ok (.aload_n 0, 1)) := by decide +kernel
theorem dX11_tryChange_50 : decode cX11_tryChange 50 = .ok (.iload_n 1, 1) := eX11_tryChange_32.1
theorem dX11_tryChange_51 : decode cX11_tryChange 51 = .ok (.iload_n 3, 1) := eX11_tryChange_32.2.1
theorem dX11_tryChange_52 : decode cX11_tryChange 52 = .ok (.iastore, 1) := eX11_tryChange_32.2.2.1
theorem dX11_tryChange_53 : decode cX11_tryChange 53 = .ok (.aload_n 0, 1) := eX11_tryChange_32.2.2.2.1
theorem dX11_tryChange_54 : decode cX11_tryChange 54 = .ok (.invokevirtual 225, 3) := eX11_tryChange_32.2.2.2.2.1
theorem dX11_tryChange_57 : decode cX11_tryChange 57 = .ok (.istore 6, 2) := eX11_tryChange_32.2.2.2.2.2.1
theorem dX11_tryChange_59 : decode cX11_tryChange 59 = .ok (.iload 6, 2) := eX11_tryChange_32.2.2.2.2.2.2.1
theorem dX11_tryChange_61 : decode cX11_tryChange 61 = .ok (.aload_n 0, 1) := eX11_tryChange_32.2.2.2.2.2.2.2
theorem eX11_tryChange_40 : (decode cX11_tryChange 62 = .ok (.getfield 231, 3)) ∧ (decode cX11_tryChange 65 = .ok (.if_icmp .le 24, 3)) ∧ (decode cX11_tryChange 68 = .ok (.aload_n 0, 1)) ∧ (decode cX11_tryChange 69 = .ok (.iload 6, 2)) ∧ (decode cX11_tryChange 71 = .ok (.putfield 231, 3)) ∧ (decode cX11_tryChange 74 = .ok (.aload_n 0, 1)) ∧ (decode cX11_tryChange 75 = .ok (.iload_n 1, 1)) ∧ (decode cX11_tryChange 76 = .ok (.putfield 234, 3)) := by decide +kernel
theorem dX11_tryChange_62 : decode cX11_tryChange 62 = .ok (.getfield 231, 3) := eX11_tryChange_40.1
theorem dX11_tryChange_65 : decode cX11_tryChange 65 = .ok (.if_icmp .le 24, 3) := eX11_tryChange_40.2.1
theorem dX11_tryChange_68 : decode cX11_tryChange 68 = .ok (.aload_n 0, 1) := eX11_tryChange_40.2.2.1
theorem dX11_tryChange_69 : decode cX11_tryChange 69 = .ok (.iload 6, 2) := eX11_tryChange_40.2.2.2.1
theorem dX11_tryChange_71 : decode cX11_tryChange 71 = .ok (.putfield 231, 3) := eX11_tryChange_40.2.2.2.2.1
theorem dX11_tryChange_74 : decode cX11_tryChange 74 = .ok (.aload_n 0, 1) := eX11_tryChange_40.2.2.2.2.2.1
theorem dX11_tryChange_75 : decode cX11_tryChange 75 = .ok (.iload_n 1, 1) := eX11_tryChange_40.2.2.2.2.2.2.1
theorem dX11_tryChange_76 : decode cX11_tryChange 76 = .ok (.putfield 234, 3) := eX11_tryChange_40.2.2.2.2.2.2.2
theorem eX11_tryChange_48 : (decode cX11_tryChange 79 = .ok (.aload_n 0, 1)) ∧ (decode cX11_tryChange 80 = .ok (.iload_n 2, 1)) ∧ (decode cX11_tryChange 81 = .ok (.putfield 237, 3)) ∧ (decode cX11_tryChange 84 = .ok (.aload_n 0, 1)) ∧ (decode cX11_tryChange 85 = .ok (.iload_n 3, 1)) ∧ (decode cX11_tryChange 86 = .ok (.putfield 240, 3)) ∧ (decode cX11_tryChange 89 = .ok (.aload_n 0, 1)) ∧ (decode cX11_tryChange 90 = .ok (.getfield 56, 3)) := by decide +kernel
theorem dX11_tryChange_79 : decode cX11_tryChange 79 = .ok (.aload_n 0, 1) := eX11_tryChange_48.1
theorem dX11_tryChange_80 : decode cX11_tryChange 80 = .ok (.iload_n 2, 1) := eX11_tryChange_48.2.1
theorem dX11_tryChange_81 : decode cX11_tryChange 81 = .ok (.putfield 237, 3) := eX11_tryChange_48.2.2.1
theorem dX11_tryChange_84 : decode cX11_tryChange 84 = .ok (.aload_n 0, 1) := eX11_tryChange_48.2.2.2.1
theorem dX11_tryChange_85 : decode cX11_tryChange 85 = .ok (.iload_n 3, 1) := eX11_tryChange_48.2.2.2.2.1
theorem dX11_tryChange_86 : decode cX11_tryChange 86 = .ok (.putfield 240, 3) := eX11_tryChange_48.2.2.2.2.2.1
theorem dX11_tryChange_89 : decode cX11_tryChange 89 = .ok (.aload_n 0, 1) := eX11_tryChange_48.2.2.2.2.2.2.1
theorem dX11_tryChange_90 : decode cX11_tryChange 90 = .ok (.getfield 56, 3) := eX11_tryChange_48.2.2.2.2.2.2.2
theorem eX11_tryChange_56 : (decode cX11_tryChange 93 = .ok (.iload_n 1, 1)) ∧ (decode cX11_tryChange 94 = .ok (.iload 4, 2)) ∧ (decode cX11_tryChange 96 = .ok (.iastore, 1)) ∧ (decode cX11_tryChange 97 = .ok (.aload_n 0, 1)) ∧ (decode cX11_tryChange 98 = .ok (.getfield 59, 3)) ∧ (decode cX11_tryChange 101 = .ok (.iload_n 1, 1)) ∧ (decode cX11_tryChange 102 = .ok (.iload 5, 2)) ∧ (decode cX11_tryChange 104 = .ok (.iastore, 1)) := by decide +kernel
theorem dX11_tryChange_93 : decode cX11_tryChange 93 = .ok (.iload_n 1, 1) := eX11_tryChange_56.1
theorem dX11_tryChange_94 : decode cX11_tryChange 94 = .ok (.iload 4, 2) := eX11_tryChange_56.2.1
theorem dX11_tryChange_96 : decode cX11_tryChange 96 = .ok (.iastore, 1) := eX11_tryChange_56.2.2.1
theorem dX11_tryChange_97 : decode cX11_tryChange 97 = .ok (.aload_n 0, 1) := eX11_tryChange_56.2.2.2.1
theorem dX11_tryChange_98 : decode cX11_tryChange 98 = .ok (.getfield 59, 3) := eX11_tryChange_56.2.2.2.2.1
theorem dX11_tryChange_101 : decode cX11_tryChange 101 = .ok (.iload_n 1, 1) := eX11_tryChange_56.2.2.2.2.2.1
theorem dX11_tryChange_102 : decode cX11_tryChange 102 = .ok (.iload 5, 2) := eX11_tryChange_56.2.2.2.2.2.2.1
theorem dX11_tryChange_104 : decode cX11_tryChange 104 = .ok (.iastore, 1) := eX11_tryChange_56.2.2.2.2.2.2.2
theorem dX11_tryChange_105 : decode cX11_tryChange 105 = .ok (.return_, 1) := by decide +kernel
theorem eX11_better_0 : (decode cX11_better 0 = .ok (.aload_n 0, 1)) ∧ (decode cX11_better 1 = .ok (.iconst 0, 1)) ∧ (decode cX11_better 2 = .ok (.putfield 144, 3)) ∧ (decode cX11_better 5 = .ok (.iconst 0, 1)) ∧ (decode cX11_better 6 = .ok (.istore_n 1, 1)) ∧ (decode cX11_better 7 = .ok (.iconst 1, 1)) ∧ (decode cX11_better 8 = .ok (.istore_n 2, 1)) ∧ (decode cX11_better 9 = .ok (.iload_n 2, 1)) := by decide +kernel
theorem dX11_better_0 : decode cX11_better 0 = .ok (.aload_n 0, 1) := eX11_better_0.1
theorem dX11_better_1 : decode cX11_better 1 = .ok (.iconst 0, 1) := eX11_better_0.2.1
theorem dX11_better_2 : decode cX11_better 2 = .ok (.putfield 144, 3) := eX11_better_0.2.2.1
theorem dX11_better_5 : decode cX11_better 5 = .ok (.iconst 0, 1) := eX11_better_0.2.2.2.1
theorem dX11_better_6 : decode cX11_better 6 = .ok (.istore_n 1, 1) := eX11_better_0.2.2.2.2.1
theorem dX11_better_7 : decode cX11_better 7 = .ok (.iconst 1, 1) := eX11_better_0.2.2.2.2.2.1
theorem dX11_better_8 : decode cX11_better 8 = .ok (.istore_n 2, 1) := eX11_better_0.2.2.2.2.2.2.1
theorem dX11_better_9 : decode cX11_better 9 = .ok (.iload_n 2, 1) := eX11_better_0.2.2.2.2.2.2.2
theorem eX11_better_8 : (decode cX11_better 10 = .ok (.ifCond .eq 159, 3)) ∧ (decode cX11_better 13 = .ok (.iload_n 1, 1)) ∧ (decode cX11_better 14 = .ok (.bipush 40, 2)) ∧ (decode cX11_better 16 = .ok (.if_icmp .ge 153, 3)) ∧ (decode cX11_better 19 = .ok (.aload_n 0, 1)) ∧ (decode cX11_better 20 = .ok (.aload_n 0, 1)) ∧ (decode cX11_better 21 = .ok (.invokevirtual 225, 3)) ∧ (decode cX11_better 24 = .ok (.putfield 231, 3)) := by decide +kernel
theorem dX11_better_10 : decode cX11_better 10 = .ok (.ifCond .eq 159, 3) := eX11_better_8.1
theorem dX11_better_13 : decode cX11_better 13 = .ok (.iload_n 1, 1) := eX11_better_8.2.1
theorem dX11_better_14 : decode cX11_better 14 = .ok (.bipush 40, 2) := eX11_better_8.2.2.1
theorem dX11_better_16 : decode cX11_better 16 = .ok (.if_icmp .ge 153, 3) := eX11_better_8.2.2.2.1
theorem dX11_better_19 : decode cX11_better 19 = .ok (.aload_n 0, 1) := eX11_better_8.2.2.2.2.1
theorem dX11_better_20 : decode cX11_better 20 = .ok (.aload_n 0, 1) := eX11_better_8.2.2.2.2.2.1
theorem dX11_better_21 : decode cX11_better 21 = .ok (.invokevirtual 225, 3) := eX11_better_8.2.2.2.2.2.2.1
theorem dX11_better_24 : decode cX11_better 24 = .ok (.putfield 231, 3) := eX11_better_8.2.2.2.2.2.2.2
theorem eX11_better_16 : (decode cX11_better 27 = .ok (.aload_n 0, 1)) ∧ (decode cX11_better 28 = .ok (.iconst (-1), 1)) ∧ (decode cX11_better 29 = .ok (.putfield 234, 3)) ∧ (decode cX11_better 32 = .ok (.iconst 0, 1)) ∧ (decode cX11_better 33 = .ok (.istore_n 3, 1)) ∧ (decode cX11_better 34 = .ok (.iload_n 3, 1)) ∧ (decode cX11_better 35 = .ok (.aload_n 0, 1)) ∧ (decode cX11_better 36 = .ok (.getfield 160, 3)) := by decide +kernel
theorem dX11_better_27 : decode cX11_better 27 = .ok (.aload_n 0, 1) := eX11_better_16.1
theorem dX11_better_28 : decode cX11_better 28 = .ok (.iconst (-1), 1) := eX11_better_16.2.1
theorem dX11_better_29 : decode cX11_better 29 = .ok (.putfield 234, 3) := eX11_better_16.2.2.1
theorem dX11_better_32 : decode cX11_better 32 = .ok (.iconst 0, 1) := eX11_better_16.2.2.2.1
theorem dX11_better_33 : decode cX11_better 33 = .ok (.istore_n 3, 1) := eX11_better_16.2.2.2.2.1
theorem dX11_better_34 : decode cX11_better 34 = .ok (.iload_n 3, 1) := eX11_better_16.2.2.2.2.2.1
theorem dX11_better_35 : decode cX11_better 35 = .ok (.aload_n 0, 1) := eX11_better_16.2.2.2.2.2.2.1
theorem dX11_better_36 : decode cX11_better 36 = .ok (.getfield 160, 3) := eX11_better_16.2.2.2.2.2.2.2
theorem eX11_better_24 : (decode cX11_better 39 = .ok (.if_icmp .ge 81, 3)) ∧ (decode cX11_better 42 = .ok (.iconst 0, 1)) ∧ (decode cX11_better 43 = .ok (.istore 4, 2)) ∧ (decode cX11_better 45 = .ok (.iload 4, 2)) ∧ (decode cX11_better 47 = .ok (.aload_n 0, 1)) ∧ (decode cX11_better 48 = .ok (.getfield 150, 3)) ∧ (decode cX11_better 51 = .ok (.if_icmp .ge 63, 3)) ∧ (decode cX11_better 54 = .ok (.aload_n 0, 1)) := by decide +kernel
theorem dX11_better_39 : decode cX11_better 39 = .ok (.if_icmp .ge 81, 3) := eX11_better_24.1
theorem dX11_better_42 : decode cX11_better 42 = .ok (.iconst 0, 1) := eX11_better_24.2.1
theorem dX11_better_43 : decode cX11_better 43 = .ok (.istore 4, 2) := eX11_better_24.2.2.1
theorem dX11_better_45 : decode cX11_better 45 = .ok (.iload 4, 2) := eX11_better_24.2.2.2.1
theorem dX11_better_47 : decode cX11_better 47 = .ok (.aload_n 0, 1) := eX11_better_24.2.2.2.2.1
theorem dX11_better_48 : decode cX11_better 48 = .ok (.getfield 150, 3) := eX11_better_24.2.2.2.2.2.1
theorem dX11_better_51 : decode cX11_better 51 = .ok (.if_icmp .ge 63, 3) := eX11_better_24.2.2.2.2.2.2.1
theorem dX11_better_54 : decode cX11_better 54 = .ok (.aload_n 0, 1) := eX11_better_24.2.2.2.2.2.2.2
theorem eX11_better_32 : (decode cX11_better 55 = .ok (.getfield 49, 3)) ∧ (decode cX11_better 58 = .ok (.iload_n 3, 1)) ∧ (decode cX11_better 59 = .ok (.baload, 1)) ∧ (decode cX11_better 60 = .ok (.ifCond .eq 54, 3)) ∧ (decode cX11_better 63 = .ok (.iconst 0, 1)) ∧ (decode cX11_better 64 = .ok (.istore 5, 2)) ∧ (decode cX11_better 66 = .ok (.iload 5, 2)) ∧ (decode cX11_better 68 = .ok (.aload_n 0, 1)) := by decide +kernel
theorem dX11_better_55 : decode cX11_better 55 = .ok (.getfield 49, 3) := eX11_better_32.1
theorem dX11_better_58 : decode cX11_better 58 = .ok (.iload_n 3, 1) := eX11_better_32.2.1
theorem dX11_better_59 : decode cX11_better 59 = .ok (.baload, 1) := eX11_better_32.2.2.1
theorem dX11_better_60 : decode cX11_better 60 = .ok (.ifCond .eq 54, 3) := eX11_better_32.2.2.2.1
theorem dX11_better_63 : decode cX11_better 63 = .ok (.iconst 0, 1) := eX11_better_32.2.2.2.2.1
theorem dX11_better_64 : decode cX11_better 64 = .ok (.istore 5, 2) := eX11_better_32.2.2.2.2.2.1
theorem dX11_better_66 : decode cX11_better 66 = .ok (.iload 5, 2) := eX11_better_32.2.2.2.2.2.2.1
theorem dX11_better_68 : decode cX11_better 68 = .ok (.aload_n 0, 1) := eX11_better_32.2.2.2.2.2.2.2
theorem eX11_better_40 : (decode cX11_better 69 = .ok (.getfield 228, 3)) ∧ (decode cX11_better 72 = .ok (.if_icmp .ge 23, 3)) ∧ (decode cX11_better 75 = .ok (.aload_n 0, 1)) ∧ (decode cX11_better 76 = .ok (.iload_n 3, 1)) ∧ (decode cX11_better 77 = .ok (.iload 4, 2)) ∧ (decode cX11_better 79 = .ok (.aload_n 0, 1)) ∧ (decode cX11_better 80 = .ok (.getfield 74, 3)) ∧ (decode cX11_better 83 = .ok (.iload 5, 2)) := by decide +kernel
theorem dX11_better_69 : decode cX11_better 69 = .ok (.getfield 228, 3) := eX11_better_40.1
theorem dX11_better_72 : decode cX11_better 72 = .ok (.if_icmp .ge 23, 3) := eX11_better_40.2.1
theorem dX11_better_75 : decode cX11_better 75 = .ok (.aload_n 0, 1) := eX11_better_40.2.2.1
theorem dX11_better_76 : decode cX11_better 76 = .ok (.iload_n 3, 1) := eX11_better_40.2.2.2.1
theorem dX11_better_77 : decode cX11_better 77 = .ok (.iload 4, 2) := eX11_better_40.2.2.2.2.1
theorem dX11_better_79 : decode cX11_better 79 = .ok (.aload_n 0, 1) := eX11_better_40.2.2.2.2.2.1
theorem dX11_better_80 : decode cX11_better 80 = .ok (.getfield 74, 3) := eX11_better_40.2.2.2.2.2.2.1
theorem dX11_better_83 : decode cX11_better 83 = .ok (.iload 5, 2) := eX11_better_40.2.2.2.2.2.2.2
theorem eX11_better_48 : (decode cX11_better 85 = .ok (.iaload, 1)) ∧ (decode cX11_better 86 = .ok (.invokevirtual 243, 3)) ∧ (decode cX11_better 89 = .ok (.iinc 5 1, 3)) ∧ (decode cX11_better 92 = .ok (.goto (-26), 3)) ∧ (decode cX11_better 95 = .ok (.aload_n 0, 1)) ∧ (decode cX11_better 96 = .ok (.iload_n 3, 1)) ∧ (decode cX11_better 97 = .ok (.iload 4, 2)) ∧ (decode cX11_better 99 = .ok (.aload_n 0, 1)) := by decide +kernel
theorem dX11_better_85 : decode cX11_better 85 = .ok (.iaload, 1) := eX11_better_48.1
theorem dX11_better_86 : decode cX11_better 86 = .ok (.invokevirtual 243, 3) := eX11_better_48.2.1
theorem dX11_better_89 : decode cX11_better 89 = .ok (.iinc 5 1, 3) := eX11_better_48.2.2.1
theorem dX11_better_92 : decode cX11_better 92 = .ok (.goto (-26), 3) := eX11_better_48.2.2.2.1
theorem dX11_better_95 : decode cX11_better 95 = .ok (.aload_n 0, 1) := eX11_better_48.2.2.2.2.1
theorem dX11_better_96 : decode cX11_better 96 = .ok (.iload_n 3, 1) := eX11_better_48.2.2.2.2.2.1
theorem dX11_better_97 : decode cX11_better 97 = .ok (.iload 4, 2) := eX11_better_48.2.2.2.2.2.2.1
theorem dX11_better_99 : decode cX11_better 99 = .ok (.aload_n 0, 1) := eX11_better_48.2.2.2.2.2.2.2
theorem eX11_better_56 : (decode cX11_better 100 = .ok (.getfield 59, 3)) ∧ (decode cX11_better 103 = .ok (.iload_n 3, 1)) ∧ (decode cX11_better 104 = .ok (.iaload, 1)) ∧ (decode cX11_better 105 = .ok (.invokevirtual 243, 3)) ∧ (decode cX11_better 108 = .ok (.iinc 4 1, 3)) ∧ (decode cX11_better 111 = .ok (.goto (-66), 3)) ∧ (decode cX11_better 114 = .ok (.iinc 3 1, 3)) ∧ (decode cX11_better 117 = .ok (.goto (-83), 3)) := by decide +kernel
theorem dX11_better_100 : decode cX11_better 100 = .ok (.getfield 59, 3) := eX11_better_56.1
theorem dX11_better_103 : decode cX11_better 103 = .ok (.iload_n 3, 1) := eX11_better_56.2.1
theorem dX11_better_104 : decode cX11_better 104 = .ok (.iaload, 1) := eX11_better_56.2.2.1
theorem dX11_better_105 : decode cX11_better 105 = .ok (.invokevirtual 243, 3) := eX11_better_56.2.2.2.1
theorem dX11_better_108 : decode cX11_better 108 = .ok (.iinc 4 1, 3) := eX11_better_56.2.2.2.2.1
theorem dX11_better_111 : decode cX11_better 111 = .ok (.goto (-66), 3) := eX11_better_56.2.2.2.2.2.1
theorem dX11_better_114 : decode cX11_better 114 = .ok (.iinc 3 1, 3) := eX11_better_56.2.2.2.2.2.2.1
theorem dX11_better_117 : decode cX11_better 117 = .ok (.goto (-83), 3) := eX11_better_56.2.2.2.2.2.2.2
theorem eX11_better_64 : (decode cX11_better 120 = .ok (.aload_n 0, 1)) ∧ (decode cX11_better 121 = .ok (.getfield 234, 3)) ∧ (decode cX11_better 124 = .ok (.ifCond .lt 7, 3)) ∧ (decode cX11_better 127 = .ok (.iconst 1, 1)) ∧ (decode cX11_better 128 = .ok (.goto 4, 3)) ∧ (decode cX11_better 131 = .ok (.iconst 0, 1)) ∧ (decode cX11_better 132 = .ok (.istore_n 2, 1)) ∧ (decode cX11_better 133 = .ok (.iload_n 2, 1)) := by decide +kernel
theorem dX11_better_120 : decode cX11_better 120 = .ok (.aload_n 0, 1) := eX11_better_64.1
theorem dX11_better_121 : decode cX11_better 121 = .ok (.getfield 234, 3) := eX11_better_64.2.1
theorem dX11_better_124 : decode cX11_better 124 = .ok (.ifCond .lt 7, 3) := eX11_better_64.2.2.1
theorem dX11_better_127 : decode cX11_better 127 = .ok (.iconst 1, 1) := eX11_better_64.2.2.2.1
theorem dX11_better_128 : decode cX11_better 128 = .ok (.goto 4, 3) := eX11_better_64.2.2.2.2.1
theorem dX11_better_131 : decode cX11_better 131 = .ok (.iconst 0, 1) := eX11_better_64.2.2.2.2.2.1
theorem dX11_better_132 : decode cX11_better 132 = .ok (.istore_n 2, 1) := eX11_better_64.2.2.2.2.2.2.1
theorem dX11_better_133 : decode cX11_better 133 = .ok (.iload_n 2, 1) := eX11_better_64.2.2.2.2.2.2.2
theorem eX11_better_72 : (decode cX11_better 134 = .ok (.ifCond .eq (-125), 3)) ∧ (decode cX11_better 137 = .ok (.aload_n 0, 1)) ∧ (decode cX11_better 138 = .ok (.getfield 56, 3)) ∧ (decode cX11_better 141 = .ok (.aload_n 0, 1)) ∧ (decode cX11_better 142 = .ok (.getfield 234, 3)) ∧ (decode cX11_better 145 = .ok (.aload_n 0, 1)) ∧ (decode cX11_better 146 = .ok (.getfield 237, 3)) ∧ (decode cX11_better 149 = .ok (.iastore, 1)) := by decide +kernel
theorem dX11_better_134 : decode cX11_better 134 = .ok (.ifCond .eq (-125), 3) := eX11_better_72.1
theorem dX11_better_137 : decode cX11_better 137 = .ok (.aload_n 0, 1) := eX11_better_72.2.1
theorem dX11_better_138 : decode cX11_better 138 = .ok (.getfield 56, 3) := eX11_better_72.2.2.1
theorem dX11_better_141 : decode cX11_better 141 = .ok (.aload_n 0, 1) := eX11_better_72.2.2.2.1
theorem dX11_better_142 : decode cX11_better 142 = .ok (.getfield 234, 3) := eX11_better_72.2.2.2.2.1
theorem dX11_better_145 : decode cX11_better 145 = .ok (.aload_n 0, 1) := eX11_better_72.2.2.2.2.2.1
theorem dX11_better_146 : decode cX11_better 146 = .ok (.getfield 237, 3) := eX11_better_72.2.2.2.2.2.2.1
theorem dX11_better_149 : decode cX11_better 149 = .ok (.iastore, 1) := eX11_better_72.2.2.2.2.2.2.2
theorem eX11_better_80 : (decode cX11_better 150 = .ok (.aload_n 0, 1)) ∧ (decode cX11_better 151 = .ok (.getfield 59, 3)) ∧ (decode cX11_better 154 = .ok (.aload_n 0, 1)) ∧ (decode cX11_better 155 = .ok (.getfield 234, 3)) ∧ (decode cX11_better 158 = .ok (.aload_n 0, 1)) ∧ (decode cX11_better 159 = .ok (.getfield 240, 3)) ∧ (decode cX11_better 162 = .ok (.iastore, 1)) ∧ (decode cX11_better 163 = .ok (.iinc 1 1, 3)) := by decide +kernel
theorem dX11_better_150 : decode cX11_better 150 = .ok (.aload_n 0, 1) := eX11_better_80.1
theorem dX11_better_151 : decode cX11_better 151 = .ok (.getfield 59, 3) := eX11_better_80.2.1
theorem dX11_better_154 : decode cX11_better 154 = .ok (.aload_n 0, 1) := eX11_better_80.2.2.1
theorem dX11_better_155 : decode cX11_better 155 = .ok (.getfield 234, 3) := eX11_better_80.2.2.2.1
theorem dX11_better_158 : decode cX11_better 158 = .ok (.aload_n 0, 1) := eX11_better_80.2.2.2.2.1
theorem dX11_better_159 : decode cX11_better 159 = .ok (.getfield 240, 3) := eX11_better_80.2.2.2.2.2.1
theorem dX11_better_162 : decode cX11_better 162 = .ok (.iastore, 1) := eX11_better_80.2.2.2.2.2.2.1
theorem dX11_better_163 : decode cX11_better 163 = .ok (.iinc 1 1, 3) := eX11_better_80.2.2.2.2.2.2.2
theorem eX11_better_88 : (decode cX11_better 166 = .ok (.goto (-157), 3)) ∧ (decode cX11_better 169 = .ok (.aload_n 0, 1)) ∧ (decode cX11_better 170 = .ok (.iconst 0, 1)) ∧ (decode cX11_better 171 = .ok (.putfield 228, 3)) ∧ (decode cX11_better 174 = .ok (.iload_n 1, 1)) ∧ (decode cX11_better 175 = .ok (.ireturn, 1)) := by decide +kernel
theorem dX11_better_166 : decode cX11_better 166 = .ok (.goto (-157), 3) := eX11_better_88.1
theorem dX11_better_169 : decode cX11_better 169 = .ok (.aload_n 0, 1) := eX11_better_88.2.1
theorem dX11_better_170 : decode cX11_better 170 = .ok (.iconst 0, 1) := eX11_better_88.2.2.1
theorem dX11_better_171 : decode cX11_better 171 = .ok (.putfield 228, 3) := eX11_better_88.2.2.2.1
theorem dX11_better_174 : decode cX11_better 174 = .ok (.iload_n 1, 1) := eX11_better_88.2.2.2.2.1
theorem dX11_better_175 : decode cX11_better 175 = .ok (.ireturn, 1) := eX11_better_88.2.2.2.2.2
theorem eX11_come_0 : (decode cX11_come 0 = .ok (.aload_n 0, 1)) ∧ (decode cX11_come 1 = .ok (.iconst 0, 1)) ∧ (decode cX11_come 2 = .ok (.putfield 144, 3)) ∧ (decode cX11_come 5 = .ok (.iload_n 2, 1)) ∧ (decode cX11_come 6 = .ok (.i2l, 1)) ∧ (decode cX11_come 7 = .ok (.ldc2_w 247, 3)) ∧ (decode cX11_come 10 = .ok (.ldc2_w 249, 3)) ∧ (decode cX11_come 13 = .ok (.invokestatic 153, 3)) := by decide +kernel
theorem dX11_come_0 : decode cX11_come 0 = .ok (.aload_n 0, 1) := eX11_come_0.1
theorem dX11_come_1 : decode cX11_come 1 = .ok (.iconst 0, 1) := eX11_come_0.2.1
theorem dX11_come_2 : decode cX11_come 2 = .ok (.putfield 144, 3) := eX11_come_0.2.2.1
theorem dX11_come_5 : decode cX11_come 5 = .ok (.iload_n 2, 1) := eX11_come_0.2.2.2.1
theorem dX11_come_6 : decode cX11_come 6 = .ok (.i2l, 1) := eX11_come_0.2.2.2.2.1
theorem dX11_come_7 : decode cX11_come 7 = .ok (.ldc2_w 247, 3) := eX11_come_0.2.2.2.2.2.1
theorem dX11_come_10 : decode cX11_come 10 = .ok (.ldc2_w 249, 3) := eX11_come_0.2.2.2.2.2.2.1
theorem dX11_come_13 : decode cX11_come 13 = .ok (.invokestatic 153, 3) := eX11_come_0.2.2.2.2.2.2.2
theorem eX11_come_8 : (decode cX11_come 16 = .ok (.ifCond .eq 15, 3)) ∧ (decode cX11_come 19 = .ok (.iload_n 3, 1)) ∧ (decode cX11_come 20 = .ok (.i2l, 1)) ∧ (decode cX11_come 21 = .ok (.lconst 0, 1)) ∧ (decode cX11_come 22 = .ok (.ldc2_w 181, 3)) ∧ (decode cX11_come 25 = .ok (.invokestatic 153, 3)) ∧ (decode cX11_come 28 = .ok (.ifCond .ne 9, 3)) ∧ (decode cX11_come 31 = .ok (.aload_n 0, 1)) := by decide +kernel
theorem dX11_come_16 : decode cX11_come 16 = .ok (.ifCond .eq 15, 3) := eX11_come_8.1
theorem dX11_come_19 : decode cX11_come 19 = .ok (.iload_n 3, 1) := eX11_come_8.2.1
theorem dX11_come_20 : decode cX11_come 20 = .ok (.i2l, 1) := eX11_come_8.2.2.1
theorem dX11_come_21 : decode cX11_come 21 = .ok (.lconst 0, 1) := eX11_come_8.2.2.2.1
theorem dX11_come_22 : decode cX11_come 22 = .ok (.ldc2_w 181, 3) := eX11_come_8.2.2.2.2.1
theorem dX11_come_25 : decode cX11_come 25 = .ok (.invokestatic 153, 3) := eX11_come_8.2.2.2.2.2.1
theorem dX11_come_28 : decode cX11_come 28 = .ok (.ifCond .ne 9, 3) := eX11_come_8.2.2.2.2.2.2.1
theorem dX11_come_31 : decode cX11_come 31 = .ok (.aload_n 0, 1) := eX11_come_8.2.2.2.2.2.2.2
theorem eX11_come_16 : (decode cX11_come 32 = .ok (.iconst (-1), 1)) ∧ (decode cX11_come 33 = .ok (.invokevirtual 173, 3)) ∧ (decode cX11_come 36 = .ok (.ireturn, 1)) ∧ (decode cX11_come 37 = .ok (.aload_n 0, 1)) ∧ (decode cX11_come 38 = .ok (.iload_n 1, 1)) ∧ (decode cX11_come 39 = .ok (.invokevirtual 204, 3)) ∧ (decode cX11_come 42 = .ok (.ifCond .ne 10, 3)) ∧ (decode cX11_come 45 = .ok (.aload_n 0, 1)) := by decide +kernel
theorem dX11_come_32 : decode cX11_come 32 = .ok (.iconst (-1), 1) := eX11_come_16.1
theorem dX11_come_33 : decode cX11_come 33 = .ok (.invokevirtual 173, 3) := eX11_come_16.2.1
theorem dX11_come_36 : decode cX11_come 36 = .ok (.ireturn, 1) := eX11_come_16.2.2.1
theorem dX11_come_37 : decode cX11_come 37 = .ok (.aload_n 0, 1) := eX11_come_16.2.2.2.1
theorem dX11_come_38 : decode cX11_come 38 = .ok (.iload_n 1, 1) := eX11_come_16.2.2.2.2.1
theorem dX11_come_39 : decode cX11_come 39 = .ok (.invokevirtual 204, 3) := eX11_come_16.2.2.2.2.2.1
theorem dX11_come_42 : decode cX11_come 42 = .ok (.ifCond .ne 10, 3) := eX11_come_16.2.2.2.2.2.2.1
theorem dX11_come_45 : decode cX11_come 45 = .ok (.aload_n 0, 1) := eX11_come_16.2.2.2.2.2.2.2
theorem eX11_come_24 : (decode cX11_come 46 = .ok (.bipush (-2), 2)) ∧ (decode cX11_come 48 = .ok (.invokevirtual 173, 3)) ∧ (decode cX11_come 51 = .ok (.ireturn, 1)) ∧ (decode cX11_come 52 = .ok (.aload_n 0, 1)) ∧ (decode cX11_come 53 = .ok (.getfield 68, 3)) ∧ (decode cX11_come 56 = .ok (.bipush 51, 2)) ∧ (decode cX11_come 58 = .ok (.iload_n 1, 1)) ∧ (decode cX11_come 59 = .ok (.imul, 1)) := by decide +kernel
theorem dX11_come_46 : decode cX11_come 46 = .ok (.bipush (-2), 2) := eX11_come_24.1
theorem dX11_come_48 : decode cX11_come 48 = .ok (.invokevirtual 173, 3) := eX11_come_24.2.1
theorem dX11_come_51 : decode cX11_come 51 = .ok (.ireturn, 1) := eX11_come_24.2.2.1
theorem dX11_come_52 : decode cX11_come 52 = .ok (.aload_n 0, 1) := eX11_come_24.2.2.2.1
theorem dX11_come_53 : decode cX11_come 53 = .ok (.getfield 68, 3) := eX11_come_24.2.2.2.2.1
theorem dX11_come_56 : decode cX11_come 56 = .ok (.bipush 51, 2) := eX11_come_24.2.2.2.2.2.1
theorem dX11_come_58 : decode cX11_come 58 = .ok (.iload_n 1, 1) := eX11_come_24.2.2.2.2.2.2.1
theorem dX11_come_59 : decode cX11_come 59 = .ok (.imul, 1) := eX11_come_24.2.2.2.2.2.2.2
theorem eX11_come_32 : (decode cX11_come 60 = .ok (.iload_n 2, 1)) ∧ (decode cX11_come 61 = .ok (.iadd, 1)) ∧ (decode cX11_come 62 = .ok (.bipush 40, 2)) ∧ (decode cX11_come 64 = .ok (.iadd, 1)) ∧ (decode cX11_come 65 = .ok (.iload_n 3, 1)) ∧ (decode cX11_come 66 = .ok (.iastore, 1)) ∧ (decode cX11_come 67 = .ok (.aload_n 0, 1)) ∧ (decode cX11_come 68 = .ok (.iconst 0, 1)) := by decide +kernel
theorem dX11_come_60 : decode cX11_come 60 = .ok (.iload_n 2, 1) := eX11_come_32.1
theorem dX11_come_61 : decode cX11_come 61 = .ok (.iadd, 1) := eX11_come_32.2.1
theorem dX11_come_62 : decode cX11_come 62 = .ok (.bipush 40, 2) := eX11_come_32.2.2.1
theorem dX11_come_64 : decode cX11_come 64 = .ok (.iadd, 1) := eX11_come_32.2.2.2.1
theorem dX11_come_65 : decode cX11_come 65 = .ok (.iload_n 3, 1) := eX11_come_32.2.2.2.2.1
theorem dX11_come_66 : decode cX11_come 66 = .ok (.iastore, 1) := eX11_come_32.2.2.2.2.2.1
theorem dX11_come_67 : decode cX11_come 67 = .ok (.aload_n 0, 1) := eX11_come_32.2.2.2.2.2.2.1
theorem dX11_come_68 : decode cX11_come 68 = .ok (.iconst 0, 1) := eX11_come_32.2.2.2.2.2.2.2
theorem eX11_come_40 : (decode cX11_come 69 = .ok (.invokevirtual 173, 3)) ∧ (decode cX11_come 72 = .ok (.ireturn, 1)) := by decide +kernel
theorem dX11_come_69 : decode cX11_come 69 = .ok (.invokevirtual 173, 3) := eX11_come_40.1
theorem dX11_come_72 : decode cX11_come 72 = .ok (.ireturn, 1) := eX11_come_40.2
theorem eX11_doors_0 : (decode cX11_doors 0 = .ok (.aload_n 0, 1)) ∧ (decode cX11_doors 1 = .ok (.iconst 0, 1)) ∧ (decode cX11_doors 2 = .ok (.putfield 144, 3)) ∧ (decode cX11_doors 5 = .ok (.iload_n 1, 1)) ∧ (decode cX11_doors 6 = .ok (.i2l, 1)) ∧ (decode cX11_doors 7 = .ok (.lconst 1, 1)) ∧ (decode cX11_doors 8 = .ok (.ldc2_w 251, 3)) ∧ (decode cX11_doors 11 = .ok (.invokestatic 153, 3)) := by decide +kernel
theorem dX11_doors_0 : decode cX11_doors 0 = .ok (.aload_n 0, 1) := eX11_doors_0.1
theorem dX11_doors_1 : decode cX11_doors 1 = .ok (.iconst 0, 1) := eX11_doors_0.2.1
theorem dX11_doors_2 : decode cX11_doors 2 = .ok (.putfield 144, 3) := eX11_doors_0.2.2.1
theorem dX11_doors_5 : decode cX11_doors 5 = .ok (.iload_n 1, 1) := eX11_doors_0.2.2.2.1
theorem dX11_doors_6 : decode cX11_doors 6 = .ok (.i2l, 1) := eX11_doors_0.2.2.2.2.1
theorem dX11_doors_7 : decode cX11_doors 7 = .ok (.lconst 1, 1) := eX11_doors_0.2.2.2.2.2.1
theorem dX11_doors_8 : decode cX11_doors 8 = .ok (.ldc2_w 251, 3) := eX11_doors_0.2.2.2.2.2.2.1
theorem dX11_doors_11 : decode cX11_doors 11 = .ok (.invokestatic 153, 3) := eX11_doors_0.2.2.2.2.2.2.2
theorem eX11_doors_8 : (decode cX11_doors 14 = .ok (.ifCond .ne 9, 3)) ∧ (decode cX11_doors 17 = .ok (.aload_n 0, 1)) ∧ (decode cX11_doors 18 = .ok (.iconst (-1), 1)) ∧ (decode cX11_doors 19 = .ok (.invokevirtual 173, 3)) ∧ (decode cX11_doors 22 = .ok (.ireturn, 1)) ∧ (decode cX11_doors 23 = .ok (.aload_n 0, 1)) ∧ (decode cX11_doors 24 = .ok (.getfield 77, 3)) ∧ (decode cX11_doors 27 = .ok (.istore_n 2, 1)) := by decide +kernel
theorem dX11_doors_14 : decode cX11_doors 14 = .ok (.ifCond .ne 9, 3) := eX11_doors_8.1
theorem dX11_doors_17 : decode cX11_doors 17 = .ok (.aload_n 0, 1) := eX11_doors_8.2.1
theorem dX11_doors_18 : decode cX11_doors 18 = .ok (.iconst (-1), 1) := eX11_doors_8.2.2.1
theorem dX11_doors_19 : decode cX11_doors 19 = .ok (.invokevirtual 173, 3) := eX11_doors_8.2.2.2.1
theorem dX11_doors_22 : decode cX11_doors 22 = .ok (.ireturn, 1) := eX11_doors_8.2.2.2.2.1
theorem dX11_doors_23 : decode cX11_doors 23 = .ok (.aload_n 0, 1) := eX11_doors_8.2.2.2.2.2.1
theorem dX11_doors_24 : decode cX11_doors 24 = .ok (.getfield 77, 3) := eX11_doors_8.2.2.2.2.2.2.1
theorem dX11_doors_27 : decode cX11_doors 27 = .ok (.istore_n 2, 1) := eX11_doors_8.2.2.2.2.2.2.2
theorem eX11_doors_16 : (decode cX11_doors 28 = .ok (.aload_n 0, 1)) ∧ (decode cX11_doors 29 = .ok (.iload_n 1, 1)) ∧ (decode cX11_doors 30 = .ok (.putfield 77, 3)) ∧ (decode cX11_doors 33 = .ok (.aload_n 0, 1)) ∧ (decode cX11_doors 34 = .ok (.iload_n 2, 1)) ∧ (decode cX11_doors 35 = .ok (.invokevirtual 173, 3)) ∧ (decode cX11_doors 38 = .ok (.ireturn, 1)) := by decide +kernel
theorem dX11_doors_28 : decode cX11_doors 28 = .ok (.aload_n 0, 1) := eX11_doors_16.1
theorem dX11_doors_29 : decode cX11_doors 29 = .ok (.iload_n 1, 1) := eX11_doors_16.2.1
theorem dX11_doors_30 : decode cX11_doors 30 = .ok (.putfield 77, 3) := eX11_doors_16.2.2.1
theorem dX11_doors_33 : decode cX11_doors 33 = .ok (.aload_n 0, 1) := eX11_doors_16.2.2.2.1
theorem dX11_doors_34 : decode cX11_doors 34 = .ok (.iload_n 2, 1) := eX11_doors_16.2.2.2.2.1
theorem dX11_doors_35 : decode cX11_doors 35 = .ok (.invokevirtual 173, 3) := eX11_doors_16.2.2.2.2.2.1
theorem dX11_doors_38 : decode cX11_doors 38 = .ok (.ireturn, 1) := eX11_doors_16.2.2.2.2.2.2
theorem eX11_delay_0 : (decode cX11_delay 0 = .ok (.aload_n 0, 1)) ∧ (decode cX11_delay 1 = .ok (.iconst 0, 1)) ∧ (decode cX11_delay 2 = .ok (.putfield 144, 3)) ∧ (decode cX11_delay 5 = .ok (.iload_n 2, 1)) ∧ (decode cX11_delay 6 = .ok (.i2l, 1)) ∧ (decode cX11_delay 7 = .ok (.lconst 0, 1)) ∧ (decode cX11_delay 8 = .ok (.ldc2_w 177, 3)) ∧ (decode cX11_delay 11 = .ok (.invokestatic 153, 3)) := by decide +kernel
theorem dX11_delay_0 : decode cX11_delay 0 = .ok (.aload_n 0, 1) := eX11_delay_0.1
theorem dX11_delay_1 : decode cX11_delay 1 = .ok (.iconst 0, 1) := eX11_delay_0.2.1
theorem dX11_delay_2 : decode cX11_delay 2 = .ok (.putfield 144, 3) := eX11_delay_0.2.2.1
theorem dX11_delay_5 : decode cX11_delay 5 = .ok (.iload_n 2, 1) := eX11_delay_0.2.2.2.1
theorem dX11_delay_6 : decode cX11_delay 6 = .ok (.i2l, 1) := eX11_delay_0.2.2.2.2.1
theorem dX11_delay_7 : decode cX11_delay 7 = .ok (.lconst 0, 1) := eX11_delay_0.2.2.2.2.2.1
theorem dX11_delay_8 : decode cX11_delay 8 = .ok (.ldc2_w 177, 3) := eX11_delay_0.2.2.2.2.2.2.1
theorem dX11_delay_11 : decode cX11_delay 11 = .ok (.invokestatic 153, 3) := eX11_delay_0.2.2.2.2.2.2.2
theorem eX11_delay_8 : (decode cX11_delay 14 = .ok (.ifCond .ne 9, 3)) ∧ (decode cX11_delay 17 = .ok (.aload_n 0, 1)) ∧ (decode cX11_delay 18 = .ok (.iconst (-1), 1)) ∧ (decode cX11_delay 19 = .ok (.invokevirtual 173, 3)) ∧ (decode cX11_delay 22 = .ok (.ireturn, 1)) ∧ (decode cX11_delay 23 = .ok (.aload_n 0, 1)) ∧ (decode cX11_delay 24 = .ok (.iload_n 1, 1)) ∧ (decode cX11_delay 25 = .ok (.invokevirtual 204, 3)) := by decide +kernel
theorem dX11_delay_14 : decode cX11_delay 14 = .ok (.ifCond .ne 9, 3) := eX11_delay_8.1
theorem dX11_delay_17 : decode cX11_delay 17 = .ok (.aload_n 0, 1) := eX11_delay_8.2.1
theorem dX11_delay_18 : decode cX11_delay 18 = .ok (.iconst (-1), 1) := eX11_delay_8.2.2.1
theorem dX11_delay_19 : decode cX11_delay 19 = .ok (.invokevirtual 173, 3) := eX11_delay_8.2.2.2.1
theorem dX11_delay_22 : decode cX11_delay 22 = .ok (.ireturn, 1) := eX11_delay_8.2.2.2.2.1
theorem dX11_delay_23 : decode cX11_delay 23 = .ok (.aload_n 0, 1) := eX11_delay_8.2.2.2.2.2.1
theorem dX11_delay_24 : decode cX11_delay 24 = .ok (.iload_n 1, 1) := eX11_delay_8.2.2.2.2.2.2.1
theorem dX11_delay_25 : decode cX11_delay 25 = .ok (.invokevirtual 204, 3) := eX11_delay_8.2.2.2.2.2.2.2
theorem eX11_delay_16 : (decode cX11_delay 28 = .ok (.ifCond .ne 10, 3)) ∧ (decode cX11_delay 31 = .ok (.aload_n 0, 1)) ∧ (decode cX11_delay 32 = .ok (.bipush (-2), 2)) ∧ (decode cX11_delay 34 = .ok (.invokevirtual 173, 3)) ∧ (decode cX11_delay 37 = .ok (.ireturn, 1)) ∧ (decode cX11_delay 38 = .ok (.aload_n 0, 1)) ∧ (decode cX11_delay 39 = .ok (.getfield 65, 3)) ∧ (decode cX11_delay 42 = .ok (.iload_n 1, 1)) := by decide +kernel
theorem dX11_delay_28 : decode cX11_delay 28 = .ok (.ifCond .ne 10, 3) := eX11_delay_16.1
theorem dX11_delay_31 : decode cX11_delay 31 = .ok (.aload_n 0, 1) := eX11_delay_16.2.1
theorem dX11_delay_32 : decode cX11_delay 32 = .ok (.bipush (-2), 2) := eX11_delay_16.2.2.1
theorem dX11_delay_34 : decode cX11_delay 34 = .ok (.invokevirtual 173, 3) := eX11_delay_16.2.2.2.1
theorem dX11_delay_37 : decode cX11_delay 37 = .ok (.ireturn, 1) := eX11_delay_16.2.2.2.2.1
theorem dX11_delay_38 : decode cX11_delay 38 = .ok (.aload_n 0, 1) := eX11_delay_16.2.2.2.2.2.1
theorem dX11_delay_39 : decode cX11_delay 39 = .ok (.getfield 65, 3) := eX11_delay_16.2.2.2.2.2.2.1
theorem dX11_delay_42 : decode cX11_delay 42 = .ok (.iload_n 1, 1) := eX11_delay_16.2.2.2.2.2.2.2
theorem eX11_delay_24 : (decode cX11_delay 43 = .ok (.iload_n 2, 1)) ∧ (decode cX11_delay 44 = .ok (.iastore, 1)) ∧ (decode cX11_delay 45 = .ok (.aload_n 0, 1)) ∧ (decode cX11_delay 46 = .ok (.iconst 0, 1)) ∧ (decode cX11_delay 47 = .ok (.invokevirtual 173, 3)) ∧ (decode cX11_delay 50 = .ok (.ireturn, 1)) := by decide +kernel
theorem dX11_delay_43 : decode cX11_delay 43 = .ok (.iload_n 2, 1) := eX11_delay_24.1
theorem dX11_delay_44 : decode cX11_delay 44 = .ok (.iastore, 1) := eX11_delay_24.2.1
theorem dX11_delay_45 : decode cX11_delay 45 = .ok (.aload_n 0, 1) := eX11_delay_24.2.2.1
theorem dX11_delay_46 : decode cX11_delay 46 = .ok (.iconst 0, 1) := eX11_delay_24.2.2.2.1
theorem dX11_delay_47 : decode cX11_delay 47 = .ok (.invokevirtual 173, 3) := eX11_delay_24.2.2.2.2.1
theorem dX11_delay_50 : decode cX11_delay 50 = .ok (.ireturn, 1) := eX11_delay_24.2.2.2.2.2
theorem eX11_queue_0 : (decode cX11_queue 0 = .ok (.aload_n 0, 1)) ∧ (decode cX11_queue 1 = .ok (.iconst 0, 1)) ∧ (decode cX11_queue 2 = .ok (.putfield 144, 3)) ∧ (decode cX11_queue 5 = .ok (.aload_n 0, 1)) ∧ (decode cX11_queue 6 = .ok (.iload_n 1, 1)) ∧ (decode cX11_queue 7 = .ok (.invokevirtual 204, 3)) ∧ (decode cX11_queue 10 = .ok (.ifCond .eq 29, 3)) ∧ (decode cX11_queue 13 = .ok (.iload_n 2, 1)) := by decide +kernel
theorem dX11_queue_0 : decode cX11_queue 0 = .ok (.aload_n 0, 1) := eX11_queue_0.1
theorem dX11_queue_1 : decode cX11_queue 1 = .ok (.iconst 0, 1) := eX11_queue_0.2.1
theorem dX11_queue_2 : decode cX11_queue 2 = .ok (.putfield 144, 3) := eX11_queue_0.2.2.1
theorem dX11_queue_5 : decode cX11_queue 5 = .ok (.aload_n 0, 1) := eX11_queue_0.2.2.2.1
theorem dX11_queue_6 : decode cX11_queue 6 = .ok (.iload_n 1, 1) := eX11_queue_0.2.2.2.2.1
theorem dX11_queue_7 : decode cX11_queue 7 = .ok (.invokevirtual 204, 3) := eX11_queue_0.2.2.2.2.2.1
theorem dX11_queue_10 : decode cX11_queue 10 = .ok (.ifCond .eq 29, 3) := eX11_queue_0.2.2.2.2.2.2.1
theorem dX11_queue_13 : decode cX11_queue 13 = .ok (.iload_n 2, 1) := eX11_queue_0.2.2.2.2.2.2.2
theorem eX11_queue_8 : (decode cX11_queue 14 = .ok (.i2l, 1)) ∧ (decode cX11_queue 15 = .ok (.ldc2_w 247, 3)) ∧ (decode cX11_queue 18 = .ok (.ldc2_w 253, 3)) ∧ (decode cX11_queue 21 = .ok (.invokestatic 153, 3)) ∧ (decode cX11_queue 24 = .ok (.ifCond .eq 15, 3)) ∧ (decode cX11_queue 27 = .ok (.iload_n 3, 1)) ∧ (decode cX11_queue 28 = .ok (.i2l, 1)) ∧ (decode cX11_queue 29 = .ok (.lconst 0, 1)) := by decide +kernel
theorem dX11_queue_14 : decode cX11_queue 14 = .ok (.i2l, 1) := eX11_queue_8.1
theorem dX11_queue_15 : decode cX11_queue 15 = .ok (.ldc2_w 247, 3) := eX11_queue_8.2.1
theorem dX11_queue_18 : decode cX11_queue 18 = .ok (.ldc2_w 253, 3) := eX11_queue_8.2.2.1
theorem dX11_queue_21 : decode cX11_queue 21 = .ok (.invokestatic 153, 3) := eX11_queue_8.2.2.2.1
theorem dX11_queue_24 : decode cX11_queue 24 = .ok (.ifCond .eq 15, 3) := eX11_queue_8.2.2.2.2.1
theorem dX11_queue_27 : decode cX11_queue 27 = .ok (.iload_n 3, 1) := eX11_queue_8.2.2.2.2.2.1
theorem dX11_queue_28 : decode cX11_queue 28 = .ok (.i2l, 1) := eX11_queue_8.2.2.2.2.2.2.1
theorem dX11_queue_29 : decode cX11_queue 29 = .ok (.lconst 0, 1) := eX11_queue_8.2.2.2.2.2.2.2
theorem eX11_queue_16 : (decode cX11_queue 30 = .ok (.ldc2_w 195, 3)) ∧ (decode cX11_queue 33 = .ok (.invokestatic 153, 3)) ∧ (decode cX11_queue 36 = .ok (.ifCond .ne 5, 3)) ∧ (decode cX11_queue 39 = .ok (.iconst (-1), 1)) ∧ (decode cX11_queue 40 = .ok (.ireturn, 1)) ∧ (decode cX11_queue 41 = .ok (.aload_n 0, 1)) ∧ (decode cX11_queue 42 = .ok (.invokevirtual 220, 3)) ∧ (decode cX11_queue 45 = .ok (.aload_n 0, 1)) := by decide +kernel
theorem dX11_queue_30 : decode cX11_queue 30 = .ok (.ldc2_w 195, 3) := eX11_queue_16.1
theorem dX11_queue_33 : decode cX11_queue 33 = .ok (.invokestatic 153, 3) := eX11_queue_16.2.1
theorem dX11_queue_36 : decode cX11_queue 36 = .ok (.ifCond .ne 5, 3) := eX11_queue_16.2.2.1
theorem dX11_queue_39 : decode cX11_queue 39 = .ok (.iconst (-1), 1) := eX11_queue_16.2.2.2.1
theorem dX11_queue_40 : decode cX11_queue 40 = .ok (.ireturn, 1) := eX11_queue_16.2.2.2.2.1
theorem dX11_queue_41 : decode cX11_queue 41 = .ok (.aload_n 0, 1) := eX11_queue_16.2.2.2.2.2.1
theorem dX11_queue_42 : decode cX11_queue 42 = .ok (.invokevirtual 220, 3) := eX11_queue_16.2.2.2.2.2.2.1
theorem dX11_queue_45 : decode cX11_queue 45 = .ok (.aload_n 0, 1) := eX11_queue_16.2.2.2.2.2.2.2
theorem eX11_queue_24 : (decode cX11_queue 46 = .ok (.getfield 81, 3)) ∧ (decode cX11_queue 49 = .ok (.iload_n 1, 1)) ∧ (decode cX11_queue 50 = .ok (.iaload, 1)) ∧ (decode cX11_queue 51 = .ok (.aload_n 0, 1)) ∧ (decode cX11_queue 52 = .ok (.getfield 59, 3)) ∧ (decode cX11_queue 55 = .ok (.iload_n 1, 1)) ∧ (decode cX11_queue 56 = .ok (.iaload, 1)) ∧ (decode cX11_queue 57 = .ok (.isub, 1)) := by decide +kernel
theorem dX11_queue_46 : decode cX11_queue 46 = .ok (.getfield 81, 3) := eX11_queue_24.1
theorem dX11_queue_49 : decode cX11_queue 49 = .ok (.iload_n 1, 1) := eX11_queue_24.2.1
theorem dX11_queue_50 : decode cX11_queue 50 = .ok (.iaload, 1) := eX11_queue_24.2.2.1
theorem dX11_queue_51 : decode cX11_queue 51 = .ok (.aload_n 0, 1) := eX11_queue_24.2.2.2.1
theorem dX11_queue_52 : decode cX11_queue 52 = .ok (.getfield 59, 3) := eX11_queue_24.2.2.2.2.1
theorem dX11_queue_55 : decode cX11_queue 55 = .ok (.iload_n 1, 1) := eX11_queue_24.2.2.2.2.2.1
theorem dX11_queue_56 : decode cX11_queue 56 = .ok (.iaload, 1) := eX11_queue_24.2.2.2.2.2.2.1
theorem dX11_queue_57 : decode cX11_queue 57 = .ok (.isub, 1) := eX11_queue_24.2.2.2.2.2.2.2
theorem eX11_queue_32 : (decode cX11_queue 58 = .ok (.istore 4, 2)) ∧ (decode cX11_queue 60 = .ok (.iconst 0, 1)) ∧ (decode cX11_queue 61 = .ok (.istore 5, 2)) ∧ (decode cX11_queue 63 = .ok (.iconst 0, 1)) ∧ (decode cX11_queue 64 = .ok (.istore 6, 2)) ∧ (decode cX11_queue 66 = .ok (.iconst 0, 1)) ∧ (decode cX11_queue 67 = .ok (.istore 7, 2)) ∧ (decode cX11_queue 69 = .ok (.bipush (-40), 2)) := by decide +kernel
theorem dX11_queue_58 : decode cX11_queue 58 = .ok (.istore 4, 2) := eX11_queue_32.1
theorem dX11_queue_60 : decode cX11_queue 60 = .ok (.iconst 0, 1) := eX11_queue_32.2.1
theorem dX11_queue_61 : decode cX11_queue 61 = .ok (.istore 5, 2) := eX11_queue_32.2.2.1
theorem dX11_queue_63 : decode cX11_queue 63 = .ok (.iconst 0, 1) := eX11_queue_32.2.2.2.1
theorem dX11_queue_64 : decode cX11_queue 64 = .ok (.istore 6, 2) := eX11_queue_32.2.2.2.2.1
theorem dX11_queue_66 : decode cX11_queue 66 = .ok (.iconst 0, 1) := eX11_queue_32.2.2.2.2.2.1
theorem dX11_queue_67 : decode cX11_queue 67 = .ok (.istore 7, 2) := eX11_queue_32.2.2.2.2.2.2.1
theorem dX11_queue_69 : decode cX11_queue 69 = .ok (.bipush (-40), 2) := eX11_queue_32.2.2.2.2.2.2.2
theorem eX11_queue_40 : (decode cX11_queue 71 = .ok (.istore 8, 2)) ∧ (decode cX11_queue 73 = .ok (.iload 8, 2)) ∧ (decode cX11_queue 75 = .ok (.iload_n 2, 1)) ∧ (decode cX11_queue 76 = .ok (.if_icmp .gt 140, 3)) ∧ (decode cX11_queue 79 = .ok (.iload 8, 2)) ∧ (decode cX11_queue 81 = .ok (.bipush 10, 2)) ∧ (decode cX11_queue 83 = .ok (.if_icmp .gt 21, 3)) ∧ (decode cX11_queue 86 = .ok (.aload_n 0, 1)) := by decide +kernel
theorem dX11_queue_71 : decode cX11_queue 71 = .ok (.istore 8, 2) := eX11_queue_40.1
theorem dX11_queue_73 : decode cX11_queue 73 = .ok (.iload 8, 2) := eX11_queue_40.2.1
theorem dX11_queue_75 : decode cX11_queue 75 = .ok (.iload_n 2, 1) := eX11_queue_40.2.2.1
theorem dX11_queue_76 : decode cX11_queue 76 = .ok (.if_icmp .gt 140, 3) := eX11_queue_40.2.2.2.1
theorem dX11_queue_79 : decode cX11_queue 79 = .ok (.iload 8, 2) := eX11_queue_40.2.2.2.2.1
theorem dX11_queue_81 : decode cX11_queue 81 = .ok (.bipush 10, 2) := eX11_queue_40.2.2.2.2.2.1
theorem dX11_queue_83 : decode cX11_queue 83 = .ok (.if_icmp .gt 21, 3) := eX11_queue_40.2.2.2.2.2.2.1
theorem dX11_queue_86 : decode cX11_queue 86 = .ok (.aload_n 0, 1) := eX11_queue_40.2.2.2.2.2.2.2
theorem eX11_queue_48 : (decode cX11_queue 87 = .ok (.getfield 68, 3)) ∧ (decode cX11_queue 90 = .ok (.bipush 51, 2)) ∧ (decode cX11_queue 92 = .ok (.iload_n 1, 1)) ∧ (decode cX11_queue 93 = .ok (.imul, 1)) ∧ (decode cX11_queue 94 = .ok (.iload 8, 2)) ∧ (decode cX11_queue 96 = .ok (.iadd, 1)) ∧ (decode cX11_queue 97 = .ok (.bipush 40, 2)) ∧ (decode cX11_queue 99 = .ok (.iadd, 1)) := by decide +kernel
theorem dX11_queue_87 : decode cX11_queue 87 = .ok (.getfield 68, 3) := eX11_queue_48.1
theorem dX11_queue_90 : decode cX11_queue 90 = .ok (.bipush 51, 2) := eX11_queue_48.2.1
theorem dX11_queue_92 : decode cX11_queue 92 = .ok (.iload_n 1, 1) := eX11_queue_48.2.2.1
theorem dX11_queue_93 : decode cX11_queue 93 = .ok (.imul, 1) := eX11_queue_48.2.2.2.1
theorem dX11_queue_94 : decode cX11_queue 94 = .ok (.iload 8, 2) := eX11_queue_48.2.2.2.2.1
theorem dX11_queue_96 : decode cX11_queue 96 = .ok (.iadd, 1) := eX11_queue_48.2.2.2.2.2.1
theorem dX11_queue_97 : decode cX11_queue 97 = .ok (.bipush 40, 2) := eX11_queue_48.2.2.2.2.2.2.1
theorem dX11_queue_99 : decode cX11_queue 99 = .ok (.iadd, 1) := eX11_queue_48.2.2.2.2.2.2.2
theorem eX11_queue_56 : (decode cX11_queue 100 = .ok (.iaload, 1)) ∧ (decode cX11_queue 101 = .ok (.goto 4, 3)) ∧ (decode cX11_queue 104 = .ok (.iconst 0, 1)) ∧ (decode cX11_queue 105 = .ok (.istore 9, 2)) ∧ (decode cX11_queue 107 = .ok (.iload 7, 2)) ∧ (decode cX11_queue 109 = .ok (.iload 9, 2)) ∧ (decode cX11_queue 111 = .ok (.iadd, 1)) ∧ (decode cX11_queue 112 = .ok (.istore 7, 2)) := by decide +kernel
theorem dX11_queue_100 : decode cX11_queue 100 = .ok (.iaload, 1) := eX11_queue_56.1
theorem dX11_queue_101 : decode cX11_queue 101 = .ok (.goto 4, 3) := eX11_queue_56.2.1
theorem dX11_queue_104 : decode cX11_queue 104 = .ok (.iconst 0, 1) := eX11_queue_56.2.2.1
theorem dX11_queue_105 : decode cX11_queue 105 = .ok (.istore 9, 2) := eX11_queue_56.2.2.2.1
theorem dX11_queue_107 : decode cX11_queue 107 = .ok (.iload 7, 2) := eX11_queue_56.2.2.2.2.1
theorem dX11_queue_109 : decode cX11_queue 109 = .ok (.iload 9, 2) := eX11_queue_56.2.2.2.2.2.1
theorem dX11_queue_111 : decode cX11_queue 111 = .ok (.iadd, 1) := eX11_queue_56.2.2.2.2.2.2.1
theorem dX11_queue_112 : decode cX11_queue 112 = .ok (.istore 7, 2) := eX11_queue_56.2.2.2.2.2.2.2
theorem eX11_queue_64 : (decode cX11_queue 114 = .ok (.iload 6, 2)) ∧ (decode cX11_queue 116 = .ok (.iload 9, 2)) ∧ (decode cX11_queue 118 = .ok (.iadd, 1)) ∧ (decode cX11_queue 119 = .ok (.istore 6, 2)) ∧ (decode cX11_queue 121 = .ok (.iload 8, 2)) ∧ (decode cX11_queue 123 = .ok (.i2l, 1)) ∧ (decode cX11_queue 124 = .ok (.iload 4, 2)) ∧ (decode cX11_queue 126 = .ok (.i2l, 1)) := by decide +kernel
theorem dX11_queue_114 : decode cX11_queue 114 = .ok (.iload 6, 2) := eX11_queue_64.1
theorem dX11_queue_116 : decode cX11_queue 116 = .ok (.iload 9, 2) := eX11_queue_64.2.1
theorem dX11_queue_118 : decode cX11_queue 118 = .ok (.iadd, 1) := eX11_queue_64.2.2.1
theorem dX11_queue_119 : decode cX11_queue 119 = .ok (.istore 6, 2) := eX11_queue_64.2.2.2.1
theorem dX11_queue_121 : decode cX11_queue 121 = .ok (.iload 8, 2) := eX11_queue_64.2.2.2.2.1
theorem dX11_queue_123 : decode cX11_queue 123 = .ok (.i2l, 1) := eX11_queue_64.2.2.2.2.2.1
theorem dX11_queue_124 : decode cX11_queue 124 = .ok (.iload 4, 2) := eX11_queue_64.2.2.2.2.2.2.1
theorem dX11_queue_126 : decode cX11_queue 126 = .ok (.i2l, 1) := eX11_queue_64.2.2.2.2.2.2.2
theorem eX11_queue_72 : (decode cX11_queue 127 = .ok (.ldc2_w 255, 3)) ∧ (decode cX11_queue 130 = .ok (.lsub, 1)) ∧ (decode cX11_queue 131 = .ok (.iload 4, 2)) ∧ (decode cX11_queue 133 = .ok (.i2l, 1)) ∧ (decode cX11_queue 134 = .ok (.ldc2_w 249, 3)) ∧ (decode cX11_queue 137 = .ok (.ladd, 1)) ∧ (decode cX11_queue 138 = .ok (.invokestatic 153, 3)) ∧ (decode cX11_queue 141 = .ok (.ifCond .eq 69, 3)) := by decide +kernel
theorem dX11_queue_127 : decode cX11_queue 127 = .ok (.ldc2_w 255, 3) := eX11_queue_72.1
theorem dX11_queue_130 : decode cX11_queue 130 = .ok (.lsub, 1) := eX11_queue_72.2.1
theorem dX11_queue_131 : decode cX11_queue 131 = .ok (.iload 4, 2) := eX11_queue_72.2.2.1
theorem dX11_queue_133 : decode cX11_queue 133 = .ok (.i2l, 1) := eX11_queue_72.2.2.2.1
theorem dX11_queue_134 : decode cX11_queue 134 = .ok (.ldc2_w 249, 3) := eX11_queue_72.2.2.2.2.1
theorem dX11_queue_137 : decode cX11_queue 137 = .ok (.ladd, 1) := eX11_queue_72.2.2.2.2.2.1
theorem dX11_queue_138 : decode cX11_queue 138 = .ok (.invokestatic 153, 3) := eX11_queue_72.2.2.2.2.2.2.1
theorem dX11_queue_141 : decode cX11_queue 141 = .ok (.ifCond .eq 69, 3) := eX11_queue_72.2.2.2.2.2.2.2
theorem eX11_queue_80 : (decode cX11_queue 144 = .ok (.iload 6, 2)) ∧ (decode cX11_queue 146 = .ok (.aload_n 0, 1)) ∧ (decode cX11_queue 147 = .ok (.getfield 77, 3)) ∧ (decode cX11_queue 150 = .ok (.if_icmp .ge 8, 3)) ∧ (decode cX11_queue 153 = .ok (.iload 6, 2)) ∧ (decode cX11_queue 155 = .ok (.goto 7, 3)) ∧ (decode cX11_queue 158 = .ok (.aload_n 0, 1)) ∧ (decode cX11_queue 159 = .ok (.getfield 77, 3)) := by decide +kernel
theorem dX11_queue_144 : decode cX11_queue 144 = .ok (.iload 6, 2) := eX11_queue_80.1
theorem dX11_queue_146 : decode cX11_queue 146 = .ok (.aload_n 0, 1) := eX11_queue_80.2.1
theorem dX11_queue_147 : decode cX11_queue 147 = .ok (.getfield 77, 3) := eX11_queue_80.2.2.1
theorem dX11_queue_150 : decode cX11_queue 150 = .ok (.if_icmp .ge 8, 3) := eX11_queue_80.2.2.2.1
theorem dX11_queue_153 : decode cX11_queue 153 = .ok (.iload 6, 2) := eX11_queue_80.2.2.2.2.1
theorem dX11_queue_155 : decode cX11_queue 155 = .ok (.goto 7, 3) := eX11_queue_80.2.2.2.2.2.1
theorem dX11_queue_158 : decode cX11_queue 158 = .ok (.aload_n 0, 1) := eX11_queue_80.2.2.2.2.2.2.1
theorem dX11_queue_159 : decode cX11_queue 159 = .ok (.getfield 77, 3) := eX11_queue_80.2.2.2.2.2.2.2
theorem eX11_queue_88 : (decode cX11_queue 162 = .ok (.istore 10, 2)) ∧ (decode cX11_queue 164 = .ok (.aload_n 0, 1)) ∧ (decode cX11_queue 165 = .ok (.getfield 13, 3)) ∧ (decode cX11_queue 168 = .ok (.aload_n 0, 1)) ∧ (decode cX11_queue 169 = .ok (.getfield 56, 3)) ∧ (decode cX11_queue 172 = .ok (.iload_n 1, 1)) ∧ (decode cX11_queue 173 = .ok (.iaload, 1)) ∧ (decode cX11_queue 174 = .ok (.iaload, 1)) := by decide +kernel
theorem dX11_queue_162 : decode cX11_queue 162 = .ok (.istore 10, 2) := eX11_queue_88.1
theorem dX11_queue_164 : decode cX11_queue 164 = .ok (.aload_n 0, 1) := eX11_queue_88.2.1
theorem dX11_queue_165 : decode cX11_queue 165 = .ok (.getfield 13, 3) := eX11_queue_88.2.2.1
theorem dX11_queue_168 : decode cX11_queue 168 = .ok (.aload_n 0, 1) := eX11_queue_88.2.2.2.1
theorem dX11_queue_169 : decode cX11_queue 169 = .ok (.getfield 56, 3) := eX11_queue_88.2.2.2.2.1
theorem dX11_queue_172 : decode cX11_queue 172 = .ok (.iload_n 1, 1) := eX11_queue_88.2.2.2.2.2.1
theorem dX11_queue_173 : decode cX11_queue 173 = .ok (.iaload, 1) := eX11_queue_88.2.2.2.2.2.2.1
theorem dX11_queue_174 : decode cX11_queue 174 = .ok (.iaload, 1) := eX11_queue_88.2.2.2.2.2.2.2
theorem eX11_queue_96 : (decode cX11_queue 175 = .ok (.iload 5, 2)) ∧ (decode cX11_queue 177 = .ok (.isub, 1)) ∧ (decode cX11_queue 178 = .ok (.istore 11, 2)) ∧ (decode cX11_queue 180 = .ok (.iload 10, 2)) ∧ (decode cX11_queue 182 = .ok (.iload 11, 2)) ∧ (decode cX11_queue 184 = .ok (.if_icmp .ge 8, 3)) ∧ (decode cX11_queue 187 = .ok (.iload 10, 2)) ∧ (decode cX11_queue 189 = .ok (.goto 5, 3)) := by decide +kernel
theorem dX11_queue_175 : decode cX11_queue 175 = .ok (.iload 5, 2) := eX11_queue_96.1
theorem dX11_queue_177 : decode cX11_queue 177 = .ok (.isub, 1) := eX11_queue_96.2.1
theorem dX11_queue_178 : decode cX11_queue 178 = .ok (.istore 11, 2) := eX11_queue_96.2.2.1
theorem dX11_queue_180 : decode cX11_queue 180 = .ok (.iload 10, 2) := eX11_queue_96.2.2.2.1
theorem dX11_queue_182 : decode cX11_queue 182 = .ok (.iload 11, 2) := eX11_queue_96.2.2.2.2.1
theorem dX11_queue_184 : decode cX11_queue 184 = .ok (.if_icmp .ge 8, 3) := eX11_queue_96.2.2.2.2.2.1
theorem dX11_queue_187 : decode cX11_queue 187 = .ok (.iload 10, 2) := eX11_queue_96.2.2.2.2.2.2.1
theorem dX11_queue_189 : decode cX11_queue 189 = .ok (.goto 5, 3) := eX11_queue_96.2.2.2.2.2.2.2
theorem eX11_queue_104 : (decode cX11_queue 192 = .ok (.iload 11, 2)) ∧ (decode cX11_queue 194 = .ok (.istore 10, 2)) ∧ (decode cX11_queue 196 = .ok (.iload 5, 2)) ∧ (decode cX11_queue 198 = .ok (.iload 10, 2)) ∧ (decode cX11_queue 200 = .ok (.iadd, 1)) ∧ (decode cX11_queue 201 = .ok (.istore 5, 2)) ∧ (decode cX11_queue 203 = .ok (.iload 6, 2)) ∧ (decode cX11_queue 205 = .ok (.iload 10, 2)) := by decide +kernel
theorem dX11_queue_192 : decode cX11_queue 192 = .ok (.iload 11, 2) := eX11_queue_104.1
theorem dX11_queue_194 : decode cX11_queue 194 = .ok (.istore 10, 2) := eX11_queue_104.2.1
theorem dX11_queue_196 : decode cX11_queue 196 = .ok (.iload 5, 2) := eX11_queue_104.2.2.1
theorem dX11_queue_198 : decode cX11_queue 198 = .ok (.iload 10, 2) := eX11_queue_104.2.2.2.1
theorem dX11_queue_200 : decode cX11_queue 200 = .ok (.iadd, 1) := eX11_queue_104.2.2.2.2.1
theorem dX11_queue_201 : decode cX11_queue 201 = .ok (.istore 5, 2) := eX11_queue_104.2.2.2.2.2.1
theorem dX11_queue_203 : decode cX11_queue 203 = .ok (.iload 6, 2) := eX11_queue_104.2.2.2.2.2.2.1
theorem dX11_queue_205 : decode cX11_queue 205 = .ok (.iload 10, 2) := eX11_queue_104.2.2.2.2.2.2.2
theorem eX11_queue_112 : (decode cX11_queue 207 = .ok (.isub, 1)) ∧ (decode cX11_queue 208 = .ok (.istore 6, 2)) ∧ (decode cX11_queue 210 = .ok (.iinc 8 1, 3)) ∧ (decode cX11_queue 213 = .ok (.goto (-140), 3)) ∧ (decode cX11_queue 216 = .ok (.iload_n 3, 1)) ∧ (decode cX11_queue 217 = .ok (.ifCond .ne 8, 3)) ∧ (decode cX11_queue 220 = .ok (.iload 5, 2)) ∧ (decode cX11_queue 222 = .ok (.goto 15, 3)) := by decide +kernel
theorem dX11_queue_207 : decode cX11_queue 207 = .ok (.isub, 1) := eX11_queue_112.1
theorem dX11_queue_208 : decode cX11_queue 208 = .ok (.istore 6, 2) := eX11_queue_112.2.1
theorem dX11_queue_210 : decode cX11_queue 210 = .ok (.iinc 8 1, 3) := eX11_queue_112.2.2.1
theorem dX11_queue_213 : decode cX11_queue 213 = .ok (.goto (-140), 3) := eX11_queue_112.2.2.2.1
theorem dX11_queue_216 : decode cX11_queue 216 = .ok (.iload_n 3, 1) := eX11_queue_112.2.2.2.2.1
theorem dX11_queue_217 : decode cX11_queue 217 = .ok (.ifCond .ne 8, 3) := eX11_queue_112.2.2.2.2.2.1
theorem dX11_queue_220 : decode cX11_queue 220 = .ok (.iload 5, 2) := eX11_queue_112.2.2.2.2.2.2.1
theorem dX11_queue_222 : decode cX11_queue 222 = .ok (.goto 15, 3) := eX11_queue_112.2.2.2.2.2.2.2
theorem eX11_queue_120 : (decode cX11_queue 225 = .ok (.iload_n 3, 1)) ∧ (decode cX11_queue 226 = .ok (.iconst 1, 1)) ∧ (decode cX11_queue 227 = .ok (.if_icmp .ne 8, 3)) ∧ (decode cX11_queue 230 = .ok (.iload 6, 2)) ∧ (decode cX11_queue 232 = .ok (.goto 5, 3)) ∧ (decode cX11_queue 235 = .ok (.iload 7, 2)) ∧ (decode cX11_queue 237 = .ok (.ireturn, 1)) := by decide +kernel
theorem dX11_queue_225 : decode cX11_queue 225 = .ok (.iload_n 3, 1) := eX11_queue_120.1
theorem dX11_queue_226 : decode cX11_queue 226 = .ok (.iconst 1, 1) := eX11_queue_120.2.1
theorem dX11_queue_227 : decode cX11_queue 227 = .ok (.if_icmp .ne 8, 3) := eX11_queue_120.2.2.1
theorem dX11_queue_230 : decode cX11_queue 230 = .ok (.iload 6, 2) := eX11_queue_120.2.2.2.1
theorem dX11_queue_232 : decode cX11_queue 232 = .ok (.goto 5, 3) := eX11_queue_120.2.2.2.2.1
theorem dX11_queue_235 : decode cX11_queue 235 = .ok (.iload 7, 2) := eX11_queue_120.2.2.2.2.2.1
theorem dX11_queue_237 : decode cX11_queue 237 = .ok (.ireturn, 1) := eX11_queue_120.2.2.2.2.2.2
theorem eX11_isJuror_0 : (decode cX11_isJuror 0 = .ok (.iload_n 1, 1)) ∧ (decode cX11_isJuror 1 = .ok (.i2l, 1)) ∧ (decode cX11_isJuror 2 = .ok (.lconst 0, 1)) ∧ (decode cX11_isJuror 3 = .ok (.aload_n 0, 1)) ∧ (decode cX11_isJuror 4 = .ok (.getfield 257, 3)) ∧ (decode cX11_isJuror 7 = .ok (.i2l, 1)) ∧ (decode cX11_isJuror 8 = .ok (.lconst 1, 1)) ∧ (decode cX11_isJuror 9 = .ok (.lsub, 1)) := by decide +kernel
theorem dX11_isJuror_0 : decode cX11_isJuror 0 = .ok (.iload_n 1, 1) := eX11_isJuror_0.1
theorem dX11_isJuror_1 : decode cX11_isJuror 1 = .ok (.i2l, 1) := eX11_isJuror_0.2.1
theorem dX11_isJuror_2 : decode cX11_isJuror 2 = .ok (.lconst 0, 1) := eX11_isJuror_0.2.2.1
theorem dX11_isJuror_3 : decode cX11_isJuror 3 = .ok (.aload_n 0, 1) := eX11_isJuror_0.2.2.2.1
theorem dX11_isJuror_4 : decode cX11_isJuror 4 = .ok (.getfield 257, 3) := eX11_isJuror_0.2.2.2.2.1
theorem dX11_isJuror_7 : decode cX11_isJuror 7 = .ok (.i2l, 1) := eX11_isJuror_0.2.2.2.2.2.1
theorem dX11_isJuror_8 : decode cX11_isJuror 8 = .ok (.lconst 1, 1) := eX11_isJuror_0.2.2.2.2.2.2.1
theorem dX11_isJuror_9 : decode cX11_isJuror 9 = .ok (.lsub, 1) := eX11_isJuror_0.2.2.2.2.2.2.2
theorem eX11_isJuror_8 : (decode cX11_isJuror 10 = .ok (.invokestatic 153, 3)) ∧ (decode cX11_isJuror 13 = .ok (.ireturn, 1)) := by decide +kernel
theorem dX11_isJuror_10 : decode cX11_isJuror 10 = .ok (.invokestatic 153, 3) := eX11_isJuror_8.1
theorem dX11_isJuror_13 : decode cX11_isJuror 13 = .ok (.ireturn, 1) := eX11_isJuror_8.2
theorem eX11_juror_0 : (decode cX11_juror 0 = .ok (.aload_n 0, 1)) ∧ (decode cX11_juror 1 = .ok (.iconst 0, 1)) ∧ (decode cX11_juror 2 = .ok (.putfield 144, 3)) ∧ (decode cX11_juror 5 = .ok (.iload_n 1, 1)) ∧ (decode cX11_juror 6 = .ok (.i2l, 1)) ∧ (decode cX11_juror 7 = .ok (.lconst 0, 1)) ∧ (decode cX11_juror 8 = .ok (.ldc2_w 169, 3)) ∧ (decode cX11_juror 11 = .ok (.invokestatic 153, 3)) := by decide +kernel
theorem dX11_juror_0 : decode cX11_juror 0 = .ok (.aload_n 0, 1) := eX11_juror_0.1
theorem dX11_juror_1 : decode cX11_juror 1 = .ok (.iconst 0, 1) := eX11_juror_0.2.1
theorem dX11_juror_2 : decode cX11_juror 2 = .ok (.putfield 144, 3) := eX11_juror_0.2.2.1
theorem dX11_juror_5 : decode cX11_juror 5 = .ok (.iload_n 1, 1) := eX11_juror_0.2.2.2.1
theorem dX11_juror_6 : decode cX11_juror 6 = .ok (.i2l, 1) := eX11_juror_0.2.2.2.2.1
theorem dX11_juror_7 : decode cX11_juror 7 = .ok (.lconst 0, 1) := eX11_juror_0.2.2.2.2.2.1
theorem dX11_juror_8 : decode cX11_juror 8 = .ok (.ldc2_w 169, 3) := eX11_juror_0.2.2.2.2.2.2.1
theorem dX11_juror_11 : decode cX11_juror 11 = .ok (.invokestatic 153, 3) := eX11_juror_0.2.2.2.2.2.2.2
theorem eX11_juror_8 : (decode cX11_juror 14 = .ok (.ifCond .ne 9, 3)) ∧ (decode cX11_juror 17 = .ok (.aload_n 0, 1)) ∧ (decode cX11_juror 18 = .ok (.iconst (-1), 1)) ∧ (decode cX11_juror 19 = .ok (.invokevirtual 173, 3)) ∧ (decode cX11_juror 22 = .ok (.ireturn, 1)) ∧ (decode cX11_juror 23 = .ok (.aload_n 0, 1)) ∧ (decode cX11_juror 24 = .ok (.getfield 257, 3)) ∧ (decode cX11_juror 27 = .ok (.bipush 10, 2)) := by decide +kernel
theorem dX11_juror_14 : decode cX11_juror 14 = .ok (.ifCond .ne 9, 3) := eX11_juror_8.1
theorem dX11_juror_17 : decode cX11_juror 17 = .ok (.aload_n 0, 1) := eX11_juror_8.2.1
theorem dX11_juror_18 : decode cX11_juror 18 = .ok (.iconst (-1), 1) := eX11_juror_8.2.2.1
theorem dX11_juror_19 : decode cX11_juror 19 = .ok (.invokevirtual 173, 3) := eX11_juror_8.2.2.2.1
theorem dX11_juror_22 : decode cX11_juror 22 = .ok (.ireturn, 1) := eX11_juror_8.2.2.2.2.1
theorem dX11_juror_23 : decode cX11_juror 23 = .ok (.aload_n 0, 1) := eX11_juror_8.2.2.2.2.2.1
theorem dX11_juror_24 : decode cX11_juror 24 = .ok (.getfield 257, 3) := eX11_juror_8.2.2.2.2.2.2.1
theorem dX11_juror_27 : decode cX11_juror 27 = .ok (.bipush 10, 2) := eX11_juror_8.2.2.2.2.2.2.2
theorem eX11_juror_16 : (decode cX11_juror 29 = .ok (.if_icmp .ne 10, 3)) ∧ (decode cX11_juror 32 = .ok (.aload_n 0, 1)) ∧ (decode cX11_juror 33 = .ok (.bipush (-5), 2)) ∧ (decode cX11_juror 35 = .ok (.invokevirtual 173, 3)) ∧ (decode cX11_juror 38 = .ok (.ireturn, 1)) ∧ (decode cX11_juror 39 = .ok (.aload_n 0, 1)) ∧ (decode cX11_juror 40 = .ok (.getfield 87, 3)) ∧ (decode cX11_juror 43 = .ok (.aload_n 0, 1)) := by decide +kernel
theorem dX11_juror_29 : decode cX11_juror 29 = .ok (.if_icmp .ne 10, 3) := eX11_juror_16.1
theorem dX11_juror_32 : decode cX11_juror 32 = .ok (.aload_n 0, 1) := eX11_juror_16.2.1
theorem dX11_juror_33 : decode cX11_juror 33 = .ok (.bipush (-5), 2) := eX11_juror_16.2.2.1
theorem dX11_juror_35 : decode cX11_juror 35 = .ok (.invokevirtual 173, 3) := eX11_juror_16.2.2.2.1
theorem dX11_juror_38 : decode cX11_juror 38 = .ok (.ireturn, 1) := eX11_juror_16.2.2.2.2.1
theorem dX11_juror_39 : decode cX11_juror 39 = .ok (.aload_n 0, 1) := eX11_juror_16.2.2.2.2.2.1
theorem dX11_juror_40 : decode cX11_juror 40 = .ok (.getfield 87, 3) := eX11_juror_16.2.2.2.2.2.2.1
theorem dX11_juror_43 : decode cX11_juror 43 = .ok (.aload_n 0, 1) := eX11_juror_16.2.2.2.2.2.2.2
theorem eX11_juror_24 : (decode cX11_juror 44 = .ok (.getfield 257, 3)) ∧ (decode cX11_juror 47 = .ok (.iload_n 1, 1)) ∧ (decode cX11_juror 48 = .ok (.iastore, 1)) ∧ (decode cX11_juror 49 = .ok (.aload_n 0, 1)) ∧ (decode cX11_juror 50 = .ok (.dup, 1)) ∧ (decode cX11_juror 51 = .ok (.getfield 257, 3)) ∧ (decode cX11_juror 54 = .ok (.iconst 1, 1)) ∧ (decode cX11_juror 55 = .ok (.iadd, 1)) := by decide +kernel
theorem dX11_juror_44 : decode cX11_juror 44 = .ok (.getfield 257, 3) := eX11_juror_24.1
theorem dX11_juror_47 : decode cX11_juror 47 = .ok (.iload_n 1, 1) := eX11_juror_24.2.1
theorem dX11_juror_48 : decode cX11_juror 48 = .ok (.iastore, 1) := eX11_juror_24.2.2.1
theorem dX11_juror_49 : decode cX11_juror 49 = .ok (.aload_n 0, 1) := eX11_juror_24.2.2.2.1
theorem dX11_juror_50 : decode cX11_juror 50 = .ok (.dup, 1) := eX11_juror_24.2.2.2.2.1
theorem dX11_juror_51 : decode cX11_juror 51 = .ok (.getfield 257, 3) := eX11_juror_24.2.2.2.2.2.1
theorem dX11_juror_54 : decode cX11_juror 54 = .ok (.iconst 1, 1) := eX11_juror_24.2.2.2.2.2.2.1
theorem dX11_juror_55 : decode cX11_juror 55 = .ok (.iadd, 1) := eX11_juror_24.2.2.2.2.2.2.2
theorem eX11_juror_32 : (decode cX11_juror 56 = .ok (.putfield 257, 3)) ∧ (decode cX11_juror 59 = .ok (.aload_n 0, 1)) ∧ (decode cX11_juror 60 = .ok (.aload_n 0, 1)) ∧ (decode cX11_juror 61 = .ok (.getfield 257, 3)) ∧ (decode cX11_juror 64 = .ok (.iconst 1, 1)) ∧ (decode cX11_juror 65 = .ok (.isub, 1)) ∧ (decode cX11_juror 66 = .ok (.invokevirtual 173, 3)) ∧ (decode cX11_juror 69 = .ok (.ireturn, 1)) := by decide +kernel
theorem dX11_juror_56 : decode cX11_juror 56 = .ok (.putfield 257, 3) := eX11_juror_32.1
theorem dX11_juror_59 : decode cX11_juror 59 = .ok (.aload_n 0, 1) := eX11_juror_32.2.1
theorem dX11_juror_60 : decode cX11_juror 60 = .ok (.aload_n 0, 1) := eX11_juror_32.2.2.1
theorem dX11_juror_61 : decode cX11_juror 61 = .ok (.getfield 257, 3) := eX11_juror_32.2.2.2.1
theorem dX11_juror_64 : decode cX11_juror 64 = .ok (.iconst 1, 1) := eX11_juror_32.2.2.2.2.1
theorem dX11_juror_65 : decode cX11_juror 65 = .ok (.isub, 1) := eX11_juror_32.2.2.2.2.2.1
theorem dX11_juror_66 : decode cX11_juror 66 = .ok (.invokevirtual 173, 3) := eX11_juror_32.2.2.2.2.2.2.1
theorem dX11_juror_69 : decode cX11_juror 69 = .ok (.ireturn, 1) := eX11_juror_32.2.2.2.2.2.2.2
theorem eX11_placeOf_0 : (decode cX11_placeOf 0 = .ok (.aload_n 0, 1)) ∧ (decode cX11_placeOf 1 = .ok (.getfield 93, 3)) ∧ (decode cX11_placeOf 4 = .ok (.iload_n 1, 1)) ∧ (decode cX11_placeOf 5 = .ok (.iaload, 1)) ∧ (decode cX11_placeOf 6 = .ok (.iconst 1, 1)) ∧ (decode cX11_placeOf 7 = .ok (.isub, 1)) ∧ (decode cX11_placeOf 8 = .ok (.istore_n 3, 1)) ∧ (decode cX11_placeOf 9 = .ok (.iload_n 3, 1)) := by decide +kernel
theorem dX11_placeOf_0 : decode cX11_placeOf 0 = .ok (.aload_n 0, 1) := eX11_placeOf_0.1
theorem dX11_placeOf_1 : decode cX11_placeOf 1 = .ok (.getfield 93, 3) := eX11_placeOf_0.2.1
theorem dX11_placeOf_4 : decode cX11_placeOf 4 = .ok (.iload_n 1, 1) := eX11_placeOf_0.2.2.1
theorem dX11_placeOf_5 : decode cX11_placeOf 5 = .ok (.iaload, 1) := eX11_placeOf_0.2.2.2.1
theorem dX11_placeOf_6 : decode cX11_placeOf 6 = .ok (.iconst 1, 1) := eX11_placeOf_0.2.2.2.2.1
theorem dX11_placeOf_7 : decode cX11_placeOf 7 = .ok (.isub, 1) := eX11_placeOf_0.2.2.2.2.2.1
theorem dX11_placeOf_8 : decode cX11_placeOf 8 = .ok (.istore_n 3, 1) := eX11_placeOf_0.2.2.2.2.2.2.1
theorem dX11_placeOf_9 : decode cX11_placeOf 9 = .ok (.iload_n 3, 1) := eX11_placeOf_0.2.2.2.2.2.2.2
theorem eX11_placeOf_8 : (decode cX11_placeOf 10 = .ok (.ifCond .lt 23, 3)) ∧ (decode cX11_placeOf 13 = .ok (.aload_n 0, 1)) ∧ (decode cX11_placeOf 14 = .ok (.getfield 90, 3)) ∧ (decode cX11_placeOf 17 = .ok (.iconst 5, 1)) ∧ (decode cX11_placeOf 18 = .ok (.iload_n 1, 1)) ∧ (decode cX11_placeOf 19 = .ok (.imul, 1)) ∧ (decode cX11_placeOf 20 = .ok (.iload_n 3, 1)) ∧ (decode cX11_placeOf 21 = .ok (.iadd, 1)) := by decide +kernel
theorem dX11_placeOf_10 : decode cX11_placeOf 10 = .ok (.ifCond .lt 23, 3) := eX11_placeOf_8.1
theorem dX11_placeOf_13 : decode cX11_placeOf 13 = .ok (.aload_n 0, 1) := eX11_placeOf_8.2.1
theorem dX11_placeOf_14 : decode cX11_placeOf 14 = .ok (.getfield 90, 3) := eX11_placeOf_8.2.2.1
theorem dX11_placeOf_17 : decode cX11_placeOf 17 = .ok (.iconst 5, 1) := eX11_placeOf_8.2.2.2.1
theorem dX11_placeOf_18 : decode cX11_placeOf 18 = .ok (.iload_n 1, 1) := eX11_placeOf_8.2.2.2.2.1
theorem dX11_placeOf_19 : decode cX11_placeOf 19 = .ok (.imul, 1) := eX11_placeOf_8.2.2.2.2.2.1
theorem dX11_placeOf_20 : decode cX11_placeOf 20 = .ok (.iload_n 3, 1) := eX11_placeOf_8.2.2.2.2.2.2.1
theorem dX11_placeOf_21 : decode cX11_placeOf 21 = .ok (.iadd, 1) := eX11_placeOf_8.2.2.2.2.2.2.2
theorem eX11_placeOf_16 : (decode cX11_placeOf 22 = .ok (.iaload, 1)) ∧ (decode cX11_placeOf 23 = .ok (.iload_n 2, 1)) ∧ (decode cX11_placeOf 24 = .ok (.if_icmp .eq 9, 3)) ∧ (decode cX11_placeOf 27 = .ok (.iinc 3 (-1), 3)) ∧ (decode cX11_placeOf 30 = .ok (.goto (-21), 3)) ∧ (decode cX11_placeOf 33 = .ok (.iload_n 3, 1)) ∧ (decode cX11_placeOf 34 = .ok (.ireturn, 1)) := by decide +kernel
theorem dX11_placeOf_22 : decode cX11_placeOf 22 = .ok (.iaload, 1) := eX11_placeOf_16.1
theorem dX11_placeOf_23 : decode cX11_placeOf 23 = .ok (.iload_n 2, 1) := eX11_placeOf_16.2.1
theorem dX11_placeOf_24 : decode cX11_placeOf 24 = .ok (.if_icmp .eq 9, 3) := eX11_placeOf_16.2.2.1
theorem dX11_placeOf_27 : decode cX11_placeOf 27 = .ok (.iinc 3 (-1), 3) := eX11_placeOf_16.2.2.2.1
theorem dX11_placeOf_30 : decode cX11_placeOf 30 = .ok (.goto (-21), 3) := eX11_placeOf_16.2.2.2.2.1
theorem dX11_placeOf_33 : decode cX11_placeOf 33 = .ok (.iload_n 3, 1) := eX11_placeOf_16.2.2.2.2.2.1
theorem dX11_placeOf_34 : decode cX11_placeOf 34 = .ok (.ireturn, 1) := eX11_placeOf_16.2.2.2.2.2.2
theorem eX11_vote_0 : (decode cX11_vote 0 = .ok (.aload_n 0, 1)) ∧ (decode cX11_vote 1 = .ok (.iconst 0, 1)) ∧ (decode cX11_vote 2 = .ok (.putfield 144, 3)) ∧ (decode cX11_vote 5 = .ok (.aload_n 0, 1)) ∧ (decode cX11_vote 6 = .ok (.iload_n 1, 1)) ∧ (decode cX11_vote 7 = .ok (.invokevirtual 260, 3)) ∧ (decode cX11_vote 10 = .ok (.ifCond .eq 11, 3)) ∧ (decode cX11_vote 13 = .ok (.aload_n 0, 1)) := by decide +kernel
theorem dX11_vote_0 : decode cX11_vote 0 = .ok (.aload_n 0, 1) := eX11_vote_0.1
theorem dX11_vote_1 : decode cX11_vote 1 = .ok (.iconst 0, 1) := eX11_vote_0.2.1
theorem dX11_vote_2 : decode cX11_vote 2 = .ok (.putfield 144, 3) := eX11_vote_0.2.2.1
theorem dX11_vote_5 : decode cX11_vote 5 = .ok (.aload_n 0, 1) := eX11_vote_0.2.2.2.1
theorem dX11_vote_6 : decode cX11_vote 6 = .ok (.iload_n 1, 1) := eX11_vote_0.2.2.2.2.1
theorem dX11_vote_7 : decode cX11_vote 7 = .ok (.invokevirtual 260, 3) := eX11_vote_0.2.2.2.2.2.1
theorem dX11_vote_10 : decode cX11_vote 10 = .ok (.ifCond .eq 11, 3) := eX11_vote_0.2.2.2.2.2.2.1
theorem dX11_vote_13 : decode cX11_vote 13 = .ok (.aload_n 0, 1) := eX11_vote_0.2.2.2.2.2.2.2
theorem eX11_vote_8 : (decode cX11_vote 14 = .ok (.iload_n 2, 1)) ∧ (decode cX11_vote 15 = .ok (.invokevirtual 187, 3)) ∧ (decode cX11_vote 18 = .ok (.ifCond .ne 10, 3)) ∧ (decode cX11_vote 21 = .ok (.aload_n 0, 1)) ∧ (decode cX11_vote 22 = .ok (.bipush (-2), 2)) ∧ (decode cX11_vote 24 = .ok (.invokevirtual 173, 3)) ∧ (decode cX11_vote 27 = .ok (.ireturn, 1)) ∧ (decode cX11_vote 28 = .ok (.aload_n 0, 1)) := by decide +kernel
theorem dX11_vote_14 : decode cX11_vote 14 = .ok (.iload_n 2, 1) := eX11_vote_8.1
theorem dX11_vote_15 : decode cX11_vote 15 = .ok (.invokevirtual 187, 3) := eX11_vote_8.2.1
theorem dX11_vote_18 : decode cX11_vote 18 = .ok (.ifCond .ne 10, 3) := eX11_vote_8.2.2.1
theorem dX11_vote_21 : decode cX11_vote 21 = .ok (.aload_n 0, 1) := eX11_vote_8.2.2.2.1
theorem dX11_vote_22 : decode cX11_vote 22 = .ok (.bipush (-2), 2) := eX11_vote_8.2.2.2.2.1
theorem dX11_vote_24 : decode cX11_vote 24 = .ok (.invokevirtual 173, 3) := eX11_vote_8.2.2.2.2.2.1
theorem dX11_vote_27 : decode cX11_vote 27 = .ok (.ireturn, 1) := eX11_vote_8.2.2.2.2.2.2.1
theorem dX11_vote_28 : decode cX11_vote 28 = .ok (.aload_n 0, 1) := eX11_vote_8.2.2.2.2.2.2.2
theorem eX11_vote_16 : (decode cX11_vote 29 = .ok (.iload_n 1, 1)) ∧ (decode cX11_vote 30 = .ok (.iload_n 2, 1)) ∧ (decode cX11_vote 31 = .ok (.invokevirtual 263, 3)) ∧ (decode cX11_vote 34 = .ok (.ifCond .lt 10, 3)) ∧ (decode cX11_vote 37 = .ok (.aload_n 0, 1)) ∧ (decode cX11_vote 38 = .ok (.bipush (-4), 2)) ∧ (decode cX11_vote 40 = .ok (.invokevirtual 173, 3)) ∧ (decode cX11_vote 43 = .ok (.ireturn, 1)) := by decide +kernel
theorem dX11_vote_29 : decode cX11_vote 29 = .ok (.iload_n 1, 1) := eX11_vote_16.1
theorem dX11_vote_30 : decode cX11_vote 30 = .ok (.iload_n 2, 1) := eX11_vote_16.2.1
theorem dX11_vote_31 : decode cX11_vote 31 = .ok (.invokevirtual 263, 3) := eX11_vote_16.2.2.1
theorem dX11_vote_34 : decode cX11_vote 34 = .ok (.ifCond .lt 10, 3) := eX11_vote_16.2.2.2.1
theorem dX11_vote_37 : decode cX11_vote 37 = .ok (.aload_n 0, 1) := eX11_vote_16.2.2.2.2.1
theorem dX11_vote_38 : decode cX11_vote 38 = .ok (.bipush (-4), 2) := eX11_vote_16.2.2.2.2.2.1
theorem dX11_vote_40 : decode cX11_vote 40 = .ok (.invokevirtual 173, 3) := eX11_vote_16.2.2.2.2.2.2.1
theorem dX11_vote_43 : decode cX11_vote 43 = .ok (.ireturn, 1) := eX11_vote_16.2.2.2.2.2.2.2
theorem eX11_vote_24 : (decode cX11_vote 44 = .ok (.aload_n 0, 1)) ∧ (decode cX11_vote 45 = .ok (.getfield 93, 3)) ∧ (decode cX11_vote 48 = .ok (.iload_n 1, 1)) ∧ (decode cX11_vote 49 = .ok (.iaload, 1)) ∧ (decode cX11_vote 50 = .ok (.iconst 5, 1)) ∧ (decode cX11_vote 51 = .ok (.if_icmp .ne 10, 3)) ∧ (decode cX11_vote 54 = .ok (.aload_n 0, 1)) ∧ (decode cX11_vote 55 = .ok (.bipush (-5), 2)) := by decide +kernel
theorem dX11_vote_44 : decode cX11_vote 44 = .ok (.aload_n 0, 1) := eX11_vote_24.1
theorem dX11_vote_45 : decode cX11_vote 45 = .ok (.getfield 93, 3) := eX11_vote_24.2.1
theorem dX11_vote_48 : decode cX11_vote 48 = .ok (.iload_n 1, 1) := eX11_vote_24.2.2.1
theorem dX11_vote_49 : decode cX11_vote 49 = .ok (.iaload, 1) := eX11_vote_24.2.2.2.1
theorem dX11_vote_50 : decode cX11_vote 50 = .ok (.iconst 5, 1) := eX11_vote_24.2.2.2.2.1
theorem dX11_vote_51 : decode cX11_vote 51 = .ok (.if_icmp .ne 10, 3) := eX11_vote_24.2.2.2.2.2.1
theorem dX11_vote_54 : decode cX11_vote 54 = .ok (.aload_n 0, 1) := eX11_vote_24.2.2.2.2.2.2.1
theorem dX11_vote_55 : decode cX11_vote 55 = .ok (.bipush (-5), 2) := eX11_vote_24.2.2.2.2.2.2.2
theorem eX11_vote_32 : (decode cX11_vote 57 = .ok (.invokevirtual 173, 3)) ∧ (decode cX11_vote 60 = .ok (.ireturn, 1)) ∧ (decode cX11_vote 61 = .ok (.aload_n 0, 1)) ∧ (decode cX11_vote 62 = .ok (.getfield 90, 3)) ∧ (decode cX11_vote 65 = .ok (.iconst 5, 1)) ∧ (decode cX11_vote 66 = .ok (.iload_n 1, 1)) ∧ (decode cX11_vote 67 = .ok (.imul, 1)) ∧ (decode cX11_vote 68 = .ok (.aload_n 0, 1)) := by decide +kernel
theorem dX11_vote_57 : decode cX11_vote 57 = .ok (.invokevirtual 173, 3) := eX11_vote_32.1
theorem dX11_vote_60 : decode cX11_vote 60 = .ok (.ireturn, 1) := eX11_vote_32.2.1
theorem dX11_vote_61 : decode cX11_vote 61 = .ok (.aload_n 0, 1) := eX11_vote_32.2.2.1
theorem dX11_vote_62 : decode cX11_vote 62 = .ok (.getfield 90, 3) := eX11_vote_32.2.2.2.1
theorem dX11_vote_65 : decode cX11_vote 65 = .ok (.iconst 5, 1) := eX11_vote_32.2.2.2.2.1
theorem dX11_vote_66 : decode cX11_vote 66 = .ok (.iload_n 1, 1) := eX11_vote_32.2.2.2.2.2.1
theorem dX11_vote_67 : decode cX11_vote 67 = .ok (.imul, 1) := eX11_vote_32.2.2.2.2.2.2.1
theorem dX11_vote_68 : decode cX11_vote 68 = .ok (.aload_n 0, 1) := eX11_vote_32.2.2.2.2.2.2.2
theorem eX11_vote_40 : (decode cX11_vote 69 = .ok (.getfield 93, 3)) ∧ (decode cX11_vote 72 = .ok (.iload_n 1, 1)) ∧ (decode cX11_vote 73 = .ok (.iaload, 1)) ∧ (decode cX11_vote 74 = .ok (.iadd, 1)) ∧ (decode cX11_vote 75 = .ok (.iload_n 2, 1)) ∧ (decode cX11_vote 76 = .ok (.iastore, 1)) ∧ (decode cX11_vote 77 = .ok (.aload_n 0, 1)) ∧ (decode cX11_vote 78 = .ok (.getfield 93, 3)) := by decide +kernel
theorem dX11_vote_69 : decode cX11_vote 69 = .ok (.getfield 93, 3) := eX11_vote_40.1
theorem dX11_vote_72 : decode cX11_vote 72 = .ok (.iload_n 1, 1) := eX11_vote_40.2.1
theorem dX11_vote_73 : decode cX11_vote 73 = .ok (.iaload, 1) := eX11_vote_40.2.2.1
theorem dX11_vote_74 : decode cX11_vote 74 = .ok (.iadd, 1) := eX11_vote_40.2.2.2.1
theorem dX11_vote_75 : decode cX11_vote 75 = .ok (.iload_n 2, 1) := eX11_vote_40.2.2.2.2.1
theorem dX11_vote_76 : decode cX11_vote 76 = .ok (.iastore, 1) := eX11_vote_40.2.2.2.2.2.1
theorem dX11_vote_77 : decode cX11_vote 77 = .ok (.aload_n 0, 1) := eX11_vote_40.2.2.2.2.2.2.1
theorem dX11_vote_78 : decode cX11_vote 78 = .ok (.getfield 93, 3) := eX11_vote_40.2.2.2.2.2.2.2
theorem eX11_vote_48 : (decode cX11_vote 81 = .ok (.iload_n 1, 1)) ∧ (decode cX11_vote 82 = .ok (.dup2, 1)) ∧ (decode cX11_vote 83 = .ok (.iaload, 1)) ∧ (decode cX11_vote 84 = .ok (.iconst 1, 1)) ∧ (decode cX11_vote 85 = .ok (.iadd, 1)) ∧ (decode cX11_vote 86 = .ok (.iastore, 1)) ∧ (decode cX11_vote 87 = .ok (.aload_n 0, 1)) ∧ (decode cX11_vote 88 = .ok (.aload_n 0, 1)) := by decide +kernel
theorem dX11_vote_81 : decode cX11_vote 81 = .ok (.iload_n 1, 1) := eX11_vote_48.1
theorem dX11_vote_82 : decode cX11_vote 82 = .ok (.dup2, 1) := eX11_vote_48.2.1
theorem dX11_vote_83 : decode cX11_vote 83 = .ok (.iaload, 1) := eX11_vote_48.2.2.1
theorem dX11_vote_84 : decode cX11_vote 84 = .ok (.iconst 1, 1) := eX11_vote_48.2.2.2.1
theorem dX11_vote_85 : decode cX11_vote 85 = .ok (.iadd, 1) := eX11_vote_48.2.2.2.2.1
theorem dX11_vote_86 : decode cX11_vote 86 = .ok (.iastore, 1) := eX11_vote_48.2.2.2.2.2.1
theorem dX11_vote_87 : decode cX11_vote 87 = .ok (.aload_n 0, 1) := eX11_vote_48.2.2.2.2.2.2.1
theorem dX11_vote_88 : decode cX11_vote 88 = .ok (.aload_n 0, 1) := eX11_vote_48.2.2.2.2.2.2.2
theorem eX11_vote_56 : (decode cX11_vote 89 = .ok (.getfield 93, 3)) ∧ (decode cX11_vote 92 = .ok (.iload_n 1, 1)) ∧ (decode cX11_vote 93 = .ok (.iaload, 1)) ∧ (decode cX11_vote 94 = .ok (.invokevirtual 173, 3)) ∧ (decode cX11_vote 97 = .ok (.ireturn, 1)) := by decide +kernel
theorem dX11_vote_89 : decode cX11_vote 89 = .ok (.getfield 93, 3) := eX11_vote_56.1
theorem dX11_vote_92 : decode cX11_vote 92 = .ok (.iload_n 1, 1) := eX11_vote_56.2.1
theorem dX11_vote_93 : decode cX11_vote 93 = .ok (.iaload, 1) := eX11_vote_56.2.2.1
theorem dX11_vote_94 : decode cX11_vote 94 = .ok (.invokevirtual 173, 3) := eX11_vote_56.2.2.2.1
theorem dX11_vote_97 : decode cX11_vote 97 = .ok (.ireturn, 1) := eX11_vote_56.2.2.2.2
theorem eX11_clear_0 : (decode cX11_clear 0 = .ok (.aload_n 0, 1)) ∧ (decode cX11_clear 1 = .ok (.iconst 0, 1)) ∧ (decode cX11_clear 2 = .ok (.putfield 144, 3)) ∧ (decode cX11_clear 5 = .ok (.aload_n 0, 1)) ∧ (decode cX11_clear 6 = .ok (.iload_n 1, 1)) ∧ (decode cX11_clear 7 = .ok (.invokevirtual 260, 3)) ∧ (decode cX11_clear 10 = .ok (.ifCond .ne 10, 3)) ∧ (decode cX11_clear 13 = .ok (.aload_n 0, 1)) := by decide +kernel
theorem dX11_clear_0 : decode cX11_clear 0 = .ok (.aload_n 0, 1) := eX11_clear_0.1
theorem dX11_clear_1 : decode cX11_clear 1 = .ok (.iconst 0, 1) := eX11_clear_0.2.1
theorem dX11_clear_2 : decode cX11_clear 2 = .ok (.putfield 144, 3) := eX11_clear_0.2.2.1
theorem dX11_clear_5 : decode cX11_clear 5 = .ok (.aload_n 0, 1) := eX11_clear_0.2.2.2.1
theorem dX11_clear_6 : decode cX11_clear 6 = .ok (.iload_n 1, 1) := eX11_clear_0.2.2.2.2.1
theorem dX11_clear_7 : decode cX11_clear 7 = .ok (.invokevirtual 260, 3) := eX11_clear_0.2.2.2.2.2.1
theorem dX11_clear_10 : decode cX11_clear 10 = .ok (.ifCond .ne 10, 3) := eX11_clear_0.2.2.2.2.2.2.1
theorem dX11_clear_13 : decode cX11_clear 13 = .ok (.aload_n 0, 1) := eX11_clear_0.2.2.2.2.2.2.2
theorem eX11_clear_8 : (decode cX11_clear 14 = .ok (.bipush (-2), 2)) ∧ (decode cX11_clear 16 = .ok (.invokevirtual 173, 3)) ∧ (decode cX11_clear 19 = .ok (.ireturn, 1)) ∧ (decode cX11_clear 20 = .ok (.aload_n 0, 1)) ∧ (decode cX11_clear 21 = .ok (.getfield 93, 3)) ∧ (decode cX11_clear 24 = .ok (.iload_n 1, 1)) ∧ (decode cX11_clear 25 = .ok (.iaload, 1)) ∧ (decode cX11_clear 26 = .ok (.istore_n 2, 1)) := by decide +kernel
theorem dX11_clear_14 : decode cX11_clear 14 = .ok (.bipush (-2), 2) := eX11_clear_8.1
theorem dX11_clear_16 : decode cX11_clear 16 = .ok (.invokevirtual 173, 3) := eX11_clear_8.2.1
theorem dX11_clear_19 : decode cX11_clear 19 = .ok (.ireturn, 1) := eX11_clear_8.2.2.1
theorem dX11_clear_20 : decode cX11_clear 20 = .ok (.aload_n 0, 1) := eX11_clear_8.2.2.2.1
theorem dX11_clear_21 : decode cX11_clear 21 = .ok (.getfield 93, 3) := eX11_clear_8.2.2.2.2.1
theorem dX11_clear_24 : decode cX11_clear 24 = .ok (.iload_n 1, 1) := eX11_clear_8.2.2.2.2.2.1
theorem dX11_clear_25 : decode cX11_clear 25 = .ok (.iaload, 1) := eX11_clear_8.2.2.2.2.2.2.1
theorem dX11_clear_26 : decode cX11_clear 26 = .ok (.istore_n 2, 1) := eX11_clear_8.2.2.2.2.2.2.2
theorem eX11_clear_16 : (decode cX11_clear 27 = .ok (.aload_n 0, 1)) ∧ (decode cX11_clear 28 = .ok (.getfield 93, 3)) ∧ (decode cX11_clear 31 = .ok (.iload_n 1, 1)) ∧ (decode cX11_clear 32 = .ok (.iconst 0, 1)) ∧ (decode cX11_clear 33 = .ok (.iastore, 1)) ∧ (decode cX11_clear 34 = .ok (.aload_n 0, 1)) ∧ (decode cX11_clear 35 = .ok (.iload_n 2, 1)) ∧ (decode cX11_clear 36 = .ok (.invokevirtual 173, 3)) := by decide +kernel
theorem dX11_clear_27 : decode cX11_clear 27 = .ok (.aload_n 0, 1) := eX11_clear_16.1
theorem dX11_clear_28 : decode cX11_clear 28 = .ok (.getfield 93, 3) := eX11_clear_16.2.1
theorem dX11_clear_31 : decode cX11_clear 31 = .ok (.iload_n 1, 1) := eX11_clear_16.2.2.1
theorem dX11_clear_32 : decode cX11_clear 32 = .ok (.iconst 0, 1) := eX11_clear_16.2.2.2.1
theorem dX11_clear_33 : decode cX11_clear 33 = .ok (.iastore, 1) := eX11_clear_16.2.2.2.2.1
theorem dX11_clear_34 : decode cX11_clear 34 = .ok (.aload_n 0, 1) := eX11_clear_16.2.2.2.2.2.1
theorem dX11_clear_35 : decode cX11_clear 35 = .ok (.iload_n 2, 1) := eX11_clear_16.2.2.2.2.2.2.1
theorem dX11_clear_36 : decode cX11_clear 36 = .ok (.invokevirtual 173, 3) := eX11_clear_16.2.2.2.2.2.2.2
theorem dX11_clear_39 : decode cX11_clear 39 = .ok (.ireturn, 1) := by decide +kernel
theorem eX11_row_0 : (decode cX11_row 0 = .ok (.aload_n 0, 1)) ∧ (decode cX11_row 1 = .ok (.iconst 0, 1)) ∧ (decode cX11_row 2 = .ok (.putfield 144, 3)) ∧ (decode cX11_row 5 = .ok (.iload_n 1, 1)) ∧ (decode cX11_row 6 = .ok (.i2l, 1)) ∧ (decode cX11_row 7 = .ok (.lconst 0, 1)) ∧ (decode cX11_row 8 = .ok (.lconst 1, 1)) ∧ (decode cX11_row 9 = .ok (.invokestatic 153, 3)) := by decide +kernel
theorem dX11_row_0 : decode cX11_row 0 = .ok (.aload_n 0, 1) := eX11_row_0.1
theorem dX11_row_1 : decode cX11_row 1 = .ok (.iconst 0, 1) := eX11_row_0.2.1
theorem dX11_row_2 : decode cX11_row 2 = .ok (.putfield 144, 3) := eX11_row_0.2.2.1
theorem dX11_row_5 : decode cX11_row 5 = .ok (.iload_n 1, 1) := eX11_row_0.2.2.2.1
theorem dX11_row_6 : decode cX11_row 6 = .ok (.i2l, 1) := eX11_row_0.2.2.2.2.1
theorem dX11_row_7 : decode cX11_row 7 = .ok (.lconst 0, 1) := eX11_row_0.2.2.2.2.2.1
theorem dX11_row_8 : decode cX11_row 8 = .ok (.lconst 1, 1) := eX11_row_0.2.2.2.2.2.2.1
theorem dX11_row_9 : decode cX11_row 9 = .ok (.invokestatic 153, 3) := eX11_row_0.2.2.2.2.2.2.2
theorem eX11_row_8 : (decode cX11_row 12 = .ok (.ifCond .eq 16, 3)) ∧ (decode cX11_row 15 = .ok (.iload 4, 2)) ∧ (decode cX11_row 17 = .ok (.i2l, 1)) ∧ (decode cX11_row 18 = .ok (.lconst 0, 1)) ∧ (decode cX11_row 19 = .ok (.ldc2_w 267, 3)) ∧ (decode cX11_row 22 = .ok (.invokestatic 153, 3)) ∧ (decode cX11_row 25 = .ok (.ifCond .ne 9, 3)) ∧ (decode cX11_row 28 = .ok (.aload_n 0, 1)) := by decide +kernel
theorem dX11_row_12 : decode cX11_row 12 = .ok (.ifCond .eq 16, 3) := eX11_row_8.1
theorem dX11_row_15 : decode cX11_row 15 = .ok (.iload 4, 2) := eX11_row_8.2.1
theorem dX11_row_17 : decode cX11_row 17 = .ok (.i2l, 1) := eX11_row_8.2.2.1
theorem dX11_row_18 : decode cX11_row 18 = .ok (.lconst 0, 1) := eX11_row_8.2.2.2.1
theorem dX11_row_19 : decode cX11_row 19 = .ok (.ldc2_w 267, 3) := eX11_row_8.2.2.2.2.1
theorem dX11_row_22 : decode cX11_row 22 = .ok (.invokestatic 153, 3) := eX11_row_8.2.2.2.2.2.1
theorem dX11_row_25 : decode cX11_row 25 = .ok (.ifCond .ne 9, 3) := eX11_row_8.2.2.2.2.2.2.1
theorem dX11_row_28 : decode cX11_row 28 = .ok (.aload_n 0, 1) := eX11_row_8.2.2.2.2.2.2.2
theorem eX11_row_16 : (decode cX11_row 29 = .ok (.iconst (-1), 1)) ∧ (decode cX11_row 30 = .ok (.invokevirtual 173, 3)) ∧ (decode cX11_row 33 = .ok (.ireturn, 1)) ∧ (decode cX11_row 34 = .ok (.aload_n 0, 1)) ∧ (decode cX11_row 35 = .ok (.iload_n 2, 1)) ∧ (decode cX11_row 36 = .ok (.invokevirtual 260, 3)) ∧ (decode cX11_row 39 = .ok (.ifCond .eq 11, 3)) ∧ (decode cX11_row 42 = .ok (.aload_n 0, 1)) := by decide +kernel
theorem dX11_row_29 : decode cX11_row 29 = .ok (.iconst (-1), 1) := eX11_row_16.1
theorem dX11_row_30 : decode cX11_row 30 = .ok (.invokevirtual 173, 3) := eX11_row_16.2.1
theorem dX11_row_33 : decode cX11_row 33 = .ok (.ireturn, 1) := eX11_row_16.2.2.1
theorem dX11_row_34 : decode cX11_row 34 = .ok (.aload_n 0, 1) := eX11_row_16.2.2.2.1
theorem dX11_row_35 : decode cX11_row 35 = .ok (.iload_n 2, 1) := eX11_row_16.2.2.2.2.1
theorem dX11_row_36 : decode cX11_row 36 = .ok (.invokevirtual 260, 3) := eX11_row_16.2.2.2.2.2.1
theorem dX11_row_39 : decode cX11_row 39 = .ok (.ifCond .eq 11, 3) := eX11_row_16.2.2.2.2.2.2.1
theorem dX11_row_42 : decode cX11_row 42 = .ok (.aload_n 0, 1) := eX11_row_16.2.2.2.2.2.2.2
theorem eX11_row_24 : (decode cX11_row 43 = .ok (.iload_n 3, 1)) ∧ (decode cX11_row 44 = .ok (.invokevirtual 187, 3)) ∧ (decode cX11_row 47 = .ok (.ifCond .ne 10, 3)) ∧ (decode cX11_row 50 = .ok (.aload_n 0, 1)) ∧ (decode cX11_row 51 = .ok (.bipush (-2), 2)) ∧ (decode cX11_row 53 = .ok (.invokevirtual 173, 3)) ∧ (decode cX11_row 56 = .ok (.ireturn, 1)) ∧ (decode cX11_row 57 = .ok (.aload_n 0, 1)) := by decide +kernel
theorem dX11_row_43 : decode cX11_row 43 = .ok (.iload_n 3, 1) := eX11_row_24.1
theorem dX11_row_44 : decode cX11_row 44 = .ok (.invokevirtual 187, 3) := eX11_row_24.2.1
theorem dX11_row_47 : decode cX11_row 47 = .ok (.ifCond .ne 10, 3) := eX11_row_24.2.2.1
theorem dX11_row_50 : decode cX11_row 50 = .ok (.aload_n 0, 1) := eX11_row_24.2.2.2.1
theorem dX11_row_51 : decode cX11_row 51 = .ok (.bipush (-2), 2) := eX11_row_24.2.2.2.2.1
theorem dX11_row_53 : decode cX11_row 53 = .ok (.invokevirtual 173, 3) := eX11_row_24.2.2.2.2.2.1
theorem dX11_row_56 : decode cX11_row 56 = .ok (.ireturn, 1) := eX11_row_24.2.2.2.2.2.2.1
theorem dX11_row_57 : decode cX11_row 57 = .ok (.aload_n 0, 1) := eX11_row_24.2.2.2.2.2.2.2
theorem eX11_row_32 : (decode cX11_row 58 = .ok (.getfield 269, 3)) ∧ (decode cX11_row 61 = .ok (.bipush 100, 2)) ∧ (decode cX11_row 63 = .ok (.if_icmp .ne 10, 3)) ∧ (decode cX11_row 66 = .ok (.aload_n 0, 1)) ∧ (decode cX11_row 67 = .ok (.bipush (-5), 2)) ∧ (decode cX11_row 69 = .ok (.invokevirtual 173, 3)) ∧ (decode cX11_row 72 = .ok (.ireturn, 1)) ∧ (decode cX11_row 73 = .ok (.aload_n 0, 1)) := by decide +kernel
theorem dX11_row_58 : decode cX11_row 58 = .ok (.getfield 269, 3) := eX11_row_32.1
theorem dX11_row_61 : decode cX11_row 61 = .ok (.bipush 100, 2) := eX11_row_32.2.1
theorem dX11_row_63 : decode cX11_row 63 = .ok (.if_icmp .ne 10, 3) := eX11_row_32.2.2.1
theorem dX11_row_66 : decode cX11_row 66 = .ok (.aload_n 0, 1) := eX11_row_32.2.2.2.1
theorem dX11_row_67 : decode cX11_row 67 = .ok (.bipush (-5), 2) := eX11_row_32.2.2.2.2.1
theorem dX11_row_69 : decode cX11_row 69 = .ok (.invokevirtual 173, 3) := eX11_row_32.2.2.2.2.2.1
theorem dX11_row_72 : decode cX11_row 72 = .ok (.ireturn, 1) := eX11_row_32.2.2.2.2.2.2.1
theorem dX11_row_73 : decode cX11_row 73 = .ok (.aload_n 0, 1) := eX11_row_32.2.2.2.2.2.2.2
theorem eX11_row_40 : (decode cX11_row 74 = .ok (.getfield 96, 3)) ∧ (decode cX11_row 77 = .ok (.aload_n 0, 1)) ∧ (decode cX11_row 78 = .ok (.getfield 269, 3)) ∧ (decode cX11_row 81 = .ok (.iload_n 1, 1)) ∧ (decode cX11_row 82 = .ok (.iastore, 1)) ∧ (decode cX11_row 83 = .ok (.aload_n 0, 1)) ∧ (decode cX11_row 84 = .ok (.getfield 99, 3)) ∧ (decode cX11_row 87 = .ok (.aload_n 0, 1)) := by decide +kernel
theorem dX11_row_74 : decode cX11_row 74 = .ok (.getfield 96, 3) := eX11_row_40.1
theorem dX11_row_77 : decode cX11_row 77 = .ok (.aload_n 0, 1) := eX11_row_40.2.1
theorem dX11_row_78 : decode cX11_row 78 = .ok (.getfield 269, 3) := eX11_row_40.2.2.1
theorem dX11_row_81 : decode cX11_row 81 = .ok (.iload_n 1, 1) := eX11_row_40.2.2.2.1
theorem dX11_row_82 : decode cX11_row 82 = .ok (.iastore, 1) := eX11_row_40.2.2.2.2.1
theorem dX11_row_83 : decode cX11_row 83 = .ok (.aload_n 0, 1) := eX11_row_40.2.2.2.2.2.1
theorem dX11_row_84 : decode cX11_row 84 = .ok (.getfield 99, 3) := eX11_row_40.2.2.2.2.2.2.1
theorem dX11_row_87 : decode cX11_row 87 = .ok (.aload_n 0, 1) := eX11_row_40.2.2.2.2.2.2.2
theorem eX11_row_48 : (decode cX11_row 88 = .ok (.getfield 269, 3)) ∧ (decode cX11_row 91 = .ok (.iload_n 2, 1)) ∧ (decode cX11_row 92 = .ok (.iastore, 1)) ∧ (decode cX11_row 93 = .ok (.aload_n 0, 1)) ∧ (decode cX11_row 94 = .ok (.getfield 102, 3)) ∧ (decode cX11_row 97 = .ok (.aload_n 0, 1)) ∧ (decode cX11_row 98 = .ok (.getfield 269, 3)) ∧ (decode cX11_row 101 = .ok (.iload_n 3, 1)) := by decide +kernel
theorem dX11_row_88 : decode cX11_row 88 = .ok (.getfield 269, 3) := eX11_row_48.1
theorem dX11_row_91 : decode cX11_row 91 = .ok (.iload_n 2, 1) := eX11_row_48.2.1
theorem dX11_row_92 : decode cX11_row 92 = .ok (.iastore, 1) := eX11_row_48.2.2.1
theorem dX11_row_93 : decode cX11_row 93 = .ok (.aload_n 0, 1) := eX11_row_48.2.2.2.1
theorem dX11_row_94 : decode cX11_row 94 = .ok (.getfield 102, 3) := eX11_row_48.2.2.2.2.1
theorem dX11_row_97 : decode cX11_row 97 = .ok (.aload_n 0, 1) := eX11_row_48.2.2.2.2.2.1
theorem dX11_row_98 : decode cX11_row 98 = .ok (.getfield 269, 3) := eX11_row_48.2.2.2.2.2.2.1
theorem dX11_row_101 : decode cX11_row 101 = .ok (.iload_n 3, 1) := eX11_row_48.2.2.2.2.2.2.2
theorem eX11_row_56 : (decode cX11_row 102 = .ok (.iastore, 1)) ∧ (decode cX11_row 103 = .ok (.aload_n 0, 1)) ∧ (decode cX11_row 104 = .ok (.getfield 105, 3)) ∧ (decode cX11_row 107 = .ok (.aload_n 0, 1)) ∧ (decode cX11_row 108 = .ok (.getfield 269, 3)) ∧ (decode cX11_row 111 = .ok (.iload 4, 2)) ∧ (decode cX11_row 113 = .ok (.iastore, 1)) ∧ (decode cX11_row 114 = .ok (.aload_n 0, 1)) := by decide +kernel
theorem dX11_row_102 : decode cX11_row 102 = .ok (.iastore, 1) := eX11_row_56.1
theorem dX11_row_103 : decode cX11_row 103 = .ok (.aload_n 0, 1) := eX11_row_56.2.1
theorem dX11_row_104 : decode cX11_row 104 = .ok (.getfield 105, 3) := eX11_row_56.2.2.1
theorem dX11_row_107 : decode cX11_row 107 = .ok (.aload_n 0, 1) := eX11_row_56.2.2.2.1
theorem dX11_row_108 : decode cX11_row 108 = .ok (.getfield 269, 3) := eX11_row_56.2.2.2.2.1
theorem dX11_row_111 : decode cX11_row 111 = .ok (.iload 4, 2) := eX11_row_56.2.2.2.2.2.1
theorem dX11_row_113 : decode cX11_row 113 = .ok (.iastore, 1) := eX11_row_56.2.2.2.2.2.2.1
theorem dX11_row_114 : decode cX11_row 114 = .ok (.aload_n 0, 1) := eX11_row_56.2.2.2.2.2.2.2
theorem eX11_row_64 : (decode cX11_row 115 = .ok (.dup, 1)) ∧ (decode cX11_row 116 = .ok (.getfield 269, 3)) ∧ (decode cX11_row 119 = .ok (.iconst 1, 1)) ∧ (decode cX11_row 120 = .ok (.iadd, 1)) ∧ (decode cX11_row 121 = .ok (.putfield 269, 3)) ∧ (decode cX11_row 124 = .ok (.aload_n 0, 1)) ∧ (decode cX11_row 125 = .ok (.aload_n 0, 1)) ∧ (decode cX11_row 126 = .ok (.getfield 269, 3)) := by decide +kernel
theorem dX11_row_115 : decode cX11_row 115 = .ok (.dup, 1) := eX11_row_64.1
theorem dX11_row_116 : decode cX11_row 116 = .ok (.getfield 269, 3) := eX11_row_64.2.1
theorem dX11_row_119 : decode cX11_row 119 = .ok (.iconst 1, 1) := eX11_row_64.2.2.1
theorem dX11_row_120 : decode cX11_row 120 = .ok (.iadd, 1) := eX11_row_64.2.2.2.1
theorem dX11_row_121 : decode cX11_row 121 = .ok (.putfield 269, 3) := eX11_row_64.2.2.2.2.1
theorem dX11_row_124 : decode cX11_row 124 = .ok (.aload_n 0, 1) := eX11_row_64.2.2.2.2.2.1
theorem dX11_row_125 : decode cX11_row 125 = .ok (.aload_n 0, 1) := eX11_row_64.2.2.2.2.2.2.1
theorem dX11_row_126 : decode cX11_row 126 = .ok (.getfield 269, 3) := eX11_row_64.2.2.2.2.2.2.2
theorem eX11_row_72 : (decode cX11_row 129 = .ok (.invokevirtual 173, 3)) ∧ (decode cX11_row 132 = .ok (.ireturn, 1)) := by decide +kernel
theorem dX11_row_129 : decode cX11_row 129 = .ok (.invokevirtual 173, 3) := eX11_row_72.1
theorem dX11_row_132 : decode cX11_row 132 = .ok (.ireturn, 1) := eX11_row_72.2
theorem eX11_four_0 : (decode cX11_four 0 = .ok (.bipush 24, 2)) ∧ (decode cX11_four 2 = .ok (.istore_n 2, 1)) ∧ (decode cX11_four 3 = .ok (.iload_n 2, 1)) ∧ (decode cX11_four 4 = .ok (.ifCond .lt 35, 3)) ∧ (decode cX11_four 7 = .ok (.aload_n 0, 1)) ∧ (decode cX11_four 8 = .ok (.getfield 123, 3)) ∧ (decode cX11_four 11 = .ok (.aload_n 0, 1)) ∧ (decode cX11_four 12 = .ok (.getfield 272, 3)) := by decide +kernel
theorem dX11_four_0 : decode cX11_four 0 = .ok (.bipush 24, 2) := eX11_four_0.1
theorem dX11_four_2 : decode cX11_four 2 = .ok (.istore_n 2, 1) := eX11_four_0.2.1
theorem dX11_four_3 : decode cX11_four 3 = .ok (.iload_n 2, 1) := eX11_four_0.2.2.1
theorem dX11_four_4 : decode cX11_four 4 = .ok (.ifCond .lt 35, 3) := eX11_four_0.2.2.2.1
theorem dX11_four_7 : decode cX11_four 7 = .ok (.aload_n 0, 1) := eX11_four_0.2.2.2.2.1
theorem dX11_four_8 : decode cX11_four 8 = .ok (.getfield 123, 3) := eX11_four_0.2.2.2.2.2.1
theorem dX11_four_11 : decode cX11_four 11 = .ok (.aload_n 0, 1) := eX11_four_0.2.2.2.2.2.2.1
theorem dX11_four_12 : decode cX11_four 12 = .ok (.getfield 272, 3) := eX11_four_0.2.2.2.2.2.2.2
theorem eX11_four_8 : (decode cX11_four 15 = .ok (.iload_n 1, 1)) ∧ (decode cX11_four 16 = .ok (.iload_n 2, 1)) ∧ (decode cX11_four 17 = .ok (.ishr, 1)) ∧ (decode cX11_four 18 = .ok (.sipush 255, 3)) ∧ (decode cX11_four 21 = .ok (.iand, 1)) ∧ (decode cX11_four 22 = .ok (.iastore, 1)) ∧ (decode cX11_four 23 = .ok (.aload_n 0, 1)) ∧ (decode cX11_four 24 = .ok (.dup, 1)) := by decide +kernel
theorem dX11_four_15 : decode cX11_four 15 = .ok (.iload_n 1, 1) := eX11_four_8.1
theorem dX11_four_16 : decode cX11_four 16 = .ok (.iload_n 2, 1) := eX11_four_8.2.1
theorem dX11_four_17 : decode cX11_four 17 = .ok (.ishr, 1) := eX11_four_8.2.2.1
theorem dX11_four_18 : decode cX11_four 18 = .ok (.sipush 255, 3) := eX11_four_8.2.2.2.1
theorem dX11_four_21 : decode cX11_four 21 = .ok (.iand, 1) := eX11_four_8.2.2.2.2.1
theorem dX11_four_22 : decode cX11_four 22 = .ok (.iastore, 1) := eX11_four_8.2.2.2.2.2.1
theorem dX11_four_23 : decode cX11_four 23 = .ok (.aload_n 0, 1) := eX11_four_8.2.2.2.2.2.2.1
theorem dX11_four_24 : decode cX11_four 24 = .ok (.dup, 1) := eX11_four_8.2.2.2.2.2.2.2
theorem eX11_four_16 : (decode cX11_four 25 = .ok (.getfield 272, 3)) ∧ (decode cX11_four 28 = .ok (.iconst 1, 1)) ∧ (decode cX11_four 29 = .ok (.iadd, 1)) ∧ (decode cX11_four 30 = .ok (.putfield 272, 3)) ∧ (decode cX11_four 33 = .ok (.iinc 2 (-8), 3)) ∧ (decode cX11_four 36 = .ok (.goto (-33), 3)) ∧ (decode cX11_four 39 = .ok (.return_, 1)) := by decide +kernel
theorem dX11_four_25 : decode cX11_four 25 = .ok (.getfield 272, 3) := eX11_four_16.1
theorem dX11_four_28 : decode cX11_four 28 = .ok (.iconst 1, 1) := eX11_four_16.2.1
theorem dX11_four_29 : decode cX11_four 29 = .ok (.iadd, 1) := eX11_four_16.2.2.1
theorem dX11_four_30 : decode cX11_four 30 = .ok (.putfield 272, 3) := eX11_four_16.2.2.2.1
theorem dX11_four_33 : decode cX11_four 33 = .ok (.iinc 2 (-8), 3) := eX11_four_16.2.2.2.2.1
theorem dX11_four_36 : decode cX11_four 36 = .ok (.goto (-33), 3) := eX11_four_16.2.2.2.2.2.1
theorem dX11_four_39 : decode cX11_four 39 = .ok (.return_, 1) := eX11_four_16.2.2.2.2.2.2
theorem eX11_feed_0 : (decode cX11_feed 0 = .ok (.aload_n 0, 1)) ∧ (decode cX11_feed 1 = .ok (.iconst 0, 1)) ∧ (decode cX11_feed 2 = .ok (.putfield 144, 3)) ∧ (decode cX11_feed 5 = .ok (.aload_n 0, 1)) ∧ (decode cX11_feed 6 = .ok (.getfield 272, 3)) ∧ (decode cX11_feed 9 = .ok (.bipush 20, 2)) ∧ (decode cX11_feed 11 = .ok (.iadd, 1)) ∧ (decode cX11_feed 12 = .ok (.sipush 300, 3)) := by decide +kernel
theorem dX11_feed_0 : decode cX11_feed 0 = .ok (.aload_n 0, 1) := eX11_feed_0.1
theorem dX11_feed_1 : decode cX11_feed 1 = .ok (.iconst 0, 1) := eX11_feed_0.2.1
theorem dX11_feed_2 : decode cX11_feed 2 = .ok (.putfield 144, 3) := eX11_feed_0.2.2.1
theorem dX11_feed_5 : decode cX11_feed 5 = .ok (.aload_n 0, 1) := eX11_feed_0.2.2.2.1
theorem dX11_feed_6 : decode cX11_feed 6 = .ok (.getfield 272, 3) := eX11_feed_0.2.2.2.2.1
theorem dX11_feed_9 : decode cX11_feed 9 = .ok (.bipush 20, 2) := eX11_feed_0.2.2.2.2.2.1
theorem dX11_feed_11 : decode cX11_feed 11 = .ok (.iadd, 1) := eX11_feed_0.2.2.2.2.2.2.1
theorem dX11_feed_12 : decode cX11_feed 12 = .ok (.sipush 300, 3) := eX11_feed_0.2.2.2.2.2.2.2
theorem eX11_feed_8 : (decode cX11_feed 15 = .ok (.if_icmp .le 5, 3)) ∧ (decode cX11_feed 18 = .ok (.iconst (-1), 1)) ∧ (decode cX11_feed 19 = .ok (.ireturn, 1)) ∧ (decode cX11_feed 20 = .ok (.aload_n 0, 1)) ∧ (decode cX11_feed 21 = .ok (.iload_n 1, 1)) ∧ (decode cX11_feed 22 = .ok (.invokevirtual 275, 3)) ∧ (decode cX11_feed 25 = .ok (.aload_n 0, 1)) ∧ (decode cX11_feed 26 = .ok (.iload_n 2, 1)) := by decide +kernel
theorem dX11_feed_15 : decode cX11_feed 15 = .ok (.if_icmp .le 5, 3) := eX11_feed_8.1
theorem dX11_feed_18 : decode cX11_feed 18 = .ok (.iconst (-1), 1) := eX11_feed_8.2.1
theorem dX11_feed_19 : decode cX11_feed 19 = .ok (.ireturn, 1) := eX11_feed_8.2.2.1
theorem dX11_feed_20 : decode cX11_feed 20 = .ok (.aload_n 0, 1) := eX11_feed_8.2.2.2.1
theorem dX11_feed_21 : decode cX11_feed 21 = .ok (.iload_n 1, 1) := eX11_feed_8.2.2.2.2.1
theorem dX11_feed_22 : decode cX11_feed 22 = .ok (.invokevirtual 275, 3) := eX11_feed_8.2.2.2.2.2.1
theorem dX11_feed_25 : decode cX11_feed 25 = .ok (.aload_n 0, 1) := eX11_feed_8.2.2.2.2.2.2.1
theorem dX11_feed_26 : decode cX11_feed 26 = .ok (.iload_n 2, 1) := eX11_feed_8.2.2.2.2.2.2.2
theorem eX11_feed_16 : (decode cX11_feed 27 = .ok (.invokevirtual 275, 3)) ∧ (decode cX11_feed 30 = .ok (.aload_n 0, 1)) ∧ (decode cX11_feed 31 = .ok (.iload_n 3, 1)) ∧ (decode cX11_feed 32 = .ok (.invokevirtual 275, 3)) ∧ (decode cX11_feed 35 = .ok (.aload_n 0, 1)) ∧ (decode cX11_feed 36 = .ok (.iload 4, 2)) ∧ (decode cX11_feed 38 = .ok (.invokevirtual 275, 3)) ∧ (decode cX11_feed 41 = .ok (.aload_n 0, 1)) := by decide +kernel
theorem dX11_feed_27 : decode cX11_feed 27 = .ok (.invokevirtual 275, 3) := eX11_feed_16.1
theorem dX11_feed_30 : decode cX11_feed 30 = .ok (.aload_n 0, 1) := eX11_feed_16.2.1
theorem dX11_feed_31 : decode cX11_feed 31 = .ok (.iload_n 3, 1) := eX11_feed_16.2.2.1
theorem dX11_feed_32 : decode cX11_feed 32 = .ok (.invokevirtual 275, 3) := eX11_feed_16.2.2.2.1
theorem dX11_feed_35 : decode cX11_feed 35 = .ok (.aload_n 0, 1) := eX11_feed_16.2.2.2.2.1
theorem dX11_feed_36 : decode cX11_feed 36 = .ok (.iload 4, 2) := eX11_feed_16.2.2.2.2.2.1
theorem dX11_feed_38 : decode cX11_feed 38 = .ok (.invokevirtual 275, 3) := eX11_feed_16.2.2.2.2.2.2.1
theorem dX11_feed_41 : decode cX11_feed 41 = .ok (.aload_n 0, 1) := eX11_feed_16.2.2.2.2.2.2.2
theorem eX11_feed_24 : (decode cX11_feed 42 = .ok (.iload 5, 2)) ∧ (decode cX11_feed 44 = .ok (.invokevirtual 275, 3)) ∧ (decode cX11_feed 47 = .ok (.aload_n 0, 1)) ∧ (decode cX11_feed 48 = .ok (.getfield 272, 3)) ∧ (decode cX11_feed 51 = .ok (.ireturn, 1)) := by decide +kernel
theorem dX11_feed_42 : decode cX11_feed 42 = .ok (.iload 5, 2) := eX11_feed_24.1
theorem dX11_feed_44 : decode cX11_feed 44 = .ok (.invokevirtual 275, 3) := eX11_feed_24.2.1
theorem dX11_feed_47 : decode cX11_feed 47 = .ok (.aload_n 0, 1) := eX11_feed_24.2.2.1
theorem dX11_feed_48 : decode cX11_feed 48 = .ok (.getfield 272, 3) := eX11_feed_24.2.2.2.1
theorem dX11_feed_51 : decode cX11_feed 51 = .ok (.ireturn, 1) := eX11_feed_24.2.2.2.2
theorem eX11_end_0 : (decode cX11_end 0 = .ok (.aload_n 0, 1)) ∧ (decode cX11_end 1 = .ok (.iconst 0, 1)) ∧ (decode cX11_end 2 = .ok (.putfield 144, 3)) ∧ (decode cX11_end 5 = .ok (.iload_n 1, 1)) ∧ (decode cX11_end 6 = .ok (.ifCond .lt 11, 3)) ∧ (decode cX11_end 9 = .ok (.iload_n 1, 1)) ∧ (decode cX11_end 10 = .ok (.aload_n 0, 1)) ∧ (decode cX11_end 11 = .ok (.getfield 272, 3)) := by decide +kernel
theorem dX11_end_0 : decode cX11_end 0 = .ok (.aload_n 0, 1) := eX11_end_0.1
theorem dX11_end_1 : decode cX11_end 1 = .ok (.iconst 0, 1) := eX11_end_0.2.1
theorem dX11_end_2 : decode cX11_end 2 = .ok (.putfield 144, 3) := eX11_end_0.2.2.1
theorem dX11_end_5 : decode cX11_end 5 = .ok (.iload_n 1, 1) := eX11_end_0.2.2.2.1
theorem dX11_end_6 : decode cX11_end 6 = .ok (.ifCond .lt 11, 3) := eX11_end_0.2.2.2.2.1
theorem dX11_end_9 : decode cX11_end 9 = .ok (.iload_n 1, 1) := eX11_end_0.2.2.2.2.2.1
theorem dX11_end_10 : decode cX11_end 10 = .ok (.aload_n 0, 1) := eX11_end_0.2.2.2.2.2.2.1
theorem dX11_end_11 : decode cX11_end 11 = .ok (.getfield 272, 3) := eX11_end_0.2.2.2.2.2.2.2
theorem eX11_end_8 : (decode cX11_end 14 = .ok (.if_icmp .le 5, 3)) ∧ (decode cX11_end 17 = .ok (.iconst (-1), 1)) ∧ (decode cX11_end 18 = .ok (.ireturn, 1)) ∧ (decode cX11_end 19 = .ok (.aload_n 0, 1)) ∧ (decode cX11_end 20 = .ok (.iload_n 1, 1)) ∧ (decode cX11_end 21 = .ok (.putfield 272, 3)) ∧ (decode cX11_end 24 = .ok (.iload_n 1, 1)) ∧ (decode cX11_end 25 = .ok (.ireturn, 1)) := by decide +kernel
theorem dX11_end_14 : decode cX11_end 14 = .ok (.if_icmp .le 5, 3) := eX11_end_8.1
theorem dX11_end_17 : decode cX11_end 17 = .ok (.iconst (-1), 1) := eX11_end_8.2.1
theorem dX11_end_18 : decode cX11_end 18 = .ok (.ireturn, 1) := eX11_end_8.2.2.1
theorem dX11_end_19 : decode cX11_end 19 = .ok (.aload_n 0, 1) := eX11_end_8.2.2.2.1
theorem dX11_end_20 : decode cX11_end 20 = .ok (.iload_n 1, 1) := eX11_end_8.2.2.2.2.1
theorem dX11_end_21 : decode cX11_end 21 = .ok (.putfield 272, 3) := eX11_end_8.2.2.2.2.2.1
theorem dX11_end_24 : decode cX11_end 24 = .ok (.iload_n 1, 1) := eX11_end_8.2.2.2.2.2.2.1
theorem dX11_end_25 : decode cX11_end 25 = .ok (.ireturn, 1) := eX11_end_8.2.2.2.2.2.2.2
theorem eX11_isSmall_0 : (decode cX11_isSmall 0 = .ok (.iload_n 0, 1)) ∧ (decode cX11_isSmall 1 = .ok (.bipush 97, 2)) ∧ (decode cX11_isSmall 3 = .ok (.if_icmp .lt 13, 3)) ∧ (decode cX11_isSmall 6 = .ok (.iload_n 0, 1)) ∧ (decode cX11_isSmall 7 = .ok (.bipush 122, 2)) ∧ (decode cX11_isSmall 9 = .ok (.if_icmp .gt 7, 3)) ∧ (decode cX11_isSmall 12 = .ok (.iconst 1, 1)) ∧ (decode cX11_isSmall 13 = .ok (.goto 4, 3)) := by decide +kernel
theorem dX11_isSmall_0 : decode cX11_isSmall 0 = .ok (.iload_n 0, 1) := eX11_isSmall_0.1
theorem dX11_isSmall_1 : decode cX11_isSmall 1 = .ok (.bipush 97, 2) := eX11_isSmall_0.2.1
theorem dX11_isSmall_3 : decode cX11_isSmall 3 = .ok (.if_icmp .lt 13, 3) := eX11_isSmall_0.2.2.1
theorem dX11_isSmall_6 : decode cX11_isSmall 6 = .ok (.iload_n 0, 1) := eX11_isSmall_0.2.2.2.1
theorem dX11_isSmall_7 : decode cX11_isSmall 7 = .ok (.bipush 122, 2) := eX11_isSmall_0.2.2.2.2.1
theorem dX11_isSmall_9 : decode cX11_isSmall 9 = .ok (.if_icmp .gt 7, 3) := eX11_isSmall_0.2.2.2.2.2.1
theorem dX11_isSmall_12 : decode cX11_isSmall 12 = .ok (.iconst 1, 1) := eX11_isSmall_0.2.2.2.2.2.2.1
theorem dX11_isSmall_13 : decode cX11_isSmall 13 = .ok (.goto 4, 3) := eX11_isSmall_0.2.2.2.2.2.2.2
theorem eX11_isSmall_8 : (decode cX11_isSmall 16 = .ok (.iconst 0, 1)) ∧ (decode cX11_isSmall 17 = .ok (.ireturn, 1)) := by decide +kernel
theorem dX11_isSmall_16 : decode cX11_isSmall 16 = .ok (.iconst 0, 1) := eX11_isSmall_8.1
theorem dX11_isSmall_17 : decode cX11_isSmall 17 = .ok (.ireturn, 1) := eX11_isSmall_8.2
theorem eX11_isDigit_0 : (decode cX11_isDigit 0 = .ok (.iload_n 0, 1)) ∧ (decode cX11_isDigit 1 = .ok (.bipush 48, 2)) ∧ (decode cX11_isDigit 3 = .ok (.if_icmp .lt 13, 3)) ∧ (decode cX11_isDigit 6 = .ok (.iload_n 0, 1)) ∧ (decode cX11_isDigit 7 = .ok (.bipush 57, 2)) ∧ (decode cX11_isDigit 9 = .ok (.if_icmp .gt 7, 3)) ∧ (decode cX11_isDigit 12 = .ok (.iconst 1, 1)) ∧ (decode cX11_isDigit 13 = .ok (.goto 4, 3)) := by decide +kernel
theorem dX11_isDigit_0 : decode cX11_isDigit 0 = .ok (.iload_n 0, 1) := eX11_isDigit_0.1
theorem dX11_isDigit_1 : decode cX11_isDigit 1 = .ok (.bipush 48, 2) := eX11_isDigit_0.2.1
theorem dX11_isDigit_3 : decode cX11_isDigit 3 = .ok (.if_icmp .lt 13, 3) := eX11_isDigit_0.2.2.1
theorem dX11_isDigit_6 : decode cX11_isDigit 6 = .ok (.iload_n 0, 1) := eX11_isDigit_0.2.2.2.1
theorem dX11_isDigit_7 : decode cX11_isDigit 7 = .ok (.bipush 57, 2) := eX11_isDigit_0.2.2.2.2.1
theorem dX11_isDigit_9 : decode cX11_isDigit 9 = .ok (.if_icmp .gt 7, 3) := eX11_isDigit_0.2.2.2.2.2.1
theorem dX11_isDigit_12 : decode cX11_isDigit 12 = .ok (.iconst 1, 1) := eX11_isDigit_0.2.2.2.2.2.2.1
theorem dX11_isDigit_13 : decode cX11_isDigit 13 = .ok (.goto 4, 3) := eX11_isDigit_0.2.2.2.2.2.2.2
theorem eX11_isDigit_8 : (decode cX11_isDigit 16 = .ok (.iconst 0, 1)) ∧ (decode cX11_isDigit 17 = .ok (.ireturn, 1)) := by decide +kernel
theorem dX11_isDigit_16 : decode cX11_isDigit 16 = .ok (.iconst 0, 1) := eX11_isDigit_8.1
theorem dX11_isDigit_17 : decode cX11_isDigit 17 = .ok (.ireturn, 1) := eX11_isDigit_8.2
theorem eX11_next_0 : (decode cX11_next 0 = .ok (.aload_n 0, 1)) ∧ (decode cX11_next 1 = .ok (.aload_n 0, 1)) ∧ (decode cX11_next 2 = .ok (.getfield 279, 3)) ∧ (decode cX11_next 5 = .ok (.putfield 282, 3)) ∧ (decode cX11_next 8 = .ok (.aload_n 0, 1)) ∧ (decode cX11_next 9 = .ok (.getfield 282, 3)) ∧ (decode cX11_next 12 = .ok (.aload_n 0, 1)) ∧ (decode cX11_next 13 = .ok (.getfield 272, 3)) := by decide +kernel
theorem dX11_next_0 : decode cX11_next 0 = .ok (.aload_n 0, 1) := eX11_next_0.1
theorem dX11_next_1 : decode cX11_next 1 = .ok (.aload_n 0, 1) := eX11_next_0.2.1
theorem dX11_next_2 : decode cX11_next 2 = .ok (.getfield 279, 3) := eX11_next_0.2.2.1
theorem dX11_next_5 : decode cX11_next 5 = .ok (.putfield 282, 3) := eX11_next_0.2.2.2.1
theorem dX11_next_8 : decode cX11_next 8 = .ok (.aload_n 0, 1) := eX11_next_0.2.2.2.2.1
theorem dX11_next_9 : decode cX11_next 9 = .ok (.getfield 282, 3) := eX11_next_0.2.2.2.2.2.1
theorem dX11_next_12 : decode cX11_next 12 = .ok (.aload_n 0, 1) := eX11_next_0.2.2.2.2.2.2.1
theorem dX11_next_13 : decode cX11_next 13 = .ok (.getfield 272, 3) := eX11_next_0.2.2.2.2.2.2.2
theorem eX11_next_8 : (decode cX11_next 16 = .ok (.if_icmp .ge 30, 3)) ∧ (decode cX11_next 19 = .ok (.aload_n 0, 1)) ∧ (decode cX11_next 20 = .ok (.getfield 123, 3)) ∧ (decode cX11_next 23 = .ok (.aload_n 0, 1)) ∧ (decode cX11_next 24 = .ok (.getfield 282, 3)) ∧ (decode cX11_next 27 = .ok (.iaload, 1)) ∧ (decode cX11_next 28 = .ok (.bipush 32, 2)) ∧ (decode cX11_next 30 = .ok (.if_icmp .ne 16, 3)) := by decide +kernel
theorem dX11_next_16 : decode cX11_next 16 = .ok (.if_icmp .ge 30, 3) := eX11_next_8.1
theorem dX11_next_19 : decode cX11_next 19 = .ok (.aload_n 0, 1) := eX11_next_8.2.1
theorem dX11_next_20 : decode cX11_next 20 = .ok (.getfield 123, 3) := eX11_next_8.2.2.1
theorem dX11_next_23 : decode cX11_next 23 = .ok (.aload_n 0, 1) := eX11_next_8.2.2.2.1
theorem dX11_next_24 : decode cX11_next 24 = .ok (.getfield 282, 3) := eX11_next_8.2.2.2.2.1
theorem dX11_next_27 : decode cX11_next 27 = .ok (.iaload, 1) := eX11_next_8.2.2.2.2.2.1
theorem dX11_next_28 : decode cX11_next 28 = .ok (.bipush 32, 2) := eX11_next_8.2.2.2.2.2.2.1
theorem dX11_next_30 : decode cX11_next 30 = .ok (.if_icmp .ne 16, 3) := eX11_next_8.2.2.2.2.2.2.2
theorem eX11_next_16 : (decode cX11_next 33 = .ok (.aload_n 0, 1)) ∧ (decode cX11_next 34 = .ok (.dup, 1)) ∧ (decode cX11_next 35 = .ok (.getfield 282, 3)) ∧ (decode cX11_next 38 = .ok (.iconst 1, 1)) ∧ (decode cX11_next 39 = .ok (.iadd, 1)) ∧ (decode cX11_next 40 = .ok (.putfield 282, 3)) ∧ (decode cX11_next 43 = .ok (.goto (-35), 3)) ∧ (decode cX11_next 46 = .ok (.aload_n 0, 1)) := by decide +kernel
theorem dX11_next_33 : decode cX11_next 33 = .ok (.aload_n 0, 1) := eX11_next_16.1
theorem dX11_next_34 : decode cX11_next 34 = .ok (.dup, 1) := eX11_next_16.2.1
theorem dX11_next_35 : decode cX11_next 35 = .ok (.getfield 282, 3) := eX11_next_16.2.2.1
theorem dX11_next_38 : decode cX11_next 38 = .ok (.iconst 1, 1) := eX11_next_16.2.2.2.1
theorem dX11_next_39 : decode cX11_next 39 = .ok (.iadd, 1) := eX11_next_16.2.2.2.2.1
theorem dX11_next_40 : decode cX11_next 40 = .ok (.putfield 282, 3) := eX11_next_16.2.2.2.2.2.1
theorem dX11_next_43 : decode cX11_next 43 = .ok (.goto (-35), 3) := eX11_next_16.2.2.2.2.2.2.1
theorem dX11_next_46 : decode cX11_next 46 = .ok (.aload_n 0, 1) := eX11_next_16.2.2.2.2.2.2.2
theorem eX11_next_24 : (decode cX11_next 47 = .ok (.aload_n 0, 1)) ∧ (decode cX11_next 48 = .ok (.getfield 282, 3)) ∧ (decode cX11_next 51 = .ok (.putfield 279, 3)) ∧ (decode cX11_next 54 = .ok (.aload_n 0, 1)) ∧ (decode cX11_next 55 = .ok (.lconst 0, 1)) ∧ (decode cX11_next 56 = .ok (.putfield 285, 3)) ∧ (decode cX11_next 59 = .ok (.aload_n 0, 1)) ∧ (decode cX11_next 60 = .ok (.aload_n 0, 1)) := by decide +kernel
theorem dX11_next_47 : decode cX11_next 47 = .ok (.aload_n 0, 1) := eX11_next_24.1
theorem dX11_next_48 : decode cX11_next 48 = .ok (.getfield 282, 3) := eX11_next_24.2.1
theorem dX11_next_51 : decode cX11_next 51 = .ok (.putfield 279, 3) := eX11_next_24.2.2.1
theorem dX11_next_54 : decode cX11_next 54 = .ok (.aload_n 0, 1) := eX11_next_24.2.2.2.1
theorem dX11_next_55 : decode cX11_next 55 = .ok (.lconst 0, 1) := eX11_next_24.2.2.2.2.1
theorem dX11_next_56 : decode cX11_next 56 = .ok (.putfield 285, 3) := eX11_next_24.2.2.2.2.2.1
theorem dX11_next_59 : decode cX11_next 59 = .ok (.aload_n 0, 1) := eX11_next_24.2.2.2.2.2.2.1
theorem dX11_next_60 : decode cX11_next 60 = .ok (.aload_n 0, 1) := eX11_next_24.2.2.2.2.2.2.2
theorem eX11_next_32 : (decode cX11_next 61 = .ok (.getfield 282, 3)) ∧ (decode cX11_next 64 = .ok (.aload_n 0, 1)) ∧ (decode cX11_next 65 = .ok (.getfield 272, 3)) ∧ (decode cX11_next 68 = .ok (.if_icmp .ne 7, 3)) ∧ (decode cX11_next 71 = .ok (.iconst 0, 1)) ∧ (decode cX11_next 72 = .ok (.goto 42, 3)) ∧ (decode cX11_next 75 = .ok (.aload_n 0, 1)) ∧ (decode cX11_next 76 = .ok (.getfield 123, 3)) := by decide +kernel
theorem dX11_next_61 : decode cX11_next 61 = .ok (.getfield 282, 3) := eX11_next_32.1
theorem dX11_next_64 : decode cX11_next 64 = .ok (.aload_n 0, 1) := eX11_next_32.2.1
theorem dX11_next_65 : decode cX11_next 65 = .ok (.getfield 272, 3) := eX11_next_32.2.2.1
theorem dX11_next_68 : decode cX11_next 68 = .ok (.if_icmp .ne 7, 3) := eX11_next_32.2.2.2.1
theorem dX11_next_71 : decode cX11_next 71 = .ok (.iconst 0, 1) := eX11_next_32.2.2.2.2.1
theorem dX11_next_72 : decode cX11_next 72 = .ok (.goto 42, 3) := eX11_next_32.2.2.2.2.2.1
theorem dX11_next_75 : decode cX11_next 75 = .ok (.aload_n 0, 1) := eX11_next_32.2.2.2.2.2.2.1
theorem dX11_next_76 : decode cX11_next 76 = .ok (.getfield 123, 3) := eX11_next_32.2.2.2.2.2.2.2
theorem eX11_next_40 : (decode cX11_next 79 = .ok (.aload_n 0, 1)) ∧ (decode cX11_next 80 = .ok (.getfield 282, 3)) ∧ (decode cX11_next 83 = .ok (.iaload, 1)) ∧ (decode cX11_next 84 = .ok (.invokestatic 289, 3)) ∧ (decode cX11_next 87 = .ok (.ifCond .eq 7, 3)) ∧ (decode cX11_next 90 = .ok (.iconst 1, 1)) ∧ (decode cX11_next 91 = .ok (.goto 23, 3)) ∧ (decode cX11_next 94 = .ok (.aload_n 0, 1)) := by decide +kernel
theorem dX11_next_79 : decode cX11_next 79 = .ok (.aload_n 0, 1) := eX11_next_40.1
theorem dX11_next_80 : decode cX11_next 80 = .ok (.getfield 282, 3) := eX11_next_40.2.1
theorem dX11_next_83 : decode cX11_next 83 = .ok (.iaload, 1) := eX11_next_40.2.2.1
theorem dX11_next_84 : decode cX11_next 84 = .ok (.invokestatic 289, 3) := eX11_next_40.2.2.2.1
theorem dX11_next_87 : decode cX11_next 87 = .ok (.ifCond .eq 7, 3) := eX11_next_40.2.2.2.2.1
theorem dX11_next_90 : decode cX11_next 90 = .ok (.iconst 1, 1) := eX11_next_40.2.2.2.2.2.1
theorem dX11_next_91 : decode cX11_next 91 = .ok (.goto 23, 3) := eX11_next_40.2.2.2.2.2.2.1
theorem dX11_next_94 : decode cX11_next 94 = .ok (.aload_n 0, 1) := eX11_next_40.2.2.2.2.2.2.2
theorem eX11_next_48 : (decode cX11_next 95 = .ok (.getfield 123, 3)) ∧ (decode cX11_next 98 = .ok (.aload_n 0, 1)) ∧ (decode cX11_next 99 = .ok (.getfield 282, 3)) ∧ (decode cX11_next 102 = .ok (.iaload, 1)) ∧ (decode cX11_next 103 = .ok (.invokestatic 292, 3)) ∧ (decode cX11_next 106 = .ok (.ifCond .eq 7, 3)) ∧ (decode cX11_next 109 = .ok (.iconst 2, 1)) ∧ (decode cX11_next 110 = .ok (.goto 4, 3)) := by decide +kernel
theorem dX11_next_95 : decode cX11_next 95 = .ok (.getfield 123, 3) := eX11_next_48.1
theorem dX11_next_98 : decode cX11_next 98 = .ok (.aload_n 0, 1) := eX11_next_48.2.1
theorem dX11_next_99 : decode cX11_next 99 = .ok (.getfield 282, 3) := eX11_next_48.2.2.1
theorem dX11_next_102 : decode cX11_next 102 = .ok (.iaload, 1) := eX11_next_48.2.2.2.1
theorem dX11_next_103 : decode cX11_next 103 = .ok (.invokestatic 292, 3) := eX11_next_48.2.2.2.2.1
theorem dX11_next_106 : decode cX11_next 106 = .ok (.ifCond .eq 7, 3) := eX11_next_48.2.2.2.2.2.1
theorem dX11_next_109 : decode cX11_next 109 = .ok (.iconst 2, 1) := eX11_next_48.2.2.2.2.2.2.1
theorem dX11_next_110 : decode cX11_next 110 = .ok (.goto 4, 3) := eX11_next_48.2.2.2.2.2.2.2
theorem eX11_next_56 : (decode cX11_next 113 = .ok (.iconst 3, 1)) ∧ (decode cX11_next 114 = .ok (.putfield 295, 3)) ∧ (decode cX11_next 117 = .ok (.aload_n 0, 1)) ∧ (decode cX11_next 118 = .ok (.getfield 295, 3)) ∧ (decode cX11_next 121 = .ok (.iconst 3, 1)) ∧ (decode cX11_next 122 = .ok (.if_icmp .ne 27, 3)) ∧ (decode cX11_next 125 = .ok (.aload_n 0, 1)) ∧ (decode cX11_next 126 = .ok (.aload_n 0, 1)) := by decide +kernel
theorem dX11_next_113 : decode cX11_next 113 = .ok (.iconst 3, 1) := eX11_next_56.1
theorem dX11_next_114 : decode cX11_next 114 = .ok (.putfield 295, 3) := eX11_next_56.2.1
theorem dX11_next_117 : decode cX11_next 117 = .ok (.aload_n 0, 1) := eX11_next_56.2.2.1
theorem dX11_next_118 : decode cX11_next 118 = .ok (.getfield 295, 3) := eX11_next_56.2.2.2.1
theorem dX11_next_121 : decode cX11_next 121 = .ok (.iconst 3, 1) := eX11_next_56.2.2.2.2.1
theorem dX11_next_122 : decode cX11_next 122 = .ok (.if_icmp .ne 27, 3) := eX11_next_56.2.2.2.2.2.1
theorem dX11_next_125 : decode cX11_next 125 = .ok (.aload_n 0, 1) := eX11_next_56.2.2.2.2.2.2.1
theorem dX11_next_126 : decode cX11_next 126 = .ok (.aload_n 0, 1) := eX11_next_56.2.2.2.2.2.2.2
theorem eX11_next_64 : (decode cX11_next 127 = .ok (.getfield 123, 3)) ∧ (decode cX11_next 130 = .ok (.aload_n 0, 1)) ∧ (decode cX11_next 131 = .ok (.getfield 282, 3)) ∧ (decode cX11_next 134 = .ok (.iaload, 1)) ∧ (decode cX11_next 135 = .ok (.i2l, 1)) ∧ (decode cX11_next 136 = .ok (.putfield 285, 3)) ∧ (decode cX11_next 139 = .ok (.aload_n 0, 1)) ∧ (decode cX11_next 140 = .ok (.dup, 1)) := by decide +kernel
theorem dX11_next_127 : decode cX11_next 127 = .ok (.getfield 123, 3) := eX11_next_64.1
theorem dX11_next_130 : decode cX11_next 130 = .ok (.aload_n 0, 1) := eX11_next_64.2.1
theorem dX11_next_131 : decode cX11_next 131 = .ok (.getfield 282, 3) := eX11_next_64.2.2.1
theorem dX11_next_134 : decode cX11_next 134 = .ok (.iaload, 1) := eX11_next_64.2.2.2.1
theorem dX11_next_135 : decode cX11_next 135 = .ok (.i2l, 1) := eX11_next_64.2.2.2.2.1
theorem dX11_next_136 : decode cX11_next 136 = .ok (.putfield 285, 3) := eX11_next_64.2.2.2.2.2.1
theorem dX11_next_139 : decode cX11_next 139 = .ok (.aload_n 0, 1) := eX11_next_64.2.2.2.2.2.2.1
theorem dX11_next_140 : decode cX11_next 140 = .ok (.dup, 1) := eX11_next_64.2.2.2.2.2.2.2
theorem eX11_next_72 : (decode cX11_next 141 = .ok (.getfield 279, 3)) ∧ (decode cX11_next 144 = .ok (.iconst 1, 1)) ∧ (decode cX11_next 145 = .ok (.iadd, 1)) ∧ (decode cX11_next 146 = .ok (.putfield 279, 3)) ∧ (decode cX11_next 149 = .ok (.aload_n 0, 1)) ∧ (decode cX11_next 150 = .ok (.getfield 295, 3)) ∧ (decode cX11_next 153 = .ok (.iconst 1, 1)) ∧ (decode cX11_next 154 = .ok (.if_icmp .ne 89, 3)) := by decide +kernel
theorem dX11_next_141 : decode cX11_next 141 = .ok (.getfield 279, 3) := eX11_next_72.1
theorem dX11_next_144 : decode cX11_next 144 = .ok (.iconst 1, 1) := eX11_next_72.2.1
theorem dX11_next_145 : decode cX11_next 145 = .ok (.iadd, 1) := eX11_next_72.2.2.1
theorem dX11_next_146 : decode cX11_next 146 = .ok (.putfield 279, 3) := eX11_next_72.2.2.2.1
theorem dX11_next_149 : decode cX11_next 149 = .ok (.aload_n 0, 1) := eX11_next_72.2.2.2.2.1
theorem dX11_next_150 : decode cX11_next 150 = .ok (.getfield 295, 3) := eX11_next_72.2.2.2.2.2.1
theorem dX11_next_153 : decode cX11_next 153 = .ok (.iconst 1, 1) := eX11_next_72.2.2.2.2.2.2.1
theorem dX11_next_154 : decode cX11_next 154 = .ok (.if_icmp .ne 89, 3) := eX11_next_72.2.2.2.2.2.2.2
theorem eX11_next_80 : (decode cX11_next 157 = .ok (.aload_n 0, 1)) ∧ (decode cX11_next 158 = .ok (.getfield 279, 3)) ∧ (decode cX11_next 161 = .ok (.aload_n 0, 1)) ∧ (decode cX11_next 162 = .ok (.getfield 272, 3)) ∧ (decode cX11_next 165 = .ok (.if_icmp .ge 78, 3)) ∧ (decode cX11_next 168 = .ok (.aload_n 0, 1)) ∧ (decode cX11_next 169 = .ok (.getfield 123, 3)) ∧ (decode cX11_next 172 = .ok (.aload_n 0, 1)) := by decide +kernel
theorem dX11_next_157 : decode cX11_next 157 = .ok (.aload_n 0, 1) := eX11_next_80.1
theorem dX11_next_158 : decode cX11_next 158 = .ok (.getfield 279, 3) := eX11_next_80.2.1
theorem dX11_next_161 : decode cX11_next 161 = .ok (.aload_n 0, 1) := eX11_next_80.2.2.1
theorem dX11_next_162 : decode cX11_next 162 = .ok (.getfield 272, 3) := eX11_next_80.2.2.2.1
theorem dX11_next_165 : decode cX11_next 165 = .ok (.if_icmp .ge 78, 3) := eX11_next_80.2.2.2.2.1
theorem dX11_next_168 : decode cX11_next 168 = .ok (.aload_n 0, 1) := eX11_next_80.2.2.2.2.2.1
theorem dX11_next_169 : decode cX11_next 169 = .ok (.getfield 123, 3) := eX11_next_80.2.2.2.2.2.2.1
theorem dX11_next_172 : decode cX11_next 172 = .ok (.aload_n 0, 1) := eX11_next_80.2.2.2.2.2.2.2
theorem eX11_next_88 : (decode cX11_next 173 = .ok (.getfield 279, 3)) ∧ (decode cX11_next 176 = .ok (.iaload, 1)) ∧ (decode cX11_next 177 = .ok (.invokestatic 289, 3)) ∧ (decode cX11_next 180 = .ok (.ifCond .eq 63, 3)) ∧ (decode cX11_next 183 = .ok (.aload_n 0, 1)) ∧ (decode cX11_next 184 = .ok (.aload_n 0, 1)) ∧ (decode cX11_next 185 = .ok (.getfield 279, 3)) ∧ (decode cX11_next 188 = .ok (.aload_n 0, 1)) := by decide +kernel
theorem dX11_next_173 : decode cX11_next 173 = .ok (.getfield 279, 3) := eX11_next_88.1
theorem dX11_next_176 : decode cX11_next 176 = .ok (.iaload, 1) := eX11_next_88.2.1
theorem dX11_next_177 : decode cX11_next 177 = .ok (.invokestatic 289, 3) := eX11_next_88.2.2.1
theorem dX11_next_180 : decode cX11_next 180 = .ok (.ifCond .eq 63, 3) := eX11_next_88.2.2.2.1
theorem dX11_next_183 : decode cX11_next 183 = .ok (.aload_n 0, 1) := eX11_next_88.2.2.2.2.1
theorem dX11_next_184 : decode cX11_next 184 = .ok (.aload_n 0, 1) := eX11_next_88.2.2.2.2.2.1
theorem dX11_next_185 : decode cX11_next 185 = .ok (.getfield 279, 3) := eX11_next_88.2.2.2.2.2.2.1
theorem dX11_next_188 : decode cX11_next 188 = .ok (.aload_n 0, 1) := eX11_next_88.2.2.2.2.2.2.2
theorem eX11_next_96 : (decode cX11_next 189 = .ok (.getfield 282, 3)) ∧ (decode cX11_next 192 = .ok (.isub, 1)) ∧ (decode cX11_next 193 = .ok (.bipush 7, 2)) ∧ (decode cX11_next 195 = .ok (.if_icmp .ge 29, 3)) ∧ (decode cX11_next 198 = .ok (.aload_n 0, 1)) ∧ (decode cX11_next 199 = .ok (.getfield 285, 3)) ∧ (decode cX11_next 202 = .ok (.ldc2_w 298, 3)) ∧ (decode cX11_next 205 = .ok (.lmul, 1)) := by decide +kernel
theorem dX11_next_189 : decode cX11_next 189 = .ok (.getfield 282, 3) := eX11_next_96.1
theorem dX11_next_192 : decode cX11_next 192 = .ok (.isub, 1) := eX11_next_96.2.1
theorem dX11_next_193 : decode cX11_next 193 = .ok (.bipush 7, 2) := eX11_next_96.2.2.1
theorem dX11_next_195 : decode cX11_next 195 = .ok (.if_icmp .ge 29, 3) := eX11_next_96.2.2.2.1
theorem dX11_next_198 : decode cX11_next 198 = .ok (.aload_n 0, 1) := eX11_next_96.2.2.2.2.1
theorem dX11_next_199 : decode cX11_next 199 = .ok (.getfield 285, 3) := eX11_next_96.2.2.2.2.2.1
theorem dX11_next_202 : decode cX11_next 202 = .ok (.ldc2_w 298, 3) := eX11_next_96.2.2.2.2.2.2.1
theorem dX11_next_205 : decode cX11_next 205 = .ok (.lmul, 1) := eX11_next_96.2.2.2.2.2.2.2
theorem eX11_next_104 : (decode cX11_next 206 = .ok (.aload_n 0, 1)) ∧ (decode cX11_next 207 = .ok (.getfield 123, 3)) ∧ (decode cX11_next 210 = .ok (.aload_n 0, 1)) ∧ (decode cX11_next 211 = .ok (.getfield 279, 3)) ∧ (decode cX11_next 214 = .ok (.iaload, 1)) ∧ (decode cX11_next 215 = .ok (.i2l, 1)) ∧ (decode cX11_next 216 = .ok (.ladd, 1)) ∧ (decode cX11_next 217 = .ok (.ldc2_w 300, 3)) := by decide +kernel
theorem dX11_next_206 : decode cX11_next 206 = .ok (.aload_n 0, 1) := eX11_next_104.1
theorem dX11_next_207 : decode cX11_next 207 = .ok (.getfield 123, 3) := eX11_next_104.2.1
theorem dX11_next_210 : decode cX11_next 210 = .ok (.aload_n 0, 1) := eX11_next_104.2.2.1
theorem dX11_next_211 : decode cX11_next 211 = .ok (.getfield 279, 3) := eX11_next_104.2.2.2.1
theorem dX11_next_214 : decode cX11_next 214 = .ok (.iaload, 1) := eX11_next_104.2.2.2.2.1
theorem dX11_next_215 : decode cX11_next 215 = .ok (.i2l, 1) := eX11_next_104.2.2.2.2.2.1
theorem dX11_next_216 : decode cX11_next 216 = .ok (.ladd, 1) := eX11_next_104.2.2.2.2.2.2.1
theorem dX11_next_217 : decode cX11_next 217 = .ok (.ldc2_w 300, 3) := eX11_next_104.2.2.2.2.2.2.2
theorem eX11_next_112 : (decode cX11_next 220 = .ok (.lsub, 1)) ∧ (decode cX11_next 221 = .ok (.goto 6, 3)) ∧ (decode cX11_next 224 = .ok (.ldc2_w 302, 3)) ∧ (decode cX11_next 227 = .ok (.putfield 285, 3)) ∧ (decode cX11_next 230 = .ok (.aload_n 0, 1)) ∧ (decode cX11_next 231 = .ok (.dup, 1)) ∧ (decode cX11_next 232 = .ok (.getfield 279, 3)) ∧ (decode cX11_next 235 = .ok (.iconst 1, 1)) := by decide +kernel
theorem dX11_next_220 : decode cX11_next 220 = .ok (.lsub, 1) := eX11_next_112.1
theorem dX11_next_221 : decode cX11_next 221 = .ok (.goto 6, 3) := eX11_next_112.2.1
theorem dX11_next_224 : decode cX11_next 224 = .ok (.ldc2_w 302, 3) := eX11_next_112.2.2.1
theorem dX11_next_227 : decode cX11_next 227 = .ok (.putfield 285, 3) := eX11_next_112.2.2.2.1
theorem dX11_next_230 : decode cX11_next 230 = .ok (.aload_n 0, 1) := eX11_next_112.2.2.2.2.1
theorem dX11_next_231 : decode cX11_next 231 = .ok (.dup, 1) := eX11_next_112.2.2.2.2.2.1
theorem dX11_next_232 : decode cX11_next 232 = .ok (.getfield 279, 3) := eX11_next_112.2.2.2.2.2.2.1
theorem dX11_next_235 : decode cX11_next 235 = .ok (.iconst 1, 1) := eX11_next_112.2.2.2.2.2.2.2
theorem eX11_next_120 : (decode cX11_next 236 = .ok (.iadd, 1)) ∧ (decode cX11_next 237 = .ok (.putfield 279, 3)) ∧ (decode cX11_next 240 = .ok (.goto (-91), 3)) ∧ (decode cX11_next 243 = .ok (.aload_n 0, 1)) ∧ (decode cX11_next 244 = .ok (.getfield 295, 3)) ∧ (decode cX11_next 247 = .ok (.iconst 2, 1)) ∧ (decode cX11_next 248 = .ok (.if_icmp .ne 87, 3)) ∧ (decode cX11_next 251 = .ok (.aload_n 0, 1)) := by decide +kernel
theorem dX11_next_236 : decode cX11_next 236 = .ok (.iadd, 1) := eX11_next_120.1
theorem dX11_next_237 : decode cX11_next 237 = .ok (.putfield 279, 3) := eX11_next_120.2.1
theorem dX11_next_240 : decode cX11_next 240 = .ok (.goto (-91), 3) := eX11_next_120.2.2.1
theorem dX11_next_243 : decode cX11_next 243 = .ok (.aload_n 0, 1) := eX11_next_120.2.2.2.1
theorem dX11_next_244 : decode cX11_next 244 = .ok (.getfield 295, 3) := eX11_next_120.2.2.2.2.1
theorem dX11_next_247 : decode cX11_next 247 = .ok (.iconst 2, 1) := eX11_next_120.2.2.2.2.2.1
theorem dX11_next_248 : decode cX11_next 248 = .ok (.if_icmp .ne 87, 3) := eX11_next_120.2.2.2.2.2.2.1
theorem dX11_next_251 : decode cX11_next 251 = .ok (.aload_n 0, 1) := eX11_next_120.2.2.2.2.2.2.2
theorem eX11_next_128 : (decode cX11_next 252 = .ok (.getfield 279, 3)) ∧ (decode cX11_next 255 = .ok (.aload_n 0, 1)) ∧ (decode cX11_next 256 = .ok (.getfield 272, 3)) ∧ (decode cX11_next 259 = .ok (.if_icmp .ge 76, 3)) ∧ (decode cX11_next 262 = .ok (.aload_n 0, 1)) ∧ (decode cX11_next 263 = .ok (.getfield 123, 3)) ∧ (decode cX11_next 266 = .ok (.aload_n 0, 1)) ∧ (decode cX11_next 267 = .ok (.getfield 279, 3)) := by decide +kernel
theorem dX11_next_252 : decode cX11_next 252 = .ok (.getfield 279, 3) := eX11_next_128.1
theorem dX11_next_255 : decode cX11_next 255 = .ok (.aload_n 0, 1) := eX11_next_128.2.1
theorem dX11_next_256 : decode cX11_next 256 = .ok (.getfield 272, 3) := eX11_next_128.2.2.1
theorem dX11_next_259 : decode cX11_next 259 = .ok (.if_icmp .ge 76, 3) := eX11_next_128.2.2.2.1
theorem dX11_next_262 : decode cX11_next 262 = .ok (.aload_n 0, 1) := eX11_next_128.2.2.2.2.1
theorem dX11_next_263 : decode cX11_next 263 = .ok (.getfield 123, 3) := eX11_next_128.2.2.2.2.2.1
theorem dX11_next_266 : decode cX11_next 266 = .ok (.aload_n 0, 1) := eX11_next_128.2.2.2.2.2.2.1
theorem dX11_next_267 : decode cX11_next 267 = .ok (.getfield 279, 3) := eX11_next_128.2.2.2.2.2.2.2
theorem eX11_next_136 : (decode cX11_next 270 = .ok (.iaload, 1)) ∧ (decode cX11_next 271 = .ok (.invokestatic 292, 3)) ∧ (decode cX11_next 274 = .ok (.ifCond .eq 61, 3)) ∧ (decode cX11_next 277 = .ok (.aload_n 0, 1)) ∧ (decode cX11_next 278 = .ok (.aload_n 0, 1)) ∧ (decode cX11_next 279 = .ok (.getfield 285, 3)) ∧ (decode cX11_next 282 = .ok (.ldc2_w 181, 3)) ∧ (decode cX11_next 285 = .ok (.lcmp, 1)) := by decide +kernel
theorem dX11_next_270 : decode cX11_next 270 = .ok (.iaload, 1) := eX11_next_136.1
theorem dX11_next_271 : decode cX11_next 271 = .ok (.invokestatic 292, 3) := eX11_next_136.2.1
theorem dX11_next_274 : decode cX11_next 274 = .ok (.ifCond .eq 61, 3) := eX11_next_136.2.2.1
theorem dX11_next_277 : decode cX11_next 277 = .ok (.aload_n 0, 1) := eX11_next_136.2.2.2.1
theorem dX11_next_278 : decode cX11_next 278 = .ok (.aload_n 0, 1) := eX11_next_136.2.2.2.2.1
theorem dX11_next_279 : decode cX11_next 279 = .ok (.getfield 285, 3) := eX11_next_136.2.2.2.2.2.1
theorem dX11_next_282 : decode cX11_next 282 = .ok (.ldc2_w 181, 3) := eX11_next_136.2.2.2.2.2.2.1
theorem dX11_next_285 : decode cX11_next 285 = .ok (.lcmp, 1) := eX11_next_136.2.2.2.2.2.2.2
theorem eX11_next_144 : (decode cX11_next 286 = .ok (.ifCond .le 10, 3)) ∧ (decode cX11_next 289 = .ok (.aload_n 0, 1)) ∧ (decode cX11_next 290 = .ok (.getfield 285, 3)) ∧ (decode cX11_next 293 = .ok (.goto 26, 3)) ∧ (decode cX11_next 296 = .ok (.aload_n 0, 1)) ∧ (decode cX11_next 297 = .ok (.getfield 285, 3)) ∧ (decode cX11_next 300 = .ok (.ldc2_w 249, 3)) ∧ (decode cX11_next 303 = .ok (.lmul, 1)) := by decide +kernel
theorem dX11_next_286 : decode cX11_next 286 = .ok (.ifCond .le 10, 3) := eX11_next_144.1
theorem dX11_next_289 : decode cX11_next 289 = .ok (.aload_n 0, 1) := eX11_next_144.2.1
theorem dX11_next_290 : decode cX11_next 290 = .ok (.getfield 285, 3) := eX11_next_144.2.2.1
theorem dX11_next_293 : decode cX11_next 293 = .ok (.goto 26, 3) := eX11_next_144.2.2.2.1
theorem dX11_next_296 : decode cX11_next 296 = .ok (.aload_n 0, 1) := eX11_next_144.2.2.2.2.1
theorem dX11_next_297 : decode cX11_next 297 = .ok (.getfield 285, 3) := eX11_next_144.2.2.2.2.2.1
theorem dX11_next_300 : decode cX11_next 300 = .ok (.ldc2_w 249, 3) := eX11_next_144.2.2.2.2.2.2.1
theorem dX11_next_303 : decode cX11_next 303 = .ok (.lmul, 1) := eX11_next_144.2.2.2.2.2.2.2
theorem eX11_next_152 : (decode cX11_next 304 = .ok (.aload_n 0, 1)) ∧ (decode cX11_next 305 = .ok (.getfield 123, 3)) ∧ (decode cX11_next 308 = .ok (.aload_n 0, 1)) ∧ (decode cX11_next 309 = .ok (.getfield 279, 3)) ∧ (decode cX11_next 312 = .ok (.iaload, 1)) ∧ (decode cX11_next 313 = .ok (.i2l, 1)) ∧ (decode cX11_next 314 = .ok (.ladd, 1)) ∧ (decode cX11_next 315 = .ok (.ldc2_w 304, 3)) := by decide +kernel
theorem dX11_next_304 : decode cX11_next 304 = .ok (.aload_n 0, 1) := eX11_next_152.1
theorem dX11_next_305 : decode cX11_next 305 = .ok (.getfield 123, 3) := eX11_next_152.2.1
theorem dX11_next_308 : decode cX11_next 308 = .ok (.aload_n 0, 1) := eX11_next_152.2.2.1
theorem dX11_next_309 : decode cX11_next 309 = .ok (.getfield 279, 3) := eX11_next_152.2.2.2.1
theorem dX11_next_312 : decode cX11_next 312 = .ok (.iaload, 1) := eX11_next_152.2.2.2.2.1
theorem dX11_next_313 : decode cX11_next 313 = .ok (.i2l, 1) := eX11_next_152.2.2.2.2.2.1
theorem dX11_next_314 : decode cX11_next 314 = .ok (.ladd, 1) := eX11_next_152.2.2.2.2.2.2.1
theorem dX11_next_315 : decode cX11_next 315 = .ok (.ldc2_w 304, 3) := eX11_next_152.2.2.2.2.2.2.2
theorem eX11_next_160 : (decode cX11_next 318 = .ok (.lsub, 1)) ∧ (decode cX11_next 319 = .ok (.putfield 285, 3)) ∧ (decode cX11_next 322 = .ok (.aload_n 0, 1)) ∧ (decode cX11_next 323 = .ok (.dup, 1)) ∧ (decode cX11_next 324 = .ok (.getfield 279, 3)) ∧ (decode cX11_next 327 = .ok (.iconst 1, 1)) ∧ (decode cX11_next 328 = .ok (.iadd, 1)) ∧ (decode cX11_next 329 = .ok (.putfield 279, 3)) := by decide +kernel
theorem dX11_next_318 : decode cX11_next 318 = .ok (.lsub, 1) := eX11_next_160.1
theorem dX11_next_319 : decode cX11_next 319 = .ok (.putfield 285, 3) := eX11_next_160.2.1
theorem dX11_next_322 : decode cX11_next 322 = .ok (.aload_n 0, 1) := eX11_next_160.2.2.1
theorem dX11_next_323 : decode cX11_next 323 = .ok (.dup, 1) := eX11_next_160.2.2.2.1
theorem dX11_next_324 : decode cX11_next 324 = .ok (.getfield 279, 3) := eX11_next_160.2.2.2.2.1
theorem dX11_next_327 : decode cX11_next 327 = .ok (.iconst 1, 1) := eX11_next_160.2.2.2.2.2.1
theorem dX11_next_328 : decode cX11_next 328 = .ok (.iadd, 1) := eX11_next_160.2.2.2.2.2.2.1
theorem dX11_next_329 : decode cX11_next 329 = .ok (.putfield 279, 3) := eX11_next_160.2.2.2.2.2.2.2
theorem eX11_next_168 : (decode cX11_next 332 = .ok (.goto (-89), 3)) ∧ (decode cX11_next 335 = .ok (.return_, 1)) := by decide +kernel
theorem dX11_next_332 : decode cX11_next 332 = .ok (.goto (-89), 3) := eX11_next_168.1
theorem dX11_next_335 : decode cX11_next 335 = .ok (.return_, 1) := eX11_next_168.2
theorem eX11_word_0 : (decode cX11_word 0 = .ok (.iload_n 0, 1)) ∧ (decode cX11_word 1 = .ok (.i2l, 1)) ∧ (decode cX11_word 2 = .ok (.ldc2_w 300, 3)) ∧ (decode cX11_word 5 = .ok (.lsub, 1)) ∧ (decode cX11_word 6 = .ok (.ldc2_w 298, 3)) ∧ (decode cX11_word 9 = .ok (.lmul, 1)) ∧ (decode cX11_word 10 = .ok (.iload_n 1, 1)) ∧ (decode cX11_word 11 = .ok (.i2l, 1)) := by decide +kernel
theorem dX11_word_0 : decode cX11_word 0 = .ok (.iload_n 0, 1) := eX11_word_0.1
theorem dX11_word_1 : decode cX11_word 1 = .ok (.i2l, 1) := eX11_word_0.2.1
theorem dX11_word_2 : decode cX11_word 2 = .ok (.ldc2_w 300, 3) := eX11_word_0.2.2.1
theorem dX11_word_5 : decode cX11_word 5 = .ok (.lsub, 1) := eX11_word_0.2.2.2.1
theorem dX11_word_6 : decode cX11_word 6 = .ok (.ldc2_w 298, 3) := eX11_word_0.2.2.2.2.1
theorem dX11_word_9 : decode cX11_word 9 = .ok (.lmul, 1) := eX11_word_0.2.2.2.2.2.1
theorem dX11_word_10 : decode cX11_word 10 = .ok (.iload_n 1, 1) := eX11_word_0.2.2.2.2.2.2.1
theorem dX11_word_11 : decode cX11_word 11 = .ok (.i2l, 1) := eX11_word_0.2.2.2.2.2.2.2
theorem eX11_word_8 : (decode cX11_word 12 = .ok (.ladd, 1)) ∧ (decode cX11_word 13 = .ok (.ldc2_w 300, 3)) ∧ (decode cX11_word 16 = .ok (.lsub, 1)) ∧ (decode cX11_word 17 = .ok (.lstore 6, 2)) ∧ (decode cX11_word 19 = .ok (.iload_n 2, 1)) ∧ (decode cX11_word 20 = .ok (.ifCond .ne 8, 3)) ∧ (decode cX11_word 23 = .ok (.lload 6, 2)) ∧ (decode cX11_word 25 = .ok (.goto 16, 3)) := by decide +kernel
theorem dX11_word_12 : decode cX11_word 12 = .ok (.ladd, 1) := eX11_word_8.1
theorem dX11_word_13 : decode cX11_word 13 = .ok (.ldc2_w 300, 3) := eX11_word_8.2.1
theorem dX11_word_16 : decode cX11_word 16 = .ok (.lsub, 1) := eX11_word_8.2.2.1
theorem dX11_word_17 : decode cX11_word 17 = .ok (.lstore 6, 2) := eX11_word_8.2.2.2.1
theorem dX11_word_19 : decode cX11_word 19 = .ok (.iload_n 2, 1) := eX11_word_8.2.2.2.2.1
theorem dX11_word_20 : decode cX11_word 20 = .ok (.ifCond .ne 8, 3) := eX11_word_8.2.2.2.2.2.1
theorem dX11_word_23 : decode cX11_word 23 = .ok (.lload 6, 2) := eX11_word_8.2.2.2.2.2.2.1
theorem dX11_word_25 : decode cX11_word 25 = .ok (.goto 16, 3) := eX11_word_8.2.2.2.2.2.2.2
theorem eX11_word_16 : (decode cX11_word 28 = .ok (.lload 6, 2)) ∧ (decode cX11_word 30 = .ok (.ldc2_w 298, 3)) ∧ (decode cX11_word 33 = .ok (.lmul, 1)) ∧ (decode cX11_word 34 = .ok (.iload_n 2, 1)) ∧ (decode cX11_word 35 = .ok (.i2l, 1)) ∧ (decode cX11_word 36 = .ok (.ladd, 1)) ∧ (decode cX11_word 37 = .ok (.ldc2_w 300, 3)) ∧ (decode cX11_word 40 = .ok (.lsub, 1)) := by decide +kernel
theorem dX11_word_28 : decode cX11_word 28 = .ok (.lload 6, 2) := eX11_word_16.1
theorem dX11_word_30 : decode cX11_word 30 = .ok (.ldc2_w 298, 3) := eX11_word_16.2.1
theorem dX11_word_33 : decode cX11_word 33 = .ok (.lmul, 1) := eX11_word_16.2.2.1
theorem dX11_word_34 : decode cX11_word 34 = .ok (.iload_n 2, 1) := eX11_word_16.2.2.2.1
theorem dX11_word_35 : decode cX11_word 35 = .ok (.i2l, 1) := eX11_word_16.2.2.2.2.1
theorem dX11_word_36 : decode cX11_word 36 = .ok (.ladd, 1) := eX11_word_16.2.2.2.2.2.1
theorem dX11_word_37 : decode cX11_word 37 = .ok (.ldc2_w 300, 3) := eX11_word_16.2.2.2.2.2.2.1
theorem dX11_word_40 : decode cX11_word 40 = .ok (.lsub, 1) := eX11_word_16.2.2.2.2.2.2.2
theorem eX11_word_24 : (decode cX11_word 41 = .ok (.lstore 6, 2)) ∧ (decode cX11_word 43 = .ok (.iload_n 3, 1)) ∧ (decode cX11_word 44 = .ok (.ifCond .ne 8, 3)) ∧ (decode cX11_word 47 = .ok (.lload 6, 2)) ∧ (decode cX11_word 49 = .ok (.goto 16, 3)) ∧ (decode cX11_word 52 = .ok (.lload 6, 2)) ∧ (decode cX11_word 54 = .ok (.ldc2_w 298, 3)) ∧ (decode cX11_word 57 = .ok (.lmul, 1)) := by decide +kernel
theorem dX11_word_41 : decode cX11_word 41 = .ok (.lstore 6, 2) := eX11_word_24.1
theorem dX11_word_43 : decode cX11_word 43 = .ok (.iload_n 3, 1) := eX11_word_24.2.1
theorem dX11_word_44 : decode cX11_word 44 = .ok (.ifCond .ne 8, 3) := eX11_word_24.2.2.1
theorem dX11_word_47 : decode cX11_word 47 = .ok (.lload 6, 2) := eX11_word_24.2.2.2.1
theorem dX11_word_49 : decode cX11_word 49 = .ok (.goto 16, 3) := eX11_word_24.2.2.2.2.1
theorem dX11_word_52 : decode cX11_word 52 = .ok (.lload 6, 2) := eX11_word_24.2.2.2.2.2.1
theorem dX11_word_54 : decode cX11_word 54 = .ok (.ldc2_w 298, 3) := eX11_word_24.2.2.2.2.2.2.1
theorem dX11_word_57 : decode cX11_word 57 = .ok (.lmul, 1) := eX11_word_24.2.2.2.2.2.2.2
theorem eX11_word_32 : (decode cX11_word 58 = .ok (.iload_n 3, 1)) ∧ (decode cX11_word 59 = .ok (.i2l, 1)) ∧ (decode cX11_word 60 = .ok (.ladd, 1)) ∧ (decode cX11_word 61 = .ok (.ldc2_w 300, 3)) ∧ (decode cX11_word 64 = .ok (.lsub, 1)) ∧ (decode cX11_word 65 = .ok (.lstore 6, 2)) ∧ (decode cX11_word 67 = .ok (.iload 4, 2)) ∧ (decode cX11_word 69 = .ok (.ifCond .ne 8, 3)) := by decide +kernel
theorem dX11_word_58 : decode cX11_word 58 = .ok (.iload_n 3, 1) := eX11_word_32.1
theorem dX11_word_59 : decode cX11_word 59 = .ok (.i2l, 1) := eX11_word_32.2.1
theorem dX11_word_60 : decode cX11_word 60 = .ok (.ladd, 1) := eX11_word_32.2.2.1
theorem dX11_word_61 : decode cX11_word 61 = .ok (.ldc2_w 300, 3) := eX11_word_32.2.2.2.1
theorem dX11_word_64 : decode cX11_word 64 = .ok (.lsub, 1) := eX11_word_32.2.2.2.2.1
theorem dX11_word_65 : decode cX11_word 65 = .ok (.lstore 6, 2) := eX11_word_32.2.2.2.2.2.1
theorem dX11_word_67 : decode cX11_word 67 = .ok (.iload 4, 2) := eX11_word_32.2.2.2.2.2.2.1
theorem dX11_word_69 : decode cX11_word 69 = .ok (.ifCond .ne 8, 3) := eX11_word_32.2.2.2.2.2.2.2
theorem eX11_word_40 : (decode cX11_word 72 = .ok (.lload 6, 2)) ∧ (decode cX11_word 74 = .ok (.goto 17, 3)) ∧ (decode cX11_word 77 = .ok (.lload 6, 2)) ∧ (decode cX11_word 79 = .ok (.ldc2_w 298, 3)) ∧ (decode cX11_word 82 = .ok (.lmul, 1)) ∧ (decode cX11_word 83 = .ok (.iload 4, 2)) ∧ (decode cX11_word 85 = .ok (.i2l, 1)) ∧ (decode cX11_word 86 = .ok (.ladd, 1)) := by decide +kernel
theorem dX11_word_72 : decode cX11_word 72 = .ok (.lload 6, 2) := eX11_word_40.1
theorem dX11_word_74 : decode cX11_word 74 = .ok (.goto 17, 3) := eX11_word_40.2.1
theorem dX11_word_77 : decode cX11_word 77 = .ok (.lload 6, 2) := eX11_word_40.2.2.1
theorem dX11_word_79 : decode cX11_word 79 = .ok (.ldc2_w 298, 3) := eX11_word_40.2.2.2.1
theorem dX11_word_82 : decode cX11_word 82 = .ok (.lmul, 1) := eX11_word_40.2.2.2.2.1
theorem dX11_word_83 : decode cX11_word 83 = .ok (.iload 4, 2) := eX11_word_40.2.2.2.2.2.1
theorem dX11_word_85 : decode cX11_word 85 = .ok (.i2l, 1) := eX11_word_40.2.2.2.2.2.2.1
theorem dX11_word_86 : decode cX11_word 86 = .ok (.ladd, 1) := eX11_word_40.2.2.2.2.2.2.2
theorem eX11_word_48 : (decode cX11_word 87 = .ok (.ldc2_w 300, 3)) ∧ (decode cX11_word 90 = .ok (.lsub, 1)) ∧ (decode cX11_word 91 = .ok (.lstore 6, 2)) ∧ (decode cX11_word 93 = .ok (.iload 5, 2)) ∧ (decode cX11_word 95 = .ok (.ifCond .ne 8, 3)) ∧ (decode cX11_word 98 = .ok (.lload 6, 2)) ∧ (decode cX11_word 100 = .ok (.goto 17, 3)) ∧ (decode cX11_word 103 = .ok (.lload 6, 2)) := by decide +kernel
theorem dX11_word_87 : decode cX11_word 87 = .ok (.ldc2_w 300, 3) := eX11_word_48.1
theorem dX11_word_90 : decode cX11_word 90 = .ok (.lsub, 1) := eX11_word_48.2.1
theorem dX11_word_91 : decode cX11_word 91 = .ok (.lstore 6, 2) := eX11_word_48.2.2.1
theorem dX11_word_93 : decode cX11_word 93 = .ok (.iload 5, 2) := eX11_word_48.2.2.2.1
theorem dX11_word_95 : decode cX11_word 95 = .ok (.ifCond .ne 8, 3) := eX11_word_48.2.2.2.2.1
theorem dX11_word_98 : decode cX11_word 98 = .ok (.lload 6, 2) := eX11_word_48.2.2.2.2.2.1
theorem dX11_word_100 : decode cX11_word 100 = .ok (.goto 17, 3) := eX11_word_48.2.2.2.2.2.2.1
theorem dX11_word_103 : decode cX11_word 103 = .ok (.lload 6, 2) := eX11_word_48.2.2.2.2.2.2.2
theorem eX11_word_56 : (decode cX11_word 105 = .ok (.ldc2_w 298, 3)) ∧ (decode cX11_word 108 = .ok (.lmul, 1)) ∧ (decode cX11_word 109 = .ok (.iload 5, 2)) ∧ (decode cX11_word 111 = .ok (.i2l, 1)) ∧ (decode cX11_word 112 = .ok (.ladd, 1)) ∧ (decode cX11_word 113 = .ok (.ldc2_w 300, 3)) ∧ (decode cX11_word 116 = .ok (.lsub, 1)) ∧ (decode cX11_word 117 = .ok (.lreturn, 1)) := by decide +kernel
theorem dX11_word_105 : decode cX11_word 105 = .ok (.ldc2_w 298, 3) := eX11_word_56.1
theorem dX11_word_108 : decode cX11_word 108 = .ok (.lmul, 1) := eX11_word_56.2.1
theorem dX11_word_109 : decode cX11_word 109 = .ok (.iload 5, 2) := eX11_word_56.2.2.1
theorem dX11_word_111 : decode cX11_word 111 = .ok (.i2l, 1) := eX11_word_56.2.2.2.1
theorem dX11_word_112 : decode cX11_word 112 = .ok (.ladd, 1) := eX11_word_56.2.2.2.2.1
theorem dX11_word_113 : decode cX11_word 113 = .ok (.ldc2_w 300, 3) := eX11_word_56.2.2.2.2.2.1
theorem dX11_word_116 : decode cX11_word 116 = .ok (.lsub, 1) := eX11_word_56.2.2.2.2.2.2.1
theorem dX11_word_117 : decode cX11_word 117 = .ok (.lreturn, 1) := eX11_word_56.2.2.2.2.2.2.2
theorem eX11_isWord_0 : (decode cX11_isWord 0 = .ok (.aload_n 0, 1)) ∧ (decode cX11_isWord 1 = .ok (.getfield 295, 3)) ∧ (decode cX11_isWord 4 = .ok (.iconst 1, 1)) ∧ (decode cX11_isWord 5 = .ok (.if_icmp .ne 27, 3)) ∧ (decode cX11_isWord 8 = .ok (.aload_n 0, 1)) ∧ (decode cX11_isWord 9 = .ok (.getfield 285, 3)) ∧ (decode cX11_isWord 12 = .ok (.iload_n 1, 1)) ∧ (decode cX11_isWord 13 = .ok (.iload_n 2, 1)) := by decide +kernel
theorem dX11_isWord_0 : decode cX11_isWord 0 = .ok (.aload_n 0, 1) := eX11_isWord_0.1
theorem dX11_isWord_1 : decode cX11_isWord 1 = .ok (.getfield 295, 3) := eX11_isWord_0.2.1
theorem dX11_isWord_4 : decode cX11_isWord 4 = .ok (.iconst 1, 1) := eX11_isWord_0.2.2.1
theorem dX11_isWord_5 : decode cX11_isWord 5 = .ok (.if_icmp .ne 27, 3) := eX11_isWord_0.2.2.2.1
theorem dX11_isWord_8 : decode cX11_isWord 8 = .ok (.aload_n 0, 1) := eX11_isWord_0.2.2.2.2.1
theorem dX11_isWord_9 : decode cX11_isWord 9 = .ok (.getfield 285, 3) := eX11_isWord_0.2.2.2.2.2.1
theorem dX11_isWord_12 : decode cX11_isWord 12 = .ok (.iload_n 1, 1) := eX11_isWord_0.2.2.2.2.2.2.1
theorem dX11_isWord_13 : decode cX11_isWord 13 = .ok (.iload_n 2, 1) := eX11_isWord_0.2.2.2.2.2.2.2
theorem eX11_isWord_8 : (decode cX11_isWord 14 = .ok (.iload_n 3, 1)) ∧ (decode cX11_isWord 15 = .ok (.iload 4, 2)) ∧ (decode cX11_isWord 17 = .ok (.iload 5, 2)) ∧ (decode cX11_isWord 19 = .ok (.iload 6, 2)) ∧ (decode cX11_isWord 21 = .ok (.invokestatic 306, 3)) ∧ (decode cX11_isWord 24 = .ok (.lcmp, 1)) ∧ (decode cX11_isWord 25 = .ok (.ifCond .ne 7, 3)) ∧ (decode cX11_isWord 28 = .ok (.iconst 1, 1)) := by decide +kernel
theorem dX11_isWord_14 : decode cX11_isWord 14 = .ok (.iload_n 3, 1) := eX11_isWord_8.1
theorem dX11_isWord_15 : decode cX11_isWord 15 = .ok (.iload 4, 2) := eX11_isWord_8.2.1
theorem dX11_isWord_17 : decode cX11_isWord 17 = .ok (.iload 5, 2) := eX11_isWord_8.2.2.1
theorem dX11_isWord_19 : decode cX11_isWord 19 = .ok (.iload 6, 2) := eX11_isWord_8.2.2.2.1
theorem dX11_isWord_21 : decode cX11_isWord 21 = .ok (.invokestatic 306, 3) := eX11_isWord_8.2.2.2.2.1
theorem dX11_isWord_24 : decode cX11_isWord 24 = .ok (.lcmp, 1) := eX11_isWord_8.2.2.2.2.2.1
theorem dX11_isWord_25 : decode cX11_isWord 25 = .ok (.ifCond .ne 7, 3) := eX11_isWord_8.2.2.2.2.2.2.1
theorem dX11_isWord_28 : decode cX11_isWord 28 = .ok (.iconst 1, 1) := eX11_isWord_8.2.2.2.2.2.2.2
theorem eX11_isWord_16 : (decode cX11_isWord 29 = .ok (.goto 4, 3)) ∧ (decode cX11_isWord 32 = .ok (.iconst 0, 1)) ∧ (decode cX11_isWord 33 = .ok (.ireturn, 1)) := by decide +kernel
theorem dX11_isWord_29 : decode cX11_isWord 29 = .ok (.goto 4, 3) := eX11_isWord_16.1
theorem dX11_isWord_32 : decode cX11_isWord 32 = .ok (.iconst 0, 1) := eX11_isWord_16.2.1
theorem dX11_isWord_33 : decode cX11_isWord 33 = .ok (.ireturn, 1) := eX11_isWord_16.2.2
theorem eX11_isSign_0 : (decode cX11_isSign 0 = .ok (.aload_n 0, 1)) ∧ (decode cX11_isSign 1 = .ok (.getfield 295, 3)) ∧ (decode cX11_isSign 4 = .ok (.iconst 3, 1)) ∧ (decode cX11_isSign 5 = .ok (.if_icmp .ne 17, 3)) ∧ (decode cX11_isSign 8 = .ok (.aload_n 0, 1)) ∧ (decode cX11_isSign 9 = .ok (.getfield 285, 3)) ∧ (decode cX11_isSign 12 = .ok (.iload_n 1, 1)) ∧ (decode cX11_isSign 13 = .ok (.i2l, 1)) := by decide +kernel
theorem dX11_isSign_0 : decode cX11_isSign 0 = .ok (.aload_n 0, 1) := eX11_isSign_0.1
theorem dX11_isSign_1 : decode cX11_isSign 1 = .ok (.getfield 295, 3) := eX11_isSign_0.2.1
theorem dX11_isSign_4 : decode cX11_isSign 4 = .ok (.iconst 3, 1) := eX11_isSign_0.2.2.1
theorem dX11_isSign_5 : decode cX11_isSign 5 = .ok (.if_icmp .ne 17, 3) := eX11_isSign_0.2.2.2.1
theorem dX11_isSign_8 : decode cX11_isSign 8 = .ok (.aload_n 0, 1) := eX11_isSign_0.2.2.2.2.1
theorem dX11_isSign_9 : decode cX11_isSign 9 = .ok (.getfield 285, 3) := eX11_isSign_0.2.2.2.2.2.1
theorem dX11_isSign_12 : decode cX11_isSign 12 = .ok (.iload_n 1, 1) := eX11_isSign_0.2.2.2.2.2.2.1
theorem dX11_isSign_13 : decode cX11_isSign 13 = .ok (.i2l, 1) := eX11_isSign_0.2.2.2.2.2.2.2
theorem eX11_isSign_8 : (decode cX11_isSign 14 = .ok (.lcmp, 1)) ∧ (decode cX11_isSign 15 = .ok (.ifCond .ne 7, 3)) ∧ (decode cX11_isSign 18 = .ok (.iconst 1, 1)) ∧ (decode cX11_isSign 19 = .ok (.goto 4, 3)) ∧ (decode cX11_isSign 22 = .ok (.iconst 0, 1)) ∧ (decode cX11_isSign 23 = .ok (.ireturn, 1)) := by decide +kernel
theorem dX11_isSign_14 : decode cX11_isSign 14 = .ok (.lcmp, 1) := eX11_isSign_8.1
theorem dX11_isSign_15 : decode cX11_isSign 15 = .ok (.ifCond .ne 7, 3) := eX11_isSign_8.2.1
theorem dX11_isSign_18 : decode cX11_isSign 18 = .ok (.iconst 1, 1) := eX11_isSign_8.2.2.1
theorem dX11_isSign_19 : decode cX11_isSign 19 = .ok (.goto 4, 3) := eX11_isSign_8.2.2.2.1
theorem dX11_isSign_22 : decode cX11_isSign 22 = .ok (.iconst 0, 1) := eX11_isSign_8.2.2.2.2.1
theorem dX11_isSign_23 : decode cX11_isSign 23 = .ok (.ireturn, 1) := eX11_isSign_8.2.2.2.2.2
theorem eX11_must_0 : (decode cX11_must 0 = .ok (.aload_n 0, 1)) ∧ (decode cX11_must 1 = .ok (.getfield 310, 3)) ∧ (decode cX11_must 4 = .ok (.ifCond .ne 20, 3)) ∧ (decode cX11_must 7 = .ok (.iload_n 1, 1)) ∧ (decode cX11_must 8 = .ok (.ifCond .ne 16, 3)) ∧ (decode cX11_must 11 = .ok (.aload_n 0, 1)) ∧ (decode cX11_must 12 = .ok (.iconst 1, 1)) ∧ (decode cX11_must 13 = .ok (.putfield 310, 3)) := by decide +kernel
theorem dX11_must_0 : decode cX11_must 0 = .ok (.aload_n 0, 1) := eX11_must_0.1
theorem dX11_must_1 : decode cX11_must 1 = .ok (.getfield 310, 3) := eX11_must_0.2.1
theorem dX11_must_4 : decode cX11_must 4 = .ok (.ifCond .ne 20, 3) := eX11_must_0.2.2.1
theorem dX11_must_7 : decode cX11_must 7 = .ok (.iload_n 1, 1) := eX11_must_0.2.2.2.1
theorem dX11_must_8 : decode cX11_must 8 = .ok (.ifCond .ne 16, 3) := eX11_must_0.2.2.2.2.1
theorem dX11_must_11 : decode cX11_must 11 = .ok (.aload_n 0, 1) := eX11_must_0.2.2.2.2.2.1
theorem dX11_must_12 : decode cX11_must 12 = .ok (.iconst 1, 1) := eX11_must_0.2.2.2.2.2.2.1
theorem dX11_must_13 : decode cX11_must 13 = .ok (.putfield 310, 3) := eX11_must_0.2.2.2.2.2.2.2
theorem eX11_must_8 : (decode cX11_must 16 = .ok (.aload_n 0, 1)) ∧ (decode cX11_must 17 = .ok (.aload_n 0, 1)) ∧ (decode cX11_must 18 = .ok (.getfield 282, 3)) ∧ (decode cX11_must 21 = .ok (.putfield 126, 3)) ∧ (decode cX11_must 24 = .ok (.aload_n 0, 1)) ∧ (decode cX11_must 25 = .ok (.getfield 310, 3)) ∧ (decode cX11_must 28 = .ok (.ifCond .ne 7, 3)) ∧ (decode cX11_must 31 = .ok (.aload_n 0, 1)) := by decide +kernel
theorem dX11_must_16 : decode cX11_must 16 = .ok (.aload_n 0, 1) := eX11_must_8.1
theorem dX11_must_17 : decode cX11_must 17 = .ok (.aload_n 0, 1) := eX11_must_8.2.1
theorem dX11_must_18 : decode cX11_must 18 = .ok (.getfield 282, 3) := eX11_must_8.2.2.1
theorem dX11_must_21 : decode cX11_must 21 = .ok (.putfield 126, 3) := eX11_must_8.2.2.2.1
theorem dX11_must_24 : decode cX11_must 24 = .ok (.aload_n 0, 1) := eX11_must_8.2.2.2.2.1
theorem dX11_must_25 : decode cX11_must 25 = .ok (.getfield 310, 3) := eX11_must_8.2.2.2.2.2.1
theorem dX11_must_28 : decode cX11_must 28 = .ok (.ifCond .ne 7, 3) := eX11_must_8.2.2.2.2.2.2.1
theorem dX11_must_31 : decode cX11_must 31 = .ok (.aload_n 0, 1) := eX11_must_8.2.2.2.2.2.2.2
theorem eX11_must_16 : (decode cX11_must 32 = .ok (.invokevirtual 314, 3)) ∧ (decode cX11_must 35 = .ok (.return_, 1)) := by decide +kernel
theorem dX11_must_32 : decode cX11_must 32 = .ok (.invokevirtual 314, 3) := eX11_must_16.1
theorem dX11_must_35 : decode cX11_must 35 = .ok (.return_, 1) := eX11_must_16.2
theorem eX11_mark_0 : (decode cX11_mark 0 = .ok (.aload_n 0, 1)) ∧ (decode cX11_mark 1 = .ok (.getfield 114, 3)) ∧ (decode cX11_mark 4 = .ok (.aload_n 0, 1)) ∧ (decode cX11_mark 5 = .ok (.getfield 317, 3)) ∧ (decode cX11_mark 8 = .ok (.iload_n 1, 1)) ∧ (decode cX11_mark 9 = .ok (.iastore, 1)) ∧ (decode cX11_mark 10 = .ok (.aload_n 0, 1)) ∧ (decode cX11_mark 11 = .ok (.dup, 1)) := by decide +kernel
theorem dX11_mark_0 : decode cX11_mark 0 = .ok (.aload_n 0, 1) := eX11_mark_0.1
theorem dX11_mark_1 : decode cX11_mark 1 = .ok (.getfield 114, 3) := eX11_mark_0.2.1
theorem dX11_mark_4 : decode cX11_mark 4 = .ok (.aload_n 0, 1) := eX11_mark_0.2.2.1
theorem dX11_mark_5 : decode cX11_mark 5 = .ok (.getfield 317, 3) := eX11_mark_0.2.2.2.1
theorem dX11_mark_8 : decode cX11_mark 8 = .ok (.iload_n 1, 1) := eX11_mark_0.2.2.2.2.1
theorem dX11_mark_9 : decode cX11_mark 9 = .ok (.iastore, 1) := eX11_mark_0.2.2.2.2.2.1
theorem dX11_mark_10 : decode cX11_mark 10 = .ok (.aload_n 0, 1) := eX11_mark_0.2.2.2.2.2.2.1
theorem dX11_mark_11 : decode cX11_mark 11 = .ok (.dup, 1) := eX11_mark_0.2.2.2.2.2.2.2
theorem eX11_mark_8 : (decode cX11_mark 12 = .ok (.getfield 317, 3)) ∧ (decode cX11_mark 15 = .ok (.iconst 1, 1)) ∧ (decode cX11_mark 16 = .ok (.iadd, 1)) ∧ (decode cX11_mark 17 = .ok (.putfield 317, 3)) ∧ (decode cX11_mark 20 = .ok (.return_, 1)) := by decide +kernel
theorem dX11_mark_12 : decode cX11_mark 12 = .ok (.getfield 317, 3) := eX11_mark_8.1
theorem dX11_mark_15 : decode cX11_mark 15 = .ok (.iconst 1, 1) := eX11_mark_8.2.1
theorem dX11_mark_16 : decode cX11_mark 16 = .ok (.iadd, 1) := eX11_mark_8.2.2.1
theorem dX11_mark_17 : decode cX11_mark 17 = .ok (.putfield 317, 3) := eX11_mark_8.2.2.2.1
theorem dX11_mark_20 : decode cX11_mark 20 = .ok (.return_, 1) := eX11_mark_8.2.2.2.2
theorem eX11_settle_0 : (decode cX11_settle 0 = .ok (.aload_n 0, 1)) ∧ (decode cX11_settle 1 = .ok (.getfield 320, 3)) ∧ (decode cX11_settle 4 = .ok (.ifCond .le 60, 3)) ∧ (decode cX11_settle 7 = .ok (.aload_n 0, 1)) ∧ (decode cX11_settle 8 = .ok (.getfield 120, 3)) ∧ (decode cX11_settle 11 = .ok (.aload_n 0, 1)) ∧ (decode cX11_settle 12 = .ok (.getfield 320, 3)) ∧ (decode cX11_settle 15 = .ok (.iconst 1, 1)) := by decide +kernel
theorem dX11_settle_0 : decode cX11_settle 0 = .ok (.aload_n 0, 1) := eX11_settle_0.1
theorem dX11_settle_1 : decode cX11_settle 1 = .ok (.getfield 320, 3) := eX11_settle_0.2.1
theorem dX11_settle_4 : decode cX11_settle 4 = .ok (.ifCond .le 60, 3) := eX11_settle_0.2.2.1
theorem dX11_settle_7 : decode cX11_settle 7 = .ok (.aload_n 0, 1) := eX11_settle_0.2.2.2.1
theorem dX11_settle_8 : decode cX11_settle 8 = .ok (.getfield 120, 3) := eX11_settle_0.2.2.2.2.1
theorem dX11_settle_11 : decode cX11_settle 11 = .ok (.aload_n 0, 1) := eX11_settle_0.2.2.2.2.2.1
theorem dX11_settle_12 : decode cX11_settle 12 = .ok (.getfield 320, 3) := eX11_settle_0.2.2.2.2.2.2.1
theorem dX11_settle_15 : decode cX11_settle 15 = .ok (.iconst 1, 1) := eX11_settle_0.2.2.2.2.2.2.2
theorem eX11_settle_8 : (decode cX11_settle 16 = .ok (.isub, 1)) ∧ (decode cX11_settle 17 = .ok (.iaload, 1)) ∧ (decode cX11_settle 18 = .ok (.bipush (-6), 2)) ∧ (decode cX11_settle 20 = .ok (.if_icmp .eq 44, 3)) ∧ (decode cX11_settle 23 = .ok (.aload_n 0, 1)) ∧ (decode cX11_settle 24 = .ok (.getfield 120, 3)) ∧ (decode cX11_settle 27 = .ok (.aload_n 0, 1)) ∧ (decode cX11_settle 28 = .ok (.getfield 320, 3)) := by decide +kernel
theorem dX11_settle_16 : decode cX11_settle 16 = .ok (.isub, 1) := eX11_settle_8.1
theorem dX11_settle_17 : decode cX11_settle 17 = .ok (.iaload, 1) := eX11_settle_8.2.1
theorem dX11_settle_18 : decode cX11_settle 18 = .ok (.bipush (-6), 2) := eX11_settle_8.2.2.1
theorem dX11_settle_20 : decode cX11_settle 20 = .ok (.if_icmp .eq 44, 3) := eX11_settle_8.2.2.2.1
theorem dX11_settle_23 : decode cX11_settle 23 = .ok (.aload_n 0, 1) := eX11_settle_8.2.2.2.2.1
theorem dX11_settle_24 : decode cX11_settle 24 = .ok (.getfield 120, 3) := eX11_settle_8.2.2.2.2.2.1
theorem dX11_settle_27 : decode cX11_settle 27 = .ok (.aload_n 0, 1) := eX11_settle_8.2.2.2.2.2.2.1
theorem dX11_settle_28 : decode cX11_settle 28 = .ok (.getfield 320, 3) := eX11_settle_8.2.2.2.2.2.2.2
theorem eX11_settle_16 : (decode cX11_settle 31 = .ok (.iconst 1, 1)) ∧ (decode cX11_settle 32 = .ok (.isub, 1)) ∧ (decode cX11_settle 33 = .ok (.iaload, 1)) ∧ (decode cX11_settle 34 = .ok (.iload_n 1, 1)) ∧ (decode cX11_settle 35 = .ok (.if_icmp .lt 29, 3)) ∧ (decode cX11_settle 38 = .ok (.aload_n 0, 1)) ∧ (decode cX11_settle 39 = .ok (.dup, 1)) ∧ (decode cX11_settle 40 = .ok (.getfield 320, 3)) := by decide +kernel
theorem dX11_settle_31 : decode cX11_settle 31 = .ok (.iconst 1, 1) := eX11_settle_16.1
theorem dX11_settle_32 : decode cX11_settle 32 = .ok (.isub, 1) := eX11_settle_16.2.1
theorem dX11_settle_33 : decode cX11_settle 33 = .ok (.iaload, 1) := eX11_settle_16.2.2.1
theorem dX11_settle_34 : decode cX11_settle 34 = .ok (.iload_n 1, 1) := eX11_settle_16.2.2.2.1
theorem dX11_settle_35 : decode cX11_settle 35 = .ok (.if_icmp .lt 29, 3) := eX11_settle_16.2.2.2.2.1
theorem dX11_settle_38 : decode cX11_settle 38 = .ok (.aload_n 0, 1) := eX11_settle_16.2.2.2.2.2.1
theorem dX11_settle_39 : decode cX11_settle 39 = .ok (.dup, 1) := eX11_settle_16.2.2.2.2.2.2.1
theorem dX11_settle_40 : decode cX11_settle 40 = .ok (.getfield 320, 3) := eX11_settle_16.2.2.2.2.2.2.2
theorem eX11_settle_24 : (decode cX11_settle 43 = .ok (.iconst 1, 1)) ∧ (decode cX11_settle 44 = .ok (.isub, 1)) ∧ (decode cX11_settle 45 = .ok (.putfield 320, 3)) ∧ (decode cX11_settle 48 = .ok (.aload_n 0, 1)) ∧ (decode cX11_settle 49 = .ok (.aload_n 0, 1)) ∧ (decode cX11_settle 50 = .ok (.getfield 120, 3)) ∧ (decode cX11_settle 53 = .ok (.aload_n 0, 1)) ∧ (decode cX11_settle 54 = .ok (.getfield 320, 3)) := by decide +kernel
theorem dX11_settle_43 : decode cX11_settle 43 = .ok (.iconst 1, 1) := eX11_settle_24.1
theorem dX11_settle_44 : decode cX11_settle 44 = .ok (.isub, 1) := eX11_settle_24.2.1
theorem dX11_settle_45 : decode cX11_settle 45 = .ok (.putfield 320, 3) := eX11_settle_24.2.2.1
theorem dX11_settle_48 : decode cX11_settle 48 = .ok (.aload_n 0, 1) := eX11_settle_24.2.2.2.1
theorem dX11_settle_49 : decode cX11_settle 49 = .ok (.aload_n 0, 1) := eX11_settle_24.2.2.2.2.1
theorem dX11_settle_50 : decode cX11_settle 50 = .ok (.getfield 120, 3) := eX11_settle_24.2.2.2.2.2.1
theorem dX11_settle_53 : decode cX11_settle 53 = .ok (.aload_n 0, 1) := eX11_settle_24.2.2.2.2.2.2.1
theorem dX11_settle_54 : decode cX11_settle 54 = .ok (.getfield 320, 3) := eX11_settle_24.2.2.2.2.2.2.2
theorem eX11_settle_32 : (decode cX11_settle 57 = .ok (.iaload, 1)) ∧ (decode cX11_settle 58 = .ok (.invokevirtual 323, 3)) ∧ (decode cX11_settle 61 = .ok (.goto (-61), 3)) ∧ (decode cX11_settle 64 = .ok (.return_, 1)) := by decide +kernel
theorem dX11_settle_57 : decode cX11_settle 57 = .ok (.iaload, 1) := eX11_settle_32.1
theorem dX11_settle_58 : decode cX11_settle 58 = .ok (.invokevirtual 323, 3) := eX11_settle_32.2.1
theorem dX11_settle_61 : decode cX11_settle 61 = .ok (.goto (-61), 3) := eX11_settle_32.2.2.1
theorem dX11_settle_64 : decode cX11_settle 64 = .ok (.return_, 1) := eX11_settle_32.2.2.2
theorem eX11_readCond_0 : (decode cX11_readCond 0 = .ok (.aload_n 0, 1)) ∧ (decode cX11_readCond 1 = .ok (.iconst 0, 1)) ∧ (decode cX11_readCond 2 = .ok (.putfield 320, 3)) ∧ (decode cX11_readCond 5 = .ok (.iconst 0, 1)) ∧ (decode cX11_readCond 6 = .ok (.istore_n 1, 1)) ∧ (decode cX11_readCond 7 = .ok (.iconst 0, 1)) ∧ (decode cX11_readCond 8 = .ok (.istore_n 2, 1)) ∧ (decode cX11_readCond 9 = .ok (.iconst 1, 1)) := by decide +kernel
theorem dX11_readCond_0 : decode cX11_readCond 0 = .ok (.aload_n 0, 1) := eX11_readCond_0.1
theorem dX11_readCond_1 : decode cX11_readCond 1 = .ok (.iconst 0, 1) := eX11_readCond_0.2.1
theorem dX11_readCond_2 : decode cX11_readCond 2 = .ok (.putfield 320, 3) := eX11_readCond_0.2.2.1
theorem dX11_readCond_5 : decode cX11_readCond 5 = .ok (.iconst 0, 1) := eX11_readCond_0.2.2.2.1
theorem dX11_readCond_6 : decode cX11_readCond 6 = .ok (.istore_n 1, 1) := eX11_readCond_0.2.2.2.2.1
theorem dX11_readCond_7 : decode cX11_readCond 7 = .ok (.iconst 0, 1) := eX11_readCond_0.2.2.2.2.2.1
theorem dX11_readCond_8 : decode cX11_readCond 8 = .ok (.istore_n 2, 1) := eX11_readCond_0.2.2.2.2.2.2.1
theorem dX11_readCond_9 : decode cX11_readCond 9 = .ok (.iconst 1, 1) := eX11_readCond_0.2.2.2.2.2.2.2
theorem eX11_readCond_8 : (decode cX11_readCond 10 = .ok (.istore_n 3, 1)) ∧ (decode cX11_readCond 11 = .ok (.iconst 1, 1)) ∧ (decode cX11_readCond 12 = .ok (.istore 4, 2)) ∧ (decode cX11_readCond 14 = .ok (.iload 4, 2)) ∧ (decode cX11_readCond 16 = .ok (.ifCond .eq 273, 3)) ∧ (decode cX11_readCond 19 = .ok (.aload_n 0, 1)) ∧ (decode cX11_readCond 20 = .ok (.getfield 310, 3)) ∧ (decode cX11_readCond 23 = .ok (.ifCond .ne 266, 3)) := by decide +kernel
theorem dX11_readCond_10 : decode cX11_readCond 10 = .ok (.istore_n 3, 1) := eX11_readCond_8.1
theorem dX11_readCond_11 : decode cX11_readCond 11 = .ok (.iconst 1, 1) := eX11_readCond_8.2.1
theorem dX11_readCond_12 : decode cX11_readCond 12 = .ok (.istore 4, 2) := eX11_readCond_8.2.2.1
theorem dX11_readCond_14 : decode cX11_readCond 14 = .ok (.iload 4, 2) := eX11_readCond_8.2.2.2.1
theorem dX11_readCond_16 : decode cX11_readCond 16 = .ok (.ifCond .eq 273, 3) := eX11_readCond_8.2.2.2.2.1
theorem dX11_readCond_19 : decode cX11_readCond 19 = .ok (.aload_n 0, 1) := eX11_readCond_8.2.2.2.2.2.1
theorem dX11_readCond_20 : decode cX11_readCond 20 = .ok (.getfield 310, 3) := eX11_readCond_8.2.2.2.2.2.2.1
theorem dX11_readCond_23 : decode cX11_readCond 23 = .ok (.ifCond .ne 266, 3) := eX11_readCond_8.2.2.2.2.2.2.2
theorem eX11_readCond_16 : (decode cX11_readCond 26 = .ok (.iload_n 3, 1)) ∧ (decode cX11_readCond 27 = .ok (.ifCond .eq 106, 3)) ∧ (decode cX11_readCond 30 = .ok (.aload_n 0, 1)) ∧ (decode cX11_readCond 31 = .ok (.bipush 110, 2)) ∧ (decode cX11_readCond 33 = .ok (.bipush 111, 2)) ∧ (decode cX11_readCond 35 = .ok (.bipush 116, 2)) ∧ (decode cX11_readCond 37 = .ok (.iconst 0, 1)) ∧ (decode cX11_readCond 38 = .ok (.iconst 0, 1)) := by decide +kernel
theorem dX11_readCond_26 : decode cX11_readCond 26 = .ok (.iload_n 3, 1) := eX11_readCond_16.1
theorem dX11_readCond_27 : decode cX11_readCond 27 = .ok (.ifCond .eq 106, 3) := eX11_readCond_16.2.1
theorem dX11_readCond_30 : decode cX11_readCond 30 = .ok (.aload_n 0, 1) := eX11_readCond_16.2.2.1
theorem dX11_readCond_31 : decode cX11_readCond 31 = .ok (.bipush 110, 2) := eX11_readCond_16.2.2.2.1
theorem dX11_readCond_33 : decode cX11_readCond 33 = .ok (.bipush 111, 2) := eX11_readCond_16.2.2.2.2.1
theorem dX11_readCond_35 : decode cX11_readCond 35 = .ok (.bipush 116, 2) := eX11_readCond_16.2.2.2.2.2.1
theorem dX11_readCond_37 : decode cX11_readCond 37 = .ok (.iconst 0, 1) := eX11_readCond_16.2.2.2.2.2.2.1
theorem dX11_readCond_38 : decode cX11_readCond 38 = .ok (.iconst 0, 1) := eX11_readCond_16.2.2.2.2.2.2.2
theorem eX11_readCond_24 : (decode cX11_readCond 39 = .ok (.iconst 0, 1)) ∧ (decode cX11_readCond 40 = .ok (.invokevirtual 326, 3)) ∧ (decode cX11_readCond 43 = .ok (.istore 5, 2)) ∧ (decode cX11_readCond 45 = .ok (.iload 5, 2)) ∧ (decode cX11_readCond 47 = .ok (.ifCond .ne 12, 3)) ∧ (decode cX11_readCond 50 = .ok (.aload_n 0, 1)) ∧ (decode cX11_readCond 51 = .ok (.bipush 40, 2)) ∧ (decode cX11_readCond 53 = .ok (.invokevirtual 330, 3)) := by decide +kernel
theorem dX11_readCond_39 : decode cX11_readCond 39 = .ok (.iconst 0, 1) := eX11_readCond_24.1
theorem dX11_readCond_40 : decode cX11_readCond 40 = .ok (.invokevirtual 326, 3) := eX11_readCond_24.2.1
theorem dX11_readCond_43 : decode cX11_readCond 43 = .ok (.istore 5, 2) := eX11_readCond_24.2.2.1
theorem dX11_readCond_45 : decode cX11_readCond 45 = .ok (.iload 5, 2) := eX11_readCond_24.2.2.2.1
theorem dX11_readCond_47 : decode cX11_readCond 47 = .ok (.ifCond .ne 12, 3) := eX11_readCond_24.2.2.2.2.1
theorem dX11_readCond_50 : decode cX11_readCond 50 = .ok (.aload_n 0, 1) := eX11_readCond_24.2.2.2.2.2.1
theorem dX11_readCond_51 : decode cX11_readCond 51 = .ok (.bipush 40, 2) := eX11_readCond_24.2.2.2.2.2.2.1
theorem dX11_readCond_53 : decode cX11_readCond 53 = .ok (.invokevirtual 330, 3) := eX11_readCond_24.2.2.2.2.2.2.2
theorem eX11_readCond_32 : (decode cX11_readCond 56 = .ok (.ifCond .eq 68, 3)) ∧ (decode cX11_readCond 59 = .ok (.iinc 2 1, 3)) ∧ (decode cX11_readCond 62 = .ok (.aload_n 0, 1)) ∧ (decode cX11_readCond 63 = .ok (.iload_n 2, 1)) ∧ (decode cX11_readCond 64 = .ok (.bipush 8, 2)) ∧ (decode cX11_readCond 66 = .ok (.if_icmp .gt 7, 3)) ∧ (decode cX11_readCond 69 = .ok (.iconst 1, 1)) ∧ (decode cX11_readCond 70 = .ok (.goto 4, 3)) := by decide +kernel
theorem dX11_readCond_56 : decode cX11_readCond 56 = .ok (.ifCond .eq 68, 3) := eX11_readCond_32.1
theorem dX11_readCond_59 : decode cX11_readCond 59 = .ok (.iinc 2 1, 3) := eX11_readCond_32.2.1
theorem dX11_readCond_62 : decode cX11_readCond 62 = .ok (.aload_n 0, 1) := eX11_readCond_32.2.2.1
theorem dX11_readCond_63 : decode cX11_readCond 63 = .ok (.iload_n 2, 1) := eX11_readCond_32.2.2.2.1
theorem dX11_readCond_64 : decode cX11_readCond 64 = .ok (.bipush 8, 2) := eX11_readCond_32.2.2.2.2.1
theorem dX11_readCond_66 : decode cX11_readCond 66 = .ok (.if_icmp .gt 7, 3) := eX11_readCond_32.2.2.2.2.2.1
theorem dX11_readCond_69 : decode cX11_readCond 69 = .ok (.iconst 1, 1) := eX11_readCond_32.2.2.2.2.2.2.1
theorem dX11_readCond_70 : decode cX11_readCond 70 = .ok (.goto 4, 3) := eX11_readCond_32.2.2.2.2.2.2.2
theorem eX11_readCond_40 : (decode cX11_readCond 73 = .ok (.iconst 0, 1)) ∧ (decode cX11_readCond 74 = .ok (.invokevirtual 333, 3)) ∧ (decode cX11_readCond 77 = .ok (.iload_n 1, 1)) ∧ (decode cX11_readCond 78 = .ok (.iload 5, 2)) ∧ (decode cX11_readCond 80 = .ok (.ifCond .eq 7, 3)) ∧ (decode cX11_readCond 83 = .ok (.iconst 0, 1)) ∧ (decode cX11_readCond 84 = .ok (.goto 4, 3)) ∧ (decode cX11_readCond 87 = .ok (.iconst 1, 1)) := by decide +kernel
theorem dX11_readCond_73 : decode cX11_readCond 73 = .ok (.iconst 0, 1) := eX11_readCond_40.1
theorem dX11_readCond_74 : decode cX11_readCond 74 = .ok (.invokevirtual 333, 3) := eX11_readCond_40.2.1
theorem dX11_readCond_77 : decode cX11_readCond 77 = .ok (.iload_n 1, 1) := eX11_readCond_40.2.2.1
theorem dX11_readCond_78 : decode cX11_readCond 78 = .ok (.iload 5, 2) := eX11_readCond_40.2.2.2.1
theorem dX11_readCond_80 : decode cX11_readCond 80 = .ok (.ifCond .eq 7, 3) := eX11_readCond_40.2.2.2.2.1
theorem dX11_readCond_83 : decode cX11_readCond 83 = .ok (.iconst 0, 1) := eX11_readCond_40.2.2.2.2.2.1
theorem dX11_readCond_84 : decode cX11_readCond 84 = .ok (.goto 4, 3) := eX11_readCond_40.2.2.2.2.2.2.1
theorem dX11_readCond_87 : decode cX11_readCond 87 = .ok (.iconst 1, 1) := eX11_readCond_40.2.2.2.2.2.2.2
theorem eX11_readCond_48 : (decode cX11_readCond 88 = .ok (.iadd, 1)) ∧ (decode cX11_readCond 89 = .ok (.istore_n 1, 1)) ∧ (decode cX11_readCond 90 = .ok (.aload_n 0, 1)) ∧ (decode cX11_readCond 91 = .ok (.getfield 120, 3)) ∧ (decode cX11_readCond 94 = .ok (.aload_n 0, 1)) ∧ (decode cX11_readCond 95 = .ok (.getfield 320, 3)) ∧ (decode cX11_readCond 98 = .ok (.iload 5, 2)) ∧ (decode cX11_readCond 100 = .ok (.ifCond .eq 8, 3)) := by decide +kernel
theorem dX11_readCond_88 : decode cX11_readCond 88 = .ok (.iadd, 1) := eX11_readCond_48.1
theorem dX11_readCond_89 : decode cX11_readCond 89 = .ok (.istore_n 1, 1) := eX11_readCond_48.2.1
theorem dX11_readCond_90 : decode cX11_readCond 90 = .ok (.aload_n 0, 1) := eX11_readCond_48.2.2.1
theorem dX11_readCond_91 : decode cX11_readCond 91 = .ok (.getfield 120, 3) := eX11_readCond_48.2.2.2.1
theorem dX11_readCond_94 : decode cX11_readCond 94 = .ok (.aload_n 0, 1) := eX11_readCond_48.2.2.2.2.1
theorem dX11_readCond_95 : decode cX11_readCond 95 = .ok (.getfield 320, 3) := eX11_readCond_48.2.2.2.2.2.1
theorem dX11_readCond_98 : decode cX11_readCond 98 = .ok (.iload 5, 2) := eX11_readCond_48.2.2.2.2.2.2.1
theorem dX11_readCond_100 : decode cX11_readCond 100 = .ok (.ifCond .eq 8, 3) := eX11_readCond_48.2.2.2.2.2.2.2
theorem eX11_readCond_56 : (decode cX11_readCond 103 = .ok (.bipush (-3), 2)) ∧ (decode cX11_readCond 105 = .ok (.goto 5, 3)) ∧ (decode cX11_readCond 108 = .ok (.bipush (-6), 2)) ∧ (decode cX11_readCond 110 = .ok (.iastore, 1)) ∧ (decode cX11_readCond 111 = .ok (.aload_n 0, 1)) ∧ (decode cX11_readCond 112 = .ok (.dup, 1)) ∧ (decode cX11_readCond 113 = .ok (.getfield 320, 3)) ∧ (decode cX11_readCond 116 = .ok (.iconst 1, 1)) := by decide +kernel
theorem dX11_readCond_103 : decode cX11_readCond 103 = .ok (.bipush (-3), 2) := eX11_readCond_56.1
theorem dX11_readCond_105 : decode cX11_readCond 105 = .ok (.goto 5, 3) := eX11_readCond_56.2.1
theorem dX11_readCond_108 : decode cX11_readCond 108 = .ok (.bipush (-6), 2) := eX11_readCond_56.2.2.1
theorem dX11_readCond_110 : decode cX11_readCond 110 = .ok (.iastore, 1) := eX11_readCond_56.2.2.2.1
theorem dX11_readCond_111 : decode cX11_readCond 111 = .ok (.aload_n 0, 1) := eX11_readCond_56.2.2.2.2.1
theorem dX11_readCond_112 : decode cX11_readCond 112 = .ok (.dup, 1) := eX11_readCond_56.2.2.2.2.2.1
theorem dX11_readCond_113 : decode cX11_readCond 113 = .ok (.getfield 320, 3) := eX11_readCond_56.2.2.2.2.2.2.1
theorem dX11_readCond_116 : decode cX11_readCond 116 = .ok (.iconst 1, 1) := eX11_readCond_56.2.2.2.2.2.2.2
theorem eX11_readCond_64 : (decode cX11_readCond 117 = .ok (.iadd, 1)) ∧ (decode cX11_readCond 118 = .ok (.putfield 320, 3)) ∧ (decode cX11_readCond 121 = .ok (.goto (-107), 3)) ∧ (decode cX11_readCond 124 = .ok (.aload_n 0, 1)) ∧ (decode cX11_readCond 125 = .ok (.invokevirtual 337, 3)) ∧ (decode cX11_readCond 128 = .ok (.iconst 0, 1)) ∧ (decode cX11_readCond 129 = .ok (.istore_n 3, 1)) ∧ (decode cX11_readCond 130 = .ok (.goto 150, 3)) := by decide +kernel
theorem dX11_readCond_117 : decode cX11_readCond 117 = .ok (.iadd, 1) := eX11_readCond_64.1
theorem dX11_readCond_118 : decode cX11_readCond 118 = .ok (.putfield 320, 3) := eX11_readCond_64.2.1
theorem dX11_readCond_121 : decode cX11_readCond 121 = .ok (.goto (-107), 3) := eX11_readCond_64.2.2.1
theorem dX11_readCond_124 : decode cX11_readCond 124 = .ok (.aload_n 0, 1) := eX11_readCond_64.2.2.2.1
theorem dX11_readCond_125 : decode cX11_readCond 125 = .ok (.invokevirtual 337, 3) := eX11_readCond_64.2.2.2.2.1
theorem dX11_readCond_128 : decode cX11_readCond 128 = .ok (.iconst 0, 1) := eX11_readCond_64.2.2.2.2.2.1
theorem dX11_readCond_129 : decode cX11_readCond 129 = .ok (.istore_n 3, 1) := eX11_readCond_64.2.2.2.2.2.2.1
theorem dX11_readCond_130 : decode cX11_readCond 130 = .ok (.goto 150, 3) := eX11_readCond_64.2.2.2.2.2.2.2
theorem eX11_readCond_72 : (decode cX11_readCond 133 = .ok (.aload_n 0, 1)) ∧ (decode cX11_readCond 134 = .ok (.bipush 97, 2)) ∧ (decode cX11_readCond 136 = .ok (.bipush 110, 2)) ∧ (decode cX11_readCond 138 = .ok (.bipush 100, 2)) ∧ (decode cX11_readCond 140 = .ok (.iconst 0, 1)) ∧ (decode cX11_readCond 141 = .ok (.iconst 0, 1)) ∧ (decode cX11_readCond 142 = .ok (.iconst 0, 1)) ∧ (decode cX11_readCond 143 = .ok (.invokevirtual 326, 3)) := by decide +kernel
theorem dX11_readCond_133 : decode cX11_readCond 133 = .ok (.aload_n 0, 1) := eX11_readCond_72.1
theorem dX11_readCond_134 : decode cX11_readCond 134 = .ok (.bipush 97, 2) := eX11_readCond_72.2.1
theorem dX11_readCond_136 : decode cX11_readCond 136 = .ok (.bipush 110, 2) := eX11_readCond_72.2.2.1
theorem dX11_readCond_138 : decode cX11_readCond 138 = .ok (.bipush 100, 2) := eX11_readCond_72.2.2.2.1
theorem dX11_readCond_140 : decode cX11_readCond 140 = .ok (.iconst 0, 1) := eX11_readCond_72.2.2.2.2.1
theorem dX11_readCond_141 : decode cX11_readCond 141 = .ok (.iconst 0, 1) := eX11_readCond_72.2.2.2.2.2.1
theorem dX11_readCond_142 : decode cX11_readCond 142 = .ok (.iconst 0, 1) := eX11_readCond_72.2.2.2.2.2.2.1
theorem dX11_readCond_143 : decode cX11_readCond 143 = .ok (.invokevirtual 326, 3) := eX11_readCond_72.2.2.2.2.2.2.2
theorem eX11_readCond_80 : (decode cX11_readCond 146 = .ok (.ifCond .ne 18, 3)) ∧ (decode cX11_readCond 149 = .ok (.aload_n 0, 1)) ∧ (decode cX11_readCond 150 = .ok (.bipush 111, 2)) ∧ (decode cX11_readCond 152 = .ok (.bipush 114, 2)) ∧ (decode cX11_readCond 154 = .ok (.iconst 0, 1)) ∧ (decode cX11_readCond 155 = .ok (.iconst 0, 1)) ∧ (decode cX11_readCond 156 = .ok (.iconst 0, 1)) ∧ (decode cX11_readCond 157 = .ok (.iconst 0, 1)) := by decide +kernel
theorem dX11_readCond_146 : decode cX11_readCond 146 = .ok (.ifCond .ne 18, 3) := eX11_readCond_80.1
theorem dX11_readCond_149 : decode cX11_readCond 149 = .ok (.aload_n 0, 1) := eX11_readCond_80.2.1
theorem dX11_readCond_150 : decode cX11_readCond 150 = .ok (.bipush 111, 2) := eX11_readCond_80.2.2.1
theorem dX11_readCond_152 : decode cX11_readCond 152 = .ok (.bipush 114, 2) := eX11_readCond_80.2.2.2.1
theorem dX11_readCond_154 : decode cX11_readCond 154 = .ok (.iconst 0, 1) := eX11_readCond_80.2.2.2.2.1
theorem dX11_readCond_155 : decode cX11_readCond 155 = .ok (.iconst 0, 1) := eX11_readCond_80.2.2.2.2.2.1
theorem dX11_readCond_156 : decode cX11_readCond 156 = .ok (.iconst 0, 1) := eX11_readCond_80.2.2.2.2.2.2.1
theorem dX11_readCond_157 : decode cX11_readCond 157 = .ok (.iconst 0, 1) := eX11_readCond_80.2.2.2.2.2.2.2
theorem eX11_readCond_88 : (decode cX11_readCond 158 = .ok (.invokevirtual 326, 3)) ∧ (decode cX11_readCond 161 = .ok (.ifCond .eq 74, 3)) ∧ (decode cX11_readCond 164 = .ok (.aload_n 0, 1)) ∧ (decode cX11_readCond 165 = .ok (.bipush 97, 2)) ∧ (decode cX11_readCond 167 = .ok (.bipush 110, 2)) ∧ (decode cX11_readCond 169 = .ok (.bipush 100, 2)) ∧ (decode cX11_readCond 171 = .ok (.iconst 0, 1)) ∧ (decode cX11_readCond 172 = .ok (.iconst 0, 1)) := by decide +kernel
theorem dX11_readCond_158 : decode cX11_readCond 158 = .ok (.invokevirtual 326, 3) := eX11_readCond_88.1
theorem dX11_readCond_161 : decode cX11_readCond 161 = .ok (.ifCond .eq 74, 3) := eX11_readCond_88.2.1
theorem dX11_readCond_164 : decode cX11_readCond 164 = .ok (.aload_n 0, 1) := eX11_readCond_88.2.2.1
theorem dX11_readCond_165 : decode cX11_readCond 165 = .ok (.bipush 97, 2) := eX11_readCond_88.2.2.2.1
theorem dX11_readCond_167 : decode cX11_readCond 167 = .ok (.bipush 110, 2) := eX11_readCond_88.2.2.2.2.1
theorem dX11_readCond_169 : decode cX11_readCond 169 = .ok (.bipush 100, 2) := eX11_readCond_88.2.2.2.2.2.1
theorem dX11_readCond_171 : decode cX11_readCond 171 = .ok (.iconst 0, 1) := eX11_readCond_88.2.2.2.2.2.2.1
theorem dX11_readCond_172 : decode cX11_readCond 172 = .ok (.iconst 0, 1) := eX11_readCond_88.2.2.2.2.2.2.2
theorem eX11_readCond_96 : (decode cX11_readCond 173 = .ok (.iconst 0, 1)) ∧ (decode cX11_readCond 174 = .ok (.invokevirtual 326, 3)) ∧ (decode cX11_readCond 177 = .ok (.istore 5, 2)) ∧ (decode cX11_readCond 179 = .ok (.aload_n 0, 1)) ∧ (decode cX11_readCond 180 = .ok (.iload 5, 2)) ∧ (decode cX11_readCond 182 = .ok (.ifCond .eq 8, 3)) ∧ (decode cX11_readCond 185 = .ok (.bipush (-4), 2)) ∧ (decode cX11_readCond 187 = .ok (.goto 5, 3)) := by decide +kernel
theorem dX11_readCond_173 : decode cX11_readCond 173 = .ok (.iconst 0, 1) := eX11_readCond_96.1
theorem dX11_readCond_174 : decode cX11_readCond 174 = .ok (.invokevirtual 326, 3) := eX11_readCond_96.2.1
theorem dX11_readCond_177 : decode cX11_readCond 177 = .ok (.istore 5, 2) := eX11_readCond_96.2.2.1
theorem dX11_readCond_179 : decode cX11_readCond 179 = .ok (.aload_n 0, 1) := eX11_readCond_96.2.2.2.1
theorem dX11_readCond_180 : decode cX11_readCond 180 = .ok (.iload 5, 2) := eX11_readCond_96.2.2.2.2.1
theorem dX11_readCond_182 : decode cX11_readCond 182 = .ok (.ifCond .eq 8, 3) := eX11_readCond_96.2.2.2.2.2.1
theorem dX11_readCond_185 : decode cX11_readCond 185 = .ok (.bipush (-4), 2) := eX11_readCond_96.2.2.2.2.2.2.1
theorem dX11_readCond_187 : decode cX11_readCond 187 = .ok (.goto 5, 3) := eX11_readCond_96.2.2.2.2.2.2.2
theorem eX11_readCond_104 : (decode cX11_readCond 190 = .ok (.bipush (-5), 2)) ∧ (decode cX11_readCond 192 = .ok (.invokevirtual 340, 3)) ∧ (decode cX11_readCond 195 = .ok (.aload_n 0, 1)) ∧ (decode cX11_readCond 196 = .ok (.getfield 120, 3)) ∧ (decode cX11_readCond 199 = .ok (.aload_n 0, 1)) ∧ (decode cX11_readCond 200 = .ok (.getfield 320, 3)) ∧ (decode cX11_readCond 203 = .ok (.iload 5, 2)) ∧ (decode cX11_readCond 205 = .ok (.ifCond .eq 8, 3)) := by decide +kernel
theorem dX11_readCond_190 : decode cX11_readCond 190 = .ok (.bipush (-5), 2) := eX11_readCond_104.1
theorem dX11_readCond_192 : decode cX11_readCond 192 = .ok (.invokevirtual 340, 3) := eX11_readCond_104.2.1
theorem dX11_readCond_195 : decode cX11_readCond 195 = .ok (.aload_n 0, 1) := eX11_readCond_104.2.2.1
theorem dX11_readCond_196 : decode cX11_readCond 196 = .ok (.getfield 120, 3) := eX11_readCond_104.2.2.2.1
theorem dX11_readCond_199 : decode cX11_readCond 199 = .ok (.aload_n 0, 1) := eX11_readCond_104.2.2.2.2.1
theorem dX11_readCond_200 : decode cX11_readCond 200 = .ok (.getfield 320, 3) := eX11_readCond_104.2.2.2.2.2.1
theorem dX11_readCond_203 : decode cX11_readCond 203 = .ok (.iload 5, 2) := eX11_readCond_104.2.2.2.2.2.2.1
theorem dX11_readCond_205 : decode cX11_readCond 205 = .ok (.ifCond .eq 8, 3) := eX11_readCond_104.2.2.2.2.2.2.2
theorem eX11_readCond_112 : (decode cX11_readCond 208 = .ok (.bipush (-4), 2)) ∧ (decode cX11_readCond 210 = .ok (.goto 5, 3)) ∧ (decode cX11_readCond 213 = .ok (.bipush (-5), 2)) ∧ (decode cX11_readCond 215 = .ok (.iastore, 1)) ∧ (decode cX11_readCond 216 = .ok (.aload_n 0, 1)) ∧ (decode cX11_readCond 217 = .ok (.dup, 1)) ∧ (decode cX11_readCond 218 = .ok (.getfield 320, 3)) ∧ (decode cX11_readCond 221 = .ok (.iconst 1, 1)) := by decide +kernel
theorem dX11_readCond_208 : decode cX11_readCond 208 = .ok (.bipush (-4), 2) := eX11_readCond_112.1
theorem dX11_readCond_210 : decode cX11_readCond 210 = .ok (.goto 5, 3) := eX11_readCond_112.2.1
theorem dX11_readCond_213 : decode cX11_readCond 213 = .ok (.bipush (-5), 2) := eX11_readCond_112.2.2.1
theorem dX11_readCond_215 : decode cX11_readCond 215 = .ok (.iastore, 1) := eX11_readCond_112.2.2.2.1
theorem dX11_readCond_216 : decode cX11_readCond 216 = .ok (.aload_n 0, 1) := eX11_readCond_112.2.2.2.2.1
theorem dX11_readCond_217 : decode cX11_readCond 217 = .ok (.dup, 1) := eX11_readCond_112.2.2.2.2.2.1
theorem dX11_readCond_218 : decode cX11_readCond 218 = .ok (.getfield 320, 3) := eX11_readCond_112.2.2.2.2.2.2.1
theorem dX11_readCond_221 : decode cX11_readCond 221 = .ok (.iconst 1, 1) := eX11_readCond_112.2.2.2.2.2.2.2
theorem eX11_readCond_120 : (decode cX11_readCond 222 = .ok (.iadd, 1)) ∧ (decode cX11_readCond 223 = .ok (.putfield 320, 3)) ∧ (decode cX11_readCond 226 = .ok (.iconst 1, 1)) ∧ (decode cX11_readCond 227 = .ok (.istore_n 3, 1)) ∧ (decode cX11_readCond 228 = .ok (.aload_n 0, 1)) ∧ (decode cX11_readCond 229 = .ok (.invokevirtual 314, 3)) ∧ (decode cX11_readCond 232 = .ok (.goto 48, 3)) ∧ (decode cX11_readCond 235 = .ok (.iload_n 1, 1)) := by decide +kernel
theorem dX11_readCond_222 : decode cX11_readCond 222 = .ok (.iadd, 1) := eX11_readCond_120.1
theorem dX11_readCond_223 : decode cX11_readCond 223 = .ok (.putfield 320, 3) := eX11_readCond_120.2.1
theorem dX11_readCond_226 : decode cX11_readCond 226 = .ok (.iconst 1, 1) := eX11_readCond_120.2.2.1
theorem dX11_readCond_227 : decode cX11_readCond 227 = .ok (.istore_n 3, 1) := eX11_readCond_120.2.2.2.1
theorem dX11_readCond_228 : decode cX11_readCond 228 = .ok (.aload_n 0, 1) := eX11_readCond_120.2.2.2.2.1
theorem dX11_readCond_229 : decode cX11_readCond 229 = .ok (.invokevirtual 314, 3) := eX11_readCond_120.2.2.2.2.2.1
theorem dX11_readCond_232 : decode cX11_readCond 232 = .ok (.goto 48, 3) := eX11_readCond_120.2.2.2.2.2.2.1
theorem dX11_readCond_235 : decode cX11_readCond 235 = .ok (.iload_n 1, 1) := eX11_readCond_120.2.2.2.2.2.2.2
theorem eX11_readCond_128 : (decode cX11_readCond 236 = .ok (.ifCond .le 35, 3)) ∧ (decode cX11_readCond 239 = .ok (.aload_n 0, 1)) ∧ (decode cX11_readCond 240 = .ok (.aload_n 0, 1)) ∧ (decode cX11_readCond 241 = .ok (.bipush 41, 2)) ∧ (decode cX11_readCond 243 = .ok (.invokevirtual 330, 3)) ∧ (decode cX11_readCond 246 = .ok (.invokevirtual 333, 3)) ∧ (decode cX11_readCond 249 = .ok (.aload_n 0, 1)) ∧ (decode cX11_readCond 250 = .ok (.bipush (-5), 2)) := by decide +kernel
theorem dX11_readCond_236 : decode cX11_readCond 236 = .ok (.ifCond .le 35, 3) := eX11_readCond_128.1
theorem dX11_readCond_239 : decode cX11_readCond 239 = .ok (.aload_n 0, 1) := eX11_readCond_128.2.1
theorem dX11_readCond_240 : decode cX11_readCond 240 = .ok (.aload_n 0, 1) := eX11_readCond_128.2.2.1
theorem dX11_readCond_241 : decode cX11_readCond 241 = .ok (.bipush 41, 2) := eX11_readCond_128.2.2.2.1
theorem dX11_readCond_243 : decode cX11_readCond 243 = .ok (.invokevirtual 330, 3) := eX11_readCond_128.2.2.2.2.1
theorem dX11_readCond_246 : decode cX11_readCond 246 = .ok (.invokevirtual 333, 3) := eX11_readCond_128.2.2.2.2.2.1
theorem dX11_readCond_249 : decode cX11_readCond 249 = .ok (.aload_n 0, 1) := eX11_readCond_128.2.2.2.2.2.2.1
theorem dX11_readCond_250 : decode cX11_readCond 250 = .ok (.bipush (-5), 2) := eX11_readCond_128.2.2.2.2.2.2.2
theorem eX11_readCond_136 : (decode cX11_readCond 252 = .ok (.invokevirtual 340, 3)) ∧ (decode cX11_readCond 255 = .ok (.aload_n 0, 1)) ∧ (decode cX11_readCond 256 = .ok (.dup, 1)) ∧ (decode cX11_readCond 257 = .ok (.getfield 320, 3)) ∧ (decode cX11_readCond 260 = .ok (.iconst 1, 1)) ∧ (decode cX11_readCond 261 = .ok (.isub, 1)) ∧ (decode cX11_readCond 262 = .ok (.putfield 320, 3)) ∧ (decode cX11_readCond 265 = .ok (.iinc 1 (-1), 3)) := by decide +kernel
theorem dX11_readCond_252 : decode cX11_readCond 252 = .ok (.invokevirtual 340, 3) := eX11_readCond_136.1
theorem dX11_readCond_255 : decode cX11_readCond 255 = .ok (.aload_n 0, 1) := eX11_readCond_136.2.1
theorem dX11_readCond_256 : decode cX11_readCond 256 = .ok (.dup, 1) := eX11_readCond_136.2.2.1
theorem dX11_readCond_257 : decode cX11_readCond 257 = .ok (.getfield 320, 3) := eX11_readCond_136.2.2.2.1
theorem dX11_readCond_260 : decode cX11_readCond 260 = .ok (.iconst 1, 1) := eX11_readCond_136.2.2.2.2.1
theorem dX11_readCond_261 : decode cX11_readCond 261 = .ok (.isub, 1) := eX11_readCond_136.2.2.2.2.2.1
theorem dX11_readCond_262 : decode cX11_readCond 262 = .ok (.putfield 320, 3) := eX11_readCond_136.2.2.2.2.2.2.1
theorem dX11_readCond_265 : decode cX11_readCond 265 = .ok (.iinc 1 (-1), 3) := eX11_readCond_136.2.2.2.2.2.2.2
theorem eX11_readCond_144 : (decode cX11_readCond 268 = .ok (.goto 12, 3)) ∧ (decode cX11_readCond 271 = .ok (.aload_n 0, 1)) ∧ (decode cX11_readCond 272 = .ok (.bipush (-5), 2)) ∧ (decode cX11_readCond 274 = .ok (.invokevirtual 340, 3)) ∧ (decode cX11_readCond 277 = .ok (.iconst 0, 1)) ∧ (decode cX11_readCond 278 = .ok (.istore 4, 2)) ∧ (decode cX11_readCond 280 = .ok (.aload_n 0, 1)) ∧ (decode cX11_readCond 281 = .ok (.iload_n 3, 1)) := by decide +kernel
theorem dX11_readCond_268 : decode cX11_readCond 268 = .ok (.goto 12, 3) := eX11_readCond_144.1
theorem dX11_readCond_271 : decode cX11_readCond 271 = .ok (.aload_n 0, 1) := eX11_readCond_144.2.1
theorem dX11_readCond_272 : decode cX11_readCond 272 = .ok (.bipush (-5), 2) := eX11_readCond_144.2.2.1
theorem dX11_readCond_274 : decode cX11_readCond 274 = .ok (.invokevirtual 340, 3) := eX11_readCond_144.2.2.2.1
theorem dX11_readCond_277 : decode cX11_readCond 277 = .ok (.iconst 0, 1) := eX11_readCond_144.2.2.2.2.1
theorem dX11_readCond_278 : decode cX11_readCond 278 = .ok (.istore 4, 2) := eX11_readCond_144.2.2.2.2.2.1
theorem dX11_readCond_280 : decode cX11_readCond 280 = .ok (.aload_n 0, 1) := eX11_readCond_144.2.2.2.2.2.2.1
theorem dX11_readCond_281 : decode cX11_readCond 281 = .ok (.iload_n 3, 1) := eX11_readCond_144.2.2.2.2.2.2.2
theorem eX11_readCond_152 : (decode cX11_readCond 282 = .ok (.invokevirtual 343, 3)) ∧ (decode cX11_readCond 285 = .ok (.istore_n 2, 1)) ∧ (decode cX11_readCond 286 = .ok (.goto (-272), 3)) ∧ (decode cX11_readCond 289 = .ok (.return_, 1)) := by decide +kernel
theorem dX11_readCond_282 : decode cX11_readCond 282 = .ok (.invokevirtual 343, 3) := eX11_readCond_152.1
theorem dX11_readCond_285 : decode cX11_readCond 285 = .ok (.istore_n 2, 1) := eX11_readCond_152.2.1
theorem dX11_readCond_286 : decode cX11_readCond 286 = .ok (.goto (-272), 3) := eX11_readCond_152.2.2.1
theorem dX11_readCond_289 : decode cX11_readCond 289 = .ok (.return_, 1) := eX11_readCond_152.2.2.2
theorem eX11_depthNow_0 : (decode cX11_depthNow 0 = .ok (.iload_n 1, 1)) ∧ (decode cX11_depthNow 1 = .ok (.ifCond .ne 45, 3)) ∧ (decode cX11_depthNow 4 = .ok (.aload_n 0, 1)) ∧ (decode cX11_depthNow 5 = .ok (.getfield 320, 3)) ∧ (decode cX11_depthNow 8 = .ok (.ifCond .le 38, 3)) ∧ (decode cX11_depthNow 11 = .ok (.aload_n 0, 1)) ∧ (decode cX11_depthNow 12 = .ok (.getfield 120, 3)) ∧ (decode cX11_depthNow 15 = .ok (.aload_n 0, 1)) := by decide +kernel
theorem dX11_depthNow_0 : decode cX11_depthNow 0 = .ok (.iload_n 1, 1) := eX11_depthNow_0.1
theorem dX11_depthNow_1 : decode cX11_depthNow 1 = .ok (.ifCond .ne 45, 3) := eX11_depthNow_0.2.1
theorem dX11_depthNow_4 : decode cX11_depthNow 4 = .ok (.aload_n 0, 1) := eX11_depthNow_0.2.2.1
theorem dX11_depthNow_5 : decode cX11_depthNow 5 = .ok (.getfield 320, 3) := eX11_depthNow_0.2.2.2.1
theorem dX11_depthNow_8 : decode cX11_depthNow 8 = .ok (.ifCond .le 38, 3) := eX11_depthNow_0.2.2.2.2.1
theorem dX11_depthNow_11 : decode cX11_depthNow 11 = .ok (.aload_n 0, 1) := eX11_depthNow_0.2.2.2.2.2.1
theorem dX11_depthNow_12 : decode cX11_depthNow 12 = .ok (.getfield 120, 3) := eX11_depthNow_0.2.2.2.2.2.2.1
theorem dX11_depthNow_15 : decode cX11_depthNow 15 = .ok (.aload_n 0, 1) := eX11_depthNow_0.2.2.2.2.2.2.2
theorem eX11_depthNow_8 : (decode cX11_depthNow 16 = .ok (.getfield 320, 3)) ∧ (decode cX11_depthNow 19 = .ok (.iconst 1, 1)) ∧ (decode cX11_depthNow 20 = .ok (.isub, 1)) ∧ (decode cX11_depthNow 21 = .ok (.iaload, 1)) ∧ (decode cX11_depthNow 22 = .ok (.bipush (-3), 2)) ∧ (decode cX11_depthNow 24 = .ok (.if_icmp .ne 22, 3)) ∧ (decode cX11_depthNow 27 = .ok (.aload_n 0, 1)) ∧ (decode cX11_depthNow 28 = .ok (.dup, 1)) := by decide +kernel
theorem dX11_depthNow_16 : decode cX11_depthNow 16 = .ok (.getfield 320, 3) := eX11_depthNow_8.1
theorem dX11_depthNow_19 : decode cX11_depthNow 19 = .ok (.iconst 1, 1) := eX11_depthNow_8.2.1
theorem dX11_depthNow_20 : decode cX11_depthNow 20 = .ok (.isub, 1) := eX11_depthNow_8.2.2.1
theorem dX11_depthNow_21 : decode cX11_depthNow 21 = .ok (.iaload, 1) := eX11_depthNow_8.2.2.2.1
theorem dX11_depthNow_22 : decode cX11_depthNow 22 = .ok (.bipush (-3), 2) := eX11_depthNow_8.2.2.2.2.1
theorem dX11_depthNow_24 : decode cX11_depthNow 24 = .ok (.if_icmp .ne 22, 3) := eX11_depthNow_8.2.2.2.2.2.1
theorem dX11_depthNow_27 : decode cX11_depthNow 27 = .ok (.aload_n 0, 1) := eX11_depthNow_8.2.2.2.2.2.2.1
theorem dX11_depthNow_28 : decode cX11_depthNow 28 = .ok (.dup, 1) := eX11_depthNow_8.2.2.2.2.2.2.2
theorem eX11_depthNow_16 : (decode cX11_depthNow 29 = .ok (.getfield 320, 3)) ∧ (decode cX11_depthNow 32 = .ok (.iconst 1, 1)) ∧ (decode cX11_depthNow 33 = .ok (.isub, 1)) ∧ (decode cX11_depthNow 34 = .ok (.putfield 320, 3)) ∧ (decode cX11_depthNow 37 = .ok (.aload_n 0, 1)) ∧ (decode cX11_depthNow 38 = .ok (.bipush (-3), 2)) ∧ (decode cX11_depthNow 40 = .ok (.invokevirtual 323, 3)) ∧ (decode cX11_depthNow 43 = .ok (.goto (-39), 3)) := by decide +kernel
theorem dX11_depthNow_29 : decode cX11_depthNow 29 = .ok (.getfield 320, 3) := eX11_depthNow_16.1
theorem dX11_depthNow_32 : decode cX11_depthNow 32 = .ok (.iconst 1, 1) := eX11_depthNow_16.2.1
theorem dX11_depthNow_33 : decode cX11_depthNow 33 = .ok (.isub, 1) := eX11_depthNow_16.2.2.1
theorem dX11_depthNow_34 : decode cX11_depthNow 34 = .ok (.putfield 320, 3) := eX11_depthNow_16.2.2.2.1
theorem dX11_depthNow_37 : decode cX11_depthNow 37 = .ok (.aload_n 0, 1) := eX11_depthNow_16.2.2.2.2.1
theorem dX11_depthNow_38 : decode cX11_depthNow 38 = .ok (.bipush (-3), 2) := eX11_depthNow_16.2.2.2.2.2.1
theorem dX11_depthNow_40 : decode cX11_depthNow 40 = .ok (.invokevirtual 323, 3) := eX11_depthNow_16.2.2.2.2.2.2.1
theorem dX11_depthNow_43 : decode cX11_depthNow 43 = .ok (.goto (-39), 3) := eX11_depthNow_16.2.2.2.2.2.2.2
theorem eX11_depthNow_24 : (decode cX11_depthNow 46 = .ok (.iconst 0, 1)) ∧ (decode cX11_depthNow 47 = .ok (.istore_n 2, 1)) ∧ (decode cX11_depthNow 48 = .ok (.iconst 0, 1)) ∧ (decode cX11_depthNow 49 = .ok (.istore_n 3, 1)) ∧ (decode cX11_depthNow 50 = .ok (.iload_n 3, 1)) ∧ (decode cX11_depthNow 51 = .ok (.aload_n 0, 1)) ∧ (decode cX11_depthNow 52 = .ok (.getfield 320, 3)) ∧ (decode cX11_depthNow 55 = .ok (.if_icmp .ge 39, 3)) := by decide +kernel
theorem dX11_depthNow_46 : decode cX11_depthNow 46 = .ok (.iconst 0, 1) := eX11_depthNow_24.1
theorem dX11_depthNow_47 : decode cX11_depthNow 47 = .ok (.istore_n 2, 1) := eX11_depthNow_24.2.1
theorem dX11_depthNow_48 : decode cX11_depthNow 48 = .ok (.iconst 0, 1) := eX11_depthNow_24.2.2.1
theorem dX11_depthNow_49 : decode cX11_depthNow 49 = .ok (.istore_n 3, 1) := eX11_depthNow_24.2.2.2.1
theorem dX11_depthNow_50 : decode cX11_depthNow 50 = .ok (.iload_n 3, 1) := eX11_depthNow_24.2.2.2.2.1
theorem dX11_depthNow_51 : decode cX11_depthNow 51 = .ok (.aload_n 0, 1) := eX11_depthNow_24.2.2.2.2.2.1
theorem dX11_depthNow_52 : decode cX11_depthNow 52 = .ok (.getfield 320, 3) := eX11_depthNow_24.2.2.2.2.2.2.1
theorem dX11_depthNow_55 : decode cX11_depthNow 55 = .ok (.if_icmp .ge 39, 3) := eX11_depthNow_24.2.2.2.2.2.2.2
theorem eX11_depthNow_32 : (decode cX11_depthNow 58 = .ok (.iload_n 2, 1)) ∧ (decode cX11_depthNow 59 = .ok (.aload_n 0, 1)) ∧ (decode cX11_depthNow 60 = .ok (.getfield 120, 3)) ∧ (decode cX11_depthNow 63 = .ok (.iload_n 3, 1)) ∧ (decode cX11_depthNow 64 = .ok (.iaload, 1)) ∧ (decode cX11_depthNow 65 = .ok (.bipush (-6), 2)) ∧ (decode cX11_depthNow 67 = .ok (.if_icmp .eq 14, 3)) ∧ (decode cX11_depthNow 70 = .ok (.aload_n 0, 1)) := by decide +kernel
theorem dX11_depthNow_58 : decode cX11_depthNow 58 = .ok (.iload_n 2, 1) := eX11_depthNow_32.1
theorem dX11_depthNow_59 : decode cX11_depthNow 59 = .ok (.aload_n 0, 1) := eX11_depthNow_32.2.1
theorem dX11_depthNow_60 : decode cX11_depthNow 60 = .ok (.getfield 120, 3) := eX11_depthNow_32.2.2.1
theorem dX11_depthNow_63 : decode cX11_depthNow 63 = .ok (.iload_n 3, 1) := eX11_depthNow_32.2.2.2.1
theorem dX11_depthNow_64 : decode cX11_depthNow 64 = .ok (.iaload, 1) := eX11_depthNow_32.2.2.2.2.1
theorem dX11_depthNow_65 : decode cX11_depthNow 65 = .ok (.bipush (-6), 2) := eX11_depthNow_32.2.2.2.2.2.1
theorem dX11_depthNow_67 : decode cX11_depthNow 67 = .ok (.if_icmp .eq 14, 3) := eX11_depthNow_32.2.2.2.2.2.2.1
theorem dX11_depthNow_70 : decode cX11_depthNow 70 = .ok (.aload_n 0, 1) := eX11_depthNow_32.2.2.2.2.2.2.2
theorem eX11_depthNow_40 : (decode cX11_depthNow 71 = .ok (.getfield 120, 3)) ∧ (decode cX11_depthNow 74 = .ok (.iload_n 3, 1)) ∧ (decode cX11_depthNow 75 = .ok (.iaload, 1)) ∧ (decode cX11_depthNow 76 = .ok (.bipush (-3), 2)) ∧ (decode cX11_depthNow 78 = .ok (.if_icmp .ne 7, 3)) ∧ (decode cX11_depthNow 81 = .ok (.iconst 1, 1)) ∧ (decode cX11_depthNow 82 = .ok (.goto 4, 3)) ∧ (decode cX11_depthNow 85 = .ok (.iconst 0, 1)) := by decide +kernel
theorem dX11_depthNow_71 : decode cX11_depthNow 71 = .ok (.getfield 120, 3) := eX11_depthNow_40.1
theorem dX11_depthNow_74 : decode cX11_depthNow 74 = .ok (.iload_n 3, 1) := eX11_depthNow_40.2.1
theorem dX11_depthNow_75 : decode cX11_depthNow 75 = .ok (.iaload, 1) := eX11_depthNow_40.2.2.1
theorem dX11_depthNow_76 : decode cX11_depthNow 76 = .ok (.bipush (-3), 2) := eX11_depthNow_40.2.2.2.1
theorem dX11_depthNow_78 : decode cX11_depthNow 78 = .ok (.if_icmp .ne 7, 3) := eX11_depthNow_40.2.2.2.2.1
theorem dX11_depthNow_81 : decode cX11_depthNow 81 = .ok (.iconst 1, 1) := eX11_depthNow_40.2.2.2.2.2.1
theorem dX11_depthNow_82 : decode cX11_depthNow 82 = .ok (.goto 4, 3) := eX11_depthNow_40.2.2.2.2.2.2.1
theorem dX11_depthNow_85 : decode cX11_depthNow 85 = .ok (.iconst 0, 1) := eX11_depthNow_40.2.2.2.2.2.2.2
theorem eX11_depthNow_48 : (decode cX11_depthNow 86 = .ok (.iadd, 1)) ∧ (decode cX11_depthNow 87 = .ok (.istore_n 2, 1)) ∧ (decode cX11_depthNow 88 = .ok (.iinc 3 1, 3)) ∧ (decode cX11_depthNow 91 = .ok (.goto (-41), 3)) ∧ (decode cX11_depthNow 94 = .ok (.iload_n 2, 1)) ∧ (decode cX11_depthNow 95 = .ok (.ireturn, 1)) := by decide +kernel
theorem dX11_depthNow_86 : decode cX11_depthNow 86 = .ok (.iadd, 1) := eX11_depthNow_48.1
theorem dX11_depthNow_87 : decode cX11_depthNow 87 = .ok (.istore_n 2, 1) := eX11_depthNow_48.2.1
theorem dX11_depthNow_88 : decode cX11_depthNow 88 = .ok (.iinc 3 1, 3) := eX11_depthNow_48.2.2.1
theorem dX11_depthNow_91 : decode cX11_depthNow 91 = .ok (.goto (-41), 3) := eX11_depthNow_48.2.2.2.1
theorem dX11_depthNow_94 : decode cX11_depthNow 94 = .ok (.iload_n 2, 1) := eX11_depthNow_48.2.2.2.2.1
theorem dX11_depthNow_95 : decode cX11_depthNow 95 = .ok (.ireturn, 1) := eX11_depthNow_48.2.2.2.2.2
theorem eX11_readLeaf_0 : (decode cX11_readLeaf 0 = .ok (.aload_n 0, 1)) ∧ (decode cX11_readLeaf 1 = .ok (.bipush 115, 2)) ∧ (decode cX11_readLeaf 3 = .ok (.bipush 97, 2)) ∧ (decode cX11_readLeaf 5 = .ok (.bipush 119, 2)) ∧ (decode cX11_readLeaf 7 = .ok (.iconst 0, 1)) ∧ (decode cX11_readLeaf 8 = .ok (.iconst 0, 1)) ∧ (decode cX11_readLeaf 9 = .ok (.iconst 0, 1)) ∧ (decode cX11_readLeaf 10 = .ok (.invokevirtual 326, 3)) := by decide +kernel
theorem dX11_readLeaf_0 : decode cX11_readLeaf 0 = .ok (.aload_n 0, 1) := eX11_readLeaf_0.1
theorem dX11_readLeaf_1 : decode cX11_readLeaf 1 = .ok (.bipush 115, 2) := eX11_readLeaf_0.2.1
theorem dX11_readLeaf_3 : decode cX11_readLeaf 3 = .ok (.bipush 97, 2) := eX11_readLeaf_0.2.2.1
theorem dX11_readLeaf_5 : decode cX11_readLeaf 5 = .ok (.bipush 119, 2) := eX11_readLeaf_0.2.2.2.1
theorem dX11_readLeaf_7 : decode cX11_readLeaf 7 = .ok (.iconst 0, 1) := eX11_readLeaf_0.2.2.2.2.1
theorem dX11_readLeaf_8 : decode cX11_readLeaf 8 = .ok (.iconst 0, 1) := eX11_readLeaf_0.2.2.2.2.2.1
theorem dX11_readLeaf_9 : decode cX11_readLeaf 9 = .ok (.iconst 0, 1) := eX11_readLeaf_0.2.2.2.2.2.2.1
theorem dX11_readLeaf_10 : decode cX11_readLeaf 10 = .ok (.invokevirtual 326, 3) := eX11_readLeaf_0.2.2.2.2.2.2.2
theorem eX11_readLeaf_8 : (decode cX11_readLeaf 13 = .ok (.ifCond .ne 19, 3)) ∧ (decode cX11_readLeaf 16 = .ok (.aload_n 0, 1)) ∧ (decode cX11_readLeaf 17 = .ok (.bipush 107, 2)) ∧ (decode cX11_readLeaf 19 = .ok (.bipush 105, 2)) ∧ (decode cX11_readLeaf 21 = .ok (.bipush 110, 2)) ∧ (decode cX11_readLeaf 23 = .ok (.iconst 0, 1)) ∧ (decode cX11_readLeaf 24 = .ok (.iconst 0, 1)) ∧ (decode cX11_readLeaf 25 = .ok (.iconst 0, 1)) := by decide +kernel
theorem dX11_readLeaf_13 : decode cX11_readLeaf 13 = .ok (.ifCond .ne 19, 3) := eX11_readLeaf_8.1
theorem dX11_readLeaf_16 : decode cX11_readLeaf 16 = .ok (.aload_n 0, 1) := eX11_readLeaf_8.2.1
theorem dX11_readLeaf_17 : decode cX11_readLeaf 17 = .ok (.bipush 107, 2) := eX11_readLeaf_8.2.2.1
theorem dX11_readLeaf_19 : decode cX11_readLeaf 19 = .ok (.bipush 105, 2) := eX11_readLeaf_8.2.2.2.1
theorem dX11_readLeaf_21 : decode cX11_readLeaf 21 = .ok (.bipush 110, 2) := eX11_readLeaf_8.2.2.2.2.1
theorem dX11_readLeaf_23 : decode cX11_readLeaf 23 = .ok (.iconst 0, 1) := eX11_readLeaf_8.2.2.2.2.2.1
theorem dX11_readLeaf_24 : decode cX11_readLeaf 24 = .ok (.iconst 0, 1) := eX11_readLeaf_8.2.2.2.2.2.2.1
theorem dX11_readLeaf_25 : decode cX11_readLeaf 25 = .ok (.iconst 0, 1) := eX11_readLeaf_8.2.2.2.2.2.2.2
theorem eX11_readLeaf_16 : (decode cX11_readLeaf 26 = .ok (.invokevirtual 326, 3)) ∧ (decode cX11_readLeaf 29 = .ok (.ifCond .eq 34, 3)) ∧ (decode cX11_readLeaf 32 = .ok (.aload_n 0, 1)) ∧ (decode cX11_readLeaf 33 = .ok (.aload_n 0, 1)) ∧ (decode cX11_readLeaf 34 = .ok (.bipush 115, 2)) ∧ (decode cX11_readLeaf 36 = .ok (.bipush 97, 2)) ∧ (decode cX11_readLeaf 38 = .ok (.bipush 119, 2)) ∧ (decode cX11_readLeaf 40 = .ok (.iconst 0, 1)) := by decide +kernel
theorem dX11_readLeaf_26 : decode cX11_readLeaf 26 = .ok (.invokevirtual 326, 3) := eX11_readLeaf_16.1
theorem dX11_readLeaf_29 : decode cX11_readLeaf 29 = .ok (.ifCond .eq 34, 3) := eX11_readLeaf_16.2.1
theorem dX11_readLeaf_32 : decode cX11_readLeaf 32 = .ok (.aload_n 0, 1) := eX11_readLeaf_16.2.2.1
theorem dX11_readLeaf_33 : decode cX11_readLeaf 33 = .ok (.aload_n 0, 1) := eX11_readLeaf_16.2.2.2.1
theorem dX11_readLeaf_34 : decode cX11_readLeaf 34 = .ok (.bipush 115, 2) := eX11_readLeaf_16.2.2.2.2.1
theorem dX11_readLeaf_36 : decode cX11_readLeaf 36 = .ok (.bipush 97, 2) := eX11_readLeaf_16.2.2.2.2.2.1
theorem dX11_readLeaf_38 : decode cX11_readLeaf 38 = .ok (.bipush 119, 2) := eX11_readLeaf_16.2.2.2.2.2.2.1
theorem dX11_readLeaf_40 : decode cX11_readLeaf 40 = .ok (.iconst 0, 1) := eX11_readLeaf_16.2.2.2.2.2.2.2
theorem eX11_readLeaf_24 : (decode cX11_readLeaf 41 = .ok (.iconst 0, 1)) ∧ (decode cX11_readLeaf 42 = .ok (.iconst 0, 1)) ∧ (decode cX11_readLeaf 43 = .ok (.invokevirtual 326, 3)) ∧ (decode cX11_readLeaf 46 = .ok (.ifCond .eq 7, 3)) ∧ (decode cX11_readLeaf 49 = .ok (.iconst (-1), 1)) ∧ (decode cX11_readLeaf 50 = .ok (.goto 5, 3)) ∧ (decode cX11_readLeaf 53 = .ok (.bipush (-2), 2)) ∧ (decode cX11_readLeaf 55 = .ok (.invokevirtual 323, 3)) := by decide +kernel
theorem dX11_readLeaf_41 : decode cX11_readLeaf 41 = .ok (.iconst 0, 1) := eX11_readLeaf_24.1
theorem dX11_readLeaf_42 : decode cX11_readLeaf 42 = .ok (.iconst 0, 1) := eX11_readLeaf_24.2.1
theorem dX11_readLeaf_43 : decode cX11_readLeaf 43 = .ok (.invokevirtual 326, 3) := eX11_readLeaf_24.2.2.1
theorem dX11_readLeaf_46 : decode cX11_readLeaf 46 = .ok (.ifCond .eq 7, 3) := eX11_readLeaf_24.2.2.2.1
theorem dX11_readLeaf_49 : decode cX11_readLeaf 49 = .ok (.iconst (-1), 1) := eX11_readLeaf_24.2.2.2.2.1
theorem dX11_readLeaf_50 : decode cX11_readLeaf 50 = .ok (.goto 5, 3) := eX11_readLeaf_24.2.2.2.2.2.1
theorem dX11_readLeaf_53 : decode cX11_readLeaf 53 = .ok (.bipush (-2), 2) := eX11_readLeaf_24.2.2.2.2.2.2.1
theorem dX11_readLeaf_55 : decode cX11_readLeaf 55 = .ok (.invokevirtual 323, 3) := eX11_readLeaf_24.2.2.2.2.2.2.2
theorem eX11_readLeaf_32 : (decode cX11_readLeaf 58 = .ok (.aload_n 0, 1)) ∧ (decode cX11_readLeaf 59 = .ok (.invokevirtual 314, 3)) ∧ (decode cX11_readLeaf 62 = .ok (.return_, 1)) ∧ (decode cX11_readLeaf 63 = .ok (.aload_n 0, 1)) ∧ (decode cX11_readLeaf 64 = .ok (.aload_n 0, 1)) ∧ (decode cX11_readLeaf 65 = .ok (.bipush 111, 2)) ∧ (decode cX11_readLeaf 67 = .ok (.bipush 108, 2)) ∧ (decode cX11_readLeaf 69 = .ok (.bipush 100, 2)) := by decide +kernel
theorem dX11_readLeaf_58 : decode cX11_readLeaf 58 = .ok (.aload_n 0, 1) := eX11_readLeaf_32.1
theorem dX11_readLeaf_59 : decode cX11_readLeaf 59 = .ok (.invokevirtual 314, 3) := eX11_readLeaf_32.2.1
theorem dX11_readLeaf_62 : decode cX11_readLeaf 62 = .ok (.return_, 1) := eX11_readLeaf_32.2.2.1
theorem dX11_readLeaf_63 : decode cX11_readLeaf 63 = .ok (.aload_n 0, 1) := eX11_readLeaf_32.2.2.2.1
theorem dX11_readLeaf_64 : decode cX11_readLeaf 64 = .ok (.aload_n 0, 1) := eX11_readLeaf_32.2.2.2.2.1
theorem dX11_readLeaf_65 : decode cX11_readLeaf 65 = .ok (.bipush 111, 2) := eX11_readLeaf_32.2.2.2.2.2.1
theorem dX11_readLeaf_67 : decode cX11_readLeaf 67 = .ok (.bipush 108, 2) := eX11_readLeaf_32.2.2.2.2.2.2.1
theorem dX11_readLeaf_69 : decode cX11_readLeaf 69 = .ok (.bipush 100, 2) := eX11_readLeaf_32.2.2.2.2.2.2.2
theorem eX11_readLeaf_40 : (decode cX11_readLeaf 71 = .ok (.iconst 0, 1)) ∧ (decode cX11_readLeaf 72 = .ok (.iconst 0, 1)) ∧ (decode cX11_readLeaf 73 = .ok (.iconst 0, 1)) ∧ (decode cX11_readLeaf 74 = .ok (.invokevirtual 326, 3)) ∧ (decode cX11_readLeaf 77 = .ok (.invokevirtual 333, 3)) ∧ (decode cX11_readLeaf 80 = .ok (.aload_n 0, 1)) ∧ (decode cX11_readLeaf 81 = .ok (.getfield 285, 3)) ∧ (decode cX11_readLeaf 84 = .ok (.l2i, 1)) := by decide +kernel
theorem dX11_readLeaf_71 : decode cX11_readLeaf 71 = .ok (.iconst 0, 1) := eX11_readLeaf_40.1
theorem dX11_readLeaf_72 : decode cX11_readLeaf 72 = .ok (.iconst 0, 1) := eX11_readLeaf_40.2.1
theorem dX11_readLeaf_73 : decode cX11_readLeaf 73 = .ok (.iconst 0, 1) := eX11_readLeaf_40.2.2.1
theorem dX11_readLeaf_74 : decode cX11_readLeaf 74 = .ok (.invokevirtual 326, 3) := eX11_readLeaf_40.2.2.2.1
theorem dX11_readLeaf_77 : decode cX11_readLeaf 77 = .ok (.invokevirtual 333, 3) := eX11_readLeaf_40.2.2.2.2.1
theorem dX11_readLeaf_80 : decode cX11_readLeaf 80 = .ok (.aload_n 0, 1) := eX11_readLeaf_40.2.2.2.2.2.1
theorem dX11_readLeaf_81 : decode cX11_readLeaf 81 = .ok (.getfield 285, 3) := eX11_readLeaf_40.2.2.2.2.2.2.1
theorem dX11_readLeaf_84 : decode cX11_readLeaf 84 = .ok (.l2i, 1) := eX11_readLeaf_40.2.2.2.2.2.2.2
theorem eX11_readLeaf_48 : (decode cX11_readLeaf 85 = .ok (.istore_n 1, 1)) ∧ (decode cX11_readLeaf 86 = .ok (.aload_n 0, 1)) ∧ (decode cX11_readLeaf 87 = .ok (.aload_n 0, 1)) ∧ (decode cX11_readLeaf 88 = .ok (.getfield 295, 3)) ∧ (decode cX11_readLeaf 91 = .ok (.iconst 2, 1)) ∧ (decode cX11_readLeaf 92 = .ok (.if_icmp .ne 18, 3)) ∧ (decode cX11_readLeaf 95 = .ok (.aload_n 0, 1)) ∧ (decode cX11_readLeaf 96 = .ok (.getfield 285, 3)) := by decide +kernel
theorem dX11_readLeaf_85 : decode cX11_readLeaf 85 = .ok (.istore_n 1, 1) := eX11_readLeaf_48.1
theorem dX11_readLeaf_86 : decode cX11_readLeaf 86 = .ok (.aload_n 0, 1) := eX11_readLeaf_48.2.1
theorem dX11_readLeaf_87 : decode cX11_readLeaf 87 = .ok (.aload_n 0, 1) := eX11_readLeaf_48.2.2.1
theorem dX11_readLeaf_88 : decode cX11_readLeaf 88 = .ok (.getfield 295, 3) := eX11_readLeaf_48.2.2.2.1
theorem dX11_readLeaf_91 : decode cX11_readLeaf 91 = .ok (.iconst 2, 1) := eX11_readLeaf_48.2.2.2.2.1
theorem dX11_readLeaf_92 : decode cX11_readLeaf 92 = .ok (.if_icmp .ne 18, 3) := eX11_readLeaf_48.2.2.2.2.2.1
theorem dX11_readLeaf_95 : decode cX11_readLeaf 95 = .ok (.aload_n 0, 1) := eX11_readLeaf_48.2.2.2.2.2.2.1
theorem dX11_readLeaf_96 : decode cX11_readLeaf 96 = .ok (.getfield 285, 3) := eX11_readLeaf_48.2.2.2.2.2.2.2
theorem eX11_readLeaf_56 : (decode cX11_readLeaf 99 = .ok (.ldc2_w 181, 3)) ∧ (decode cX11_readLeaf 102 = .ok (.lcmp, 1)) ∧ (decode cX11_readLeaf 103 = .ok (.ifCond .gt 7, 3)) ∧ (decode cX11_readLeaf 106 = .ok (.iconst 1, 1)) ∧ (decode cX11_readLeaf 107 = .ok (.goto 4, 3)) ∧ (decode cX11_readLeaf 110 = .ok (.iconst 0, 1)) ∧ (decode cX11_readLeaf 111 = .ok (.invokevirtual 333, 3)) ∧ (decode cX11_readLeaf 114 = .ok (.aload_n 0, 1)) := by decide +kernel
theorem dX11_readLeaf_99 : decode cX11_readLeaf 99 = .ok (.ldc2_w 181, 3) := eX11_readLeaf_56.1
theorem dX11_readLeaf_102 : decode cX11_readLeaf 102 = .ok (.lcmp, 1) := eX11_readLeaf_56.2.1
theorem dX11_readLeaf_103 : decode cX11_readLeaf 103 = .ok (.ifCond .gt 7, 3) := eX11_readLeaf_56.2.2.1
theorem dX11_readLeaf_106 : decode cX11_readLeaf 106 = .ok (.iconst 1, 1) := eX11_readLeaf_56.2.2.2.1
theorem dX11_readLeaf_107 : decode cX11_readLeaf 107 = .ok (.goto 4, 3) := eX11_readLeaf_56.2.2.2.2.1
theorem dX11_readLeaf_110 : decode cX11_readLeaf 110 = .ok (.iconst 0, 1) := eX11_readLeaf_56.2.2.2.2.2.1
theorem dX11_readLeaf_111 : decode cX11_readLeaf 111 = .ok (.invokevirtual 333, 3) := eX11_readLeaf_56.2.2.2.2.2.2.1
theorem dX11_readLeaf_114 : decode cX11_readLeaf 114 = .ok (.aload_n 0, 1) := eX11_readLeaf_56.2.2.2.2.2.2.2
theorem eX11_readLeaf_64 : (decode cX11_readLeaf 115 = .ok (.iload_n 1, 1)) ∧ (decode cX11_readLeaf 116 = .ok (.invokevirtual 323, 3)) ∧ (decode cX11_readLeaf 119 = .ok (.return_, 1)) := by decide +kernel
theorem dX11_readLeaf_115 : decode cX11_readLeaf 115 = .ok (.iload_n 1, 1) := eX11_readLeaf_64.1
theorem dX11_readLeaf_116 : decode cX11_readLeaf 116 = .ok (.invokevirtual 323, 3) := eX11_readLeaf_64.2.1
theorem dX11_readLeaf_119 : decode cX11_readLeaf 119 = .ok (.return_, 1) := eX11_readLeaf_64.2.2
theorem eX11_readRules_0 : (decode cX11_readRules 0 = .ok (.aload_n 0, 1)) ∧ (decode cX11_readRules 1 = .ok (.aload_n 0, 1)) ∧ (decode cX11_readRules 2 = .ok (.bipush 99, 2)) ∧ (decode cX11_readRules 4 = .ok (.bipush 111, 2)) ∧ (decode cX11_readRules 6 = .ok (.bipush 117, 2)) ∧ (decode cX11_readRules 8 = .ok (.bipush 110, 2)) ∧ (decode cX11_readRules 10 = .ok (.bipush 116, 2)) ∧ (decode cX11_readRules 12 = .ok (.iconst 0, 1)) := by decide +kernel
theorem dX11_readRules_0 : decode cX11_readRules 0 = .ok (.aload_n 0, 1) := eX11_readRules_0.1
theorem dX11_readRules_1 : decode cX11_readRules 1 = .ok (.aload_n 0, 1) := eX11_readRules_0.2.1
theorem dX11_readRules_2 : decode cX11_readRules 2 = .ok (.bipush 99, 2) := eX11_readRules_0.2.2.1
theorem dX11_readRules_4 : decode cX11_readRules 4 = .ok (.bipush 111, 2) := eX11_readRules_0.2.2.2.1
theorem dX11_readRules_6 : decode cX11_readRules 6 = .ok (.bipush 117, 2) := eX11_readRules_0.2.2.2.2.1
theorem dX11_readRules_8 : decode cX11_readRules 8 = .ok (.bipush 110, 2) := eX11_readRules_0.2.2.2.2.2.1
theorem dX11_readRules_10 : decode cX11_readRules 10 = .ok (.bipush 116, 2) := eX11_readRules_0.2.2.2.2.2.2.1
theorem dX11_readRules_12 : decode cX11_readRules 12 = .ok (.iconst 0, 1) := eX11_readRules_0.2.2.2.2.2.2.2
theorem eX11_readRules_8 : (decode cX11_readRules 13 = .ok (.invokevirtual 326, 3)) ∧ (decode cX11_readRules 16 = .ok (.invokevirtual 333, 3)) ∧ (decode cX11_readRules 19 = .ok (.aload_n 0, 1)) ∧ (decode cX11_readRules 20 = .ok (.getfield 310, 3)) ∧ (decode cX11_readRules 23 = .ok (.ifCond .ne 7, 3)) ∧ (decode cX11_readRules 26 = .ok (.aload_n 0, 1)) ∧ (decode cX11_readRules 27 = .ok (.invokevirtual 347, 3)) ∧ (decode cX11_readRules 30 = .ok (.aload_n 0, 1)) := by decide +kernel
theorem dX11_readRules_13 : decode cX11_readRules 13 = .ok (.invokevirtual 326, 3) := eX11_readRules_8.1
theorem dX11_readRules_16 : decode cX11_readRules 16 = .ok (.invokevirtual 333, 3) := eX11_readRules_8.2.1
theorem dX11_readRules_19 : decode cX11_readRules 19 = .ok (.aload_n 0, 1) := eX11_readRules_8.2.2.1
theorem dX11_readRules_20 : decode cX11_readRules 20 = .ok (.getfield 310, 3) := eX11_readRules_8.2.2.2.1
theorem dX11_readRules_23 : decode cX11_readRules 23 = .ok (.ifCond .ne 7, 3) := eX11_readRules_8.2.2.2.2.1
theorem dX11_readRules_26 : decode cX11_readRules 26 = .ok (.aload_n 0, 1) := eX11_readRules_8.2.2.2.2.2.1
theorem dX11_readRules_27 : decode cX11_readRules 27 = .ok (.invokevirtual 347, 3) := eX11_readRules_8.2.2.2.2.2.2.1
theorem dX11_readRules_30 : decode cX11_readRules 30 = .ok (.aload_n 0, 1) := eX11_readRules_8.2.2.2.2.2.2.2
theorem eX11_readRules_16 : (decode cX11_readRules 31 = .ok (.aload_n 0, 1)) ∧ (decode cX11_readRules 32 = .ok (.bipush 59, 2)) ∧ (decode cX11_readRules 34 = .ok (.invokevirtual 330, 3)) ∧ (decode cX11_readRules 37 = .ok (.invokevirtual 333, 3)) ∧ (decode cX11_readRules 40 = .ok (.aload_n 0, 1)) ∧ (decode cX11_readRules 41 = .ok (.getfield 310, 3)) ∧ (decode cX11_readRules 44 = .ok (.ifCond .ne 121, 3)) ∧ (decode cX11_readRules 47 = .ok (.aload_n 0, 1)) := by decide +kernel
theorem dX11_readRules_31 : decode cX11_readRules 31 = .ok (.aload_n 0, 1) := eX11_readRules_16.1
theorem dX11_readRules_32 : decode cX11_readRules 32 = .ok (.bipush 59, 2) := eX11_readRules_16.2.1
theorem dX11_readRules_34 : decode cX11_readRules 34 = .ok (.invokevirtual 330, 3) := eX11_readRules_16.2.2.1
theorem dX11_readRules_37 : decode cX11_readRules 37 = .ok (.invokevirtual 333, 3) := eX11_readRules_16.2.2.2.1
theorem dX11_readRules_40 : decode cX11_readRules 40 = .ok (.aload_n 0, 1) := eX11_readRules_16.2.2.2.2.1
theorem dX11_readRules_41 : decode cX11_readRules 41 = .ok (.getfield 310, 3) := eX11_readRules_16.2.2.2.2.2.1
theorem dX11_readRules_44 : decode cX11_readRules 44 = .ok (.ifCond .ne 121, 3) := eX11_readRules_16.2.2.2.2.2.2.1
theorem dX11_readRules_47 : decode cX11_readRules 47 = .ok (.aload_n 0, 1) := eX11_readRules_16.2.2.2.2.2.2.2
theorem eX11_readRules_24 : (decode cX11_readRules 48 = .ok (.bipush 112, 2)) ∧ (decode cX11_readRules 50 = .ok (.bipush 111, 2)) ∧ (decode cX11_readRules 52 = .ok (.bipush 105, 2)) ∧ (decode cX11_readRules 54 = .ok (.bipush 110, 2)) ∧ (decode cX11_readRules 56 = .ok (.bipush 116, 2)) ∧ (decode cX11_readRules 58 = .ok (.bipush 115, 2)) ∧ (decode cX11_readRules 60 = .ok (.invokevirtual 326, 3)) ∧ (decode cX11_readRules 63 = .ok (.ifCond .eq 102, 3)) := by decide +kernel
theorem dX11_readRules_48 : decode cX11_readRules 48 = .ok (.bipush 112, 2) := eX11_readRules_24.1
theorem dX11_readRules_50 : decode cX11_readRules 50 = .ok (.bipush 111, 2) := eX11_readRules_24.2.1
theorem dX11_readRules_52 : decode cX11_readRules 52 = .ok (.bipush 105, 2) := eX11_readRules_24.2.2.1
theorem dX11_readRules_54 : decode cX11_readRules 54 = .ok (.bipush 110, 2) := eX11_readRules_24.2.2.2.1
theorem dX11_readRules_56 : decode cX11_readRules 56 = .ok (.bipush 116, 2) := eX11_readRules_24.2.2.2.2.1
theorem dX11_readRules_58 : decode cX11_readRules 58 = .ok (.bipush 115, 2) := eX11_readRules_24.2.2.2.2.2.1
theorem dX11_readRules_60 : decode cX11_readRules 60 = .ok (.invokevirtual 326, 3) := eX11_readRules_24.2.2.2.2.2.2.1
theorem dX11_readRules_63 : decode cX11_readRules 63 = .ok (.ifCond .eq 102, 3) := eX11_readRules_24.2.2.2.2.2.2.2
theorem eX11_readRules_32 : (decode cX11_readRules 66 = .ok (.aload_n 0, 1)) ∧ (decode cX11_readRules 67 = .ok (.invokevirtual 314, 3)) ∧ (decode cX11_readRules 70 = .ok (.iconst 1, 1)) ∧ (decode cX11_readRules 71 = .ok (.istore_n 1, 1)) ∧ (decode cX11_readRules 72 = .ok (.iload_n 1, 1)) ∧ (decode cX11_readRules 73 = .ok (.ifCond .eq 89, 3)) ∧ (decode cX11_readRules 76 = .ok (.aload_n 0, 1)) ∧ (decode cX11_readRules 77 = .ok (.getfield 310, 3)) := by decide +kernel
theorem dX11_readRules_66 : decode cX11_readRules 66 = .ok (.aload_n 0, 1) := eX11_readRules_32.1
theorem dX11_readRules_67 : decode cX11_readRules 67 = .ok (.invokevirtual 314, 3) := eX11_readRules_32.2.1
theorem dX11_readRules_70 : decode cX11_readRules 70 = .ok (.iconst 1, 1) := eX11_readRules_32.2.2.1
theorem dX11_readRules_71 : decode cX11_readRules 71 = .ok (.istore_n 1, 1) := eX11_readRules_32.2.2.2.1
theorem dX11_readRules_72 : decode cX11_readRules 72 = .ok (.iload_n 1, 1) := eX11_readRules_32.2.2.2.2.1
theorem dX11_readRules_73 : decode cX11_readRules 73 = .ok (.ifCond .eq 89, 3) := eX11_readRules_32.2.2.2.2.2.1
theorem dX11_readRules_76 : decode cX11_readRules 76 = .ok (.aload_n 0, 1) := eX11_readRules_32.2.2.2.2.2.2.1
theorem dX11_readRules_77 : decode cX11_readRules 77 = .ok (.getfield 310, 3) := eX11_readRules_32.2.2.2.2.2.2.2
theorem eX11_readRules_40 : (decode cX11_readRules 80 = .ok (.ifCond .ne 82, 3)) ∧ (decode cX11_readRules 83 = .ok (.aload_n 0, 1)) ∧ (decode cX11_readRules 84 = .ok (.getfield 285, 3)) ∧ (decode cX11_readRules 87 = .ok (.l2i, 1)) ∧ (decode cX11_readRules 88 = .ok (.istore_n 2, 1)) ∧ (decode cX11_readRules 89 = .ok (.aload_n 0, 1)) ∧ (decode cX11_readRules 90 = .ok (.aload_n 0, 1)) ∧ (decode cX11_readRules 91 = .ok (.getfield 295, 3)) := by decide +kernel
theorem dX11_readRules_80 : decode cX11_readRules 80 = .ok (.ifCond .ne 82, 3) := eX11_readRules_40.1
theorem dX11_readRules_83 : decode cX11_readRules 83 = .ok (.aload_n 0, 1) := eX11_readRules_40.2.1
theorem dX11_readRules_84 : decode cX11_readRules 84 = .ok (.getfield 285, 3) := eX11_readRules_40.2.2.1
theorem dX11_readRules_87 : decode cX11_readRules 87 = .ok (.l2i, 1) := eX11_readRules_40.2.2.2.1
theorem dX11_readRules_88 : decode cX11_readRules 88 = .ok (.istore_n 2, 1) := eX11_readRules_40.2.2.2.2.1
theorem dX11_readRules_89 : decode cX11_readRules 89 = .ok (.aload_n 0, 1) := eX11_readRules_40.2.2.2.2.2.1
theorem dX11_readRules_90 : decode cX11_readRules 90 = .ok (.aload_n 0, 1) := eX11_readRules_40.2.2.2.2.2.2.1
theorem dX11_readRules_91 : decode cX11_readRules 91 = .ok (.getfield 295, 3) := eX11_readRules_40.2.2.2.2.2.2.2
theorem eX11_readRules_48 : (decode cX11_readRules 94 = .ok (.iconst 2, 1)) ∧ (decode cX11_readRules 95 = .ok (.if_icmp .ne 18, 3)) ∧ (decode cX11_readRules 98 = .ok (.aload_n 0, 1)) ∧ (decode cX11_readRules 99 = .ok (.getfield 285, 3)) ∧ (decode cX11_readRules 102 = .ok (.ldc2_w 181, 3)) ∧ (decode cX11_readRules 105 = .ok (.lcmp, 1)) ∧ (decode cX11_readRules 106 = .ok (.ifCond .gt 7, 3)) ∧ (decode cX11_readRules 109 = .ok (.iconst 1, 1)) := by decide +kernel
theorem dX11_readRules_94 : decode cX11_readRules 94 = .ok (.iconst 2, 1) := eX11_readRules_48.1
theorem dX11_readRules_95 : decode cX11_readRules 95 = .ok (.if_icmp .ne 18, 3) := eX11_readRules_48.2.1
theorem dX11_readRules_98 : decode cX11_readRules 98 = .ok (.aload_n 0, 1) := eX11_readRules_48.2.2.1
theorem dX11_readRules_99 : decode cX11_readRules 99 = .ok (.getfield 285, 3) := eX11_readRules_48.2.2.2.1
theorem dX11_readRules_102 : decode cX11_readRules 102 = .ok (.ldc2_w 181, 3) := eX11_readRules_48.2.2.2.2.1
theorem dX11_readRules_105 : decode cX11_readRules 105 = .ok (.lcmp, 1) := eX11_readRules_48.2.2.2.2.2.1
theorem dX11_readRules_106 : decode cX11_readRules 106 = .ok (.ifCond .gt 7, 3) := eX11_readRules_48.2.2.2.2.2.2.1
theorem dX11_readRules_109 : decode cX11_readRules 109 = .ok (.iconst 1, 1) := eX11_readRules_48.2.2.2.2.2.2.2
theorem eX11_readRules_56 : (decode cX11_readRules 110 = .ok (.goto 4, 3)) ∧ (decode cX11_readRules 113 = .ok (.iconst 0, 1)) ∧ (decode cX11_readRules 114 = .ok (.invokevirtual 333, 3)) ∧ (decode cX11_readRules 117 = .ok (.aload_n 0, 1)) ∧ (decode cX11_readRules 118 = .ok (.getfield 117, 3)) ∧ (decode cX11_readRules 121 = .ok (.aload_n 0, 1)) ∧ (decode cX11_readRules 122 = .ok (.getfield 350, 3)) ∧ (decode cX11_readRules 125 = .ok (.iload_n 2, 1)) := by decide +kernel
theorem dX11_readRules_110 : decode cX11_readRules 110 = .ok (.goto 4, 3) := eX11_readRules_56.1
theorem dX11_readRules_113 : decode cX11_readRules 113 = .ok (.iconst 0, 1) := eX11_readRules_56.2.1
theorem dX11_readRules_114 : decode cX11_readRules 114 = .ok (.invokevirtual 333, 3) := eX11_readRules_56.2.2.1
theorem dX11_readRules_117 : decode cX11_readRules 117 = .ok (.aload_n 0, 1) := eX11_readRules_56.2.2.2.1
theorem dX11_readRules_118 : decode cX11_readRules 118 = .ok (.getfield 117, 3) := eX11_readRules_56.2.2.2.2.1
theorem dX11_readRules_121 : decode cX11_readRules 121 = .ok (.aload_n 0, 1) := eX11_readRules_56.2.2.2.2.2.1
theorem dX11_readRules_122 : decode cX11_readRules 122 = .ok (.getfield 350, 3) := eX11_readRules_56.2.2.2.2.2.2.1
theorem dX11_readRules_125 : decode cX11_readRules 125 = .ok (.iload_n 2, 1) := eX11_readRules_56.2.2.2.2.2.2.2
theorem eX11_readRules_64 : (decode cX11_readRules 126 = .ok (.iastore, 1)) ∧ (decode cX11_readRules 127 = .ok (.aload_n 0, 1)) ∧ (decode cX11_readRules 128 = .ok (.dup, 1)) ∧ (decode cX11_readRules 129 = .ok (.getfield 350, 3)) ∧ (decode cX11_readRules 132 = .ok (.iconst 1, 1)) ∧ (decode cX11_readRules 133 = .ok (.iadd, 1)) ∧ (decode cX11_readRules 134 = .ok (.putfield 350, 3)) ∧ (decode cX11_readRules 137 = .ok (.aload_n 0, 1)) := by decide +kernel
theorem dX11_readRules_126 : decode cX11_readRules 126 = .ok (.iastore, 1) := eX11_readRules_64.1
theorem dX11_readRules_127 : decode cX11_readRules 127 = .ok (.aload_n 0, 1) := eX11_readRules_64.2.1
theorem dX11_readRules_128 : decode cX11_readRules 128 = .ok (.dup, 1) := eX11_readRules_64.2.2.1
theorem dX11_readRules_129 : decode cX11_readRules 129 = .ok (.getfield 350, 3) := eX11_readRules_64.2.2.2.1
theorem dX11_readRules_132 : decode cX11_readRules 132 = .ok (.iconst 1, 1) := eX11_readRules_64.2.2.2.2.1
theorem dX11_readRules_133 : decode cX11_readRules 133 = .ok (.iadd, 1) := eX11_readRules_64.2.2.2.2.2.1
theorem dX11_readRules_134 : decode cX11_readRules 134 = .ok (.putfield 350, 3) := eX11_readRules_64.2.2.2.2.2.2.1
theorem dX11_readRules_137 : decode cX11_readRules 137 = .ok (.aload_n 0, 1) := eX11_readRules_64.2.2.2.2.2.2.2
theorem eX11_readRules_72 : (decode cX11_readRules 138 = .ok (.getfield 295, 3)) ∧ (decode cX11_readRules 141 = .ok (.iconst 2, 1)) ∧ (decode cX11_readRules 142 = .ok (.if_icmp .ne 15, 3)) ∧ (decode cX11_readRules 145 = .ok (.aload_n 0, 1)) ∧ (decode cX11_readRules 146 = .ok (.getfield 350, 3)) ∧ (decode cX11_readRules 149 = .ok (.iconst 5, 1)) ∧ (decode cX11_readRules 150 = .ok (.if_icmp .ge 7, 3)) ∧ (decode cX11_readRules 153 = .ok (.iconst 1, 1)) := by decide +kernel
theorem dX11_readRules_138 : decode cX11_readRules 138 = .ok (.getfield 295, 3) := eX11_readRules_72.1
theorem dX11_readRules_141 : decode cX11_readRules 141 = .ok (.iconst 2, 1) := eX11_readRules_72.2.1
theorem dX11_readRules_142 : decode cX11_readRules 142 = .ok (.if_icmp .ne 15, 3) := eX11_readRules_72.2.2.1
theorem dX11_readRules_145 : decode cX11_readRules 145 = .ok (.aload_n 0, 1) := eX11_readRules_72.2.2.2.1
theorem dX11_readRules_146 : decode cX11_readRules 146 = .ok (.getfield 350, 3) := eX11_readRules_72.2.2.2.2.1
theorem dX11_readRules_149 : decode cX11_readRules 149 = .ok (.iconst 5, 1) := eX11_readRules_72.2.2.2.2.2.1
theorem dX11_readRules_150 : decode cX11_readRules 150 = .ok (.if_icmp .ge 7, 3) := eX11_readRules_72.2.2.2.2.2.2.1
theorem dX11_readRules_153 : decode cX11_readRules 153 = .ok (.iconst 1, 1) := eX11_readRules_72.2.2.2.2.2.2.2
theorem eX11_readRules_80 : (decode cX11_readRules 154 = .ok (.goto 4, 3)) ∧ (decode cX11_readRules 157 = .ok (.iconst 0, 1)) ∧ (decode cX11_readRules 158 = .ok (.istore_n 1, 1)) ∧ (decode cX11_readRules 159 = .ok (.goto (-87), 3)) ∧ (decode cX11_readRules 162 = .ok (.goto 23, 3)) ∧ (decode cX11_readRules 165 = .ok (.aload_n 0, 1)) ∧ (decode cX11_readRules 166 = .ok (.aload_n 0, 1)) ∧ (decode cX11_readRules 167 = .ok (.bipush 114, 2)) := by decide +kernel
theorem dX11_readRules_154 : decode cX11_readRules 154 = .ok (.goto 4, 3) := eX11_readRules_80.1
theorem dX11_readRules_157 : decode cX11_readRules 157 = .ok (.iconst 0, 1) := eX11_readRules_80.2.1
theorem dX11_readRules_158 : decode cX11_readRules 158 = .ok (.istore_n 1, 1) := eX11_readRules_80.2.2.1
theorem dX11_readRules_159 : decode cX11_readRules 159 = .ok (.goto (-87), 3) := eX11_readRules_80.2.2.2.1
theorem dX11_readRules_162 : decode cX11_readRules 162 = .ok (.goto 23, 3) := eX11_readRules_80.2.2.2.2.1
theorem dX11_readRules_165 : decode cX11_readRules 165 = .ok (.aload_n 0, 1) := eX11_readRules_80.2.2.2.2.2.1
theorem dX11_readRules_166 : decode cX11_readRules 166 = .ok (.aload_n 0, 1) := eX11_readRules_80.2.2.2.2.2.2.1
theorem dX11_readRules_167 : decode cX11_readRules 167 = .ok (.bipush 114, 2) := eX11_readRules_80.2.2.2.2.2.2.2
theorem eX11_readRules_88 : (decode cX11_readRules 169 = .ok (.bipush 111, 2)) ∧ (decode cX11_readRules 171 = .ok (.bipush 117, 2)) ∧ (decode cX11_readRules 173 = .ok (.bipush 110, 2)) ∧ (decode cX11_readRules 175 = .ok (.bipush 100, 2)) ∧ (decode cX11_readRules 177 = .ok (.bipush 115, 2)) ∧ (decode cX11_readRules 179 = .ok (.invokevirtual 326, 3)) ∧ (decode cX11_readRules 182 = .ok (.invokevirtual 333, 3)) ∧ (decode cX11_readRules 185 = .ok (.aload_n 0, 1)) := by decide +kernel
theorem dX11_readRules_169 : decode cX11_readRules 169 = .ok (.bipush 111, 2) := eX11_readRules_88.1
theorem dX11_readRules_171 : decode cX11_readRules 171 = .ok (.bipush 117, 2) := eX11_readRules_88.2.1
theorem dX11_readRules_173 : decode cX11_readRules 173 = .ok (.bipush 110, 2) := eX11_readRules_88.2.2.1
theorem dX11_readRules_175 : decode cX11_readRules 175 = .ok (.bipush 100, 2) := eX11_readRules_88.2.2.2.1
theorem dX11_readRules_177 : decode cX11_readRules 177 = .ok (.bipush 115, 2) := eX11_readRules_88.2.2.2.2.1
theorem dX11_readRules_179 : decode cX11_readRules 179 = .ok (.invokevirtual 326, 3) := eX11_readRules_88.2.2.2.2.2.1
theorem dX11_readRules_182 : decode cX11_readRules 182 = .ok (.invokevirtual 333, 3) := eX11_readRules_88.2.2.2.2.2.2.1
theorem dX11_readRules_185 : decode cX11_readRules 185 = .ok (.aload_n 0, 1) := eX11_readRules_88.2.2.2.2.2.2.2
theorem eX11_readRules_96 : (decode cX11_readRules 186 = .ok (.aload_n 0, 1)) ∧ (decode cX11_readRules 187 = .ok (.bipush 59, 2)) ∧ (decode cX11_readRules 189 = .ok (.invokevirtual 330, 3)) ∧ (decode cX11_readRules 192 = .ok (.invokevirtual 333, 3)) ∧ (decode cX11_readRules 195 = .ok (.aload_n 0, 1)) ∧ (decode cX11_readRules 196 = .ok (.aload_n 0, 1)) ∧ (decode cX11_readRules 197 = .ok (.bipush 116, 2)) ∧ (decode cX11_readRules 199 = .ok (.bipush 105, 2)) := by decide +kernel
theorem dX11_readRules_186 : decode cX11_readRules 186 = .ok (.aload_n 0, 1) := eX11_readRules_96.1
theorem dX11_readRules_187 : decode cX11_readRules 187 = .ok (.bipush 59, 2) := eX11_readRules_96.2.1
theorem dX11_readRules_189 : decode cX11_readRules 189 = .ok (.invokevirtual 330, 3) := eX11_readRules_96.2.2.1
theorem dX11_readRules_192 : decode cX11_readRules 192 = .ok (.invokevirtual 333, 3) := eX11_readRules_96.2.2.2.1
theorem dX11_readRules_195 : decode cX11_readRules 195 = .ok (.aload_n 0, 1) := eX11_readRules_96.2.2.2.2.1
theorem dX11_readRules_196 : decode cX11_readRules 196 = .ok (.aload_n 0, 1) := eX11_readRules_96.2.2.2.2.2.1
theorem dX11_readRules_197 : decode cX11_readRules 197 = .ok (.bipush 116, 2) := eX11_readRules_96.2.2.2.2.2.2.1
theorem dX11_readRules_199 : decode cX11_readRules 199 = .ok (.bipush 105, 2) := eX11_readRules_96.2.2.2.2.2.2.2
theorem eX11_readRules_104 : (decode cX11_readRules 201 = .ok (.bipush 101, 2)) ∧ (decode cX11_readRules 203 = .ok (.iconst 0, 1)) ∧ (decode cX11_readRules 204 = .ok (.iconst 0, 1)) ∧ (decode cX11_readRules 205 = .ok (.iconst 0, 1)) ∧ (decode cX11_readRules 206 = .ok (.invokevirtual 326, 3)) ∧ (decode cX11_readRules 209 = .ok (.invokevirtual 333, 3)) ∧ (decode cX11_readRules 212 = .ok (.aload_n 0, 1)) ∧ (decode cX11_readRules 213 = .ok (.aload_n 0, 1)) := by decide +kernel
theorem dX11_readRules_201 : decode cX11_readRules 201 = .ok (.bipush 101, 2) := eX11_readRules_104.1
theorem dX11_readRules_203 : decode cX11_readRules 203 = .ok (.iconst 0, 1) := eX11_readRules_104.2.1
theorem dX11_readRules_204 : decode cX11_readRules 204 = .ok (.iconst 0, 1) := eX11_readRules_104.2.2.1
theorem dX11_readRules_205 : decode cX11_readRules 205 = .ok (.iconst 0, 1) := eX11_readRules_104.2.2.2.1
theorem dX11_readRules_206 : decode cX11_readRules 206 = .ok (.invokevirtual 326, 3) := eX11_readRules_104.2.2.2.2.1
theorem dX11_readRules_209 : decode cX11_readRules 209 = .ok (.invokevirtual 333, 3) := eX11_readRules_104.2.2.2.2.2.1
theorem dX11_readRules_212 : decode cX11_readRules 212 = .ok (.aload_n 0, 1) := eX11_readRules_104.2.2.2.2.2.2.1
theorem dX11_readRules_213 : decode cX11_readRules 213 = .ok (.aload_n 0, 1) := eX11_readRules_104.2.2.2.2.2.2.2
theorem eX11_readRules_112 : (decode cX11_readRules 214 = .ok (.bipush 102, 2)) ∧ (decode cX11_readRules 216 = .ok (.bipush 97, 2)) ∧ (decode cX11_readRules 218 = .ok (.bipush 109, 2)) ∧ (decode cX11_readRules 220 = .ok (.bipush 101, 2)) ∧ (decode cX11_readRules 222 = .ok (.iconst 0, 1)) ∧ (decode cX11_readRules 223 = .ok (.iconst 0, 1)) ∧ (decode cX11_readRules 224 = .ok (.invokevirtual 326, 3)) ∧ (decode cX11_readRules 227 = .ok (.ifCond .eq 7, 3)) := by decide +kernel
theorem dX11_readRules_214 : decode cX11_readRules 214 = .ok (.bipush 102, 2) := eX11_readRules_112.1
theorem dX11_readRules_216 : decode cX11_readRules 216 = .ok (.bipush 97, 2) := eX11_readRules_112.2.1
theorem dX11_readRules_218 : decode cX11_readRules 218 = .ok (.bipush 109, 2) := eX11_readRules_112.2.2.1
theorem dX11_readRules_220 : decode cX11_readRules 220 = .ok (.bipush 101, 2) := eX11_readRules_112.2.2.2.1
theorem dX11_readRules_222 : decode cX11_readRules 222 = .ok (.iconst 0, 1) := eX11_readRules_112.2.2.2.2.1
theorem dX11_readRules_223 : decode cX11_readRules 223 = .ok (.iconst 0, 1) := eX11_readRules_112.2.2.2.2.2.1
theorem dX11_readRules_224 : decode cX11_readRules 224 = .ok (.invokevirtual 326, 3) := eX11_readRules_112.2.2.2.2.2.2.1
theorem dX11_readRules_227 : decode cX11_readRules 227 = .ok (.ifCond .eq 7, 3) := eX11_readRules_112.2.2.2.2.2.2.2
theorem eX11_readRules_120 : (decode cX11_readRules 230 = .ok (.iconst 0, 1)) ∧ (decode cX11_readRules 231 = .ok (.goto 25, 3)) ∧ (decode cX11_readRules 234 = .ok (.aload_n 0, 1)) ∧ (decode cX11_readRules 235 = .ok (.bipush 102, 2)) ∧ (decode cX11_readRules 237 = .ok (.bipush 105, 2)) ∧ (decode cX11_readRules 239 = .ok (.bipush 108, 2)) ∧ (decode cX11_readRules 241 = .ok (.bipush 109, 2)) ∧ (decode cX11_readRules 243 = .ok (.iconst 0, 1)) := by decide +kernel
theorem dX11_readRules_230 : decode cX11_readRules 230 = .ok (.iconst 0, 1) := eX11_readRules_120.1
theorem dX11_readRules_231 : decode cX11_readRules 231 = .ok (.goto 25, 3) := eX11_readRules_120.2.1
theorem dX11_readRules_234 : decode cX11_readRules 234 = .ok (.aload_n 0, 1) := eX11_readRules_120.2.2.1
theorem dX11_readRules_235 : decode cX11_readRules 235 = .ok (.bipush 102, 2) := eX11_readRules_120.2.2.2.1
theorem dX11_readRules_237 : decode cX11_readRules 237 = .ok (.bipush 105, 2) := eX11_readRules_120.2.2.2.2.1
theorem dX11_readRules_239 : decode cX11_readRules 239 = .ok (.bipush 108, 2) := eX11_readRules_120.2.2.2.2.2.1
theorem dX11_readRules_241 : decode cX11_readRules 241 = .ok (.bipush 109, 2) := eX11_readRules_120.2.2.2.2.2.2.1
theorem dX11_readRules_243 : decode cX11_readRules 243 = .ok (.iconst 0, 1) := eX11_readRules_120.2.2.2.2.2.2.2
theorem eX11_readRules_128 : (decode cX11_readRules 244 = .ok (.iconst 0, 1)) ∧ (decode cX11_readRules 245 = .ok (.invokevirtual 326, 3)) ∧ (decode cX11_readRules 248 = .ok (.ifCond .eq 7, 3)) ∧ (decode cX11_readRules 251 = .ok (.iconst 1, 1)) ∧ (decode cX11_readRules 252 = .ok (.goto 4, 3)) ∧ (decode cX11_readRules 255 = .ok (.iconst 2, 1)) ∧ (decode cX11_readRules 256 = .ok (.putfield 353, 3)) ∧ (decode cX11_readRules 259 = .ok (.aload_n 0, 1)) := by decide +kernel
theorem dX11_readRules_244 : decode cX11_readRules 244 = .ok (.iconst 0, 1) := eX11_readRules_128.1
theorem dX11_readRules_245 : decode cX11_readRules 245 = .ok (.invokevirtual 326, 3) := eX11_readRules_128.2.1
theorem dX11_readRules_248 : decode cX11_readRules 248 = .ok (.ifCond .eq 7, 3) := eX11_readRules_128.2.2.1
theorem dX11_readRules_251 : decode cX11_readRules 251 = .ok (.iconst 1, 1) := eX11_readRules_128.2.2.2.1
theorem dX11_readRules_252 : decode cX11_readRules 252 = .ok (.goto 4, 3) := eX11_readRules_128.2.2.2.2.1
theorem dX11_readRules_255 : decode cX11_readRules 255 = .ok (.iconst 2, 1) := eX11_readRules_128.2.2.2.2.2.1
theorem dX11_readRules_256 : decode cX11_readRules 256 = .ok (.putfield 353, 3) := eX11_readRules_128.2.2.2.2.2.2.1
theorem dX11_readRules_259 : decode cX11_readRules 259 = .ok (.aload_n 0, 1) := eX11_readRules_128.2.2.2.2.2.2.2
theorem eX11_readRules_136 : (decode cX11_readRules 260 = .ok (.aload_n 0, 1)) ∧ (decode cX11_readRules 261 = .ok (.getfield 353, 3)) ∧ (decode cX11_readRules 264 = .ok (.iconst 2, 1)) ∧ (decode cX11_readRules 265 = .ok (.if_icmp .lt 21, 3)) ∧ (decode cX11_readRules 268 = .ok (.aload_n 0, 1)) ∧ (decode cX11_readRules 269 = .ok (.bipush 102, 2)) ∧ (decode cX11_readRules 271 = .ok (.bipush 105, 2)) ∧ (decode cX11_readRules 273 = .ok (.bipush 114, 2)) := by decide +kernel
theorem dX11_readRules_260 : decode cX11_readRules 260 = .ok (.aload_n 0, 1) := eX11_readRules_136.1
theorem dX11_readRules_261 : decode cX11_readRules 261 = .ok (.getfield 353, 3) := eX11_readRules_136.2.1
theorem dX11_readRules_264 : decode cX11_readRules 264 = .ok (.iconst 2, 1) := eX11_readRules_136.2.2.1
theorem dX11_readRules_265 : decode cX11_readRules 265 = .ok (.if_icmp .lt 21, 3) := eX11_readRules_136.2.2.2.1
theorem dX11_readRules_268 : decode cX11_readRules 268 = .ok (.aload_n 0, 1) := eX11_readRules_136.2.2.2.2.1
theorem dX11_readRules_269 : decode cX11_readRules 269 = .ok (.bipush 102, 2) := eX11_readRules_136.2.2.2.2.2.1
theorem dX11_readRules_271 : decode cX11_readRules 271 = .ok (.bipush 105, 2) := eX11_readRules_136.2.2.2.2.2.2.1
theorem dX11_readRules_273 : decode cX11_readRules 273 = .ok (.bipush 114, 2) := eX11_readRules_136.2.2.2.2.2.2.2
theorem eX11_readRules_144 : (decode cX11_readRules 275 = .ok (.bipush 115, 2)) ∧ (decode cX11_readRules 277 = .ok (.bipush 116, 2)) ∧ (decode cX11_readRules 279 = .ok (.iconst 0, 1)) ∧ (decode cX11_readRules 280 = .ok (.invokevirtual 326, 3)) ∧ (decode cX11_readRules 283 = .ok (.ifCond .eq 7, 3)) ∧ (decode cX11_readRules 286 = .ok (.iconst 1, 1)) ∧ (decode cX11_readRules 287 = .ok (.goto 4, 3)) ∧ (decode cX11_readRules 290 = .ok (.iconst 0, 1)) := by decide +kernel
theorem dX11_readRules_275 : decode cX11_readRules 275 = .ok (.bipush 115, 2) := eX11_readRules_144.1
theorem dX11_readRules_277 : decode cX11_readRules 277 = .ok (.bipush 116, 2) := eX11_readRules_144.2.1
theorem dX11_readRules_279 : decode cX11_readRules 279 = .ok (.iconst 0, 1) := eX11_readRules_144.2.2.1
theorem dX11_readRules_280 : decode cX11_readRules 280 = .ok (.invokevirtual 326, 3) := eX11_readRules_144.2.2.2.1
theorem dX11_readRules_283 : decode cX11_readRules 283 = .ok (.ifCond .eq 7, 3) := eX11_readRules_144.2.2.2.2.1
theorem dX11_readRules_286 : decode cX11_readRules 286 = .ok (.iconst 1, 1) := eX11_readRules_144.2.2.2.2.2.1
theorem dX11_readRules_287 : decode cX11_readRules 287 = .ok (.goto 4, 3) := eX11_readRules_144.2.2.2.2.2.2.1
theorem dX11_readRules_290 : decode cX11_readRules 290 = .ok (.iconst 0, 1) := eX11_readRules_144.2.2.2.2.2.2.2
theorem eX11_readRules_152 : (decode cX11_readRules 291 = .ok (.invokevirtual 333, 3)) ∧ (decode cX11_readRules 294 = .ok (.aload_n 0, 1)) ∧ (decode cX11_readRules 295 = .ok (.aload_n 0, 1)) ∧ (decode cX11_readRules 296 = .ok (.getfield 295, 3)) ∧ (decode cX11_readRules 299 = .ok (.ifCond .ne 7, 3)) ∧ (decode cX11_readRules 302 = .ok (.iconst 1, 1)) ∧ (decode cX11_readRules 303 = .ok (.goto 4, 3)) ∧ (decode cX11_readRules 306 = .ok (.iconst 0, 1)) := by decide +kernel
theorem dX11_readRules_291 : decode cX11_readRules 291 = .ok (.invokevirtual 333, 3) := eX11_readRules_152.1
theorem dX11_readRules_294 : decode cX11_readRules 294 = .ok (.aload_n 0, 1) := eX11_readRules_152.2.1
theorem dX11_readRules_295 : decode cX11_readRules 295 = .ok (.aload_n 0, 1) := eX11_readRules_152.2.2.1
theorem dX11_readRules_296 : decode cX11_readRules 296 = .ok (.getfield 295, 3) := eX11_readRules_152.2.2.2.1
theorem dX11_readRules_299 : decode cX11_readRules 299 = .ok (.ifCond .ne 7, 3) := eX11_readRules_152.2.2.2.2.1
theorem dX11_readRules_302 : decode cX11_readRules 302 = .ok (.iconst 1, 1) := eX11_readRules_152.2.2.2.2.2.1
theorem dX11_readRules_303 : decode cX11_readRules 303 = .ok (.goto 4, 3) := eX11_readRules_152.2.2.2.2.2.2.1
theorem dX11_readRules_306 : decode cX11_readRules 306 = .ok (.iconst 0, 1) := eX11_readRules_152.2.2.2.2.2.2.2
theorem eX11_readRules_160 : (decode cX11_readRules 307 = .ok (.invokevirtual 333, 3)) ∧ (decode cX11_readRules 310 = .ok (.return_, 1)) := by decide +kernel
theorem dX11_readRules_307 : decode cX11_readRules 307 = .ok (.invokevirtual 333, 3) := eX11_readRules_160.1
theorem dX11_readRules_310 : decode cX11_readRules 310 = .ok (.return_, 1) := eX11_readRules_160.2
theorem eX11_rules_0 : (decode cX11_rules 0 = .ok (.aload_n 0, 1)) ∧ (decode cX11_rules 1 = .ok (.iconst 0, 1)) ∧ (decode cX11_rules 2 = .ok (.putfield 144, 3)) ∧ (decode cX11_rules 5 = .ok (.aload_n 0, 1)) ∧ (decode cX11_rules 6 = .ok (.iconst 0, 1)) ∧ (decode cX11_rules 7 = .ok (.putfield 279, 3)) ∧ (decode cX11_rules 10 = .ok (.aload_n 0, 1)) ∧ (decode cX11_rules 11 = .ok (.iconst 0, 1)) := by decide +kernel
theorem dX11_rules_0 : decode cX11_rules 0 = .ok (.aload_n 0, 1) := eX11_rules_0.1
theorem dX11_rules_1 : decode cX11_rules 1 = .ok (.iconst 0, 1) := eX11_rules_0.2.1
theorem dX11_rules_2 : decode cX11_rules 2 = .ok (.putfield 144, 3) := eX11_rules_0.2.2.1
theorem dX11_rules_5 : decode cX11_rules 5 = .ok (.aload_n 0, 1) := eX11_rules_0.2.2.2.1
theorem dX11_rules_6 : decode cX11_rules 6 = .ok (.iconst 0, 1) := eX11_rules_0.2.2.2.2.1
theorem dX11_rules_7 : decode cX11_rules 7 = .ok (.putfield 279, 3) := eX11_rules_0.2.2.2.2.2.1
theorem dX11_rules_10 : decode cX11_rules 10 = .ok (.aload_n 0, 1) := eX11_rules_0.2.2.2.2.2.2.1
theorem dX11_rules_11 : decode cX11_rules 11 = .ok (.iconst 0, 1) := eX11_rules_0.2.2.2.2.2.2.2
theorem eX11_rules_8 : (decode cX11_rules 12 = .ok (.putfield 310, 3)) ∧ (decode cX11_rules 15 = .ok (.aload_n 0, 1)) ∧ (decode cX11_rules 16 = .ok (.iconst (-1), 1)) ∧ (decode cX11_rules 17 = .ok (.putfield 126, 3)) ∧ (decode cX11_rules 20 = .ok (.aload_n 0, 1)) ∧ (decode cX11_rules 21 = .ok (.iconst 0, 1)) ∧ (decode cX11_rules 22 = .ok (.putfield 317, 3)) ∧ (decode cX11_rules 25 = .ok (.aload_n 0, 1)) := by decide +kernel
theorem dX11_rules_12 : decode cX11_rules 12 = .ok (.putfield 310, 3) := eX11_rules_8.1
theorem dX11_rules_15 : decode cX11_rules 15 = .ok (.aload_n 0, 1) := eX11_rules_8.2.1
theorem dX11_rules_16 : decode cX11_rules 16 = .ok (.iconst (-1), 1) := eX11_rules_8.2.2.1
theorem dX11_rules_17 : decode cX11_rules 17 = .ok (.putfield 126, 3) := eX11_rules_8.2.2.2.1
theorem dX11_rules_20 : decode cX11_rules 20 = .ok (.aload_n 0, 1) := eX11_rules_8.2.2.2.2.1
theorem dX11_rules_21 : decode cX11_rules 21 = .ok (.iconst 0, 1) := eX11_rules_8.2.2.2.2.2.1
theorem dX11_rules_22 : decode cX11_rules 22 = .ok (.putfield 317, 3) := eX11_rules_8.2.2.2.2.2.2.1
theorem dX11_rules_25 : decode cX11_rules 25 = .ok (.aload_n 0, 1) := eX11_rules_8.2.2.2.2.2.2.2
theorem eX11_rules_16 : (decode cX11_rules 26 = .ok (.iconst 0, 1)) ∧ (decode cX11_rules 27 = .ok (.putfield 350, 3)) ∧ (decode cX11_rules 30 = .ok (.aload_n 0, 1)) ∧ (decode cX11_rules 31 = .ok (.invokevirtual 314, 3)) ∧ (decode cX11_rules 34 = .ok (.aload_n 0, 1)) ∧ (decode cX11_rules 35 = .ok (.invokevirtual 356, 3)) ∧ (decode cX11_rules 38 = .ok (.aload_n 0, 1)) ∧ (decode cX11_rules 39 = .ok (.iconst 0, 1)) := by decide +kernel
theorem dX11_rules_26 : decode cX11_rules 26 = .ok (.iconst 0, 1) := eX11_rules_16.1
theorem dX11_rules_27 : decode cX11_rules 27 = .ok (.putfield 350, 3) := eX11_rules_16.2.1
theorem dX11_rules_30 : decode cX11_rules 30 = .ok (.aload_n 0, 1) := eX11_rules_16.2.2.1
theorem dX11_rules_31 : decode cX11_rules 31 = .ok (.invokevirtual 314, 3) := eX11_rules_16.2.2.2.1
theorem dX11_rules_34 : decode cX11_rules 34 = .ok (.aload_n 0, 1) := eX11_rules_16.2.2.2.2.1
theorem dX11_rules_35 : decode cX11_rules 35 = .ok (.invokevirtual 356, 3) := eX11_rules_16.2.2.2.2.2.1
theorem dX11_rules_38 : decode cX11_rules 38 = .ok (.aload_n 0, 1) := eX11_rules_16.2.2.2.2.2.2.1
theorem dX11_rules_39 : decode cX11_rules 39 = .ok (.iconst 0, 1) := eX11_rules_16.2.2.2.2.2.2.2
theorem eX11_rules_24 : (decode cX11_rules 40 = .ok (.putfield 272, 3)) ∧ (decode cX11_rules 43 = .ok (.aload_n 0, 1)) ∧ (decode cX11_rules 44 = .ok (.getfield 310, 3)) ∧ (decode cX11_rules 47 = .ok (.ifCond .eq 10, 3)) ∧ (decode cX11_rules 50 = .ok (.aload_n 0, 1)) ∧ (decode cX11_rules 51 = .ok (.bipush (-6), 2)) ∧ (decode cX11_rules 53 = .ok (.invokevirtual 173, 3)) ∧ (decode cX11_rules 56 = .ok (.ireturn, 1)) := by decide +kernel
theorem dX11_rules_40 : decode cX11_rules 40 = .ok (.putfield 272, 3) := eX11_rules_24.1
theorem dX11_rules_43 : decode cX11_rules 43 = .ok (.aload_n 0, 1) := eX11_rules_24.2.1
theorem dX11_rules_44 : decode cX11_rules 44 = .ok (.getfield 310, 3) := eX11_rules_24.2.2.1
theorem dX11_rules_47 : decode cX11_rules 47 = .ok (.ifCond .eq 10, 3) := eX11_rules_24.2.2.2.1
theorem dX11_rules_50 : decode cX11_rules 50 = .ok (.aload_n 0, 1) := eX11_rules_24.2.2.2.2.1
theorem dX11_rules_51 : decode cX11_rules 51 = .ok (.bipush (-6), 2) := eX11_rules_24.2.2.2.2.2.1
theorem dX11_rules_53 : decode cX11_rules 53 = .ok (.invokevirtual 173, 3) := eX11_rules_24.2.2.2.2.2.2.1
theorem dX11_rules_56 : decode cX11_rules 56 = .ok (.ireturn, 1) := eX11_rules_24.2.2.2.2.2.2.2
theorem eX11_rules_32 : (decode cX11_rules 57 = .ok (.aload_n 0, 1)) ∧ (decode cX11_rules 58 = .ok (.iconst 1, 1)) ∧ (decode cX11_rules 59 = .ok (.putfield 359, 3)) ∧ (decode cX11_rules 62 = .ok (.aload_n 0, 1)) ∧ (decode cX11_rules 63 = .ok (.aload_n 0, 1)) ∧ (decode cX11_rules 64 = .ok (.getfield 317, 3)) ∧ (decode cX11_rules 67 = .ok (.putfield 362, 3)) ∧ (decode cX11_rules 70 = .ok (.iconst 0, 1)) := by decide +kernel
theorem dX11_rules_57 : decode cX11_rules 57 = .ok (.aload_n 0, 1) := eX11_rules_32.1
theorem dX11_rules_58 : decode cX11_rules 58 = .ok (.iconst 1, 1) := eX11_rules_32.2.1
theorem dX11_rules_59 : decode cX11_rules 59 = .ok (.putfield 359, 3) := eX11_rules_32.2.2.1
theorem dX11_rules_62 : decode cX11_rules 62 = .ok (.aload_n 0, 1) := eX11_rules_32.2.2.2.1
theorem dX11_rules_63 : decode cX11_rules 63 = .ok (.aload_n 0, 1) := eX11_rules_32.2.2.2.2.1
theorem dX11_rules_64 : decode cX11_rules 64 = .ok (.getfield 317, 3) := eX11_rules_32.2.2.2.2.2.1
theorem dX11_rules_67 : decode cX11_rules 67 = .ok (.putfield 362, 3) := eX11_rules_32.2.2.2.2.2.2.1
theorem dX11_rules_70 : decode cX11_rules 70 = .ok (.iconst 0, 1) := eX11_rules_32.2.2.2.2.2.2.2
theorem eX11_rules_40 : (decode cX11_rules 71 = .ok (.istore_n 1, 1)) ∧ (decode cX11_rules 72 = .ok (.iload_n 1, 1)) ∧ (decode cX11_rules 73 = .ok (.aload_n 0, 1)) ∧ (decode cX11_rules 74 = .ok (.getfield 317, 3)) ∧ (decode cX11_rules 77 = .ok (.if_icmp .ge 21, 3)) ∧ (decode cX11_rules 80 = .ok (.aload_n 0, 1)) ∧ (decode cX11_rules 81 = .ok (.getfield 108, 3)) ∧ (decode cX11_rules 84 = .ok (.iload_n 1, 1)) := by decide +kernel
theorem dX11_rules_71 : decode cX11_rules 71 = .ok (.istore_n 1, 1) := eX11_rules_40.1
theorem dX11_rules_72 : decode cX11_rules 72 = .ok (.iload_n 1, 1) := eX11_rules_40.2.1
theorem dX11_rules_73 : decode cX11_rules 73 = .ok (.aload_n 0, 1) := eX11_rules_40.2.2.1
theorem dX11_rules_74 : decode cX11_rules 74 = .ok (.getfield 317, 3) := eX11_rules_40.2.2.2.1
theorem dX11_rules_77 : decode cX11_rules 77 = .ok (.if_icmp .ge 21, 3) := eX11_rules_40.2.2.2.2.1
theorem dX11_rules_80 : decode cX11_rules 80 = .ok (.aload_n 0, 1) := eX11_rules_40.2.2.2.2.2.1
theorem dX11_rules_81 : decode cX11_rules 81 = .ok (.getfield 108, 3) := eX11_rules_40.2.2.2.2.2.2.1
theorem dX11_rules_84 : decode cX11_rules 84 = .ok (.iload_n 1, 1) := eX11_rules_40.2.2.2.2.2.2.2
theorem eX11_rules_48 : (decode cX11_rules 85 = .ok (.aload_n 0, 1)) ∧ (decode cX11_rules 86 = .ok (.getfield 114, 3)) ∧ (decode cX11_rules 89 = .ok (.iload_n 1, 1)) ∧ (decode cX11_rules 90 = .ok (.iaload, 1)) ∧ (decode cX11_rules 91 = .ok (.iastore, 1)) ∧ (decode cX11_rules 92 = .ok (.iinc 1 1, 3)) ∧ (decode cX11_rules 95 = .ok (.goto (-23), 3)) ∧ (decode cX11_rules 98 = .ok (.aload_n 0, 1)) := by decide +kernel
theorem dX11_rules_85 : decode cX11_rules 85 = .ok (.aload_n 0, 1) := eX11_rules_48.1
theorem dX11_rules_86 : decode cX11_rules 86 = .ok (.getfield 114, 3) := eX11_rules_48.2.1
theorem dX11_rules_89 : decode cX11_rules 89 = .ok (.iload_n 1, 1) := eX11_rules_48.2.2.1
theorem dX11_rules_90 : decode cX11_rules 90 = .ok (.iaload, 1) := eX11_rules_48.2.2.2.1
theorem dX11_rules_91 : decode cX11_rules 91 = .ok (.iastore, 1) := eX11_rules_48.2.2.2.2.1
theorem dX11_rules_92 : decode cX11_rules 92 = .ok (.iinc 1 1, 3) := eX11_rules_48.2.2.2.2.2.1
theorem dX11_rules_95 : decode cX11_rules 95 = .ok (.goto (-23), 3) := eX11_rules_48.2.2.2.2.2.2.1
theorem dX11_rules_98 : decode cX11_rules 98 = .ok (.aload_n 0, 1) := eX11_rules_48.2.2.2.2.2.2.2
theorem eX11_rules_56 : (decode cX11_rules 99 = .ok (.aload_n 0, 1)) ∧ (decode cX11_rules 100 = .ok (.getfield 350, 3)) ∧ (decode cX11_rules 103 = .ok (.putfield 365, 3)) ∧ (decode cX11_rules 106 = .ok (.iconst 0, 1)) ∧ (decode cX11_rules 107 = .ok (.istore_n 1, 1)) ∧ (decode cX11_rules 108 = .ok (.iload_n 1, 1)) ∧ (decode cX11_rules 109 = .ok (.aload_n 0, 1)) ∧ (decode cX11_rules 110 = .ok (.getfield 350, 3)) := by decide +kernel
theorem dX11_rules_99 : decode cX11_rules 99 = .ok (.aload_n 0, 1) := eX11_rules_56.1
theorem dX11_rules_100 : decode cX11_rules 100 = .ok (.getfield 350, 3) := eX11_rules_56.2.1
theorem dX11_rules_103 : decode cX11_rules 103 = .ok (.putfield 365, 3) := eX11_rules_56.2.2.1
theorem dX11_rules_106 : decode cX11_rules 106 = .ok (.iconst 0, 1) := eX11_rules_56.2.2.2.1
theorem dX11_rules_107 : decode cX11_rules 107 = .ok (.istore_n 1, 1) := eX11_rules_56.2.2.2.2.1
theorem dX11_rules_108 : decode cX11_rules 108 = .ok (.iload_n 1, 1) := eX11_rules_56.2.2.2.2.2.1
theorem dX11_rules_109 : decode cX11_rules 109 = .ok (.aload_n 0, 1) := eX11_rules_56.2.2.2.2.2.2.1
theorem dX11_rules_110 : decode cX11_rules 110 = .ok (.getfield 350, 3) := eX11_rules_56.2.2.2.2.2.2.2
theorem eX11_rules_64 : (decode cX11_rules 113 = .ok (.if_icmp .ge 21, 3)) ∧ (decode cX11_rules 116 = .ok (.aload_n 0, 1)) ∧ (decode cX11_rules 117 = .ok (.getfield 111, 3)) ∧ (decode cX11_rules 120 = .ok (.iload_n 1, 1)) ∧ (decode cX11_rules 121 = .ok (.aload_n 0, 1)) ∧ (decode cX11_rules 122 = .ok (.getfield 117, 3)) ∧ (decode cX11_rules 125 = .ok (.iload_n 1, 1)) ∧ (decode cX11_rules 126 = .ok (.iaload, 1)) := by decide +kernel
theorem dX11_rules_113 : decode cX11_rules 113 = .ok (.if_icmp .ge 21, 3) := eX11_rules_64.1
theorem dX11_rules_116 : decode cX11_rules 116 = .ok (.aload_n 0, 1) := eX11_rules_64.2.1
theorem dX11_rules_117 : decode cX11_rules 117 = .ok (.getfield 111, 3) := eX11_rules_64.2.2.1
theorem dX11_rules_120 : decode cX11_rules 120 = .ok (.iload_n 1, 1) := eX11_rules_64.2.2.2.1
theorem dX11_rules_121 : decode cX11_rules 121 = .ok (.aload_n 0, 1) := eX11_rules_64.2.2.2.2.1
theorem dX11_rules_122 : decode cX11_rules 122 = .ok (.getfield 117, 3) := eX11_rules_64.2.2.2.2.2.1
theorem dX11_rules_125 : decode cX11_rules 125 = .ok (.iload_n 1, 1) := eX11_rules_64.2.2.2.2.2.2.1
theorem dX11_rules_126 : decode cX11_rules 126 = .ok (.iaload, 1) := eX11_rules_64.2.2.2.2.2.2.2
theorem eX11_rules_72 : (decode cX11_rules 127 = .ok (.iastore, 1)) ∧ (decode cX11_rules 128 = .ok (.iinc 1 1, 3)) ∧ (decode cX11_rules 131 = .ok (.goto (-23), 3)) ∧ (decode cX11_rules 134 = .ok (.aload_n 0, 1)) ∧ (decode cX11_rules 135 = .ok (.aload_n 0, 1)) ∧ (decode cX11_rules 136 = .ok (.getfield 353, 3)) ∧ (decode cX11_rules 139 = .ok (.putfield 368, 3)) ∧ (decode cX11_rules 142 = .ok (.aload_n 0, 1)) := by decide +kernel
theorem dX11_rules_127 : decode cX11_rules 127 = .ok (.iastore, 1) := eX11_rules_72.1
theorem dX11_rules_128 : decode cX11_rules 128 = .ok (.iinc 1 1, 3) := eX11_rules_72.2.1
theorem dX11_rules_131 : decode cX11_rules 131 = .ok (.goto (-23), 3) := eX11_rules_72.2.2.1
theorem dX11_rules_134 : decode cX11_rules 134 = .ok (.aload_n 0, 1) := eX11_rules_72.2.2.2.1
theorem dX11_rules_135 : decode cX11_rules 135 = .ok (.aload_n 0, 1) := eX11_rules_72.2.2.2.2.1
theorem dX11_rules_136 : decode cX11_rules 136 = .ok (.getfield 353, 3) := eX11_rules_72.2.2.2.2.2.1
theorem dX11_rules_139 : decode cX11_rules 139 = .ok (.putfield 368, 3) := eX11_rules_72.2.2.2.2.2.2.1
theorem dX11_rules_142 : decode cX11_rules 142 = .ok (.aload_n 0, 1) := eX11_rules_72.2.2.2.2.2.2.2
theorem eX11_rules_80 : (decode cX11_rules 143 = .ok (.iconst 0, 1)) ∧ (decode cX11_rules 144 = .ok (.invokevirtual 173, 3)) ∧ (decode cX11_rules 147 = .ok (.ireturn, 1)) := by decide +kernel
theorem dX11_rules_143 : decode cX11_rules 143 = .ok (.iconst 0, 1) := eX11_rules_80.1
theorem dX11_rules_144 : decode cX11_rules 144 = .ok (.invokevirtual 173, 3) := eX11_rules_80.2.1
theorem dX11_rules_147 : decode cX11_rules 147 = .ok (.ireturn, 1) := eX11_rules_80.2.2
theorem eX11_fault_0 : (decode cX11_fault 0 = .ok (.aload_n 0, 1)) ∧ (decode cX11_fault 1 = .ok (.iconst 0, 1)) ∧ (decode cX11_fault 2 = .ok (.putfield 144, 3)) ∧ (decode cX11_fault 5 = .ok (.aload_n 0, 1)) ∧ (decode cX11_fault 6 = .ok (.getfield 126, 3)) ∧ (decode cX11_fault 9 = .ok (.ireturn, 1)) := by decide +kernel
theorem dX11_fault_0 : decode cX11_fault 0 = .ok (.aload_n 0, 1) := eX11_fault_0.1
theorem dX11_fault_1 : decode cX11_fault 1 = .ok (.iconst 0, 1) := eX11_fault_0.2.1
theorem dX11_fault_2 : decode cX11_fault 2 = .ok (.putfield 144, 3) := eX11_fault_0.2.2.1
theorem dX11_fault_5 : decode cX11_fault 5 = .ok (.aload_n 0, 1) := eX11_fault_0.2.2.2.1
theorem dX11_fault_6 : decode cX11_fault 6 = .ok (.getfield 126, 3) := eX11_fault_0.2.2.2.2.1
theorem dX11_fault_9 : decode cX11_fault 9 = .ok (.ireturn, 1) := eX11_fault_0.2.2.2.2.2
theorem eX11_isRow_0 : (decode cX11_isRow 0 = .ok (.iconst 0, 1)) ∧ (decode cX11_isRow 1 = .ok (.istore 5, 2)) ∧ (decode cX11_isRow 3 = .ok (.iconst 0, 1)) ∧ (decode cX11_isRow 4 = .ok (.istore 6, 2)) ∧ (decode cX11_isRow 6 = .ok (.iload 6, 2)) ∧ (decode cX11_isRow 8 = .ok (.aload_n 0, 1)) ∧ (decode cX11_isRow 9 = .ok (.getfield 269, 3)) ∧ (decode cX11_isRow 12 = .ok (.if_icmp .ge 66, 3)) := by decide +kernel
theorem dX11_isRow_0 : decode cX11_isRow 0 = .ok (.iconst 0, 1) := eX11_isRow_0.1
theorem dX11_isRow_1 : decode cX11_isRow 1 = .ok (.istore 5, 2) := eX11_isRow_0.2.1
theorem dX11_isRow_3 : decode cX11_isRow 3 = .ok (.iconst 0, 1) := eX11_isRow_0.2.2.1
theorem dX11_isRow_4 : decode cX11_isRow 4 = .ok (.istore 6, 2) := eX11_isRow_0.2.2.2.1
theorem dX11_isRow_6 : decode cX11_isRow 6 = .ok (.iload 6, 2) := eX11_isRow_0.2.2.2.2.1
theorem dX11_isRow_8 : decode cX11_isRow 8 = .ok (.aload_n 0, 1) := eX11_isRow_0.2.2.2.2.2.1
theorem dX11_isRow_9 : decode cX11_isRow 9 = .ok (.getfield 269, 3) := eX11_isRow_0.2.2.2.2.2.2.1
theorem dX11_isRow_12 : decode cX11_isRow 12 = .ok (.if_icmp .ge 66, 3) := eX11_isRow_0.2.2.2.2.2.2.2
theorem eX11_isRow_8 : (decode cX11_isRow 15 = .ok (.iload 5, 2)) ∧ (decode cX11_isRow 17 = .ok (.ifCond .ne 48, 3)) ∧ (decode cX11_isRow 20 = .ok (.aload_n 0, 1)) ∧ (decode cX11_isRow 21 = .ok (.getfield 96, 3)) ∧ (decode cX11_isRow 24 = .ok (.iload 6, 2)) ∧ (decode cX11_isRow 26 = .ok (.iaload, 1)) ∧ (decode cX11_isRow 27 = .ok (.iload_n 1, 1)) ∧ (decode cX11_isRow 28 = .ok (.if_icmp .ne 41, 3)) := by decide +kernel
theorem dX11_isRow_15 : decode cX11_isRow 15 = .ok (.iload 5, 2) := eX11_isRow_8.1
theorem dX11_isRow_17 : decode cX11_isRow 17 = .ok (.ifCond .ne 48, 3) := eX11_isRow_8.2.1
theorem dX11_isRow_20 : decode cX11_isRow 20 = .ok (.aload_n 0, 1) := eX11_isRow_8.2.2.1
theorem dX11_isRow_21 : decode cX11_isRow 21 = .ok (.getfield 96, 3) := eX11_isRow_8.2.2.2.1
theorem dX11_isRow_24 : decode cX11_isRow 24 = .ok (.iload 6, 2) := eX11_isRow_8.2.2.2.2.1
theorem dX11_isRow_26 : decode cX11_isRow 26 = .ok (.iaload, 1) := eX11_isRow_8.2.2.2.2.2.1
theorem dX11_isRow_27 : decode cX11_isRow 27 = .ok (.iload_n 1, 1) := eX11_isRow_8.2.2.2.2.2.2.1
theorem dX11_isRow_28 : decode cX11_isRow 28 = .ok (.if_icmp .ne 41, 3) := eX11_isRow_8.2.2.2.2.2.2.2
theorem eX11_isRow_16 : (decode cX11_isRow 31 = .ok (.aload_n 0, 1)) ∧ (decode cX11_isRow 32 = .ok (.getfield 99, 3)) ∧ (decode cX11_isRow 35 = .ok (.iload 6, 2)) ∧ (decode cX11_isRow 37 = .ok (.iaload, 1)) ∧ (decode cX11_isRow 38 = .ok (.iload_n 2, 1)) ∧ (decode cX11_isRow 39 = .ok (.if_icmp .ne 30, 3)) ∧ (decode cX11_isRow 42 = .ok (.aload_n 0, 1)) ∧ (decode cX11_isRow 43 = .ok (.getfield 102, 3)) := by decide +kernel
theorem dX11_isRow_31 : decode cX11_isRow 31 = .ok (.aload_n 0, 1) := eX11_isRow_16.1
theorem dX11_isRow_32 : decode cX11_isRow 32 = .ok (.getfield 99, 3) := eX11_isRow_16.2.1
theorem dX11_isRow_35 : decode cX11_isRow 35 = .ok (.iload 6, 2) := eX11_isRow_16.2.2.1
theorem dX11_isRow_37 : decode cX11_isRow 37 = .ok (.iaload, 1) := eX11_isRow_16.2.2.2.1
theorem dX11_isRow_38 : decode cX11_isRow 38 = .ok (.iload_n 2, 1) := eX11_isRow_16.2.2.2.2.1
theorem dX11_isRow_39 : decode cX11_isRow 39 = .ok (.if_icmp .ne 30, 3) := eX11_isRow_16.2.2.2.2.2.1
theorem dX11_isRow_42 : decode cX11_isRow 42 = .ok (.aload_n 0, 1) := eX11_isRow_16.2.2.2.2.2.2.1
theorem dX11_isRow_43 : decode cX11_isRow 43 = .ok (.getfield 102, 3) := eX11_isRow_16.2.2.2.2.2.2.2
theorem eX11_isRow_24 : (decode cX11_isRow 46 = .ok (.iload 6, 2)) ∧ (decode cX11_isRow 48 = .ok (.iaload, 1)) ∧ (decode cX11_isRow 49 = .ok (.iload_n 3, 1)) ∧ (decode cX11_isRow 50 = .ok (.if_icmp .ne 19, 3)) ∧ (decode cX11_isRow 53 = .ok (.aload_n 0, 1)) ∧ (decode cX11_isRow 54 = .ok (.getfield 105, 3)) ∧ (decode cX11_isRow 57 = .ok (.iload 6, 2)) ∧ (decode cX11_isRow 59 = .ok (.iaload, 1)) := by decide +kernel
theorem dX11_isRow_46 : decode cX11_isRow 46 = .ok (.iload 6, 2) := eX11_isRow_24.1
theorem dX11_isRow_48 : decode cX11_isRow 48 = .ok (.iaload, 1) := eX11_isRow_24.2.1
theorem dX11_isRow_49 : decode cX11_isRow 49 = .ok (.iload_n 3, 1) := eX11_isRow_24.2.2.1
theorem dX11_isRow_50 : decode cX11_isRow 50 = .ok (.if_icmp .ne 19, 3) := eX11_isRow_24.2.2.2.1
theorem dX11_isRow_53 : decode cX11_isRow 53 = .ok (.aload_n 0, 1) := eX11_isRow_24.2.2.2.2.1
theorem dX11_isRow_54 : decode cX11_isRow 54 = .ok (.getfield 105, 3) := eX11_isRow_24.2.2.2.2.2.1
theorem dX11_isRow_57 : decode cX11_isRow 57 = .ok (.iload 6, 2) := eX11_isRow_24.2.2.2.2.2.2.1
theorem dX11_isRow_59 : decode cX11_isRow 59 = .ok (.iaload, 1) := eX11_isRow_24.2.2.2.2.2.2.2
theorem eX11_isRow_32 : (decode cX11_isRow 60 = .ok (.iload 4, 2)) ∧ (decode cX11_isRow 62 = .ok (.if_icmp .gt 7, 3)) ∧ (decode cX11_isRow 65 = .ok (.iconst 1, 1)) ∧ (decode cX11_isRow 66 = .ok (.goto 4, 3)) ∧ (decode cX11_isRow 69 = .ok (.iconst 0, 1)) ∧ (decode cX11_isRow 70 = .ok (.istore 5, 2)) ∧ (decode cX11_isRow 72 = .ok (.iinc 6 1, 3)) ∧ (decode cX11_isRow 75 = .ok (.goto (-69), 3)) := by decide +kernel
theorem dX11_isRow_60 : decode cX11_isRow 60 = .ok (.iload 4, 2) := eX11_isRow_32.1
theorem dX11_isRow_62 : decode cX11_isRow 62 = .ok (.if_icmp .gt 7, 3) := eX11_isRow_32.2.1
theorem dX11_isRow_65 : decode cX11_isRow 65 = .ok (.iconst 1, 1) := eX11_isRow_32.2.2.1
theorem dX11_isRow_66 : decode cX11_isRow 66 = .ok (.goto 4, 3) := eX11_isRow_32.2.2.2.1
theorem dX11_isRow_69 : decode cX11_isRow 69 = .ok (.iconst 0, 1) := eX11_isRow_32.2.2.2.2.1
theorem dX11_isRow_70 : decode cX11_isRow 70 = .ok (.istore 5, 2) := eX11_isRow_32.2.2.2.2.2.1
theorem dX11_isRow_72 : decode cX11_isRow 72 = .ok (.iinc 6 1, 3) := eX11_isRow_32.2.2.2.2.2.2.1
theorem dX11_isRow_75 : decode cX11_isRow 75 = .ok (.goto (-69), 3) := eX11_isRow_32.2.2.2.2.2.2.2
theorem eX11_isRow_40 : (decode cX11_isRow 78 = .ok (.iload 5, 2)) ∧ (decode cX11_isRow 80 = .ok (.ireturn, 1)) := by decide +kernel
theorem dX11_isRow_78 : decode cX11_isRow 78 = .ok (.iload 5, 2) := eX11_isRow_40.1
theorem dX11_isRow_80 : decode cX11_isRow 80 = .ok (.ireturn, 1) := eX11_isRow_40.2
theorem eX11_holds_0 : (decode cX11_holds 0 = .ok (.aload_n 0, 1)) ∧ (decode cX11_holds 1 = .ok (.iconst 0, 1)) ∧ (decode cX11_holds 2 = .ok (.putfield 320, 3)) ∧ (decode cX11_holds 5 = .ok (.iconst 0, 1)) ∧ (decode cX11_holds 6 = .ok (.istore 4, 2)) ∧ (decode cX11_holds 8 = .ok (.iload 4, 2)) ∧ (decode cX11_holds 10 = .ok (.aload_n 0, 1)) ∧ (decode cX11_holds 11 = .ok (.getfield 362, 3)) := by decide +kernel
theorem dX11_holds_0 : decode cX11_holds 0 = .ok (.aload_n 0, 1) := eX11_holds_0.1
theorem dX11_holds_1 : decode cX11_holds 1 = .ok (.iconst 0, 1) := eX11_holds_0.2.1
theorem dX11_holds_2 : decode cX11_holds 2 = .ok (.putfield 320, 3) := eX11_holds_0.2.2.1
theorem dX11_holds_5 : decode cX11_holds 5 = .ok (.iconst 0, 1) := eX11_holds_0.2.2.2.1
theorem dX11_holds_6 : decode cX11_holds 6 = .ok (.istore 4, 2) := eX11_holds_0.2.2.2.2.1
theorem dX11_holds_8 : decode cX11_holds 8 = .ok (.iload 4, 2) := eX11_holds_0.2.2.2.2.2.1
theorem dX11_holds_10 : decode cX11_holds 10 = .ok (.aload_n 0, 1) := eX11_holds_0.2.2.2.2.2.2.1
theorem dX11_holds_11 : decode cX11_holds 11 = .ok (.getfield 362, 3) := eX11_holds_0.2.2.2.2.2.2.2
theorem eX11_holds_8 : (decode cX11_holds 14 = .ok (.if_icmp .ge 224, 3)) ∧ (decode cX11_holds 17 = .ok (.aload_n 0, 1)) ∧ (decode cX11_holds 18 = .ok (.getfield 108, 3)) ∧ (decode cX11_holds 21 = .ok (.iload 4, 2)) ∧ (decode cX11_holds 23 = .ok (.iaload, 1)) ∧ (decode cX11_holds 24 = .ok (.istore 5, 2)) ∧ (decode cX11_holds 26 = .ok (.iload 5, 2)) ∧ (decode cX11_holds 28 = .ok (.bipush (-3), 2)) := by decide +kernel
theorem dX11_holds_14 : decode cX11_holds 14 = .ok (.if_icmp .ge 224, 3) := eX11_holds_8.1
theorem dX11_holds_17 : decode cX11_holds 17 = .ok (.aload_n 0, 1) := eX11_holds_8.2.1
theorem dX11_holds_18 : decode cX11_holds 18 = .ok (.getfield 108, 3) := eX11_holds_8.2.2.1
theorem dX11_holds_21 : decode cX11_holds 21 = .ok (.iload 4, 2) := eX11_holds_8.2.2.2.1
theorem dX11_holds_23 : decode cX11_holds 23 = .ok (.iaload, 1) := eX11_holds_8.2.2.2.2.1
theorem dX11_holds_24 : decode cX11_holds 24 = .ok (.istore 5, 2) := eX11_holds_8.2.2.2.2.2.1
theorem dX11_holds_26 : decode cX11_holds 26 = .ok (.iload 5, 2) := eX11_holds_8.2.2.2.2.2.2.1
theorem dX11_holds_28 : decode cX11_holds 28 = .ok (.bipush (-3), 2) := eX11_holds_8.2.2.2.2.2.2.2
theorem eX11_holds_16 : (decode cX11_holds 30 = .ok (.if_icmp .ne 30, 3)) ∧ (decode cX11_holds 33 = .ok (.aload_n 0, 1)) ∧ (decode cX11_holds 34 = .ok (.getfield 120, 3)) ∧ (decode cX11_holds 37 = .ok (.aload_n 0, 1)) ∧ (decode cX11_holds 38 = .ok (.getfield 320, 3)) ∧ (decode cX11_holds 41 = .ok (.iconst 1, 1)) ∧ (decode cX11_holds 42 = .ok (.isub, 1)) ∧ (decode cX11_holds 43 = .ok (.iconst 1, 1)) := by decide +kernel
theorem dX11_holds_30 : decode cX11_holds 30 = .ok (.if_icmp .ne 30, 3) := eX11_holds_16.1
theorem dX11_holds_33 : decode cX11_holds 33 = .ok (.aload_n 0, 1) := eX11_holds_16.2.1
theorem dX11_holds_34 : decode cX11_holds 34 = .ok (.getfield 120, 3) := eX11_holds_16.2.2.1
theorem dX11_holds_37 : decode cX11_holds 37 = .ok (.aload_n 0, 1) := eX11_holds_16.2.2.2.1
theorem dX11_holds_38 : decode cX11_holds 38 = .ok (.getfield 320, 3) := eX11_holds_16.2.2.2.2.1
theorem dX11_holds_41 : decode cX11_holds 41 = .ok (.iconst 1, 1) := eX11_holds_16.2.2.2.2.2.1
theorem dX11_holds_42 : decode cX11_holds 42 = .ok (.isub, 1) := eX11_holds_16.2.2.2.2.2.2.1
theorem dX11_holds_43 : decode cX11_holds 43 = .ok (.iconst 1, 1) := eX11_holds_16.2.2.2.2.2.2.2
theorem eX11_holds_24 : (decode cX11_holds 44 = .ok (.aload_n 0, 1)) ∧ (decode cX11_holds 45 = .ok (.getfield 120, 3)) ∧ (decode cX11_holds 48 = .ok (.aload_n 0, 1)) ∧ (decode cX11_holds 49 = .ok (.getfield 320, 3)) ∧ (decode cX11_holds 52 = .ok (.iconst 1, 1)) ∧ (decode cX11_holds 53 = .ok (.isub, 1)) ∧ (decode cX11_holds 54 = .ok (.iaload, 1)) ∧ (decode cX11_holds 55 = .ok (.isub, 1)) := by decide +kernel
theorem dX11_holds_44 : decode cX11_holds 44 = .ok (.aload_n 0, 1) := eX11_holds_24.1
theorem dX11_holds_45 : decode cX11_holds 45 = .ok (.getfield 120, 3) := eX11_holds_24.2.1
theorem dX11_holds_48 : decode cX11_holds 48 = .ok (.aload_n 0, 1) := eX11_holds_24.2.2.1
theorem dX11_holds_49 : decode cX11_holds 49 = .ok (.getfield 320, 3) := eX11_holds_24.2.2.2.1
theorem dX11_holds_52 : decode cX11_holds 52 = .ok (.iconst 1, 1) := eX11_holds_24.2.2.2.2.1
theorem dX11_holds_53 : decode cX11_holds 53 = .ok (.isub, 1) := eX11_holds_24.2.2.2.2.2.1
theorem dX11_holds_54 : decode cX11_holds 54 = .ok (.iaload, 1) := eX11_holds_24.2.2.2.2.2.2.1
theorem dX11_holds_55 : decode cX11_holds 55 = .ok (.isub, 1) := eX11_holds_24.2.2.2.2.2.2.2
theorem eX11_holds_32 : (decode cX11_holds 56 = .ok (.iastore, 1)) ∧ (decode cX11_holds 57 = .ok (.goto 175, 3)) ∧ (decode cX11_holds 60 = .ok (.iload 5, 2)) ∧ (decode cX11_holds 62 = .ok (.bipush (-4), 2)) ∧ (decode cX11_holds 64 = .ok (.if_icmp .eq 10, 3)) ∧ (decode cX11_holds 67 = .ok (.iload 5, 2)) ∧ (decode cX11_holds 69 = .ok (.bipush (-5), 2)) ∧ (decode cX11_holds 71 = .ok (.if_icmp .ne 79, 3)) := by decide +kernel
theorem dX11_holds_56 : decode cX11_holds 56 = .ok (.iastore, 1) := eX11_holds_32.1
theorem dX11_holds_57 : decode cX11_holds 57 = .ok (.goto 175, 3) := eX11_holds_32.2.1
theorem dX11_holds_60 : decode cX11_holds 60 = .ok (.iload 5, 2) := eX11_holds_32.2.2.1
theorem dX11_holds_62 : decode cX11_holds 62 = .ok (.bipush (-4), 2) := eX11_holds_32.2.2.2.1
theorem dX11_holds_64 : decode cX11_holds 64 = .ok (.if_icmp .eq 10, 3) := eX11_holds_32.2.2.2.2.1
theorem dX11_holds_67 : decode cX11_holds 67 = .ok (.iload 5, 2) := eX11_holds_32.2.2.2.2.2.1
theorem dX11_holds_69 : decode cX11_holds 69 = .ok (.bipush (-5), 2) := eX11_holds_32.2.2.2.2.2.2.1
theorem dX11_holds_71 : decode cX11_holds 71 = .ok (.if_icmp .ne 79, 3) := eX11_holds_32.2.2.2.2.2.2.2
theorem eX11_holds_40 : (decode cX11_holds 74 = .ok (.aload_n 0, 1)) ∧ (decode cX11_holds 75 = .ok (.dup, 1)) ∧ (decode cX11_holds 76 = .ok (.getfield 320, 3)) ∧ (decode cX11_holds 79 = .ok (.iconst 1, 1)) ∧ (decode cX11_holds 80 = .ok (.isub, 1)) ∧ (decode cX11_holds 81 = .ok (.putfield 320, 3)) ∧ (decode cX11_holds 84 = .ok (.aload_n 0, 1)) ∧ (decode cX11_holds 85 = .ok (.getfield 120, 3)) := by decide +kernel
theorem dX11_holds_74 : decode cX11_holds 74 = .ok (.aload_n 0, 1) := eX11_holds_40.1
theorem dX11_holds_75 : decode cX11_holds 75 = .ok (.dup, 1) := eX11_holds_40.2.1
theorem dX11_holds_76 : decode cX11_holds 76 = .ok (.getfield 320, 3) := eX11_holds_40.2.2.1
theorem dX11_holds_79 : decode cX11_holds 79 = .ok (.iconst 1, 1) := eX11_holds_40.2.2.2.1
theorem dX11_holds_80 : decode cX11_holds 80 = .ok (.isub, 1) := eX11_holds_40.2.2.2.2.1
theorem dX11_holds_81 : decode cX11_holds 81 = .ok (.putfield 320, 3) := eX11_holds_40.2.2.2.2.2.1
theorem dX11_holds_84 : decode cX11_holds 84 = .ok (.aload_n 0, 1) := eX11_holds_40.2.2.2.2.2.2.1
theorem dX11_holds_85 : decode cX11_holds 85 = .ok (.getfield 120, 3) := eX11_holds_40.2.2.2.2.2.2.2
theorem eX11_holds_48 : (decode cX11_holds 88 = .ok (.aload_n 0, 1)) ∧ (decode cX11_holds 89 = .ok (.getfield 320, 3)) ∧ (decode cX11_holds 92 = .ok (.iconst 1, 1)) ∧ (decode cX11_holds 93 = .ok (.isub, 1)) ∧ (decode cX11_holds 94 = .ok (.iaload, 1)) ∧ (decode cX11_holds 95 = .ok (.istore 6, 2)) ∧ (decode cX11_holds 97 = .ok (.aload_n 0, 1)) ∧ (decode cX11_holds 98 = .ok (.getfield 120, 3)) := by decide +kernel
theorem dX11_holds_88 : decode cX11_holds 88 = .ok (.aload_n 0, 1) := eX11_holds_48.1
theorem dX11_holds_89 : decode cX11_holds 89 = .ok (.getfield 320, 3) := eX11_holds_48.2.1
theorem dX11_holds_92 : decode cX11_holds 92 = .ok (.iconst 1, 1) := eX11_holds_48.2.2.1
theorem dX11_holds_93 : decode cX11_holds 93 = .ok (.isub, 1) := eX11_holds_48.2.2.2.1
theorem dX11_holds_94 : decode cX11_holds 94 = .ok (.iaload, 1) := eX11_holds_48.2.2.2.2.1
theorem dX11_holds_95 : decode cX11_holds 95 = .ok (.istore 6, 2) := eX11_holds_48.2.2.2.2.2.1
theorem dX11_holds_97 : decode cX11_holds 97 = .ok (.aload_n 0, 1) := eX11_holds_48.2.2.2.2.2.2.1
theorem dX11_holds_98 : decode cX11_holds 98 = .ok (.getfield 120, 3) := eX11_holds_48.2.2.2.2.2.2.2
theorem eX11_holds_56 : (decode cX11_holds 101 = .ok (.aload_n 0, 1)) ∧ (decode cX11_holds 102 = .ok (.getfield 320, 3)) ∧ (decode cX11_holds 105 = .ok (.iaload, 1)) ∧ (decode cX11_holds 106 = .ok (.istore 7, 2)) ∧ (decode cX11_holds 108 = .ok (.aload_n 0, 1)) ∧ (decode cX11_holds 109 = .ok (.getfield 120, 3)) ∧ (decode cX11_holds 112 = .ok (.aload_n 0, 1)) ∧ (decode cX11_holds 113 = .ok (.getfield 320, 3)) := by decide +kernel
theorem dX11_holds_101 : decode cX11_holds 101 = .ok (.aload_n 0, 1) := eX11_holds_56.1
theorem dX11_holds_102 : decode cX11_holds 102 = .ok (.getfield 320, 3) := eX11_holds_56.2.1
theorem dX11_holds_105 : decode cX11_holds 105 = .ok (.iaload, 1) := eX11_holds_56.2.2.1
theorem dX11_holds_106 : decode cX11_holds 106 = .ok (.istore 7, 2) := eX11_holds_56.2.2.2.1
theorem dX11_holds_108 : decode cX11_holds 108 = .ok (.aload_n 0, 1) := eX11_holds_56.2.2.2.2.1
theorem dX11_holds_109 : decode cX11_holds 109 = .ok (.getfield 120, 3) := eX11_holds_56.2.2.2.2.2.1
theorem dX11_holds_112 : decode cX11_holds 112 = .ok (.aload_n 0, 1) := eX11_holds_56.2.2.2.2.2.2.1
theorem dX11_holds_113 : decode cX11_holds 113 = .ok (.getfield 320, 3) := eX11_holds_56.2.2.2.2.2.2.2
theorem eX11_holds_64 : (decode cX11_holds 116 = .ok (.iconst 1, 1)) ∧ (decode cX11_holds 117 = .ok (.isub, 1)) ∧ (decode cX11_holds 118 = .ok (.iload 5, 2)) ∧ (decode cX11_holds 120 = .ok (.bipush (-4), 2)) ∧ (decode cX11_holds 122 = .ok (.if_icmp .ne 11, 3)) ∧ (decode cX11_holds 125 = .ok (.iload 6, 2)) ∧ (decode cX11_holds 127 = .ok (.iload 7, 2)) ∧ (decode cX11_holds 129 = .ok (.imul, 1)) := by decide +kernel
theorem dX11_holds_116 : decode cX11_holds 116 = .ok (.iconst 1, 1) := eX11_holds_64.1
theorem dX11_holds_117 : decode cX11_holds 117 = .ok (.isub, 1) := eX11_holds_64.2.1
theorem dX11_holds_118 : decode cX11_holds 118 = .ok (.iload 5, 2) := eX11_holds_64.2.2.1
theorem dX11_holds_120 : decode cX11_holds 120 = .ok (.bipush (-4), 2) := eX11_holds_64.2.2.2.1
theorem dX11_holds_122 : decode cX11_holds 122 = .ok (.if_icmp .ne 11, 3) := eX11_holds_64.2.2.2.2.1
theorem dX11_holds_125 : decode cX11_holds 125 = .ok (.iload 6, 2) := eX11_holds_64.2.2.2.2.2.1
theorem dX11_holds_127 : decode cX11_holds 127 = .ok (.iload 7, 2) := eX11_holds_64.2.2.2.2.2.2.1
theorem dX11_holds_129 : decode cX11_holds 129 = .ok (.imul, 1) := eX11_holds_64.2.2.2.2.2.2.2
theorem eX11_holds_72 : (decode cX11_holds 130 = .ok (.goto 16, 3)) ∧ (decode cX11_holds 133 = .ok (.iload 6, 2)) ∧ (decode cX11_holds 135 = .ok (.iload 7, 2)) ∧ (decode cX11_holds 137 = .ok (.iadd, 1)) ∧ (decode cX11_holds 138 = .ok (.ifCond .le 7, 3)) ∧ (decode cX11_holds 141 = .ok (.iconst 1, 1)) ∧ (decode cX11_holds 142 = .ok (.goto 4, 3)) ∧ (decode cX11_holds 145 = .ok (.iconst 0, 1)) := by decide +kernel
theorem dX11_holds_130 : decode cX11_holds 130 = .ok (.goto 16, 3) := eX11_holds_72.1
theorem dX11_holds_133 : decode cX11_holds 133 = .ok (.iload 6, 2) := eX11_holds_72.2.1
theorem dX11_holds_135 : decode cX11_holds 135 = .ok (.iload 7, 2) := eX11_holds_72.2.2.1
theorem dX11_holds_137 : decode cX11_holds 137 = .ok (.iadd, 1) := eX11_holds_72.2.2.2.1
theorem dX11_holds_138 : decode cX11_holds 138 = .ok (.ifCond .le 7, 3) := eX11_holds_72.2.2.2.2.1
theorem dX11_holds_141 : decode cX11_holds 141 = .ok (.iconst 1, 1) := eX11_holds_72.2.2.2.2.2.1
theorem dX11_holds_142 : decode cX11_holds 142 = .ok (.goto 4, 3) := eX11_holds_72.2.2.2.2.2.2.1
theorem dX11_holds_145 : decode cX11_holds 145 = .ok (.iconst 0, 1) := eX11_holds_72.2.2.2.2.2.2.2
theorem eX11_holds_80 : (decode cX11_holds 146 = .ok (.iastore, 1)) ∧ (decode cX11_holds 147 = .ok (.goto 85, 3)) ∧ (decode cX11_holds 150 = .ok (.iload 5, 2)) ∧ (decode cX11_holds 152 = .ok (.iconst (-1), 1)) ∧ (decode cX11_holds 153 = .ok (.if_icmp .ne 14, 3)) ∧ (decode cX11_holds 156 = .ok (.aload_n 0, 1)) ∧ (decode cX11_holds 157 = .ok (.iconst 0, 1)) ∧ (decode cX11_holds 158 = .ok (.iload_n 1, 1)) := by decide +kernel
theorem dX11_holds_146 : decode cX11_holds 146 = .ok (.iastore, 1) := eX11_holds_80.1
theorem dX11_holds_147 : decode cX11_holds 147 = .ok (.goto 85, 3) := eX11_holds_80.2.1
theorem dX11_holds_150 : decode cX11_holds 150 = .ok (.iload 5, 2) := eX11_holds_80.2.2.1
theorem dX11_holds_152 : decode cX11_holds 152 = .ok (.iconst (-1), 1) := eX11_holds_80.2.2.2.1
theorem dX11_holds_153 : decode cX11_holds 153 = .ok (.if_icmp .ne 14, 3) := eX11_holds_80.2.2.2.2.1
theorem dX11_holds_156 : decode cX11_holds 156 = .ok (.aload_n 0, 1) := eX11_holds_80.2.2.2.2.2.1
theorem dX11_holds_157 : decode cX11_holds 157 = .ok (.iconst 0, 1) := eX11_holds_80.2.2.2.2.2.2.1
theorem dX11_holds_158 : decode cX11_holds 158 = .ok (.iload_n 1, 1) := eX11_holds_80.2.2.2.2.2.2.2
theorem eX11_holds_88 : (decode cX11_holds 159 = .ok (.iload_n 2, 1)) ∧ (decode cX11_holds 160 = .ok (.iload_n 3, 1)) ∧ (decode cX11_holds 161 = .ok (.invokevirtual 371, 3)) ∧ (decode cX11_holds 164 = .ok (.goto 37, 3)) ∧ (decode cX11_holds 167 = .ok (.iload 5, 2)) ∧ (decode cX11_holds 169 = .ok (.bipush (-2), 2)) ∧ (decode cX11_holds 171 = .ok (.if_icmp .ne 14, 3)) ∧ (decode cX11_holds 174 = .ok (.aload_n 0, 1)) := by decide +kernel
theorem dX11_holds_159 : decode cX11_holds 159 = .ok (.iload_n 2, 1) := eX11_holds_88.1
theorem dX11_holds_160 : decode cX11_holds 160 = .ok (.iload_n 3, 1) := eX11_holds_88.2.1
theorem dX11_holds_161 : decode cX11_holds 161 = .ok (.invokevirtual 371, 3) := eX11_holds_88.2.2.1
theorem dX11_holds_164 : decode cX11_holds 164 = .ok (.goto 37, 3) := eX11_holds_88.2.2.2.1
theorem dX11_holds_167 : decode cX11_holds 167 = .ok (.iload 5, 2) := eX11_holds_88.2.2.2.2.1
theorem dX11_holds_169 : decode cX11_holds 169 = .ok (.bipush (-2), 2) := eX11_holds_88.2.2.2.2.2.1
theorem dX11_holds_171 : decode cX11_holds 171 = .ok (.if_icmp .ne 14, 3) := eX11_holds_88.2.2.2.2.2.2.1
theorem dX11_holds_174 : decode cX11_holds 174 = .ok (.aload_n 0, 1) := eX11_holds_88.2.2.2.2.2.2.2
theorem eX11_holds_96 : (decode cX11_holds 175 = .ok (.iconst 1, 1)) ∧ (decode cX11_holds 176 = .ok (.iload_n 1, 1)) ∧ (decode cX11_holds 177 = .ok (.iload_n 2, 1)) ∧ (decode cX11_holds 178 = .ok (.iload_n 3, 1)) ∧ (decode cX11_holds 179 = .ok (.invokevirtual 371, 3)) ∧ (decode cX11_holds 182 = .ok (.goto 19, 3)) ∧ (decode cX11_holds 185 = .ok (.aload_n 0, 1)) ∧ (decode cX11_holds 186 = .ok (.getfield 87, 3)) := by decide +kernel
theorem dX11_holds_175 : decode cX11_holds 175 = .ok (.iconst 1, 1) := eX11_holds_96.1
theorem dX11_holds_176 : decode cX11_holds 176 = .ok (.iload_n 1, 1) := eX11_holds_96.2.1
theorem dX11_holds_177 : decode cX11_holds 177 = .ok (.iload_n 2, 1) := eX11_holds_96.2.2.1
theorem dX11_holds_178 : decode cX11_holds 178 = .ok (.iload_n 3, 1) := eX11_holds_96.2.2.2.1
theorem dX11_holds_179 : decode cX11_holds 179 = .ok (.invokevirtual 371, 3) := eX11_holds_96.2.2.2.2.1
theorem dX11_holds_182 : decode cX11_holds 182 = .ok (.goto 19, 3) := eX11_holds_96.2.2.2.2.2.1
theorem dX11_holds_185 : decode cX11_holds 185 = .ok (.aload_n 0, 1) := eX11_holds_96.2.2.2.2.2.2.1
theorem dX11_holds_186 : decode cX11_holds 186 = .ok (.getfield 87, 3) := eX11_holds_96.2.2.2.2.2.2.2
theorem eX11_holds_104 : (decode cX11_holds 189 = .ok (.iload_n 1, 1)) ∧ (decode cX11_holds 190 = .ok (.iaload, 1)) ∧ (decode cX11_holds 191 = .ok (.iload 5, 2)) ∧ (decode cX11_holds 193 = .ok (.if_icmp .lt 7, 3)) ∧ (decode cX11_holds 196 = .ok (.iconst 1, 1)) ∧ (decode cX11_holds 197 = .ok (.goto 4, 3)) ∧ (decode cX11_holds 200 = .ok (.iconst 0, 1)) ∧ (decode cX11_holds 201 = .ok (.istore 6, 2)) := by decide +kernel
theorem dX11_holds_189 : decode cX11_holds 189 = .ok (.iload_n 1, 1) := eX11_holds_104.1
theorem dX11_holds_190 : decode cX11_holds 190 = .ok (.iaload, 1) := eX11_holds_104.2.1
theorem dX11_holds_191 : decode cX11_holds 191 = .ok (.iload 5, 2) := eX11_holds_104.2.2.1
theorem dX11_holds_193 : decode cX11_holds 193 = .ok (.if_icmp .lt 7, 3) := eX11_holds_104.2.2.2.1
theorem dX11_holds_196 : decode cX11_holds 196 = .ok (.iconst 1, 1) := eX11_holds_104.2.2.2.2.1
theorem dX11_holds_197 : decode cX11_holds 197 = .ok (.goto 4, 3) := eX11_holds_104.2.2.2.2.2.1
theorem dX11_holds_200 : decode cX11_holds 200 = .ok (.iconst 0, 1) := eX11_holds_104.2.2.2.2.2.2.1
theorem dX11_holds_201 : decode cX11_holds 201 = .ok (.istore 6, 2) := eX11_holds_104.2.2.2.2.2.2.2
theorem eX11_holds_112 : (decode cX11_holds 203 = .ok (.aload_n 0, 1)) ∧ (decode cX11_holds 204 = .ok (.getfield 120, 3)) ∧ (decode cX11_holds 207 = .ok (.aload_n 0, 1)) ∧ (decode cX11_holds 208 = .ok (.getfield 320, 3)) ∧ (decode cX11_holds 211 = .ok (.iload 6, 2)) ∧ (decode cX11_holds 213 = .ok (.ifCond .eq 7, 3)) ∧ (decode cX11_holds 216 = .ok (.iconst 1, 1)) ∧ (decode cX11_holds 217 = .ok (.goto 4, 3)) := by decide +kernel
theorem dX11_holds_203 : decode cX11_holds 203 = .ok (.aload_n 0, 1) := eX11_holds_112.1
theorem dX11_holds_204 : decode cX11_holds 204 = .ok (.getfield 120, 3) := eX11_holds_112.2.1
theorem dX11_holds_207 : decode cX11_holds 207 = .ok (.aload_n 0, 1) := eX11_holds_112.2.2.1
theorem dX11_holds_208 : decode cX11_holds 208 = .ok (.getfield 320, 3) := eX11_holds_112.2.2.2.1
theorem dX11_holds_211 : decode cX11_holds 211 = .ok (.iload 6, 2) := eX11_holds_112.2.2.2.2.1
theorem dX11_holds_213 : decode cX11_holds 213 = .ok (.ifCond .eq 7, 3) := eX11_holds_112.2.2.2.2.2.1
theorem dX11_holds_216 : decode cX11_holds 216 = .ok (.iconst 1, 1) := eX11_holds_112.2.2.2.2.2.2.1
theorem dX11_holds_217 : decode cX11_holds 217 = .ok (.goto 4, 3) := eX11_holds_112.2.2.2.2.2.2.2
theorem eX11_holds_120 : (decode cX11_holds 220 = .ok (.iconst 0, 1)) ∧ (decode cX11_holds 221 = .ok (.iastore, 1)) ∧ (decode cX11_holds 222 = .ok (.aload_n 0, 1)) ∧ (decode cX11_holds 223 = .ok (.dup, 1)) ∧ (decode cX11_holds 224 = .ok (.getfield 320, 3)) ∧ (decode cX11_holds 227 = .ok (.iconst 1, 1)) ∧ (decode cX11_holds 228 = .ok (.iadd, 1)) ∧ (decode cX11_holds 229 = .ok (.putfield 320, 3)) := by decide +kernel
theorem dX11_holds_220 : decode cX11_holds 220 = .ok (.iconst 0, 1) := eX11_holds_120.1
theorem dX11_holds_221 : decode cX11_holds 221 = .ok (.iastore, 1) := eX11_holds_120.2.1
theorem dX11_holds_222 : decode cX11_holds 222 = .ok (.aload_n 0, 1) := eX11_holds_120.2.2.1
theorem dX11_holds_223 : decode cX11_holds 223 = .ok (.dup, 1) := eX11_holds_120.2.2.2.1
theorem dX11_holds_224 : decode cX11_holds 224 = .ok (.getfield 320, 3) := eX11_holds_120.2.2.2.2.1
theorem dX11_holds_227 : decode cX11_holds 227 = .ok (.iconst 1, 1) := eX11_holds_120.2.2.2.2.2.1
theorem dX11_holds_228 : decode cX11_holds 228 = .ok (.iadd, 1) := eX11_holds_120.2.2.2.2.2.2.1
theorem dX11_holds_229 : decode cX11_holds 229 = .ok (.putfield 320, 3) := eX11_holds_120.2.2.2.2.2.2.2
theorem eX11_holds_128 : (decode cX11_holds 232 = .ok (.iinc 4 1, 3)) ∧ (decode cX11_holds 235 = .ok (.goto (-227), 3)) ∧ (decode cX11_holds 238 = .ok (.aload_n 0, 1)) ∧ (decode cX11_holds 239 = .ok (.getfield 120, 3)) ∧ (decode cX11_holds 242 = .ok (.iconst 0, 1)) ∧ (decode cX11_holds 243 = .ok (.iaload, 1)) ∧ (decode cX11_holds 244 = .ok (.iconst 1, 1)) ∧ (decode cX11_holds 245 = .ok (.if_icmp .ne 7, 3)) := by decide +kernel
theorem dX11_holds_232 : decode cX11_holds 232 = .ok (.iinc 4 1, 3) := eX11_holds_128.1
theorem dX11_holds_235 : decode cX11_holds 235 = .ok (.goto (-227), 3) := eX11_holds_128.2.1
theorem dX11_holds_238 : decode cX11_holds 238 = .ok (.aload_n 0, 1) := eX11_holds_128.2.2.1
theorem dX11_holds_239 : decode cX11_holds 239 = .ok (.getfield 120, 3) := eX11_holds_128.2.2.2.1
theorem dX11_holds_242 : decode cX11_holds 242 = .ok (.iconst 0, 1) := eX11_holds_128.2.2.2.2.1
theorem dX11_holds_243 : decode cX11_holds 243 = .ok (.iaload, 1) := eX11_holds_128.2.2.2.2.2.1
theorem dX11_holds_244 : decode cX11_holds 244 = .ok (.iconst 1, 1) := eX11_holds_128.2.2.2.2.2.2.1
theorem dX11_holds_245 : decode cX11_holds 245 = .ok (.if_icmp .ne 7, 3) := eX11_holds_128.2.2.2.2.2.2.2
theorem eX11_holds_136 : (decode cX11_holds 248 = .ok (.iconst 1, 1)) ∧ (decode cX11_holds 249 = .ok (.goto 4, 3)) ∧ (decode cX11_holds 252 = .ok (.iconst 0, 1)) ∧ (decode cX11_holds 253 = .ok (.ireturn, 1)) := by decide +kernel
theorem dX11_holds_248 : decode cX11_holds 248 = .ok (.iconst 1, 1) := eX11_holds_136.1
theorem dX11_holds_249 : decode cX11_holds 249 = .ok (.goto 4, 3) := eX11_holds_136.2.1
theorem dX11_holds_252 : decode cX11_holds 252 = .ok (.iconst 0, 1) := eX11_holds_136.2.2.1
theorem dX11_holds_253 : decode cX11_holds 253 = .ok (.ireturn, 1) := eX11_holds_136.2.2.2
theorem eX11_countsFor_0 : (decode cX11_countsFor 0 = .ok (.aload_n 0, 1)) ∧ (decode cX11_countsFor 1 = .ok (.iload_n 1, 1)) ∧ (decode cX11_countsFor 2 = .ok (.iload_n 2, 1)) ∧ (decode cX11_countsFor 3 = .ok (.invokevirtual 263, 3)) ∧ (decode cX11_countsFor 6 = .ok (.ifCond .lt 17, 3)) ∧ (decode cX11_countsFor 9 = .ok (.aload_n 0, 1)) ∧ (decode cX11_countsFor 10 = .ok (.iload_n 1, 1)) ∧ (decode cX11_countsFor 11 = .ok (.iload_n 2, 1)) := by decide +kernel
theorem dX11_countsFor_0 : decode cX11_countsFor 0 = .ok (.aload_n 0, 1) := eX11_countsFor_0.1
theorem dX11_countsFor_1 : decode cX11_countsFor 1 = .ok (.iload_n 1, 1) := eX11_countsFor_0.2.1
theorem dX11_countsFor_2 : decode cX11_countsFor 2 = .ok (.iload_n 2, 1) := eX11_countsFor_0.2.2.1
theorem dX11_countsFor_3 : decode cX11_countsFor 3 = .ok (.invokevirtual 263, 3) := eX11_countsFor_0.2.2.2.1
theorem dX11_countsFor_6 : decode cX11_countsFor 6 = .ok (.ifCond .lt 17, 3) := eX11_countsFor_0.2.2.2.2.1
theorem dX11_countsFor_9 : decode cX11_countsFor 9 = .ok (.aload_n 0, 1) := eX11_countsFor_0.2.2.2.2.2.1
theorem dX11_countsFor_10 : decode cX11_countsFor 10 = .ok (.iload_n 1, 1) := eX11_countsFor_0.2.2.2.2.2.2.1
theorem dX11_countsFor_11 : decode cX11_countsFor 11 = .ok (.iload_n 2, 1) := eX11_countsFor_0.2.2.2.2.2.2.2
theorem eX11_countsFor_8 : (decode cX11_countsFor 12 = .ok (.iload_n 3, 1)) ∧ (decode cX11_countsFor 13 = .ok (.invokevirtual 375, 3)) ∧ (decode cX11_countsFor 16 = .ok (.ifCond .eq 7, 3)) ∧ (decode cX11_countsFor 19 = .ok (.iconst 1, 1)) ∧ (decode cX11_countsFor 20 = .ok (.goto 4, 3)) ∧ (decode cX11_countsFor 23 = .ok (.iconst 0, 1)) ∧ (decode cX11_countsFor 24 = .ok (.ireturn, 1)) := by decide +kernel
theorem dX11_countsFor_12 : decode cX11_countsFor 12 = .ok (.iload_n 3, 1) := eX11_countsFor_8.1
theorem dX11_countsFor_13 : decode cX11_countsFor 13 = .ok (.invokevirtual 375, 3) := eX11_countsFor_8.2.1
theorem dX11_countsFor_16 : decode cX11_countsFor 16 = .ok (.ifCond .eq 7, 3) := eX11_countsFor_8.2.2.1
theorem dX11_countsFor_19 : decode cX11_countsFor 19 = .ok (.iconst 1, 1) := eX11_countsFor_8.2.2.2.1
theorem dX11_countsFor_20 : decode cX11_countsFor 20 = .ok (.goto 4, 3) := eX11_countsFor_8.2.2.2.2.1
theorem dX11_countsFor_23 : decode cX11_countsFor 23 = .ok (.iconst 0, 1) := eX11_countsFor_8.2.2.2.2.2.1
theorem dX11_countsFor_24 : decode cX11_countsFor 24 = .ok (.ireturn, 1) := eX11_countsFor_8.2.2.2.2.2.2
theorem eX11_counts_0 : (decode cX11_counts 0 = .ok (.aload_n 0, 1)) ∧ (decode cX11_counts 1 = .ok (.iconst 0, 1)) ∧ (decode cX11_counts 2 = .ok (.putfield 144, 3)) ∧ (decode cX11_counts 5 = .ok (.iload_n 3, 1)) ∧ (decode cX11_counts 6 = .ok (.i2l, 1)) ∧ (decode cX11_counts 7 = .ok (.lconst 0, 1)) ∧ (decode cX11_counts 8 = .ok (.ldc2_w 267, 3)) ∧ (decode cX11_counts 11 = .ok (.invokestatic 153, 3)) := by decide +kernel
theorem dX11_counts_0 : decode cX11_counts 0 = .ok (.aload_n 0, 1) := eX11_counts_0.1
theorem dX11_counts_1 : decode cX11_counts 1 = .ok (.iconst 0, 1) := eX11_counts_0.2.1
theorem dX11_counts_2 : decode cX11_counts 2 = .ok (.putfield 144, 3) := eX11_counts_0.2.2.1
theorem dX11_counts_5 : decode cX11_counts 5 = .ok (.iload_n 3, 1) := eX11_counts_0.2.2.2.1
theorem dX11_counts_6 : decode cX11_counts 6 = .ok (.i2l, 1) := eX11_counts_0.2.2.2.2.1
theorem dX11_counts_7 : decode cX11_counts 7 = .ok (.lconst 0, 1) := eX11_counts_0.2.2.2.2.2.1
theorem dX11_counts_8 : decode cX11_counts 8 = .ok (.ldc2_w 267, 3) := eX11_counts_0.2.2.2.2.2.2.1
theorem dX11_counts_11 : decode cX11_counts 11 = .ok (.invokestatic 153, 3) := eX11_counts_0.2.2.2.2.2.2.2
theorem eX11_counts_8 : (decode cX11_counts 14 = .ok (.ifCond .ne 5, 3)) ∧ (decode cX11_counts 17 = .ok (.iconst (-1), 1)) ∧ (decode cX11_counts 18 = .ok (.ireturn, 1)) ∧ (decode cX11_counts 19 = .ok (.aload_n 0, 1)) ∧ (decode cX11_counts 20 = .ok (.iload_n 1, 1)) ∧ (decode cX11_counts 21 = .ok (.invokevirtual 260, 3)) ∧ (decode cX11_counts 24 = .ok (.ifCond .eq 11, 3)) ∧ (decode cX11_counts 27 = .ok (.aload_n 0, 1)) := by decide +kernel
theorem dX11_counts_14 : decode cX11_counts 14 = .ok (.ifCond .ne 5, 3) := eX11_counts_8.1
theorem dX11_counts_17 : decode cX11_counts 17 = .ok (.iconst (-1), 1) := eX11_counts_8.2.1
theorem dX11_counts_18 : decode cX11_counts 18 = .ok (.ireturn, 1) := eX11_counts_8.2.2.1
theorem dX11_counts_19 : decode cX11_counts 19 = .ok (.aload_n 0, 1) := eX11_counts_8.2.2.2.1
theorem dX11_counts_20 : decode cX11_counts 20 = .ok (.iload_n 1, 1) := eX11_counts_8.2.2.2.2.1
theorem dX11_counts_21 : decode cX11_counts 21 = .ok (.invokevirtual 260, 3) := eX11_counts_8.2.2.2.2.2.1
theorem dX11_counts_24 : decode cX11_counts 24 = .ok (.ifCond .eq 11, 3) := eX11_counts_8.2.2.2.2.2.2.1
theorem dX11_counts_27 : decode cX11_counts 27 = .ok (.aload_n 0, 1) := eX11_counts_8.2.2.2.2.2.2.2
theorem eX11_counts_16 : (decode cX11_counts 28 = .ok (.iload_n 2, 1)) ∧ (decode cX11_counts 29 = .ok (.invokevirtual 187, 3)) ∧ (decode cX11_counts 32 = .ok (.ifCond .ne 6, 3)) ∧ (decode cX11_counts 35 = .ok (.bipush (-2), 2)) ∧ (decode cX11_counts 37 = .ok (.ireturn, 1)) ∧ (decode cX11_counts 38 = .ok (.aload_n 0, 1)) ∧ (decode cX11_counts 39 = .ok (.getfield 359, 3)) ∧ (decode cX11_counts 42 = .ok (.ifCond .ne 8, 3)) := by decide +kernel
theorem dX11_counts_28 : decode cX11_counts 28 = .ok (.iload_n 2, 1) := eX11_counts_16.1
theorem dX11_counts_29 : decode cX11_counts 29 = .ok (.invokevirtual 187, 3) := eX11_counts_16.2.1
theorem dX11_counts_32 : decode cX11_counts 32 = .ok (.ifCond .ne 6, 3) := eX11_counts_16.2.2.1
theorem dX11_counts_35 : decode cX11_counts 35 = .ok (.bipush (-2), 2) := eX11_counts_16.2.2.2.1
theorem dX11_counts_37 : decode cX11_counts 37 = .ok (.ireturn, 1) := eX11_counts_16.2.2.2.2.1
theorem dX11_counts_38 : decode cX11_counts 38 = .ok (.aload_n 0, 1) := eX11_counts_16.2.2.2.2.2.1
theorem dX11_counts_39 : decode cX11_counts 39 = .ok (.getfield 359, 3) := eX11_counts_16.2.2.2.2.2.2.1
theorem dX11_counts_42 : decode cX11_counts 42 = .ok (.ifCond .ne 8, 3) := eX11_counts_16.2.2.2.2.2.2.2
theorem eX11_counts_24 : (decode cX11_counts 45 = .ok (.bipush (-6), 2)) ∧ (decode cX11_counts 47 = .ok (.goto 18, 3)) ∧ (decode cX11_counts 50 = .ok (.aload_n 0, 1)) ∧ (decode cX11_counts 51 = .ok (.iload_n 1, 1)) ∧ (decode cX11_counts 52 = .ok (.iload_n 2, 1)) ∧ (decode cX11_counts 53 = .ok (.iload_n 3, 1)) ∧ (decode cX11_counts 54 = .ok (.invokevirtual 379, 3)) ∧ (decode cX11_counts 57 = .ok (.ifCond .eq 7, 3)) := by decide +kernel
theorem dX11_counts_45 : decode cX11_counts 45 = .ok (.bipush (-6), 2) := eX11_counts_24.1
theorem dX11_counts_47 : decode cX11_counts 47 = .ok (.goto 18, 3) := eX11_counts_24.2.1
theorem dX11_counts_50 : decode cX11_counts 50 = .ok (.aload_n 0, 1) := eX11_counts_24.2.2.1
theorem dX11_counts_51 : decode cX11_counts 51 = .ok (.iload_n 1, 1) := eX11_counts_24.2.2.2.1
theorem dX11_counts_52 : decode cX11_counts 52 = .ok (.iload_n 2, 1) := eX11_counts_24.2.2.2.2.1
theorem dX11_counts_53 : decode cX11_counts 53 = .ok (.iload_n 3, 1) := eX11_counts_24.2.2.2.2.2.1
theorem dX11_counts_54 : decode cX11_counts 54 = .ok (.invokevirtual 379, 3) := eX11_counts_24.2.2.2.2.2.2.1
theorem dX11_counts_57 : decode cX11_counts 57 = .ok (.ifCond .eq 7, 3) := eX11_counts_24.2.2.2.2.2.2.2
theorem eX11_counts_32 : (decode cX11_counts 60 = .ok (.iconst 1, 1)) ∧ (decode cX11_counts 61 = .ok (.goto 4, 3)) ∧ (decode cX11_counts 64 = .ok (.iconst 0, 1)) ∧ (decode cX11_counts 65 = .ok (.ireturn, 1)) := by decide +kernel
theorem dX11_counts_60 : decode cX11_counts 60 = .ok (.iconst 1, 1) := eX11_counts_32.1
theorem dX11_counts_61 : decode cX11_counts 61 = .ok (.goto 4, 3) := eX11_counts_32.2.1
theorem dX11_counts_64 : decode cX11_counts 64 = .ok (.iconst 0, 1) := eX11_counts_32.2.2.1
theorem dX11_counts_65 : decode cX11_counts 65 = .ok (.ireturn, 1) := eX11_counts_32.2.2.2
theorem eX11_isAhead_0 : (decode cX11_isAhead 0 = .ok (.aload_n 0, 1)) ∧ (decode cX11_isAhead 1 = .ok (.getfield 368, 3)) ∧ (decode cX11_isAhead 4 = .ok (.ifCond .ne 39, 3)) ∧ (decode cX11_isAhead 7 = .ok (.aload_n 0, 1)) ∧ (decode cX11_isAhead 8 = .ok (.getfield 28, 3)) ∧ (decode cX11_isAhead 11 = .ok (.iload_n 1, 1)) ∧ (decode cX11_isAhead 12 = .ok (.iaload, 1)) ∧ (decode cX11_isAhead 13 = .ok (.aload_n 0, 1)) := by decide +kernel
theorem dX11_isAhead_0 : decode cX11_isAhead 0 = .ok (.aload_n 0, 1) := eX11_isAhead_0.1
theorem dX11_isAhead_1 : decode cX11_isAhead 1 = .ok (.getfield 368, 3) := eX11_isAhead_0.2.1
theorem dX11_isAhead_4 : decode cX11_isAhead 4 = .ok (.ifCond .ne 39, 3) := eX11_isAhead_0.2.2.1
theorem dX11_isAhead_7 : decode cX11_isAhead 7 = .ok (.aload_n 0, 1) := eX11_isAhead_0.2.2.2.1
theorem dX11_isAhead_8 : decode cX11_isAhead 8 = .ok (.getfield 28, 3) := eX11_isAhead_0.2.2.2.2.1
theorem dX11_isAhead_11 : decode cX11_isAhead 11 = .ok (.iload_n 1, 1) := eX11_isAhead_0.2.2.2.2.2.1
theorem dX11_isAhead_12 : decode cX11_isAhead 12 = .ok (.iaload, 1) := eX11_isAhead_0.2.2.2.2.2.2.1
theorem dX11_isAhead_13 : decode cX11_isAhead 13 = .ok (.aload_n 0, 1) := eX11_isAhead_0.2.2.2.2.2.2.2
theorem eX11_isAhead_8 : (decode cX11_isAhead 14 = .ok (.getfield 28, 3)) ∧ (decode cX11_isAhead 17 = .ok (.iload_n 2, 1)) ∧ (decode cX11_isAhead 18 = .ok (.iaload, 1)) ∧ (decode cX11_isAhead 19 = .ok (.if_icmp .eq 24, 3)) ∧ (decode cX11_isAhead 22 = .ok (.aload_n 0, 1)) ∧ (decode cX11_isAhead 23 = .ok (.getfield 28, 3)) ∧ (decode cX11_isAhead 26 = .ok (.iload_n 1, 1)) ∧ (decode cX11_isAhead 27 = .ok (.iaload, 1)) := by decide +kernel
theorem dX11_isAhead_14 : decode cX11_isAhead 14 = .ok (.getfield 28, 3) := eX11_isAhead_8.1
theorem dX11_isAhead_17 : decode cX11_isAhead 17 = .ok (.iload_n 2, 1) := eX11_isAhead_8.2.1
theorem dX11_isAhead_18 : decode cX11_isAhead 18 = .ok (.iaload, 1) := eX11_isAhead_8.2.2.1
theorem dX11_isAhead_19 : decode cX11_isAhead 19 = .ok (.if_icmp .eq 24, 3) := eX11_isAhead_8.2.2.2.1
theorem dX11_isAhead_22 : decode cX11_isAhead 22 = .ok (.aload_n 0, 1) := eX11_isAhead_8.2.2.2.2.1
theorem dX11_isAhead_23 : decode cX11_isAhead 23 = .ok (.getfield 28, 3) := eX11_isAhead_8.2.2.2.2.2.1
theorem dX11_isAhead_26 : decode cX11_isAhead 26 = .ok (.iload_n 1, 1) := eX11_isAhead_8.2.2.2.2.2.2.1
theorem dX11_isAhead_27 : decode cX11_isAhead 27 = .ok (.iaload, 1) := eX11_isAhead_8.2.2.2.2.2.2.2
theorem eX11_isAhead_16 : (decode cX11_isAhead 28 = .ok (.aload_n 0, 1)) ∧ (decode cX11_isAhead 29 = .ok (.getfield 28, 3)) ∧ (decode cX11_isAhead 32 = .ok (.iload_n 2, 1)) ∧ (decode cX11_isAhead 33 = .ok (.iaload, 1)) ∧ (decode cX11_isAhead 34 = .ok (.if_icmp .le 7, 3)) ∧ (decode cX11_isAhead 37 = .ok (.iconst 1, 1)) ∧ (decode cX11_isAhead 38 = .ok (.goto 4, 3)) ∧ (decode cX11_isAhead 41 = .ok (.iconst 0, 1)) := by decide +kernel
theorem dX11_isAhead_28 : decode cX11_isAhead 28 = .ok (.aload_n 0, 1) := eX11_isAhead_16.1
theorem dX11_isAhead_29 : decode cX11_isAhead 29 = .ok (.getfield 28, 3) := eX11_isAhead_16.2.1
theorem dX11_isAhead_32 : decode cX11_isAhead 32 = .ok (.iload_n 2, 1) := eX11_isAhead_16.2.2.1
theorem dX11_isAhead_33 : decode cX11_isAhead 33 = .ok (.iaload, 1) := eX11_isAhead_16.2.2.2.1
theorem dX11_isAhead_34 : decode cX11_isAhead 34 = .ok (.if_icmp .le 7, 3) := eX11_isAhead_16.2.2.2.2.1
theorem dX11_isAhead_37 : decode cX11_isAhead 37 = .ok (.iconst 1, 1) := eX11_isAhead_16.2.2.2.2.2.1
theorem dX11_isAhead_38 : decode cX11_isAhead 38 = .ok (.goto 4, 3) := eX11_isAhead_16.2.2.2.2.2.2.1
theorem dX11_isAhead_41 : decode cX11_isAhead 41 = .ok (.iconst 0, 1) := eX11_isAhead_16.2.2.2.2.2.2.2
theorem eX11_isAhead_24 : (decode cX11_isAhead 42 = .ok (.ireturn, 1)) ∧ (decode cX11_isAhead 43 = .ok (.aload_n 0, 1)) ∧ (decode cX11_isAhead 44 = .ok (.getfield 368, 3)) ∧ (decode cX11_isAhead 47 = .ok (.iconst 2, 1)) ∧ (decode cX11_isAhead 48 = .ok (.if_icmp .ne 39, 3)) ∧ (decode cX11_isAhead 51 = .ok (.aload_n 0, 1)) ∧ (decode cX11_isAhead 52 = .ok (.getfield 135, 3)) ∧ (decode cX11_isAhead 55 = .ok (.iload_n 1, 1)) := by decide +kernel
theorem dX11_isAhead_42 : decode cX11_isAhead 42 = .ok (.ireturn, 1) := eX11_isAhead_24.1
theorem dX11_isAhead_43 : decode cX11_isAhead 43 = .ok (.aload_n 0, 1) := eX11_isAhead_24.2.1
theorem dX11_isAhead_44 : decode cX11_isAhead 44 = .ok (.getfield 368, 3) := eX11_isAhead_24.2.2.1
theorem dX11_isAhead_47 : decode cX11_isAhead 47 = .ok (.iconst 2, 1) := eX11_isAhead_24.2.2.2.1
theorem dX11_isAhead_48 : decode cX11_isAhead 48 = .ok (.if_icmp .ne 39, 3) := eX11_isAhead_24.2.2.2.2.1
theorem dX11_isAhead_51 : decode cX11_isAhead 51 = .ok (.aload_n 0, 1) := eX11_isAhead_24.2.2.2.2.2.1
theorem dX11_isAhead_52 : decode cX11_isAhead 52 = .ok (.getfield 135, 3) := eX11_isAhead_24.2.2.2.2.2.2.1
theorem dX11_isAhead_55 : decode cX11_isAhead 55 = .ok (.iload_n 1, 1) := eX11_isAhead_24.2.2.2.2.2.2.2
theorem eX11_isAhead_32 : (decode cX11_isAhead 56 = .ok (.iaload, 1)) ∧ (decode cX11_isAhead 57 = .ok (.aload_n 0, 1)) ∧ (decode cX11_isAhead 58 = .ok (.getfield 135, 3)) ∧ (decode cX11_isAhead 61 = .ok (.iload_n 2, 1)) ∧ (decode cX11_isAhead 62 = .ok (.iaload, 1)) ∧ (decode cX11_isAhead 63 = .ok (.if_icmp .eq 24, 3)) ∧ (decode cX11_isAhead 66 = .ok (.aload_n 0, 1)) ∧ (decode cX11_isAhead 67 = .ok (.getfield 135, 3)) := by decide +kernel
theorem dX11_isAhead_56 : decode cX11_isAhead 56 = .ok (.iaload, 1) := eX11_isAhead_32.1
theorem dX11_isAhead_57 : decode cX11_isAhead 57 = .ok (.aload_n 0, 1) := eX11_isAhead_32.2.1
theorem dX11_isAhead_58 : decode cX11_isAhead 58 = .ok (.getfield 135, 3) := eX11_isAhead_32.2.2.1
theorem dX11_isAhead_61 : decode cX11_isAhead 61 = .ok (.iload_n 2, 1) := eX11_isAhead_32.2.2.2.1
theorem dX11_isAhead_62 : decode cX11_isAhead 62 = .ok (.iaload, 1) := eX11_isAhead_32.2.2.2.2.1
theorem dX11_isAhead_63 : decode cX11_isAhead 63 = .ok (.if_icmp .eq 24, 3) := eX11_isAhead_32.2.2.2.2.2.1
theorem dX11_isAhead_66 : decode cX11_isAhead 66 = .ok (.aload_n 0, 1) := eX11_isAhead_32.2.2.2.2.2.2.1
theorem dX11_isAhead_67 : decode cX11_isAhead 67 = .ok (.getfield 135, 3) := eX11_isAhead_32.2.2.2.2.2.2.2
theorem eX11_isAhead_40 : (decode cX11_isAhead 70 = .ok (.iload_n 1, 1)) ∧ (decode cX11_isAhead 71 = .ok (.iaload, 1)) ∧ (decode cX11_isAhead 72 = .ok (.aload_n 0, 1)) ∧ (decode cX11_isAhead 73 = .ok (.getfield 135, 3)) ∧ (decode cX11_isAhead 76 = .ok (.iload_n 2, 1)) ∧ (decode cX11_isAhead 77 = .ok (.iaload, 1)) ∧ (decode cX11_isAhead 78 = .ok (.if_icmp .le 7, 3)) ∧ (decode cX11_isAhead 81 = .ok (.iconst 1, 1)) := by decide +kernel
theorem dX11_isAhead_70 : decode cX11_isAhead 70 = .ok (.iload_n 1, 1) := eX11_isAhead_40.1
theorem dX11_isAhead_71 : decode cX11_isAhead 71 = .ok (.iaload, 1) := eX11_isAhead_40.2.1
theorem dX11_isAhead_72 : decode cX11_isAhead 72 = .ok (.aload_n 0, 1) := eX11_isAhead_40.2.2.1
theorem dX11_isAhead_73 : decode cX11_isAhead 73 = .ok (.getfield 135, 3) := eX11_isAhead_40.2.2.2.1
theorem dX11_isAhead_76 : decode cX11_isAhead 76 = .ok (.iload_n 2, 1) := eX11_isAhead_40.2.2.2.2.1
theorem dX11_isAhead_77 : decode cX11_isAhead 77 = .ok (.iaload, 1) := eX11_isAhead_40.2.2.2.2.2.1
theorem dX11_isAhead_78 : decode cX11_isAhead 78 = .ok (.if_icmp .le 7, 3) := eX11_isAhead_40.2.2.2.2.2.2.1
theorem dX11_isAhead_81 : decode cX11_isAhead 81 = .ok (.iconst 1, 1) := eX11_isAhead_40.2.2.2.2.2.2.2
theorem eX11_isAhead_48 : (decode cX11_isAhead 82 = .ok (.goto 4, 3)) ∧ (decode cX11_isAhead 85 = .ok (.iconst 0, 1)) ∧ (decode cX11_isAhead 86 = .ok (.ireturn, 1)) ∧ (decode cX11_isAhead 87 = .ok (.iload_n 1, 1)) ∧ (decode cX11_isAhead 88 = .ok (.iload_n 2, 1)) ∧ (decode cX11_isAhead 89 = .ok (.if_icmp .ge 7, 3)) ∧ (decode cX11_isAhead 92 = .ok (.iconst 1, 1)) ∧ (decode cX11_isAhead 93 = .ok (.goto 4, 3)) := by decide +kernel
theorem dX11_isAhead_82 : decode cX11_isAhead 82 = .ok (.goto 4, 3) := eX11_isAhead_48.1
theorem dX11_isAhead_85 : decode cX11_isAhead 85 = .ok (.iconst 0, 1) := eX11_isAhead_48.2.1
theorem dX11_isAhead_86 : decode cX11_isAhead 86 = .ok (.ireturn, 1) := eX11_isAhead_48.2.2.1
theorem dX11_isAhead_87 : decode cX11_isAhead 87 = .ok (.iload_n 1, 1) := eX11_isAhead_48.2.2.2.1
theorem dX11_isAhead_88 : decode cX11_isAhead 88 = .ok (.iload_n 2, 1) := eX11_isAhead_48.2.2.2.2.1
theorem dX11_isAhead_89 : decode cX11_isAhead 89 = .ok (.if_icmp .ge 7, 3) := eX11_isAhead_48.2.2.2.2.2.1
theorem dX11_isAhead_92 : decode cX11_isAhead 92 = .ok (.iconst 1, 1) := eX11_isAhead_48.2.2.2.2.2.2.1
theorem dX11_isAhead_93 : decode cX11_isAhead 93 = .ok (.goto 4, 3) := eX11_isAhead_48.2.2.2.2.2.2.2
theorem eX11_isAhead_56 : (decode cX11_isAhead 96 = .ok (.iconst 0, 1)) ∧ (decode cX11_isAhead 97 = .ok (.ireturn, 1)) := by decide +kernel
theorem dX11_isAhead_96 : decode cX11_isAhead 96 = .ok (.iconst 0, 1) := eX11_isAhead_56.1
theorem dX11_isAhead_97 : decode cX11_isAhead 97 = .ok (.ireturn, 1) := eX11_isAhead_56.2
theorem eX11_findVotes_0 : (decode cX11_findVotes 0 = .ok (.iconst 0, 1)) ∧ (decode cX11_findVotes 1 = .ok (.istore_n 2, 1)) ∧ (decode cX11_findVotes 2 = .ok (.iload_n 2, 1)) ∧ (decode cX11_findVotes 3 = .ok (.bipush 20, 2)) ∧ (decode cX11_findVotes 5 = .ok (.if_icmp .ge 23, 3)) ∧ (decode cX11_findVotes 8 = .ok (.aload_n 0, 1)) ∧ (decode cX11_findVotes 9 = .ok (.getfield 132, 3)) ∧ (decode cX11_findVotes 12 = .ok (.iload_n 2, 1)) := by decide +kernel
theorem dX11_findVotes_0 : decode cX11_findVotes 0 = .ok (.iconst 0, 1) := eX11_findVotes_0.1
theorem dX11_findVotes_1 : decode cX11_findVotes 1 = .ok (.istore_n 2, 1) := eX11_findVotes_0.2.1
theorem dX11_findVotes_2 : decode cX11_findVotes 2 = .ok (.iload_n 2, 1) := eX11_findVotes_0.2.2.1
theorem dX11_findVotes_3 : decode cX11_findVotes 3 = .ok (.bipush 20, 2) := eX11_findVotes_0.2.2.2.1
theorem dX11_findVotes_5 : decode cX11_findVotes 5 = .ok (.if_icmp .ge 23, 3) := eX11_findVotes_0.2.2.2.2.1
theorem dX11_findVotes_8 : decode cX11_findVotes 8 = .ok (.aload_n 0, 1) := eX11_findVotes_0.2.2.2.2.2.1
theorem dX11_findVotes_9 : decode cX11_findVotes 9 = .ok (.getfield 132, 3) := eX11_findVotes_0.2.2.2.2.2.2.1
theorem dX11_findVotes_12 : decode cX11_findVotes 12 = .ok (.iload_n 2, 1) := eX11_findVotes_0.2.2.2.2.2.2.2
theorem eX11_findVotes_8 : (decode cX11_findVotes 13 = .ok (.iconst 0, 1)) ∧ (decode cX11_findVotes 14 = .ok (.bastore, 1)) ∧ (decode cX11_findVotes 15 = .ok (.aload_n 0, 1)) ∧ (decode cX11_findVotes 16 = .ok (.getfield 135, 3)) ∧ (decode cX11_findVotes 19 = .ok (.iload_n 2, 1)) ∧ (decode cX11_findVotes 20 = .ok (.iconst 0, 1)) ∧ (decode cX11_findVotes 21 = .ok (.iastore, 1)) ∧ (decode cX11_findVotes 22 = .ok (.iinc 2 1, 3)) := by decide +kernel
theorem dX11_findVotes_13 : decode cX11_findVotes 13 = .ok (.iconst 0, 1) := eX11_findVotes_8.1
theorem dX11_findVotes_14 : decode cX11_findVotes 14 = .ok (.bastore, 1) := eX11_findVotes_8.2.1
theorem dX11_findVotes_15 : decode cX11_findVotes 15 = .ok (.aload_n 0, 1) := eX11_findVotes_8.2.2.1
theorem dX11_findVotes_16 : decode cX11_findVotes 16 = .ok (.getfield 135, 3) := eX11_findVotes_8.2.2.2.1
theorem dX11_findVotes_19 : decode cX11_findVotes 19 = .ok (.iload_n 2, 1) := eX11_findVotes_8.2.2.2.2.1
theorem dX11_findVotes_20 : decode cX11_findVotes 20 = .ok (.iconst 0, 1) := eX11_findVotes_8.2.2.2.2.2.1
theorem dX11_findVotes_21 : decode cX11_findVotes 21 = .ok (.iastore, 1) := eX11_findVotes_8.2.2.2.2.2.2.1
theorem dX11_findVotes_22 : decode cX11_findVotes 22 = .ok (.iinc 2 1, 3) := eX11_findVotes_8.2.2.2.2.2.2.2
theorem eX11_findVotes_16 : (decode cX11_findVotes 25 = .ok (.goto (-23), 3)) ∧ (decode cX11_findVotes 28 = .ok (.iconst 0, 1)) ∧ (decode cX11_findVotes 29 = .ok (.istore_n 2, 1)) ∧ (decode cX11_findVotes 30 = .ok (.iload_n 2, 1)) ∧ (decode cX11_findVotes 31 = .ok (.aload_n 0, 1)) ∧ (decode cX11_findVotes 32 = .ok (.getfield 257, 3)) ∧ (decode cX11_findVotes 35 = .ok (.if_icmp .ge 106, 3)) ∧ (decode cX11_findVotes 38 = .ok (.iconst 1, 1)) := by decide +kernel
theorem dX11_findVotes_25 : decode cX11_findVotes 25 = .ok (.goto (-23), 3) := eX11_findVotes_16.1
theorem dX11_findVotes_28 : decode cX11_findVotes 28 = .ok (.iconst 0, 1) := eX11_findVotes_16.2.1
theorem dX11_findVotes_29 : decode cX11_findVotes 29 = .ok (.istore_n 2, 1) := eX11_findVotes_16.2.2.1
theorem dX11_findVotes_30 : decode cX11_findVotes 30 = .ok (.iload_n 2, 1) := eX11_findVotes_16.2.2.2.1
theorem dX11_findVotes_31 : decode cX11_findVotes 31 = .ok (.aload_n 0, 1) := eX11_findVotes_16.2.2.2.2.1
theorem dX11_findVotes_32 : decode cX11_findVotes 32 = .ok (.getfield 257, 3) := eX11_findVotes_16.2.2.2.2.2.1
theorem dX11_findVotes_35 : decode cX11_findVotes 35 = .ok (.if_icmp .ge 106, 3) := eX11_findVotes_16.2.2.2.2.2.2.1
theorem dX11_findVotes_38 : decode cX11_findVotes 38 = .ok (.iconst 1, 1) := eX11_findVotes_16.2.2.2.2.2.2.2
theorem eX11_findVotes_24 : (decode cX11_findVotes 39 = .ok (.istore_n 3, 1)) ∧ (decode cX11_findVotes 40 = .ok (.iconst 0, 1)) ∧ (decode cX11_findVotes 41 = .ok (.istore 4, 2)) ∧ (decode cX11_findVotes 43 = .ok (.iload 4, 2)) ∧ (decode cX11_findVotes 45 = .ok (.aload_n 0, 1)) ∧ (decode cX11_findVotes 46 = .ok (.getfield 93, 3)) ∧ (decode cX11_findVotes 49 = .ok (.iload_n 2, 1)) ∧ (decode cX11_findVotes 50 = .ok (.iaload, 1)) := by decide +kernel
theorem dX11_findVotes_39 : decode cX11_findVotes 39 = .ok (.istore_n 3, 1) := eX11_findVotes_24.1
theorem dX11_findVotes_40 : decode cX11_findVotes 40 = .ok (.iconst 0, 1) := eX11_findVotes_24.2.1
theorem dX11_findVotes_41 : decode cX11_findVotes 41 = .ok (.istore 4, 2) := eX11_findVotes_24.2.2.1
theorem dX11_findVotes_43 : decode cX11_findVotes 43 = .ok (.iload 4, 2) := eX11_findVotes_24.2.2.2.1
theorem dX11_findVotes_45 : decode cX11_findVotes 45 = .ok (.aload_n 0, 1) := eX11_findVotes_24.2.2.2.2.1
theorem dX11_findVotes_46 : decode cX11_findVotes 46 = .ok (.getfield 93, 3) := eX11_findVotes_24.2.2.2.2.2.1
theorem dX11_findVotes_49 : decode cX11_findVotes 49 = .ok (.iload_n 2, 1) := eX11_findVotes_24.2.2.2.2.2.2.1
theorem dX11_findVotes_50 : decode cX11_findVotes 50 = .ok (.iaload, 1) := eX11_findVotes_24.2.2.2.2.2.2.2
theorem eX11_findVotes_32 : (decode cX11_findVotes 51 = .ok (.if_icmp .ge 84, 3)) ∧ (decode cX11_findVotes 54 = .ok (.aload_n 0, 1)) ∧ (decode cX11_findVotes 55 = .ok (.getfield 90, 3)) ∧ (decode cX11_findVotes 58 = .ok (.iconst 5, 1)) ∧ (decode cX11_findVotes 59 = .ok (.iload_n 2, 1)) ∧ (decode cX11_findVotes 60 = .ok (.imul, 1)) ∧ (decode cX11_findVotes 61 = .ok (.iload 4, 2)) ∧ (decode cX11_findVotes 63 = .ok (.iadd, 1)) := by decide +kernel
theorem dX11_findVotes_51 : decode cX11_findVotes 51 = .ok (.if_icmp .ge 84, 3) := eX11_findVotes_32.1
theorem dX11_findVotes_54 : decode cX11_findVotes 54 = .ok (.aload_n 0, 1) := eX11_findVotes_32.2.1
theorem dX11_findVotes_55 : decode cX11_findVotes 55 = .ok (.getfield 90, 3) := eX11_findVotes_32.2.2.1
theorem dX11_findVotes_58 : decode cX11_findVotes 58 = .ok (.iconst 5, 1) := eX11_findVotes_32.2.2.2.1
theorem dX11_findVotes_59 : decode cX11_findVotes 59 = .ok (.iload_n 2, 1) := eX11_findVotes_32.2.2.2.2.1
theorem dX11_findVotes_60 : decode cX11_findVotes 60 = .ok (.imul, 1) := eX11_findVotes_32.2.2.2.2.2.1
theorem dX11_findVotes_61 : decode cX11_findVotes 61 = .ok (.iload 4, 2) := eX11_findVotes_32.2.2.2.2.2.2.1
theorem dX11_findVotes_63 : decode cX11_findVotes 63 = .ok (.iadd, 1) := eX11_findVotes_32.2.2.2.2.2.2.2
theorem eX11_findVotes_40 : (decode cX11_findVotes 64 = .ok (.iaload, 1)) ∧ (decode cX11_findVotes 65 = .ok (.istore 5, 2)) ∧ (decode cX11_findVotes 67 = .ok (.aload_n 0, 1)) ∧ (decode cX11_findVotes 68 = .ok (.getfield 129, 3)) ∧ (decode cX11_findVotes 71 = .ok (.iconst 5, 1)) ∧ (decode cX11_findVotes 72 = .ok (.iload_n 2, 1)) ∧ (decode cX11_findVotes 73 = .ok (.imul, 1)) ∧ (decode cX11_findVotes 74 = .ok (.iload 4, 2)) := by decide +kernel
theorem dX11_findVotes_64 : decode cX11_findVotes 64 = .ok (.iaload, 1) := eX11_findVotes_40.1
theorem dX11_findVotes_65 : decode cX11_findVotes 65 = .ok (.istore 5, 2) := eX11_findVotes_40.2.1
theorem dX11_findVotes_67 : decode cX11_findVotes 67 = .ok (.aload_n 0, 1) := eX11_findVotes_40.2.2.1
theorem dX11_findVotes_68 : decode cX11_findVotes 68 = .ok (.getfield 129, 3) := eX11_findVotes_40.2.2.2.1
theorem dX11_findVotes_71 : decode cX11_findVotes 71 = .ok (.iconst 5, 1) := eX11_findVotes_40.2.2.2.2.1
theorem dX11_findVotes_72 : decode cX11_findVotes 72 = .ok (.iload_n 2, 1) := eX11_findVotes_40.2.2.2.2.2.1
theorem dX11_findVotes_73 : decode cX11_findVotes 73 = .ok (.imul, 1) := eX11_findVotes_40.2.2.2.2.2.2.1
theorem dX11_findVotes_74 : decode cX11_findVotes 74 = .ok (.iload 4, 2) := eX11_findVotes_40.2.2.2.2.2.2.2
theorem eX11_findVotes_48 : (decode cX11_findVotes 76 = .ok (.iadd, 1)) ∧ (decode cX11_findVotes 77 = .ok (.aload_n 0, 1)) ∧ (decode cX11_findVotes 78 = .ok (.iload_n 2, 1)) ∧ (decode cX11_findVotes 79 = .ok (.iload 5, 2)) ∧ (decode cX11_findVotes 81 = .ok (.iload_n 1, 1)) ∧ (decode cX11_findVotes 82 = .ok (.invokevirtual 379, 3)) ∧ (decode cX11_findVotes 85 = .ok (.bastore, 1)) ∧ (decode cX11_findVotes 86 = .ok (.aload_n 0, 1)) := by decide +kernel
theorem dX11_findVotes_76 : decode cX11_findVotes 76 = .ok (.iadd, 1) := eX11_findVotes_48.1
theorem dX11_findVotes_77 : decode cX11_findVotes 77 = .ok (.aload_n 0, 1) := eX11_findVotes_48.2.1
theorem dX11_findVotes_78 : decode cX11_findVotes 78 = .ok (.iload_n 2, 1) := eX11_findVotes_48.2.2.1
theorem dX11_findVotes_79 : decode cX11_findVotes 79 = .ok (.iload 5, 2) := eX11_findVotes_48.2.2.2.1
theorem dX11_findVotes_81 : decode cX11_findVotes 81 = .ok (.iload_n 1, 1) := eX11_findVotes_48.2.2.2.2.1
theorem dX11_findVotes_82 : decode cX11_findVotes 82 = .ok (.invokevirtual 379, 3) := eX11_findVotes_48.2.2.2.2.2.1
theorem dX11_findVotes_85 : decode cX11_findVotes 85 = .ok (.bastore, 1) := eX11_findVotes_48.2.2.2.2.2.2.1
theorem dX11_findVotes_86 : decode cX11_findVotes 86 = .ok (.aload_n 0, 1) := eX11_findVotes_48.2.2.2.2.2.2.2
theorem eX11_findVotes_56 : (decode cX11_findVotes 87 = .ok (.getfield 129, 3)) ∧ (decode cX11_findVotes 90 = .ok (.iconst 5, 1)) ∧ (decode cX11_findVotes 91 = .ok (.iload_n 2, 1)) ∧ (decode cX11_findVotes 92 = .ok (.imul, 1)) ∧ (decode cX11_findVotes 93 = .ok (.iload 4, 2)) ∧ (decode cX11_findVotes 95 = .ok (.iadd, 1)) ∧ (decode cX11_findVotes 96 = .ok (.baload, 1)) ∧ (decode cX11_findVotes 97 = .ok (.ifCond .eq 32, 3)) := by decide +kernel
theorem dX11_findVotes_87 : decode cX11_findVotes 87 = .ok (.getfield 129, 3) := eX11_findVotes_56.1
theorem dX11_findVotes_90 : decode cX11_findVotes 90 = .ok (.iconst 5, 1) := eX11_findVotes_56.2.1
theorem dX11_findVotes_91 : decode cX11_findVotes 91 = .ok (.iload_n 2, 1) := eX11_findVotes_56.2.2.1
theorem dX11_findVotes_92 : decode cX11_findVotes 92 = .ok (.imul, 1) := eX11_findVotes_56.2.2.2.1
theorem dX11_findVotes_93 : decode cX11_findVotes 93 = .ok (.iload 4, 2) := eX11_findVotes_56.2.2.2.2.1
theorem dX11_findVotes_95 : decode cX11_findVotes 95 = .ok (.iadd, 1) := eX11_findVotes_56.2.2.2.2.2.1
theorem dX11_findVotes_96 : decode cX11_findVotes 96 = .ok (.baload, 1) := eX11_findVotes_56.2.2.2.2.2.2.1
theorem dX11_findVotes_97 : decode cX11_findVotes 97 = .ok (.ifCond .eq 32, 3) := eX11_findVotes_56.2.2.2.2.2.2.2
theorem eX11_findVotes_64 : (decode cX11_findVotes 100 = .ok (.aload_n 0, 1)) ∧ (decode cX11_findVotes 101 = .ok (.getfield 132, 3)) ∧ (decode cX11_findVotes 104 = .ok (.iload 5, 2)) ∧ (decode cX11_findVotes 106 = .ok (.iconst 1, 1)) ∧ (decode cX11_findVotes 107 = .ok (.bastore, 1)) ∧ (decode cX11_findVotes 108 = .ok (.aload_n 0, 1)) ∧ (decode cX11_findVotes 109 = .ok (.getfield 135, 3)) ∧ (decode cX11_findVotes 112 = .ok (.iload 5, 2)) := by decide +kernel
theorem dX11_findVotes_100 : decode cX11_findVotes 100 = .ok (.aload_n 0, 1) := eX11_findVotes_64.1
theorem dX11_findVotes_101 : decode cX11_findVotes 101 = .ok (.getfield 132, 3) := eX11_findVotes_64.2.1
theorem dX11_findVotes_104 : decode cX11_findVotes 104 = .ok (.iload 5, 2) := eX11_findVotes_64.2.2.1
theorem dX11_findVotes_106 : decode cX11_findVotes 106 = .ok (.iconst 1, 1) := eX11_findVotes_64.2.2.2.1
theorem dX11_findVotes_107 : decode cX11_findVotes 107 = .ok (.bastore, 1) := eX11_findVotes_64.2.2.2.2.1
theorem dX11_findVotes_108 : decode cX11_findVotes 108 = .ok (.aload_n 0, 1) := eX11_findVotes_64.2.2.2.2.2.1
theorem dX11_findVotes_109 : decode cX11_findVotes 109 = .ok (.getfield 135, 3) := eX11_findVotes_64.2.2.2.2.2.2.1
theorem dX11_findVotes_112 : decode cX11_findVotes 112 = .ok (.iload 5, 2) := eX11_findVotes_64.2.2.2.2.2.2.2
theorem eX11_findVotes_72 : (decode cX11_findVotes 114 = .ok (.dup2, 1)) ∧ (decode cX11_findVotes 115 = .ok (.iaload, 1)) ∧ (decode cX11_findVotes 116 = .ok (.iload_n 3, 1)) ∧ (decode cX11_findVotes 117 = .ok (.ifCond .eq 7, 3)) ∧ (decode cX11_findVotes 120 = .ok (.iconst 1, 1)) ∧ (decode cX11_findVotes 121 = .ok (.goto 4, 3)) ∧ (decode cX11_findVotes 124 = .ok (.iconst 0, 1)) ∧ (decode cX11_findVotes 125 = .ok (.iadd, 1)) := by decide +kernel
theorem dX11_findVotes_114 : decode cX11_findVotes 114 = .ok (.dup2, 1) := eX11_findVotes_72.1
theorem dX11_findVotes_115 : decode cX11_findVotes 115 = .ok (.iaload, 1) := eX11_findVotes_72.2.1
theorem dX11_findVotes_116 : decode cX11_findVotes 116 = .ok (.iload_n 3, 1) := eX11_findVotes_72.2.2.1
theorem dX11_findVotes_117 : decode cX11_findVotes 117 = .ok (.ifCond .eq 7, 3) := eX11_findVotes_72.2.2.2.1
theorem dX11_findVotes_120 : decode cX11_findVotes 120 = .ok (.iconst 1, 1) := eX11_findVotes_72.2.2.2.2.1
theorem dX11_findVotes_121 : decode cX11_findVotes 121 = .ok (.goto 4, 3) := eX11_findVotes_72.2.2.2.2.2.1
theorem dX11_findVotes_124 : decode cX11_findVotes 124 = .ok (.iconst 0, 1) := eX11_findVotes_72.2.2.2.2.2.2.1
theorem dX11_findVotes_125 : decode cX11_findVotes 125 = .ok (.iadd, 1) := eX11_findVotes_72.2.2.2.2.2.2.2
theorem eX11_findVotes_80 : (decode cX11_findVotes 126 = .ok (.iastore, 1)) ∧ (decode cX11_findVotes 127 = .ok (.iconst 0, 1)) ∧ (decode cX11_findVotes 128 = .ok (.istore_n 3, 1)) ∧ (decode cX11_findVotes 129 = .ok (.iinc 4 1, 3)) ∧ (decode cX11_findVotes 132 = .ok (.goto (-89), 3)) ∧ (decode cX11_findVotes 135 = .ok (.iinc 2 1, 3)) ∧ (decode cX11_findVotes 138 = .ok (.goto (-108), 3)) ∧ (decode cX11_findVotes 141 = .ok (.return_, 1)) := by decide +kernel
theorem dX11_findVotes_126 : decode cX11_findVotes 126 = .ok (.iastore, 1) := eX11_findVotes_80.1
theorem dX11_findVotes_127 : decode cX11_findVotes 127 = .ok (.iconst 0, 1) := eX11_findVotes_80.2.1
theorem dX11_findVotes_128 : decode cX11_findVotes 128 = .ok (.istore_n 3, 1) := eX11_findVotes_80.2.2.1
theorem dX11_findVotes_129 : decode cX11_findVotes 129 = .ok (.iinc 4 1, 3) := eX11_findVotes_80.2.2.2.1
theorem dX11_findVotes_132 : decode cX11_findVotes 132 = .ok (.goto (-89), 3) := eX11_findVotes_80.2.2.2.2.1
theorem dX11_findVotes_135 : decode cX11_findVotes 135 = .ok (.iinc 2 1, 3) := eX11_findVotes_80.2.2.2.2.2.1
theorem dX11_findVotes_138 : decode cX11_findVotes 138 = .ok (.goto (-108), 3) := eX11_findVotes_80.2.2.2.2.2.2.1
theorem dX11_findVotes_141 : decode cX11_findVotes 141 = .ok (.return_, 1) := eX11_findVotes_80.2.2.2.2.2.2.2
theorem eX11_extreme_0 : (decode cX11_extreme 0 = .ok (.iconst (-1), 1)) ∧ (decode cX11_extreme 1 = .ok (.istore_n 3, 1)) ∧ (decode cX11_extreme 2 = .ok (.iconst 0, 1)) ∧ (decode cX11_extreme 3 = .ok (.istore 4, 2)) ∧ (decode cX11_extreme 5 = .ok (.iload 4, 2)) ∧ (decode cX11_extreme 7 = .ok (.aload_n 0, 1)) ∧ (decode cX11_extreme 8 = .ok (.getfield 157, 3)) ∧ (decode cX11_extreme 11 = .ok (.if_icmp .ge 149, 3)) := by decide +kernel
theorem dX11_extreme_0 : decode cX11_extreme 0 = .ok (.iconst (-1), 1) := eX11_extreme_0.1
theorem dX11_extreme_1 : decode cX11_extreme 1 = .ok (.istore_n 3, 1) := eX11_extreme_0.2.1
theorem dX11_extreme_2 : decode cX11_extreme 2 = .ok (.iconst 0, 1) := eX11_extreme_0.2.2.1
theorem dX11_extreme_3 : decode cX11_extreme 3 = .ok (.istore 4, 2) := eX11_extreme_0.2.2.2.1
theorem dX11_extreme_5 : decode cX11_extreme 5 = .ok (.iload 4, 2) := eX11_extreme_0.2.2.2.2.1
theorem dX11_extreme_7 : decode cX11_extreme 7 = .ok (.aload_n 0, 1) := eX11_extreme_0.2.2.2.2.2.1
theorem dX11_extreme_8 : decode cX11_extreme 8 = .ok (.getfield 157, 3) := eX11_extreme_0.2.2.2.2.2.2.1
theorem dX11_extreme_11 : decode cX11_extreme 11 = .ok (.if_icmp .ge 149, 3) := eX11_extreme_0.2.2.2.2.2.2.2
theorem eX11_extreme_8 : (decode cX11_extreme 14 = .ok (.aload_n 0, 1)) ∧ (decode cX11_extreme 15 = .ok (.getfield 138, 3)) ∧ (decode cX11_extreme 18 = .ok (.bipush 20, 2)) ∧ (decode cX11_extreme 20 = .ok (.iload_n 1, 1)) ∧ (decode cX11_extreme 21 = .ok (.imul, 1)) ∧ (decode cX11_extreme 22 = .ok (.iload 4, 2)) ∧ (decode cX11_extreme 24 = .ok (.iadd, 1)) ∧ (decode cX11_extreme 25 = .ok (.iaload, 1)) := by decide +kernel
theorem dX11_extreme_14 : decode cX11_extreme 14 = .ok (.aload_n 0, 1) := eX11_extreme_8.1
theorem dX11_extreme_15 : decode cX11_extreme 15 = .ok (.getfield 138, 3) := eX11_extreme_8.2.1
theorem dX11_extreme_18 : decode cX11_extreme 18 = .ok (.bipush 20, 2) := eX11_extreme_8.2.2.1
theorem dX11_extreme_20 : decode cX11_extreme 20 = .ok (.iload_n 1, 1) := eX11_extreme_8.2.2.2.1
theorem dX11_extreme_21 : decode cX11_extreme 21 = .ok (.imul, 1) := eX11_extreme_8.2.2.2.2.1
theorem dX11_extreme_22 : decode cX11_extreme 22 = .ok (.iload 4, 2) := eX11_extreme_8.2.2.2.2.2.1
theorem dX11_extreme_24 : decode cX11_extreme 24 = .ok (.iadd, 1) := eX11_extreme_8.2.2.2.2.2.2.1
theorem dX11_extreme_25 : decode cX11_extreme 25 = .ok (.iaload, 1) := eX11_extreme_8.2.2.2.2.2.2.2
theorem eX11_extreme_16 : (decode cX11_extreme 26 = .ok (.iconst (-1), 1)) ∧ (decode cX11_extreme 27 = .ok (.if_icmp .ne 6, 3)) ∧ (decode cX11_extreme 30 = .ok (.goto 124, 3)) ∧ (decode cX11_extreme 33 = .ok (.iload_n 3, 1)) ∧ (decode cX11_extreme 34 = .ok (.ifCond .lt 101, 3)) ∧ (decode cX11_extreme 37 = .ok (.aload_n 0, 1)) ∧ (decode cX11_extreme 38 = .ok (.getfield 138, 3)) ∧ (decode cX11_extreme 41 = .ok (.bipush 20, 2)) := by decide +kernel
theorem dX11_extreme_26 : decode cX11_extreme 26 = .ok (.iconst (-1), 1) := eX11_extreme_16.1
theorem dX11_extreme_27 : decode cX11_extreme 27 = .ok (.if_icmp .ne 6, 3) := eX11_extreme_16.2.1
theorem dX11_extreme_30 : decode cX11_extreme 30 = .ok (.goto 124, 3) := eX11_extreme_16.2.2.1
theorem dX11_extreme_33 : decode cX11_extreme 33 = .ok (.iload_n 3, 1) := eX11_extreme_16.2.2.2.1
theorem dX11_extreme_34 : decode cX11_extreme 34 = .ok (.ifCond .lt 101, 3) := eX11_extreme_16.2.2.2.2.1
theorem dX11_extreme_37 : decode cX11_extreme 37 = .ok (.aload_n 0, 1) := eX11_extreme_16.2.2.2.2.2.1
theorem dX11_extreme_38 : decode cX11_extreme 38 = .ok (.getfield 138, 3) := eX11_extreme_16.2.2.2.2.2.2.1
theorem dX11_extreme_41 : decode cX11_extreme 41 = .ok (.bipush 20, 2) := eX11_extreme_16.2.2.2.2.2.2.2
theorem eX11_extreme_24 : (decode cX11_extreme 43 = .ok (.iload_n 1, 1)) ∧ (decode cX11_extreme 44 = .ok (.imul, 1)) ∧ (decode cX11_extreme 45 = .ok (.iload 4, 2)) ∧ (decode cX11_extreme 47 = .ok (.iadd, 1)) ∧ (decode cX11_extreme 48 = .ok (.iaload, 1)) ∧ (decode cX11_extreme 49 = .ok (.aload_n 0, 1)) ∧ (decode cX11_extreme 50 = .ok (.getfield 138, 3)) ∧ (decode cX11_extreme 53 = .ok (.bipush 20, 2)) := by decide +kernel
theorem dX11_extreme_43 : decode cX11_extreme 43 = .ok (.iload_n 1, 1) := eX11_extreme_24.1
theorem dX11_extreme_44 : decode cX11_extreme 44 = .ok (.imul, 1) := eX11_extreme_24.2.1
theorem dX11_extreme_45 : decode cX11_extreme 45 = .ok (.iload 4, 2) := eX11_extreme_24.2.2.1
theorem dX11_extreme_47 : decode cX11_extreme 47 = .ok (.iadd, 1) := eX11_extreme_24.2.2.2.1
theorem dX11_extreme_48 : decode cX11_extreme 48 = .ok (.iaload, 1) := eX11_extreme_24.2.2.2.2.1
theorem dX11_extreme_49 : decode cX11_extreme 49 = .ok (.aload_n 0, 1) := eX11_extreme_24.2.2.2.2.2.1
theorem dX11_extreme_50 : decode cX11_extreme 50 = .ok (.getfield 138, 3) := eX11_extreme_24.2.2.2.2.2.2.1
theorem dX11_extreme_53 : decode cX11_extreme 53 = .ok (.bipush 20, 2) := eX11_extreme_24.2.2.2.2.2.2.2
theorem eX11_extreme_32 : (decode cX11_extreme 55 = .ok (.iload_n 1, 1)) ∧ (decode cX11_extreme 56 = .ok (.imul, 1)) ∧ (decode cX11_extreme 57 = .ok (.iload_n 3, 1)) ∧ (decode cX11_extreme 58 = .ok (.iadd, 1)) ∧ (decode cX11_extreme 59 = .ok (.iaload, 1)) ∧ (decode cX11_extreme 60 = .ok (.if_icmp .eq 38, 3)) ∧ (decode cX11_extreme 63 = .ok (.aload_n 0, 1)) ∧ (decode cX11_extreme 64 = .ok (.getfield 138, 3)) := by decide +kernel
theorem dX11_extreme_55 : decode cX11_extreme 55 = .ok (.iload_n 1, 1) := eX11_extreme_32.1
theorem dX11_extreme_56 : decode cX11_extreme 56 = .ok (.imul, 1) := eX11_extreme_32.2.1
theorem dX11_extreme_57 : decode cX11_extreme 57 = .ok (.iload_n 3, 1) := eX11_extreme_32.2.2.1
theorem dX11_extreme_58 : decode cX11_extreme 58 = .ok (.iadd, 1) := eX11_extreme_32.2.2.2.1
theorem dX11_extreme_59 : decode cX11_extreme 59 = .ok (.iaload, 1) := eX11_extreme_32.2.2.2.2.1
theorem dX11_extreme_60 : decode cX11_extreme 60 = .ok (.if_icmp .eq 38, 3) := eX11_extreme_32.2.2.2.2.2.1
theorem dX11_extreme_63 : decode cX11_extreme 63 = .ok (.aload_n 0, 1) := eX11_extreme_32.2.2.2.2.2.2.1
theorem dX11_extreme_64 : decode cX11_extreme 64 = .ok (.getfield 138, 3) := eX11_extreme_32.2.2.2.2.2.2.2
theorem eX11_extreme_40 : (decode cX11_extreme 67 = .ok (.bipush 20, 2)) ∧ (decode cX11_extreme 69 = .ok (.iload_n 1, 1)) ∧ (decode cX11_extreme 70 = .ok (.imul, 1)) ∧ (decode cX11_extreme 71 = .ok (.iload 4, 2)) ∧ (decode cX11_extreme 73 = .ok (.iadd, 1)) ∧ (decode cX11_extreme 74 = .ok (.iaload, 1)) ∧ (decode cX11_extreme 75 = .ok (.aload_n 0, 1)) ∧ (decode cX11_extreme 76 = .ok (.getfield 138, 3)) := by decide +kernel
theorem dX11_extreme_67 : decode cX11_extreme 67 = .ok (.bipush 20, 2) := eX11_extreme_40.1
theorem dX11_extreme_69 : decode cX11_extreme 69 = .ok (.iload_n 1, 1) := eX11_extreme_40.2.1
theorem dX11_extreme_70 : decode cX11_extreme 70 = .ok (.imul, 1) := eX11_extreme_40.2.2.1
theorem dX11_extreme_71 : decode cX11_extreme 71 = .ok (.iload 4, 2) := eX11_extreme_40.2.2.2.1
theorem dX11_extreme_73 : decode cX11_extreme 73 = .ok (.iadd, 1) := eX11_extreme_40.2.2.2.2.1
theorem dX11_extreme_74 : decode cX11_extreme 74 = .ok (.iaload, 1) := eX11_extreme_40.2.2.2.2.2.1
theorem dX11_extreme_75 : decode cX11_extreme 75 = .ok (.aload_n 0, 1) := eX11_extreme_40.2.2.2.2.2.2.1
theorem dX11_extreme_76 : decode cX11_extreme 76 = .ok (.getfield 138, 3) := eX11_extreme_40.2.2.2.2.2.2.2
theorem eX11_extreme_48 : (decode cX11_extreme 79 = .ok (.bipush 20, 2)) ∧ (decode cX11_extreme 81 = .ok (.iload_n 1, 1)) ∧ (decode cX11_extreme 82 = .ok (.imul, 1)) ∧ (decode cX11_extreme 83 = .ok (.iload_n 3, 1)) ∧ (decode cX11_extreme 84 = .ok (.iadd, 1)) ∧ (decode cX11_extreme 85 = .ok (.iaload, 1)) ∧ (decode cX11_extreme 86 = .ok (.if_icmp .le 7, 3)) ∧ (decode cX11_extreme 89 = .ok (.iconst 1, 1)) := by decide +kernel
theorem dX11_extreme_79 : decode cX11_extreme 79 = .ok (.bipush 20, 2) := eX11_extreme_48.1
theorem dX11_extreme_81 : decode cX11_extreme 81 = .ok (.iload_n 1, 1) := eX11_extreme_48.2.1
theorem dX11_extreme_82 : decode cX11_extreme 82 = .ok (.imul, 1) := eX11_extreme_48.2.2.1
theorem dX11_extreme_83 : decode cX11_extreme 83 = .ok (.iload_n 3, 1) := eX11_extreme_48.2.2.2.1
theorem dX11_extreme_84 : decode cX11_extreme 84 = .ok (.iadd, 1) := eX11_extreme_48.2.2.2.2.1
theorem dX11_extreme_85 : decode cX11_extreme 85 = .ok (.iaload, 1) := eX11_extreme_48.2.2.2.2.2.1
theorem dX11_extreme_86 : decode cX11_extreme 86 = .ok (.if_icmp .le 7, 3) := eX11_extreme_48.2.2.2.2.2.2.1
theorem dX11_extreme_89 : decode cX11_extreme 89 = .ok (.iconst 1, 1) := eX11_extreme_48.2.2.2.2.2.2.2
theorem eX11_extreme_56 : (decode cX11_extreme 90 = .ok (.goto 4, 3)) ∧ (decode cX11_extreme 93 = .ok (.iconst 0, 1)) ∧ (decode cX11_extreme 94 = .ok (.iload_n 2, 1)) ∧ (decode cX11_extreme 95 = .ok (.if_icmp .eq 40, 3)) ∧ (decode cX11_extreme 98 = .ok (.aload_n 0, 1)) ∧ (decode cX11_extreme 99 = .ok (.getfield 138, 3)) ∧ (decode cX11_extreme 102 = .ok (.bipush 20, 2)) ∧ (decode cX11_extreme 104 = .ok (.iload_n 1, 1)) := by decide +kernel
theorem dX11_extreme_90 : decode cX11_extreme 90 = .ok (.goto 4, 3) := eX11_extreme_56.1
theorem dX11_extreme_93 : decode cX11_extreme 93 = .ok (.iconst 0, 1) := eX11_extreme_56.2.1
theorem dX11_extreme_94 : decode cX11_extreme 94 = .ok (.iload_n 2, 1) := eX11_extreme_56.2.2.1
theorem dX11_extreme_95 : decode cX11_extreme 95 = .ok (.if_icmp .eq 40, 3) := eX11_extreme_56.2.2.2.1
theorem dX11_extreme_98 : decode cX11_extreme 98 = .ok (.aload_n 0, 1) := eX11_extreme_56.2.2.2.2.1
theorem dX11_extreme_99 : decode cX11_extreme 99 = .ok (.getfield 138, 3) := eX11_extreme_56.2.2.2.2.2.1
theorem dX11_extreme_102 : decode cX11_extreme 102 = .ok (.bipush 20, 2) := eX11_extreme_56.2.2.2.2.2.2.1
theorem dX11_extreme_104 : decode cX11_extreme 104 = .ok (.iload_n 1, 1) := eX11_extreme_56.2.2.2.2.2.2.2
theorem eX11_extreme_64 : (decode cX11_extreme 105 = .ok (.imul, 1)) ∧ (decode cX11_extreme 106 = .ok (.iload 4, 2)) ∧ (decode cX11_extreme 108 = .ok (.iadd, 1)) ∧ (decode cX11_extreme 109 = .ok (.iaload, 1)) ∧ (decode cX11_extreme 110 = .ok (.aload_n 0, 1)) ∧ (decode cX11_extreme 111 = .ok (.getfield 138, 3)) ∧ (decode cX11_extreme 114 = .ok (.bipush 20, 2)) ∧ (decode cX11_extreme 116 = .ok (.iload_n 1, 1)) := by decide +kernel
theorem dX11_extreme_105 : decode cX11_extreme 105 = .ok (.imul, 1) := eX11_extreme_64.1
theorem dX11_extreme_106 : decode cX11_extreme 106 = .ok (.iload 4, 2) := eX11_extreme_64.2.1
theorem dX11_extreme_108 : decode cX11_extreme 108 = .ok (.iadd, 1) := eX11_extreme_64.2.2.1
theorem dX11_extreme_109 : decode cX11_extreme 109 = .ok (.iaload, 1) := eX11_extreme_64.2.2.2.1
theorem dX11_extreme_110 : decode cX11_extreme 110 = .ok (.aload_n 0, 1) := eX11_extreme_64.2.2.2.2.1
theorem dX11_extreme_111 : decode cX11_extreme 111 = .ok (.getfield 138, 3) := eX11_extreme_64.2.2.2.2.2.1
theorem dX11_extreme_114 : decode cX11_extreme 114 = .ok (.bipush 20, 2) := eX11_extreme_64.2.2.2.2.2.2.1
theorem dX11_extreme_116 : decode cX11_extreme 116 = .ok (.iload_n 1, 1) := eX11_extreme_64.2.2.2.2.2.2.2
theorem eX11_extreme_72 : (decode cX11_extreme 117 = .ok (.imul, 1)) ∧ (decode cX11_extreme 118 = .ok (.iload_n 3, 1)) ∧ (decode cX11_extreme 119 = .ok (.iadd, 1)) ∧ (decode cX11_extreme 120 = .ok (.iaload, 1)) ∧ (decode cX11_extreme 121 = .ok (.if_icmp .ne 18, 3)) ∧ (decode cX11_extreme 124 = .ok (.aload_n 0, 1)) ∧ (decode cX11_extreme 125 = .ok (.iload 4, 2)) ∧ (decode cX11_extreme 127 = .ok (.iload_n 3, 1)) := by decide +kernel
theorem dX11_extreme_117 : decode cX11_extreme 117 = .ok (.imul, 1) := eX11_extreme_72.1
theorem dX11_extreme_118 : decode cX11_extreme 118 = .ok (.iload_n 3, 1) := eX11_extreme_72.2.1
theorem dX11_extreme_119 : decode cX11_extreme 119 = .ok (.iadd, 1) := eX11_extreme_72.2.2.1
theorem dX11_extreme_120 : decode cX11_extreme 120 = .ok (.iaload, 1) := eX11_extreme_72.2.2.2.1
theorem dX11_extreme_121 : decode cX11_extreme 121 = .ok (.if_icmp .ne 18, 3) := eX11_extreme_72.2.2.2.2.1
theorem dX11_extreme_124 : decode cX11_extreme 124 = .ok (.aload_n 0, 1) := eX11_extreme_72.2.2.2.2.2.1
theorem dX11_extreme_125 : decode cX11_extreme 125 = .ok (.iload 4, 2) := eX11_extreme_72.2.2.2.2.2.2.1
theorem dX11_extreme_127 : decode cX11_extreme 127 = .ok (.iload_n 3, 1) := eX11_extreme_72.2.2.2.2.2.2.2
theorem eX11_extreme_80 : (decode cX11_extreme 128 = .ok (.invokevirtual 382, 3)) ∧ (decode cX11_extreme 131 = .ok (.iload_n 2, 1)) ∧ (decode cX11_extreme 132 = .ok (.if_icmp .ne 7, 3)) ∧ (decode cX11_extreme 135 = .ok (.iconst 1, 1)) ∧ (decode cX11_extreme 136 = .ok (.goto 4, 3)) ∧ (decode cX11_extreme 139 = .ok (.iconst 0, 1)) ∧ (decode cX11_extreme 140 = .ok (.istore 5, 2)) ∧ (decode cX11_extreme 142 = .ok (.iload 5, 2)) := by decide +kernel
theorem dX11_extreme_128 : decode cX11_extreme 128 = .ok (.invokevirtual 382, 3) := eX11_extreme_80.1
theorem dX11_extreme_131 : decode cX11_extreme 131 = .ok (.iload_n 2, 1) := eX11_extreme_80.2.1
theorem dX11_extreme_132 : decode cX11_extreme 132 = .ok (.if_icmp .ne 7, 3) := eX11_extreme_80.2.2.1
theorem dX11_extreme_135 : decode cX11_extreme 135 = .ok (.iconst 1, 1) := eX11_extreme_80.2.2.2.1
theorem dX11_extreme_136 : decode cX11_extreme 136 = .ok (.goto 4, 3) := eX11_extreme_80.2.2.2.2.1
theorem dX11_extreme_139 : decode cX11_extreme 139 = .ok (.iconst 0, 1) := eX11_extreme_80.2.2.2.2.2.1
theorem dX11_extreme_140 : decode cX11_extreme 140 = .ok (.istore 5, 2) := eX11_extreme_80.2.2.2.2.2.2.1
theorem dX11_extreme_142 : decode cX11_extreme 142 = .ok (.iload 5, 2) := eX11_extreme_80.2.2.2.2.2.2.2
theorem eX11_extreme_88 : (decode cX11_extreme 144 = .ok (.ifCond .eq 8, 3)) ∧ (decode cX11_extreme 147 = .ok (.iload 4, 2)) ∧ (decode cX11_extreme 149 = .ok (.goto 4, 3)) ∧ (decode cX11_extreme 152 = .ok (.iload_n 3, 1)) ∧ (decode cX11_extreme 153 = .ok (.istore_n 3, 1)) ∧ (decode cX11_extreme 154 = .ok (.iinc 4 1, 3)) ∧ (decode cX11_extreme 157 = .ok (.goto (-152), 3)) ∧ (decode cX11_extreme 160 = .ok (.iload_n 3, 1)) := by decide +kernel
theorem dX11_extreme_144 : decode cX11_extreme 144 = .ok (.ifCond .eq 8, 3) := eX11_extreme_88.1
theorem dX11_extreme_147 : decode cX11_extreme 147 = .ok (.iload 4, 2) := eX11_extreme_88.2.1
theorem dX11_extreme_149 : decode cX11_extreme 149 = .ok (.goto 4, 3) := eX11_extreme_88.2.2.1
theorem dX11_extreme_152 : decode cX11_extreme 152 = .ok (.iload_n 3, 1) := eX11_extreme_88.2.2.2.1
theorem dX11_extreme_153 : decode cX11_extreme 153 = .ok (.istore_n 3, 1) := eX11_extreme_88.2.2.2.2.1
theorem dX11_extreme_154 : decode cX11_extreme 154 = .ok (.iinc 4 1, 3) := eX11_extreme_88.2.2.2.2.2.1
theorem dX11_extreme_157 : decode cX11_extreme 157 = .ok (.goto (-152), 3) := eX11_extreme_88.2.2.2.2.2.2.1
theorem dX11_extreme_160 : decode cX11_extreme 160 = .ok (.iload_n 3, 1) := eX11_extreme_88.2.2.2.2.2.2.2
theorem dX11_extreme_161 : decode cX11_extreme 161 = .ok (.ireturn, 1) := by decide +kernel
theorem eX11_openRound_0 : (decode cX11_openRound 0 = .ok (.iconst 0, 1)) ∧ (decode cX11_openRound 1 = .ok (.istore_n 1, 1)) ∧ (decode cX11_openRound 2 = .ok (.iload_n 1, 1)) ∧ (decode cX11_openRound 3 = .ok (.bipush 20, 2)) ∧ (decode cX11_openRound 5 = .ok (.if_icmp .ge 37, 3)) ∧ (decode cX11_openRound 8 = .ok (.aload_n 0, 1)) ∧ (decode cX11_openRound 9 = .ok (.getfield 138, 3)) ∧ (decode cX11_openRound 12 = .ok (.bipush 20, 2)) := by decide +kernel
theorem dX11_openRound_0 : decode cX11_openRound 0 = .ok (.iconst 0, 1) := eX11_openRound_0.1
theorem dX11_openRound_1 : decode cX11_openRound 1 = .ok (.istore_n 1, 1) := eX11_openRound_0.2.1
theorem dX11_openRound_2 : decode cX11_openRound 2 = .ok (.iload_n 1, 1) := eX11_openRound_0.2.2.1
theorem dX11_openRound_3 : decode cX11_openRound 3 = .ok (.bipush 20, 2) := eX11_openRound_0.2.2.2.1
theorem dX11_openRound_5 : decode cX11_openRound 5 = .ok (.if_icmp .ge 37, 3) := eX11_openRound_0.2.2.2.2.1
theorem dX11_openRound_8 : decode cX11_openRound 8 = .ok (.aload_n 0, 1) := eX11_openRound_0.2.2.2.2.2.1
theorem dX11_openRound_9 : decode cX11_openRound 9 = .ok (.getfield 138, 3) := eX11_openRound_0.2.2.2.2.2.2.1
theorem dX11_openRound_12 : decode cX11_openRound 12 = .ok (.bipush 20, 2) := eX11_openRound_0.2.2.2.2.2.2.2
theorem eX11_openRound_8 : (decode cX11_openRound 14 = .ok (.aload_n 0, 1)) ∧ (decode cX11_openRound 15 = .ok (.getfield 141, 3)) ∧ (decode cX11_openRound 18 = .ok (.imul, 1)) ∧ (decode cX11_openRound 19 = .ok (.iload_n 1, 1)) ∧ (decode cX11_openRound 20 = .ok (.iadd, 1)) ∧ (decode cX11_openRound 21 = .ok (.aload_n 0, 1)) ∧ (decode cX11_openRound 22 = .ok (.getfield 132, 3)) ∧ (decode cX11_openRound 25 = .ok (.iload_n 1, 1)) := by decide +kernel
theorem dX11_openRound_14 : decode cX11_openRound 14 = .ok (.aload_n 0, 1) := eX11_openRound_8.1
theorem dX11_openRound_15 : decode cX11_openRound 15 = .ok (.getfield 141, 3) := eX11_openRound_8.2.1
theorem dX11_openRound_18 : decode cX11_openRound 18 = .ok (.imul, 1) := eX11_openRound_8.2.2.1
theorem dX11_openRound_19 : decode cX11_openRound 19 = .ok (.iload_n 1, 1) := eX11_openRound_8.2.2.2.1
theorem dX11_openRound_20 : decode cX11_openRound 20 = .ok (.iadd, 1) := eX11_openRound_8.2.2.2.2.1
theorem dX11_openRound_21 : decode cX11_openRound 21 = .ok (.aload_n 0, 1) := eX11_openRound_8.2.2.2.2.2.1
theorem dX11_openRound_22 : decode cX11_openRound 22 = .ok (.getfield 132, 3) := eX11_openRound_8.2.2.2.2.2.2.1
theorem dX11_openRound_25 : decode cX11_openRound 25 = .ok (.iload_n 1, 1) := eX11_openRound_8.2.2.2.2.2.2.2
theorem eX11_openRound_16 : (decode cX11_openRound 26 = .ok (.baload, 1)) ∧ (decode cX11_openRound 27 = .ok (.ifCond .eq 7, 3)) ∧ (decode cX11_openRound 30 = .ok (.iconst 0, 1)) ∧ (decode cX11_openRound 31 = .ok (.goto 4, 3)) ∧ (decode cX11_openRound 34 = .ok (.iconst (-1), 1)) ∧ (decode cX11_openRound 35 = .ok (.iastore, 1)) ∧ (decode cX11_openRound 36 = .ok (.iinc 1 1, 3)) ∧ (decode cX11_openRound 39 = .ok (.goto (-37), 3)) := by decide +kernel
theorem dX11_openRound_26 : decode cX11_openRound 26 = .ok (.baload, 1) := eX11_openRound_16.1
theorem dX11_openRound_27 : decode cX11_openRound 27 = .ok (.ifCond .eq 7, 3) := eX11_openRound_16.2.1
theorem dX11_openRound_30 : decode cX11_openRound 30 = .ok (.iconst 0, 1) := eX11_openRound_16.2.2.1
theorem dX11_openRound_31 : decode cX11_openRound 31 = .ok (.goto 4, 3) := eX11_openRound_16.2.2.2.1
theorem dX11_openRound_34 : decode cX11_openRound 34 = .ok (.iconst (-1), 1) := eX11_openRound_16.2.2.2.2.1
theorem dX11_openRound_35 : decode cX11_openRound 35 = .ok (.iastore, 1) := eX11_openRound_16.2.2.2.2.2.1
theorem dX11_openRound_36 : decode cX11_openRound 36 = .ok (.iinc 1 1, 3) := eX11_openRound_16.2.2.2.2.2.2.1
theorem dX11_openRound_39 : decode cX11_openRound 39 = .ok (.goto (-37), 3) := eX11_openRound_16.2.2.2.2.2.2.2
theorem eX11_openRound_24 : (decode cX11_openRound 42 = .ok (.aload_n 0, 1)) ∧ (decode cX11_openRound 43 = .ok (.dup, 1)) ∧ (decode cX11_openRound 44 = .ok (.getfield 141, 3)) ∧ (decode cX11_openRound 47 = .ok (.iconst 1, 1)) ∧ (decode cX11_openRound 48 = .ok (.iadd, 1)) ∧ (decode cX11_openRound 49 = .ok (.putfield 141, 3)) ∧ (decode cX11_openRound 52 = .ok (.return_, 1)) := by decide +kernel
theorem dX11_openRound_42 : decode cX11_openRound 42 = .ok (.aload_n 0, 1) := eX11_openRound_24.1
theorem dX11_openRound_43 : decode cX11_openRound 43 = .ok (.dup, 1) := eX11_openRound_24.2.1
theorem dX11_openRound_44 : decode cX11_openRound 44 = .ok (.getfield 141, 3) := eX11_openRound_24.2.2.1
theorem dX11_openRound_47 : decode cX11_openRound 47 = .ok (.iconst 1, 1) := eX11_openRound_24.2.2.2.1
theorem dX11_openRound_48 : decode cX11_openRound 48 = .ok (.iadd, 1) := eX11_openRound_24.2.2.2.2.1
theorem dX11_openRound_49 : decode cX11_openRound 49 = .ok (.putfield 141, 3) := eX11_openRound_24.2.2.2.2.2.1
theorem dX11_openRound_52 : decode cX11_openRound 52 = .ok (.return_, 1) := eX11_openRound_24.2.2.2.2.2.2
theorem eX11_byPoints_0 : (decode cX11_byPoints 0 = .ok (.aload_n 0, 1)) ∧ (decode cX11_byPoints 1 = .ok (.invokevirtual 386, 3)) ∧ (decode cX11_byPoints 4 = .ok (.iconst 0, 1)) ∧ (decode cX11_byPoints 5 = .ok (.istore_n 1, 1)) ∧ (decode cX11_byPoints 6 = .ok (.iload_n 1, 1)) ∧ (decode cX11_byPoints 7 = .ok (.aload_n 0, 1)) ∧ (decode cX11_byPoints 8 = .ok (.getfield 257, 3)) ∧ (decode cX11_byPoints 11 = .ok (.if_icmp .ge 81, 3)) := by decide +kernel
theorem dX11_byPoints_0 : decode cX11_byPoints 0 = .ok (.aload_n 0, 1) := eX11_byPoints_0.1
theorem dX11_byPoints_1 : decode cX11_byPoints 1 = .ok (.invokevirtual 386, 3) := eX11_byPoints_0.2.1
theorem dX11_byPoints_4 : decode cX11_byPoints 4 = .ok (.iconst 0, 1) := eX11_byPoints_0.2.2.1
theorem dX11_byPoints_5 : decode cX11_byPoints 5 = .ok (.istore_n 1, 1) := eX11_byPoints_0.2.2.2.1
theorem dX11_byPoints_6 : decode cX11_byPoints 6 = .ok (.iload_n 1, 1) := eX11_byPoints_0.2.2.2.2.1
theorem dX11_byPoints_7 : decode cX11_byPoints 7 = .ok (.aload_n 0, 1) := eX11_byPoints_0.2.2.2.2.2.1
theorem dX11_byPoints_8 : decode cX11_byPoints 8 = .ok (.getfield 257, 3) := eX11_byPoints_0.2.2.2.2.2.2.1
theorem dX11_byPoints_11 : decode cX11_byPoints 11 = .ok (.if_icmp .ge 81, 3) := eX11_byPoints_0.2.2.2.2.2.2.2
theorem eX11_byPoints_8 : (decode cX11_byPoints 14 = .ok (.iconst 0, 1)) ∧ (decode cX11_byPoints 15 = .ok (.istore_n 2, 1)) ∧ (decode cX11_byPoints 16 = .ok (.iconst 0, 1)) ∧ (decode cX11_byPoints 17 = .ok (.istore_n 3, 1)) ∧ (decode cX11_byPoints 18 = .ok (.iload_n 3, 1)) ∧ (decode cX11_byPoints 19 = .ok (.aload_n 0, 1)) ∧ (decode cX11_byPoints 20 = .ok (.getfield 93, 3)) ∧ (decode cX11_byPoints 23 = .ok (.iload_n 1, 1)) := by decide +kernel
theorem dX11_byPoints_14 : decode cX11_byPoints 14 = .ok (.iconst 0, 1) := eX11_byPoints_8.1
theorem dX11_byPoints_15 : decode cX11_byPoints 15 = .ok (.istore_n 2, 1) := eX11_byPoints_8.2.1
theorem dX11_byPoints_16 : decode cX11_byPoints 16 = .ok (.iconst 0, 1) := eX11_byPoints_8.2.2.1
theorem dX11_byPoints_17 : decode cX11_byPoints 17 = .ok (.istore_n 3, 1) := eX11_byPoints_8.2.2.2.1
theorem dX11_byPoints_18 : decode cX11_byPoints 18 = .ok (.iload_n 3, 1) := eX11_byPoints_8.2.2.2.2.1
theorem dX11_byPoints_19 : decode cX11_byPoints 19 = .ok (.aload_n 0, 1) := eX11_byPoints_8.2.2.2.2.2.1
theorem dX11_byPoints_20 : decode cX11_byPoints 20 = .ok (.getfield 93, 3) := eX11_byPoints_8.2.2.2.2.2.2.1
theorem dX11_byPoints_23 : decode cX11_byPoints 23 = .ok (.iload_n 1, 1) := eX11_byPoints_8.2.2.2.2.2.2.2
theorem eX11_byPoints_16 : (decode cX11_byPoints 24 = .ok (.iaload, 1)) ∧ (decode cX11_byPoints 25 = .ok (.if_icmp .ge 61, 3)) ∧ (decode cX11_byPoints 28 = .ok (.aload_n 0, 1)) ∧ (decode cX11_byPoints 29 = .ok (.getfield 129, 3)) ∧ (decode cX11_byPoints 32 = .ok (.iconst 5, 1)) ∧ (decode cX11_byPoints 33 = .ok (.iload_n 1, 1)) ∧ (decode cX11_byPoints 34 = .ok (.imul, 1)) ∧ (decode cX11_byPoints 35 = .ok (.iload_n 3, 1)) := by decide +kernel
theorem dX11_byPoints_24 : decode cX11_byPoints 24 = .ok (.iaload, 1) := eX11_byPoints_16.1
theorem dX11_byPoints_25 : decode cX11_byPoints 25 = .ok (.if_icmp .ge 61, 3) := eX11_byPoints_16.2.1
theorem dX11_byPoints_28 : decode cX11_byPoints 28 = .ok (.aload_n 0, 1) := eX11_byPoints_16.2.2.1
theorem dX11_byPoints_29 : decode cX11_byPoints 29 = .ok (.getfield 129, 3) := eX11_byPoints_16.2.2.2.1
theorem dX11_byPoints_32 : decode cX11_byPoints 32 = .ok (.iconst 5, 1) := eX11_byPoints_16.2.2.2.2.1
theorem dX11_byPoints_33 : decode cX11_byPoints 33 = .ok (.iload_n 1, 1) := eX11_byPoints_16.2.2.2.2.2.1
theorem dX11_byPoints_34 : decode cX11_byPoints 34 = .ok (.imul, 1) := eX11_byPoints_16.2.2.2.2.2.2.1
theorem dX11_byPoints_35 : decode cX11_byPoints 35 = .ok (.iload_n 3, 1) := eX11_byPoints_16.2.2.2.2.2.2.2
theorem eX11_byPoints_24 : (decode cX11_byPoints 36 = .ok (.iadd, 1)) ∧ (decode cX11_byPoints 37 = .ok (.baload, 1)) ∧ (decode cX11_byPoints 38 = .ok (.ifCond .eq 42, 3)) ∧ (decode cX11_byPoints 41 = .ok (.aload_n 0, 1)) ∧ (decode cX11_byPoints 42 = .ok (.getfield 138, 3)) ∧ (decode cX11_byPoints 45 = .ok (.aload_n 0, 1)) ∧ (decode cX11_byPoints 46 = .ok (.getfield 90, 3)) ∧ (decode cX11_byPoints 49 = .ok (.iconst 5, 1)) := by decide +kernel
theorem dX11_byPoints_36 : decode cX11_byPoints 36 = .ok (.iadd, 1) := eX11_byPoints_24.1
theorem dX11_byPoints_37 : decode cX11_byPoints 37 = .ok (.baload, 1) := eX11_byPoints_24.2.1
theorem dX11_byPoints_38 : decode cX11_byPoints 38 = .ok (.ifCond .eq 42, 3) := eX11_byPoints_24.2.2.1
theorem dX11_byPoints_41 : decode cX11_byPoints 41 = .ok (.aload_n 0, 1) := eX11_byPoints_24.2.2.2.1
theorem dX11_byPoints_42 : decode cX11_byPoints 42 = .ok (.getfield 138, 3) := eX11_byPoints_24.2.2.2.2.1
theorem dX11_byPoints_45 : decode cX11_byPoints 45 = .ok (.aload_n 0, 1) := eX11_byPoints_24.2.2.2.2.2.1
theorem dX11_byPoints_46 : decode cX11_byPoints 46 = .ok (.getfield 90, 3) := eX11_byPoints_24.2.2.2.2.2.2.1
theorem dX11_byPoints_49 : decode cX11_byPoints 49 = .ok (.iconst 5, 1) := eX11_byPoints_24.2.2.2.2.2.2.2
theorem eX11_byPoints_32 : (decode cX11_byPoints 50 = .ok (.iload_n 1, 1)) ∧ (decode cX11_byPoints 51 = .ok (.imul, 1)) ∧ (decode cX11_byPoints 52 = .ok (.iload_n 3, 1)) ∧ (decode cX11_byPoints 53 = .ok (.iadd, 1)) ∧ (decode cX11_byPoints 54 = .ok (.iaload, 1)) ∧ (decode cX11_byPoints 55 = .ok (.dup2, 1)) ∧ (decode cX11_byPoints 56 = .ok (.iaload, 1)) ∧ (decode cX11_byPoints 57 = .ok (.iload_n 2, 1)) := by decide +kernel
theorem dX11_byPoints_50 : decode cX11_byPoints 50 = .ok (.iload_n 1, 1) := eX11_byPoints_32.1
theorem dX11_byPoints_51 : decode cX11_byPoints 51 = .ok (.imul, 1) := eX11_byPoints_32.2.1
theorem dX11_byPoints_52 : decode cX11_byPoints 52 = .ok (.iload_n 3, 1) := eX11_byPoints_32.2.2.1
theorem dX11_byPoints_53 : decode cX11_byPoints 53 = .ok (.iadd, 1) := eX11_byPoints_32.2.2.2.1
theorem dX11_byPoints_54 : decode cX11_byPoints 54 = .ok (.iaload, 1) := eX11_byPoints_32.2.2.2.2.1
theorem dX11_byPoints_55 : decode cX11_byPoints 55 = .ok (.dup2, 1) := eX11_byPoints_32.2.2.2.2.2.1
theorem dX11_byPoints_56 : decode cX11_byPoints 56 = .ok (.iaload, 1) := eX11_byPoints_32.2.2.2.2.2.2.1
theorem dX11_byPoints_57 : decode cX11_byPoints 57 = .ok (.iload_n 2, 1) := eX11_byPoints_32.2.2.2.2.2.2.2
theorem eX11_byPoints_40 : (decode cX11_byPoints 58 = .ok (.aload_n 0, 1)) ∧ (decode cX11_byPoints 59 = .ok (.getfield 365, 3)) ∧ (decode cX11_byPoints 62 = .ok (.if_icmp .ge 12, 3)) ∧ (decode cX11_byPoints 65 = .ok (.aload_n 0, 1)) ∧ (decode cX11_byPoints 66 = .ok (.getfield 111, 3)) ∧ (decode cX11_byPoints 69 = .ok (.iload_n 2, 1)) ∧ (decode cX11_byPoints 70 = .ok (.iaload, 1)) ∧ (decode cX11_byPoints 71 = .ok (.goto 4, 3)) := by decide +kernel
theorem dX11_byPoints_58 : decode cX11_byPoints 58 = .ok (.aload_n 0, 1) := eX11_byPoints_40.1
theorem dX11_byPoints_59 : decode cX11_byPoints 59 = .ok (.getfield 365, 3) := eX11_byPoints_40.2.1
theorem dX11_byPoints_62 : decode cX11_byPoints 62 = .ok (.if_icmp .ge 12, 3) := eX11_byPoints_40.2.2.1
theorem dX11_byPoints_65 : decode cX11_byPoints 65 = .ok (.aload_n 0, 1) := eX11_byPoints_40.2.2.2.1
theorem dX11_byPoints_66 : decode cX11_byPoints 66 = .ok (.getfield 111, 3) := eX11_byPoints_40.2.2.2.2.1
theorem dX11_byPoints_69 : decode cX11_byPoints 69 = .ok (.iload_n 2, 1) := eX11_byPoints_40.2.2.2.2.2.1
theorem dX11_byPoints_70 : decode cX11_byPoints 70 = .ok (.iaload, 1) := eX11_byPoints_40.2.2.2.2.2.2.1
theorem dX11_byPoints_71 : decode cX11_byPoints 71 = .ok (.goto 4, 3) := eX11_byPoints_40.2.2.2.2.2.2.2
theorem eX11_byPoints_48 : (decode cX11_byPoints 74 = .ok (.iconst 0, 1)) ∧ (decode cX11_byPoints 75 = .ok (.iadd, 1)) ∧ (decode cX11_byPoints 76 = .ok (.iastore, 1)) ∧ (decode cX11_byPoints 77 = .ok (.iinc 2 1, 3)) ∧ (decode cX11_byPoints 80 = .ok (.iinc 3 1, 3)) ∧ (decode cX11_byPoints 83 = .ok (.goto (-65), 3)) ∧ (decode cX11_byPoints 86 = .ok (.iinc 1 1, 3)) ∧ (decode cX11_byPoints 89 = .ok (.goto (-83), 3)) := by decide +kernel
theorem dX11_byPoints_74 : decode cX11_byPoints 74 = .ok (.iconst 0, 1) := eX11_byPoints_48.1
theorem dX11_byPoints_75 : decode cX11_byPoints 75 = .ok (.iadd, 1) := eX11_byPoints_48.2.1
theorem dX11_byPoints_76 : decode cX11_byPoints 76 = .ok (.iastore, 1) := eX11_byPoints_48.2.2.1
theorem dX11_byPoints_77 : decode cX11_byPoints 77 = .ok (.iinc 2 1, 3) := eX11_byPoints_48.2.2.2.1
theorem dX11_byPoints_80 : decode cX11_byPoints 80 = .ok (.iinc 3 1, 3) := eX11_byPoints_48.2.2.2.2.1
theorem dX11_byPoints_83 : decode cX11_byPoints 83 = .ok (.goto (-65), 3) := eX11_byPoints_48.2.2.2.2.2.1
theorem dX11_byPoints_86 : decode cX11_byPoints 86 = .ok (.iinc 1 1, 3) := eX11_byPoints_48.2.2.2.2.2.2.1
theorem dX11_byPoints_89 : decode cX11_byPoints 89 = .ok (.goto (-83), 3) := eX11_byPoints_48.2.2.2.2.2.2.2
theorem eX11_byPoints_56 : (decode cX11_byPoints 92 = .ok (.aload_n 0, 1)) ∧ (decode cX11_byPoints 93 = .ok (.iconst 0, 1)) ∧ (decode cX11_byPoints 94 = .ok (.iconst 1, 1)) ∧ (decode cX11_byPoints 95 = .ok (.invokevirtual 389, 3)) ∧ (decode cX11_byPoints 98 = .ok (.ireturn, 1)) := by decide +kernel
theorem dX11_byPoints_92 : decode cX11_byPoints 92 = .ok (.aload_n 0, 1) := eX11_byPoints_56.1
theorem dX11_byPoints_93 : decode cX11_byPoints 93 = .ok (.iconst 0, 1) := eX11_byPoints_56.2.1
theorem dX11_byPoints_94 : decode cX11_byPoints 94 = .ok (.iconst 1, 1) := eX11_byPoints_56.2.2.1
theorem dX11_byPoints_95 : decode cX11_byPoints 95 = .ok (.invokevirtual 389, 3) := eX11_byPoints_56.2.2.2.1
theorem dX11_byPoints_98 : decode cX11_byPoints 98 = .ok (.ireturn, 1) := eX11_byPoints_56.2.2.2.2
theorem eX11_byRounds_0 : (decode cX11_byRounds 0 = .ok (.aload_n 0, 1)) ∧ (decode cX11_byRounds 1 = .ok (.getfield 141, 3)) ∧ (decode cX11_byRounds 4 = .ok (.bipush 21, 2)) ∧ (decode cX11_byRounds 6 = .ok (.if_icmp .ge 215, 3)) ∧ (decode cX11_byRounds 9 = .ok (.aload_n 0, 1)) ∧ (decode cX11_byRounds 10 = .ok (.getfield 141, 3)) ∧ (decode cX11_byRounds 13 = .ok (.istore_n 1, 1)) ∧ (decode cX11_byRounds 14 = .ok (.aload_n 0, 1)) := by decide +kernel
theorem dX11_byRounds_0 : decode cX11_byRounds 0 = .ok (.aload_n 0, 1) := eX11_byRounds_0.1
theorem dX11_byRounds_1 : decode cX11_byRounds 1 = .ok (.getfield 141, 3) := eX11_byRounds_0.2.1
theorem dX11_byRounds_4 : decode cX11_byRounds 4 = .ok (.bipush 21, 2) := eX11_byRounds_0.2.2.1
theorem dX11_byRounds_6 : decode cX11_byRounds 6 = .ok (.if_icmp .ge 215, 3) := eX11_byRounds_0.2.2.2.1
theorem dX11_byRounds_9 : decode cX11_byRounds 9 = .ok (.aload_n 0, 1) := eX11_byRounds_0.2.2.2.2.1
theorem dX11_byRounds_10 : decode cX11_byRounds 10 = .ok (.getfield 141, 3) := eX11_byRounds_0.2.2.2.2.2.1
theorem dX11_byRounds_13 : decode cX11_byRounds 13 = .ok (.istore_n 1, 1) := eX11_byRounds_0.2.2.2.2.2.2.1
theorem dX11_byRounds_14 : decode cX11_byRounds 14 = .ok (.aload_n 0, 1) := eX11_byRounds_0.2.2.2.2.2.2.2
theorem eX11_byRounds_8 : (decode cX11_byRounds 15 = .ok (.invokevirtual 386, 3)) ∧ (decode cX11_byRounds 18 = .ok (.iconst 0, 1)) ∧ (decode cX11_byRounds 19 = .ok (.istore_n 2, 1)) ∧ (decode cX11_byRounds 20 = .ok (.iconst 0, 1)) ∧ (decode cX11_byRounds 21 = .ok (.istore_n 3, 1)) ∧ (decode cX11_byRounds 22 = .ok (.iload_n 3, 1)) ∧ (decode cX11_byRounds 23 = .ok (.aload_n 0, 1)) ∧ (decode cX11_byRounds 24 = .ok (.getfield 257, 3)) := by decide +kernel
theorem dX11_byRounds_15 : decode cX11_byRounds 15 = .ok (.invokevirtual 386, 3) := eX11_byRounds_8.1
theorem dX11_byRounds_18 : decode cX11_byRounds 18 = .ok (.iconst 0, 1) := eX11_byRounds_8.2.1
theorem dX11_byRounds_19 : decode cX11_byRounds 19 = .ok (.istore_n 2, 1) := eX11_byRounds_8.2.2.1
theorem dX11_byRounds_20 : decode cX11_byRounds 20 = .ok (.iconst 0, 1) := eX11_byRounds_8.2.2.2.1
theorem dX11_byRounds_21 : decode cX11_byRounds 21 = .ok (.istore_n 3, 1) := eX11_byRounds_8.2.2.2.2.1
theorem dX11_byRounds_22 : decode cX11_byRounds 22 = .ok (.iload_n 3, 1) := eX11_byRounds_8.2.2.2.2.2.1
theorem dX11_byRounds_23 : decode cX11_byRounds 23 = .ok (.aload_n 0, 1) := eX11_byRounds_8.2.2.2.2.2.2.1
theorem dX11_byRounds_24 : decode cX11_byRounds 24 = .ok (.getfield 257, 3) := eX11_byRounds_8.2.2.2.2.2.2.2
theorem eX11_byRounds_16 : (decode cX11_byRounds 27 = .ok (.if_icmp .ge 101, 3)) ∧ (decode cX11_byRounds 30 = .ok (.iconst 0, 1)) ∧ (decode cX11_byRounds 31 = .ok (.istore 4, 2)) ∧ (decode cX11_byRounds 33 = .ok (.iload 4, 2)) ∧ (decode cX11_byRounds 35 = .ok (.aload_n 0, 1)) ∧ (decode cX11_byRounds 36 = .ok (.getfield 93, 3)) ∧ (decode cX11_byRounds 39 = .ok (.iload_n 3, 1)) ∧ (decode cX11_byRounds 40 = .ok (.iaload, 1)) := by decide +kernel
theorem dX11_byRounds_27 : decode cX11_byRounds 27 = .ok (.if_icmp .ge 101, 3) := eX11_byRounds_16.1
theorem dX11_byRounds_30 : decode cX11_byRounds 30 = .ok (.iconst 0, 1) := eX11_byRounds_16.2.1
theorem dX11_byRounds_31 : decode cX11_byRounds 31 = .ok (.istore 4, 2) := eX11_byRounds_16.2.2.1
theorem dX11_byRounds_33 : decode cX11_byRounds 33 = .ok (.iload 4, 2) := eX11_byRounds_16.2.2.2.1
theorem dX11_byRounds_35 : decode cX11_byRounds 35 = .ok (.aload_n 0, 1) := eX11_byRounds_16.2.2.2.2.1
theorem dX11_byRounds_36 : decode cX11_byRounds 36 = .ok (.getfield 93, 3) := eX11_byRounds_16.2.2.2.2.2.1
theorem dX11_byRounds_39 : decode cX11_byRounds 39 = .ok (.iload_n 3, 1) := eX11_byRounds_16.2.2.2.2.2.2.1
theorem dX11_byRounds_40 : decode cX11_byRounds 40 = .ok (.iaload, 1) := eX11_byRounds_16.2.2.2.2.2.2.2
theorem eX11_byRounds_24 : (decode cX11_byRounds 41 = .ok (.if_icmp .ge 42, 3)) ∧ (decode cX11_byRounds 44 = .ok (.aload_n 0, 1)) ∧ (decode cX11_byRounds 45 = .ok (.getfield 129, 3)) ∧ (decode cX11_byRounds 48 = .ok (.iconst 5, 1)) ∧ (decode cX11_byRounds 49 = .ok (.iload_n 3, 1)) ∧ (decode cX11_byRounds 50 = .ok (.imul, 1)) ∧ (decode cX11_byRounds 51 = .ok (.iload 4, 2)) ∧ (decode cX11_byRounds 53 = .ok (.iadd, 1)) := by decide +kernel
theorem dX11_byRounds_41 : decode cX11_byRounds 41 = .ok (.if_icmp .ge 42, 3) := eX11_byRounds_24.1
theorem dX11_byRounds_44 : decode cX11_byRounds 44 = .ok (.aload_n 0, 1) := eX11_byRounds_24.2.1
theorem dX11_byRounds_45 : decode cX11_byRounds 45 = .ok (.getfield 129, 3) := eX11_byRounds_24.2.2.1
theorem dX11_byRounds_48 : decode cX11_byRounds 48 = .ok (.iconst 5, 1) := eX11_byRounds_24.2.2.2.1
theorem dX11_byRounds_49 : decode cX11_byRounds 49 = .ok (.iload_n 3, 1) := eX11_byRounds_24.2.2.2.2.1
theorem dX11_byRounds_50 : decode cX11_byRounds 50 = .ok (.imul, 1) := eX11_byRounds_24.2.2.2.2.2.1
theorem dX11_byRounds_51 : decode cX11_byRounds 51 = .ok (.iload 4, 2) := eX11_byRounds_24.2.2.2.2.2.2.1
theorem dX11_byRounds_53 : decode cX11_byRounds 53 = .ok (.iadd, 1) := eX11_byRounds_24.2.2.2.2.2.2.2
theorem eX11_byRounds_32 : (decode cX11_byRounds 54 = .ok (.baload, 1)) ∧ (decode cX11_byRounds 55 = .ok (.ifCond .eq 22, 3)) ∧ (decode cX11_byRounds 58 = .ok (.aload_n 0, 1)) ∧ (decode cX11_byRounds 59 = .ok (.getfield 132, 3)) ∧ (decode cX11_byRounds 62 = .ok (.aload_n 0, 1)) ∧ (decode cX11_byRounds 63 = .ok (.getfield 90, 3)) ∧ (decode cX11_byRounds 66 = .ok (.iconst 5, 1)) ∧ (decode cX11_byRounds 67 = .ok (.iload_n 3, 1)) := by decide +kernel
theorem dX11_byRounds_54 : decode cX11_byRounds 54 = .ok (.baload, 1) := eX11_byRounds_32.1
theorem dX11_byRounds_55 : decode cX11_byRounds 55 = .ok (.ifCond .eq 22, 3) := eX11_byRounds_32.2.1
theorem dX11_byRounds_58 : decode cX11_byRounds 58 = .ok (.aload_n 0, 1) := eX11_byRounds_32.2.2.1
theorem dX11_byRounds_59 : decode cX11_byRounds 59 = .ok (.getfield 132, 3) := eX11_byRounds_32.2.2.2.1
theorem dX11_byRounds_62 : decode cX11_byRounds 62 = .ok (.aload_n 0, 1) := eX11_byRounds_32.2.2.2.2.1
theorem dX11_byRounds_63 : decode cX11_byRounds 63 = .ok (.getfield 90, 3) := eX11_byRounds_32.2.2.2.2.2.1
theorem dX11_byRounds_66 : decode cX11_byRounds 66 = .ok (.iconst 5, 1) := eX11_byRounds_32.2.2.2.2.2.2.1
theorem dX11_byRounds_67 : decode cX11_byRounds 67 = .ok (.iload_n 3, 1) := eX11_byRounds_32.2.2.2.2.2.2.2
theorem eX11_byRounds_40 : (decode cX11_byRounds 68 = .ok (.imul, 1)) ∧ (decode cX11_byRounds 69 = .ok (.iload 4, 2)) ∧ (decode cX11_byRounds 71 = .ok (.iadd, 1)) ∧ (decode cX11_byRounds 72 = .ok (.iaload, 1)) ∧ (decode cX11_byRounds 73 = .ok (.baload, 1)) ∧ (decode cX11_byRounds 74 = .ok (.ifCond .ne 9, 3)) ∧ (decode cX11_byRounds 77 = .ok (.iinc 4 1, 3)) ∧ (decode cX11_byRounds 80 = .ok (.goto (-47), 3)) := by decide +kernel
theorem dX11_byRounds_68 : decode cX11_byRounds 68 = .ok (.imul, 1) := eX11_byRounds_40.1
theorem dX11_byRounds_69 : decode cX11_byRounds 69 = .ok (.iload 4, 2) := eX11_byRounds_40.2.1
theorem dX11_byRounds_71 : decode cX11_byRounds 71 = .ok (.iadd, 1) := eX11_byRounds_40.2.2.1
theorem dX11_byRounds_72 : decode cX11_byRounds 72 = .ok (.iaload, 1) := eX11_byRounds_40.2.2.2.1
theorem dX11_byRounds_73 : decode cX11_byRounds 73 = .ok (.baload, 1) := eX11_byRounds_40.2.2.2.2.1
theorem dX11_byRounds_74 : decode cX11_byRounds 74 = .ok (.ifCond .ne 9, 3) := eX11_byRounds_40.2.2.2.2.2.1
theorem dX11_byRounds_77 : decode cX11_byRounds 77 = .ok (.iinc 4 1, 3) := eX11_byRounds_40.2.2.2.2.2.2.1
theorem dX11_byRounds_80 : decode cX11_byRounds 80 = .ok (.goto (-47), 3) := eX11_byRounds_40.2.2.2.2.2.2.2
theorem eX11_byRounds_48 : (decode cX11_byRounds 83 = .ok (.iload 4, 2)) ∧ (decode cX11_byRounds 85 = .ok (.aload_n 0, 1)) ∧ (decode cX11_byRounds 86 = .ok (.getfield 93, 3)) ∧ (decode cX11_byRounds 89 = .ok (.iload_n 3, 1)) ∧ (decode cX11_byRounds 90 = .ok (.iaload, 1)) ∧ (decode cX11_byRounds 91 = .ok (.if_icmp .ge 31, 3)) ∧ (decode cX11_byRounds 94 = .ok (.aload_n 0, 1)) ∧ (decode cX11_byRounds 95 = .ok (.getfield 138, 3)) := by decide +kernel
theorem dX11_byRounds_83 : decode cX11_byRounds 83 = .ok (.iload 4, 2) := eX11_byRounds_48.1
theorem dX11_byRounds_85 : decode cX11_byRounds 85 = .ok (.aload_n 0, 1) := eX11_byRounds_48.2.1
theorem dX11_byRounds_86 : decode cX11_byRounds 86 = .ok (.getfield 93, 3) := eX11_byRounds_48.2.2.1
theorem dX11_byRounds_89 : decode cX11_byRounds 89 = .ok (.iload_n 3, 1) := eX11_byRounds_48.2.2.2.1
theorem dX11_byRounds_90 : decode cX11_byRounds 90 = .ok (.iaload, 1) := eX11_byRounds_48.2.2.2.2.1
theorem dX11_byRounds_91 : decode cX11_byRounds 91 = .ok (.if_icmp .ge 31, 3) := eX11_byRounds_48.2.2.2.2.2.1
theorem dX11_byRounds_94 : decode cX11_byRounds 94 = .ok (.aload_n 0, 1) := eX11_byRounds_48.2.2.2.2.2.2.1
theorem dX11_byRounds_95 : decode cX11_byRounds 95 = .ok (.getfield 138, 3) := eX11_byRounds_48.2.2.2.2.2.2.2
theorem eX11_byRounds_56 : (decode cX11_byRounds 98 = .ok (.bipush 20, 2)) ∧ (decode cX11_byRounds 100 = .ok (.iload_n 1, 1)) ∧ (decode cX11_byRounds 101 = .ok (.imul, 1)) ∧ (decode cX11_byRounds 102 = .ok (.aload_n 0, 1)) ∧ (decode cX11_byRounds 103 = .ok (.getfield 90, 3)) ∧ (decode cX11_byRounds 106 = .ok (.iconst 5, 1)) ∧ (decode cX11_byRounds 107 = .ok (.iload_n 3, 1)) ∧ (decode cX11_byRounds 108 = .ok (.imul, 1)) := by decide +kernel
theorem dX11_byRounds_98 : decode cX11_byRounds 98 = .ok (.bipush 20, 2) := eX11_byRounds_56.1
theorem dX11_byRounds_100 : decode cX11_byRounds 100 = .ok (.iload_n 1, 1) := eX11_byRounds_56.2.1
theorem dX11_byRounds_101 : decode cX11_byRounds 101 = .ok (.imul, 1) := eX11_byRounds_56.2.2.1
theorem dX11_byRounds_102 : decode cX11_byRounds 102 = .ok (.aload_n 0, 1) := eX11_byRounds_56.2.2.2.1
theorem dX11_byRounds_103 : decode cX11_byRounds 103 = .ok (.getfield 90, 3) := eX11_byRounds_56.2.2.2.2.1
theorem dX11_byRounds_106 : decode cX11_byRounds 106 = .ok (.iconst 5, 1) := eX11_byRounds_56.2.2.2.2.2.1
theorem dX11_byRounds_107 : decode cX11_byRounds 107 = .ok (.iload_n 3, 1) := eX11_byRounds_56.2.2.2.2.2.2.1
theorem dX11_byRounds_108 : decode cX11_byRounds 108 = .ok (.imul, 1) := eX11_byRounds_56.2.2.2.2.2.2.2
theorem eX11_byRounds_64 : (decode cX11_byRounds 109 = .ok (.iload 4, 2)) ∧ (decode cX11_byRounds 111 = .ok (.iadd, 1)) ∧ (decode cX11_byRounds 112 = .ok (.iaload, 1)) ∧ (decode cX11_byRounds 113 = .ok (.iadd, 1)) ∧ (decode cX11_byRounds 114 = .ok (.dup2, 1)) ∧ (decode cX11_byRounds 115 = .ok (.iaload, 1)) ∧ (decode cX11_byRounds 116 = .ok (.iconst 1, 1)) ∧ (decode cX11_byRounds 117 = .ok (.iadd, 1)) := by decide +kernel
theorem dX11_byRounds_109 : decode cX11_byRounds 109 = .ok (.iload 4, 2) := eX11_byRounds_64.1
theorem dX11_byRounds_111 : decode cX11_byRounds 111 = .ok (.iadd, 1) := eX11_byRounds_64.2.1
theorem dX11_byRounds_112 : decode cX11_byRounds 112 = .ok (.iaload, 1) := eX11_byRounds_64.2.2.1
theorem dX11_byRounds_113 : decode cX11_byRounds 113 = .ok (.iadd, 1) := eX11_byRounds_64.2.2.2.1
theorem dX11_byRounds_114 : decode cX11_byRounds 114 = .ok (.dup2, 1) := eX11_byRounds_64.2.2.2.2.1
theorem dX11_byRounds_115 : decode cX11_byRounds 115 = .ok (.iaload, 1) := eX11_byRounds_64.2.2.2.2.2.1
theorem dX11_byRounds_116 : decode cX11_byRounds 116 = .ok (.iconst 1, 1) := eX11_byRounds_64.2.2.2.2.2.2.1
theorem dX11_byRounds_117 : decode cX11_byRounds 117 = .ok (.iadd, 1) := eX11_byRounds_64.2.2.2.2.2.2.2
theorem eX11_byRounds_72 : (decode cX11_byRounds 118 = .ok (.iastore, 1)) ∧ (decode cX11_byRounds 119 = .ok (.iinc 2 1, 3)) ∧ (decode cX11_byRounds 122 = .ok (.iinc 3 1, 3)) ∧ (decode cX11_byRounds 125 = .ok (.goto (-103), 3)) ∧ (decode cX11_byRounds 128 = .ok (.aload_n 0, 1)) ∧ (decode cX11_byRounds 129 = .ok (.iload_n 1, 1)) ∧ (decode cX11_byRounds 130 = .ok (.iconst 1, 1)) ∧ (decode cX11_byRounds 131 = .ok (.invokevirtual 389, 3)) := by decide +kernel
theorem dX11_byRounds_118 : decode cX11_byRounds 118 = .ok (.iastore, 1) := eX11_byRounds_72.1
theorem dX11_byRounds_119 : decode cX11_byRounds 119 = .ok (.iinc 2 1, 3) := eX11_byRounds_72.2.1
theorem dX11_byRounds_122 : decode cX11_byRounds 122 = .ok (.iinc 3 1, 3) := eX11_byRounds_72.2.2.1
theorem dX11_byRounds_125 : decode cX11_byRounds 125 = .ok (.goto (-103), 3) := eX11_byRounds_72.2.2.2.1
theorem dX11_byRounds_128 : decode cX11_byRounds 128 = .ok (.aload_n 0, 1) := eX11_byRounds_72.2.2.2.2.1
theorem dX11_byRounds_129 : decode cX11_byRounds 129 = .ok (.iload_n 1, 1) := eX11_byRounds_72.2.2.2.2.2.1
theorem dX11_byRounds_130 : decode cX11_byRounds 130 = .ok (.iconst 1, 1) := eX11_byRounds_72.2.2.2.2.2.2.1
theorem dX11_byRounds_131 : decode cX11_byRounds 131 = .ok (.invokevirtual 389, 3) := eX11_byRounds_72.2.2.2.2.2.2.2
theorem eX11_byRounds_80 : (decode cX11_byRounds 134 = .ok (.istore_n 3, 1)) ∧ (decode cX11_byRounds 135 = .ok (.iconst 0, 1)) ∧ (decode cX11_byRounds 136 = .ok (.istore 4, 2)) ∧ (decode cX11_byRounds 138 = .ok (.iconst 0, 1)) ∧ (decode cX11_byRounds 139 = .ok (.istore 5, 2)) ∧ (decode cX11_byRounds 141 = .ok (.iload 5, 2)) ∧ (decode cX11_byRounds 143 = .ok (.aload_n 0, 1)) ∧ (decode cX11_byRounds 144 = .ok (.getfield 157, 3)) := by decide +kernel
theorem dX11_byRounds_134 : decode cX11_byRounds 134 = .ok (.istore_n 3, 1) := eX11_byRounds_80.1
theorem dX11_byRounds_135 : decode cX11_byRounds 135 = .ok (.iconst 0, 1) := eX11_byRounds_80.2.1
theorem dX11_byRounds_136 : decode cX11_byRounds 136 = .ok (.istore 4, 2) := eX11_byRounds_80.2.2.1
theorem dX11_byRounds_138 : decode cX11_byRounds 138 = .ok (.iconst 0, 1) := eX11_byRounds_80.2.2.2.1
theorem dX11_byRounds_139 : decode cX11_byRounds 139 = .ok (.istore 5, 2) := eX11_byRounds_80.2.2.2.2.1
theorem dX11_byRounds_141 : decode cX11_byRounds 141 = .ok (.iload 5, 2) := eX11_byRounds_80.2.2.2.2.2.1
theorem dX11_byRounds_143 : decode cX11_byRounds 143 = .ok (.aload_n 0, 1) := eX11_byRounds_80.2.2.2.2.2.2.1
theorem dX11_byRounds_144 : decode cX11_byRounds 144 = .ok (.getfield 157, 3) := eX11_byRounds_80.2.2.2.2.2.2.2
theorem eX11_byRounds_88 : (decode cX11_byRounds 147 = .ok (.if_icmp .ge 34, 3)) ∧ (decode cX11_byRounds 150 = .ok (.iload 4, 2)) ∧ (decode cX11_byRounds 152 = .ok (.aload_n 0, 1)) ∧ (decode cX11_byRounds 153 = .ok (.getfield 138, 3)) ∧ (decode cX11_byRounds 156 = .ok (.bipush 20, 2)) ∧ (decode cX11_byRounds 158 = .ok (.iload_n 1, 1)) ∧ (decode cX11_byRounds 159 = .ok (.imul, 1)) ∧ (decode cX11_byRounds 160 = .ok (.iload 5, 2)) := by decide +kernel
theorem dX11_byRounds_147 : decode cX11_byRounds 147 = .ok (.if_icmp .ge 34, 3) := eX11_byRounds_88.1
theorem dX11_byRounds_150 : decode cX11_byRounds 150 = .ok (.iload 4, 2) := eX11_byRounds_88.2.1
theorem dX11_byRounds_152 : decode cX11_byRounds 152 = .ok (.aload_n 0, 1) := eX11_byRounds_88.2.2.1
theorem dX11_byRounds_153 : decode cX11_byRounds 153 = .ok (.getfield 138, 3) := eX11_byRounds_88.2.2.2.1
theorem dX11_byRounds_156 : decode cX11_byRounds 156 = .ok (.bipush 20, 2) := eX11_byRounds_88.2.2.2.2.1
theorem dX11_byRounds_158 : decode cX11_byRounds 158 = .ok (.iload_n 1, 1) := eX11_byRounds_88.2.2.2.2.2.1
theorem dX11_byRounds_159 : decode cX11_byRounds 159 = .ok (.imul, 1) := eX11_byRounds_88.2.2.2.2.2.2.1
theorem dX11_byRounds_160 : decode cX11_byRounds 160 = .ok (.iload 5, 2) := eX11_byRounds_88.2.2.2.2.2.2.2
theorem eX11_byRounds_96 : (decode cX11_byRounds 162 = .ok (.iadd, 1)) ∧ (decode cX11_byRounds 163 = .ok (.iaload, 1)) ∧ (decode cX11_byRounds 164 = .ok (.ifCond .le 7, 3)) ∧ (decode cX11_byRounds 167 = .ok (.iconst 1, 1)) ∧ (decode cX11_byRounds 168 = .ok (.goto 4, 3)) ∧ (decode cX11_byRounds 171 = .ok (.iconst 0, 1)) ∧ (decode cX11_byRounds 172 = .ok (.iadd, 1)) ∧ (decode cX11_byRounds 173 = .ok (.istore 4, 2)) := by decide +kernel
theorem dX11_byRounds_162 : decode cX11_byRounds 162 = .ok (.iadd, 1) := eX11_byRounds_96.1
theorem dX11_byRounds_163 : decode cX11_byRounds 163 = .ok (.iaload, 1) := eX11_byRounds_96.2.1
theorem dX11_byRounds_164 : decode cX11_byRounds 164 = .ok (.ifCond .le 7, 3) := eX11_byRounds_96.2.2.1
theorem dX11_byRounds_167 : decode cX11_byRounds 167 = .ok (.iconst 1, 1) := eX11_byRounds_96.2.2.2.1
theorem dX11_byRounds_168 : decode cX11_byRounds 168 = .ok (.goto 4, 3) := eX11_byRounds_96.2.2.2.2.1
theorem dX11_byRounds_171 : decode cX11_byRounds 171 = .ok (.iconst 0, 1) := eX11_byRounds_96.2.2.2.2.2.1
theorem dX11_byRounds_172 : decode cX11_byRounds 172 = .ok (.iadd, 1) := eX11_byRounds_96.2.2.2.2.2.2.1
theorem dX11_byRounds_173 : decode cX11_byRounds 173 = .ok (.istore 4, 2) := eX11_byRounds_96.2.2.2.2.2.2.2
theorem eX11_byRounds_104 : (decode cX11_byRounds 175 = .ok (.iinc 5 1, 3)) ∧ (decode cX11_byRounds 178 = .ok (.goto (-37), 3)) ∧ (decode cX11_byRounds 181 = .ok (.iconst 2, 1)) ∧ (decode cX11_byRounds 182 = .ok (.aload_n 0, 1)) ∧ (decode cX11_byRounds 183 = .ok (.getfield 138, 3)) ∧ (decode cX11_byRounds 186 = .ok (.bipush 20, 2)) ∧ (decode cX11_byRounds 188 = .ok (.iload_n 1, 1)) ∧ (decode cX11_byRounds 189 = .ok (.imul, 1)) := by decide +kernel
theorem dX11_byRounds_175 : decode cX11_byRounds 175 = .ok (.iinc 5 1, 3) := eX11_byRounds_104.1
theorem dX11_byRounds_178 : decode cX11_byRounds 178 = .ok (.goto (-37), 3) := eX11_byRounds_104.2.1
theorem dX11_byRounds_181 : decode cX11_byRounds 181 = .ok (.iconst 2, 1) := eX11_byRounds_104.2.2.1
theorem dX11_byRounds_182 : decode cX11_byRounds 182 = .ok (.aload_n 0, 1) := eX11_byRounds_104.2.2.2.1
theorem dX11_byRounds_183 : decode cX11_byRounds 183 = .ok (.getfield 138, 3) := eX11_byRounds_104.2.2.2.2.1
theorem dX11_byRounds_186 : decode cX11_byRounds 186 = .ok (.bipush 20, 2) := eX11_byRounds_104.2.2.2.2.2.1
theorem dX11_byRounds_188 : decode cX11_byRounds 188 = .ok (.iload_n 1, 1) := eX11_byRounds_104.2.2.2.2.2.2.1
theorem dX11_byRounds_189 : decode cX11_byRounds 189 = .ok (.imul, 1) := eX11_byRounds_104.2.2.2.2.2.2.2
theorem eX11_byRounds_112 : (decode cX11_byRounds 190 = .ok (.iload_n 3, 1)) ∧ (decode cX11_byRounds 191 = .ok (.iadd, 1)) ∧ (decode cX11_byRounds 192 = .ok (.iaload, 1)) ∧ (decode cX11_byRounds 193 = .ok (.imul, 1)) ∧ (decode cX11_byRounds 194 = .ok (.iload_n 2, 1)) ∧ (decode cX11_byRounds 195 = .ok (.if_icmp .gt 9, 3)) ∧ (decode cX11_byRounds 198 = .ok (.iload 4, 2)) ∧ (decode cX11_byRounds 200 = .ok (.iconst 1, 1)) := by decide +kernel
theorem dX11_byRounds_190 : decode cX11_byRounds 190 = .ok (.iload_n 3, 1) := eX11_byRounds_112.1
theorem dX11_byRounds_191 : decode cX11_byRounds 191 = .ok (.iadd, 1) := eX11_byRounds_112.2.1
theorem dX11_byRounds_192 : decode cX11_byRounds 192 = .ok (.iaload, 1) := eX11_byRounds_112.2.2.1
theorem dX11_byRounds_193 : decode cX11_byRounds 193 = .ok (.imul, 1) := eX11_byRounds_112.2.2.2.1
theorem dX11_byRounds_194 : decode cX11_byRounds 194 = .ok (.iload_n 2, 1) := eX11_byRounds_112.2.2.2.2.1
theorem dX11_byRounds_195 : decode cX11_byRounds 195 = .ok (.if_icmp .gt 9, 3) := eX11_byRounds_112.2.2.2.2.2.1
theorem dX11_byRounds_198 : decode cX11_byRounds 198 = .ok (.iload 4, 2) := eX11_byRounds_112.2.2.2.2.2.2.1
theorem dX11_byRounds_200 : decode cX11_byRounds 200 = .ok (.iconst 1, 1) := eX11_byRounds_112.2.2.2.2.2.2.2
theorem eX11_byRounds_120 : (decode cX11_byRounds 201 = .ok (.if_icmp .ne 5, 3)) ∧ (decode cX11_byRounds 204 = .ok (.iload_n 3, 1)) ∧ (decode cX11_byRounds 205 = .ok (.ireturn, 1)) ∧ (decode cX11_byRounds 206 = .ok (.aload_n 0, 1)) ∧ (decode cX11_byRounds 207 = .ok (.getfield 132, 3)) ∧ (decode cX11_byRounds 210 = .ok (.aload_n 0, 1)) ∧ (decode cX11_byRounds 211 = .ok (.iload_n 1, 1)) ∧ (decode cX11_byRounds 212 = .ok (.iconst 0, 1)) := by decide +kernel
theorem dX11_byRounds_201 : decode cX11_byRounds 201 = .ok (.if_icmp .ne 5, 3) := eX11_byRounds_120.1
theorem dX11_byRounds_204 : decode cX11_byRounds 204 = .ok (.iload_n 3, 1) := eX11_byRounds_120.2.1
theorem dX11_byRounds_205 : decode cX11_byRounds 205 = .ok (.ireturn, 1) := eX11_byRounds_120.2.2.1
theorem dX11_byRounds_206 : decode cX11_byRounds 206 = .ok (.aload_n 0, 1) := eX11_byRounds_120.2.2.2.1
theorem dX11_byRounds_207 : decode cX11_byRounds 207 = .ok (.getfield 132, 3) := eX11_byRounds_120.2.2.2.2.1
theorem dX11_byRounds_210 : decode cX11_byRounds 210 = .ok (.aload_n 0, 1) := eX11_byRounds_120.2.2.2.2.2.1
theorem dX11_byRounds_211 : decode cX11_byRounds 211 = .ok (.iload_n 1, 1) := eX11_byRounds_120.2.2.2.2.2.2.1
theorem dX11_byRounds_212 : decode cX11_byRounds 212 = .ok (.iconst 0, 1) := eX11_byRounds_120.2.2.2.2.2.2.2
theorem eX11_byRounds_128 : (decode cX11_byRounds 213 = .ok (.invokevirtual 389, 3)) ∧ (decode cX11_byRounds 216 = .ok (.iconst 0, 1)) ∧ (decode cX11_byRounds 217 = .ok (.bastore, 1)) ∧ (decode cX11_byRounds 218 = .ok (.goto (-218), 3)) ∧ (decode cX11_byRounds 221 = .ok (.iconst (-1), 1)) ∧ (decode cX11_byRounds 222 = .ok (.ireturn, 1)) := by decide +kernel
theorem dX11_byRounds_213 : decode cX11_byRounds 213 = .ok (.invokevirtual 389, 3) := eX11_byRounds_128.1
theorem dX11_byRounds_216 : decode cX11_byRounds 216 = .ok (.iconst 0, 1) := eX11_byRounds_128.2.1
theorem dX11_byRounds_217 : decode cX11_byRounds 217 = .ok (.bastore, 1) := eX11_byRounds_128.2.2.1
theorem dX11_byRounds_218 : decode cX11_byRounds 218 = .ok (.goto (-218), 3) := eX11_byRounds_128.2.2.2.1
theorem dX11_byRounds_221 : decode cX11_byRounds 221 = .ok (.iconst (-1), 1) := eX11_byRounds_128.2.2.2.2.1
theorem dX11_byRounds_222 : decode cX11_byRounds 222 = .ok (.ireturn, 1) := eX11_byRounds_128.2.2.2.2.2
theorem eX11_prize_0 : (decode cX11_prize 0 = .ok (.aload_n 0, 1)) ∧ (decode cX11_prize 1 = .ok (.iconst 0, 1)) ∧ (decode cX11_prize 2 = .ok (.putfield 144, 3)) ∧ (decode cX11_prize 5 = .ok (.iload_n 1, 1)) ∧ (decode cX11_prize 6 = .ok (.i2l, 1)) ∧ (decode cX11_prize 7 = .ok (.lconst 0, 1)) ∧ (decode cX11_prize 8 = .ok (.ldc2_w 267, 3)) ∧ (decode cX11_prize 11 = .ok (.invokestatic 153, 3)) := by decide +kernel
theorem dX11_prize_0 : decode cX11_prize 0 = .ok (.aload_n 0, 1) := eX11_prize_0.1
theorem dX11_prize_1 : decode cX11_prize 1 = .ok (.iconst 0, 1) := eX11_prize_0.2.1
theorem dX11_prize_2 : decode cX11_prize 2 = .ok (.putfield 144, 3) := eX11_prize_0.2.2.1
theorem dX11_prize_5 : decode cX11_prize 5 = .ok (.iload_n 1, 1) := eX11_prize_0.2.2.2.1
theorem dX11_prize_6 : decode cX11_prize 6 = .ok (.i2l, 1) := eX11_prize_0.2.2.2.2.1
theorem dX11_prize_7 : decode cX11_prize 7 = .ok (.lconst 0, 1) := eX11_prize_0.2.2.2.2.2.1
theorem dX11_prize_8 : decode cX11_prize 8 = .ok (.ldc2_w 267, 3) := eX11_prize_0.2.2.2.2.2.2.1
theorem dX11_prize_11 : decode cX11_prize 11 = .ok (.invokestatic 153, 3) := eX11_prize_0.2.2.2.2.2.2.2
theorem eX11_prize_8 : (decode cX11_prize 14 = .ok (.ifCond .ne 9, 3)) ∧ (decode cX11_prize 17 = .ok (.aload_n 0, 1)) ∧ (decode cX11_prize 18 = .ok (.iconst (-1), 1)) ∧ (decode cX11_prize 19 = .ok (.invokevirtual 173, 3)) ∧ (decode cX11_prize 22 = .ok (.ireturn, 1)) ∧ (decode cX11_prize 23 = .ok (.aload_n 0, 1)) ∧ (decode cX11_prize 24 = .ok (.getfield 359, 3)) ∧ (decode cX11_prize 27 = .ok (.ifCond .ne 10, 3)) := by decide +kernel
theorem dX11_prize_14 : decode cX11_prize 14 = .ok (.ifCond .ne 9, 3) := eX11_prize_8.1
theorem dX11_prize_17 : decode cX11_prize 17 = .ok (.aload_n 0, 1) := eX11_prize_8.2.1
theorem dX11_prize_18 : decode cX11_prize 18 = .ok (.iconst (-1), 1) := eX11_prize_8.2.2.1
theorem dX11_prize_19 : decode cX11_prize 19 = .ok (.invokevirtual 173, 3) := eX11_prize_8.2.2.2.1
theorem dX11_prize_22 : decode cX11_prize 22 = .ok (.ireturn, 1) := eX11_prize_8.2.2.2.2.1
theorem dX11_prize_23 : decode cX11_prize 23 = .ok (.aload_n 0, 1) := eX11_prize_8.2.2.2.2.2.1
theorem dX11_prize_24 : decode cX11_prize 24 = .ok (.getfield 359, 3) := eX11_prize_8.2.2.2.2.2.2.1
theorem dX11_prize_27 : decode cX11_prize 27 = .ok (.ifCond .ne 10, 3) := eX11_prize_8.2.2.2.2.2.2.2
theorem eX11_prize_16 : (decode cX11_prize 30 = .ok (.aload_n 0, 1)) ∧ (decode cX11_prize 31 = .ok (.bipush (-6), 2)) ∧ (decode cX11_prize 33 = .ok (.invokevirtual 173, 3)) ∧ (decode cX11_prize 36 = .ok (.ireturn, 1)) ∧ (decode cX11_prize 37 = .ok (.aload_n 0, 1)) ∧ (decode cX11_prize 38 = .ok (.iload_n 1, 1)) ∧ (decode cX11_prize 39 = .ok (.invokevirtual 393, 3)) ∧ (decode cX11_prize 42 = .ok (.aload_n 0, 1)) := by decide +kernel
theorem dX11_prize_30 : decode cX11_prize 30 = .ok (.aload_n 0, 1) := eX11_prize_16.1
theorem dX11_prize_31 : decode cX11_prize 31 = .ok (.bipush (-6), 2) := eX11_prize_16.2.1
theorem dX11_prize_33 : decode cX11_prize 33 = .ok (.invokevirtual 173, 3) := eX11_prize_16.2.2.1
theorem dX11_prize_36 : decode cX11_prize 36 = .ok (.ireturn, 1) := eX11_prize_16.2.2.2.1
theorem dX11_prize_37 : decode cX11_prize 37 = .ok (.aload_n 0, 1) := eX11_prize_16.2.2.2.2.1
theorem dX11_prize_38 : decode cX11_prize 38 = .ok (.iload_n 1, 1) := eX11_prize_16.2.2.2.2.2.1
theorem dX11_prize_39 : decode cX11_prize 39 = .ok (.invokevirtual 393, 3) := eX11_prize_16.2.2.2.2.2.2.1
theorem dX11_prize_42 : decode cX11_prize 42 = .ok (.aload_n 0, 1) := eX11_prize_16.2.2.2.2.2.2.2
theorem eX11_prize_24 : (decode cX11_prize 43 = .ok (.iconst 0, 1)) ∧ (decode cX11_prize 44 = .ok (.putfield 141, 3)) ∧ (decode cX11_prize 47 = .ok (.iconst 0, 1)) ∧ (decode cX11_prize 48 = .ok (.istore_n 2, 1)) ∧ (decode cX11_prize 49 = .ok (.iconst 0, 1)) ∧ (decode cX11_prize 50 = .ok (.istore_n 3, 1)) ∧ (decode cX11_prize 51 = .ok (.iload_n 3, 1)) ∧ (decode cX11_prize 52 = .ok (.bipush 20, 2)) := by decide +kernel
theorem dX11_prize_43 : decode cX11_prize 43 = .ok (.iconst 0, 1) := eX11_prize_24.1
theorem dX11_prize_44 : decode cX11_prize 44 = .ok (.putfield 141, 3) := eX11_prize_24.2.1
theorem dX11_prize_47 : decode cX11_prize 47 = .ok (.iconst 0, 1) := eX11_prize_24.2.2.1
theorem dX11_prize_48 : decode cX11_prize 48 = .ok (.istore_n 2, 1) := eX11_prize_24.2.2.2.1
theorem dX11_prize_49 : decode cX11_prize 49 = .ok (.iconst 0, 1) := eX11_prize_24.2.2.2.2.1
theorem dX11_prize_50 : decode cX11_prize 50 = .ok (.istore_n 3, 1) := eX11_prize_24.2.2.2.2.2.1
theorem dX11_prize_51 : decode cX11_prize 51 = .ok (.iload_n 3, 1) := eX11_prize_24.2.2.2.2.2.2.1
theorem dX11_prize_52 : decode cX11_prize 52 = .ok (.bipush 20, 2) := eX11_prize_24.2.2.2.2.2.2.2
theorem eX11_prize_32 : (decode cX11_prize 54 = .ok (.if_icmp .ge 28, 3)) ∧ (decode cX11_prize 57 = .ok (.iload_n 2, 1)) ∧ (decode cX11_prize 58 = .ok (.ifCond .ne 12, 3)) ∧ (decode cX11_prize 61 = .ok (.aload_n 0, 1)) ∧ (decode cX11_prize 62 = .ok (.getfield 132, 3)) ∧ (decode cX11_prize 65 = .ok (.iload_n 3, 1)) ∧ (decode cX11_prize 66 = .ok (.baload, 1)) ∧ (decode cX11_prize 67 = .ok (.ifCond .eq 7, 3)) := by decide +kernel
theorem dX11_prize_54 : decode cX11_prize 54 = .ok (.if_icmp .ge 28, 3) := eX11_prize_32.1
theorem dX11_prize_57 : decode cX11_prize 57 = .ok (.iload_n 2, 1) := eX11_prize_32.2.1
theorem dX11_prize_58 : decode cX11_prize 58 = .ok (.ifCond .ne 12, 3) := eX11_prize_32.2.2.1
theorem dX11_prize_61 : decode cX11_prize 61 = .ok (.aload_n 0, 1) := eX11_prize_32.2.2.2.1
theorem dX11_prize_62 : decode cX11_prize 62 = .ok (.getfield 132, 3) := eX11_prize_32.2.2.2.2.1
theorem dX11_prize_65 : decode cX11_prize 65 = .ok (.iload_n 3, 1) := eX11_prize_32.2.2.2.2.2.1
theorem dX11_prize_66 : decode cX11_prize 66 = .ok (.baload, 1) := eX11_prize_32.2.2.2.2.2.2.1
theorem dX11_prize_67 : decode cX11_prize 67 = .ok (.ifCond .eq 7, 3) := eX11_prize_32.2.2.2.2.2.2.2
theorem eX11_prize_40 : (decode cX11_prize 70 = .ok (.iconst 1, 1)) ∧ (decode cX11_prize 71 = .ok (.goto 4, 3)) ∧ (decode cX11_prize 74 = .ok (.iconst 0, 1)) ∧ (decode cX11_prize 75 = .ok (.istore_n 2, 1)) ∧ (decode cX11_prize 76 = .ok (.iinc 3 1, 3)) ∧ (decode cX11_prize 79 = .ok (.goto (-28), 3)) ∧ (decode cX11_prize 82 = .ok (.iload_n 2, 1)) ∧ (decode cX11_prize 83 = .ok (.ifCond .ne 10, 3)) := by decide +kernel
theorem dX11_prize_70 : decode cX11_prize 70 = .ok (.iconst 1, 1) := eX11_prize_40.1
theorem dX11_prize_71 : decode cX11_prize 71 = .ok (.goto 4, 3) := eX11_prize_40.2.1
theorem dX11_prize_74 : decode cX11_prize 74 = .ok (.iconst 0, 1) := eX11_prize_40.2.2.1
theorem dX11_prize_75 : decode cX11_prize 75 = .ok (.istore_n 2, 1) := eX11_prize_40.2.2.2.1
theorem dX11_prize_76 : decode cX11_prize 76 = .ok (.iinc 3 1, 3) := eX11_prize_40.2.2.2.2.1
theorem dX11_prize_79 : decode cX11_prize 79 = .ok (.goto (-28), 3) := eX11_prize_40.2.2.2.2.2.1
theorem dX11_prize_82 : decode cX11_prize 82 = .ok (.iload_n 2, 1) := eX11_prize_40.2.2.2.2.2.2.1
theorem dX11_prize_83 : decode cX11_prize 83 = .ok (.ifCond .ne 10, 3) := eX11_prize_40.2.2.2.2.2.2.2
theorem eX11_prize_48 : (decode cX11_prize 86 = .ok (.aload_n 0, 1)) ∧ (decode cX11_prize 87 = .ok (.bipush (-6), 2)) ∧ (decode cX11_prize 89 = .ok (.invokevirtual 173, 3)) ∧ (decode cX11_prize 92 = .ok (.ireturn, 1)) ∧ (decode cX11_prize 93 = .ok (.aload_n 0, 1)) ∧ (decode cX11_prize 94 = .ok (.aload_n 0, 1)) ∧ (decode cX11_prize 95 = .ok (.getfield 365, 3)) ∧ (decode cX11_prize 98 = .ok (.ifCond .le 10, 3)) := by decide +kernel
theorem dX11_prize_86 : decode cX11_prize 86 = .ok (.aload_n 0, 1) := eX11_prize_48.1
theorem dX11_prize_87 : decode cX11_prize 87 = .ok (.bipush (-6), 2) := eX11_prize_48.2.1
theorem dX11_prize_89 : decode cX11_prize 89 = .ok (.invokevirtual 173, 3) := eX11_prize_48.2.2.1
theorem dX11_prize_92 : decode cX11_prize 92 = .ok (.ireturn, 1) := eX11_prize_48.2.2.2.1
theorem dX11_prize_93 : decode cX11_prize 93 = .ok (.aload_n 0, 1) := eX11_prize_48.2.2.2.2.1
theorem dX11_prize_94 : decode cX11_prize 94 = .ok (.aload_n 0, 1) := eX11_prize_48.2.2.2.2.2.1
theorem dX11_prize_95 : decode cX11_prize 95 = .ok (.getfield 365, 3) := eX11_prize_48.2.2.2.2.2.2.1
theorem dX11_prize_98 : decode cX11_prize 98 = .ok (.ifCond .le 10, 3) := eX11_prize_48.2.2.2.2.2.2.2
theorem eX11_prize_56 : (decode cX11_prize 101 = .ok (.aload_n 0, 1)) ∧ (decode cX11_prize 102 = .ok (.invokevirtual 396, 3)) ∧ (decode cX11_prize 105 = .ok (.goto 7, 3)) ∧ (decode cX11_prize 108 = .ok (.aload_n 0, 1)) ∧ (decode cX11_prize 109 = .ok (.invokevirtual 399, 3)) ∧ (decode cX11_prize 112 = .ok (.invokevirtual 173, 3)) ∧ (decode cX11_prize 115 = .ok (.ireturn, 1)) := by decide +kernel
theorem dX11_prize_101 : decode cX11_prize 101 = .ok (.aload_n 0, 1) := eX11_prize_56.1
theorem dX11_prize_102 : decode cX11_prize 102 = .ok (.invokevirtual 396, 3) := eX11_prize_56.2.1
theorem dX11_prize_105 : decode cX11_prize 105 = .ok (.goto 7, 3) := eX11_prize_56.2.2.1
theorem dX11_prize_108 : decode cX11_prize 108 = .ok (.aload_n 0, 1) := eX11_prize_56.2.2.2.1
theorem dX11_prize_109 : decode cX11_prize 109 = .ok (.invokevirtual 399, 3) := eX11_prize_56.2.2.2.2.1
theorem dX11_prize_112 : decode cX11_prize 112 = .ok (.invokevirtual 173, 3) := eX11_prize_56.2.2.2.2.2.1
theorem dX11_prize_115 : decode cX11_prize 115 = .ok (.ireturn, 1) := eX11_prize_56.2.2.2.2.2.2
theorem eX11_round_0 : (decode cX11_round 0 = .ok (.aload_n 0, 1)) ∧ (decode cX11_round 1 = .ok (.iconst 0, 1)) ∧ (decode cX11_round 2 = .ok (.putfield 144, 3)) ∧ (decode cX11_round 5 = .ok (.aload_n 0, 1)) ∧ (decode cX11_round 6 = .ok (.getfield 141, 3)) ∧ (decode cX11_round 9 = .ok (.ifCond .ge 5, 3)) ∧ (decode cX11_round 12 = .ok (.iconst (-1), 1)) ∧ (decode cX11_round 13 = .ok (.ireturn, 1)) := by decide +kernel
theorem dX11_round_0 : decode cX11_round 0 = .ok (.aload_n 0, 1) := eX11_round_0.1
theorem dX11_round_1 : decode cX11_round 1 = .ok (.iconst 0, 1) := eX11_round_0.2.1
theorem dX11_round_2 : decode cX11_round 2 = .ok (.putfield 144, 3) := eX11_round_0.2.2.1
theorem dX11_round_5 : decode cX11_round 5 = .ok (.aload_n 0, 1) := eX11_round_0.2.2.2.1
theorem dX11_round_6 : decode cX11_round 6 = .ok (.getfield 141, 3) := eX11_round_0.2.2.2.2.1
theorem dX11_round_9 : decode cX11_round 9 = .ok (.ifCond .ge 5, 3) := eX11_round_0.2.2.2.2.2.1
theorem dX11_round_12 : decode cX11_round 12 = .ok (.iconst (-1), 1) := eX11_round_0.2.2.2.2.2.2.1
theorem dX11_round_13 : decode cX11_round 13 = .ok (.ireturn, 1) := eX11_round_0.2.2.2.2.2.2.2
theorem eX11_round_8 : (decode cX11_round 14 = .ok (.iload_n 1, 1)) ∧ (decode cX11_round 15 = .ok (.iconst (-1), 1)) ∧ (decode cX11_round 16 = .ok (.if_icmp .ne 8, 3)) ∧ (decode cX11_round 19 = .ok (.aload_n 0, 1)) ∧ (decode cX11_round 20 = .ok (.getfield 141, 3)) ∧ (decode cX11_round 23 = .ok (.ireturn, 1)) ∧ (decode cX11_round 24 = .ok (.iload_n 1, 1)) ∧ (decode cX11_round 25 = .ok (.i2l, 1)) := by decide +kernel
theorem dX11_round_14 : decode cX11_round 14 = .ok (.iload_n 1, 1) := eX11_round_8.1
theorem dX11_round_15 : decode cX11_round 15 = .ok (.iconst (-1), 1) := eX11_round_8.2.1
theorem dX11_round_16 : decode cX11_round 16 = .ok (.if_icmp .ne 8, 3) := eX11_round_8.2.2.1
theorem dX11_round_19 : decode cX11_round 19 = .ok (.aload_n 0, 1) := eX11_round_8.2.2.2.1
theorem dX11_round_20 : decode cX11_round 20 = .ok (.getfield 141, 3) := eX11_round_8.2.2.2.2.1
theorem dX11_round_23 : decode cX11_round 23 = .ok (.ireturn, 1) := eX11_round_8.2.2.2.2.2.1
theorem dX11_round_24 : decode cX11_round 24 = .ok (.iload_n 1, 1) := eX11_round_8.2.2.2.2.2.2.1
theorem dX11_round_25 : decode cX11_round 25 = .ok (.i2l, 1) := eX11_round_8.2.2.2.2.2.2.2
theorem eX11_round_16 : (decode cX11_round 26 = .ok (.lconst 0, 1)) ∧ (decode cX11_round 27 = .ok (.aload_n 0, 1)) ∧ (decode cX11_round 28 = .ok (.getfield 141, 3)) ∧ (decode cX11_round 31 = .ok (.i2l, 1)) ∧ (decode cX11_round 32 = .ok (.lconst 1, 1)) ∧ (decode cX11_round 33 = .ok (.lsub, 1)) ∧ (decode cX11_round 34 = .ok (.invokestatic 153, 3)) ∧ (decode cX11_round 37 = .ok (.ifCond .eq 25, 3)) := by decide +kernel
theorem dX11_round_26 : decode cX11_round 26 = .ok (.lconst 0, 1) := eX11_round_16.1
theorem dX11_round_27 : decode cX11_round 27 = .ok (.aload_n 0, 1) := eX11_round_16.2.1
theorem dX11_round_28 : decode cX11_round 28 = .ok (.getfield 141, 3) := eX11_round_16.2.2.1
theorem dX11_round_31 : decode cX11_round 31 = .ok (.i2l, 1) := eX11_round_16.2.2.2.1
theorem dX11_round_32 : decode cX11_round 32 = .ok (.lconst 1, 1) := eX11_round_16.2.2.2.2.1
theorem dX11_round_33 : decode cX11_round 33 = .ok (.lsub, 1) := eX11_round_16.2.2.2.2.2.1
theorem dX11_round_34 : decode cX11_round 34 = .ok (.invokestatic 153, 3) := eX11_round_16.2.2.2.2.2.2.1
theorem dX11_round_37 : decode cX11_round 37 = .ok (.ifCond .eq 25, 3) := eX11_round_16.2.2.2.2.2.2.2
theorem eX11_round_24 : (decode cX11_round 40 = .ok (.aload_n 0, 1)) ∧ (decode cX11_round 41 = .ok (.iload_n 2, 1)) ∧ (decode cX11_round 42 = .ok (.invokevirtual 187, 3)) ∧ (decode cX11_round 45 = .ok (.ifCond .eq 17, 3)) ∧ (decode cX11_round 48 = .ok (.aload_n 0, 1)) ∧ (decode cX11_round 49 = .ok (.getfield 138, 3)) ∧ (decode cX11_round 52 = .ok (.bipush 20, 2)) ∧ (decode cX11_round 54 = .ok (.iload_n 1, 1)) := by decide +kernel
theorem dX11_round_40 : decode cX11_round 40 = .ok (.aload_n 0, 1) := eX11_round_24.1
theorem dX11_round_41 : decode cX11_round 41 = .ok (.iload_n 2, 1) := eX11_round_24.2.1
theorem dX11_round_42 : decode cX11_round 42 = .ok (.invokevirtual 187, 3) := eX11_round_24.2.2.1
theorem dX11_round_45 : decode cX11_round 45 = .ok (.ifCond .eq 17, 3) := eX11_round_24.2.2.2.1
theorem dX11_round_48 : decode cX11_round 48 = .ok (.aload_n 0, 1) := eX11_round_24.2.2.2.2.1
theorem dX11_round_49 : decode cX11_round 49 = .ok (.getfield 138, 3) := eX11_round_24.2.2.2.2.2.1
theorem dX11_round_52 : decode cX11_round 52 = .ok (.bipush 20, 2) := eX11_round_24.2.2.2.2.2.2.1
theorem dX11_round_54 : decode cX11_round 54 = .ok (.iload_n 1, 1) := eX11_round_24.2.2.2.2.2.2.2
theorem eX11_round_32 : (decode cX11_round 55 = .ok (.imul, 1)) ∧ (decode cX11_round 56 = .ok (.iload_n 2, 1)) ∧ (decode cX11_round 57 = .ok (.iadd, 1)) ∧ (decode cX11_round 58 = .ok (.iaload, 1)) ∧ (decode cX11_round 59 = .ok (.goto 4, 3)) ∧ (decode cX11_round 62 = .ok (.iconst (-1), 1)) ∧ (decode cX11_round 63 = .ok (.ireturn, 1)) := by decide +kernel
theorem dX11_round_55 : decode cX11_round 55 = .ok (.imul, 1) := eX11_round_32.1
theorem dX11_round_56 : decode cX11_round 56 = .ok (.iload_n 2, 1) := eX11_round_32.2.1
theorem dX11_round_57 : decode cX11_round 57 = .ok (.iadd, 1) := eX11_round_32.2.2.1
theorem dX11_round_58 : decode cX11_round 58 = .ok (.iaload, 1) := eX11_round_32.2.2.2.1
theorem dX11_round_59 : decode cX11_round 59 = .ok (.goto 4, 3) := eX11_round_32.2.2.2.2.1
theorem dX11_round_62 : decode cX11_round 62 = .ok (.iconst (-1), 1) := eX11_round_32.2.2.2.2.2.1
theorem dX11_round_63 : decode cX11_round 63 = .ok (.ireturn, 1) := eX11_round_32.2.2.2.2.2.2
theorem eX11_count_0 : (decode cX11_count 0 = .ok (.aload_n 0, 1)) ∧ (decode cX11_count 1 = .ok (.iconst 0, 1)) ∧ (decode cX11_count 2 = .ok (.putfield 144, 3)) ∧ (decode cX11_count 5 = .ok (.iload_n 1, 1)) ∧ (decode cX11_count 6 = .ok (.tableswitch 138 0 8 #[50, 55, 60, 97, 102, 107, 112, 117, 122], 50)) ∧ (decode cX11_count 56 = .ok (.aload_n 0, 1)) ∧ (decode cX11_count 57 = .ok (.getfield 150, 3)) ∧ (decode cX11_count 60 = .ok (.ireturn, 1)) := by decide +kernel
theorem dX11_count_0 : decode cX11_count 0 = .ok (.aload_n 0, 1) := eX11_count_0.1
theorem dX11_count_1 : decode cX11_count 1 = .ok (.iconst 0, 1) := eX11_count_0.2.1
theorem dX11_count_2 : decode cX11_count 2 = .ok (.putfield 144, 3) := eX11_count_0.2.2.1
theorem dX11_count_5 : decode cX11_count 5 = .ok (.iload_n 1, 1) := eX11_count_0.2.2.2.1
theorem dX11_count_6 : decode cX11_count 6 = .ok (.tableswitch 138 0 8 #[50, 55, 60, 97, 102, 107, 112, 117, 122], 50) := eX11_count_0.2.2.2.2.1
theorem dX11_count_56 : decode cX11_count 56 = .ok (.aload_n 0, 1) := eX11_count_0.2.2.2.2.2.1
theorem dX11_count_57 : decode cX11_count 57 = .ok (.getfield 150, 3) := eX11_count_0.2.2.2.2.2.2.1
theorem dX11_count_60 : decode cX11_count 60 = .ok (.ireturn, 1) := eX11_count_0.2.2.2.2.2.2.2
theorem eX11_count_8 : (decode cX11_count 61 = .ok (.aload_n 0, 1)) ∧ (decode cX11_count 62 = .ok (.getfield 157, 3)) ∧ (decode cX11_count 65 = .ok (.ireturn, 1)) ∧ (decode cX11_count 66 = .ok (.iconst 0, 1)) ∧ (decode cX11_count 67 = .ok (.istore_n 2, 1)) ∧ (decode cX11_count 68 = .ok (.iconst 0, 1)) ∧ (decode cX11_count 69 = .ok (.istore_n 3, 1)) ∧ (decode cX11_count 70 = .ok (.iload_n 3, 1)) := by decide +kernel
theorem dX11_count_61 : decode cX11_count 61 = .ok (.aload_n 0, 1) := eX11_count_8.1
theorem dX11_count_62 : decode cX11_count 62 = .ok (.getfield 157, 3) := eX11_count_8.2.1
theorem dX11_count_65 : decode cX11_count 65 = .ok (.ireturn, 1) := eX11_count_8.2.2.1
theorem dX11_count_66 : decode cX11_count 66 = .ok (.iconst 0, 1) := eX11_count_8.2.2.2.1
theorem dX11_count_67 : decode cX11_count 67 = .ok (.istore_n 2, 1) := eX11_count_8.2.2.2.2.1
theorem dX11_count_68 : decode cX11_count 68 = .ok (.iconst 0, 1) := eX11_count_8.2.2.2.2.2.1
theorem dX11_count_69 : decode cX11_count 69 = .ok (.istore_n 3, 1) := eX11_count_8.2.2.2.2.2.2.1
theorem dX11_count_70 : decode cX11_count 70 = .ok (.iload_n 3, 1) := eX11_count_8.2.2.2.2.2.2.2
theorem eX11_count_16 : (decode cX11_count 71 = .ok (.aload_n 0, 1)) ∧ (decode cX11_count 72 = .ok (.getfield 160, 3)) ∧ (decode cX11_count 75 = .ok (.if_icmp .ge 26, 3)) ∧ (decode cX11_count 78 = .ok (.iload_n 2, 1)) ∧ (decode cX11_count 79 = .ok (.aload_n 0, 1)) ∧ (decode cX11_count 80 = .ok (.getfield 49, 3)) ∧ (decode cX11_count 83 = .ok (.iload_n 3, 1)) ∧ (decode cX11_count 84 = .ok (.baload, 1)) := by decide +kernel
theorem dX11_count_71 : decode cX11_count 71 = .ok (.aload_n 0, 1) := eX11_count_16.1
theorem dX11_count_72 : decode cX11_count 72 = .ok (.getfield 160, 3) := eX11_count_16.2.1
theorem dX11_count_75 : decode cX11_count 75 = .ok (.if_icmp .ge 26, 3) := eX11_count_16.2.2.1
theorem dX11_count_78 : decode cX11_count 78 = .ok (.iload_n 2, 1) := eX11_count_16.2.2.2.1
theorem dX11_count_79 : decode cX11_count 79 = .ok (.aload_n 0, 1) := eX11_count_16.2.2.2.2.1
theorem dX11_count_80 : decode cX11_count 80 = .ok (.getfield 49, 3) := eX11_count_16.2.2.2.2.2.1
theorem dX11_count_83 : decode cX11_count 83 = .ok (.iload_n 3, 1) := eX11_count_16.2.2.2.2.2.2.1
theorem dX11_count_84 : decode cX11_count 84 = .ok (.baload, 1) := eX11_count_16.2.2.2.2.2.2.2
theorem eX11_count_24 : (decode cX11_count 85 = .ok (.ifCond .eq 7, 3)) ∧ (decode cX11_count 88 = .ok (.iconst 1, 1)) ∧ (decode cX11_count 89 = .ok (.goto 4, 3)) ∧ (decode cX11_count 92 = .ok (.iconst 0, 1)) ∧ (decode cX11_count 93 = .ok (.iadd, 1)) ∧ (decode cX11_count 94 = .ok (.istore_n 2, 1)) ∧ (decode cX11_count 95 = .ok (.iinc 3 1, 3)) ∧ (decode cX11_count 98 = .ok (.goto (-28), 3)) := by decide +kernel
theorem dX11_count_85 : decode cX11_count 85 = .ok (.ifCond .eq 7, 3) := eX11_count_24.1
theorem dX11_count_88 : decode cX11_count 88 = .ok (.iconst 1, 1) := eX11_count_24.2.1
theorem dX11_count_89 : decode cX11_count 89 = .ok (.goto 4, 3) := eX11_count_24.2.2.1
theorem dX11_count_92 : decode cX11_count 92 = .ok (.iconst 0, 1) := eX11_count_24.2.2.2.1
theorem dX11_count_93 : decode cX11_count 93 = .ok (.iadd, 1) := eX11_count_24.2.2.2.2.1
theorem dX11_count_94 : decode cX11_count 94 = .ok (.istore_n 2, 1) := eX11_count_24.2.2.2.2.2.1
theorem dX11_count_95 : decode cX11_count 95 = .ok (.iinc 3 1, 3) := eX11_count_24.2.2.2.2.2.2.1
theorem dX11_count_98 : decode cX11_count 98 = .ok (.goto (-28), 3) := eX11_count_24.2.2.2.2.2.2.2
theorem eX11_count_32 : (decode cX11_count 101 = .ok (.iload_n 2, 1)) ∧ (decode cX11_count 102 = .ok (.ireturn, 1)) ∧ (decode cX11_count 103 = .ok (.aload_n 0, 1)) ∧ (decode cX11_count 104 = .ok (.getfield 160, 3)) ∧ (decode cX11_count 107 = .ok (.ireturn, 1)) ∧ (decode cX11_count 108 = .ok (.aload_n 0, 1)) ∧ (decode cX11_count 109 = .ok (.getfield 257, 3)) ∧ (decode cX11_count 112 = .ok (.ireturn, 1)) := by decide +kernel
theorem dX11_count_101 : decode cX11_count 101 = .ok (.iload_n 2, 1) := eX11_count_32.1
theorem dX11_count_102 : decode cX11_count 102 = .ok (.ireturn, 1) := eX11_count_32.2.1
theorem dX11_count_103 : decode cX11_count 103 = .ok (.aload_n 0, 1) := eX11_count_32.2.2.1
theorem dX11_count_104 : decode cX11_count 104 = .ok (.getfield 160, 3) := eX11_count_32.2.2.2.1
theorem dX11_count_107 : decode cX11_count 107 = .ok (.ireturn, 1) := eX11_count_32.2.2.2.2.1
theorem dX11_count_108 : decode cX11_count 108 = .ok (.aload_n 0, 1) := eX11_count_32.2.2.2.2.2.1
theorem dX11_count_109 : decode cX11_count 109 = .ok (.getfield 257, 3) := eX11_count_32.2.2.2.2.2.2.1
theorem dX11_count_112 : decode cX11_count 112 = .ok (.ireturn, 1) := eX11_count_32.2.2.2.2.2.2.2
theorem eX11_count_40 : (decode cX11_count 113 = .ok (.aload_n 0, 1)) ∧ (decode cX11_count 114 = .ok (.getfield 269, 3)) ∧ (decode cX11_count 117 = .ok (.ireturn, 1)) ∧ (decode cX11_count 118 = .ok (.aload_n 0, 1)) ∧ (decode cX11_count 119 = .ok (.getfield 228, 3)) ∧ (decode cX11_count 122 = .ok (.ireturn, 1)) ∧ (decode cX11_count 123 = .ok (.aload_n 0, 1)) ∧ (decode cX11_count 124 = .ok (.getfield 272, 3)) := by decide +kernel
theorem dX11_count_113 : decode cX11_count 113 = .ok (.aload_n 0, 1) := eX11_count_40.1
theorem dX11_count_114 : decode cX11_count 114 = .ok (.getfield 269, 3) := eX11_count_40.2.1
theorem dX11_count_117 : decode cX11_count 117 = .ok (.ireturn, 1) := eX11_count_40.2.2.1
theorem dX11_count_118 : decode cX11_count 118 = .ok (.aload_n 0, 1) := eX11_count_40.2.2.2.1
theorem dX11_count_119 : decode cX11_count 119 = .ok (.getfield 228, 3) := eX11_count_40.2.2.2.2.1
theorem dX11_count_122 : decode cX11_count 122 = .ok (.ireturn, 1) := eX11_count_40.2.2.2.2.2.1
theorem dX11_count_123 : decode cX11_count 123 = .ok (.aload_n 0, 1) := eX11_count_40.2.2.2.2.2.2.1
theorem dX11_count_124 : decode cX11_count 124 = .ok (.getfield 272, 3) := eX11_count_40.2.2.2.2.2.2.2
theorem eX11_count_48 : (decode cX11_count 127 = .ok (.ireturn, 1)) ∧ (decode cX11_count 128 = .ok (.aload_n 0, 1)) ∧ (decode cX11_count 129 = .ok (.getfield 359, 3)) ∧ (decode cX11_count 132 = .ok (.ifCond .eq 10, 3)) ∧ (decode cX11_count 135 = .ok (.aload_n 0, 1)) ∧ (decode cX11_count 136 = .ok (.getfield 365, 3)) ∧ (decode cX11_count 139 = .ok (.goto 4, 3)) ∧ (decode cX11_count 142 = .ok (.iconst (-1), 1)) := by decide +kernel
theorem dX11_count_127 : decode cX11_count 127 = .ok (.ireturn, 1) := eX11_count_48.1
theorem dX11_count_128 : decode cX11_count 128 = .ok (.aload_n 0, 1) := eX11_count_48.2.1
theorem dX11_count_129 : decode cX11_count 129 = .ok (.getfield 359, 3) := eX11_count_48.2.2.1
theorem dX11_count_132 : decode cX11_count 132 = .ok (.ifCond .eq 10, 3) := eX11_count_48.2.2.2.1
theorem dX11_count_135 : decode cX11_count 135 = .ok (.aload_n 0, 1) := eX11_count_48.2.2.2.2.1
theorem dX11_count_136 : decode cX11_count 136 = .ok (.getfield 365, 3) := eX11_count_48.2.2.2.2.2.1
theorem dX11_count_139 : decode cX11_count 139 = .ok (.goto 4, 3) := eX11_count_48.2.2.2.2.2.2.1
theorem dX11_count_142 : decode cX11_count 142 = .ok (.iconst (-1), 1) := eX11_count_48.2.2.2.2.2.2.2
theorem eX11_count_56 : (decode cX11_count 143 = .ok (.ireturn, 1)) ∧ (decode cX11_count 144 = .ok (.iconst (-1), 1)) ∧ (decode cX11_count 145 = .ok (.ireturn, 1)) := by decide +kernel
theorem dX11_count_143 : decode cX11_count 143 = .ok (.ireturn, 1) := eX11_count_56.1
theorem dX11_count_144 : decode cX11_count 144 = .ok (.iconst (-1), 1) := eX11_count_56.2.1
theorem dX11_count_145 : decode cX11_count 145 = .ok (.ireturn, 1) := eX11_count_56.2.2
theorem eX11_status_0 : (decode cX11_status 0 = .ok (.aload_n 0, 1)) ∧ (decode cX11_status 1 = .ok (.iconst 0, 1)) ∧ (decode cX11_status 2 = .ok (.putfield 144, 3)) ∧ (decode cX11_status 5 = .ok (.aload_n 0, 1)) ∧ (decode cX11_status 6 = .ok (.getfield 147, 3)) ∧ (decode cX11_status 9 = .ok (.ireturn, 1)) := by decide +kernel
theorem dX11_status_0 : decode cX11_status 0 = .ok (.aload_n 0, 1) := eX11_status_0.1
theorem dX11_status_1 : decode cX11_status 1 = .ok (.iconst 0, 1) := eX11_status_0.2.1
theorem dX11_status_2 : decode cX11_status 2 = .ok (.putfield 144, 3) := eX11_status_0.2.2.1
theorem dX11_status_5 : decode cX11_status 5 = .ok (.aload_n 0, 1) := eX11_status_0.2.2.2.1
theorem dX11_status_6 : decode cX11_status 6 = .ok (.getfield 147, 3) := eX11_status_0.2.2.2.2.1
theorem dX11_status_9 : decode cX11_status 9 = .ok (.ireturn, 1) := eX11_status_0.2.2.2.2.2
