set_option maxRecDepth 100000 in
theorem am_ck_131 : (am_cd 131).all (am_ichk 131) = true := by decide +kernel
set_option maxRecDepth 100000 in
theorem am_ck_132 : (am_cd 132).all (am_ichk 132) = true := by decide +kernel
set_option maxRecDepth 100000 in
theorem am_ck_133 : (am_cd 133).all (am_ichk 133) = true := by decide +kernel
set_option maxRecDepth 100000 in
theorem am_ck_134 : (am_cd 134).all (am_ichk 134) = true := by decide +kernel
set_option maxRecDepth 100000 in
theorem am_ck_135 : (am_cd 135).all (am_ichk 135) = true := by decide +kernel
set_option maxRecDepth 100000 in
theorem am_ck_136 : (am_cd 136).all (am_ichk 136) = true := by decide +kernel
set_option maxRecDepth 100000 in
theorem am_ck_137 : (am_cd 137).all (am_ichk 137) = true := by decide +kernel
set_option maxRecDepth 100000 in
theorem am_ck_138 : (am_cd 138).all (am_ichk 138) = true := by decide +kernel
set_option maxRecDepth 100000 in
theorem am_ck_139 : (am_cd 139).all (am_ichk 139) = true := by decide +kernel
set_option maxRecDepth 100000 in
theorem am_ck_140 : (am_cd 140).all (am_ichk 140) = true := by decide +kernel
set_option maxRecDepth 100000 in
theorem am_ck_141 : (am_cd 141).all (am_ichk 141) = true := by decide +kernel
set_option maxRecDepth 100000 in
theorem am_ck_142 : (am_cd 142).all (am_ichk 142) = true := by decide +kernel
set_option maxRecDepth 100000 in
theorem am_ck_143 : (am_cd 143).all (am_ichk 143) = true := by decide +kernel
set_option maxRecDepth 100000 in
theorem am_ck_144 : (am_cd 144).all (am_ichk 144) = true := by decide +kernel
set_option maxRecDepth 100000 in
theorem am_ck_145 : (am_cd 145).all (am_ichk 145) = true := by decide +kernel
set_option maxRecDepth 100000 in
theorem am_ck_146 : (am_cd 146).all (am_ichk 146) = true := by decide +kernel
set_option maxRecDepth 100000 in
theorem am_ck_147 : (am_cd 147).all (am_ichk 147) = true := by decide +kernel
set_option maxRecDepth 100000 in
theorem am_ck_148 : (am_cd 148).all (am_ichk 148) = true := by decide +kernel
set_option maxRecDepth 100000 in
theorem am_ck_149 : (am_cd 149).all (am_ichk 149) = true := by decide +kernel
set_option maxRecDepth 100000 in
theorem am_ck_150 : (am_cd 150).all (am_ichk 150) = true := by decide +kernel
set_option maxRecDepth 100000 in
theorem am_ck_151 : (am_cd 151).all (am_ichk 151) = true := by decide +kernel
set_option maxRecDepth 100000 in
theorem am_ck_152 : (am_cd 152).all (am_ichk 152) = true := by decide +kernel
set_option maxRecDepth 100000 in
theorem am_ck_153 : (am_cd 153).all (am_ichk 153) = true := by decide +kernel
set_option maxRecDepth 100000 in
theorem am_ck_154 : (am_cd 154).all (am_ichk 154) = true := by decide +kernel
set_option maxRecDepth 100000 in
theorem am_ck_155 : (am_cd 155).all (am_ichk 155) = true := by decide +kernel
set_option maxRecDepth 100000 in
theorem am_ck_156 : (am_cd 156).all (am_ichk 156) = true := by decide +kernel
set_option maxRecDepth 100000 in
theorem am_ck_157 : (am_cd 157).all (am_ichk 157) = true := by decide +kernel
set_option maxRecDepth 100000 in
theorem am_ck_158 : (am_cd 158).all (am_ichk 158) = true := by decide +kernel
set_option maxRecDepth 100000 in
theorem am_ck_159 : (am_cd 159).all (am_ichk 159) = true := by decide +kernel
set_option maxRecDepth 100000 in
theorem am_ck_160 : (am_cd 160).all (am_ichk 160) = true := by decide +kernel
set_option maxRecDepth 100000 in
theorem am_ck_161 : (am_cd 161).all (am_ichk 161) = true := by decide +kernel
set_option maxRecDepth 100000 in
theorem am_ck_162 : (am_cd 162).all (am_ichk 162) = true := by decide +kernel
set_option maxRecDepth 100000 in
theorem am_ck_163 : (am_cd 163).all (am_ichk 163) = true := by decide +kernel
set_option maxRecDepth 100000 in
theorem am_ck_164 : (am_cd 164).all (am_ichk 164) = true := by decide +kernel
set_option maxRecDepth 100000 in
theorem am_ck_165 : (am_cd 165).all (am_ichk 165) = true := by decide +kernel
set_option maxRecDepth 100000 in
theorem am_ck_166 : (am_cd 166).all (am_ichk 166) = true := by decide +kernel
set_option maxRecDepth 100000 in
theorem am_ck_167 : (am_cd 167).all (am_ichk 167) = true := by decide +kernel
set_option maxRecDepth 100000 in
theorem am_ck_168 : (am_cd 168).all (am_ichk 168) = true := by decide +kernel
set_option maxRecDepth 100000 in
theorem am_ck_169 : (am_cd 169).all (am_ichk 169) = true := by decide +kernel
set_option maxRecDepth 100000 in
theorem am_ck_170 : (am_cd 170).all (am_ichk 170) = true := by decide +kernel
set_option maxRecDepth 100000 in
theorem am_ck_171 : (am_cd 171).all (am_ichk 171) = true := by decide +kernel
set_option maxRecDepth 100000 in
theorem am_ck_172 : (am_cd 172).all (am_ichk 172) = true := by decide +kernel
set_option maxRecDepth 100000 in
theorem am_ck_173 : (am_cd 173).all (am_ichk 173) = true := by decide +kernel
set_option maxRecDepth 100000 in
theorem am_ck_174 : (am_cd 174).all (am_ichk 174) = true := by decide +kernel
set_option maxRecDepth 100000 in
theorem am_ck_175 : (am_cd 175).all (am_ichk 175) = true := by decide +kernel
set_option maxRecDepth 100000 in
theorem am_ck_176 : (am_cd 176).all (am_ichk 176) = true := by decide +kernel
set_option maxRecDepth 100000 in
theorem am_ck_177 : (am_cd 177).all (am_ichk 177) = true := by decide +kernel
set_option maxRecDepth 100000 in
theorem am_ck_178 : (am_cd 178).all (am_ichk 178) = true := by decide +kernel
set_option maxRecDepth 100000 in
theorem am_ck_179 : (am_cd 179).all (am_ichk 179) = true := by decide +kernel
set_option maxRecDepth 100000 in
theorem am_ck_180 : (am_cd 180).all (am_ichk 180) = true := by decide +kernel
set_option maxRecDepth 100000 in
theorem am_ck_181 : (am_cd 181).all (am_ichk 181) = true := by decide +kernel
set_option maxRecDepth 100000 in
theorem am_ck_182 : (am_cd 182).all (am_ichk 182) = true := by decide +kernel
set_option maxRecDepth 100000 in
theorem am_ck_183 : (am_cd 183).all (am_ichk 183) = true := by decide +kernel
set_option maxRecDepth 100000 in
theorem am_ck_184 : (am_cd 184).all (am_ichk 184) = true := by decide +kernel
set_option maxRecDepth 100000 in
theorem am_ck_185 : (am_cd 185).all (am_ichk 185) = true := by decide +kernel
set_option maxRecDepth 100000 in
theorem am_ck_186 : (am_cd 186).all (am_ichk 186) = true := by decide +kernel
set_option maxRecDepth 100000 in
theorem am_ck_187 : (am_cd 187).all (am_ichk 187) = true := by decide +kernel
set_option maxRecDepth 100000 in
theorem am_ck_188 : (am_cd 188).all (am_ichk 188) = true := by decide +kernel
set_option maxRecDepth 100000 in
theorem am_ck_189 : (am_cd 189).all (am_ichk 189) = true := by decide +kernel
set_option maxRecDepth 100000 in
theorem am_ck_190 : (am_cd 190).all (am_ichk 190) = true := by decide +kernel
set_option maxRecDepth 100000 in
theorem am_ck_191 : (am_cd 191).all (am_ichk 191) = true := by decide +kernel
set_option maxRecDepth 100000 in
theorem am_ck_192 : (am_cd 192).all (am_ichk 192) = true := by decide +kernel
set_option maxRecDepth 100000 in
theorem am_ck_193 : (am_cd 193).all (am_ichk 193) = true := by decide +kernel
set_option maxRecDepth 100000 in
theorem am_ck_194 : (am_cd 194).all (am_ichk 194) = true := by decide +kernel
set_option maxRecDepth 100000 in
theorem am_ck_195 : (am_cd 195).all (am_ichk 195) = true := by decide +kernel
set_option maxRecDepth 100000 in
theorem am_ck_196 : (am_cd 196).all (am_ichk 196) = true := by decide +kernel
set_option maxRecDepth 100000 in
theorem am_ck_197 : (am_cd 197).all (am_ichk 197) = true := by decide +kernel
set_option maxRecDepth 100000 in
theorem am_ck_198 : (am_cd 198).all (am_ichk 198) = true := by decide +kernel
set_option maxRecDepth 100000 in
theorem am_ck_199 : (am_cd 199).all (am_ichk 199) = true := by decide +kernel
set_option maxRecDepth 100000 in
theorem am_ck_200 : (am_cd 200).all (am_ichk 200) = true := by decide +kernel
set_option maxRecDepth 100000 in
theorem am_ck_201 : (am_cd 201).all (am_ichk 201) = true := by decide +kernel
set_option maxRecDepth 100000 in
theorem am_ck_202 : (am_cd 202).all (am_ichk 202) = true := by decide +kernel
set_option maxRecDepth 100000 in
theorem am_ck_203 : (am_cd 203).all (am_ichk 203) = true := by decide +kernel
set_option maxRecDepth 100000 in
theorem am_ck_204 : (am_cd 204).all (am_ichk 204) = true := by decide +kernel
