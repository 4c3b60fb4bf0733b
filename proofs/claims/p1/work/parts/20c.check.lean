/-! THE CHECKS of the methods from 144 on. -/
set_option maxRecDepth 100000 in
theorem e_c144 : v_all 144 (e_pg 144) (e_hg 144) = true := by decide +kernel
set_option maxRecDepth 100000 in
theorem e_n144 : v_mt 144 = true := by decide +kernel
set_option maxRecDepth 100000 in
theorem e_c145 : v_all 145 (e_pg 145) (e_hg 145) = true := by decide +kernel
set_option maxRecDepth 100000 in
theorem e_n145 : v_mt 145 = true := by decide +kernel
set_option maxRecDepth 100000 in
theorem e_c146 : v_all 146 (e_pg 146) (e_hg 146) = true := by decide +kernel
set_option maxRecDepth 100000 in
theorem e_n146 : v_mt 146 = true := by decide +kernel
set_option maxRecDepth 100000 in
theorem e_c147 : v_all 147 (e_pg 147) (e_hg 147) = true := by decide +kernel
set_option maxRecDepth 100000 in
theorem e_n147 : v_mt 147 = true := by decide +kernel
set_option maxRecDepth 100000 in
theorem e_c148 : v_all 148 (e_pg 148) (e_hg 148) = true := by decide +kernel
set_option maxRecDepth 100000 in
theorem e_n148 : v_mt 148 = true := by decide +kernel
set_option maxRecDepth 100000 in
theorem e_c149 : v_all 149 (e_pg 149) (e_hg 149) = true := by decide +kernel
set_option maxRecDepth 100000 in
theorem e_n149 : v_mt 149 = true := by decide +kernel
set_option maxRecDepth 100000 in
theorem e_c150 : v_all 150 (e_pg 150) (e_hg 150) = true := by decide +kernel
set_option maxRecDepth 100000 in
theorem e_n150 : v_mt 150 = true := by decide +kernel
set_option maxRecDepth 100000 in
theorem e_c151 : v_all 151 (e_pg 151) (e_hg 151) = true := by decide +kernel
set_option maxRecDepth 100000 in
theorem e_n151 : v_mt 151 = true := by decide +kernel
set_option maxRecDepth 100000 in
theorem e_c152 : v_all 152 (e_pg 152) (e_hg 152) = true := by decide +kernel
set_option maxRecDepth 100000 in
theorem e_n152 : v_mt 152 = true := by decide +kernel
set_option maxRecDepth 100000 in
theorem e_c153 : v_all 153 (e_pg 153) (e_hg 153) = true := by decide +kernel
set_option maxRecDepth 100000 in
theorem e_n153 : v_mt 153 = true := by decide +kernel
set_option maxRecDepth 100000 in
theorem e_c154 : v_all 154 (e_pg 154) (e_hg 154) = true := by decide +kernel
set_option maxRecDepth 100000 in
theorem e_n154 : v_mt 154 = true := by decide +kernel
set_option maxRecDepth 100000 in
theorem e_c155 : v_all 155 (e_pg 155) (e_hg 155) = true := by decide +kernel
set_option maxRecDepth 100000 in
theorem e_n155 : v_mt 155 = true := by decide +kernel
set_option maxRecDepth 100000 in
theorem e_c156 : v_all 156 (e_pg 156) (e_hg 156) = true := by decide +kernel
set_option maxRecDepth 100000 in
theorem e_n156 : v_mt 156 = true := by decide +kernel
set_option maxRecDepth 100000 in
theorem e_c157 : v_all 157 (e_pg 157) (e_hg 157) = true := by decide +kernel
set_option maxRecDepth 100000 in
theorem e_n157 : v_mt 157 = true := by decide +kernel
set_option maxRecDepth 100000 in
theorem e_c158 : v_all 158 (e_pg 158) (e_hg 158) = true := by decide +kernel
set_option maxRecDepth 100000 in
theorem e_n158 : v_mt 158 = true := by decide +kernel
set_option maxRecDepth 100000 in
theorem e_c159 : v_all 159 (e_pg 159) (e_hg 159) = true := by decide +kernel
set_option maxRecDepth 100000 in
theorem e_n159 : v_mt 159 = true := by decide +kernel
set_option maxRecDepth 100000 in
theorem e_c160 : v_all 160 (e_pg 160) (e_hg 160) = true := by decide +kernel
set_option maxRecDepth 100000 in
theorem e_n160 : v_mt 160 = true := by decide +kernel
set_option maxRecDepth 100000 in
theorem e_c161 : v_all 161 (e_pg 161) (e_hg 161) = true := by decide +kernel
set_option maxRecDepth 100000 in
theorem e_n161 : v_mt 161 = true := by decide +kernel
set_option maxRecDepth 100000 in
theorem e_c162 : v_all 162 (e_pg 162) (e_hg 162) = true := by decide +kernel
set_option maxRecDepth 100000 in
theorem e_n162 : v_mt 162 = true := by decide +kernel
set_option maxRecDepth 100000 in
theorem e_c163 : v_all 163 (e_pg 163) (e_hg 163) = true := by decide +kernel
set_option maxRecDepth 100000 in
theorem e_n163 : v_mt 163 = true := by decide +kernel
set_option maxRecDepth 100000 in
theorem e_c164 : v_all 164 (e_pg 164) (e_hg 164) = true := by decide +kernel
set_option maxRecDepth 100000 in
theorem e_n164 : v_mt 164 = true := by decide +kernel
set_option maxRecDepth 100000 in
theorem e_c165 : v_all 165 (e_pg 165) (e_hg 165) = true := by decide +kernel
set_option maxRecDepth 100000 in
theorem e_n165 : v_mt 165 = true := by decide +kernel
set_option maxRecDepth 100000 in
theorem e_c166 : v_all 166 (e_pg 166) (e_hg 166) = true := by decide +kernel
set_option maxRecDepth 100000 in
theorem e_n166 : v_mt 166 = true := by decide +kernel
set_option maxRecDepth 100000 in
theorem e_c167 : v_all 167 (e_pg 167) (e_hg 167) = true := by decide +kernel
set_option maxRecDepth 100000 in
theorem e_n167 : v_mt 167 = true := by decide +kernel
set_option maxRecDepth 100000 in
theorem e_c168 : v_all 168 (e_pg 168) (e_hg 168) = true := by decide +kernel
set_option maxRecDepth 100000 in
theorem e_n168 : v_mt 168 = true := by decide +kernel
set_option maxRecDepth 100000 in
theorem e_c169 : v_all 169 (e_pg 169) (e_hg 169) = true := by decide +kernel
set_option maxRecDepth 100000 in
theorem e_n169 : v_mt 169 = true := by decide +kernel
set_option maxRecDepth 100000 in
theorem e_c170 : v_all 170 (e_pg 170) (e_hg 170) = true := by decide +kernel
set_option maxRecDepth 100000 in
theorem e_n170 : v_mt 170 = true := by decide +kernel
set_option maxRecDepth 100000 in
theorem e_c171 : v_all 171 (e_pg 171) (e_hg 171) = true := by decide +kernel
set_option maxRecDepth 100000 in
theorem e_n171 : v_mt 171 = true := by decide +kernel
set_option maxRecDepth 100000 in
theorem e_c172 : v_all 172 (e_pg 172) (e_hg 172) = true := by decide +kernel
set_option maxRecDepth 100000 in
theorem e_n172 : v_mt 172 = true := by decide +kernel
set_option maxRecDepth 100000 in
theorem e_c173 : v_all 173 (e_pg 173) (e_hg 173) = true := by decide +kernel
set_option maxRecDepth 100000 in
theorem e_n173 : v_mt 173 = true := by decide +kernel
set_option maxRecDepth 100000 in
theorem e_c174 : v_all 174 (e_pg 174) (e_hg 174) = true := by decide +kernel
set_option maxRecDepth 100000 in
theorem e_n174 : v_mt 174 = true := by decide +kernel
set_option maxRecDepth 100000 in
theorem e_c175 : v_all 175 (e_pg 175) (e_hg 175) = true := by decide +kernel
set_option maxRecDepth 100000 in
theorem e_n175 : v_mt 175 = true := by decide +kernel
set_option maxRecDepth 100000 in
theorem e_c176 : v_all 176 (e_pg 176) (e_hg 176) = true := by decide +kernel
set_option maxRecDepth 100000 in
theorem e_n176 : v_mt 176 = true := by decide +kernel
set_option maxRecDepth 100000 in
theorem e_c177 : v_all 177 (e_pg 177) (e_hg 177) = true := by decide +kernel
set_option maxRecDepth 100000 in
theorem e_n177 : v_mt 177 = true := by decide +kernel
set_option maxRecDepth 100000 in
theorem e_c178 : v_all 178 (e_pg 178) (e_hg 178) = true := by decide +kernel
set_option maxRecDepth 100000 in
theorem e_n178 : v_mt 178 = true := by decide +kernel
set_option maxRecDepth 100000 in
theorem e_c179 : v_all 179 (e_pg 179) (e_hg 179) = true := by decide +kernel
set_option maxRecDepth 100000 in
theorem e_n179 : v_mt 179 = true := by decide +kernel
set_option maxRecDepth 100000 in
theorem e_c180 : v_all 180 (e_pg 180) (e_hg 180) = true := by decide +kernel
set_option maxRecDepth 100000 in
theorem e_n180 : v_mt 180 = true := by decide +kernel
set_option maxRecDepth 100000 in
theorem e_c181 : v_all 181 (e_pg 181) (e_hg 181) = true := by decide +kernel
set_option maxRecDepth 100000 in
theorem e_n181 : v_mt 181 = true := by decide +kernel
set_option maxRecDepth 100000 in
theorem e_c182 : v_all 182 (e_pg 182) (e_hg 182) = true := by decide +kernel
set_option maxRecDepth 100000 in
theorem e_n182 : v_mt 182 = true := by decide +kernel
set_option maxRecDepth 100000 in
theorem e_c183 : v_all 183 (e_pg 183) (e_hg 183) = true := by decide +kernel
set_option maxRecDepth 100000 in
theorem e_n183 : v_mt 183 = true := by decide +kernel
set_option maxRecDepth 100000 in
theorem e_c184 : v_all 184 (e_pg 184) (e_hg 184) = true := by decide +kernel
set_option maxRecDepth 100000 in
theorem e_n184 : v_mt 184 = true := by decide +kernel
set_option maxRecDepth 100000 in
theorem e_c185 : v_all 185 (e_pg 185) (e_hg 185) = true := by decide +kernel
set_option maxRecDepth 100000 in
theorem e_n185 : v_mt 185 = true := by decide +kernel
set_option maxRecDepth 100000 in
theorem e_c186 : v_all 186 (e_pg 186) (e_hg 186) = true := by decide +kernel
set_option maxRecDepth 100000 in
theorem e_n186 : v_mt 186 = true := by decide +kernel
set_option maxRecDepth 100000 in
theorem e_c187 : v_all 187 (e_pg 187) (e_hg 187) = true := by decide +kernel
set_option maxRecDepth 100000 in
theorem e_n187 : v_mt 187 = true := by decide +kernel
set_option maxRecDepth 100000 in
theorem e_c188 : v_all 188 (e_pg 188) (e_hg 188) = true := by decide +kernel
set_option maxRecDepth 100000 in
theorem e_n188 : v_mt 188 = true := by decide +kernel
set_option maxRecDepth 100000 in
theorem e_c189 : v_all 189 (e_pg 189) (e_hg 189) = true := by decide +kernel
set_option maxRecDepth 100000 in
theorem e_n189 : v_mt 189 = true := by decide +kernel
set_option maxRecDepth 100000 in
theorem e_c190 : v_all 190 (e_pg 190) (e_hg 190) = true := by decide +kernel
set_option maxRecDepth 100000 in
theorem e_n190 : v_mt 190 = true := by decide +kernel
set_option maxRecDepth 100000 in
theorem e_c191 : v_all 191 (e_pg 191) (e_hg 191) = true := by decide +kernel
set_option maxRecDepth 100000 in
theorem e_n191 : v_mt 191 = true := by decide +kernel
set_option maxRecDepth 100000 in
theorem e_c192 : v_all 192 (e_pg 192) (e_hg 192) = true := by decide +kernel
set_option maxRecDepth 100000 in
theorem e_n192 : v_mt 192 = true := by decide +kernel
set_option maxRecDepth 100000 in
theorem e_c193 : v_all 193 (e_pg 193) (e_hg 193) = true := by decide +kernel
set_option maxRecDepth 100000 in
theorem e_n193 : v_mt 193 = true := by decide +kernel
set_option maxRecDepth 100000 in
theorem e_c194 : v_all 194 (e_pg 194) (e_hg 194) = true := by decide +kernel
set_option maxRecDepth 100000 in
theorem e_n194 : v_mt 194 = true := by decide +kernel
set_option maxRecDepth 100000 in
theorem e_c195 : v_all 195 (e_pg 195) (e_hg 195) = true := by decide +kernel
set_option maxRecDepth 100000 in
theorem e_n195 : v_mt 195 = true := by decide +kernel
set_option maxRecDepth 100000 in
theorem e_c196 : v_all 196 (e_pg 196) (e_hg 196) = true := by decide +kernel
set_option maxRecDepth 100000 in
theorem e_n196 : v_mt 196 = true := by decide +kernel
set_option maxRecDepth 100000 in
theorem e_c197 : v_all 197 (e_pg 197) (e_hg 197) = true := by decide +kernel
set_option maxRecDepth 100000 in
theorem e_n197 : v_mt 197 = true := by decide +kernel
set_option maxRecDepth 100000 in
theorem e_c198 : v_all 198 (e_pg 198) (e_hg 198) = true := by decide +kernel
set_option maxRecDepth 100000 in
theorem e_n198 : v_mt 198 = true := by decide +kernel
set_option maxRecDepth 100000 in
theorem e_c199 : v_all 199 (e_pg 199) (e_hg 199) = true := by decide +kernel
set_option maxRecDepth 100000 in
theorem e_n199 : v_mt 199 = true := by decide +kernel
set_option maxRecDepth 100000 in
theorem e_c200 : v_all 200 (e_pg 200) (e_hg 200) = true := by decide +kernel
set_option maxRecDepth 100000 in
theorem e_n200 : v_mt 200 = true := by decide +kernel
set_option maxRecDepth 100000 in
theorem e_c201 : v_all 201 (e_pg 201) (e_hg 201) = true := by decide +kernel
set_option maxRecDepth 100000 in
theorem e_n201 : v_mt 201 = true := by decide +kernel
set_option maxRecDepth 100000 in
theorem e_c202 : v_all 202 (e_pg 202) (e_hg 202) = true := by decide +kernel
set_option maxRecDepth 100000 in
theorem e_n202 : v_mt 202 = true := by decide +kernel
set_option maxRecDepth 100000 in
theorem e_c203 : v_all 203 (e_pg 203) (e_hg 203) = true := by decide +kernel
set_option maxRecDepth 100000 in
theorem e_n203 : v_mt 203 = true := by decide +kernel
set_option maxRecDepth 100000 in
theorem e_c204 : v_all 204 (e_pg 204) (e_hg 204) = true := by decide +kernel
set_option maxRecDepth 100000 in
theorem e_n204 : v_mt 204 = true := by decide +kernel
set_option maxRecDepth 100000 in
theorem e_c205 : v_all 205 (e_pg 205) (e_hg 205) = true := by decide +kernel
set_option maxRecDepth 100000 in
theorem e_n205 : v_mt 205 = true := by decide +kernel
set_option maxRecDepth 100000 in
theorem e_c206 : v_all 206 (e_pg 206) (e_hg 206) = true := by decide +kernel
set_option maxRecDepth 100000 in
theorem e_n206 : v_mt 206 = true := by decide +kernel
set_option maxRecDepth 100000 in
theorem e_c207 : v_all 207 (e_pg 207) (e_hg 207) = true := by decide +kernel
set_option maxRecDepth 100000 in
theorem e_n207 : v_mt 207 = true := by decide +kernel
set_option maxRecDepth 100000 in
theorem e_c208 : v_all 208 (e_pg 208) (e_hg 208) = true := by decide +kernel
set_option maxRecDepth 100000 in
theorem e_n208 : v_mt 208 = true := by decide +kernel
set_option maxRecDepth 100000 in
theorem e_c209 : v_all 209 (e_pg 209) (e_hg 209) = true := by decide +kernel
set_option maxRecDepth 100000 in
theorem e_n209 : v_mt 209 = true := by decide +kernel
set_option maxRecDepth 100000 in
theorem e_c210 : v_all 210 (e_pg 210) (e_hg 210) = true := by decide +kernel
set_option maxRecDepth 100000 in
theorem e_n210 : v_mt 210 = true := by decide +kernel
set_option maxRecDepth 100000 in
theorem e_c211 : v_all 211 (e_pg 211) (e_hg 211) = true := by decide +kernel
set_option maxRecDepth 100000 in
theorem e_n211 : v_mt 211 = true := by decide +kernel
set_option maxRecDepth 100000 in
theorem e_c212 : v_all 212 (e_pg 212) (e_hg 212) = true := by decide +kernel
set_option maxRecDepth 100000 in
theorem e_n212 : v_mt 212 = true := by decide +kernel
set_option maxRecDepth 100000 in
theorem e_c213 : v_all 213 (e_pg 213) (e_hg 213) = true := by decide +kernel
set_option maxRecDepth 100000 in
theorem e_n213 : v_mt 213 = true := by decide +kernel
set_option maxRecDepth 100000 in
theorem e_c214 : v_all 214 (e_pg 214) (e_hg 214) = true := by decide +kernel
set_option maxRecDepth 100000 in
theorem e_n214 : v_mt 214 = true := by decide +kernel
set_option maxRecDepth 100000 in
theorem e_c215 : v_all 215 (e_pg 215) (e_hg 215) = true := by decide +kernel
set_option maxRecDepth 100000 in
theorem e_n215 : v_mt 215 = true := by decide +kernel
