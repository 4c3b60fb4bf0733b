/-! THE CHECKS together. -/
set_option maxRecDepth 100000 in
theorem e_dd42 : v_all 0 (e_p0.drop 1680) (e_h0.drop 1680) = true := v_seg_s 16 _ _ e_d42 (by rw [List.drop_drop, List.drop_drop]; decide +kernel)
theorem e_dd41 : v_all 0 (e_p0.drop 1640) (e_h0.drop 1640) = true := v_seg_s 40 _ _ e_d41 (by rw [List.drop_drop, List.drop_drop]; exact e_dd42)
theorem e_dd40 : v_all 0 (e_p0.drop 1600) (e_h0.drop 1600) = true := v_seg_s 40 _ _ e_d40 (by rw [List.drop_drop, List.drop_drop]; exact e_dd41)
theorem e_dd39 : v_all 0 (e_p0.drop 1560) (e_h0.drop 1560) = true := v_seg_s 40 _ _ e_d39 (by rw [List.drop_drop, List.drop_drop]; exact e_dd40)
theorem e_dd38 : v_all 0 (e_p0.drop 1520) (e_h0.drop 1520) = true := v_seg_s 40 _ _ e_d38 (by rw [List.drop_drop, List.drop_drop]; exact e_dd39)
theorem e_dd37 : v_all 0 (e_p0.drop 1480) (e_h0.drop 1480) = true := v_seg_s 40 _ _ e_d37 (by rw [List.drop_drop, List.drop_drop]; exact e_dd38)
theorem e_dd36 : v_all 0 (e_p0.drop 1440) (e_h0.drop 1440) = true := v_seg_s 40 _ _ e_d36 (by rw [List.drop_drop, List.drop_drop]; exact e_dd37)
theorem e_dd35 : v_all 0 (e_p0.drop 1400) (e_h0.drop 1400) = true := v_seg_s 40 _ _ e_d35 (by rw [List.drop_drop, List.drop_drop]; exact e_dd36)
theorem e_dd34 : v_all 0 (e_p0.drop 1360) (e_h0.drop 1360) = true := v_seg_s 40 _ _ e_d34 (by rw [List.drop_drop, List.drop_drop]; exact e_dd35)
theorem e_dd33 : v_all 0 (e_p0.drop 1320) (e_h0.drop 1320) = true := v_seg_s 40 _ _ e_d33 (by rw [List.drop_drop, List.drop_drop]; exact e_dd34)
theorem e_dd32 : v_all 0 (e_p0.drop 1280) (e_h0.drop 1280) = true := v_seg_s 40 _ _ e_d32 (by rw [List.drop_drop, List.drop_drop]; exact e_dd33)
theorem e_dd31 : v_all 0 (e_p0.drop 1240) (e_h0.drop 1240) = true := v_seg_s 40 _ _ e_d31 (by rw [List.drop_drop, List.drop_drop]; exact e_dd32)
theorem e_dd30 : v_all 0 (e_p0.drop 1200) (e_h0.drop 1200) = true := v_seg_s 40 _ _ e_d30 (by rw [List.drop_drop, List.drop_drop]; exact e_dd31)
theorem e_dd29 : v_all 0 (e_p0.drop 1160) (e_h0.drop 1160) = true := v_seg_s 40 _ _ e_d29 (by rw [List.drop_drop, List.drop_drop]; exact e_dd30)
theorem e_dd28 : v_all 0 (e_p0.drop 1120) (e_h0.drop 1120) = true := v_seg_s 40 _ _ e_d28 (by rw [List.drop_drop, List.drop_drop]; exact e_dd29)
theorem e_dd27 : v_all 0 (e_p0.drop 1080) (e_h0.drop 1080) = true := v_seg_s 40 _ _ e_d27 (by rw [List.drop_drop, List.drop_drop]; exact e_dd28)
theorem e_dd26 : v_all 0 (e_p0.drop 1040) (e_h0.drop 1040) = true := v_seg_s 40 _ _ e_d26 (by rw [List.drop_drop, List.drop_drop]; exact e_dd27)
theorem e_dd25 : v_all 0 (e_p0.drop 1000) (e_h0.drop 1000) = true := v_seg_s 40 _ _ e_d25 (by rw [List.drop_drop, List.drop_drop]; exact e_dd26)
theorem e_dd24 : v_all 0 (e_p0.drop 960) (e_h0.drop 960) = true := v_seg_s 40 _ _ e_d24 (by rw [List.drop_drop, List.drop_drop]; exact e_dd25)
theorem e_dd23 : v_all 0 (e_p0.drop 920) (e_h0.drop 920) = true := v_seg_s 40 _ _ e_d23 (by rw [List.drop_drop, List.drop_drop]; exact e_dd24)
theorem e_dd22 : v_all 0 (e_p0.drop 880) (e_h0.drop 880) = true := v_seg_s 40 _ _ e_d22 (by rw [List.drop_drop, List.drop_drop]; exact e_dd23)
theorem e_dd21 : v_all 0 (e_p0.drop 840) (e_h0.drop 840) = true := v_seg_s 40 _ _ e_d21 (by rw [List.drop_drop, List.drop_drop]; exact e_dd22)
theorem e_dd20 : v_all 0 (e_p0.drop 800) (e_h0.drop 800) = true := v_seg_s 40 _ _ e_d20 (by rw [List.drop_drop, List.drop_drop]; exact e_dd21)
theorem e_dd19 : v_all 0 (e_p0.drop 760) (e_h0.drop 760) = true := v_seg_s 40 _ _ e_d19 (by rw [List.drop_drop, List.drop_drop]; exact e_dd20)
theorem e_dd18 : v_all 0 (e_p0.drop 720) (e_h0.drop 720) = true := v_seg_s 40 _ _ e_d18 (by rw [List.drop_drop, List.drop_drop]; exact e_dd19)
theorem e_dd17 : v_all 0 (e_p0.drop 680) (e_h0.drop 680) = true := v_seg_s 40 _ _ e_d17 (by rw [List.drop_drop, List.drop_drop]; exact e_dd18)
theorem e_dd16 : v_all 0 (e_p0.drop 640) (e_h0.drop 640) = true := v_seg_s 40 _ _ e_d16 (by rw [List.drop_drop, List.drop_drop]; exact e_dd17)
theorem e_dd15 : v_all 0 (e_p0.drop 600) (e_h0.drop 600) = true := v_seg_s 40 _ _ e_d15 (by rw [List.drop_drop, List.drop_drop]; exact e_dd16)
theorem e_dd14 : v_all 0 (e_p0.drop 560) (e_h0.drop 560) = true := v_seg_s 40 _ _ e_d14 (by rw [List.drop_drop, List.drop_drop]; exact e_dd15)
theorem e_dd13 : v_all 0 (e_p0.drop 520) (e_h0.drop 520) = true := v_seg_s 40 _ _ e_d13 (by rw [List.drop_drop, List.drop_drop]; exact e_dd14)
theorem e_dd12 : v_all 0 (e_p0.drop 480) (e_h0.drop 480) = true := v_seg_s 40 _ _ e_d12 (by rw [List.drop_drop, List.drop_drop]; exact e_dd13)
theorem e_dd11 : v_all 0 (e_p0.drop 440) (e_h0.drop 440) = true := v_seg_s 40 _ _ e_d11 (by rw [List.drop_drop, List.drop_drop]; exact e_dd12)
theorem e_dd10 : v_all 0 (e_p0.drop 400) (e_h0.drop 400) = true := v_seg_s 40 _ _ e_d10 (by rw [List.drop_drop, List.drop_drop]; exact e_dd11)
theorem e_dd9 : v_all 0 (e_p0.drop 360) (e_h0.drop 360) = true := v_seg_s 40 _ _ e_d9 (by rw [List.drop_drop, List.drop_drop]; exact e_dd10)
theorem e_dd8 : v_all 0 (e_p0.drop 320) (e_h0.drop 320) = true := v_seg_s 40 _ _ e_d8 (by rw [List.drop_drop, List.drop_drop]; exact e_dd9)
theorem e_dd7 : v_all 0 (e_p0.drop 280) (e_h0.drop 280) = true := v_seg_s 40 _ _ e_d7 (by rw [List.drop_drop, List.drop_drop]; exact e_dd8)
theorem e_dd6 : v_all 0 (e_p0.drop 240) (e_h0.drop 240) = true := v_seg_s 40 _ _ e_d6 (by rw [List.drop_drop, List.drop_drop]; exact e_dd7)
theorem e_dd5 : v_all 0 (e_p0.drop 200) (e_h0.drop 200) = true := v_seg_s 40 _ _ e_d5 (by rw [List.drop_drop, List.drop_drop]; exact e_dd6)
theorem e_dd4 : v_all 0 (e_p0.drop 160) (e_h0.drop 160) = true := v_seg_s 40 _ _ e_d4 (by rw [List.drop_drop, List.drop_drop]; exact e_dd5)
theorem e_dd3 : v_all 0 (e_p0.drop 120) (e_h0.drop 120) = true := v_seg_s 40 _ _ e_d3 (by rw [List.drop_drop, List.drop_drop]; exact e_dd4)
theorem e_dd2 : v_all 0 (e_p0.drop 80) (e_h0.drop 80) = true := v_seg_s 40 _ _ e_d2 (by rw [List.drop_drop, List.drop_drop]; exact e_dd3)
theorem e_dd1 : v_all 0 (e_p0.drop 40) (e_h0.drop 40) = true := v_seg_s 40 _ _ e_d1 (by rw [List.drop_drop, List.drop_drop]; exact e_dd2)
theorem e_dd0 : v_all 0 (e_p0.drop 0) (e_h0.drop 0) = true := v_seg_s 40 _ _ e_d0 (by rw [List.drop_drop, List.drop_drop]; exact e_dd1)
set_option maxRecDepth 100000 in
theorem e_g0 : v_rng (fun j => v_all j (e_pg j) (e_hg j)) 0 48 = true := (v_rng_c (show v_all 0 (e_pg 0) (e_hg 0) = true from e_dd0) (v_rng_c e_c1 (v_rng_c e_c2 (v_rng_c e_c3 (v_rng_c e_c4 (v_rng_c e_c5 (v_rng_c e_c6 (v_rng_c e_c7 (v_rng_c e_c8 (v_rng_c e_c9 (v_rng_c e_c10 (v_rng_c e_c11 (v_rng_c e_c12 (v_rng_c e_c13 (v_rng_c e_c14 (v_rng_c e_c15 (v_rng_c e_c16 (v_rng_c e_c17 (v_rng_c e_c18 (v_rng_c e_c19 (v_rng_c e_c20 (v_rng_c e_c21 (v_rng_c e_c22 (v_rng_c e_c23 (v_rng_c e_c24 (v_rng_c e_c25 (v_rng_c e_c26 (v_rng_c e_c27 (v_rng_c e_c28 (v_rng_c e_c29 (v_rng_c e_c30 (v_rng_c e_c31 (v_rng_c e_c32 (v_rng_c e_c33 (v_rng_c e_c34 (v_rng_c e_c35 (v_rng_c e_c36 (v_rng_c e_c37 (v_rng_c e_c38 (v_rng_c e_c39 (v_rng_c e_c40 (v_rng_c e_c41 (v_rng_c e_c42 (v_rng_c e_c43 (v_rng_c e_c44 (v_rng_c e_c45 (v_rng_c e_c46 (v_rng_c e_c47 rfl))))))))))))))))))))))))))))))))))))))))))))))))
set_option maxRecDepth 100000 in
theorem e_g1 : v_rng (fun j => v_all j (e_pg j) (e_hg j)) 48 48 = true := (v_rng_c e_c48 (v_rng_c e_c49 (v_rng_c e_c50 (v_rng_c e_c51 (v_rng_c e_c52 (v_rng_c e_c53 (v_rng_c e_c54 (v_rng_c e_c55 (v_rng_c e_c56 (v_rng_c e_c57 (v_rng_c e_c58 (v_rng_c e_c59 (v_rng_c e_c60 (v_rng_c e_c61 (v_rng_c e_c62 (v_rng_c e_c63 (v_rng_c e_c64 (v_rng_c e_c65 (v_rng_c e_c66 (v_rng_c e_c67 (v_rng_c e_c68 (v_rng_c e_c69 (v_rng_c e_c70 (v_rng_c e_c71 (v_rng_c e_c72 (v_rng_c e_c73 (v_rng_c e_c74 (v_rng_c e_c75 (v_rng_c e_c76 (v_rng_c e_c77 (v_rng_c e_c78 (v_rng_c e_c79 (v_rng_c e_c80 (v_rng_c e_c81 (v_rng_c e_c82 (v_rng_c e_c83 (v_rng_c e_c84 (v_rng_c e_c85 (v_rng_c e_c86 (v_rng_c e_c87 (v_rng_c e_c88 (v_rng_c e_c89 (v_rng_c e_c90 (v_rng_c e_c91 (v_rng_c e_c92 (v_rng_c e_c93 (v_rng_c e_c94 (v_rng_c e_c95 rfl))))))))))))))))))))))))))))))))))))))))))))))))
set_option maxRecDepth 100000 in
theorem e_g2 : v_rng (fun j => v_all j (e_pg j) (e_hg j)) 96 48 = true := (v_rng_c e_c96 (v_rng_c e_c97 (v_rng_c e_c98 (v_rng_c e_c99 (v_rng_c e_c100 (v_rng_c e_c101 (v_rng_c e_c102 (v_rng_c e_c103 (v_rng_c e_c104 (v_rng_c e_c105 (v_rng_c e_c106 (v_rng_c e_c107 (v_rng_c e_c108 (v_rng_c e_c109 (v_rng_c e_c110 (v_rng_c e_c111 (v_rng_c e_c112 (v_rng_c e_c113 (v_rng_c e_c114 (v_rng_c e_c115 (v_rng_c e_c116 (v_rng_c e_c117 (v_rng_c e_c118 (v_rng_c e_c119 (v_rng_c e_c120 (v_rng_c e_c121 (v_rng_c e_c122 (v_rng_c e_c123 (v_rng_c e_c124 (v_rng_c e_c125 (v_rng_c e_c126 (v_rng_c e_c127 (v_rng_c e_c128 (v_rng_c e_c129 (v_rng_c e_c130 (v_rng_c e_c131 (v_rng_c e_c132 (v_rng_c e_c133 (v_rng_c e_c134 (v_rng_c e_c135 (v_rng_c e_c136 (v_rng_c e_c137 (v_rng_c e_c138 (v_rng_c e_c139 (v_rng_c e_c140 (v_rng_c e_c141 (v_rng_c e_c142 (v_rng_c e_c143 rfl))))))))))))))))))))))))))))))))))))))))))))))))
set_option maxRecDepth 100000 in
theorem e_g3 : v_rng (fun j => v_all j (e_pg j) (e_hg j)) 144 48 = true := (v_rng_c e_c144 (v_rng_c e_c145 (v_rng_c e_c146 (v_rng_c e_c147 (v_rng_c e_c148 (v_rng_c e_c149 (v_rng_c e_c150 (v_rng_c e_c151 (v_rng_c e_c152 (v_rng_c e_c153 (v_rng_c e_c154 (v_rng_c e_c155 (v_rng_c e_c156 (v_rng_c e_c157 (v_rng_c e_c158 (v_rng_c e_c159 (v_rng_c e_c160 (v_rng_c e_c161 (v_rng_c e_c162 (v_rng_c e_c163 (v_rng_c e_c164 (v_rng_c e_c165 (v_rng_c e_c166 (v_rng_c e_c167 (v_rng_c e_c168 (v_rng_c e_c169 (v_rng_c e_c170 (v_rng_c e_c171 (v_rng_c e_c172 (v_rng_c e_c173 (v_rng_c e_c174 (v_rng_c e_c175 (v_rng_c e_c176 (v_rng_c e_c177 (v_rng_c e_c178 (v_rng_c e_c179 (v_rng_c e_c180 (v_rng_c e_c181 (v_rng_c e_c182 (v_rng_c e_c183 (v_rng_c e_c184 (v_rng_c e_c185 (v_rng_c e_c186 (v_rng_c e_c187 (v_rng_c e_c188 (v_rng_c e_c189 (v_rng_c e_c190 (v_rng_c e_c191 rfl))))))))))))))))))))))))))))))))))))))))))))))))
set_option maxRecDepth 100000 in
theorem e_g4 : v_rng (fun j => v_all j (e_pg j) (e_hg j)) 192 48 = true := (v_rng_c e_c192 (v_rng_c e_c193 (v_rng_c e_c194 (v_rng_c e_c195 (v_rng_c e_c196 (v_rng_c e_c197 (v_rng_c e_c198 (v_rng_c e_c199 (v_rng_c e_c200 (v_rng_c e_c201 (v_rng_c e_c202 (v_rng_c e_c203 (v_rng_c e_c204 (v_rng_c e_c205 (v_rng_c e_c206 (v_rng_c e_c207 (v_rng_c e_c208 (v_rng_c e_c209 (v_rng_c e_c210 (v_rng_c e_c211 (v_rng_c e_c212 (v_rng_c e_c213 (v_rng_c e_c214 (v_rng_c e_c215 (v_rng_c e_c216 (v_rng_c e_c217 (v_rng_c e_c218 (v_rng_c e_c219 (v_rng_c e_c220 (v_rng_c e_c221 (v_rng_c e_c222 (v_rng_c e_c223 (v_rng_c e_c224 (v_rng_c e_c225 (v_rng_c e_c226 (v_rng_c e_c227 (v_rng_c e_c228 (v_rng_c e_c229 (v_rng_c e_c230 (v_rng_c e_c231 (v_rng_c e_c232 (v_rng_c e_c233 (v_rng_c e_c234 (v_rng_c e_c235 (v_rng_c e_c236 (v_rng_c e_c237 (v_rng_c e_c238 (v_rng_c e_c239 rfl))))))))))))))))))))))))))))))))))))))))))))))))
set_option maxRecDepth 100000 in
theorem e_g5 : v_rng (fun j => v_all j (e_pg j) (e_hg j)) 240 47 = true := (v_rng_c e_c240 (v_rng_c e_c241 (v_rng_c e_c242 (v_rng_c e_c243 (v_rng_c e_c244 (v_rng_c e_c245 (v_rng_c e_c246 (v_rng_c e_c247 (v_rng_c e_c248 (v_rng_c e_c249 (v_rng_c e_c250 (v_rng_c e_c251 (v_rng_c e_c252 (v_rng_c e_c253 (v_rng_c e_c254 (v_rng_c e_c255 (v_rng_c e_c256 (v_rng_c e_c257 (v_rng_c e_c258 (v_rng_c e_c259 (v_rng_c e_c260 (v_rng_c e_c261 (v_rng_c e_c262 (v_rng_c e_c263 (v_rng_c e_c264 (v_rng_c e_c265 (v_rng_c e_c266 (v_rng_c e_c267 (v_rng_c e_c268 (v_rng_c e_c269 (v_rng_c e_c270 (v_rng_c e_c271 (v_rng_c e_c272 (v_rng_c e_c273 (v_rng_c e_c274 (v_rng_c e_c275 (v_rng_c e_c276 (v_rng_c e_c277 (v_rng_c e_c278 (v_rng_c e_c279 (v_rng_c e_c280 (v_rng_c e_c281 (v_rng_c e_c282 (v_rng_c e_c283 (v_rng_c e_c284 (v_rng_c e_c285 (v_rng_c e_c286 rfl)))))))))))))))))))))))))))))))))))))))))))))))
theorem e_va : ∀ j, j < e_nm → v_all j (e_pg j) (e_hg j) = true := by
  intro j hj
  have hj : j < 287 := hj
  by_cases q0 : j < 48
  · exact v_rng_s _ _ e_g0 j (by omega) (by omega)
  by_cases q1 : j < 96
  · exact v_rng_s _ _ e_g1 j (by omega) (by omega)
  by_cases q2 : j < 144
  · exact v_rng_s _ _ e_g2 j (by omega) (by omega)
  by_cases q3 : j < 192
  · exact v_rng_s _ _ e_g3 j (by omega) (by omega)
  by_cases q4 : j < 240
  · exact v_rng_s _ _ e_g4 j (by omega) (by omega)
  by_cases q5 : j < 287
  · exact v_rng_s _ _ e_g5 j (by omega) (by omega)
  omega
set_option maxRecDepth 100000 in
theorem e_m0 : v_rng (v_mt) 0 48 = true := (v_rng_c e_n0 (v_rng_c e_n1 (v_rng_c e_n2 (v_rng_c e_n3 (v_rng_c e_n4 (v_rng_c e_n5 (v_rng_c e_n6 (v_rng_c e_n7 (v_rng_c e_n8 (v_rng_c e_n9 (v_rng_c e_n10 (v_rng_c e_n11 (v_rng_c e_n12 (v_rng_c e_n13 (v_rng_c e_n14 (v_rng_c e_n15 (v_rng_c e_n16 (v_rng_c e_n17 (v_rng_c e_n18 (v_rng_c e_n19 (v_rng_c e_n20 (v_rng_c e_n21 (v_rng_c e_n22 (v_rng_c e_n23 (v_rng_c e_n24 (v_rng_c e_n25 (v_rng_c e_n26 (v_rng_c e_n27 (v_rng_c e_n28 (v_rng_c e_n29 (v_rng_c e_n30 (v_rng_c e_n31 (v_rng_c e_n32 (v_rng_c e_n33 (v_rng_c e_n34 (v_rng_c e_n35 (v_rng_c e_n36 (v_rng_c e_n37 (v_rng_c e_n38 (v_rng_c e_n39 (v_rng_c e_n40 (v_rng_c e_n41 (v_rng_c e_n42 (v_rng_c e_n43 (v_rng_c e_n44 (v_rng_c e_n45 (v_rng_c e_n46 (v_rng_c e_n47 rfl))))))))))))))))))))))))))))))))))))))))))))))))
set_option maxRecDepth 100000 in
theorem e_m1 : v_rng (v_mt) 48 48 = true := (v_rng_c e_n48 (v_rng_c e_n49 (v_rng_c e_n50 (v_rng_c e_n51 (v_rng_c e_n52 (v_rng_c e_n53 (v_rng_c e_n54 (v_rng_c e_n55 (v_rng_c e_n56 (v_rng_c e_n57 (v_rng_c e_n58 (v_rng_c e_n59 (v_rng_c e_n60 (v_rng_c e_n61 (v_rng_c e_n62 (v_rng_c e_n63 (v_rng_c e_n64 (v_rng_c e_n65 (v_rng_c e_n66 (v_rng_c e_n67 (v_rng_c e_n68 (v_rng_c e_n69 (v_rng_c e_n70 (v_rng_c e_n71 (v_rng_c e_n72 (v_rng_c e_n73 (v_rng_c e_n74 (v_rng_c e_n75 (v_rng_c e_n76 (v_rng_c e_n77 (v_rng_c e_n78 (v_rng_c e_n79 (v_rng_c e_n80 (v_rng_c e_n81 (v_rng_c e_n82 (v_rng_c e_n83 (v_rng_c e_n84 (v_rng_c e_n85 (v_rng_c e_n86 (v_rng_c e_n87 (v_rng_c e_n88 (v_rng_c e_n89 (v_rng_c e_n90 (v_rng_c e_n91 (v_rng_c e_n92 (v_rng_c e_n93 (v_rng_c e_n94 (v_rng_c e_n95 rfl))))))))))))))))))))))))))))))))))))))))))))))))
set_option maxRecDepth 100000 in
theorem e_m2 : v_rng (v_mt) 96 48 = true := (v_rng_c e_n96 (v_rng_c e_n97 (v_rng_c e_n98 (v_rng_c e_n99 (v_rng_c e_n100 (v_rng_c e_n101 (v_rng_c e_n102 (v_rng_c e_n103 (v_rng_c e_n104 (v_rng_c e_n105 (v_rng_c e_n106 (v_rng_c e_n107 (v_rng_c e_n108 (v_rng_c e_n109 (v_rng_c e_n110 (v_rng_c e_n111 (v_rng_c e_n112 (v_rng_c e_n113 (v_rng_c e_n114 (v_rng_c e_n115 (v_rng_c e_n116 (v_rng_c e_n117 (v_rng_c e_n118 (v_rng_c e_n119 (v_rng_c e_n120 (v_rng_c e_n121 (v_rng_c e_n122 (v_rng_c e_n123 (v_rng_c e_n124 (v_rng_c e_n125 (v_rng_c e_n126 (v_rng_c e_n127 (v_rng_c e_n128 (v_rng_c e_n129 (v_rng_c e_n130 (v_rng_c e_n131 (v_rng_c e_n132 (v_rng_c e_n133 (v_rng_c e_n134 (v_rng_c e_n135 (v_rng_c e_n136 (v_rng_c e_n137 (v_rng_c e_n138 (v_rng_c e_n139 (v_rng_c e_n140 (v_rng_c e_n141 (v_rng_c e_n142 (v_rng_c e_n143 rfl))))))))))))))))))))))))))))))))))))))))))))))))
set_option maxRecDepth 100000 in
theorem e_m3 : v_rng (v_mt) 144 48 = true := (v_rng_c e_n144 (v_rng_c e_n145 (v_rng_c e_n146 (v_rng_c e_n147 (v_rng_c e_n148 (v_rng_c e_n149 (v_rng_c e_n150 (v_rng_c e_n151 (v_rng_c e_n152 (v_rng_c e_n153 (v_rng_c e_n154 (v_rng_c e_n155 (v_rng_c e_n156 (v_rng_c e_n157 (v_rng_c e_n158 (v_rng_c e_n159 (v_rng_c e_n160 (v_rng_c e_n161 (v_rng_c e_n162 (v_rng_c e_n163 (v_rng_c e_n164 (v_rng_c e_n165 (v_rng_c e_n166 (v_rng_c e_n167 (v_rng_c e_n168 (v_rng_c e_n169 (v_rng_c e_n170 (v_rng_c e_n171 (v_rng_c e_n172 (v_rng_c e_n173 (v_rng_c e_n174 (v_rng_c e_n175 (v_rng_c e_n176 (v_rng_c e_n177 (v_rng_c e_n178 (v_rng_c e_n179 (v_rng_c e_n180 (v_rng_c e_n181 (v_rng_c e_n182 (v_rng_c e_n183 (v_rng_c e_n184 (v_rng_c e_n185 (v_rng_c e_n186 (v_rng_c e_n187 (v_rng_c e_n188 (v_rng_c e_n189 (v_rng_c e_n190 (v_rng_c e_n191 rfl))))))))))))))))))))))))))))))))))))))))))))))))
set_option maxRecDepth 100000 in
theorem e_m4 : v_rng (v_mt) 192 48 = true := (v_rng_c e_n192 (v_rng_c e_n193 (v_rng_c e_n194 (v_rng_c e_n195 (v_rng_c e_n196 (v_rng_c e_n197 (v_rng_c e_n198 (v_rng_c e_n199 (v_rng_c e_n200 (v_rng_c e_n201 (v_rng_c e_n202 (v_rng_c e_n203 (v_rng_c e_n204 (v_rng_c e_n205 (v_rng_c e_n206 (v_rng_c e_n207 (v_rng_c e_n208 (v_rng_c e_n209 (v_rng_c e_n210 (v_rng_c e_n211 (v_rng_c e_n212 (v_rng_c e_n213 (v_rng_c e_n214 (v_rng_c e_n215 (v_rng_c e_n216 (v_rng_c e_n217 (v_rng_c e_n218 (v_rng_c e_n219 (v_rng_c e_n220 (v_rng_c e_n221 (v_rng_c e_n222 (v_rng_c e_n223 (v_rng_c e_n224 (v_rng_c e_n225 (v_rng_c e_n226 (v_rng_c e_n227 (v_rng_c e_n228 (v_rng_c e_n229 (v_rng_c e_n230 (v_rng_c e_n231 (v_rng_c e_n232 (v_rng_c e_n233 (v_rng_c e_n234 (v_rng_c e_n235 (v_rng_c e_n236 (v_rng_c e_n237 (v_rng_c e_n238 (v_rng_c e_n239 rfl))))))))))))))))))))))))))))))))))))))))))))))))
set_option maxRecDepth 100000 in
theorem e_m5 : v_rng (v_mt) 240 47 = true := (v_rng_c e_n240 (v_rng_c e_n241 (v_rng_c e_n242 (v_rng_c e_n243 (v_rng_c e_n244 (v_rng_c e_n245 (v_rng_c e_n246 (v_rng_c e_n247 (v_rng_c e_n248 (v_rng_c e_n249 (v_rng_c e_n250 (v_rng_c e_n251 (v_rng_c e_n252 (v_rng_c e_n253 (v_rng_c e_n254 (v_rng_c e_n255 (v_rng_c e_n256 (v_rng_c e_n257 (v_rng_c e_n258 (v_rng_c e_n259 (v_rng_c e_n260 (v_rng_c e_n261 (v_rng_c e_n262 (v_rng_c e_n263 (v_rng_c e_n264 (v_rng_c e_n265 (v_rng_c e_n266 (v_rng_c e_n267 (v_rng_c e_n268 (v_rng_c e_n269 (v_rng_c e_n270 (v_rng_c e_n271 (v_rng_c e_n272 (v_rng_c e_n273 (v_rng_c e_n274 (v_rng_c e_n275 (v_rng_c e_n276 (v_rng_c e_n277 (v_rng_c e_n278 (v_rng_c e_n279 (v_rng_c e_n280 (v_rng_c e_n281 (v_rng_c e_n282 (v_rng_c e_n283 (v_rng_c e_n284 (v_rng_c e_n285 (v_rng_c e_n286 rfl)))))))))))))))))))))))))))))))))))))))))))))))
theorem e_vm : ∀ j, j < e_nm → v_mt j = true := by
  intro j hj
  have hj : j < 287 := hj
  by_cases q0 : j < 48
  · exact v_rng_s _ _ e_m0 j (by omega) (by omega)
  by_cases q1 : j < 96
  · exact v_rng_s _ _ e_m1 j (by omega) (by omega)
  by_cases q2 : j < 144
  · exact v_rng_s _ _ e_m2 j (by omega) (by omega)
  by_cases q3 : j < 192
  · exact v_rng_s _ _ e_m3 j (by omega) (by omega)
  by_cases q4 : j < 240
  · exact v_rng_s _ _ e_m4 j (by omega) (by omega)
  by_cases q5 : j < 287
  · exact v_rng_s _ _ e_m5 j (by omega) (by omega)
  omega
theorem e_kVM : ∀ j, j < e_nm → v_meth j = true := fun j hj => (e_and2 (e_vm j hj)).1
theorem e_kVH : ∀ j, j < e_nm → ∃ gs, v_hnd (e_own j) (e_pg j) (e_hn j) (e_hh j) gs = true := fun j hj => ⟨_, (e_and2 (e_and2 (e_vm j hj)).2).1⟩
theorem e_kCW : ∀ j, 0 < j → j < e_nm → e_cw j ∈ e_gw := by
  intro j h0 hj
  rcases e_or2 (e_and2 (e_and2 (e_vm j hj)).2).2 with q | q
  · have := e_beq q
    omega
  · exact e_has_s q
theorem e_kV : ∀ j, j < e_nm → ∀ k e tl, (e_pg j).drop k = e :: tl → ∃ gs, v_ent j e tl gs = true := fun j hj k e tl hk => v_all_s _ _ (e_va j hj) k e tl hk
theorem e_kca : ∀ k, k < 4 → Cond.castable (e_ex k) (e_ex k) ∈ e_hot := by
  intro k hk
  have h : v_rng (fun k => e_hasH (e_ha k) (.castable (e_ex k) (e_ex k))) 0 4 = true := by decide +kernel
  exact e_hasH_s (v_rng_s _ _ h k (by omega) (by omega))
