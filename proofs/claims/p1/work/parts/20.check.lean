/-! THE CHECKS of the entries, first. -/
set_option maxRecDepth 100000 in
theorem e_c1 : v_all 1 (e_pg 1) (e_hg 1) = true := by decide +kernel
set_option maxRecDepth 100000 in
theorem e_c2 : v_all 2 (e_pg 2) (e_hg 2) = true := by decide +kernel
set_option maxRecDepth 100000 in
theorem e_c3 : v_all 3 (e_pg 3) (e_hg 3) = true := by decide +kernel
set_option maxRecDepth 100000 in
theorem e_c4 : v_all 4 (e_pg 4) (e_hg 4) = true := by decide +kernel
set_option maxRecDepth 100000 in
theorem e_c5 : v_all 5 (e_pg 5) (e_hg 5) = true := by decide +kernel
set_option maxRecDepth 100000 in
theorem e_c6 : v_all 6 (e_pg 6) (e_hg 6) = true := by decide +kernel
set_option maxRecDepth 100000 in
theorem e_c7 : v_all 7 (e_pg 7) (e_hg 7) = true := by decide +kernel
set_option maxRecDepth 100000 in
theorem e_c8 : v_all 8 (e_pg 8) (e_hg 8) = true := by decide +kernel
set_option maxRecDepth 100000 in
theorem e_c9 : v_all 9 (e_pg 9) (e_hg 9) = true := by decide +kernel
set_option maxRecDepth 100000 in
theorem e_c10 : v_all 10 (e_pg 10) (e_hg 10) = true := by decide +kernel
set_option maxRecDepth 100000 in
theorem e_c11 : v_all 11 (e_pg 11) (e_hg 11) = true := by decide +kernel
set_option maxRecDepth 100000 in
theorem e_c12 : v_all 12 (e_pg 12) (e_hg 12) = true := by decide +kernel
set_option maxRecDepth 100000 in
theorem e_c13 : v_all 13 (e_pg 13) (e_hg 13) = true := by decide +kernel
set_option maxRecDepth 100000 in
theorem e_c14 : v_all 14 (e_pg 14) (e_hg 14) = true := by decide +kernel
set_option maxRecDepth 100000 in
theorem e_c15 : v_all 15 (e_pg 15) (e_hg 15) = true := by decide +kernel
set_option maxRecDepth 100000 in
theorem e_c16 : v_all 16 (e_pg 16) (e_hg 16) = true := by decide +kernel
set_option maxRecDepth 100000 in
theorem e_c17 : v_all 17 (e_pg 17) (e_hg 17) = true := by decide +kernel
set_option maxRecDepth 100000 in
theorem e_c18 : v_all 18 (e_pg 18) (e_hg 18) = true := by decide +kernel
set_option maxRecDepth 100000 in
theorem e_c19 : v_all 19 (e_pg 19) (e_hg 19) = true := by decide +kernel
set_option maxRecDepth 100000 in
theorem e_c20 : v_all 20 (e_pg 20) (e_hg 20) = true := by decide +kernel
set_option maxRecDepth 100000 in
theorem e_c21 : v_all 21 (e_pg 21) (e_hg 21) = true := by decide +kernel
set_option maxRecDepth 100000 in
theorem e_c22 : v_all 22 (e_pg 22) (e_hg 22) = true := by decide +kernel
set_option maxRecDepth 100000 in
theorem e_c23 : v_all 23 (e_pg 23) (e_hg 23) = true := by decide +kernel
set_option maxRecDepth 100000 in
theorem e_c24 : v_all 24 (e_pg 24) (e_hg 24) = true := by decide +kernel
set_option maxRecDepth 100000 in
theorem e_c25 : v_all 25 (e_pg 25) (e_hg 25) = true := by decide +kernel
set_option maxRecDepth 100000 in
theorem e_c26 : v_all 26 (e_pg 26) (e_hg 26) = true := by decide +kernel
set_option maxRecDepth 100000 in
theorem e_c27 : v_all 27 (e_pg 27) (e_hg 27) = true := by decide +kernel
set_option maxRecDepth 100000 in
theorem e_c28 : v_all 28 (e_pg 28) (e_hg 28) = true := by decide +kernel
set_option maxRecDepth 100000 in
theorem e_c29 : v_all 29 (e_pg 29) (e_hg 29) = true := by decide +kernel
set_option maxRecDepth 100000 in
theorem e_c30 : v_all 30 (e_pg 30) (e_hg 30) = true := by decide +kernel
set_option maxRecDepth 100000 in
theorem e_c31 : v_all 31 (e_pg 31) (e_hg 31) = true := by decide +kernel
set_option maxRecDepth 100000 in
theorem e_c32 : v_all 32 (e_pg 32) (e_hg 32) = true := by decide +kernel
set_option maxRecDepth 100000 in
theorem e_c33 : v_all 33 (e_pg 33) (e_hg 33) = true := by decide +kernel
set_option maxRecDepth 100000 in
theorem e_c34 : v_all 34 (e_pg 34) (e_hg 34) = true := by decide +kernel
set_option maxRecDepth 100000 in
theorem e_c35 : v_all 35 (e_pg 35) (e_hg 35) = true := by decide +kernel
set_option maxRecDepth 100000 in
theorem e_c36 : v_all 36 (e_pg 36) (e_hg 36) = true := by decide +kernel
set_option maxRecDepth 100000 in
theorem e_c37 : v_all 37 (e_pg 37) (e_hg 37) = true := by decide +kernel
set_option maxRecDepth 100000 in
theorem e_c38 : v_all 38 (e_pg 38) (e_hg 38) = true := by decide +kernel
set_option maxRecDepth 100000 in
theorem e_c39 : v_all 39 (e_pg 39) (e_hg 39) = true := by decide +kernel
set_option maxRecDepth 100000 in
theorem e_c40 : v_all 40 (e_pg 40) (e_hg 40) = true := by decide +kernel
set_option maxRecDepth 100000 in
theorem e_c41 : v_all 41 (e_pg 41) (e_hg 41) = true := by decide +kernel
set_option maxRecDepth 100000 in
theorem e_c42 : v_all 42 (e_pg 42) (e_hg 42) = true := by decide +kernel
set_option maxRecDepth 100000 in
theorem e_c43 : v_all 43 (e_pg 43) (e_hg 43) = true := by decide +kernel
set_option maxRecDepth 100000 in
theorem e_c44 : v_all 44 (e_pg 44) (e_hg 44) = true := by decide +kernel
set_option maxRecDepth 100000 in
theorem e_c45 : v_all 45 (e_pg 45) (e_hg 45) = true := by decide +kernel
set_option maxRecDepth 100000 in
theorem e_c46 : v_all 46 (e_pg 46) (e_hg 46) = true := by decide +kernel
set_option maxRecDepth 100000 in
theorem e_c47 : v_all 47 (e_pg 47) (e_hg 47) = true := by decide +kernel
set_option maxRecDepth 100000 in
theorem e_c48 : v_all 48 (e_pg 48) (e_hg 48) = true := by decide +kernel
set_option maxRecDepth 100000 in
theorem e_c49 : v_all 49 (e_pg 49) (e_hg 49) = true := by decide +kernel
set_option maxRecDepth 100000 in
theorem e_c50 : v_all 50 (e_pg 50) (e_hg 50) = true := by decide +kernel
set_option maxRecDepth 100000 in
theorem e_c51 : v_all 51 (e_pg 51) (e_hg 51) = true := by decide +kernel
set_option maxRecDepth 100000 in
theorem e_c52 : v_all 52 (e_pg 52) (e_hg 52) = true := by decide +kernel
set_option maxRecDepth 100000 in
theorem e_c53 : v_all 53 (e_pg 53) (e_hg 53) = true := by decide +kernel
set_option maxRecDepth 100000 in
theorem e_c54 : v_all 54 (e_pg 54) (e_hg 54) = true := by decide +kernel
set_option maxRecDepth 100000 in
theorem e_c55 : v_all 55 (e_pg 55) (e_hg 55) = true := by decide +kernel
set_option maxRecDepth 100000 in
theorem e_c56 : v_all 56 (e_pg 56) (e_hg 56) = true := by decide +kernel
set_option maxRecDepth 100000 in
theorem e_c57 : v_all 57 (e_pg 57) (e_hg 57) = true := by decide +kernel
set_option maxRecDepth 100000 in
theorem e_c58 : v_all 58 (e_pg 58) (e_hg 58) = true := by decide +kernel
set_option maxRecDepth 100000 in
theorem e_c59 : v_all 59 (e_pg 59) (e_hg 59) = true := by decide +kernel
set_option maxRecDepth 100000 in
theorem e_c60 : v_all 60 (e_pg 60) (e_hg 60) = true := by decide +kernel
set_option maxRecDepth 100000 in
theorem e_c61 : v_all 61 (e_pg 61) (e_hg 61) = true := by decide +kernel
set_option maxRecDepth 100000 in
theorem e_c62 : v_all 62 (e_pg 62) (e_hg 62) = true := by decide +kernel
set_option maxRecDepth 100000 in
theorem e_c63 : v_all 63 (e_pg 63) (e_hg 63) = true := by decide +kernel
set_option maxRecDepth 100000 in
theorem e_c64 : v_all 64 (e_pg 64) (e_hg 64) = true := by decide +kernel
set_option maxRecDepth 100000 in
theorem e_c65 : v_all 65 (e_pg 65) (e_hg 65) = true := by decide +kernel
set_option maxRecDepth 100000 in
theorem e_c66 : v_all 66 (e_pg 66) (e_hg 66) = true := by decide +kernel
set_option maxRecDepth 100000 in
theorem e_c67 : v_all 67 (e_pg 67) (e_hg 67) = true := by decide +kernel
set_option maxRecDepth 100000 in
theorem e_c68 : v_all 68 (e_pg 68) (e_hg 68) = true := by decide +kernel
set_option maxRecDepth 100000 in
theorem e_c69 : v_all 69 (e_pg 69) (e_hg 69) = true := by decide +kernel
set_option maxRecDepth 100000 in
theorem e_c70 : v_all 70 (e_pg 70) (e_hg 70) = true := by decide +kernel
set_option maxRecDepth 100000 in
theorem e_c71 : v_all 71 (e_pg 71) (e_hg 71) = true := by decide +kernel
set_option maxRecDepth 100000 in
theorem e_c72 : v_all 72 (e_pg 72) (e_hg 72) = true := by decide +kernel
set_option maxRecDepth 100000 in
theorem e_c73 : v_all 73 (e_pg 73) (e_hg 73) = true := by decide +kernel
set_option maxRecDepth 100000 in
theorem e_c74 : v_all 74 (e_pg 74) (e_hg 74) = true := by decide +kernel
set_option maxRecDepth 100000 in
theorem e_c75 : v_all 75 (e_pg 75) (e_hg 75) = true := by decide +kernel
set_option maxRecDepth 100000 in
theorem e_c76 : v_all 76 (e_pg 76) (e_hg 76) = true := by decide +kernel
set_option maxRecDepth 100000 in
theorem e_c77 : v_all 77 (e_pg 77) (e_hg 77) = true := by decide +kernel
set_option maxRecDepth 100000 in
theorem e_c78 : v_all 78 (e_pg 78) (e_hg 78) = true := by decide +kernel
set_option maxRecDepth 100000 in
theorem e_c79 : v_all 79 (e_pg 79) (e_hg 79) = true := by decide +kernel
set_option maxRecDepth 100000 in
theorem e_c80 : v_all 80 (e_pg 80) (e_hg 80) = true := by decide +kernel
set_option maxRecDepth 100000 in
theorem e_c81 : v_all 81 (e_pg 81) (e_hg 81) = true := by decide +kernel
set_option maxRecDepth 100000 in
theorem e_c82 : v_all 82 (e_pg 82) (e_hg 82) = true := by decide +kernel
set_option maxRecDepth 100000 in
theorem e_c83 : v_all 83 (e_pg 83) (e_hg 83) = true := by decide +kernel
set_option maxRecDepth 100000 in
theorem e_c84 : v_all 84 (e_pg 84) (e_hg 84) = true := by decide +kernel
set_option maxRecDepth 100000 in
theorem e_c85 : v_all 85 (e_pg 85) (e_hg 85) = true := by decide +kernel
set_option maxRecDepth 100000 in
theorem e_c86 : v_all 86 (e_pg 86) (e_hg 86) = true := by decide +kernel
set_option maxRecDepth 100000 in
theorem e_c87 : v_all 87 (e_pg 87) (e_hg 87) = true := by decide +kernel
set_option maxRecDepth 100000 in
theorem e_c88 : v_all 88 (e_pg 88) (e_hg 88) = true := by decide +kernel
set_option maxRecDepth 100000 in
theorem e_c89 : v_all 89 (e_pg 89) (e_hg 89) = true := by decide +kernel
set_option maxRecDepth 100000 in
theorem e_c90 : v_all 90 (e_pg 90) (e_hg 90) = true := by decide +kernel
set_option maxRecDepth 100000 in
theorem e_c91 : v_all 91 (e_pg 91) (e_hg 91) = true := by decide +kernel
set_option maxRecDepth 100000 in
theorem e_c92 : v_all 92 (e_pg 92) (e_hg 92) = true := by decide +kernel
set_option maxRecDepth 100000 in
theorem e_c93 : v_all 93 (e_pg 93) (e_hg 93) = true := by decide +kernel
set_option maxRecDepth 100000 in
theorem e_c94 : v_all 94 (e_pg 94) (e_hg 94) = true := by decide +kernel
set_option maxRecDepth 100000 in
theorem e_c95 : v_all 95 (e_pg 95) (e_hg 95) = true := by decide +kernel
set_option maxRecDepth 100000 in
theorem e_c96 : v_all 96 (e_pg 96) (e_hg 96) = true := by decide +kernel
set_option maxRecDepth 100000 in
theorem e_c97 : v_all 97 (e_pg 97) (e_hg 97) = true := by decide +kernel
set_option maxRecDepth 100000 in
theorem e_c98 : v_all 98 (e_pg 98) (e_hg 98) = true := by decide +kernel
set_option maxRecDepth 100000 in
theorem e_c99 : v_all 99 (e_pg 99) (e_hg 99) = true := by decide +kernel
set_option maxRecDepth 100000 in
theorem e_c100 : v_all 100 (e_pg 100) (e_hg 100) = true := by decide +kernel
set_option maxRecDepth 100000 in
theorem e_c101 : v_all 101 (e_pg 101) (e_hg 101) = true := by decide +kernel
set_option maxRecDepth 100000 in
theorem e_c102 : v_all 102 (e_pg 102) (e_hg 102) = true := by decide +kernel
set_option maxRecDepth 100000 in
theorem e_c103 : v_all 103 (e_pg 103) (e_hg 103) = true := by decide +kernel
set_option maxRecDepth 100000 in
theorem e_c104 : v_all 104 (e_pg 104) (e_hg 104) = true := by decide +kernel
set_option maxRecDepth 100000 in
theorem e_c105 : v_all 105 (e_pg 105) (e_hg 105) = true := by decide +kernel
set_option maxRecDepth 100000 in
theorem e_c106 : v_all 106 (e_pg 106) (e_hg 106) = true := by decide +kernel
set_option maxRecDepth 100000 in
theorem e_c107 : v_all 107 (e_pg 107) (e_hg 107) = true := by decide +kernel
set_option maxRecDepth 100000 in
theorem e_c108 : v_all 108 (e_pg 108) (e_hg 108) = true := by decide +kernel
set_option maxRecDepth 100000 in
theorem e_c109 : v_all 109 (e_pg 109) (e_hg 109) = true := by decide +kernel
set_option maxRecDepth 100000 in
theorem e_c110 : v_all 110 (e_pg 110) (e_hg 110) = true := by decide +kernel
set_option maxRecDepth 100000 in
theorem e_c111 : v_all 111 (e_pg 111) (e_hg 111) = true := by decide +kernel
set_option maxRecDepth 100000 in
theorem e_c112 : v_all 112 (e_pg 112) (e_hg 112) = true := by decide +kernel
set_option maxRecDepth 100000 in
theorem e_c113 : v_all 113 (e_pg 113) (e_hg 113) = true := by decide +kernel
set_option maxRecDepth 100000 in
theorem e_c114 : v_all 114 (e_pg 114) (e_hg 114) = true := by decide +kernel
set_option maxRecDepth 100000 in
theorem e_c115 : v_all 115 (e_pg 115) (e_hg 115) = true := by decide +kernel
set_option maxRecDepth 100000 in
theorem e_c116 : v_all 116 (e_pg 116) (e_hg 116) = true := by decide +kernel
set_option maxRecDepth 100000 in
theorem e_c117 : v_all 117 (e_pg 117) (e_hg 117) = true := by decide +kernel
set_option maxRecDepth 100000 in
theorem e_c118 : v_all 118 (e_pg 118) (e_hg 118) = true := by decide +kernel
set_option maxRecDepth 100000 in
theorem e_c119 : v_all 119 (e_pg 119) (e_hg 119) = true := by decide +kernel
set_option maxRecDepth 100000 in
theorem e_c120 : v_all 120 (e_pg 120) (e_hg 120) = true := by decide +kernel
set_option maxRecDepth 100000 in
theorem e_c121 : v_all 121 (e_pg 121) (e_hg 121) = true := by decide +kernel
set_option maxRecDepth 100000 in
theorem e_c122 : v_all 122 (e_pg 122) (e_hg 122) = true := by decide +kernel
set_option maxRecDepth 100000 in
theorem e_c123 : v_all 123 (e_pg 123) (e_hg 123) = true := by decide +kernel
set_option maxRecDepth 100000 in
theorem e_c124 : v_all 124 (e_pg 124) (e_hg 124) = true := by decide +kernel
set_option maxRecDepth 100000 in
theorem e_c125 : v_all 125 (e_pg 125) (e_hg 125) = true := by decide +kernel
set_option maxRecDepth 100000 in
theorem e_c126 : v_all 126 (e_pg 126) (e_hg 126) = true := by decide +kernel
set_option maxRecDepth 100000 in
theorem e_c127 : v_all 127 (e_pg 127) (e_hg 127) = true := by decide +kernel
set_option maxRecDepth 100000 in
theorem e_c128 : v_all 128 (e_pg 128) (e_hg 128) = true := by decide +kernel
set_option maxRecDepth 100000 in
theorem e_c129 : v_all 129 (e_pg 129) (e_hg 129) = true := by decide +kernel
set_option maxRecDepth 100000 in
theorem e_c130 : v_all 130 (e_pg 130) (e_hg 130) = true := by decide +kernel
set_option maxRecDepth 100000 in
theorem e_c131 : v_all 131 (e_pg 131) (e_hg 131) = true := by decide +kernel
set_option maxRecDepth 100000 in
theorem e_c132 : v_all 132 (e_pg 132) (e_hg 132) = true := by decide +kernel
set_option maxRecDepth 100000 in
theorem e_c133 : v_all 133 (e_pg 133) (e_hg 133) = true := by decide +kernel
set_option maxRecDepth 100000 in
theorem e_c134 : v_all 134 (e_pg 134) (e_hg 134) = true := by decide +kernel
set_option maxRecDepth 100000 in
theorem e_c135 : v_all 135 (e_pg 135) (e_hg 135) = true := by decide +kernel
set_option maxRecDepth 100000 in
theorem e_c136 : v_all 136 (e_pg 136) (e_hg 136) = true := by decide +kernel
set_option maxRecDepth 100000 in
theorem e_c137 : v_all 137 (e_pg 137) (e_hg 137) = true := by decide +kernel
set_option maxRecDepth 100000 in
theorem e_c138 : v_all 138 (e_pg 138) (e_hg 138) = true := by decide +kernel
set_option maxRecDepth 100000 in
theorem e_c139 : v_all 139 (e_pg 139) (e_hg 139) = true := by decide +kernel
set_option maxRecDepth 100000 in
theorem e_c140 : v_all 140 (e_pg 140) (e_hg 140) = true := by decide +kernel
set_option maxRecDepth 100000 in
theorem e_c141 : v_all 141 (e_pg 141) (e_hg 141) = true := by decide +kernel
set_option maxRecDepth 100000 in
theorem e_c142 : v_all 142 (e_pg 142) (e_hg 142) = true := by decide +kernel
set_option maxRecDepth 100000 in
theorem e_c143 : v_all 143 (e_pg 143) (e_hg 143) = true := by decide +kernel
set_option maxRecDepth 100000 in
theorem e_c144 : v_all 144 (e_pg 144) (e_hg 144) = true := by decide +kernel
set_option maxRecDepth 100000 in
theorem e_c145 : v_all 145 (e_pg 145) (e_hg 145) = true := by decide +kernel
set_option maxRecDepth 100000 in
theorem e_c146 : v_all 146 (e_pg 146) (e_hg 146) = true := by decide +kernel
set_option maxRecDepth 100000 in
theorem e_c147 : v_all 147 (e_pg 147) (e_hg 147) = true := by decide +kernel
set_option maxRecDepth 100000 in
theorem e_c148 : v_all 148 (e_pg 148) (e_hg 148) = true := by decide +kernel
set_option maxRecDepth 100000 in
theorem e_c149 : v_all 149 (e_pg 149) (e_hg 149) = true := by decide +kernel
set_option maxRecDepth 100000 in
theorem e_c150 : v_all 150 (e_pg 150) (e_hg 150) = true := by decide +kernel
set_option maxRecDepth 100000 in
theorem e_c151 : v_all 151 (e_pg 151) (e_hg 151) = true := by decide +kernel
set_option maxRecDepth 100000 in
theorem e_c152 : v_all 152 (e_pg 152) (e_hg 152) = true := by decide +kernel
set_option maxRecDepth 100000 in
theorem e_c153 : v_all 153 (e_pg 153) (e_hg 153) = true := by decide +kernel
set_option maxRecDepth 100000 in
theorem e_c154 : v_all 154 (e_pg 154) (e_hg 154) = true := by decide +kernel
set_option maxRecDepth 100000 in
theorem e_c155 : v_all 155 (e_pg 155) (e_hg 155) = true := by decide +kernel
set_option maxRecDepth 100000 in
theorem e_c156 : v_all 156 (e_pg 156) (e_hg 156) = true := by decide +kernel
set_option maxRecDepth 100000 in
theorem e_c157 : v_all 157 (e_pg 157) (e_hg 157) = true := by decide +kernel
set_option maxRecDepth 100000 in
theorem e_c158 : v_all 158 (e_pg 158) (e_hg 158) = true := by decide +kernel
set_option maxRecDepth 100000 in
theorem e_c159 : v_all 159 (e_pg 159) (e_hg 159) = true := by decide +kernel
set_option maxRecDepth 100000 in
theorem e_c160 : v_all 160 (e_pg 160) (e_hg 160) = true := by decide +kernel
set_option maxRecDepth 100000 in
theorem e_c161 : v_all 161 (e_pg 161) (e_hg 161) = true := by decide +kernel
set_option maxRecDepth 100000 in
theorem e_c162 : v_all 162 (e_pg 162) (e_hg 162) = true := by decide +kernel
set_option maxRecDepth 100000 in
theorem e_c163 : v_all 163 (e_pg 163) (e_hg 163) = true := by decide +kernel
set_option maxRecDepth 100000 in
theorem e_c164 : v_all 164 (e_pg 164) (e_hg 164) = true := by decide +kernel
set_option maxRecDepth 100000 in
theorem e_c165 : v_all 165 (e_pg 165) (e_hg 165) = true := by decide +kernel
set_option maxRecDepth 100000 in
theorem e_c166 : v_all 166 (e_pg 166) (e_hg 166) = true := by decide +kernel
set_option maxRecDepth 100000 in
theorem e_c167 : v_all 167 (e_pg 167) (e_hg 167) = true := by decide +kernel
set_option maxRecDepth 100000 in
theorem e_c168 : v_all 168 (e_pg 168) (e_hg 168) = true := by decide +kernel
set_option maxRecDepth 100000 in
theorem e_c169 : v_all 169 (e_pg 169) (e_hg 169) = true := by decide +kernel
set_option maxRecDepth 100000 in
theorem e_c170 : v_all 170 (e_pg 170) (e_hg 170) = true := by decide +kernel
set_option maxRecDepth 100000 in
theorem e_c171 : v_all 171 (e_pg 171) (e_hg 171) = true := by decide +kernel
set_option maxRecDepth 100000 in
theorem e_c172 : v_all 172 (e_pg 172) (e_hg 172) = true := by decide +kernel
set_option maxRecDepth 100000 in
theorem e_c173 : v_all 173 (e_pg 173) (e_hg 173) = true := by decide +kernel
set_option maxRecDepth 100000 in
theorem e_c174 : v_all 174 (e_pg 174) (e_hg 174) = true := by decide +kernel
set_option maxRecDepth 100000 in
theorem e_c175 : v_all 175 (e_pg 175) (e_hg 175) = true := by decide +kernel
set_option maxRecDepth 100000 in
theorem e_c176 : v_all 176 (e_pg 176) (e_hg 176) = true := by decide +kernel
set_option maxRecDepth 100000 in
theorem e_c177 : v_all 177 (e_pg 177) (e_hg 177) = true := by decide +kernel
set_option maxRecDepth 100000 in
theorem e_c178 : v_all 178 (e_pg 178) (e_hg 178) = true := by decide +kernel
set_option maxRecDepth 100000 in
theorem e_c179 : v_all 179 (e_pg 179) (e_hg 179) = true := by decide +kernel
set_option maxRecDepth 100000 in
theorem e_c180 : v_all 180 (e_pg 180) (e_hg 180) = true := by decide +kernel
set_option maxRecDepth 100000 in
theorem e_c181 : v_all 181 (e_pg 181) (e_hg 181) = true := by decide +kernel
set_option maxRecDepth 100000 in
theorem e_c182 : v_all 182 (e_pg 182) (e_hg 182) = true := by decide +kernel
set_option maxRecDepth 100000 in
theorem e_c183 : v_all 183 (e_pg 183) (e_hg 183) = true := by decide +kernel
set_option maxRecDepth 100000 in
theorem e_c184 : v_all 184 (e_pg 184) (e_hg 184) = true := by decide +kernel
set_option maxRecDepth 100000 in
theorem e_c185 : v_all 185 (e_pg 185) (e_hg 185) = true := by decide +kernel
set_option maxRecDepth 100000 in
theorem e_c186 : v_all 186 (e_pg 186) (e_hg 186) = true := by decide +kernel
set_option maxRecDepth 100000 in
theorem e_c187 : v_all 187 (e_pg 187) (e_hg 187) = true := by decide +kernel
set_option maxRecDepth 100000 in
theorem e_c188 : v_all 188 (e_pg 188) (e_hg 188) = true := by decide +kernel
set_option maxRecDepth 100000 in
theorem e_c189 : v_all 189 (e_pg 189) (e_hg 189) = true := by decide +kernel
set_option maxRecDepth 100000 in
theorem e_c190 : v_all 190 (e_pg 190) (e_hg 190) = true := by decide +kernel
set_option maxRecDepth 100000 in
theorem e_c191 : v_all 191 (e_pg 191) (e_hg 191) = true := by decide +kernel
set_option maxRecDepth 100000 in
theorem e_c192 : v_all 192 (e_pg 192) (e_hg 192) = true := by decide +kernel
set_option maxRecDepth 100000 in
theorem e_c193 : v_all 193 (e_pg 193) (e_hg 193) = true := by decide +kernel
set_option maxRecDepth 100000 in
theorem e_c194 : v_all 194 (e_pg 194) (e_hg 194) = true := by decide +kernel
set_option maxRecDepth 100000 in
theorem e_c195 : v_all 195 (e_pg 195) (e_hg 195) = true := by decide +kernel
set_option maxRecDepth 100000 in
theorem e_c196 : v_all 196 (e_pg 196) (e_hg 196) = true := by decide +kernel
set_option maxRecDepth 100000 in
theorem e_c197 : v_all 197 (e_pg 197) (e_hg 197) = true := by decide +kernel
set_option maxRecDepth 100000 in
theorem e_c198 : v_all 198 (e_pg 198) (e_hg 198) = true := by decide +kernel
set_option maxRecDepth 100000 in
theorem e_c199 : v_all 199 (e_pg 199) (e_hg 199) = true := by decide +kernel
set_option maxRecDepth 100000 in
theorem e_c200 : v_all 200 (e_pg 200) (e_hg 200) = true := by decide +kernel
set_option maxRecDepth 100000 in
theorem e_c201 : v_all 201 (e_pg 201) (e_hg 201) = true := by decide +kernel
set_option maxRecDepth 100000 in
theorem e_c202 : v_all 202 (e_pg 202) (e_hg 202) = true := by decide +kernel
set_option maxRecDepth 100000 in
theorem e_c203 : v_all 203 (e_pg 203) (e_hg 203) = true := by decide +kernel
set_option maxRecDepth 100000 in
theorem e_c204 : v_all 204 (e_pg 204) (e_hg 204) = true := by decide +kernel
set_option maxRecDepth 100000 in
theorem e_c205 : v_all 205 (e_pg 205) (e_hg 205) = true := by decide +kernel
set_option maxRecDepth 100000 in
theorem e_c206 : v_all 206 (e_pg 206) (e_hg 206) = true := by decide +kernel
set_option maxRecDepth 100000 in
theorem e_c207 : v_all 207 (e_pg 207) (e_hg 207) = true := by decide +kernel
set_option maxRecDepth 100000 in
theorem e_c208 : v_all 208 (e_pg 208) (e_hg 208) = true := by decide +kernel
set_option maxRecDepth 100000 in
theorem e_c209 : v_all 209 (e_pg 209) (e_hg 209) = true := by decide +kernel
set_option maxRecDepth 100000 in
theorem e_c210 : v_all 210 (e_pg 210) (e_hg 210) = true := by decide +kernel
set_option maxRecDepth 100000 in
theorem e_c211 : v_all 211 (e_pg 211) (e_hg 211) = true := by decide +kernel
set_option maxRecDepth 100000 in
theorem e_c212 : v_all 212 (e_pg 212) (e_hg 212) = true := by decide +kernel
set_option maxRecDepth 100000 in
theorem e_c213 : v_all 213 (e_pg 213) (e_hg 213) = true := by decide +kernel
set_option maxRecDepth 100000 in
theorem e_c214 : v_all 214 (e_pg 214) (e_hg 214) = true := by decide +kernel
set_option maxRecDepth 100000 in
theorem e_c215 : v_all 215 (e_pg 215) (e_hg 215) = true := by decide +kernel
set_option maxRecDepth 100000 in
theorem e_c216 : v_all 216 (e_pg 216) (e_hg 216) = true := by decide +kernel
set_option maxRecDepth 100000 in
theorem e_c217 : v_all 217 (e_pg 217) (e_hg 217) = true := by decide +kernel
set_option maxRecDepth 100000 in
theorem e_c218 : v_all 218 (e_pg 218) (e_hg 218) = true := by decide +kernel
set_option maxRecDepth 100000 in
theorem e_c219 : v_all 219 (e_pg 219) (e_hg 219) = true := by decide +kernel
set_option maxRecDepth 100000 in
theorem e_c220 : v_all 220 (e_pg 220) (e_hg 220) = true := by decide +kernel
set_option maxRecDepth 100000 in
theorem e_c221 : v_all 221 (e_pg 221) (e_hg 221) = true := by decide +kernel
set_option maxRecDepth 100000 in
theorem e_c222 : v_all 222 (e_pg 222) (e_hg 222) = true := by decide +kernel
set_option maxRecDepth 100000 in
theorem e_c223 : v_all 223 (e_pg 223) (e_hg 223) = true := by decide +kernel
set_option maxRecDepth 100000 in
theorem e_c224 : v_all 224 (e_pg 224) (e_hg 224) = true := by decide +kernel
set_option maxRecDepth 100000 in
theorem e_c225 : v_all 225 (e_pg 225) (e_hg 225) = true := by decide +kernel
set_option maxRecDepth 100000 in
theorem e_c226 : v_all 226 (e_pg 226) (e_hg 226) = true := by decide +kernel
set_option maxRecDepth 100000 in
theorem e_c227 : v_all 227 (e_pg 227) (e_hg 227) = true := by decide +kernel
set_option maxRecDepth 100000 in
theorem e_c228 : v_all 228 (e_pg 228) (e_hg 228) = true := by decide +kernel
set_option maxRecDepth 100000 in
theorem e_c229 : v_all 229 (e_pg 229) (e_hg 229) = true := by decide +kernel
set_option maxRecDepth 100000 in
theorem e_c230 : v_all 230 (e_pg 230) (e_hg 230) = true := by decide +kernel
set_option maxRecDepth 100000 in
theorem e_c231 : v_all 231 (e_pg 231) (e_hg 231) = true := by decide +kernel
set_option maxRecDepth 100000 in
theorem e_c232 : v_all 232 (e_pg 232) (e_hg 232) = true := by decide +kernel
set_option maxRecDepth 100000 in
theorem e_c233 : v_all 233 (e_pg 233) (e_hg 233) = true := by decide +kernel
set_option maxRecDepth 100000 in
theorem e_c234 : v_all 234 (e_pg 234) (e_hg 234) = true := by decide +kernel
set_option maxRecDepth 100000 in
theorem e_c235 : v_all 235 (e_pg 235) (e_hg 235) = true := by decide +kernel
set_option maxRecDepth 100000 in
theorem e_c236 : v_all 236 (e_pg 236) (e_hg 236) = true := by decide +kernel
set_option maxRecDepth 100000 in
theorem e_c237 : v_all 237 (e_pg 237) (e_hg 237) = true := by decide +kernel
set_option maxRecDepth 100000 in
theorem e_c238 : v_all 238 (e_pg 238) (e_hg 238) = true := by decide +kernel
set_option maxRecDepth 100000 in
theorem e_c239 : v_all 239 (e_pg 239) (e_hg 239) = true := by decide +kernel
set_option maxRecDepth 100000 in
theorem e_c240 : v_all 240 (e_pg 240) (e_hg 240) = true := by decide +kernel
set_option maxRecDepth 100000 in
theorem e_c241 : v_all 241 (e_pg 241) (e_hg 241) = true := by decide +kernel
set_option maxRecDepth 100000 in
theorem e_c242 : v_all 242 (e_pg 242) (e_hg 242) = true := by decide +kernel
set_option maxRecDepth 100000 in
theorem e_c243 : v_all 243 (e_pg 243) (e_hg 243) = true := by decide +kernel
set_option maxRecDepth 100000 in
theorem e_c244 : v_all 244 (e_pg 244) (e_hg 244) = true := by decide +kernel
set_option maxRecDepth 100000 in
theorem e_c245 : v_all 245 (e_pg 245) (e_hg 245) = true := by decide +kernel
set_option maxRecDepth 100000 in
theorem e_c246 : v_all 246 (e_pg 246) (e_hg 246) = true := by decide +kernel
set_option maxRecDepth 100000 in
theorem e_c247 : v_all 247 (e_pg 247) (e_hg 247) = true := by decide +kernel
set_option maxRecDepth 100000 in
theorem e_c248 : v_all 248 (e_pg 248) (e_hg 248) = true := by decide +kernel
set_option maxRecDepth 100000 in
theorem e_c249 : v_all 249 (e_pg 249) (e_hg 249) = true := by decide +kernel
set_option maxRecDepth 100000 in
theorem e_c250 : v_all 250 (e_pg 250) (e_hg 250) = true := by decide +kernel
set_option maxRecDepth 100000 in
theorem e_c251 : v_all 251 (e_pg 251) (e_hg 251) = true := by decide +kernel
set_option maxRecDepth 100000 in
theorem e_c252 : v_all 252 (e_pg 252) (e_hg 252) = true := by decide +kernel
set_option maxRecDepth 100000 in
theorem e_c253 : v_all 253 (e_pg 253) (e_hg 253) = true := by decide +kernel
set_option maxRecDepth 100000 in
theorem e_c254 : v_all 254 (e_pg 254) (e_hg 254) = true := by decide +kernel
set_option maxRecDepth 100000 in
theorem e_c255 : v_all 255 (e_pg 255) (e_hg 255) = true := by decide +kernel
set_option maxRecDepth 100000 in
theorem e_c256 : v_all 256 (e_pg 256) (e_hg 256) = true := by decide +kernel
set_option maxRecDepth 100000 in
theorem e_c257 : v_all 257 (e_pg 257) (e_hg 257) = true := by decide +kernel
set_option maxRecDepth 100000 in
theorem e_c258 : v_all 258 (e_pg 258) (e_hg 258) = true := by decide +kernel
set_option maxRecDepth 100000 in
theorem e_c259 : v_all 259 (e_pg 259) (e_hg 259) = true := by decide +kernel
set_option maxRecDepth 100000 in
theorem e_c260 : v_all 260 (e_pg 260) (e_hg 260) = true := by decide +kernel
set_option maxRecDepth 100000 in
theorem e_c261 : v_all 261 (e_pg 261) (e_hg 261) = true := by decide +kernel
set_option maxRecDepth 100000 in
theorem e_c262 : v_all 262 (e_pg 262) (e_hg 262) = true := by decide +kernel
set_option maxRecDepth 100000 in
theorem e_c263 : v_all 263 (e_pg 263) (e_hg 263) = true := by decide +kernel
set_option maxRecDepth 100000 in
theorem e_c264 : v_all 264 (e_pg 264) (e_hg 264) = true := by decide +kernel
set_option maxRecDepth 100000 in
theorem e_c265 : v_all 265 (e_pg 265) (e_hg 265) = true := by decide +kernel
set_option maxRecDepth 100000 in
theorem e_c266 : v_all 266 (e_pg 266) (e_hg 266) = true := by decide +kernel
set_option maxRecDepth 100000 in
theorem e_c267 : v_all 267 (e_pg 267) (e_hg 267) = true := by decide +kernel
set_option maxRecDepth 100000 in
theorem e_c268 : v_all 268 (e_pg 268) (e_hg 268) = true := by decide +kernel
set_option maxRecDepth 100000 in
theorem e_c269 : v_all 269 (e_pg 269) (e_hg 269) = true := by decide +kernel
set_option maxRecDepth 100000 in
theorem e_c270 : v_all 270 (e_pg 270) (e_hg 270) = true := by decide +kernel
set_option maxRecDepth 100000 in
theorem e_c271 : v_all 271 (e_pg 271) (e_hg 271) = true := by decide +kernel
set_option maxRecDepth 100000 in
theorem e_c272 : v_all 272 (e_pg 272) (e_hg 272) = true := by decide +kernel
set_option maxRecDepth 100000 in
theorem e_c273 : v_all 273 (e_pg 273) (e_hg 273) = true := by decide +kernel
set_option maxRecDepth 100000 in
theorem e_c274 : v_all 274 (e_pg 274) (e_hg 274) = true := by decide +kernel
set_option maxRecDepth 100000 in
theorem e_c275 : v_all 275 (e_pg 275) (e_hg 275) = true := by decide +kernel
set_option maxRecDepth 100000 in
theorem e_c276 : v_all 276 (e_pg 276) (e_hg 276) = true := by decide +kernel
set_option maxRecDepth 100000 in
theorem e_c277 : v_all 277 (e_pg 277) (e_hg 277) = true := by decide +kernel
set_option maxRecDepth 100000 in
theorem e_c278 : v_all 278 (e_pg 278) (e_hg 278) = true := by decide +kernel
set_option maxRecDepth 100000 in
theorem e_c279 : v_all 279 (e_pg 279) (e_hg 279) = true := by decide +kernel
set_option maxRecDepth 100000 in
theorem e_c280 : v_all 280 (e_pg 280) (e_hg 280) = true := by decide +kernel
set_option maxRecDepth 100000 in
theorem e_c281 : v_all 281 (e_pg 281) (e_hg 281) = true := by decide +kernel
set_option maxRecDepth 100000 in
theorem e_c282 : v_all 282 (e_pg 282) (e_hg 282) = true := by decide +kernel
set_option maxRecDepth 100000 in
theorem e_c283 : v_all 283 (e_pg 283) (e_hg 283) = true := by decide +kernel
set_option maxRecDepth 100000 in
theorem e_c284 : v_all 284 (e_pg 284) (e_hg 284) = true := by decide +kernel
set_option maxRecDepth 100000 in
theorem e_c285 : v_all 285 (e_pg 285) (e_hg 285) = true := by decide +kernel
set_option maxRecDepth 100000 in
theorem e_c286 : v_all 286 (e_pg 286) (e_hg 286) = true := by decide +kernel
set_option maxRecDepth 100000 in
theorem e_c287 : v_all 287 (e_pg 287) (e_hg 287) = true := by decide +kernel
