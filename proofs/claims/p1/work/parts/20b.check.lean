/-! THE CHECKS of the methods from 72 on. -/
set_option maxRecDepth 100000 in
theorem e_c72 : v_all 72 (e_pg 72) (e_hg 72) = true := by decide +kernel
set_option maxRecDepth 100000 in
theorem e_n72 : v_mt 72 = true := by decide +kernel
set_option maxRecDepth 100000 in
theorem e_c73 : v_all 73 (e_pg 73) (e_hg 73) = true := by decide +kernel
set_option maxRecDepth 100000 in
theorem e_n73 : v_mt 73 = true := by decide +kernel
set_option maxRecDepth 100000 in
theorem e_c74 : v_all 74 (e_pg 74) (e_hg 74) = true := by decide +kernel
set_option maxRecDepth 100000 in
theorem e_n74 : v_mt 74 = true := by decide +kernel
set_option maxRecDepth 100000 in
theorem e_c75 : v_all 75 (e_pg 75) (e_hg 75) = true := by decide +kernel
set_option maxRecDepth 100000 in
theorem e_n75 : v_mt 75 = true := by decide +kernel
set_option maxRecDepth 100000 in
theorem e_c76 : v_all 76 (e_pg 76) (e_hg 76) = true := by decide +kernel
set_option maxRecDepth 100000 in
theorem e_n76 : v_mt 76 = true := by decide +kernel
set_option maxRecDepth 100000 in
theorem e_c77 : v_all 77 (e_pg 77) (e_hg 77) = true := by decide +kernel
set_option maxRecDepth 100000 in
theorem e_n77 : v_mt 77 = true := by decide +kernel
set_option maxRecDepth 100000 in
theorem e_c78 : v_all 78 (e_pg 78) (e_hg 78) = true := by decide +kernel
set_option maxRecDepth 100000 in
theorem e_n78 : v_mt 78 = true := by decide +kernel
set_option maxRecDepth 100000 in
theorem e_c79 : v_all 79 (e_pg 79) (e_hg 79) = true := by decide +kernel
set_option maxRecDepth 100000 in
theorem e_n79 : v_mt 79 = true := by decide +kernel
set_option maxRecDepth 100000 in
theorem e_c80 : v_all 80 (e_pg 80) (e_hg 80) = true := by decide +kernel
set_option maxRecDepth 100000 in
theorem e_n80 : v_mt 80 = true := by decide +kernel
set_option maxRecDepth 100000 in
theorem e_c81 : v_all 81 (e_pg 81) (e_hg 81) = true := by decide +kernel
set_option maxRecDepth 100000 in
theorem e_n81 : v_mt 81 = true := by decide +kernel
set_option maxRecDepth 100000 in
theorem e_c82 : v_all 82 (e_pg 82) (e_hg 82) = true := by decide +kernel
set_option maxRecDepth 100000 in
theorem e_n82 : v_mt 82 = true := by decide +kernel
set_option maxRecDepth 100000 in
theorem e_c83 : v_all 83 (e_pg 83) (e_hg 83) = true := by decide +kernel
set_option maxRecDepth 100000 in
theorem e_n83 : v_mt 83 = true := by decide +kernel
set_option maxRecDepth 100000 in
theorem e_c84 : v_all 84 (e_pg 84) (e_hg 84) = true := by decide +kernel
set_option maxRecDepth 100000 in
theorem e_n84 : v_mt 84 = true := by decide +kernel
set_option maxRecDepth 100000 in
theorem e_c85 : v_all 85 (e_pg 85) (e_hg 85) = true := by decide +kernel
set_option maxRecDepth 100000 in
theorem e_n85 : v_mt 85 = true := by decide +kernel
set_option maxRecDepth 100000 in
theorem e_c86 : v_all 86 (e_pg 86) (e_hg 86) = true := by decide +kernel
set_option maxRecDepth 100000 in
theorem e_n86 : v_mt 86 = true := by decide +kernel
set_option maxRecDepth 100000 in
theorem e_c87 : v_all 87 (e_pg 87) (e_hg 87) = true := by decide +kernel
set_option maxRecDepth 100000 in
theorem e_n87 : v_mt 87 = true := by decide +kernel
set_option maxRecDepth 100000 in
theorem e_c88 : v_all 88 (e_pg 88) (e_hg 88) = true := by decide +kernel
set_option maxRecDepth 100000 in
theorem e_n88 : v_mt 88 = true := by decide +kernel
set_option maxRecDepth 100000 in
theorem e_c89 : v_all 89 (e_pg 89) (e_hg 89) = true := by decide +kernel
set_option maxRecDepth 100000 in
theorem e_n89 : v_mt 89 = true := by decide +kernel
set_option maxRecDepth 100000 in
theorem e_c90 : v_all 90 (e_pg 90) (e_hg 90) = true := by decide +kernel
set_option maxRecDepth 100000 in
theorem e_n90 : v_mt 90 = true := by decide +kernel
set_option maxRecDepth 100000 in
theorem e_c91 : v_all 91 (e_pg 91) (e_hg 91) = true := by decide +kernel
set_option maxRecDepth 100000 in
theorem e_n91 : v_mt 91 = true := by decide +kernel
set_option maxRecDepth 100000 in
theorem e_c92 : v_all 92 (e_pg 92) (e_hg 92) = true := by decide +kernel
set_option maxRecDepth 100000 in
theorem e_n92 : v_mt 92 = true := by decide +kernel
set_option maxRecDepth 100000 in
theorem e_c93 : v_all 93 (e_pg 93) (e_hg 93) = true := by decide +kernel
set_option maxRecDepth 100000 in
theorem e_n93 : v_mt 93 = true := by decide +kernel
set_option maxRecDepth 100000 in
theorem e_c94 : v_all 94 (e_pg 94) (e_hg 94) = true := by decide +kernel
set_option maxRecDepth 100000 in
theorem e_n94 : v_mt 94 = true := by decide +kernel
set_option maxRecDepth 100000 in
theorem e_c95 : v_all 95 (e_pg 95) (e_hg 95) = true := by decide +kernel
set_option maxRecDepth 100000 in
theorem e_n95 : v_mt 95 = true := by decide +kernel
set_option maxRecDepth 100000 in
theorem e_c96 : v_all 96 (e_pg 96) (e_hg 96) = true := by decide +kernel
set_option maxRecDepth 100000 in
theorem e_n96 : v_mt 96 = true := by decide +kernel
set_option maxRecDepth 100000 in
theorem e_c97 : v_all 97 (e_pg 97) (e_hg 97) = true := by decide +kernel
set_option maxRecDepth 100000 in
theorem e_n97 : v_mt 97 = true := by decide +kernel
set_option maxRecDepth 100000 in
theorem e_c98 : v_all 98 (e_pg 98) (e_hg 98) = true := by decide +kernel
set_option maxRecDepth 100000 in
theorem e_n98 : v_mt 98 = true := by decide +kernel
set_option maxRecDepth 100000 in
theorem e_c99 : v_all 99 (e_pg 99) (e_hg 99) = true := by decide +kernel
set_option maxRecDepth 100000 in
theorem e_n99 : v_mt 99 = true := by decide +kernel
set_option maxRecDepth 100000 in
theorem e_c100 : v_all 100 (e_pg 100) (e_hg 100) = true := by decide +kernel
set_option maxRecDepth 100000 in
theorem e_n100 : v_mt 100 = true := by decide +kernel
set_option maxRecDepth 100000 in
theorem e_c101 : v_all 101 (e_pg 101) (e_hg 101) = true := by decide +kernel
set_option maxRecDepth 100000 in
theorem e_n101 : v_mt 101 = true := by decide +kernel
set_option maxRecDepth 100000 in
theorem e_c102 : v_all 102 (e_pg 102) (e_hg 102) = true := by decide +kernel
set_option maxRecDepth 100000 in
theorem e_n102 : v_mt 102 = true := by decide +kernel
set_option maxRecDepth 100000 in
theorem e_c103 : v_all 103 (e_pg 103) (e_hg 103) = true := by decide +kernel
set_option maxRecDepth 100000 in
theorem e_n103 : v_mt 103 = true := by decide +kernel
set_option maxRecDepth 100000 in
theorem e_c104 : v_all 104 (e_pg 104) (e_hg 104) = true := by decide +kernel
set_option maxRecDepth 100000 in
theorem e_n104 : v_mt 104 = true := by decide +kernel
set_option maxRecDepth 100000 in
theorem e_c105 : v_all 105 (e_pg 105) (e_hg 105) = true := by decide +kernel
set_option maxRecDepth 100000 in
theorem e_n105 : v_mt 105 = true := by decide +kernel
set_option maxRecDepth 100000 in
theorem e_c106 : v_all 106 (e_pg 106) (e_hg 106) = true := by decide +kernel
set_option maxRecDepth 100000 in
theorem e_n106 : v_mt 106 = true := by decide +kernel
set_option maxRecDepth 100000 in
theorem e_c107 : v_all 107 (e_pg 107) (e_hg 107) = true := by decide +kernel
set_option maxRecDepth 100000 in
theorem e_n107 : v_mt 107 = true := by decide +kernel
set_option maxRecDepth 100000 in
theorem e_c108 : v_all 108 (e_pg 108) (e_hg 108) = true := by decide +kernel
set_option maxRecDepth 100000 in
theorem e_n108 : v_mt 108 = true := by decide +kernel
set_option maxRecDepth 100000 in
theorem e_c109 : v_all 109 (e_pg 109) (e_hg 109) = true := by decide +kernel
set_option maxRecDepth 100000 in
theorem e_n109 : v_mt 109 = true := by decide +kernel
set_option maxRecDepth 100000 in
theorem e_c110 : v_all 110 (e_pg 110) (e_hg 110) = true := by decide +kernel
set_option maxRecDepth 100000 in
theorem e_n110 : v_mt 110 = true := by decide +kernel
set_option maxRecDepth 100000 in
theorem e_c111 : v_all 111 (e_pg 111) (e_hg 111) = true := by decide +kernel
set_option maxRecDepth 100000 in
theorem e_n111 : v_mt 111 = true := by decide +kernel
set_option maxRecDepth 100000 in
theorem e_c112 : v_all 112 (e_pg 112) (e_hg 112) = true := by decide +kernel
set_option maxRecDepth 100000 in
theorem e_n112 : v_mt 112 = true := by decide +kernel
set_option maxRecDepth 100000 in
theorem e_c113 : v_all 113 (e_pg 113) (e_hg 113) = true := by decide +kernel
set_option maxRecDepth 100000 in
theorem e_n113 : v_mt 113 = true := by decide +kernel
set_option maxRecDepth 100000 in
theorem e_c114 : v_all 114 (e_pg 114) (e_hg 114) = true := by decide +kernel
set_option maxRecDepth 100000 in
theorem e_n114 : v_mt 114 = true := by decide +kernel
set_option maxRecDepth 100000 in
theorem e_c115 : v_all 115 (e_pg 115) (e_hg 115) = true := by decide +kernel
set_option maxRecDepth 100000 in
theorem e_n115 : v_mt 115 = true := by decide +kernel
set_option maxRecDepth 100000 in
theorem e_c116 : v_all 116 (e_pg 116) (e_hg 116) = true := by decide +kernel
set_option maxRecDepth 100000 in
theorem e_n116 : v_mt 116 = true := by decide +kernel
set_option maxRecDepth 100000 in
theorem e_c117 : v_all 117 (e_pg 117) (e_hg 117) = true := by decide +kernel
set_option maxRecDepth 100000 in
theorem e_n117 : v_mt 117 = true := by decide +kernel
set_option maxRecDepth 100000 in
theorem e_c118 : v_all 118 (e_pg 118) (e_hg 118) = true := by decide +kernel
set_option maxRecDepth 100000 in
theorem e_n118 : v_mt 118 = true := by decide +kernel
set_option maxRecDepth 100000 in
theorem e_c119 : v_all 119 (e_pg 119) (e_hg 119) = true := by decide +kernel
set_option maxRecDepth 100000 in
theorem e_n119 : v_mt 119 = true := by decide +kernel
set_option maxRecDepth 100000 in
theorem e_c120 : v_all 120 (e_pg 120) (e_hg 120) = true := by decide +kernel
set_option maxRecDepth 100000 in
theorem e_n120 : v_mt 120 = true := by decide +kernel
set_option maxRecDepth 100000 in
theorem e_c121 : v_all 121 (e_pg 121) (e_hg 121) = true := by decide +kernel
set_option maxRecDepth 100000 in
theorem e_n121 : v_mt 121 = true := by decide +kernel
set_option maxRecDepth 100000 in
theorem e_c122 : v_all 122 (e_pg 122) (e_hg 122) = true := by decide +kernel
set_option maxRecDepth 100000 in
theorem e_n122 : v_mt 122 = true := by decide +kernel
set_option maxRecDepth 100000 in
theorem e_c123 : v_all 123 (e_pg 123) (e_hg 123) = true := by decide +kernel
set_option maxRecDepth 100000 in
theorem e_n123 : v_mt 123 = true := by decide +kernel
set_option maxRecDepth 100000 in
theorem e_c124 : v_all 124 (e_pg 124) (e_hg 124) = true := by decide +kernel
set_option maxRecDepth 100000 in
theorem e_n124 : v_mt 124 = true := by decide +kernel
set_option maxRecDepth 100000 in
theorem e_c125 : v_all 125 (e_pg 125) (e_hg 125) = true := by decide +kernel
set_option maxRecDepth 100000 in
theorem e_n125 : v_mt 125 = true := by decide +kernel
set_option maxRecDepth 100000 in
theorem e_c126 : v_all 126 (e_pg 126) (e_hg 126) = true := by decide +kernel
set_option maxRecDepth 100000 in
theorem e_n126 : v_mt 126 = true := by decide +kernel
set_option maxRecDepth 100000 in
theorem e_c127 : v_all 127 (e_pg 127) (e_hg 127) = true := by decide +kernel
set_option maxRecDepth 100000 in
theorem e_n127 : v_mt 127 = true := by decide +kernel
set_option maxRecDepth 100000 in
theorem e_c128 : v_all 128 (e_pg 128) (e_hg 128) = true := by decide +kernel
set_option maxRecDepth 100000 in
theorem e_n128 : v_mt 128 = true := by decide +kernel
set_option maxRecDepth 100000 in
theorem e_c129 : v_all 129 (e_pg 129) (e_hg 129) = true := by decide +kernel
set_option maxRecDepth 100000 in
theorem e_n129 : v_mt 129 = true := by decide +kernel
set_option maxRecDepth 100000 in
theorem e_c130 : v_all 130 (e_pg 130) (e_hg 130) = true := by decide +kernel
set_option maxRecDepth 100000 in
theorem e_n130 : v_mt 130 = true := by decide +kernel
set_option maxRecDepth 100000 in
theorem e_c131 : v_all 131 (e_pg 131) (e_hg 131) = true := by decide +kernel
set_option maxRecDepth 100000 in
theorem e_n131 : v_mt 131 = true := by decide +kernel
set_option maxRecDepth 100000 in
theorem e_c132 : v_all 132 (e_pg 132) (e_hg 132) = true := by decide +kernel
set_option maxRecDepth 100000 in
theorem e_n132 : v_mt 132 = true := by decide +kernel
set_option maxRecDepth 100000 in
theorem e_c133 : v_all 133 (e_pg 133) (e_hg 133) = true := by decide +kernel
set_option maxRecDepth 100000 in
theorem e_n133 : v_mt 133 = true := by decide +kernel
set_option maxRecDepth 100000 in
theorem e_c134 : v_all 134 (e_pg 134) (e_hg 134) = true := by decide +kernel
set_option maxRecDepth 100000 in
theorem e_n134 : v_mt 134 = true := by decide +kernel
set_option maxRecDepth 100000 in
theorem e_c135 : v_all 135 (e_pg 135) (e_hg 135) = true := by decide +kernel
set_option maxRecDepth 100000 in
theorem e_n135 : v_mt 135 = true := by decide +kernel
set_option maxRecDepth 100000 in
theorem e_c136 : v_all 136 (e_pg 136) (e_hg 136) = true := by decide +kernel
set_option maxRecDepth 100000 in
theorem e_n136 : v_mt 136 = true := by decide +kernel
set_option maxRecDepth 100000 in
theorem e_c137 : v_all 137 (e_pg 137) (e_hg 137) = true := by decide +kernel
set_option maxRecDepth 100000 in
theorem e_n137 : v_mt 137 = true := by decide +kernel
set_option maxRecDepth 100000 in
theorem e_c138 : v_all 138 (e_pg 138) (e_hg 138) = true := by decide +kernel
set_option maxRecDepth 100000 in
theorem e_n138 : v_mt 138 = true := by decide +kernel
set_option maxRecDepth 100000 in
theorem e_c139 : v_all 139 (e_pg 139) (e_hg 139) = true := by decide +kernel
set_option maxRecDepth 100000 in
theorem e_n139 : v_mt 139 = true := by decide +kernel
set_option maxRecDepth 100000 in
theorem e_c140 : v_all 140 (e_pg 140) (e_hg 140) = true := by decide +kernel
set_option maxRecDepth 100000 in
theorem e_n140 : v_mt 140 = true := by decide +kernel
set_option maxRecDepth 100000 in
theorem e_c141 : v_all 141 (e_pg 141) (e_hg 141) = true := by decide +kernel
set_option maxRecDepth 100000 in
theorem e_n141 : v_mt 141 = true := by decide +kernel
set_option maxRecDepth 100000 in
theorem e_c142 : v_all 142 (e_pg 142) (e_hg 142) = true := by decide +kernel
set_option maxRecDepth 100000 in
theorem e_n142 : v_mt 142 = true := by decide +kernel
set_option maxRecDepth 100000 in
theorem e_c143 : v_all 143 (e_pg 143) (e_hg 143) = true := by decide +kernel
set_option maxRecDepth 100000 in
theorem e_n143 : v_mt 143 = true := by decide +kernel
