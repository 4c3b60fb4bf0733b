/-! THE CHECKS of the methods from 0 on. -/
set_option maxRecDepth 100000 in
theorem e_n0 : v_mt 0 = true := by decide +kernel
set_option maxRecDepth 100000 in
theorem e_c1 : v_all 1 (e_pg 1) (e_hg 1) = true := by decide +kernel
set_option maxRecDepth 100000 in
theorem e_n1 : v_mt 1 = true := by decide +kernel
set_option maxRecDepth 100000 in
theorem e_c2 : v_all 2 (e_pg 2) (e_hg 2) = true := by decide +kernel
set_option maxRecDepth 100000 in
theorem e_n2 : v_mt 2 = true := by decide +kernel
set_option maxRecDepth 100000 in
theorem e_c3 : v_all 3 (e_pg 3) (e_hg 3) = true := by decide +kernel
set_option maxRecDepth 100000 in
theorem e_n3 : v_mt 3 = true := by decide +kernel
set_option maxRecDepth 100000 in
theorem e_c4 : v_all 4 (e_pg 4) (e_hg 4) = true := by decide +kernel
set_option maxRecDepth 100000 in
theorem e_n4 : v_mt 4 = true := by decide +kernel
set_option maxRecDepth 100000 in
theorem e_c5 : v_all 5 (e_pg 5) (e_hg 5) = true := by decide +kernel
set_option maxRecDepth 100000 in
theorem e_n5 : v_mt 5 = true := by decide +kernel
set_option maxRecDepth 100000 in
theorem e_c6 : v_all 6 (e_pg 6) (e_hg 6) = true := by decide +kernel
set_option maxRecDepth 100000 in
theorem e_n6 : v_mt 6 = true := by decide +kernel
set_option maxRecDepth 100000 in
theorem e_c7 : v_all 7 (e_pg 7) (e_hg 7) = true := by decide +kernel
set_option maxRecDepth 100000 in
theorem e_n7 : v_mt 7 = true := by decide +kernel
set_option maxRecDepth 100000 in
theorem e_c8 : v_all 8 (e_pg 8) (e_hg 8) = true := by decide +kernel
set_option maxRecDepth 100000 in
theorem e_n8 : v_mt 8 = true := by decide +kernel
set_option maxRecDepth 100000 in
theorem e_c9 : v_all 9 (e_pg 9) (e_hg 9) = true := by decide +kernel
set_option maxRecDepth 100000 in
theorem e_n9 : v_mt 9 = true := by decide +kernel
set_option maxRecDepth 100000 in
theorem e_c10 : v_all 10 (e_pg 10) (e_hg 10) = true := by decide +kernel
set_option maxRecDepth 100000 in
theorem e_n10 : v_mt 10 = true := by decide +kernel
set_option maxRecDepth 100000 in
theorem e_c11 : v_all 11 (e_pg 11) (e_hg 11) = true := by decide +kernel
set_option maxRecDepth 100000 in
theorem e_n11 : v_mt 11 = true := by decide +kernel
set_option maxRecDepth 100000 in
theorem e_c12 : v_all 12 (e_pg 12) (e_hg 12) = true := by decide +kernel
set_option maxRecDepth 100000 in
theorem e_n12 : v_mt 12 = true := by decide +kernel
set_option maxRecDepth 100000 in
theorem e_c13 : v_all 13 (e_pg 13) (e_hg 13) = true := by decide +kernel
set_option maxRecDepth 100000 in
theorem e_n13 : v_mt 13 = true := by decide +kernel
set_option maxRecDepth 100000 in
theorem e_c14 : v_all 14 (e_pg 14) (e_hg 14) = true := by decide +kernel
set_option maxRecDepth 100000 in
theorem e_n14 : v_mt 14 = true := by decide +kernel
set_option maxRecDepth 100000 in
theorem e_c15 : v_all 15 (e_pg 15) (e_hg 15) = true := by decide +kernel
set_option maxRecDepth 100000 in
theorem e_n15 : v_mt 15 = true := by decide +kernel
set_option maxRecDepth 100000 in
theorem e_c16 : v_all 16 (e_pg 16) (e_hg 16) = true := by decide +kernel
set_option maxRecDepth 100000 in
theorem e_n16 : v_mt 16 = true := by decide +kernel
set_option maxRecDepth 100000 in
theorem e_c17 : v_all 17 (e_pg 17) (e_hg 17) = true := by decide +kernel
set_option maxRecDepth 100000 in
theorem e_n17 : v_mt 17 = true := by decide +kernel
set_option maxRecDepth 100000 in
theorem e_c18 : v_all 18 (e_pg 18) (e_hg 18) = true := by decide +kernel
set_option maxRecDepth 100000 in
theorem e_n18 : v_mt 18 = true := by decide +kernel
set_option maxRecDepth 100000 in
theorem e_c19 : v_all 19 (e_pg 19) (e_hg 19) = true := by decide +kernel
set_option maxRecDepth 100000 in
theorem e_n19 : v_mt 19 = true := by decide +kernel
set_option maxRecDepth 100000 in
theorem e_c20 : v_all 20 (e_pg 20) (e_hg 20) = true := by decide +kernel
set_option maxRecDepth 100000 in
theorem e_n20 : v_mt 20 = true := by decide +kernel
set_option maxRecDepth 100000 in
theorem e_c21 : v_all 21 (e_pg 21) (e_hg 21) = true := by decide +kernel
set_option maxRecDepth 100000 in
theorem e_n21 : v_mt 21 = true := by decide +kernel
set_option maxRecDepth 100000 in
theorem e_c22 : v_all 22 (e_pg 22) (e_hg 22) = true := by decide +kernel
set_option maxRecDepth 100000 in
theorem e_n22 : v_mt 22 = true := by decide +kernel
set_option maxRecDepth 100000 in
theorem e_c23 : v_all 23 (e_pg 23) (e_hg 23) = true := by decide +kernel
set_option maxRecDepth 100000 in
theorem e_n23 : v_mt 23 = true := by decide +kernel
set_option maxRecDepth 100000 in
theorem e_c24 : v_all 24 (e_pg 24) (e_hg 24) = true := by decide +kernel
set_option maxRecDepth 100000 in
theorem e_n24 : v_mt 24 = true := by decide +kernel
set_option maxRecDepth 100000 in
theorem e_c25 : v_all 25 (e_pg 25) (e_hg 25) = true := by decide +kernel
set_option maxRecDepth 100000 in
theorem e_n25 : v_mt 25 = true := by decide +kernel
set_option maxRecDepth 100000 in
theorem e_c26 : v_all 26 (e_pg 26) (e_hg 26) = true := by decide +kernel
set_option maxRecDepth 100000 in
theorem e_n26 : v_mt 26 = true := by decide +kernel
set_option maxRecDepth 100000 in
theorem e_c27 : v_all 27 (e_pg 27) (e_hg 27) = true := by decide +kernel
set_option maxRecDepth 100000 in
theorem e_n27 : v_mt 27 = true := by decide +kernel
set_option maxRecDepth 100000 in
theorem e_c28 : v_all 28 (e_pg 28) (e_hg 28) = true := by decide +kernel
set_option maxRecDepth 100000 in
theorem e_n28 : v_mt 28 = true := by decide +kernel
set_option maxRecDepth 100000 in
theorem e_c29 : v_all 29 (e_pg 29) (e_hg 29) = true := by decide +kernel
set_option maxRecDepth 100000 in
theorem e_n29 : v_mt 29 = true := by decide +kernel
set_option maxRecDepth 100000 in
theorem e_c30 : v_all 30 (e_pg 30) (e_hg 30) = true := by decide +kernel
set_option maxRecDepth 100000 in
theorem e_n30 : v_mt 30 = true := by decide +kernel
set_option maxRecDepth 100000 in
theorem e_c31 : v_all 31 (e_pg 31) (e_hg 31) = true := by decide +kernel
set_option maxRecDepth 100000 in
theorem e_n31 : v_mt 31 = true := by decide +kernel
set_option maxRecDepth 100000 in
theorem e_c32 : v_all 32 (e_pg 32) (e_hg 32) = true := by decide +kernel
set_option maxRecDepth 100000 in
theorem e_n32 : v_mt 32 = true := by decide +kernel
set_option maxRecDepth 100000 in
theorem e_c33 : v_all 33 (e_pg 33) (e_hg 33) = true := by decide +kernel
set_option maxRecDepth 100000 in
theorem e_n33 : v_mt 33 = true := by decide +kernel
set_option maxRecDepth 100000 in
theorem e_c34 : v_all 34 (e_pg 34) (e_hg 34) = true := by decide +kernel
set_option maxRecDepth 100000 in
theorem e_n34 : v_mt 34 = true := by decide +kernel
set_option maxRecDepth 100000 in
theorem e_c35 : v_all 35 (e_pg 35) (e_hg 35) = true := by decide +kernel
set_option maxRecDepth 100000 in
theorem e_n35 : v_mt 35 = true := by decide +kernel
set_option maxRecDepth 100000 in
theorem e_c36 : v_all 36 (e_pg 36) (e_hg 36) = true := by decide +kernel
set_option maxRecDepth 100000 in
theorem e_n36 : v_mt 36 = true := by decide +kernel
set_option maxRecDepth 100000 in
theorem e_c37 : v_all 37 (e_pg 37) (e_hg 37) = true := by decide +kernel
set_option maxRecDepth 100000 in
theorem e_n37 : v_mt 37 = true := by decide +kernel
set_option maxRecDepth 100000 in
theorem e_c38 : v_all 38 (e_pg 38) (e_hg 38) = true := by decide +kernel
set_option maxRecDepth 100000 in
theorem e_n38 : v_mt 38 = true := by decide +kernel
set_option maxRecDepth 100000 in
theorem e_c39 : v_all 39 (e_pg 39) (e_hg 39) = true := by decide +kernel
set_option maxRecDepth 100000 in
theorem e_n39 : v_mt 39 = true := by decide +kernel
set_option maxRecDepth 100000 in
theorem e_c40 : v_all 40 (e_pg 40) (e_hg 40) = true := by decide +kernel
set_option maxRecDepth 100000 in
theorem e_n40 : v_mt 40 = true := by decide +kernel
set_option maxRecDepth 100000 in
theorem e_c41 : v_all 41 (e_pg 41) (e_hg 41) = true := by decide +kernel
set_option maxRecDepth 100000 in
theorem e_n41 : v_mt 41 = true := by decide +kernel
set_option maxRecDepth 100000 in
theorem e_c42 : v_all 42 (e_pg 42) (e_hg 42) = true := by decide +kernel
set_option maxRecDepth 100000 in
theorem e_n42 : v_mt 42 = true := by decide +kernel
set_option maxRecDepth 100000 in
theorem e_c43 : v_all 43 (e_pg 43) (e_hg 43) = true := by decide +kernel
set_option maxRecDepth 100000 in
theorem e_n43 : v_mt 43 = true := by decide +kernel
set_option maxRecDepth 100000 in
theorem e_c44 : v_all 44 (e_pg 44) (e_hg 44) = true := by decide +kernel
set_option maxRecDepth 100000 in
theorem e_n44 : v_mt 44 = true := by decide +kernel
set_option maxRecDepth 100000 in
theorem e_c45 : v_all 45 (e_pg 45) (e_hg 45) = true := by decide +kernel
set_option maxRecDepth 100000 in
theorem e_n45 : v_mt 45 = true := by decide +kernel
set_option maxRecDepth 100000 in
theorem e_c46 : v_all 46 (e_pg 46) (e_hg 46) = true := by decide +kernel
set_option maxRecDepth 100000 in
theorem e_n46 : v_mt 46 = true := by decide +kernel
set_option maxRecDepth 100000 in
theorem e_c47 : v_all 47 (e_pg 47) (e_hg 47) = true := by decide +kernel
set_option maxRecDepth 100000 in
theorem e_n47 : v_mt 47 = true := by decide +kernel
set_option maxRecDepth 100000 in
theorem e_c48 : v_all 48 (e_pg 48) (e_hg 48) = true := by decide +kernel
set_option maxRecDepth 100000 in
theorem e_n48 : v_mt 48 = true := by decide +kernel
set_option maxRecDepth 100000 in
theorem e_c49 : v_all 49 (e_pg 49) (e_hg 49) = true := by decide +kernel
set_option maxRecDepth 100000 in
theorem e_n49 : v_mt 49 = true := by decide +kernel
set_option maxRecDepth 100000 in
theorem e_c50 : v_all 50 (e_pg 50) (e_hg 50) = true := by decide +kernel
set_option maxRecDepth 100000 in
theorem e_n50 : v_mt 50 = true := by decide +kernel
set_option maxRecDepth 100000 in
theorem e_c51 : v_all 51 (e_pg 51) (e_hg 51) = true := by decide +kernel
set_option maxRecDepth 100000 in
theorem e_n51 : v_mt 51 = true := by decide +kernel
set_option maxRecDepth 100000 in
theorem e_c52 : v_all 52 (e_pg 52) (e_hg 52) = true := by decide +kernel
set_option maxRecDepth 100000 in
theorem e_n52 : v_mt 52 = true := by decide +kernel
set_option maxRecDepth 100000 in
theorem e_c53 : v_all 53 (e_pg 53) (e_hg 53) = true := by decide +kernel
set_option maxRecDepth 100000 in
theorem e_n53 : v_mt 53 = true := by decide +kernel
set_option maxRecDepth 100000 in
theorem e_c54 : v_all 54 (e_pg 54) (e_hg 54) = true := by decide +kernel
set_option maxRecDepth 100000 in
theorem e_n54 : v_mt 54 = true := by decide +kernel
set_option maxRecDepth 100000 in
theorem e_c55 : v_all 55 (e_pg 55) (e_hg 55) = true := by decide +kernel
set_option maxRecDepth 100000 in
theorem e_n55 : v_mt 55 = true := by decide +kernel
set_option maxRecDepth 100000 in
theorem e_c56 : v_all 56 (e_pg 56) (e_hg 56) = true := by decide +kernel
set_option maxRecDepth 100000 in
theorem e_n56 : v_mt 56 = true := by decide +kernel
set_option maxRecDepth 100000 in
theorem e_c57 : v_all 57 (e_pg 57) (e_hg 57) = true := by decide +kernel
set_option maxRecDepth 100000 in
theorem e_n57 : v_mt 57 = true := by decide +kernel
set_option maxRecDepth 100000 in
theorem e_c58 : v_all 58 (e_pg 58) (e_hg 58) = true := by decide +kernel
set_option maxRecDepth 100000 in
theorem e_n58 : v_mt 58 = true := by decide +kernel
set_option maxRecDepth 100000 in
theorem e_c59 : v_all 59 (e_pg 59) (e_hg 59) = true := by decide +kernel
set_option maxRecDepth 100000 in
theorem e_n59 : v_mt 59 = true := by decide +kernel
set_option maxRecDepth 100000 in
theorem e_c60 : v_all 60 (e_pg 60) (e_hg 60) = true := by decide +kernel
set_option maxRecDepth 100000 in
theorem e_n60 : v_mt 60 = true := by decide +kernel
set_option maxRecDepth 100000 in
theorem e_c61 : v_all 61 (e_pg 61) (e_hg 61) = true := by decide +kernel
set_option maxRecDepth 100000 in
theorem e_n61 : v_mt 61 = true := by decide +kernel
set_option maxRecDepth 100000 in
theorem e_c62 : v_all 62 (e_pg 62) (e_hg 62) = true := by decide +kernel
set_option maxRecDepth 100000 in
theorem e_n62 : v_mt 62 = true := by decide +kernel
set_option maxRecDepth 100000 in
theorem e_c63 : v_all 63 (e_pg 63) (e_hg 63) = true := by decide +kernel
set_option maxRecDepth 100000 in
theorem e_n63 : v_mt 63 = true := by decide +kernel
set_option maxRecDepth 100000 in
theorem e_c64 : v_all 64 (e_pg 64) (e_hg 64) = true := by decide +kernel
set_option maxRecDepth 100000 in
theorem e_n64 : v_mt 64 = true := by decide +kernel
set_option maxRecDepth 100000 in
theorem e_c65 : v_all 65 (e_pg 65) (e_hg 65) = true := by decide +kernel
set_option maxRecDepth 100000 in
theorem e_n65 : v_mt 65 = true := by decide +kernel
set_option maxRecDepth 100000 in
theorem e_c66 : v_all 66 (e_pg 66) (e_hg 66) = true := by decide +kernel
set_option maxRecDepth 100000 in
theorem e_n66 : v_mt 66 = true := by decide +kernel
set_option maxRecDepth 100000 in
theorem e_c67 : v_all 67 (e_pg 67) (e_hg 67) = true := by decide +kernel
set_option maxRecDepth 100000 in
theorem e_n67 : v_mt 67 = true := by decide +kernel
set_option maxRecDepth 100000 in
theorem e_c68 : v_all 68 (e_pg 68) (e_hg 68) = true := by decide +kernel
set_option maxRecDepth 100000 in
theorem e_n68 : v_mt 68 = true := by decide +kernel
set_option maxRecDepth 100000 in
theorem e_c69 : v_all 69 (e_pg 69) (e_hg 69) = true := by decide +kernel
set_option maxRecDepth 100000 in
theorem e_n69 : v_mt 69 = true := by decide +kernel
set_option maxRecDepth 100000 in
theorem e_c70 : v_all 70 (e_pg 70) (e_hg 70) = true := by decide +kernel
set_option maxRecDepth 100000 in
theorem e_n70 : v_mt 70 = true := by decide +kernel
set_option maxRecDepth 100000 in
theorem e_c71 : v_all 71 (e_pg 71) (e_hg 71) = true := by decide +kernel
set_option maxRecDepth 100000 in
theorem e_n71 : v_mt 71 = true := by decide +kernel
