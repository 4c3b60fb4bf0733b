/-! THE CHECKS of the law's own entries. -/
set_option maxRecDepth 100000 in
theorem e_d0 : v_seg 0 40 (e_p0.drop 0) (e_h0.drop 0) = true := by decide +kernel
set_option maxRecDepth 100000 in
theorem e_d1 : v_seg 0 40 (e_p0.drop 40) (e_h0.drop 40) = true := by decide +kernel
set_option maxRecDepth 100000 in
theorem e_d2 : v_seg 0 40 (e_p0.drop 80) (e_h0.drop 80) = true := by decide +kernel
set_option maxRecDepth 100000 in
theorem e_d3 : v_seg 0 40 (e_p0.drop 120) (e_h0.drop 120) = true := by decide +kernel
set_option maxRecDepth 100000 in
theorem e_d4 : v_seg 0 40 (e_p0.drop 160) (e_h0.drop 160) = true := by decide +kernel
set_option maxRecDepth 100000 in
theorem e_d5 : v_seg 0 40 (e_p0.drop 200) (e_h0.drop 200) = true := by decide +kernel
set_option maxRecDepth 100000 in
theorem e_d6 : v_seg 0 40 (e_p0.drop 240) (e_h0.drop 240) = true := by decide +kernel
set_option maxRecDepth 100000 in
theorem e_d7 : v_seg 0 40 (e_p0.drop 280) (e_h0.drop 280) = true := by decide +kernel
set_option maxRecDepth 100000 in
theorem e_d8 : v_seg 0 40 (e_p0.drop 320) (e_h0.drop 320) = true := by decide +kernel
set_option maxRecDepth 100000 in
theorem e_d9 : v_seg 0 40 (e_p0.drop 360) (e_h0.drop 360) = true := by decide +kernel
set_option maxRecDepth 100000 in
theorem e_d10 : v_seg 0 40 (e_p0.drop 400) (e_h0.drop 400) = true := by decide +kernel
set_option maxRecDepth 100000 in
theorem e_d11 : v_seg 0 40 (e_p0.drop 440) (e_h0.drop 440) = true := by decide +kernel
set_option maxRecDepth 100000 in
theorem e_d12 : v_seg 0 40 (e_p0.drop 480) (e_h0.drop 480) = true := by decide +kernel
set_option maxRecDepth 100000 in
theorem e_d13 : v_seg 0 40 (e_p0.drop 520) (e_h0.drop 520) = true := by decide +kernel
set_option maxRecDepth 100000 in
theorem e_d14 : v_seg 0 40 (e_p0.drop 560) (e_h0.drop 560) = true := by decide +kernel
set_option maxRecDepth 100000 in
theorem e_d15 : v_seg 0 40 (e_p0.drop 600) (e_h0.drop 600) = true := by decide +kernel
set_option maxRecDepth 100000 in
theorem e_d16 : v_seg 0 40 (e_p0.drop 640) (e_h0.drop 640) = true := by decide +kernel
set_option maxRecDepth 100000 in
theorem e_d17 : v_seg 0 40 (e_p0.drop 680) (e_h0.drop 680) = true := by decide +kernel
set_option maxRecDepth 100000 in
theorem e_d18 : v_seg 0 40 (e_p0.drop 720) (e_h0.drop 720) = true := by decide +kernel
set_option maxRecDepth 100000 in
theorem e_d19 : v_seg 0 40 (e_p0.drop 760) (e_h0.drop 760) = true := by decide +kernel
set_option maxRecDepth 100000 in
theorem e_d20 : v_seg 0 40 (e_p0.drop 800) (e_h0.drop 800) = true := by decide +kernel
set_option maxRecDepth 100000 in
theorem e_d21 : v_seg 0 40 (e_p0.drop 840) (e_h0.drop 840) = true := by decide +kernel
set_option maxRecDepth 100000 in
theorem e_d22 : v_seg 0 40 (e_p0.drop 880) (e_h0.drop 880) = true := by decide +kernel
set_option maxRecDepth 100000 in
theorem e_d23 : v_seg 0 40 (e_p0.drop 920) (e_h0.drop 920) = true := by decide +kernel
set_option maxRecDepth 100000 in
theorem e_d24 : v_seg 0 40 (e_p0.drop 960) (e_h0.drop 960) = true := by decide +kernel
set_option maxRecDepth 100000 in
theorem e_d25 : v_seg 0 40 (e_p0.drop 1000) (e_h0.drop 1000) = true := by decide +kernel
set_option maxRecDepth 100000 in
theorem e_d26 : v_seg 0 40 (e_p0.drop 1040) (e_h0.drop 1040) = true := by decide +kernel
set_option maxRecDepth 100000 in
theorem e_d27 : v_seg 0 40 (e_p0.drop 1080) (e_h0.drop 1080) = true := by decide +kernel
set_option maxRecDepth 100000 in
theorem e_d28 : v_seg 0 40 (e_p0.drop 1120) (e_h0.drop 1120) = true := by decide +kernel
set_option maxRecDepth 100000 in
theorem e_d29 : v_seg 0 40 (e_p0.drop 1160) (e_h0.drop 1160) = true := by decide +kernel
set_option maxRecDepth 100000 in
theorem e_d30 : v_seg 0 40 (e_p0.drop 1200) (e_h0.drop 1200) = true := by decide +kernel
set_option maxRecDepth 100000 in
theorem e_d31 : v_seg 0 40 (e_p0.drop 1240) (e_h0.drop 1240) = true := by decide +kernel
set_option maxRecDepth 100000 in
theorem e_d32 : v_seg 0 40 (e_p0.drop 1280) (e_h0.drop 1280) = true := by decide +kernel
set_option maxRecDepth 100000 in
theorem e_d33 : v_seg 0 40 (e_p0.drop 1320) (e_h0.drop 1320) = true := by decide +kernel
set_option maxRecDepth 100000 in
theorem e_d34 : v_seg 0 40 (e_p0.drop 1360) (e_h0.drop 1360) = true := by decide +kernel
set_option maxRecDepth 100000 in
theorem e_d35 : v_seg 0 40 (e_p0.drop 1400) (e_h0.drop 1400) = true := by decide +kernel
set_option maxRecDepth 100000 in
theorem e_d36 : v_seg 0 40 (e_p0.drop 1440) (e_h0.drop 1440) = true := by decide +kernel
set_option maxRecDepth 100000 in
theorem e_d37 : v_seg 0 40 (e_p0.drop 1480) (e_h0.drop 1480) = true := by decide +kernel
set_option maxRecDepth 100000 in
theorem e_d38 : v_seg 0 40 (e_p0.drop 1520) (e_h0.drop 1520) = true := by decide +kernel
set_option maxRecDepth 100000 in
theorem e_d39 : v_seg 0 40 (e_p0.drop 1560) (e_h0.drop 1560) = true := by decide +kernel
set_option maxRecDepth 100000 in
theorem e_d40 : v_seg 0 40 (e_p0.drop 1600) (e_h0.drop 1600) = true := by decide +kernel
set_option maxRecDepth 100000 in
theorem e_d41 : v_seg 0 40 (e_p0.drop 1640) (e_h0.drop 1640) = true := by decide +kernel
set_option maxRecDepth 100000 in
theorem e_d42 : v_seg 0 16 (e_p0.drop 1680) (e_h0.drop 1680) = true := by decide +kernel
