/-! every instruction, further -/
set_option maxRecDepth 100000 in
theorem mok_g20 : [129, 130, 131, 132, 133, 134].all mokk = true := by decide +kernel
set_option maxRecDepth 100000 in
theorem mok_g21 : [135, 136, 137].all mokk = true := by decide +kernel
set_option maxRecDepth 100000 in
theorem mok_g22 : [138, 139, 140, 141, 142].all mokk = true := by decide +kernel
set_option maxRecDepth 100000 in
theorem mok_g23 : [143, 144].all mokk = true := by decide +kernel
set_option maxRecDepth 100000 in
theorem mok_g24 : [145, 146, 147, 148, 149].all mokk = true := by decide +kernel
set_option maxRecDepth 100000 in
theorem mok_g25 : [150, 151, 152, 153, 154, 155].all mokk = true := by decide +kernel
set_option maxRecDepth 100000 in
theorem mok_g26 : [156, 157, 158, 159, 160, 161, 162, 163, 164, 165].all mokk = true := by decide +kernel
set_option maxRecDepth 100000 in
theorem mok_g27 : [166, 167, 168, 169, 170, 171, 172, 173].all mokk = true := by decide +kernel
set_option maxRecDepth 100000 in
theorem mok_g28 : [174, 175, 176, 177, 178, 179, 180, 181, 182, 183].all mokk = true := by decide +kernel
set_option maxRecDepth 100000 in
theorem mok_g29 : [184, 185].all mokk = true := by decide +kernel
set_option maxRecDepth 100000 in
theorem mok_g30 : [186, 187, 188, 189].all mokk = true := by decide +kernel
set_option maxRecDepth 100000 in
theorem mok_g31 : [190, 191, 192, 193].all mokk = true := by decide +kernel
set_option maxRecDepth 100000 in
theorem mok_g32 : [194, 195, 196, 197, 198, 199].all mokk = true := by decide +kernel
set_option maxRecDepth 100000 in
theorem mok_g33 : [200, 201, 202, 203, 204].all mokk = true := by decide +kernel
set_option maxRecDepth 100000 in
theorem mok_g34 : [205, 206, 207, 208, 209, 210, 211, 212].all mokk = true := by decide +kernel
set_option maxRecDepth 100000 in
theorem mok_g35 : [213, 214, 215, 216, 217, 218].all mokk = true := by decide +kernel
set_option maxRecDepth 100000 in
theorem mok_g36 : [219, 220].all mokk = true := by decide +kernel
set_option maxRecDepth 100000 in
theorem mok_g37 : [221, 222, 223, 224, 225, 226].all mokk = true := by decide +kernel
set_option maxRecDepth 100000 in
theorem mok_g38 : [227, 228, 229, 230, 231, 232, 233].all mokk = true := by decide +kernel
set_option maxRecDepth 100000 in
theorem mok_g39 : [234, 235, 236, 238, 239, 240, 241].all mokk = true := by decide +kernel
