set_option maxRecDepth 100000 in
theorem ec_ok_12 : ([62, 63, 64] : List Nat).all ec_okM = true := by decide +kernel
set_option maxRecDepth 100000 in
theorem ec_ok_13 : ([65, 66] : List Nat).all ec_okM = true := by decide +kernel
set_option maxRecDepth 100000 in
theorem ec_ok_14 : ([67, 68] : List Nat).all ec_okM = true := by decide +kernel
set_option maxRecDepth 100000 in
theorem ec_ok_15 : ([69, 70, 71] : List Nat).all ec_okM = true := by decide +kernel
set_option maxRecDepth 100000 in
theorem ec_ok_16 : ([72, 73] : List Nat).all ec_okM = true := by decide +kernel
set_option maxRecDepth 100000 in
theorem ec_ok_17 : ([74, 75] : List Nat).all ec_okM = true := by decide +kernel
set_option maxRecDepth 100000 in
theorem ec_ok_18 : ([76, 77] : List Nat).all ec_okM = true := by decide +kernel
set_option maxRecDepth 100000 in
theorem ec_ok_19 : ([78, 79, 81, 82] : List Nat).all ec_okM = true := by decide +kernel
set_option maxRecDepth 100000 in
theorem ec_ok_20 : ([83, 84, 85, 86] : List Nat).all ec_okM = true := by decide +kernel
set_option maxRecDepth 100000 in
theorem ec_ok_21 : ([87, 103, 104] : List Nat).all ec_okM = true := by decide +kernel
set_option maxRecDepth 100000 in
theorem ec_ok_22 : ([105, 106, 107, 108, 109, 110, 111, 112, 113, 114, 115] : List Nat).all ec_okM = true := by decide +kernel
set_option maxRecDepth 100000 in
theorem ec_ok_23 : ([116, 117, 118, 119] : List Nat).all ec_okM = true := by decide +kernel
set_option maxRecDepth 100000 in
theorem ec_ok_24 : ([120] : List Nat).all ec_okM = true := by decide +kernel
set_option maxRecDepth 100000 in
theorem ec_ok_25 : ([121] : List Nat).all ec_okM = true := by decide +kernel
set_option maxRecDepth 100000 in
theorem ec_ok_26 : ([122] : List Nat).all ec_okM = true := by decide +kernel
set_option maxRecDepth 100000 in
theorem ec_ok_27 : ([123] : List Nat).all ec_okM = true := by decide +kernel
set_option maxRecDepth 100000 in
theorem ec_ok_28 : ([124] : List Nat).all ec_okM = true := by decide +kernel
set_option maxRecDepth 100000 in
theorem ec_ok_29 : ([125] : List Nat).all ec_okM = true := by decide +kernel
set_option maxRecDepth 100000 in
theorem ec_ok_30 : ([126, 127, 130, 131, 132, 133, 134] : List Nat).all ec_okM = true := by decide +kernel
set_option maxRecDepth 100000 in
theorem ec_ok_31 : ([135, 136, 137, 138, 139, 140, 141, 142, 143, 144] : List Nat).all ec_okM = true := by decide +kernel
set_option maxRecDepth 100000 in
theorem ec_ok_32 : ([145, 200] : List Nat).all ec_okM = true := by decide +kernel
