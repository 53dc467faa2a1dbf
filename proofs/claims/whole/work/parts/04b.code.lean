set_option maxRecDepth 100000 in
theorem ec_ok_42 : ([146] : List Nat).all ec_okM = true := by decide +kernel
set_option maxRecDepth 100000 in
theorem ec_ok_43 : ([147] : List Nat).all ec_okM = true := by decide +kernel
set_option maxRecDepth 100000 in
theorem ec_ok_44 : ([148] : List Nat).all ec_okM = true := by decide +kernel
set_option maxRecDepth 100000 in
theorem ec_ok_45 : ([149] : List Nat).all ec_okM = true := by decide +kernel
set_option maxRecDepth 100000 in
theorem ec_ok_46 : ([150, 151] : List Nat).all ec_okM = true := by decide +kernel
set_option maxRecDepth 100000 in
theorem ec_ok_47 : ([152] : List Nat).all ec_okM = true := by decide +kernel
set_option maxRecDepth 100000 in
theorem ec_ok_48 : ([153, 154] : List Nat).all ec_okM = true := by decide +kernel
set_option maxRecDepth 100000 in
theorem ec_ok_49 : ([155, 156] : List Nat).all ec_okM = true := by decide +kernel
set_option maxRecDepth 100000 in
theorem ec_ok_50 : ([157] : List Nat).all ec_okM = true := by decide +kernel
set_option maxRecDepth 100000 in
theorem ec_ok_51 : ([158] : List Nat).all ec_okM = true := by decide +kernel
set_option maxRecDepth 100000 in
theorem ec_ok_52 : ([159] : List Nat).all ec_okM = true := by decide +kernel
set_option maxRecDepth 100000 in
theorem ec_ok_53 : ([160] : List Nat).all ec_okM = true := by decide +kernel
set_option maxRecDepth 100000 in
theorem ec_ok_54 : ([161] : List Nat).all ec_okM = true := by decide +kernel
set_option maxRecDepth 100000 in
theorem ec_ok_55 : ([162] : List Nat).all ec_okM = true := by decide +kernel
set_option maxRecDepth 100000 in
theorem ec_ok_56 : ([163, 164, 165, 166] : List Nat).all ec_okM = true := by decide +kernel
set_option maxRecDepth 100000 in
theorem ec_ok_57 : ([167, 168] : List Nat).all ec_okM = true := by decide +kernel
set_option maxRecDepth 100000 in
theorem ec_ok_58 : ([169, 170, 171, 172, 173] : List Nat).all ec_okM = true := by decide +kernel
set_option maxRecDepth 100000 in
theorem ec_ok_59 : ([174, 175] : List Nat).all ec_okM = true := by decide +kernel
set_option maxRecDepth 100000 in
theorem ec_ok_60 : ([176, 177, 178] : List Nat).all ec_okM = true := by decide +kernel
set_option maxRecDepth 100000 in
theorem ec_ok_61 : ([179, 180, 181] : List Nat).all ec_okM = true := by decide +kernel
set_option maxRecDepth 100000 in
theorem ec_ok_62 : ([182, 183, 184] : List Nat).all ec_okM = true := by decide +kernel
set_option maxRecDepth 100000 in
theorem ec_ok_63 : ([185] : List Nat).all ec_okM = true := by decide +kernel
set_option maxRecDepth 100000 in
theorem ec_ok_64 : ([186, 187, 188] : List Nat).all ec_okM = true := by decide +kernel
set_option maxRecDepth 100000 in
theorem ec_ok_65 : ([189, 190, 191, 192] : List Nat).all ec_okM = true := by decide +kernel
set_option maxRecDepth 100000 in
theorem ec_ok_66 : ([193, 194] : List Nat).all ec_okM = true := by decide +kernel
set_option maxRecDepth 100000 in
theorem ec_ok_67 : ([195, 196, 197] : List Nat).all ec_okM = true := by decide +kernel
set_option maxRecDepth 100000 in
theorem ec_ok_68 : ([198] : List Nat).all ec_okM = true := by decide +kernel
set_option maxRecDepth 100000 in
theorem ec_ok_69 : ([199] : List Nat).all ec_okM = true := by decide +kernel
set_option maxRecDepth 100000 in
theorem ec_ok_70 : ([200, 201, 202, 203, 204] : List Nat).all ec_okM = true := by decide +kernel
set_option maxRecDepth 100000 in
theorem ec_ok_71 : ([205, 206, 207, 208, 209, 210] : List Nat).all ec_okM = true := by decide +kernel
set_option maxRecDepth 100000 in
theorem ec_ok_72 : ([211, 212, 213, 214, 215, 216, 217] : List Nat).all ec_okM = true := by decide +kernel
set_option maxRecDepth 100000 in
theorem ec_ok_73 : ([218, 219, 220, 221, 222, 223, 224, 225] : List Nat).all ec_okM = true := by decide +kernel
