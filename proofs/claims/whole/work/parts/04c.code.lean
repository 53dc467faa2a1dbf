set_option maxRecDepth 100000 in
theorem ec_okl_0 : ([0, 1, 2, 3, 4, 5, 6, 7, 8, 9, 10, 11] : List Nat).all (ec_okB 226) = true := by decide +kernel
set_option maxRecDepth 100000 in
theorem ec_okl_1 : ([12, 13, 14, 15, 16, 17, 18, 19, 20, 21, 22, 23] : List Nat).all (ec_okB 226) = true := by decide +kernel
set_option maxRecDepth 100000 in
theorem ec_okl_2 : ([24, 25, 26, 27, 28, 29, 30, 31, 32, 33, 34, 35] : List Nat).all (ec_okB 226) = true := by decide +kernel
set_option maxRecDepth 100000 in
theorem ec_okl_3 : ([36, 37, 38, 39, 40, 41, 42, 43, 44, 45, 46, 47] : List Nat).all (ec_okB 226) = true := by decide +kernel
set_option maxRecDepth 100000 in
theorem ec_okl_4 : ([48, 49, 50, 51, 52, 53, 54, 55, 56, 57, 58, 59] : List Nat).all (ec_okB 226) = true := by decide +kernel
set_option maxRecDepth 100000 in
theorem ec_okl_5 : ([60, 61, 62, 63, 64, 65, 66, 67, 68, 69, 70, 71] : List Nat).all (ec_okB 226) = true := by decide +kernel
set_option maxRecDepth 100000 in
theorem ec_okl_6 : ([72, 73, 74, 75, 76, 77, 78, 79, 80, 81, 82, 83] : List Nat).all (ec_okB 226) = true := by decide +kernel
set_option maxRecDepth 100000 in
theorem ec_okl_7 : ([84, 85, 86, 87, 88, 89, 90, 91, 92, 93, 94, 95] : List Nat).all (ec_okB 226) = true := by decide +kernel
set_option maxRecDepth 100000 in
theorem ec_okl_8 : ([96, 97, 98, 99, 100, 101, 102, 103, 104, 105, 106, 107] : List Nat).all (ec_okB 226) = true := by decide +kernel
set_option maxRecDepth 100000 in
theorem ec_okl_9 : ([108, 109, 110, 111, 112, 113, 114, 115, 116, 117, 118, 119] : List Nat).all (ec_okB 226) = true := by decide +kernel
set_option maxRecDepth 100000 in
theorem ec_okl_10 : ([120, 121, 122, 123, 124, 125, 126] : List Nat).all (ec_okB 226) = true := by decide +kernel
