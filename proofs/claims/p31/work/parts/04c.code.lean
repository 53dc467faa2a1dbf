set_option maxRecDepth 100000 in
theorem ec_okl_0 : ([0, 1, 2, 3, 4, 5, 6, 7, 8, 9, 10, 11] : List Nat).all (ec_okB 226) = true := by decide +kernel
set_option maxRecDepth 100000 in
theorem ec_okl_1 : ([12, 13, 14, 15, 16, 17, 18, 19, 20, 21] : List Nat).all (ec_okB 226) = true := by decide +kernel
