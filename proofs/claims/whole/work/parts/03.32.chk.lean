set_option maxRecDepth 20000 in
theorem t_238_16 : ((((((((((((((((((mj_code 238).drop 40).drop 40).drop 40).drop 40).drop 40).drop 40).drop 40).drop 40).drop 40).drop 40).drop 40).drop 40).drop 40).drop 40).drop 40).drop 40).take 40).all (mj_chk 238) = true := by decide +kernel
set_option maxRecDepth 20000 in
theorem t_238_17 : (((((((((((((((((((mj_code 238).drop 40).drop 40).drop 40).drop 40).drop 40).drop 40).drop 40).drop 40).drop 40).drop 40).drop 40).drop 40).drop 40).drop 40).drop 40).drop 40).drop 40).take 40).all (mj_chk 238) = true := by decide +kernel
set_option maxRecDepth 20000 in
theorem t_238_18 : ((((((((((((((((((((mj_code 238).drop 40).drop 40).drop 40).drop 40).drop 40).drop 40).drop 40).drop 40).drop 40).drop 40).drop 40).drop 40).drop 40).drop 40).drop 40).drop 40).drop 40).drop 40).take 40).all (mj_chk 238) = true := by decide +kernel
set_option maxRecDepth 20000 in
theorem t_238_19 : (((((((((((((((((((((mj_code 238).drop 40).drop 40).drop 40).drop 40).drop 40).drop 40).drop 40).drop 40).drop 40).drop 40).drop 40).drop 40).drop 40).drop 40).drop 40).drop 40).drop 40).drop 40).drop 40).take 40).all (mj_chk 238) = true := by decide +kernel
set_option maxRecDepth 20000 in
theorem t_238_20 : ((((((((((((((((((((((mj_code 238).drop 40).drop 40).drop 40).drop 40).drop 40).drop 40).drop 40).drop 40).drop 40).drop 40).drop 40).drop 40).drop 40).drop 40).drop 40).drop 40).drop 40).drop 40).drop 40).drop 40).take 40).all (mj_chk 238) = true := by decide +kernel
set_option maxRecDepth 20000 in
theorem t_238_21 : (((((((((((((((((((((((mj_code 238).drop 40).drop 40).drop 40).drop 40).drop 40).drop 40).drop 40).drop 40).drop 40).drop 40).drop 40).drop 40).drop 40).drop 40).drop 40).drop 40).drop 40).drop 40).drop 40).drop 40).drop 40).take 40).all (mj_chk 238) = true := by decide +kernel
set_option maxRecDepth 20000 in
theorem t_238_22 : (((((((((((((((((((((((mj_code 238).drop 40).drop 40).drop 40).drop 40).drop 40).drop 40).drop 40).drop 40).drop 40).drop 40).drop 40).drop 40).drop 40).drop 40).drop 40).drop 40).drop 40).drop 40).drop 40).drop 40).drop 40).drop 40).all (mj_chk 238) = true := by decide +kernel
theorem t_238 : (mj_code 238).all (mj_chk 238) = true := mj_all_td 40 t_238_0 (mj_all_td 40 t_238_1 (mj_all_td 40 t_238_2 (mj_all_td 40 t_238_3 (mj_all_td 40 t_238_4 (mj_all_td 40 t_238_5 (mj_all_td 40 t_238_6 (mj_all_td 40 t_238_7 (mj_all_td 40 t_238_8 (mj_all_td 40 t_238_9 (mj_all_td 40 t_238_10 (mj_all_td 40 t_238_11 (mj_all_td 40 t_238_12 (mj_all_td 40 t_238_13 (mj_all_td 40 t_238_14 (mj_all_td 40 t_238_15 (mj_all_td 40 t_238_16 (mj_all_td 40 t_238_17 (mj_all_td 40 t_238_18 (mj_all_td 40 t_238_19 (mj_all_td 40 t_238_20 (mj_all_td 40 t_238_21 (t_238_22))))))))))))))))))))))
set_option maxRecDepth 20000 in
theorem t_239 : (mj_code 239).all (mj_chk 239) = true := by decide +kernel
set_option maxRecDepth 20000 in
theorem t_240 : (mj_code 240).all (mj_chk 240) = true := by decide +kernel
