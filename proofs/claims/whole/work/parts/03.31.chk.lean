set_option maxRecDepth 20000 in
theorem t_238_8 : ((((((((((mj_code 238).drop 40).drop 40).drop 40).drop 40).drop 40).drop 40).drop 40).drop 40).take 40).all (mj_chk 238) = true := by decide +kernel
set_option maxRecDepth 20000 in
theorem t_238_9 : (((((((((((mj_code 238).drop 40).drop 40).drop 40).drop 40).drop 40).drop 40).drop 40).drop 40).drop 40).take 40).all (mj_chk 238) = true := by decide +kernel
set_option maxRecDepth 20000 in
theorem t_238_10 : ((((((((((((mj_code 238).drop 40).drop 40).drop 40).drop 40).drop 40).drop 40).drop 40).drop 40).drop 40).drop 40).take 40).all (mj_chk 238) = true := by decide +kernel
set_option maxRecDepth 20000 in
theorem t_238_11 : (((((((((((((mj_code 238).drop 40).drop 40).drop 40).drop 40).drop 40).drop 40).drop 40).drop 40).drop 40).drop 40).drop 40).take 40).all (mj_chk 238) = true := by decide +kernel
set_option maxRecDepth 20000 in
theorem t_238_12 : ((((((((((((((mj_code 238).drop 40).drop 40).drop 40).drop 40).drop 40).drop 40).drop 40).drop 40).drop 40).drop 40).drop 40).drop 40).take 40).all (mj_chk 238) = true := by decide +kernel
set_option maxRecDepth 20000 in
theorem t_238_13 : (((((((((((((((mj_code 238).drop 40).drop 40).drop 40).drop 40).drop 40).drop 40).drop 40).drop 40).drop 40).drop 40).drop 40).drop 40).drop 40).take 40).all (mj_chk 238) = true := by decide +kernel
set_option maxRecDepth 20000 in
theorem t_238_14 : ((((((((((((((((mj_code 238).drop 40).drop 40).drop 40).drop 40).drop 40).drop 40).drop 40).drop 40).drop 40).drop 40).drop 40).drop 40).drop 40).drop 40).take 40).all (mj_chk 238) = true := by decide +kernel
set_option maxRecDepth 20000 in
theorem t_238_15 : (((((((((((((((((mj_code 238).drop 40).drop 40).drop 40).drop 40).drop 40).drop 40).drop 40).drop 40).drop 40).drop 40).drop 40).drop 40).drop 40).drop 40).drop 40).take 40).all (mj_chk 238) = true := by decide +kernel
