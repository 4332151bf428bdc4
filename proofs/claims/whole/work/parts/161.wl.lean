set_option maxRecDepth 20000 in
theorem wl_X00 : ∀ w ∈ wsX00, w ∈ lw_tbl := fun w h => (goodIn_r wsX00 [294, 296, 298, 300, 302, 304, 306, 308] rfl (by decide +kernel) w h).1
set_option maxRecDepth 20000 in
theorem wl_X10 : ∀ w ∈ wsX10, w ∈ lw_tbl := fun w h => (goodIn_r wsX10 [324, 326, 328, 330] rfl (by decide +kernel) w h).1
set_option maxRecDepth 20000 in
theorem wl_X100 : ∀ w ∈ wsX100, w ∈ lw_tbl := fun w h => (goodIn_r wsX100 [926, 928, 930, 932, 934, 936, 938, 940, 942, 944, 946, 948, 950, 952, 954, 956, 958, 960, 962, 964, 966, 968, 970, 972, 974, 976, 978, 980, 982, 984, 986, 988, 990, 992, 994, 996, 998, 1000, 1002, 1004, 1006, 1008, 1010, 1012, 1014, 1016, 1018] rfl (by decide +kernel) w h).1
set_option maxRecDepth 20000 in
theorem wl_X20 : ∀ w ∈ wsX20, w ∈ lw_tbl := fun w h => (goodIn_r wsX20 [127, 129, 131, 133, 135, 137] rfl (by decide +kernel) w h).1
set_option maxRecDepth 20000 in
theorem wl_X30 : ∀ w ∈ wsX30, w ∈ lw_tbl := fun w h => (goodIn_r wsX30 [202, 204, 206, 208, 210] rfl (by decide +kernel) w h).1
set_option maxRecDepth 20000 in
theorem wl_X40 : ∀ w ∈ wsX40, w ∈ lw_tbl := fun w h => (goodIn_r wsX40 [236, 238, 240, 242, 244, 246, 248, 250, 252, 254, 256, 258, 260] rfl (by decide +kernel) w h).1
set_option maxRecDepth 20000 in
theorem wl_X50 : ∀ w ∈ wsX50, w ∈ lw_tbl := fun w h => (goodIn_r wsX50 [343, 345, 347] rfl (by decide +kernel) w h).1
set_option maxRecDepth 20000 in
theorem wl_X60 : ∀ w ∈ wsX60, w ∈ lw_tbl := fun w h => (goodIn_r wsX60 [175, 177, 179, 181, 183, 185] rfl (by decide +kernel) w h).1
set_option maxRecDepth 20000 in
theorem wl_X70 : ∀ w ∈ wsX70, w ∈ lw_tbl := fun w h => (goodIn_r wsX70 [92, 94] rfl (by decide +kernel) w h).1
set_option maxRecDepth 20000 in
theorem wl_X80 : ∀ w ∈ wsX80, w ∈ lw_tbl := fun w h => (goodIn_r wsX80 [272, 274] rfl (by decide +kernel) w h).1
set_option maxRecDepth 20000 in
theorem wl_X90 : ∀ w ∈ wsX90, w ∈ lw_tbl := fun w h => (goodIn_r wsX90 [360, 362, 364, 366, 368, 370, 372, 374, 376] rfl (by decide +kernel) w h).1
