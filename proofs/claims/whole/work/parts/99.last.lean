theorem zz_t : Int32.ofInt 14 = 14 := rfl
theorem zz_u : (Int8.ofInt 100).toInt32 = 100 := rfl
theorem zz_v : (Int16.ofInt (-1000)).toInt32 = -1000 := rfl
