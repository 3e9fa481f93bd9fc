set_option maxHeartbeats 400000
theorem zz_test : 1 = 1 := rfl
