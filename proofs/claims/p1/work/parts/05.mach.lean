theorem x_t : 1 = 1 := rfl
