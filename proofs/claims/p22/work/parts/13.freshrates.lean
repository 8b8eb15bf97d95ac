theorem n3 : (nI 3).toInt = 3 := rfl
theorem n4 : (nI 4).toInt = 4 := rfl
-- rate
