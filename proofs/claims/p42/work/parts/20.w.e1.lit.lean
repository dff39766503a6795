theorem h_lit {x y : Int32} {v : Int} (hx : x.toInt = v) (hy : y.toInt = v) : x = y := h_ieq.mpr (by rw [hx, hy])
