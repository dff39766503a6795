theorem c_R.runl {s s' : h_S} (h : c_R true s) (e8 : s' 10 8 = s 10 8) (e9 : s' 10 9 = s 10 9) (e20 : s' 20 = s 20) : g_lk' (s' 10 8) (s' 10 9) (s' 20) := by
  rw [e8, e9, e20]
  intro g a b
  have lw := (h.lw a b).1
  omega
