/-! ===== the end (own text) ===== -/
theorem zz_end : True := trivial
