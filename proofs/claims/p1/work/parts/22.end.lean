/-! still to come -/
theorem tt_end : True := trivial
