/-- a first row, so that the names stand in a part of their own -/
theorem zz_first : True := trivial
