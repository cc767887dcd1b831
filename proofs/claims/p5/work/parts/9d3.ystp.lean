/-! NOTHING HERE -/
theorem ynothing : True := trivial
