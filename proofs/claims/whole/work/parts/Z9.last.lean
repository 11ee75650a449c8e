/-! nothing more -/
theorem zz_last : True := trivial
