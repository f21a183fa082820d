-- the last part
theorem z_last : True := trivial
