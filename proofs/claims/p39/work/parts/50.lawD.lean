theorem ph_50 : True := trivial
