theorem ph_52 : True := trivial
