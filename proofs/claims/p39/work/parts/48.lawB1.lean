theorem ph_48 : True := trivial
