theorem ph_47 : True := trivial
