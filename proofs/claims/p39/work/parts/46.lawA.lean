theorem ph_46 : True := trivial
