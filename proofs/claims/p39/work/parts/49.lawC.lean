theorem ph_49 : True := trivial
