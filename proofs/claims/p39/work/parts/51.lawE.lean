theorem ph_51 : True := trivial
