theorem ba_dummy : True := trivial
