theorem pd_dummy : True := trivial
