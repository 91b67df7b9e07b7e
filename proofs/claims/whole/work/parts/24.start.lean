theorem x_law0 : True := trivial
