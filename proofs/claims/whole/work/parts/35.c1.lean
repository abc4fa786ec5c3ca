theorem zz_d : True := trivial
