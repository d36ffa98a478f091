theorem zz_true : True := trivial
