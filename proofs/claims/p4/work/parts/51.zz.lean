theorem zz9_last : True := trivial
