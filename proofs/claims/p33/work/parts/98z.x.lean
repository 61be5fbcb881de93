theorem end98 : True := trivial
