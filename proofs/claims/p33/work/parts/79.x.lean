theorem end77 : True := trivial
