theorem last_17 : True := trivial
