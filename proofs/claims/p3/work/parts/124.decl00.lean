theorem t_124 : True := trivial
