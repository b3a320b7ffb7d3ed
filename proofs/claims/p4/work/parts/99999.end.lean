theorem h_end : True := trivial
