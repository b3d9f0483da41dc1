theorem sj_end : True := trivial
