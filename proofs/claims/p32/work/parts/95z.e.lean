theorem zzz_end : True := trivial
