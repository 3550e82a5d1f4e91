theorem ao_ground : True := trivial
