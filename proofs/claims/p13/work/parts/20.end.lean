theorem jend9 : True := trivial
