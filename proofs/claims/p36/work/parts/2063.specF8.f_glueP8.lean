theorem f_glueP8 : True := trivial

