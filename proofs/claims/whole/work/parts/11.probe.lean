theorem xx_probe : True := trivial
