-- the walks follow
theorem zz_0 : True := trivial
