theorem zz_last : True := trivial
theorem zz_last2 : True := trivial
