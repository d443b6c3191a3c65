-- an end that compiles
theorem zz_end : True := trivial
