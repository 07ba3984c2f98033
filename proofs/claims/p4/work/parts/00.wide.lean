theorem w_probe : True := by have := @Stand.outThrough; trivial
