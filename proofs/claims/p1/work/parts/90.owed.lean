theorem zz_look : vwCl.length = 20 := rfl
