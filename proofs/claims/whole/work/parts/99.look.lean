theorem zz_look : lw_g.length + 0 = lw_g.length := rfl
