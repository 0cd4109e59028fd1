abbrev FL : List Cond := flatC (Jvm.Cond.and given_1 narrow_1)
