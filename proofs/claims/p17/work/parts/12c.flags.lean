/-- two ints that differ: which is less, too -/
def icF : Bool := false
