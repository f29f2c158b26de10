/-- two ints that differ: which is less, too; the greater of two, told apart -/
def icF : Bool := false
def mmF : Bool := false
