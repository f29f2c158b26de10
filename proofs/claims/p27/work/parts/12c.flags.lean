/-- two ints that differ: which is less, too; the greater of two, told apart -/
def icF : Bool := false
def mmF : Bool := false
/-- rows where NONE is -1 there; numbered operations -/
def cvF : Bool := false
def vnF : Bool := true
