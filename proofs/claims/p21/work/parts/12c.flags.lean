/-- two ints that differ: which is less, too; the greater of two, told apart -/
def icF : Bool := true
def mmF : Bool := true
/-- rows where NONE is -1 there; numbered operations -/
def cvF : Bool := true
def vnF : Bool := true
/-- a switch told exactly -/
def xsF : Bool := true
/-- what rows tell of their cells -/
def ubFl : Bool := true
