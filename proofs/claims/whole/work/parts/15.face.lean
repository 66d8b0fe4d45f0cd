/-! words of the face -/
abbrev xA : String := "java/lang/IllegalArgumentException"
abbrev xS : String := "java/lang/IllegalStateException"
abbrev xN : String := "java/util/NoSuchElementException"
abbrev xU : String := "java/lang/UnsupportedOperationException"
abbrev xB : String := "java/lang/IndexOutOfBoundsException"
def isTyp (t : Int32) : Bool := if t = 0 then true else if t = nI 1 then true else if t < nI 10 then false else if nI 16 ≤ t then false else true
def prOk (p q : Int32) : Bool := (if p = -1 then true else isTyp p) && (if q = -1 then true else if p = -1 then false else isTyp q)
