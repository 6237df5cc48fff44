/-! what the calls answer, in numbers -/
def pLow (v : Int32) : Int32 := if v = nI 3 then nI 1 else nI 0
def pTop (v : Int32) : Int32 := if v = nI 0 then nI 9 else if v = nI 1 then nI 99 else if v = nI 2 then nI 9999 else if v = nI 3 then nI 99 else -1
def tLow (v : Int32) : Int32 := if v = nI 2 then nI 1 else nI 0
def tTop (v : Int32) : Int32 := if v = nI 0 then nI 6 else if v = nI 1 then nI 9 else if v = nI 2 then nI 20 else -1
