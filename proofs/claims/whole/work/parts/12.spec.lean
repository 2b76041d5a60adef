/-! what the numbers mean -/
def s_ovt (q : Int32) : Int32 := if q < 40 then (if q < 32 then 100 else 150) else 200
def s_mx (x y : Int32) : Int32 := if x < y then y else x
def s_mn (x y : Int32) : Int32 := if x < y then x else y
