def vWy (v : V) (wy : Nat) : Nat := if v.2.1 = 0 then wy else v.2.1
def vWd (v : V) (wd : Int32) : Int32 := if v.2.1 = 0 then wd else v.2.2.1

theorem nI_iff {a b : Nat} (ha : a < 2 ^ 31) (hb : b < 2 ^ 31) : (nI a = nI b) = (a = b) := propext (nI_eq ha hb)
