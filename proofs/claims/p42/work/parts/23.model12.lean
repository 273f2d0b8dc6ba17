/-- the verdict of an order of the kind k with the numbers a b z d e -/
def vOrd (k : Nat) (a b c d e : Int32) (G : Nat → Nat) : V := match k with
  | 0 => vDoor G a b (tN c) d e
  | 1 => vSill G a
  | 2 => vGovern G a b
  | 3 => vSet G a b
  | 4 => vTell G a b (tN c) d
  | 5 => vKey G a b
  | 6 => vKnock G a b (tN c) d
  | 7 => vShut G a
  | _ => vFree G a b
