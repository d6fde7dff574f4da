def itsA (len rst : Nat → Int32) (k j : Nat) : Int32 := if len (k * 12 + j) = 0 ∨ (0 < j ∧ rst j = -1) then -1 else if 0 < j then len (k * 12 + j) + rst j else len (k * 12 + j)
/-- the least over the gates 0 .. j-1 -/
def frA (len rst : Nat → Int32) (k : Nat) : Nat → Int32
  | 0 => -1
  | j + 1 => if itsA len rst k j = -1 then frA len rst k j else if frA len rst k j = -1 ∨ itsA len rst k j < frA len rst k j then itsA len rst k j else frA len rst k j
def moA (len rst : Nat → Int32) (g : Nat) : Nat → (Nat → Int32)
  | 0 => rst
  | k + 1 => upd (moA len rst g k) (g - 1 - k) (frA len (moA len rst g k) (g - 1 - k) g)
def isA (rst : Nat → Int32) : Nat → Bool
  | 0 => true
  | i + 1 => isA rst i && !decide (rst i = -1)
