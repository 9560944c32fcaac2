/-! READING, as mathematics.  d: the DELTA, T: BASE -/
def ub (x : Int32) : Nat := x.toBitVec.toNat % 256
/-- a number of 7 bits a BYTE: at place pl, k BYTES read so far that make v; q more may come -/
def rdN (d : List Int32) : Nat → Nat → Nat → Nat → Option (Nat × Nat)
  | 0, _, _, _ => none
  | q + 1, k, pl, v => if pl < d.length then (if ub (tf d pl) < 128 then some (v + ub (tf d pl) * 128 ^ k, pl + 1) else rdN d q (k + 1) (pl + 1) (v + (ub (tf d pl) - 128) * 128 ^ k)) else none
/-- the BYTES that the bits choose: q more bits, the next one is bit k -/
def rdC (d : List Int32) (bits : Nat) : Nat → Nat → Nat → Nat → Option (Nat × Nat)
  | 0, _, pl, v => some (v, pl)
  | q + 1, k, pl, v => if bits / 2 ^ k % 2 = 1 then (if pl < d.length then rdC d bits q (k + 1) (pl + 1) (v + ub (tf d pl) * 256 ^ k) else none) else rdC d bits q (k + 1) pl v
/-- COPIES and NEW ones from place pl on -/
def rdB (d T : List Int32) (due : Nat) : Nat → Nat → List Int32 → Option (List Int32)
  | 0, _, _ => none
  | q + 1, pl, made =>
    if pl < d.length then
      (if 128 ≤ ub (tf d pl) then
        (match rdC d (ub (tf d pl)) 4 0 (pl + 1) 0 with
         | none => none
         | some (fr, pl1) =>
           match rdC d (ub (tf d pl) / 16) 3 0 pl1 0 with
           | none => none
           | some (mn, pl2) =>
             let many := if mn = 0 then 65536 else mn
             if fr + many ≤ T.length ∧ made.length + many ≤ due then rdB d T due q pl2 (made ++ (T.drop fr).take many) else none)
       else if ub (tf d pl) = 0 ∨ d.length < pl + 1 + ub (tf d pl) ∨ due < made.length + ub (tf d pl) then none
       else rdB d T due q (pl + 1 + ub (tf d pl)) (made ++ (d.drop (pl + 1)).take (ub (tf d pl))))
    else if made.length = due then some made else none
def rdA (d T : List Int32) : Option (List Int32) :=
  match rdN d 4 0 0 0 with
  | none => none
  | some (v, pl) => if v = T.length then (match rdN d 4 0 pl 0 with
      | none => none
      | some (due, pl2) => if due ≤ 65536 then rdB d T due (d.length + 1) pl2 [] else none) else none
/-! the whole state: INPUT, BASE, OUTPUT, COPIES, NEW BYTES, DAMAGED; a call's answer: none is a refusal -/
