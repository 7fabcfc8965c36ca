def F_sx_isFull (mu : Nat → Nat → Int32) : Int32 :=
  LETV (mu 6 1 : Int32) fun y1 =>
  if y1 < (40 : Int32) then (
    (0 : Int32)
  ) else (
    (1 : Int32)
  )
