def F_sx_refusedLetter (mu : Nat → Nat → Int32) (vk : Int32) (vb : Int32) : Int32 × (Nat → Nat → Int32) :=
  if vk < (0 : Int32) then (
    (((-1) : Int32), mu)
  ) else (
    if vb = (0 : Int32) then (
      LETV (mu 5 4 : Int32) fun y3 =>
      if vk < y3 then (
        ((0 : Int32), mu)
      ) else (
        LETP (F_sx_found mu (2 : Int32)) fun r6 xi6 =>
        ((r6 : Int32), xi6)
      )
    ) else (
      (((-1) : Int32), mu)
    )
  )
def F_sx_isPair (mu : Nat → Nat → Int32) (vx : Int32) (vy : Int32) : Int32 :=
  if F_sx_has mu (vx : Int32) = 1 then (
    if F_sx_has mu (vy : Int32) = 1 then (
      if vx = vy then (
        (0 : Int32)
      ) else (
        (1 : Int32)
      )
    ) else (
      (0 : Int32)
    )
  ) else (
    (0 : Int32)
  )
