def L_sm_copyRoute17_2_0 (vn : Int32) : Nat → (Int32) → (Nat → Nat → Int32) → Nat → Nat → Int32
  | 0, v3_2, nu2_ => nu2_
  | n + 1, v3_2, nu2_ =>
    if v3_2 ≥ vn then (
      nu2_
    ) else (
      LETV (nu2_ 16 v3_2.toNatClampNeg : Int32) fun y2 =>
      LETV (va_up nu2_ 17 (upd (nu2_ 17) v3_2.toNatClampNeg y2) : Nat → Nat → Int32) fun nu3 =>
      LETV ((v3_2 + 1) : Int32) fun w7 =>
      L_sm_copyRoute17_2_0 vn n (w7 : Int32) nu3
    )
def F_sm_copyRoute17 (mu : Nat → Nat → Int32) (vn : Int32) : Nat → Nat → Int32 :=
  L_sm_copyRoute17_2_0 vn 10 (0 : Int32) mu
def L_sm_copyRoute18_2_0 (vn : Int32) : Nat → (Int32) → (Nat → Nat → Int32) → Nat → Nat → Int32
  | 0, v3_2, nu2_ => nu2_
  | n + 1, v3_2, nu2_ =>
    if v3_2 ≥ vn then (
      nu2_
    ) else (
      LETV (nu2_ 16 v3_2.toNatClampNeg : Int32) fun y2 =>
      LETV (va_up nu2_ 18 (upd (nu2_ 18) v3_2.toNatClampNeg y2) : Nat → Nat → Int32) fun nu3 =>
      LETV ((v3_2 + 1) : Int32) fun w7 =>
      L_sm_copyRoute18_2_0 vn n (w7 : Int32) nu3
    )
def F_sm_copyRoute18 (mu : Nat → Nat → Int32) (vn : Int32) : Nat → Nat → Int32 :=
  L_sm_copyRoute18_2_0 vn 10 (0 : Int32) mu
def F_sm_meetRoute (mu : Nat → Nat → Int32) (vn : Int32) (vs : Int32) (vp : Int32) : Nat → Nat → Int32 :=
  LETV (mu 0 39 : Int32) fun y1 =>
  LETV (mu 0 33 : Int32) fun y2 =>
  LETV (mu 0 35 : Int32) fun y3 =>
  LETV (mu 0 30 : Int32) fun y4 =>
  LETV (y4 + 1 : Int32) fun t5 =>
  LETV (va_up mu 0 (upd (mu 0) 30 t5) : Nat → Nat → Int32) fun nu6 =>
  LETV (fun (nj53_10 : Nat → Nat → Int32) =>
    LETV (nj53_10 0 39 : Int32) fun y12 =>
    LETV (nj53_10 0 33 : Int32) fun y13 =>
    LETV (nj53_10 0 35 : Int32) fun y14 =>
    if y12 = ((-9) : Int32) then (
      nj53_10
    ) else (
      LETV (fun (j4_91_63 : Int32) (nj91_63 : Nat → Nat → Int32) =>
        LETV (nj91_63 0 39 : Int32) fun y16 =>
        LETV (nj91_63 0 33 : Int32) fun y17 =>
        LETV (nj91_63 0 35 : Int32) fun y18 =>
        LETV (fun (j5_115_91 : Int32) (nj115_91 : Nat → Nat → Int32) =>
          LETV (nj115_91 0 39 : Int32) fun y19 =>
          LETV (nj115_91 0 33 : Int32) fun y20 =>
          LETV (nj115_91 0 35 : Int32) fun y21 =>
          LETV (fun (nj137_115 : Nat → Nat → Int32) =>
            LETV (nj137_115 0 39 : Int32) fun y22 =>
            LETV (nj137_115 0 33 : Int32) fun y23 =>
            LETV (nj137_115 0 35 : Int32) fun y24 =>
            LETV (F_sm_worthIn nj137_115 (y22 : Int32) (j4_91_63 : Int32) : Int32) fun r25 =>
            if r25 < vp then (
              nj137_115
            ) else (
              LETV (y23 + 1 : Int32) fun t30 =>
              LETV (va_up nj137_115 0 (upd (nj137_115 0) 33 t30) : Nat → Nat → Int32) fun nu31 =>
              LETV (nu31 0 36 : Int32) fun y36 =>
              LETV (y36 &&& vs : Int32) fun t37 =>
              LETV (va_up nu31 0 (upd (nu31 0) 36 t37) : Nat → Nat → Int32) fun nu38 =>
              if vn < y24 then (
                LETV (va_up nu38 0 (upd (nu38 0) 34 vp) : Nat → Nat → Int32) fun nu45 =>
                LETV (va_up nu45 0 (upd (nu45 0) 35 vn) : Nat → Nat → Int32) fun nu52 =>
                LETV (F_sm_copyRoute18 nu52 (vn : Int32) : Nat → Nat → Int32) fun xi59 =>
                xi59
              ) else (
                if vn = y24 then (
                  LETV (nu38 0 34 : Int32) fun y73 =>
                  if vp ≥ y73 then (
                    nu38
                  ) else (
                    LETV (va_up nu38 0 (upd (nu38 0) 34 vp) : Nat → Nat → Int32) fun nu78 =>
                    LETV (va_up nu78 0 (upd (nu78 0) 35 vn) : Nat → Nat → Int32) fun nu85 =>
                    LETV (F_sm_copyRoute18 nu85 (vn : Int32) : Nat → Nat → Int32) fun xi92 =>
                    xi92
                  )
                ) else (
                  nu38
                )
              )
            )) fun jk137_115 =>
          LETV (nj115_91 0 37 : Int32) fun y102 =>
          if j5_115_91 ≥ y102 then (
            LETV (va_up nj115_91 0 (upd (nj115_91 0) 37 y102) : Nat → Nat → Int32) fun nu104 =>
            jk137_115 (nu104 : Nat → Nat → Int32)
          ) else (
            LETV (va_up nj115_91 0 (upd (nj115_91 0) 37 j5_115_91) : Nat → Nat → Int32) fun nu114 =>
            jk137_115 (nu114 : Nat → Nat → Int32)
          )) fun jk115_91 =>
        if vp = (0 : Int32) then (
          jk115_91 (0 : Int32) (nj91_63 : Nat → Nat → Int32)
        ) else (
          LETV (F_sm_letterOf nj91_63 (y16 : Int32) (3 : Int32) : Int32) fun r125 =>
          LETV (r125 * j4_91_63 : Int32) fun t126 =>
          LETV (vp + t126 : Int32) fun t127 =>
          jk115_91 (t127 : Int32) (nj91_63 : Nat → Nat → Int32)
        )) fun jk91_63 =>
      LETV (vn - 2 : Int32) fun t136 =>
      LETV (F_sm_letterOf nj53_10 (y12 : Int32) (8 : Int32) : Int32) fun r137 =>
      LETV (nj53_10 0 14 : Int32) fun y138 =>
      if r137 = y138 then (
        LETV (t136 + 1 : Int32) fun t145 =>
        jk91_63 (t145 : Int32) (nj53_10 : Nat → Nat → Int32)
      ) else (
        LETV (t136 + 0 : Int32) fun t140 =>
        jk91_63 (t140 : Int32) (nj53_10 : Nat → Nat → Int32)
      )
    )) fun jk53_10 =>
  LETV (nu6 0 31 : Int32) fun y153 =>
  if vp < y153 then (
    LETV (va_up nu6 0 (upd (nu6 0) 31 vp) : Nat → Nat → Int32) fun nu155 =>
    LETV (va_up nu155 0 (upd (nu155 0) 32 vn) : Nat → Nat → Int32) fun nu162 =>
    LETV (F_sm_copyRoute17 nu162 (vn : Int32) : Nat → Nat → Int32) fun xi170 =>
    jk53_10 (xi170 : Nat → Nat → Int32)
  ) else (
    if vp = y153 then (
      LETV (nu6 0 32 : Int32) fun y185 =>
      if vn ≥ y185 then (
        jk53_10 (nu6 : Nat → Nat → Int32)
      ) else (
        LETV (va_up nu6 0 (upd (nu6 0) 31 vp) : Nat → Nat → Int32) fun nu190 =>
        LETV (va_up nu190 0 (upd (nu190 0) 32 vn) : Nat → Nat → Int32) fun nu198 =>
        LETV (F_sm_copyRoute17 nu198 (vn : Int32) : Nat → Nat → Int32) fun xi206 =>
        jk53_10 (xi206 : Nat → Nat → Int32)
      )
    ) else (
      jk53_10 (nu6 : Nat → Nat → Int32)
    )
  )
