def F_sx_take55 (mu : Nat → Nat → Int32) (vn : Int32) (vp : Int32) : Nat → Nat → Int32 :=
  LETV (vn + 1 : Int32) fun t1 =>
  LETV (va_up mu 57 (va_cpy (mu 54) (mu 57) (0 : Int32).toNatClampNeg (0 : Int32).toNatClampNeg (t1 : Int32).toNatClampNeg) : Nat → Nat → Int32) fun nu2 =>
  LETV (va_up nu2 55 (upd (nu2 55) 1 vn) : Nat → Nat → Int32) fun nu4 =>
  LETV (va_up nu4 55 (upd (nu4 55) 2 vp) : Nat → Nat → Int32) fun nu7 =>
  LETV (va_up nu7 55 (upd (nu7 55) 3 1) : Nat → Nat → Int32) fun nu11 =>
  nu11
def F_sx_take56 (mu : Nat → Nat → Int32) (vn : Int32) (vp : Int32) : Nat → Nat → Int32 :=
  LETV (vn + 1 : Int32) fun t1 =>
  LETV (va_up mu 58 (va_cpy (mu 54) (mu 58) (0 : Int32).toNatClampNeg (0 : Int32).toNatClampNeg (t1 : Int32).toNatClampNeg) : Nat → Nat → Int32) fun nu2 =>
  LETV (va_up nu2 56 (upd (nu2 56) 1 vn) : Nat → Nat → Int32) fun nu4 =>
  LETV (va_up nu4 56 (upd (nu4 56) 2 vp) : Nat → Nat → Int32) fun nu7 =>
  LETV (va_up nu7 56 (upd (nu7 56) 3 1) : Nat → Nat → Int32) fun nu11 =>
  nu11
def L_sx_linkUnder_2_0 (vs : Int32) : Nat → (Int32) → (Nat → Nat → Int32) → Nat → Nat → Int32
  | 0, v3_2, nu2_ => nu2_
  | n + 1, v3_2, nu2_ =>
    LETV (nu2_ 4 6 : Int32) fun y1 =>
    if v3_2 ≥ y1 then (
      nu2_
    ) else (
      LETV (F_sx_near nu2_ (v3_2 : Int32) (vs : Int32) : Int32) fun r3 =>
      LETV (va_up nu2_ 52 (upd (nu2_ 52) v3_2.toNatClampNeg r3) : Nat → Nat → Int32) fun nu4 =>
      LETV ((v3_2 + 1) : Int32) fun w7 =>
      L_sx_linkUnder_2_0 vs n (w7 : Int32) nu4
    )
def F_sx_linkUnder (mu : Nat → Nat → Int32) (vs : Int32) : Nat → Nat → Int32 :=
  L_sx_linkUnder_2_0 vs 10 (0 : Int32) mu
def F_sx_lookFrom (mu : Nat → Nat → Int32) (vx : Int32) (vy : Int32) (vp : Int32) : Nat → Nat → Int32 :=
  LETV (va_up mu 32 (upd (mu 32) 5 vx) : Nat → Nat → Int32) fun nu1 =>
  LETV (va_up nu1 32 (upd (nu1 32) 6 vy) : Nat → Nat → Int32) fun nu4 =>
  LETV (va_up nu4 32 (upd (nu4 32) 7 vp) : Nat → Nat → Int32) fun nu8 =>
  LETV (va_up nu8 53 (va_cpy (nu8 46) (nu8 53) (0 : Int32).toNatClampNeg (0 : Int32).toNatClampNeg (7 : Int32).toNatClampNeg) : Nat → Nat → Int32) fun nu13 =>
  LETV (nu13 5 2 : Int32) fun y18 =>
  LETV (F_sx_linkUnder nu13 (y18 : Int32) : Nat → Nat → Int32) fun xi19 =>
  xi19
def F_sx_lookAt (mu : Nat → Nat → Int32) (kl : Nat) : Nat → Nat → Int32 :=
  LETV (mu kl 5 : Int32) fun y1 =>
  LETV (mu kl 1 : Int32) fun y2 =>
  LETV (mu kl 6 : Int32) fun y3 =>
  LETV (F_sx_lookFrom mu (y1 : Int32) (y2 : Int32) (y3 : Int32) : Nat → Nat → Int32) fun xi4 =>
  LETV (xi4 5 3 : Int32) fun y6 =>
  LETV (F_sx_worthOn xi4 kl (y6 : Int32) : Int32) fun r7 =>
  LETV (va_up xi4 32 (upd (xi4 32) 8 r7) : Nat → Nat → Int32) fun nu8 =>
  LETV (nu8 kl 3 : Int32) fun y12 =>
  LETV (va_up nu8 32 (upd (nu8 32) 9 y12) : Nat → Nat → Int32) fun nu13 =>
  LETV (nu13 kl 7 : Int32) fun y19 =>
  if y19 = y6 then (
    LETV (va_up nu13 32 (upd (nu13 32) 10 1) : Nat → Nat → Int32) fun nu29 =>
    nu29
  ) else (
    LETV (va_up nu13 32 (upd (nu13 32) 10 0) : Nat → Nat → Int32) fun nu21 =>
    nu21
  )
def F_sx_buys (mu : Nat → Nat → Int32) (vx : Int32) (vy : Int32) (vu : Int32) (vp : Int32) : Int32 :=
  LETV (mu 52 vx.toNatClampNeg : Int32) fun y1 =>
  LETV (F_sx_hasBit (y1 : Int32) (vy : Int32) : Int32) fun r2 =>
  if r2 = (0 : Int32) then (
    (0 : Int32)
  ) else (
    LETV (F_sx_hasBit (vu : Int32) (vy : Int32) : Int32) fun r4 =>
    if r4 = (0 : Int32) then (
      LETV (mu 53 vy.toNatClampNeg : Int32) fun y6 =>
      if y6 < vp then (
        (0 : Int32)
      ) else (
        LETV (mu 32 6 : Int32) fun y8 =>
        if vy = y8 then (
          (1 : Int32)
        ) else (
          LETV (mu 34 vy.toNatClampNeg : Int32) fun y10 =>
          if y10 = (3 : Int32) then (
            (0 : Int32)
          ) else (
            (1 : Int32)
          )
        )
      )
    ) else (
      (0 : Int32)
    )
  )
def F_sx_needFor (mu : Nat → Nat → Int32) (vs : Int32) (vp : Int32) : Int32 :=
  if vp = (0 : Int32) then (
    (0 : Int32)
  ) else (
    LETV (mu 32 9 : Int32) fun y2 =>
    LETV (mu 32 10 : Int32) fun y3 =>
    LETV (y3 + vs : Int32) fun t4 =>
    LETV (t4 - 1 : Int32) fun t5 =>
    LETV (y2 * t5 : Int32) fun t6 =>
    LETV (vp + t6 : Int32) fun t7 =>
    (t7 : Int32)
  )
def F_sx_R_arrive (mu : Nat → Nat → Int32) (vs : Int32) (vu : Int32) (vp : Int32) : Nat → Nat → Int32 :=
  LETV (mu 32 11 : Int32) fun y1 =>
  LETV (y1 + 1 : Int32) fun t2 =>
  LETV (va_up mu 32 (upd (mu 32) 11 t2) : Nat → Nat → Int32) fun nu3 =>
  LETV (nu3 55 3 : Int32) fun y6 =>
  if y6 = (0 : Int32) then (
    LETV (F_sx_take55 nu3 (vs : Int32) (vp : Int32) : Nat → Nat → Int32) fun xi8 =>
    LETV (F_sx_needFor xi8 (vs : Int32) (vp : Int32) : Int32) fun r10 =>
    LETV (xi8 32 14 : Int32) fun y11 =>
    LETV (if r10 < y11 then r10 else y11 : Int32) fun t12 =>
    LETV (va_up xi8 32 (upd (xi8 32) 14 t12) : Nat → Nat → Int32) fun nu13 =>
    LETV (nu13 32 8 : Int32) fun y16 =>
    if r10 ≤ y16 then (
      LETV (nu13 32 12 : Int32) fun y18 =>
      LETV (y18 + 1 : Int32) fun t19 =>
      LETV (va_up nu13 32 (upd (nu13 32) 12 t19) : Nat → Nat → Int32) fun nu20 =>
      LETV (nu20 32 13 : Int32) fun y25 =>
      LETV (nu20 32 5 : Int32) fun y26 =>
      LETV (1 <<< (y26 &&& 31) : Int32) fun t27 =>
      LETV (t27 ^^^ (-1) : Int32) fun t28 =>
      LETV (vu &&& t28 : Int32) fun t29 =>
      LETV (y25 &&& t29 : Int32) fun t30 =>
      LETV (va_up nu20 32 (upd (nu20 32) 13 t30) : Nat → Nat → Int32) fun nu31 =>
      LETV (nu31 56 3 : Int32) fun y38 =>
      if y38 = (0 : Int32) then (
        LETV (F_sx_take56 nu31 (vs : Int32) (vp : Int32) : Nat → Nat → Int32) fun xi40 =>
        xi40
      ) else (
        LETV (nu31 56 1 : Int32) fun y42 =>
        if vs < y42 then (
          LETV (F_sx_take56 nu31 (vs : Int32) (vp : Int32) : Nat → Nat → Int32) fun xi44 =>
          xi44
        ) else (
          if vs = y42 then (
            LETV (nu31 56 2 : Int32) fun y47 =>
            if vp ≥ y47 then (
              nu31
            ) else (
              LETV (F_sx_take56 nu31 (vs : Int32) (vp : Int32) : Nat → Nat → Int32) fun xi49 =>
              xi49
            )
          ) else (
            nu31
          )
        )
      )
    ) else (
      nu13
    )
  ) else (
    LETV (nu3 55 2 : Int32) fun y51 =>
    if vp < y51 then (
      LETV (F_sx_take55 nu3 (vs : Int32) (vp : Int32) : Nat → Nat → Int32) fun xi53 =>
      LETV (F_sx_needFor xi53 (vs : Int32) (vp : Int32) : Int32) fun r55 =>
      LETV (xi53 32 14 : Int32) fun y56 =>
      LETV (if r55 < y56 then r55 else y56 : Int32) fun t57 =>
      LETV (va_up xi53 32 (upd (xi53 32) 14 t57) : Nat → Nat → Int32) fun nu58 =>
      LETV (nu58 32 8 : Int32) fun y61 =>
      if r55 ≤ y61 then (
        LETV (nu58 32 12 : Int32) fun y63 =>
        LETV (y63 + 1 : Int32) fun t64 =>
        LETV (va_up nu58 32 (upd (nu58 32) 12 t64) : Nat → Nat → Int32) fun nu65 =>
        LETV (nu65 32 13 : Int32) fun y70 =>
        LETV (nu65 32 5 : Int32) fun y71 =>
        LETV (1 <<< (y71 &&& 31) : Int32) fun t72 =>
        LETV (t72 ^^^ (-1) : Int32) fun t73 =>
        LETV (vu &&& t73 : Int32) fun t74 =>
        LETV (y70 &&& t74 : Int32) fun t75 =>
        LETV (va_up nu65 32 (upd (nu65 32) 13 t75) : Nat → Nat → Int32) fun nu76 =>
        LETV (nu76 56 3 : Int32) fun y83 =>
        if y83 = (0 : Int32) then (
          LETV (F_sx_take56 nu76 (vs : Int32) (vp : Int32) : Nat → Nat → Int32) fun xi85 =>
          xi85
        ) else (
          LETV (nu76 56 1 : Int32) fun y87 =>
          if vs < y87 then (
            LETV (F_sx_take56 nu76 (vs : Int32) (vp : Int32) : Nat → Nat → Int32) fun xi89 =>
            xi89
          ) else (
            if vs = y87 then (
              LETV (nu76 56 2 : Int32) fun y92 =>
              if vp ≥ y92 then (
                nu76
              ) else (
                LETV (F_sx_take56 nu76 (vs : Int32) (vp : Int32) : Nat → Nat → Int32) fun xi94 =>
                xi94
              )
            ) else (
              nu76
            )
          )
        )
      ) else (
        nu58
      )
    ) else (
      if vp = y51 then (
        LETV (nu3 55 1 : Int32) fun y147 =>
        if vs ≥ y147 then (
          LETV (F_sx_needFor nu3 (vs : Int32) (vp : Int32) : Int32) fun r149 =>
          LETV (nu3 32 14 : Int32) fun y150 =>
          LETV (if r149 < y150 then r149 else y150 : Int32) fun t151 =>
          LETV (va_up nu3 32 (upd (nu3 32) 14 t151) : Nat → Nat → Int32) fun nu152 =>
          LETV (nu152 32 8 : Int32) fun y159 =>
          if r149 ≤ y159 then (
            LETV (nu152 32 12 : Int32) fun y161 =>
            LETV (y161 + 1 : Int32) fun t162 =>
            LETV (va_up nu152 32 (upd (nu152 32) 12 t162) : Nat → Nat → Int32) fun nu163 =>
            LETV (nu163 32 13 : Int32) fun y172 =>
            LETV (nu163 32 5 : Int32) fun y173 =>
            LETV (1 <<< (y173 &&& 31) : Int32) fun t174 =>
            LETV (t174 ^^^ (-1) : Int32) fun t175 =>
            LETV (vu &&& t175 : Int32) fun t176 =>
            LETV (y172 &&& t176 : Int32) fun t177 =>
            LETV (va_up nu163 32 (upd (nu163 32) 13 t177) : Nat → Nat → Int32) fun nu178 =>
            LETV (nu178 56 3 : Int32) fun y189 =>
            if y189 = (0 : Int32) then (
              LETV (F_sx_take56 nu178 (vs : Int32) (vp : Int32) : Nat → Nat → Int32) fun xi191 =>
              xi191
            ) else (
              LETV (nu178 56 1 : Int32) fun y193 =>
              if vs < y193 then (
                LETV (F_sx_take56 nu178 (vs : Int32) (vp : Int32) : Nat → Nat → Int32) fun xi195 =>
                xi195
              ) else (
                if vs = y193 then (
                  LETV (nu178 56 2 : Int32) fun y198 =>
                  if vp ≥ y198 then (
                    nu178
                  ) else (
                    LETV (F_sx_take56 nu178 (vs : Int32) (vp : Int32) : Nat → Nat → Int32) fun xi200 =>
                    xi200
                  )
                ) else (
                  nu178
                )
              )
            )
          ) else (
            nu152
          )
        ) else (
          LETV (F_sx_take55 nu3 (vs : Int32) (vp : Int32) : Nat → Nat → Int32) fun xi202 =>
          LETV (F_sx_needFor xi202 (vs : Int32) (vp : Int32) : Int32) fun r204 =>
          LETV (xi202 32 14 : Int32) fun y205 =>
          LETV (if r204 < y205 then r204 else y205 : Int32) fun t206 =>
          LETV (va_up xi202 32 (upd (xi202 32) 14 t206) : Nat → Nat → Int32) fun nu207 =>
          LETV (nu207 32 8 : Int32) fun y210 =>
          if r204 ≤ y210 then (
            LETV (nu207 32 12 : Int32) fun y212 =>
            LETV (y212 + 1 : Int32) fun t213 =>
            LETV (va_up nu207 32 (upd (nu207 32) 12 t213) : Nat → Nat → Int32) fun nu214 =>
            LETV (nu214 32 13 : Int32) fun y219 =>
            LETV (nu214 32 5 : Int32) fun y220 =>
            LETV (1 <<< (y220 &&& 31) : Int32) fun t221 =>
            LETV (t221 ^^^ (-1) : Int32) fun t222 =>
            LETV (vu &&& t222 : Int32) fun t223 =>
            LETV (y219 &&& t223 : Int32) fun t224 =>
            LETV (va_up nu214 32 (upd (nu214 32) 13 t224) : Nat → Nat → Int32) fun nu225 =>
            LETV (nu225 56 3 : Int32) fun y232 =>
            if y232 = (0 : Int32) then (
              LETV (F_sx_take56 nu225 (vs : Int32) (vp : Int32) : Nat → Nat → Int32) fun xi234 =>
              xi234
            ) else (
              LETV (nu225 56 1 : Int32) fun y236 =>
              if vs < y236 then (
                LETV (F_sx_take56 nu225 (vs : Int32) (vp : Int32) : Nat → Nat → Int32) fun xi238 =>
                xi238
              ) else (
                if vs = y236 then (
                  LETV (nu225 56 2 : Int32) fun y241 =>
                  if vp ≥ y241 then (
                    nu225
                  ) else (
                    LETV (F_sx_take56 nu225 (vs : Int32) (vp : Int32) : Nat → Nat → Int32) fun xi243 =>
                    xi243
                  )
                ) else (
                  nu225
                )
              )
            )
          ) else (
            nu207
          )
        )
      ) else (
        LETV (F_sx_needFor nu3 (vs : Int32) (vp : Int32) : Int32) fun r97 =>
        LETV (nu3 32 14 : Int32) fun y98 =>
        LETV (if r97 < y98 then r97 else y98 : Int32) fun t99 =>
        LETV (va_up nu3 32 (upd (nu3 32) 14 t99) : Nat → Nat → Int32) fun nu100 =>
        LETV (nu100 32 8 : Int32) fun y106 =>
        if r97 ≤ y106 then (
          LETV (nu100 32 12 : Int32) fun y108 =>
          LETV (y108 + 1 : Int32) fun t109 =>
          LETV (va_up nu100 32 (upd (nu100 32) 12 t109) : Nat → Nat → Int32) fun nu110 =>
          LETV (nu110 32 13 : Int32) fun y118 =>
          LETV (nu110 32 5 : Int32) fun y119 =>
          LETV (1 <<< (y119 &&& 31) : Int32) fun t120 =>
          LETV (t120 ^^^ (-1) : Int32) fun t121 =>
          LETV (vu &&& t121 : Int32) fun t122 =>
          LETV (y118 &&& t122 : Int32) fun t123 =>
          LETV (va_up nu110 32 (upd (nu110 32) 13 t123) : Nat → Nat → Int32) fun nu124 =>
          LETV (nu124 56 3 : Int32) fun y134 =>
          if y134 = (0 : Int32) then (
            LETV (F_sx_take56 nu124 (vs : Int32) (vp : Int32) : Nat → Nat → Int32) fun xi136 =>
            xi136
          ) else (
            LETV (nu124 56 1 : Int32) fun y138 =>
            if vs < y138 then (
              LETV (F_sx_take56 nu124 (vs : Int32) (vp : Int32) : Nat → Nat → Int32) fun xi140 =>
              xi140
            ) else (
              if vs = y138 then (
                LETV (nu124 56 2 : Int32) fun y143 =>
                if vp ≥ y143 then (
                  nu124
                ) else (
                  LETV (F_sx_take56 nu124 (vs : Int32) (vp : Int32) : Nat → Nat → Int32) fun xi145 =>
                  xi145
                )
              ) else (
                nu124
              )
            )
          )
        ) else (
          nu100
        )
      )
    )
  )
def L_sx_walkOn6_30_0 : Nat → (Int32) → (Nat → Nat → Int32) → Nat → Nat → Int32
  | 0, v8_30, nu30_ => nu30_
  | n + 1, v8_30, nu30_ =>
    LETV (nu30_ 4 6 : Int32) fun y4 =>
    if v8_30 ≥ y4 then (
      nu30_
    ) else (
      nu30_
    )
def F_sx_walkOn6 (mu : Nat → Nat → Int32) (vu : Int32) (vp : Int32) : Nat → Nat → Int32 :=
  LETV (mu 54 (6 : Int32).toNatClampNeg : Int32) fun y1 =>
  LETV (mu 34 y1.toNatClampNeg : Int32) fun y2 =>
  LETV (F_sx_priceAsked (y2 : Int32) (vp : Int32) : Int32) fun r3 =>
  L_sx_walkOn6_30_0 10 (0 : Int32) mu
def L_sx_walkOn5_30_0 (r3 : Int32) (vu : Int32) (y1 : Int32) : Nat → (Int32) → (Nat → Nat → Int32) → Nat → Nat → Int32
  | 0, v8_30, nu30_ => nu30_
  | n + 1, v8_30, nu30_ =>
    LETV (nu30_ 4 6 : Int32) fun y4 =>
    if v8_30 ≥ y4 then (
      nu30_
    ) else (
      LETV (F_sx_buys nu30_ (y1 : Int32) (v8_30 : Int32) (vu : Int32) (r3 : Int32) : Int32) fun r6 =>
      if r6 = (0 : Int32) then (
        LETV ((v8_30 + 1) : Int32) fun w21 =>
        L_sx_walkOn5_30_0 r3 vu y1 n (w21 : Int32) nu30_
      ) else (
        LETV (va_up nu30_ 54 (upd (nu30_ 54) (6 : Int32).toNatClampNeg v8_30) : Nat → Nat → Int32) fun nu8 =>
        LETV (nu8 32 6 : Int32) fun y11 =>
        if v8_30 = y11 then (
          LETV (F_sx_R_arrive nu8 (6 : Int32) (vu : Int32) (r3 : Int32) : Nat → Nat → Int32) fun xi18 =>
          LETV ((v8_30 + 1) : Int32) fun w20 =>
          L_sx_walkOn5_30_0 r3 vu y1 n (w20 : Int32) xi18
        ) else (
          LETV (1 <<< (v8_30 &&& 31) : Int32) fun t13 =>
          LETV (vu ||| t13 : Int32) fun t14 =>
          LETV (F_sx_walkOn6 nu8 (t14 : Int32) (r3 : Int32) : Nat → Nat → Int32) fun xi15 =>
          LETV ((v8_30 + 1) : Int32) fun w17 =>
          L_sx_walkOn5_30_0 r3 vu y1 n (w17 : Int32) xi15
        )
      )
    )
def F_sx_walkOn5 (mu : Nat → Nat → Int32) (vu : Int32) (vp : Int32) : Nat → Nat → Int32 :=
  LETV (mu 54 (5 : Int32).toNatClampNeg : Int32) fun y1 =>
  LETV (mu 34 y1.toNatClampNeg : Int32) fun y2 =>
  LETV (F_sx_priceAsked (y2 : Int32) (vp : Int32) : Int32) fun r3 =>
  L_sx_walkOn5_30_0 r3 vu y1 10 (0 : Int32) mu
def L_sx_walkOn4_30_0 (r3 : Int32) (vu : Int32) (y1 : Int32) : Nat → (Int32) → (Nat → Nat → Int32) → Nat → Nat → Int32
  | 0, v8_30, nu30_ => nu30_
  | n + 1, v8_30, nu30_ =>
    LETV (nu30_ 4 6 : Int32) fun y4 =>
    if v8_30 ≥ y4 then (
      nu30_
    ) else (
      LETV (F_sx_buys nu30_ (y1 : Int32) (v8_30 : Int32) (vu : Int32) (r3 : Int32) : Int32) fun r6 =>
      if r6 = (0 : Int32) then (
        LETV ((v8_30 + 1) : Int32) fun w21 =>
        L_sx_walkOn4_30_0 r3 vu y1 n (w21 : Int32) nu30_
      ) else (
        LETV (va_up nu30_ 54 (upd (nu30_ 54) (5 : Int32).toNatClampNeg v8_30) : Nat → Nat → Int32) fun nu8 =>
        LETV (nu8 32 6 : Int32) fun y11 =>
        if v8_30 = y11 then (
          LETV (F_sx_R_arrive nu8 (5 : Int32) (vu : Int32) (r3 : Int32) : Nat → Nat → Int32) fun xi18 =>
          LETV ((v8_30 + 1) : Int32) fun w20 =>
          L_sx_walkOn4_30_0 r3 vu y1 n (w20 : Int32) xi18
        ) else (
          LETV (1 <<< (v8_30 &&& 31) : Int32) fun t13 =>
          LETV (vu ||| t13 : Int32) fun t14 =>
          LETV (F_sx_walkOn5 nu8 (t14 : Int32) (r3 : Int32) : Nat → Nat → Int32) fun xi15 =>
          LETV ((v8_30 + 1) : Int32) fun w17 =>
          L_sx_walkOn4_30_0 r3 vu y1 n (w17 : Int32) xi15
        )
      )
    )
def F_sx_walkOn4 (mu : Nat → Nat → Int32) (vu : Int32) (vp : Int32) : Nat → Nat → Int32 :=
  LETV (mu 54 (4 : Int32).toNatClampNeg : Int32) fun y1 =>
  LETV (mu 34 y1.toNatClampNeg : Int32) fun y2 =>
  LETV (F_sx_priceAsked (y2 : Int32) (vp : Int32) : Int32) fun r3 =>
  L_sx_walkOn4_30_0 r3 vu y1 10 (0 : Int32) mu
def L_sx_walkOn3_30_0 (r3 : Int32) (vu : Int32) (y1 : Int32) : Nat → (Int32) → (Nat → Nat → Int32) → Nat → Nat → Int32
  | 0, v8_30, nu30_ => nu30_
  | n + 1, v8_30, nu30_ =>
    LETV (nu30_ 4 6 : Int32) fun y4 =>
    if v8_30 ≥ y4 then (
      nu30_
    ) else (
      LETV (F_sx_buys nu30_ (y1 : Int32) (v8_30 : Int32) (vu : Int32) (r3 : Int32) : Int32) fun r6 =>
      if r6 = (0 : Int32) then (
        LETV ((v8_30 + 1) : Int32) fun w21 =>
        L_sx_walkOn3_30_0 r3 vu y1 n (w21 : Int32) nu30_
      ) else (
        LETV (va_up nu30_ 54 (upd (nu30_ 54) (4 : Int32).toNatClampNeg v8_30) : Nat → Nat → Int32) fun nu8 =>
        LETV (nu8 32 6 : Int32) fun y11 =>
        if v8_30 = y11 then (
          LETV (F_sx_R_arrive nu8 (4 : Int32) (vu : Int32) (r3 : Int32) : Nat → Nat → Int32) fun xi18 =>
          LETV ((v8_30 + 1) : Int32) fun w20 =>
          L_sx_walkOn3_30_0 r3 vu y1 n (w20 : Int32) xi18
        ) else (
          LETV (1 <<< (v8_30 &&& 31) : Int32) fun t13 =>
          LETV (vu ||| t13 : Int32) fun t14 =>
          LETV (F_sx_walkOn4 nu8 (t14 : Int32) (r3 : Int32) : Nat → Nat → Int32) fun xi15 =>
          LETV ((v8_30 + 1) : Int32) fun w17 =>
          L_sx_walkOn3_30_0 r3 vu y1 n (w17 : Int32) xi15
        )
      )
    )
def F_sx_walkOn3 (mu : Nat → Nat → Int32) (vu : Int32) (vp : Int32) : Nat → Nat → Int32 :=
  LETV (mu 54 (3 : Int32).toNatClampNeg : Int32) fun y1 =>
  LETV (mu 34 y1.toNatClampNeg : Int32) fun y2 =>
  LETV (F_sx_priceAsked (y2 : Int32) (vp : Int32) : Int32) fun r3 =>
  L_sx_walkOn3_30_0 r3 vu y1 10 (0 : Int32) mu
def L_sx_walkOn2_30_0 (r3 : Int32) (vu : Int32) (y1 : Int32) : Nat → (Int32) → (Nat → Nat → Int32) → Nat → Nat → Int32
  | 0, v8_30, nu30_ => nu30_
  | n + 1, v8_30, nu30_ =>
    LETV (nu30_ 4 6 : Int32) fun y4 =>
    if v8_30 ≥ y4 then (
      nu30_
    ) else (
      LETV (F_sx_buys nu30_ (y1 : Int32) (v8_30 : Int32) (vu : Int32) (r3 : Int32) : Int32) fun r6 =>
      if r6 = (0 : Int32) then (
        LETV ((v8_30 + 1) : Int32) fun w21 =>
        L_sx_walkOn2_30_0 r3 vu y1 n (w21 : Int32) nu30_
      ) else (
        LETV (va_up nu30_ 54 (upd (nu30_ 54) (3 : Int32).toNatClampNeg v8_30) : Nat → Nat → Int32) fun nu8 =>
        LETV (nu8 32 6 : Int32) fun y11 =>
        if v8_30 = y11 then (
          LETV (F_sx_R_arrive nu8 (3 : Int32) (vu : Int32) (r3 : Int32) : Nat → Nat → Int32) fun xi18 =>
          LETV ((v8_30 + 1) : Int32) fun w20 =>
          L_sx_walkOn2_30_0 r3 vu y1 n (w20 : Int32) xi18
        ) else (
          LETV (1 <<< (v8_30 &&& 31) : Int32) fun t13 =>
          LETV (vu ||| t13 : Int32) fun t14 =>
          LETV (F_sx_walkOn3 nu8 (t14 : Int32) (r3 : Int32) : Nat → Nat → Int32) fun xi15 =>
          LETV ((v8_30 + 1) : Int32) fun w17 =>
          L_sx_walkOn2_30_0 r3 vu y1 n (w17 : Int32) xi15
        )
      )
    )
def F_sx_walkOn2 (mu : Nat → Nat → Int32) (vu : Int32) (vp : Int32) : Nat → Nat → Int32 :=
  LETV (mu 54 (2 : Int32).toNatClampNeg : Int32) fun y1 =>
  LETV (mu 34 y1.toNatClampNeg : Int32) fun y2 =>
  LETV (F_sx_priceAsked (y2 : Int32) (vp : Int32) : Int32) fun r3 =>
  L_sx_walkOn2_30_0 r3 vu y1 10 (0 : Int32) mu
def L_sx_walkOn1_30_0 (r3 : Int32) (vu : Int32) (y1 : Int32) : Nat → (Int32) → (Nat → Nat → Int32) → Nat → Nat → Int32
  | 0, v8_30, nu30_ => nu30_
  | n + 1, v8_30, nu30_ =>
    LETV (nu30_ 4 6 : Int32) fun y4 =>
    if v8_30 ≥ y4 then (
      nu30_
    ) else (
      LETV (F_sx_buys nu30_ (y1 : Int32) (v8_30 : Int32) (vu : Int32) (r3 : Int32) : Int32) fun r6 =>
      if r6 = (0 : Int32) then (
        LETV ((v8_30 + 1) : Int32) fun w21 =>
        L_sx_walkOn1_30_0 r3 vu y1 n (w21 : Int32) nu30_
      ) else (
        LETV (va_up nu30_ 54 (upd (nu30_ 54) (2 : Int32).toNatClampNeg v8_30) : Nat → Nat → Int32) fun nu8 =>
        LETV (nu8 32 6 : Int32) fun y11 =>
        if v8_30 = y11 then (
          LETV (F_sx_R_arrive nu8 (2 : Int32) (vu : Int32) (r3 : Int32) : Nat → Nat → Int32) fun xi18 =>
          LETV ((v8_30 + 1) : Int32) fun w20 =>
          L_sx_walkOn1_30_0 r3 vu y1 n (w20 : Int32) xi18
        ) else (
          LETV (1 <<< (v8_30 &&& 31) : Int32) fun t13 =>
          LETV (vu ||| t13 : Int32) fun t14 =>
          LETV (F_sx_walkOn2 nu8 (t14 : Int32) (r3 : Int32) : Nat → Nat → Int32) fun xi15 =>
          LETV ((v8_30 + 1) : Int32) fun w17 =>
          L_sx_walkOn1_30_0 r3 vu y1 n (w17 : Int32) xi15
        )
      )
    )
def F_sx_walkOn1 (mu : Nat → Nat → Int32) (vu : Int32) (vp : Int32) : Nat → Nat → Int32 :=
  LETV (mu 54 (1 : Int32).toNatClampNeg : Int32) fun y1 =>
  LETV (mu 34 y1.toNatClampNeg : Int32) fun y2 =>
  LETV (F_sx_priceAsked (y2 : Int32) (vp : Int32) : Int32) fun r3 =>
  L_sx_walkOn1_30_0 r3 vu y1 10 (0 : Int32) mu
def L_sx_walkOn0_30_0 (r3 : Int32) (vu : Int32) (y1 : Int32) : Nat → (Int32) → (Nat → Nat → Int32) → Nat → Nat → Int32
  | 0, v8_30, nu30_ => nu30_
  | n + 1, v8_30, nu30_ =>
    LETV (nu30_ 4 6 : Int32) fun y4 =>
    if v8_30 ≥ y4 then (
      nu30_
    ) else (
      LETV (F_sx_buys nu30_ (y1 : Int32) (v8_30 : Int32) (vu : Int32) (r3 : Int32) : Int32) fun r6 =>
      if r6 = (0 : Int32) then (
        LETV ((v8_30 + 1) : Int32) fun w21 =>
        L_sx_walkOn0_30_0 r3 vu y1 n (w21 : Int32) nu30_
      ) else (
        LETV (va_up nu30_ 54 (upd (nu30_ 54) (1 : Int32).toNatClampNeg v8_30) : Nat → Nat → Int32) fun nu8 =>
        LETV (nu8 32 6 : Int32) fun y11 =>
        if v8_30 = y11 then (
          LETV (F_sx_R_arrive nu8 (1 : Int32) (vu : Int32) (r3 : Int32) : Nat → Nat → Int32) fun xi18 =>
          LETV ((v8_30 + 1) : Int32) fun w20 =>
          L_sx_walkOn0_30_0 r3 vu y1 n (w20 : Int32) xi18
        ) else (
          LETV (1 <<< (v8_30 &&& 31) : Int32) fun t13 =>
          LETV (vu ||| t13 : Int32) fun t14 =>
          LETV (F_sx_walkOn1 nu8 (t14 : Int32) (r3 : Int32) : Nat → Nat → Int32) fun xi15 =>
          LETV ((v8_30 + 1) : Int32) fun w17 =>
          L_sx_walkOn0_30_0 r3 vu y1 n (w17 : Int32) xi15
        )
      )
    )
def F_sx_walkOn0 (mu : Nat → Nat → Int32) (vu : Int32) (vp : Int32) : Nat → Nat → Int32 :=
  LETV (mu 54 (0 : Int32).toNatClampNeg : Int32) fun y1 =>
  LETV (mu 34 y1.toNatClampNeg : Int32) fun y2 =>
  LETV (F_sx_priceAsked (y2 : Int32) (vp : Int32) : Int32) fun r3 =>
  L_sx_walkOn0_30_0 r3 vu y1 10 (0 : Int32) mu
