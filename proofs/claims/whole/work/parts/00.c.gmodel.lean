def gX12_thrown (S : zM) : Option Int32 :=
    some (gI S 0 0)
def gX12_good (S : zM) : Option zM :=
    some (pI (pI S 0 0 (0 : Int32)) 0 11 (0 : Int32))
def gX12_no (S : zM) (a1 : Int32) : Option (Int32 × zM) :=
    some ((-1 : Int32), (pI S 0 11 a1))
def gX12_not (S : zM) (a1 : Int32) : Option (Int32 × zM) :=
    some ((-1000 : Int32), (pI S 0 11 a1))
def gX12_none (S : zM) (a1 : Int32) : Option (Int64 × zM) :=
    some ((-9223372036854775808 : Int64), (pI S 0 11 a1))
def gX12_isNot (S : zM) (a1 : Int32) : Option (Int32 × zM) :=
    some ((0 : Int32), (pI S 0 11 a1))
def gX12_within (a0 : Int32) (a1 : Int32) (a2 : Int32) : Option Int32 :=
    if a0 < a1 then
      some (0 : Int32)
    else
      if a2 < a0 then
        some (0 : Int32)
      else
        some (1 : Int32)
def gX12_feed_J76 (S : zM) (v1 : Int32) (v2 : Int32) (v3 : Int32) (v4 : Int32) (v5 : Int32) (v6 : Int32) (s0 : Int32) : Option ((Int32 × zM) ⊕ (Int32 × zM)) :=
    ck (ixb (gI S 0 2) 700) <|
    lt (pI S 1 (ix (gI S 0 2)) ((s0 >>> (((24 : Int32) - ((8 : Int32) * (v6 - v6 / (4 : Int32) * (4 : Int32)))) &&& 31)) &&& (255 : Int32))) fun S2 =>
    some (.inr ((v6 + (1 : Int32)), (pI S2 0 2 ((gI S2 0 2) + (1 : Int32)))))
def gX12_feed_L23 (v1 : Int32) (v2 : Int32) (v3 : Int32) (v4 : Int32) (v5 : Int32) : Nat → zM → Int32 → Option (Int32 × zM)
  | 0, _, _ => none
  | n + 1, S, v6 =>
    if (20 : Int32) ≤ v6 then
      some ((gI S 0 2), S)
    else
      if (4 : Int32) ≤ v6 then
        if (8 : Int32) ≤ v6 then
          if (12 : Int32) ≤ v6 then
            if (16 : Int32) ≤ v6 then
              lm (gX12_feed_J76 S v1 v2 v3 v4 v5 v6 v5) (un2 fun v6 S => gX12_feed_L23 v1 v2 v3 v4 v5 n S v6)
            else
              lm (gX12_feed_J76 S v1 v2 v3 v4 v5 v6 v4) (un2 fun v6 S => gX12_feed_L23 v1 v2 v3 v4 v5 n S v6)
          else
            lm (gX12_feed_J76 S v1 v2 v3 v4 v5 v6 v3) (un2 fun v6 S => gX12_feed_L23 v1 v2 v3 v4 v5 n S v6)
        else
          lm (gX12_feed_J76 S v1 v2 v3 v4 v5 v6 v2) (un2 fun v6 S => gX12_feed_L23 v1 v2 v3 v4 v5 n S v6)
      else
        lm (gX12_feed_J76 S v1 v2 v3 v4 v5 v6 v1) (un2 fun v6 S => gX12_feed_L23 v1 v2 v3 v4 v5 n S v6)
def gX12_feed (S : zM) (a1 : Int32) (a2 : Int32) (a3 : Int32) (a4 : Int32) (a5 : Int32) : Option (Int32 × zM) :=
    if ((gI (pI S 0 0 (0 : Int32)) 0 2) + (20 : Int32)) ≤ (700 : Int32) then
      gX12_feed_L23 a1 a2 a3 a4 a5 FU (pI S 0 0 (0 : Int32)) (0 : Int32)
    else
      some ((-1 : Int32), (pI S 0 0 (0 : Int32)))
def gX12_look (S : zM) (a1 : Int32) : Option Int32 :=
    if (gI S 0 3) ≤ a1 then
      some (-1 : Int32)
    else
      ck (ixb a1 700) <|
      some (gI S 1 (ix a1))
def gX12_isSmall (a0 : Int32) : Option Int32 :=
    if a0 < (97 : Int32) then
      some (0 : Int32)
    else
      if (122 : Int32) < a0 then
        some (0 : Int32)
      else
        some (1 : Int32)
def gX12_isDigit (a0 : Int32) : Option Int32 :=
    if a0 < (48 : Int32) then
      some (0 : Int32)
    else
      if (57 : Int32) < a0 then
        some (0 : Int32)
      else
        some (1 : Int32)
def gX12_next_L5 (S : zM) : Nat → Int32 → Option Int32
  | 0, _ => none
  | n + 1, v1 =>
    b1 (gX12_look S v1) fun r1 =>
    if r1 = (32 : Int32) then
      gX12_next_L5 S n (v1 + (1 : Int32))
    else
      some v1
def gX12_next_L152 : Nat → zM → Int32 → Int32 → Option zM
  | 0, _, _, _ => none
  | n + 1, S, v1, v3 =>
    b1 (gX12_look S v1) fun r10 =>
    b1 (gX12_isDigit r10) fun r11 =>
    if r11 = 0 then
      if v3 ≤ (3 : Int32) then
        some (pI (pI S 0 5 v1) 0 6 (3 : Int32))
      else
        some (pI (pI S 0 5 v1) 0 6 (1 : Int32))
    else
      if (3 : Int32) ≤ v3 then
        gX12_next_L152 n S (v1 + (1 : Int32)) (v3 + (1 : Int32))
      else
        b1 (gX12_look S v1) fun r12 =>
        gX12_next_L152 n (pI S 0 7 ((((10 : Int32) * (gI S 0 7)) + r12) - (48 : Int32))) (v1 + (1 : Int32)) (v3 + (1 : Int32))
def gX12_next_L67 : Nat → zM → Int32 → Option zM
  | 0, _, _ => none
  | n + 1, S, v1 =>
    b1 (gX12_look S v1) fun r13 =>
    b1 (gX12_isSmall r13) fun r14 =>
    if r14 = 0 then
      if (gI (pI S 0 5 v1) 0 8) ≤ (8 : Int32) then
        some (pI (pI S 0 5 v1) 0 6 (2 : Int32))
      else
        some (pI (pI S 0 5 v1) 0 6 (1 : Int32))
    else
      if (8 : Int32) ≤ (gI S 0 8) then
        gX12_next_L67 n (pI S 0 8 ((gI S 0 8) + (1 : Int32))) (v1 + (1 : Int32))
      else
        b1 (gX12_look S v1) fun r15 =>
        ck (ixb (gI S 0 8) 8) <|
        lt (pI (pI S 2 (ix (gI S 0 8)) r15) 0 8 ((gI (pI S 2 (ix (gI S 0 8)) r15) 0 8) + (1 : Int32))) fun S17 =>
        gX12_next_L67 n S17 (v1 + (1 : Int32))
def gX12_next (S : zM) : Option zM :=
    b1 (gX12_next_L5 S FU (gI S 0 5)) fun w2 =>
    b1 (gX12_look (pI S 0 4 w2) w2) fun r3 =>
    if r3 = (-1 : Int32) then
      some (pI (pI (pI (pI (pI S 0 4 w2) 0 8 (0 : Int32)) 0 7 (0 : Int32)) 0 6 (0 : Int32)) 0 5 w2)
    else
      b1 (gX12_isSmall r3) fun r4 =>
      if r4 = 0 then
        b1 (gX12_isDigit r3) fun r5 =>
        if r5 = 0 then
          if r3 = (59 : Int32) then
            lt (pI (pI (pI (pI (pI S 0 4 w2) 0 8 (0 : Int32)) 0 7 (0 : Int32)) 0 5 (w2 + (1 : Int32))) 0 6 r3) fun S6 =>
            some S6
          else
            if r3 = (44 : Int32) then
              lt (pI (pI (pI (pI (pI S 0 4 w2) 0 8 (0 : Int32)) 0 7 (0 : Int32)) 0 5 (w2 + (1 : Int32))) 0 6 r3) fun S7 =>
              some S7
            else
              if r3 = (47 : Int32) then
                lt (pI (pI (pI (pI (pI S 0 4 w2) 0 8 (0 : Int32)) 0 7 (0 : Int32)) 0 5 (w2 + (1 : Int32))) 0 6 r3) fun S9 =>
                some S9
              else
                lt (pI (pI (pI (pI (pI S 0 4 w2) 0 8 (0 : Int32)) 0 7 (0 : Int32)) 0 5 (w2 + (1 : Int32))) 0 6 (1 : Int32)) fun S8 =>
                some S8
        else
          gX12_next_L152 FU (pI (pI (pI S 0 4 w2) 0 8 (0 : Int32)) 0 7 (0 : Int32)) w2 (0 : Int32)
      else
        gX12_next_L67 FU (pI (pI (pI S 0 4 w2) 0 8 (0 : Int32)) 0 7 (0 : Int32)) w2
def gX12_wrong (S : zM) (a1 : Int32) (a2 : Int32) : Option zM :=
    if (gI S 0 13) = 0 then
      some (pI (pI (pI S 0 13 (1 : Int32)) 0 9 a1) 0 10 a2)
    else
      some S
def gX12_isWord_L32 (S : zM) (v1 : Nat) : Nat → Int32 → Int32 → Option Int32
  | 0, _, _ => none
  | n + 1, v2, v3 =>
    if (gI S 0 8) ≤ v3 then
      ck (isB v2) <|
      some v2
    else
      if v2 = 0 then
        gX12_isWord_L32 S v1 n (0 : Int32) (v3 + (1 : Int32))
      else
        ck (ixb v3 8) <|
        ck (ixb v3 (slnN v1)) <|
        if (gI S 2 (ix v3)) = (sch v1 v3) then
          gX12_isWord_L32 S v1 n (1 : Int32) (v3 + (1 : Int32))
        else
          gX12_isWord_L32 S v1 n (0 : Int32) (v3 + (1 : Int32))
def gX12_isWord (S : zM) (a1 : Nat) : Option Int32 :=
    if (gI S 0 13) = 0 then
      if (gI S 0 6) = (2 : Int32) then
        if (gI S 0 8) = (slen a1) then
          gX12_isWord_L32 S a1 FU (1 : Int32) (0 : Int32)
        else
          some (0 : Int32)
      else
        some (0 : Int32)
    else
      some (0 : Int32)
def gX12_takes (S : zM) (a1 : Nat) : Option (Int32 × zM) :=
    b1 (gX12_isWord S a1) fun r1 =>
    if r1 = 0 then
      some ((0 : Int32), S)
    else
      b1 (gX12_next S) fun S3 =>
      some ((1 : Int32), S3)
def gX12_must (S : zM) (a1 : Nat) : Option zM :=
    if (gI S 0 13) = 0 then
      b2 (gX12_takes S a1) fun r1 S2 =>
      if r1 = 0 then
        b1 (gX12_wrong S2 (1 : Int32) (gI S2 0 4)) fun S4 =>
        some S4
      else
        some S2
    else
      some S
def gX12_mustName_J113 (S : zM) (s0 : Int32) : Option zM :=
    if (gI S 0 6) = (2 : Int32) then
      if s0 = 0 then
        some S
      else
        b1 (gX12_wrong S (1 : Int32) (gI S 0 4)) fun S5 =>
        some S5
    else
      b1 (gX12_wrong S (1 : Int32) (gI S 0 4)) fun S3 =>
      some S3
def gX12_mustName (S : zM) : Option zM :=
    b1 (gX12_isWord S 10000) fun r1 =>
    if r1 = 0 then
      b1 (gX12_isWord S 10001) fun r6 =>
      if r6 = 0 then
        b1 (gX12_isWord S 10002) fun r7 =>
        if r7 = 0 then
          b1 (gX12_isWord S 10003) fun r8 =>
          if r8 = 0 then
            b1 (gX12_isWord S 10004) fun r9 =>
            if r9 = 0 then
              b1 (gX12_isWord S 10005) fun r10 =>
              if r10 = 0 then
                b1 (gX12_isWord S 10006) fun r11 =>
                if r11 = 0 then
                  b1 (gX12_isWord S 10007) fun r12 =>
                  if r12 = 0 then
                    b1 (gX12_isWord S 10008) fun r13 =>
                    if r13 = 0 then
                      b1 (gX12_isWord S 10009) fun r14 =>
                      if r14 = 0 then
                        b1 (gX12_isWord S 10010) fun r15 =>
                        if r15 = 0 then
                          b1 (gX12_isWord S 10011) fun r16 =>
                          if r16 = 0 then
                            gX12_mustName_J113 S (0 : Int32)
                          else
                            gX12_mustName_J113 S (1 : Int32)
                        else
                          gX12_mustName_J113 S (1 : Int32)
                      else
                        gX12_mustName_J113 S (1 : Int32)
                    else
                      gX12_mustName_J113 S (1 : Int32)
                  else
                    gX12_mustName_J113 S (1 : Int32)
                else
                  gX12_mustName_J113 S (1 : Int32)
              else
                gX12_mustName_J113 S (1 : Int32)
            else
              gX12_mustName_J113 S (1 : Int32)
          else
            gX12_mustName_J113 S (1 : Int32)
        else
          gX12_mustName_J113 S (1 : Int32)
      else
        gX12_mustName_J113 S (1 : Int32)
    else
      gX12_mustName_J113 S (1 : Int32)
def gX12_find_L42 (S : zM) (v1 : Int32) (v2 : Int32) : Nat → Int32 → Int32 → Option Int32
  | 0, _, _ => none
  | n + 1, v3, v4 =>
    if (gI S 0 8) ≤ v4 then
      some v3
    else
      if v3 = 0 then
        some v3
      else
        ck (ixb (((303 : Int32) + ((8 : Int32) * v2)) + v4) 463) <|
        ck (ixb v4 8) <|
        if (gI S 4 (ix (((303 : Int32) + ((8 : Int32) * v2)) + v4))) = (gI S 2 (ix v4)) then
          gX12_find_L42 S v1 v2 n (1 : Int32) (v4 + (1 : Int32))
        else
          gX12_find_L42 S v1 v2 n (0 : Int32) (v4 + (1 : Int32))
def gX12_find_L4 (S : zM) : Nat → Int32 → Int32 → Option Int32
  | 0, _, _ => none
  | n + 1, v1, v2 =>
    ck (ixb (242 : Int32) 463) <|
    if (gI S 4 (ix (242 : Int32))) ≤ v2 then
      some v1
    else
      ck (ixb ((283 : Int32) + v2) 463) <|
      if (gI S 4 (ix ((283 : Int32) + v2))) = (gI S 0 8) then
        b1 (gX12_find_L42 S v1 v2 FU (1 : Int32) (0 : Int32)) fun w8 =>
        if w8 = 0 then
          gX12_find_L4 S n v1 (v2 + (1 : Int32))
        else
          gX12_find_L4 S n v2 (v2 + (1 : Int32))
      else
        b1 (gX12_find_L42 S v1 v2 FU (0 : Int32) (0 : Int32)) fun w5 =>
        if w5 = 0 then
          gX12_find_L4 S n v1 (v2 + (1 : Int32))
        else
          gX12_find_L4 S n v2 (v2 + (1 : Int32))
def gX12_find (S : zM) : Option Int32 :=
    gX12_find_L4 S FU (-1 : Int32) (0 : Int32)
def gX12_newName_L47 (v1 : Int32) (v2 : Int32) (v3 : Int32) : Nat → zM → Int32 → Option zM
  | 0, _, _ => none
  | n + 1, S, v4 =>
    if (gI S 0 8) ≤ v4 then
      ck (ixb ((283 : Int32) + v3) 463) <|
      ck (ixb ((243 : Int32) + v3) 463) <|
      ck (ixb ((263 : Int32) + v3) 463) <|
      lt (pI (pI (pI S 4 (ix ((283 : Int32) + v3)) (gI S 0 8)) 4 (ix ((243 : Int32) + v3)) v1) 4 (ix ((263 : Int32) + v3)) v2) fun S7 =>
      ck (ixb (242 : Int32) 463) <|
      ck (ixb (242 : Int32) 463) <|
      b1 (gX12_next (pI S7 4 (ix (242 : Int32)) ((gI S7 4 (ix (242 : Int32))) + (1 : Int32)))) fun S11 =>
      some S11
    else
      ck (ixb v4 8) <|
      ck (ixb (((303 : Int32) + ((8 : Int32) * v3)) + v4) 463) <|
      gX12_newName_L47 v1 v2 v3 n (pI S 4 (ix (((303 : Int32) + ((8 : Int32) * v3)) + v4)) (gI S 2 (ix v4))) (v4 + (1 : Int32))
def gX12_newName_J27 (S : zM) (v1 : Int32) (v2 : Int32) : Option zM :=
    if (gI S 0 13) = 0 then
      ck (ixb (242 : Int32) 463) <|
      gX12_newName_L47 v1 v2 (gI S 4 (ix (242 : Int32))) FU S (0 : Int32)
    else
      some S
def gX12_newName (S : zM) (a1 : Int32) (a2 : Int32) : Option zM :=
    b1 (gX12_mustName S) fun S2 =>
    if (gI S2 0 13) = 0 then
      b1 (gX12_find S2) fun r14 =>
      if r14 < 0 then
        if (gI S2 0 13) = 0 then
          ck (ixb (242 : Int32) 463) <|
          gX12_newName_L47 a1 a2 (gI S2 4 (ix (242 : Int32))) FU S2 (0 : Int32)
        else
          some S2
      else
        b1 (gX12_wrong S2 (3 : Int32) (gI S2 0 4)) fun S27 =>
        gX12_newName_J27 S27 a1 a2
    else
      if (gI S2 0 13) = 0 then
        ck (ixb (242 : Int32) 463) <|
        gX12_newName_L47 a1 a2 (gI S2 4 (ix (242 : Int32))) FU S2 (0 : Int32)
      else
        some S2
def gX12_number (S : zM) (a1 : Int32) (a2 : Int32) : Option (Int32 × zM) :=
    if (gI S 0 13) = 0 then
      if (gI S 0 6) = (3 : Int32) then
        b1 (gX12_within (gI S 0 7) a1 a2) fun r1 =>
        if r1 = 0 then
          b1 (gX12_wrong S (4 : Int32) (gI S 0 4)) fun S5 =>
          some (a1, S5)
        else
          b1 (gX12_next S) fun S3 =>
          some ((gI S 0 7), S3)
      else
        b1 (gX12_wrong S (1 : Int32) (gI S 0 4)) fun S7 =>
        some (a1, S7)
    else
      some (a1, S)
def gX12_signed (S : zM) (a1 : Int32) : Option (Int32 × zM) :=
    b2 (gX12_takes S 10007) fun r1 S2 =>
    b2 (gX12_number S2 (0 : Int32) a1) fun r3 S4 =>
    if r1 = 0 then
      some (r3, S4)
    else
      some ((-r3), S4)
def gX12_slash (S : zM) : Option zM :=
    if (gI S 0 13) = 0 then
      if (gI S 0 6) = (47 : Int32) then
        b1 (gX12_next S) fun S2 =>
        some S2
      else
        b1 (gX12_wrong S (1 : Int32) (gI S 0 4)) fun S4 =>
        some S4
    else
      some S
def gX12_stepOf_J230 (S : zM) (v1 : Int32) : Option zM :=
    ck (ixb ((0 : Int32) + v1) 463) <|
    ck (ixb ((0 : Int32) + v1) 463) <|
    some (pI S 4 (ix ((0 : Int32) + v1)) ((gI S 4 (ix ((0 : Int32) + v1))) + (1 : Int32)))
def gX12_stepOf_J226 (S : zM) (v1 : Int32) (s0 : Int32) (s1 : Int32) (s3 : Int32) : Option zM :=
    b2 (gX12_number S s1 s0) fun r15 S16 =>
    ck (ixb s3 463) <|
    gX12_stepOf_J230 (pI S16 4 (ix s3) r15) v1
def gX12_stepOf_J190 (S : zM) (v1 : Int32) (v2 : Int32) (v3 : Int32) (s0 : Int32) (s1 : Int32) : Option zM :=
    ck (ixb s1 463) <|
    if v2 = (1 : Int32) then
      b1 (gX12_slash (pI S 4 (ix s1) s0)) fun S14 =>
      if v2 = (1 : Int32) then
        gX12_stepOf_J226 S14 v1 (3 : Int32) (1 : Int32) ((54 : Int32) + v3)
      else
        gX12_stepOf_J226 S14 v1 (99 : Int32) (1 : Int32) ((54 : Int32) + v3)
    else
      if v2 = (2 : Int32) then
        b1 (gX12_slash (pI S 4 (ix s1) s0)) fun S24 =>
        if v2 = (1 : Int32) then
          gX12_stepOf_J226 S24 v1 (3 : Int32) (1 : Int32) ((54 : Int32) + v3)
        else
          gX12_stepOf_J226 S24 v1 (99 : Int32) (1 : Int32) ((54 : Int32) + v3)
      else
        ck (ixb ((0 : Int32) + v1) 463) <|
        ck (ixb ((0 : Int32) + v1) 463) <|
        lt (pI (pI S 4 (ix s1) s0) 4 (ix ((0 : Int32) + v1)) ((gI (pI S 4 (ix s1) s0) 4 (ix ((0 : Int32) + v1))) + (1 : Int32))) fun S22 =>
        some S22
def gX12_stepOf_J96 (S : zM) (v1 : Int32) (v2 : Int32) : Option zM :=
    if (gI S 0 13) = 0 then
      b1 (gX12_next S) fun S48 =>
      ck (ixb ((0 : Int32) + v1) 463) <|
      lt (((4 : Int32) * v1) + (gI S48 4 (ix ((0 : Int32) + v1)))) fun x50 =>
      ck (ixb ((6 : Int32) + x50) 463) <|
      if v2 = 0 then
        b2 (gX12_number (pI S48 4 (ix ((6 : Int32) + x50)) v2) (2 : Int32) (99 : Int32)) fun r58 S59 =>
        gX12_stepOf_J190 S59 v1 v2 x50 r58 ((30 : Int32) + x50)
      else
        if v2 = (1 : Int32) then
          b2 (gX12_number (pI S48 4 (ix ((6 : Int32) + x50)) v2) (1 : Int32) (3 : Int32)) fun r56 S57 =>
          gX12_stepOf_J190 S57 v1 v2 x50 r56 ((30 : Int32) + x50)
        else
          if v2 = (2 : Int32) then
            b2 (gX12_number (pI S48 4 (ix ((6 : Int32) + x50)) v2) (1 : Int32) (99 : Int32)) fun r54 S55 =>
            gX12_stepOf_J190 S55 v1 v2 x50 r54 ((30 : Int32) + x50)
          else
            b2 (gX12_number (pI S48 4 (ix ((6 : Int32) + x50)) v2) (0 : Int32) (399 : Int32)) fun r52 S53 =>
            gX12_stepOf_J190 S53 v1 v2 x50 r52 ((30 : Int32) + x50)
    else
      some S
def gX12_stepOf_J68 (S : zM) (v1 : Int32) (v2 : Int32) : Option zM :=
    if (gI S 0 13) = 0 then
      ck (ixb ((0 : Int32) + v1) 463) <|
      if (gI S 4 (ix ((0 : Int32) + v1))) = (4 : Int32) then
        b1 (gX12_wrong S (5 : Int32) (gI S 0 4)) fun S90 =>
        gX12_stepOf_J96 S90 v1 v2
      else
        if (gI S 0 13) = 0 then
          b1 (gX12_next S) fun S77 =>
          ck (ixb ((0 : Int32) + v1) 463) <|
          lt (((4 : Int32) * v1) + (gI S77 4 (ix ((0 : Int32) + v1)))) fun x79 =>
          ck (ixb ((6 : Int32) + x79) 463) <|
          if v2 = 0 then
            b2 (gX12_number (pI S77 4 (ix ((6 : Int32) + x79)) v2) (2 : Int32) (99 : Int32)) fun r87 S88 =>
            gX12_stepOf_J190 S88 v1 v2 x79 r87 ((30 : Int32) + x79)
          else
            if v2 = (1 : Int32) then
              b2 (gX12_number (pI S77 4 (ix ((6 : Int32) + x79)) v2) (1 : Int32) (3 : Int32)) fun r85 S86 =>
              gX12_stepOf_J190 S86 v1 v2 x79 r85 ((30 : Int32) + x79)
            else
              if v2 = (2 : Int32) then
                b2 (gX12_number (pI S77 4 (ix ((6 : Int32) + x79)) v2) (1 : Int32) (99 : Int32)) fun r83 S84 =>
                gX12_stepOf_J190 S84 v1 v2 x79 r83 ((30 : Int32) + x79)
              else
                b2 (gX12_number (pI S77 4 (ix ((6 : Int32) + x79)) v2) (0 : Int32) (399 : Int32)) fun r81 S82 =>
                gX12_stepOf_J190 S82 v1 v2 x79 r81 ((30 : Int32) + x79)
        else
          some S
    else
      if (gI S 0 13) = 0 then
        b1 (gX12_next S) fun S63 =>
        ck (ixb ((0 : Int32) + v1) 463) <|
        lt (((4 : Int32) * v1) + (gI S63 4 (ix ((0 : Int32) + v1)))) fun x65 =>
        ck (ixb ((6 : Int32) + x65) 463) <|
        if v2 = 0 then
          b2 (gX12_number (pI S63 4 (ix ((6 : Int32) + x65)) v2) (2 : Int32) (99 : Int32)) fun r73 S74 =>
          gX12_stepOf_J190 S74 v1 v2 x65 r73 ((30 : Int32) + x65)
        else
          if v2 = (1 : Int32) then
            b2 (gX12_number (pI S63 4 (ix ((6 : Int32) + x65)) v2) (1 : Int32) (3 : Int32)) fun r71 S72 =>
            gX12_stepOf_J190 S72 v1 v2 x65 r71 ((30 : Int32) + x65)
          else
            if v2 = (2 : Int32) then
              b2 (gX12_number (pI S63 4 (ix ((6 : Int32) + x65)) v2) (1 : Int32) (99 : Int32)) fun r69 S70 =>
              gX12_stepOf_J190 S70 v1 v2 x65 r69 ((30 : Int32) + x65)
            else
              b2 (gX12_number (pI S63 4 (ix ((6 : Int32) + x65)) v2) (0 : Int32) (399 : Int32)) fun r67 S68 =>
              gX12_stepOf_J190 S68 v1 v2 x65 r67 ((30 : Int32) + x65)
      else
        some S
def gX12_stepOf_J53 (S : zM) (v1 : Int32) (s0 : Int32) : Option zM :=
    if s0 = (-1 : Int32) then
      b1 (gX12_wrong S (1 : Int32) (gI S 0 4)) fun S61 =>
      gX12_stepOf_J68 S61 v1 s0
    else
      if (gI S 0 13) = 0 then
        ck (ixb ((0 : Int32) + v1) 463) <|
        if (gI S 4 (ix ((0 : Int32) + v1))) = (4 : Int32) then
          b1 (gX12_wrong S (5 : Int32) (gI S 0 4)) fun S46 =>
          gX12_stepOf_J96 S46 v1 s0
        else
          if (gI S 0 13) = 0 then
            b1 (gX12_next S) fun S33 =>
            ck (ixb ((0 : Int32) + v1) 463) <|
            lt (((4 : Int32) * v1) + (gI S33 4 (ix ((0 : Int32) + v1)))) fun x35 =>
            ck (ixb ((6 : Int32) + x35) 463) <|
            if s0 = 0 then
              b2 (gX12_number (pI S33 4 (ix ((6 : Int32) + x35)) s0) (2 : Int32) (99 : Int32)) fun r43 S44 =>
              gX12_stepOf_J190 S44 v1 s0 x35 r43 ((30 : Int32) + x35)
            else
              if s0 = (1 : Int32) then
                b2 (gX12_number (pI S33 4 (ix ((6 : Int32) + x35)) s0) (1 : Int32) (3 : Int32)) fun r41 S42 =>
                gX12_stepOf_J190 S42 v1 s0 x35 r41 ((30 : Int32) + x35)
              else
                if s0 = (2 : Int32) then
                  b2 (gX12_number (pI S33 4 (ix ((6 : Int32) + x35)) s0) (1 : Int32) (99 : Int32)) fun r39 S40 =>
                  gX12_stepOf_J190 S40 v1 s0 x35 r39 ((30 : Int32) + x35)
                else
                  b2 (gX12_number (pI S33 4 (ix ((6 : Int32) + x35)) s0) (0 : Int32) (399 : Int32)) fun r37 S38 =>
                  gX12_stepOf_J190 S38 v1 s0 x35 r37 ((30 : Int32) + x35)
          else
            some S
      else
        if (gI S 0 13) = 0 then
          b1 (gX12_next S) fun S6 =>
          ck (ixb ((0 : Int32) + v1) 463) <|
          lt (((4 : Int32) * v1) + (gI S6 4 (ix ((0 : Int32) + v1)))) fun x8 =>
          ck (ixb ((6 : Int32) + x8) 463) <|
          if s0 = 0 then
            b2 (gX12_number (pI S6 4 (ix ((6 : Int32) + x8)) s0) (2 : Int32) (99 : Int32)) fun r29 S30 =>
            gX12_stepOf_J190 S30 v1 s0 x8 r29 ((30 : Int32) + x8)
          else
            if s0 = (1 : Int32) then
              b2 (gX12_number (pI S6 4 (ix ((6 : Int32) + x8)) s0) (1 : Int32) (3 : Int32)) fun r27 S28 =>
              gX12_stepOf_J190 S28 v1 s0 x8 r27 ((30 : Int32) + x8)
            else
              if s0 = (2 : Int32) then
                b2 (gX12_number (pI S6 4 (ix ((6 : Int32) + x8)) s0) (1 : Int32) (99 : Int32)) fun r25 S26 =>
                gX12_stepOf_J190 S26 v1 s0 x8 r25 ((30 : Int32) + x8)
              else
                b2 (gX12_number (pI S6 4 (ix ((6 : Int32) + x8)) s0) (0 : Int32) (399 : Int32)) fun r10 S11 =>
                gX12_stepOf_J190 S11 v1 s0 x8 r10 ((30 : Int32) + x8)
        else
          some S
def gX12_stepOf (S : zM) (a1 : Int32) : Option zM :=
    b1 (gX12_isWord S 10012) fun r1 =>
    if r1 = 0 then
      b1 (gX12_isWord S 10013) fun r2 =>
      if r2 = 0 then
        b1 (gX12_isWord S 10006) fun r3 =>
        if r3 = 0 then
          b1 (gX12_isWord S 10014) fun r4 =>
          if r4 = 0 then
            gX12_stepOf_J53 S a1 (-1 : Int32)
          else
            gX12_stepOf_J53 S a1 (3 : Int32)
        else
          gX12_stepOf_J53 S a1 (2 : Int32)
      else
        gX12_stepOf_J53 S a1 (1 : Int32)
    else
      gX12_stepOf_J53 S a1 (0 : Int32)
def gX12_senseLine_L28 (v1 : Int32) : Nat → zM → Option zM
  | 0, _ => none
  | n + 1, S =>
    if (gI S 0 13) = 0 then
      b2 (gX12_takes S 10004) fun r6 S7 =>
      if r6 = 0 then
        some S7
      else
        b1 (gX12_stepOf S7 v1) fun S9 =>
        gX12_senseLine_L28 v1 n S9
    else
      some S
def gX12_senseLine_J158 (S : zM) (v1 : Int32) : Option ((zM ⊕ zM) ⊕ zM) :=
    if (gI S 0 13) = 0 then
      ck (ixb ((78 : Int32) + v1) 463) <|
      b2 (gX12_number S (0 : Int32) (9 : Int32)) fun r30 S31 =>
      ck (ixb (((84 : Int32) + ((6 : Int32) * v1)) + (gI S 4 (ix ((78 : Int32) + v1)))) 463) <|
      lt (pI S31 4 (ix (((84 : Int32) + ((6 : Int32) * v1)) + (gI S 4 (ix ((78 : Int32) + v1))))) r30) fun S33 =>
      ck (ixb ((78 : Int32) + v1) 463) <|
      ck (ixb ((78 : Int32) + v1) 463) <|
      some (.inr (pI S33 4 (ix ((78 : Int32) + v1)) ((gI S33 4 (ix ((78 : Int32) + v1))) + (1 : Int32))))
    else
      some (.inl (.inl S))
def gX12_senseLine_L95 (v1 : Int32) : Nat → zM → Option (zM ⊕ zM)
  | 0, _ => none
  | n + 1, S =>
    if (gI S 0 13) = 0 then
      if (gI S 0 6) = (3 : Int32) then
        b1 (gX12_within (gI S 0 7) (0 : Int32) (9 : Int32)) fun r18 =>
        if r18 = 0 then
          b1 (gX12_wrong S (4 : Int32) (gI S 0 4)) fun S37 =>
          lm (gX12_senseLine_J158 S37 v1) fun S => gX12_senseLine_L95 v1 n S
        else
          ck (ixb ((78 : Int32) + v1) 463) <|
          if (gI S 4 (ix ((78 : Int32) + v1))) = (6 : Int32) then
            b1 (gX12_wrong S (5 : Int32) (gI S 0 4)) fun S28 =>
            lm (gX12_senseLine_J158 S28 v1) fun S => gX12_senseLine_L95 v1 n S
          else
            if (gI S 0 13) = 0 then
              ck (ixb ((78 : Int32) + v1) 463) <|
              b2 (gX12_number S (0 : Int32) (9 : Int32)) fun r21 S22 =>
              ck (ixb (((84 : Int32) + ((6 : Int32) * v1)) + (gI S 4 (ix ((78 : Int32) + v1)))) 463) <|
              lt (pI S22 4 (ix (((84 : Int32) + ((6 : Int32) * v1)) + (gI S 4 (ix ((78 : Int32) + v1))))) r21) fun S24 =>
              ck (ixb ((78 : Int32) + v1) 463) <|
              ck (ixb ((78 : Int32) + v1) 463) <|
              gX12_senseLine_L95 v1 n (pI S24 4 (ix ((78 : Int32) + v1)) ((gI S24 4 (ix ((78 : Int32) + v1))) + (1 : Int32)))
            else
              some (.inl S)
      else
        some (.inr S)
    else
      some (.inr S)
def gX12_senseLine (S : zM) : Option zM :=
    if (gI S 0 13) = 0 then
      ck (ixb (238 : Int32) 463) <|
      b1 (gX12_newName S (0 : Int32) (gI S 4 (ix (238 : Int32)))) fun S3 =>
      b1 (gX12_stepOf S3 (gI S 4 (ix (238 : Int32)))) fun S5 =>
      b1 (gX12_senseLine_L28 (gI S 4 (ix (238 : Int32))) FU S5) fun S10 =>
      b1 (gX12_must S10 10005) fun S12 =>
      if (gI S12 0 13) = 0 then
        b2 (gX12_number S12 (1 : Int32) (9 : Int32)) fun r13 S14 =>
        ck (ixb ((84 : Int32) + ((6 : Int32) * (gI S 4 (ix (238 : Int32))))) 463) <|
        ck (ixb ((78 : Int32) + (gI S 4 (ix (238 : Int32)))) 463) <|
        lt (pI (pI S14 4 (ix ((84 : Int32) + ((6 : Int32) * (gI S 4 (ix (238 : Int32)))))) r13) 4 (ix ((78 : Int32) + (gI S 4 (ix (238 : Int32))))) (1 : Int32)) fun S17 =>
        lm (gX12_senseLine_L95 (gI S 4 (ix (238 : Int32))) FU S17) fun S38 =>
        ck (ixb (238 : Int32) 463) <|
        ck (ixb (238 : Int32) 463) <|
        some (pI S38 4 (ix (238 : Int32)) ((gI S38 4 (ix (238 : Int32))) + (1 : Int32)))
      else
        some S12
    else
      some S
def gX12_liked_L42 (S : zM) (v1 : Int32) (v2 : Int32) : Nat → Int32 → Int32 → Option Int32
  | 0, _, _ => none
  | n + 1, v3, v4 =>
    if v2 ≤ v4 then
      some v3
    else
      if v3 = 0 then
        ck (ixb (((162 : Int32) + ((6 : Int32) * v1)) + v4) 463) <|
        if (gI S 4 (ix (((162 : Int32) + ((6 : Int32) * v1)) + v4))) = (gI S 0 7) then
          gX12_liked_L42 S v1 v2 n (1 : Int32) (v4 + (1 : Int32))
        else
          gX12_liked_L42 S v1 v2 n (0 : Int32) (v4 + (1 : Int32))
      else
        gX12_liked_L42 S v1 v2 n (1 : Int32) (v4 + (1 : Int32))
def gX12_liked_J118 (S : zM) (v1 : Int32) (v2 : Int32) : Option zM :=
    if (gI S 0 13) = 0 then
      ck (ixb (((162 : Int32) + ((6 : Int32) * v1)) + v2) 463) <|
      ck (ixb ((156 : Int32) + v1) 463) <|
      ck (ixb ((156 : Int32) + v1) 463) <|
      lt (pI (pI S 4 (ix (((162 : Int32) + ((6 : Int32) * v1)) + v2)) (gI S 0 7)) 4 (ix ((156 : Int32) + v1)) ((gI (pI S 4 (ix (((162 : Int32) + ((6 : Int32) * v1)) + v2)) (gI S 0 7)) 4 (ix ((156 : Int32) + v1))) + (1 : Int32))) fun S16 =>
      b1 (gX12_next S16) fun S18 =>
      some S18
    else
      some S
def gX12_liked (S : zM) (a1 : Int32) : Option zM :=
    if (gI S 0 13) = 0 then
      if (gI S 0 6) = (3 : Int32) then
        ck (ixb ((156 : Int32) + a1) 463) <|
        lt (gI S 4 (ix ((156 : Int32) + a1))) fun x2 =>
        b1 (gX12_liked_L42 S a1 x2 FU (0 : Int32) (0 : Int32)) fun w4 =>
        if w4 = 0 then
          if x2 = (6 : Int32) then
            b1 (gX12_wrong S (5 : Int32) (gI S 0 4)) fun S12 =>
            gX12_liked_J118 S12 a1 x2
          else
            if (gI S 0 13) = 0 then
              ck (ixb (((162 : Int32) + ((6 : Int32) * a1)) + x2) 463) <|
              ck (ixb ((156 : Int32) + a1) 463) <|
              ck (ixb ((156 : Int32) + a1) 463) <|
              lt (pI (pI S 4 (ix (((162 : Int32) + ((6 : Int32) * a1)) + x2)) (gI S 0 7)) 4 (ix ((156 : Int32) + a1)) ((gI (pI S 4 (ix (((162 : Int32) + ((6 : Int32) * a1)) + x2)) (gI S 0 7)) 4 (ix ((156 : Int32) + a1))) + (1 : Int32))) fun S8 =>
              b1 (gX12_next S8) fun S10 =>
              some S10
            else
              some S
        else
          b1 (gX12_wrong S (3 : Int32) (gI S 0 4)) fun S20 =>
          gX12_liked_J118 S20 a1 x2
      else
        b1 (gX12_wrong S (1 : Int32) (gI S 0 4)) fun S22 =>
        some S22
    else
      some S
def gX12_sayerLine_L260 (v1 : Int32) : Nat → zM → Option zM
  | 0, _ => none
  | n + 1, S =>
    if (gI S 0 13) = 0 then
      if (gI S 0 6) = (44 : Int32) then
        b1 (gX12_next S) fun S34 =>
        b1 (gX12_liked S34 v1) fun S36 =>
        gX12_sayerLine_L260 v1 n S36
      else
        ck (ixb (239 : Int32) 463) <|
        ck (ixb (239 : Int32) 463) <|
        some (pI S 4 (ix (239 : Int32)) ((gI S 4 (ix (239 : Int32))) + (1 : Int32)))
    else
      ck (ixb (239 : Int32) 463) <|
      ck (ixb (239 : Int32) 463) <|
      some (pI S 4 (ix (239 : Int32)) ((gI S 4 (ix (239 : Int32))) + (1 : Int32)))
def gX12_sayerLine_J246 (S : zM) (v1 : Int32) : Option zM :=
    b2 (gX12_takes S 10010) fun r38 S39 =>
    if r38 = 0 then
      ck (ixb (239 : Int32) 463) <|
      ck (ixb (239 : Int32) 463) <|
      some (pI S39 4 (ix (239 : Int32)) ((gI S39 4 (ix (239 : Int32))) + (1 : Int32)))
    else
      b1 (gX12_liked S39 v1) fun S43 =>
      gX12_sayerLine_L260 v1 FU S43
def gX12_sayerLine_J226 (S : zM) (v1 : Int32) : Option zM :=
    b2 (gX12_takes S 10011) fun r55 S56 =>
    if r55 = 0 then
      b2 (gX12_takes S56 10010) fun r57 S58 =>
      if r57 = 0 then
        ck (ixb (239 : Int32) 463) <|
        ck (ixb (239 : Int32) 463) <|
        some (pI S58 4 (ix (239 : Int32)) ((gI S58 4 (ix (239 : Int32))) + (1 : Int32)))
      else
        b1 (gX12_liked S58 v1) fun S62 =>
        gX12_sayerLine_L260 v1 FU S62
    else
      ck (ixb ((150 : Int32) + v1) 463) <|
      gX12_sayerLine_J246 (pI S56 4 (ix ((150 : Int32) + v1)) (1 : Int32)) v1
def gX12_sayerLine_J199 (S : zM) (v1 : Int32) : Option zM :=
    b2 (gX12_takes S 10018) fun r75 S76 =>
    if r75 = 0 then
      b2 (gX12_takes S76 10011) fun r77 S78 =>
      if r77 = 0 then
        b2 (gX12_takes S78 10010) fun r79 S80 =>
        if r79 = 0 then
          ck (ixb (239 : Int32) 463) <|
          ck (ixb (239 : Int32) 463) <|
          some (pI S80 4 (ix (239 : Int32)) ((gI S80 4 (ix (239 : Int32))) + (1 : Int32)))
        else
          b1 (gX12_liked S80 v1) fun S84 =>
          gX12_sayerLine_L260 v1 FU S84
      else
        ck (ixb ((150 : Int32) + v1) 463) <|
        gX12_sayerLine_J246 (pI S78 4 (ix ((150 : Int32) + v1)) (1 : Int32)) v1
    else
      b2 (gX12_number S76 (1 : Int32) (99 : Int32)) fun r94 S95 =>
      ck (ixb ((144 : Int32) + v1) 463) <|
      gX12_sayerLine_J226 (pI S95 4 (ix ((144 : Int32) + v1)) r94) v1
def gX12_sayerLine_J172 (S : zM) (v1 : Int32) : Option zM :=
    b2 (gX12_takes S 10017) fun r100 S101 =>
    if r100 = 0 then
      b2 (gX12_takes S101 10018) fun r102 S103 =>
      if r102 = 0 then
        b2 (gX12_takes S103 10011) fun r104 S105 =>
        if r104 = 0 then
          b2 (gX12_takes S105 10010) fun r106 S107 =>
          if r106 = 0 then
            ck (ixb (239 : Int32) 463) <|
            ck (ixb (239 : Int32) 463) <|
            some (pI S107 4 (ix (239 : Int32)) ((gI S107 4 (ix (239 : Int32))) + (1 : Int32)))
          else
            b1 (gX12_liked S107 v1) fun S111 =>
            gX12_sayerLine_L260 v1 FU S111
        else
          ck (ixb ((150 : Int32) + v1) 463) <|
          gX12_sayerLine_J246 (pI S105 4 (ix ((150 : Int32) + v1)) (1 : Int32)) v1
      else
        b2 (gX12_number S103 (1 : Int32) (99 : Int32)) fun r121 S122 =>
        ck (ixb ((144 : Int32) + v1) 463) <|
        gX12_sayerLine_J226 (pI S122 4 (ix ((144 : Int32) + v1)) r121) v1
    else
      b2 (gX12_number S101 (1 : Int32) (99 : Int32)) fun r124 S125 =>
      ck (ixb ((138 : Int32) + v1) 463) <|
      gX12_sayerLine_J199 (pI S125 4 (ix ((138 : Int32) + v1)) r124) v1
def gX12_sayerLine_J146 (S : zM) (v1 : Int32) : Option zM :=
    b2 (gX12_takes S 10016) fun r130 S131 =>
    if r130 = 0 then
      b2 (gX12_takes S131 10017) fun r132 S133 =>
      if r132 = 0 then
        b2 (gX12_takes S133 10018) fun r134 S135 =>
        if r134 = 0 then
          b2 (gX12_takes S135 10011) fun r136 S137 =>
          if r136 = 0 then
            b2 (gX12_takes S137 10010) fun r138 S139 =>
            if r138 = 0 then
              ck (ixb (239 : Int32) 463) <|
              ck (ixb (239 : Int32) 463) <|
              some (pI S139 4 (ix (239 : Int32)) ((gI S139 4 (ix (239 : Int32))) + (1 : Int32)))
            else
              b1 (gX12_liked S139 v1) fun S143 =>
              gX12_sayerLine_L260 v1 FU S143
          else
            ck (ixb ((150 : Int32) + v1) 463) <|
            gX12_sayerLine_J246 (pI S137 4 (ix ((150 : Int32) + v1)) (1 : Int32)) v1
        else
          b2 (gX12_number S135 (1 : Int32) (99 : Int32)) fun r153 S154 =>
          ck (ixb ((144 : Int32) + v1) 463) <|
          gX12_sayerLine_J226 (pI S154 4 (ix ((144 : Int32) + v1)) r153) v1
      else
        b2 (gX12_number S133 (1 : Int32) (99 : Int32)) fun r156 S157 =>
        ck (ixb ((138 : Int32) + v1) 463) <|
        gX12_sayerLine_J199 (pI S157 4 (ix ((138 : Int32) + v1)) r156) v1
    else
      b2 (gX12_signed S131 (50 : Int32)) fun r159 S160 =>
      ck (ixb ((132 : Int32) + v1) 463) <|
      gX12_sayerLine_J172 (pI S160 4 (ix ((132 : Int32) + v1)) r159) v1
def gX12_sayerLine_J91 (S : zM) (v1 : Int32) (v2 : Int32) : Option zM :=
    if (gI S 0 13) = 0 then
      ck (ixb ((263 : Int32) + v2) 463) <|
      ck (ixb ((120 : Int32) + v1) 463) <|
      b1 (gX12_next (pI S 4 (ix ((120 : Int32) + v1)) (gI S 4 (ix ((263 : Int32) + v2))))) fun S167 =>
      b2 (gX12_takes S167 10006) fun r168 S169 =>
      if r168 = 0 then
        b2 (gX12_takes S169 10016) fun r170 S171 =>
        if r170 = 0 then
          b2 (gX12_takes S171 10017) fun r172 S173 =>
          if r172 = 0 then
            b2 (gX12_takes S173 10018) fun r174 S175 =>
            if r174 = 0 then
              b2 (gX12_takes S175 10011) fun r176 S177 =>
              if r176 = 0 then
                b2 (gX12_takes S177 10010) fun r178 S179 =>
                if r178 = 0 then
                  ck (ixb (239 : Int32) 463) <|
                  ck (ixb (239 : Int32) 463) <|
                  some (pI S179 4 (ix (239 : Int32)) ((gI S179 4 (ix (239 : Int32))) + (1 : Int32)))
                else
                  b1 (gX12_liked S179 v1) fun S183 =>
                  gX12_sayerLine_L260 v1 FU S183
              else
                ck (ixb ((150 : Int32) + v1) 463) <|
                gX12_sayerLine_J246 (pI S177 4 (ix ((150 : Int32) + v1)) (1 : Int32)) v1
            else
              b2 (gX12_number S175 (1 : Int32) (99 : Int32)) fun r193 S194 =>
              ck (ixb ((144 : Int32) + v1) 463) <|
              gX12_sayerLine_J226 (pI S194 4 (ix ((144 : Int32) + v1)) r193) v1
          else
            b2 (gX12_number S173 (1 : Int32) (99 : Int32)) fun r196 S197 =>
            ck (ixb ((138 : Int32) + v1) 463) <|
            gX12_sayerLine_J199 (pI S197 4 (ix ((138 : Int32) + v1)) r196) v1
        else
          b2 (gX12_signed S171 (50 : Int32)) fun r199 S200 =>
          ck (ixb ((132 : Int32) + v1) 463) <|
          gX12_sayerLine_J172 (pI S200 4 (ix ((132 : Int32) + v1)) r199) v1
      else
        b2 (gX12_signed S169 (50 : Int32)) fun r202 S203 =>
        ck (ixb ((126 : Int32) + v1) 463) <|
        gX12_sayerLine_J146 (pI S203 4 (ix ((126 : Int32) + v1)) r202) v1
    else
      some S
def gX12_sayerLine_J57 (S : zM) (v1 : Int32) (s0 : Int32) : Option zM :=
    if (gI S 0 13) = 0 then
      if s0 < 0 then
        b1 (gX12_wrong S (2 : Int32) (gI S 0 4)) fun S163 =>
        gX12_sayerLine_J91 S163 v1 s0
      else
        ck (ixb ((243 : Int32) + s0) 463) <|
        if (gI S 4 (ix ((243 : Int32) + s0))) = 0 then
          if (gI S 0 13) = 0 then
            ck (ixb ((263 : Int32) + s0) 463) <|
            ck (ixb ((120 : Int32) + v1) 463) <|
            b1 (gX12_next (pI S 4 (ix ((120 : Int32) + v1)) (gI S 4 (ix ((263 : Int32) + s0))))) fun S209 =>
            b2 (gX12_takes S209 10006) fun r210 S211 =>
            if r210 = 0 then
              b2 (gX12_takes S211 10016) fun r212 S213 =>
              if r212 = 0 then
                b2 (gX12_takes S213 10017) fun r214 S215 =>
                if r214 = 0 then
                  b2 (gX12_takes S215 10018) fun r216 S217 =>
                  if r216 = 0 then
                    b2 (gX12_takes S217 10011) fun r218 S219 =>
                    if r218 = 0 then
                      b2 (gX12_takes S219 10010) fun r220 S221 =>
                      if r220 = 0 then
                        ck (ixb (239 : Int32) 463) <|
                        ck (ixb (239 : Int32) 463) <|
                        some (pI S221 4 (ix (239 : Int32)) ((gI S221 4 (ix (239 : Int32))) + (1 : Int32)))
                      else
                        b1 (gX12_liked S221 v1) fun S225 =>
                        gX12_sayerLine_L260 v1 FU S225
                    else
                      ck (ixb ((150 : Int32) + v1) 463) <|
                      gX12_sayerLine_J246 (pI S219 4 (ix ((150 : Int32) + v1)) (1 : Int32)) v1
                  else
                    b2 (gX12_number S217 (1 : Int32) (99 : Int32)) fun r235 S236 =>
                    ck (ixb ((144 : Int32) + v1) 463) <|
                    gX12_sayerLine_J226 (pI S236 4 (ix ((144 : Int32) + v1)) r235) v1
                else
                  b2 (gX12_number S215 (1 : Int32) (99 : Int32)) fun r238 S239 =>
                  ck (ixb ((138 : Int32) + v1) 463) <|
                  gX12_sayerLine_J199 (pI S239 4 (ix ((138 : Int32) + v1)) r238) v1
              else
                b2 (gX12_signed S213 (50 : Int32)) fun r241 S242 =>
                ck (ixb ((132 : Int32) + v1) 463) <|
                gX12_sayerLine_J172 (pI S242 4 (ix ((132 : Int32) + v1)) r241) v1
            else
              b2 (gX12_signed S211 (50 : Int32)) fun r244 S245 =>
              ck (ixb ((126 : Int32) + v1) 463) <|
              gX12_sayerLine_J146 (pI S245 4 (ix ((126 : Int32) + v1)) r244) v1
          else
            some S
        else
          b1 (gX12_wrong S (2 : Int32) (gI S 0 4)) fun S248 =>
          gX12_sayerLine_J91 S248 v1 s0
    else
      if (gI S 0 13) = 0 then
        ck (ixb ((263 : Int32) + s0) 463) <|
        ck (ixb ((120 : Int32) + v1) 463) <|
        b1 (gX12_next (pI S 4 (ix ((120 : Int32) + v1)) (gI S 4 (ix ((263 : Int32) + s0))))) fun S12 =>
        b2 (gX12_takes S12 10006) fun r13 S14 =>
        if r13 = 0 then
          b2 (gX12_takes S14 10016) fun r15 S16 =>
          if r15 = 0 then
            b2 (gX12_takes S16 10017) fun r17 S18 =>
            if r17 = 0 then
              b2 (gX12_takes S18 10018) fun r19 S20 =>
              if r19 = 0 then
                b2 (gX12_takes S20 10011) fun r21 S22 =>
                if r21 = 0 then
                  b2 (gX12_takes S22 10010) fun r23 S24 =>
                  if r23 = 0 then
                    ck (ixb (239 : Int32) 463) <|
                    ck (ixb (239 : Int32) 463) <|
                    some (pI S24 4 (ix (239 : Int32)) ((gI S24 4 (ix (239 : Int32))) + (1 : Int32)))
                  else
                    b1 (gX12_liked S24 v1) fun S28 =>
                    gX12_sayerLine_L260 v1 FU S28
                else
                  ck (ixb ((150 : Int32) + v1) 463) <|
                  gX12_sayerLine_J246 (pI S22 4 (ix ((150 : Int32) + v1)) (1 : Int32)) v1
              else
                b2 (gX12_number S20 (1 : Int32) (99 : Int32)) fun r52 S53 =>
                ck (ixb ((144 : Int32) + v1) 463) <|
                gX12_sayerLine_J226 (pI S53 4 (ix ((144 : Int32) + v1)) r52) v1
            else
              b2 (gX12_number S18 (1 : Int32) (99 : Int32)) fun r72 S73 =>
              ck (ixb ((138 : Int32) + v1) 463) <|
              gX12_sayerLine_J199 (pI S73 4 (ix ((138 : Int32) + v1)) r72) v1
          else
            b2 (gX12_signed S16 (50 : Int32)) fun r97 S98 =>
            ck (ixb ((132 : Int32) + v1) 463) <|
            gX12_sayerLine_J172 (pI S98 4 (ix ((132 : Int32) + v1)) r97) v1
        else
          b2 (gX12_signed S14 (50 : Int32)) fun r127 S128 =>
          ck (ixb ((126 : Int32) + v1) 463) <|
          gX12_sayerLine_J146 (pI S128 4 (ix ((126 : Int32) + v1)) r127) v1
      else
        some S
def gX12_sayerLine (S : zM) : Option zM :=
    if (gI S 0 13) = 0 then
      ck (ixb (239 : Int32) 463) <|
      b1 (gX12_newName S (1 : Int32) (gI S 4 (ix (239 : Int32)))) fun S3 =>
      b1 (gX12_must S3 10015) fun S5 =>
      if (gI S5 0 13) = 0 then
        b1 (gX12_mustName S5) fun S7 =>
        if (gI S7 0 13) = 0 then
          b1 (gX12_find S7) fun r8 =>
          gX12_sayerLine_J57 S7 (gI S 4 (ix (239 : Int32))) r8
        else
          gX12_sayerLine_J57 S7 (gI S 4 (ix (239 : Int32))) (-1 : Int32)
      else
        some S5
    else
      some S
def gX12_planLine_J280 (S : zM) : Option zM :=
    ck (ixb (240 : Int32) 463) <|
    ck (ixb (240 : Int32) 463) <|
    some (pI S 4 (ix (240 : Int32)) ((gI S 4 (ix (240 : Int32))) + (1 : Int32)))
def gX12_planLine_J89 (S : zM) (v1 : Int32) (v2 : Int32) : Option zM :=
    if (gI S 0 13) = 0 then
      b1 (gX12_next S) fun S47 =>
      ck (ixb ((198 : Int32) + v1) 463) <|
      b2 (gX12_number (pI S47 4 (ix ((198 : Int32) + v1)) v2) (1 : Int32) (400 : Int32)) fun r49 S50 =>
      ck (ixb ((202 : Int32) + v1) 463) <|
      b1 (gX12_must (pI S50 4 (ix ((202 : Int32) + v1)) r49) 10008) fun S53 =>
      ck (ixb ((202 : Int32) + v1) 463) <|
      b2 (gX12_number S53 (gI S53 4 (ix ((202 : Int32) + v1))) (400 : Int32)) fun r55 S56 =>
      ck (ixb ((206 : Int32) + v1) 463) <|
      b1 (gX12_must (pI S56 4 (ix ((206 : Int32) + v1)) r55) 10009) fun S59 =>
      b2 (gX12_number S59 (1 : Int32) (400 : Int32)) fun r60 S61 =>
      ck (ixb ((210 : Int32) + v1) 463) <|
      b1 (gX12_must (pI S61 4 (ix ((210 : Int32) + v1)) r60) 10022) fun S64 =>
      b2 (gX12_number S64 (1 : Int32) (20 : Int32)) fun r65 S66 =>
      ck (ixb ((214 : Int32) + v1) 463) <|
      if (gI (pI S66 4 (ix ((214 : Int32) + v1)) r65) 0 13) = 0 then
        ck (ixb ((206 : Int32) + v1) 463) <|
        ck (ixb ((202 : Int32) + v1) 463) <|
        ck (ixb ((210 : Int32) + v1) 463) <|
        ck (decide (¬ (gI (pI S66 4 (ix ((214 : Int32) + v1)) r65) 4 (ix ((210 : Int32) + v1))) = 0)) <|
        ck (ixb ((214 : Int32) + v1) 463) <|
        if (((((gI (pI S66 4 (ix ((214 : Int32) + v1)) r65) 4 (ix ((206 : Int32) + v1))) - (gI (pI S66 4 (ix ((214 : Int32) + v1)) r65) 4 (ix ((202 : Int32) + v1)))) / (gI (pI S66 4 (ix ((214 : Int32) + v1)) r65) 4 (ix ((210 : Int32) + v1)))) + (1 : Int32)) * (gI (pI S66 4 (ix ((214 : Int32) + v1)) r65) 4 (ix ((214 : Int32) + v1)))) ≤ (200 : Int32) then
          ck (ixb (240 : Int32) 463) <|
          ck (ixb (240 : Int32) 463) <|
          lt (pI (pI S66 4 (ix ((214 : Int32) + v1)) r65) 4 (ix (240 : Int32)) ((gI (pI S66 4 (ix ((214 : Int32) + v1)) r65) 4 (ix (240 : Int32))) + (1 : Int32))) fun S78 =>
          some S78
        else
          b1 (gX12_wrong (pI S66 4 (ix ((214 : Int32) + v1)) r65) (4 : Int32) (gI S64 0 4)) fun S80 =>
          gX12_planLine_J280 S80
      else
        ck (ixb (240 : Int32) 463) <|
        ck (ixb (240 : Int32) 463) <|
        lt (pI (pI S66 4 (ix ((214 : Int32) + v1)) r65) 4 (ix (240 : Int32)) ((gI (pI S66 4 (ix ((214 : Int32) + v1)) r65) 4 (ix (240 : Int32))) + (1 : Int32))) fun S70 =>
        some S70
    else
      some S
def gX12_planLine_J74 (S : zM) (v1 : Int32) (s0 : Int32) : Option zM :=
    if s0 = (-1 : Int32) then
      b1 (gX12_wrong S (1 : Int32) (gI S 0 4)) fun S45 =>
      gX12_planLine_J89 S45 v1 s0
    else
      if (gI S 0 13) = 0 then
        b1 (gX12_next S) fun S8 =>
        ck (ixb ((198 : Int32) + v1) 463) <|
        b2 (gX12_number (pI S8 4 (ix ((198 : Int32) + v1)) s0) (1 : Int32) (400 : Int32)) fun r10 S11 =>
        ck (ixb ((202 : Int32) + v1) 463) <|
        b1 (gX12_must (pI S11 4 (ix ((202 : Int32) + v1)) r10) 10008) fun S14 =>
        ck (ixb ((202 : Int32) + v1) 463) <|
        b2 (gX12_number S14 (gI S14 4 (ix ((202 : Int32) + v1))) (400 : Int32)) fun r16 S17 =>
        ck (ixb ((206 : Int32) + v1) 463) <|
        b1 (gX12_must (pI S17 4 (ix ((206 : Int32) + v1)) r16) 10009) fun S20 =>
        b2 (gX12_number S20 (1 : Int32) (400 : Int32)) fun r21 S22 =>
        ck (ixb ((210 : Int32) + v1) 463) <|
        b1 (gX12_must (pI S22 4 (ix ((210 : Int32) + v1)) r21) 10022) fun S25 =>
        b2 (gX12_number S25 (1 : Int32) (20 : Int32)) fun r26 S27 =>
        ck (ixb ((214 : Int32) + v1) 463) <|
        if (gI (pI S27 4 (ix ((214 : Int32) + v1)) r26) 0 13) = 0 then
          ck (ixb ((206 : Int32) + v1) 463) <|
          ck (ixb ((202 : Int32) + v1) 463) <|
          ck (ixb ((210 : Int32) + v1) 463) <|
          ck (decide (¬ (gI (pI S27 4 (ix ((214 : Int32) + v1)) r26) 4 (ix ((210 : Int32) + v1))) = 0)) <|
          ck (ixb ((214 : Int32) + v1) 463) <|
          if (((((gI (pI S27 4 (ix ((214 : Int32) + v1)) r26) 4 (ix ((206 : Int32) + v1))) - (gI (pI S27 4 (ix ((214 : Int32) + v1)) r26) 4 (ix ((202 : Int32) + v1)))) / (gI (pI S27 4 (ix ((214 : Int32) + v1)) r26) 4 (ix ((210 : Int32) + v1)))) + (1 : Int32)) * (gI (pI S27 4 (ix ((214 : Int32) + v1)) r26) 4 (ix ((214 : Int32) + v1)))) ≤ (200 : Int32) then
            ck (ixb (240 : Int32) 463) <|
            ck (ixb (240 : Int32) 463) <|
            lt (pI (pI S27 4 (ix ((214 : Int32) + v1)) r26) 4 (ix (240 : Int32)) ((gI (pI S27 4 (ix ((214 : Int32) + v1)) r26) 4 (ix (240 : Int32))) + (1 : Int32))) fun S39 =>
            some S39
          else
            b1 (gX12_wrong (pI S27 4 (ix ((214 : Int32) + v1)) r26) (4 : Int32) (gI S25 0 4)) fun S41 =>
            gX12_planLine_J280 S41
        else
          ck (ixb (240 : Int32) 463) <|
          ck (ixb (240 : Int32) 463) <|
          lt (pI (pI S27 4 (ix ((214 : Int32) + v1)) r26) 4 (ix (240 : Int32)) ((gI (pI S27 4 (ix ((214 : Int32) + v1)) r26) 4 (ix (240 : Int32))) + (1 : Int32))) fun S31 =>
          some S31
      else
        some S
def gX12_planLine (S : zM) : Option zM :=
    if (gI S 0 13) = 0 then
      ck (ixb (240 : Int32) 463) <|
      b1 (gX12_newName S (2 : Int32) (gI S 4 (ix (240 : Int32)))) fun S3 =>
      if (gI S3 0 13) = 0 then
        b1 (gX12_isWord S3 10019) fun r4 =>
        if r4 = 0 then
          b1 (gX12_isWord S3 10020) fun r5 =>
          if r5 = 0 then
            b1 (gX12_isWord S3 10021) fun r6 =>
            if r6 = 0 then
              gX12_planLine_J74 S3 (gI S 4 (ix (240 : Int32))) (-1 : Int32)
            else
              gX12_planLine_J74 S3 (gI S 4 (ix (240 : Int32))) (2 : Int32)
          else
            gX12_planLine_J74 S3 (gI S 4 (ix (240 : Int32))) (1 : Int32)
        else
          gX12_planLine_J74 S3 (gI S 4 (ix (240 : Int32))) (0 : Int32)
      else
        some S3
    else
      some S
def gX12_payLine (S : zM) : Option zM :=
    if (gI S 0 13) = 0 then
      ck (ixb (241 : Int32) 463) <|
      b1 (gX12_newName S (3 : Int32) (gI S 4 (ix (241 : Int32)))) fun S3 =>
      b1 (gX12_must S3 10023) fun S5 =>
      b2 (gX12_signed S5 (99 : Int32)) fun r6 S7 =>
      ck (ixb ((218 : Int32) + (gI S 4 (ix (241 : Int32)))) 463) <|
      b1 (gX12_must (pI S7 4 (ix ((218 : Int32) + (gI S 4 (ix (241 : Int32))))) r6) 10024) fun S10 =>
      b2 (gX12_signed S10 (99 : Int32)) fun r11 S12 =>
      ck (ixb ((222 : Int32) + (gI S 4 (ix (241 : Int32)))) 463) <|
      b1 (gX12_must (pI S12 4 (ix ((222 : Int32) + (gI S 4 (ix (241 : Int32))))) r11) 10025) fun S15 =>
      b2 (gX12_signed S15 (99 : Int32)) fun r16 S17 =>
      ck (ixb ((226 : Int32) + (gI S 4 (ix (241 : Int32)))) 463) <|
      b1 (gX12_must (pI S17 4 (ix ((226 : Int32) + (gI S 4 (ix (241 : Int32))))) r16) 10026) fun S20 =>
      b2 (gX12_signed S20 (99 : Int32)) fun r21 S22 =>
      ck (ixb ((230 : Int32) + (gI S 4 (ix (241 : Int32)))) 463) <|
      b1 (gX12_must (pI S22 4 (ix ((230 : Int32) + (gI S 4 (ix (241 : Int32))))) r21) 10027) fun S25 =>
      b2 (gX12_number S25 (0 : Int32) (100 : Int32)) fun r26 S27 =>
      ck (ixb ((234 : Int32) + (gI S 4 (ix (241 : Int32)))) 463) <|
      ck (ixb (241 : Int32) 463) <|
      ck (ixb (241 : Int32) 463) <|
      lt (pI (pI S27 4 (ix ((234 : Int32) + (gI S 4 (ix (241 : Int32))))) r26) 4 (ix (241 : Int32)) ((gI (pI S27 4 (ix ((234 : Int32) + (gI S 4 (ix (241 : Int32))))) r26) 4 (ix (241 : Int32))) + (1 : Int32))) fun S31 =>
      some S31
    else
      some S
def gX12_readLine (S : zM) : Option zM :=
    b1 (gX12_isWord S 10000) fun r1 =>
    if r1 = 0 then
      b1 (gX12_isWord S 10001) fun r2 =>
      if r2 = 0 then
        b1 (gX12_isWord S 10002) fun r3 =>
        if r3 = 0 then
          b1 (gX12_isWord S 10003) fun r4 =>
          if r4 = 0 then
            b1 (gX12_wrong S (1 : Int32) (gI S 0 4)) fun S6 =>
            some S6
          else
            ck (ixb (241 : Int32) 463) <|
            if (gI S 4 (ix (241 : Int32))) = (4 : Int32) then
              b1 (gX12_wrong S (5 : Int32) (gI S 0 4)) fun S13 =>
              b1 (gX12_next S13) fun S15 =>
              b1 (gX12_payLine S15) fun S17 =>
              some S17
            else
              b1 (gX12_next S) fun S9 =>
              b1 (gX12_payLine S9) fun S11 =>
              some S11
        else
          ck (ixb (240 : Int32) 463) <|
          if (gI S 4 (ix (240 : Int32))) = (4 : Int32) then
            b1 (gX12_wrong S (5 : Int32) (gI S 0 4)) fun S24 =>
            b1 (gX12_next S24) fun S26 =>
            b1 (gX12_planLine S26) fun S28 =>
            some S28
          else
            b1 (gX12_next S) fun S20 =>
            b1 (gX12_planLine S20) fun S22 =>
            some S22
      else
        ck (ixb (239 : Int32) 463) <|
        if (gI S 4 (ix (239 : Int32))) = (6 : Int32) then
          b1 (gX12_wrong S (5 : Int32) (gI S 0 4)) fun S35 =>
          b1 (gX12_next S35) fun S37 =>
          b1 (gX12_sayerLine S37) fun S39 =>
          some S39
        else
          b1 (gX12_next S) fun S31 =>
          b1 (gX12_sayerLine S31) fun S33 =>
          some S33
    else
      ck (ixb (238 : Int32) 463) <|
      if (gI S 4 (ix (238 : Int32))) = (6 : Int32) then
        b1 (gX12_wrong S (5 : Int32) (gI S 0 4)) fun S46 =>
        b1 (gX12_next S46) fun S48 =>
        b1 (gX12_senseLine S48) fun S50 =>
        some S50
      else
        b1 (gX12_next S) fun S42 =>
        b1 (gX12_senseLine S42) fun S44 =>
        some S44
def gX12_marks_L4 (v0 : Int32) (v1 : Int32) : Nat → Int32 → Int32 → Option Int32
  | 0, _, _ => none
  | n + 1, v2, v3 =>
    if v1 < v2 then
      some v3
    else
      if (9999 : Int32) ≤ v3 then
        some v3
      else
        ck (decide (¬ v0 = 0)) <|
        if (1 : Int32) ≤ (v2 / v0) then
          gX12_marks_L4 v0 v1 n (v2 + (v2 / v0)) (v3 + (1 : Int32))
        else
          gX12_marks_L4 v0 v1 n (v2 + (1 : Int32)) (v3 + (1 : Int32))
def gX12_marks (a0 : Int32) (a1 : Int32) : Option Int32 :=
    gX12_marks_L4 a0 a1 FU (1 : Int32) (0 : Int32)
def gX12_power (a0 : Int64) (a2 : Int32) : Option Int64 :=
    if a2 = (1 : Int32) then
      some a0
    else
      if a2 = (2 : Int32) then
        some (a0 * a0)
      else
        some ((a0 * a0) * a0)
def gX12_root_L15 (v2 : Int32) (v3 : Int64) : Nat → Int32 → Int32 → Option Int32
  | 0, _, _ => none
  | n + 1, v5, v6 =>
    if (v6 - v5) ≤ (1 : Int32) then
      some v5
    else
      b1 (gX12_power (((v5 + v6) / (2 : Int32)).toInt64) v2) fun r2 =>
      if v3 < r2 then
        gX12_root_L15 v2 v3 n v5 ((v5 + v6) / (2 : Int32))
      else
        gX12_root_L15 v2 v3 n ((v5 + v6) / (2 : Int32)) v6
def gX12_root (a0 : Int32) (a1 : Int32) (a2 : Int32) : Option Int32 :=
    b1 (gX12_power a0.toInt64 a1) fun r1 =>
    gX12_root_L15 a2 r1 FU (0 : Int32) (10000 : Int32)
def gX12_reckoned_J121 (v1 : Int32) (v4 : Int32) (s0 : Int32) : Option (Int32 ⊕ (Int32 × Int32)) :=
    if s0 ≤ (9999 : Int32) then
      some (.inr (s0, (v4 + (1 : Int32))))
    else
      some (.inr ((9999 : Int32), (v4 + (1 : Int32))))
def gX12_reckoned_L7 (S : zM) (v1 : Int32) : Nat → Int32 → Int32 → Option Int32
  | 0, _, _ => none
  | n + 1, v3, v4 =>
    ck (ixb ((0 : Int32) + v1) 463) <|
    if (((4 : Int32) * v1) + (gI S 3 (ix ((0 : Int32) + v1)))) ≤ v4 then
      some v3
    else
      ck (ixb ((30 : Int32) + v4) 463) <|
      lt (gI S 3 (ix ((30 : Int32) + v4))) fun x3 =>
      ck (ixb ((54 : Int32) + v4) 463) <|
      lt (gI S 3 (ix ((54 : Int32) + v4))) fun x5 =>
      ck (ixb ((6 : Int32) + v4) 463) <|
      lt (gI S 3 (ix ((6 : Int32) + v4))) fun x7 =>
      if x7 = 0 then
        b1 (gX12_marks x3 v3) fun r10 =>
        lm (gX12_reckoned_J121 v1 v4 r10) (un2 fun v3 v4 => gX12_reckoned_L7 S v1 n v3 v4)
      else
        if x7 = (1 : Int32) then
          b1 (gX12_root v3 x3 x5) fun r9 =>
          lm (gX12_reckoned_J121 v1 v4 r9) (un2 fun v3 v4 => gX12_reckoned_L7 S v1 n v3 v4)
        else
          if x7 = (2 : Int32) then
            ck (decide (¬ x5 = 0)) <|
            lm (gX12_reckoned_J121 v1 v4 ((x3 * v3) / x5)) (un2 fun v3 v4 => gX12_reckoned_L7 S v1 n v3 v4)
          else
            if x3 ≤ v3 then
              lm (gX12_reckoned_J121 v1 v4 (v3 - x3)) (un2 fun v3 v4 => gX12_reckoned_L7 S v1 n v3 v4)
            else
              lm (gX12_reckoned_J121 v1 v4 (0 : Int32)) (un2 fun v3 v4 => gX12_reckoned_L7 S v1 n v3 v4)
def gX12_reckoned (S : zM) (a1 : Int32) (a2 : Int32) : Option Int32 :=
    gX12_reckoned_L7 S a1 FU a2 ((4 : Int32) * a1)
def gX12_room_L39 (v1 : Int32) : Nat → zM → Int32 → Option zM
  | 0, _, _ => none
  | n + 1, S, v2 =>
    if (463 : Int32) ≤ v2 then
      some S
    else
      ck (ixb v2 463) <|
      gX12_room_L39 v1 n (pI S 4 (ix v2) (0 : Int32)) (v2 + (1 : Int32))
def gX12_room_L77 : Nat → zM → Option zM
  | 0, _ => none
  | n + 1, S =>
    if (gI S 0 13) = 0 then
      if (gI S 0 6) = (59 : Int32) then
        b1 (gX12_next S) fun S11 =>
        b1 (gX12_readLine S11) fun S13 =>
        gX12_room_L77 n S13
      else
        some S
    else
      some S
def gX12_room_L170 : Nat → zM → Int32 → Option zM
  | 0, _, _ => none
  | n + 1, S, v2 =>
    if (463 : Int32) ≤ v2 then
      some S
    else
      ck (ixb v2 463) <|
      ck (ixb v2 463) <|
      gX12_room_L170 n (pI S 3 (ix v2) (gI S 4 (ix v2))) (v2 + (1 : Int32))
def gX12_room_L212 : Nat → zM → Int32 → Option zM
  | 0, _, _ => none
  | n + 1, S, v2 =>
    if (6 : Int32) ≤ v2 then
      some S
    else
      ck (ixb v2 6) <|
      ck (ixb v2 6) <|
      gX12_room_L212 n (pI (pI S 6 (ix v2) (0 : Int32)) 7 (ix v2) (0 : Int32)) (v2 + (1 : Int32))
def gX12_room_L254 (v2 : Int32) : Nat → zM → Int32 → Option zM
  | 0, _, _ => none
  | n + 1, S, v3 =>
    if (401 : Int32) ≤ v3 then
      some S
    else
      b1 (gX12_reckoned S v2 v3) fun r23 =>
      ck (ixb (((401 : Int32) * v2) + v3) 2406) <|
      gX12_room_L254 v2 n (pI S 5 (ix (((401 : Int32) * v2) + v3)) r23) (v3 + (1 : Int32))
def gX12_room_L240 : Nat → zM → Int32 → Option (Int32 × zM)
  | 0, _, _ => none
  | n + 1, S, v2 =>
    ck (ixb (238 : Int32) 463) <|
    if (gI S 3 (ix (238 : Int32))) ≤ v2 then
      ck (ixb (238 : Int32) 463) <|
      some ((gI S 3 (ix (238 : Int32))), S)
    else
      b1 (gX12_room_L254 v2 FU S (0 : Int32)) fun S25 =>
      gX12_room_L240 n S25 (v2 + (1 : Int32))
def gX12_room_J155 (S : zM) : Option (Int32 × zM) :=
    if (gI S 0 13) = 0 then
      b1 (gX12_room_L170 FU S (0 : Int32)) fun S46 =>
      b1 (gX12_room_L212 FU (pI (pI (pI S46 0 14 (1 : Int32)) 0 20 (0 : Int32)) 0 21 (0 : Int32)) (0 : Int32)) fun S49 =>
      gX12_room_L240 FU S49 (0 : Int32)
    else
      b2 (gX12_no S (4 : Int32)) fun r55 S56 =>
      some (r55, S56)
def gX12_room_J127 (S : zM) : Option (Int32 × zM) :=
    if (gI S 0 13) = 0 then
      ck (ixb (238 : Int32) 463) <|
      if (gI S 4 (ix (238 : Int32))) = 0 then
        b1 (gX12_wrong S (6 : Int32) (gI S 0 4)) fun S116 =>
        gX12_room_J155 S116
      else
        if (gI S 0 13) = 0 then
          b1 (gX12_room_L170 FU S (0 : Int32)) fun S104 =>
          b1 (gX12_room_L212 FU (pI (pI (pI S104 0 14 (1 : Int32)) 0 20 (0 : Int32)) 0 21 (0 : Int32)) (0 : Int32)) fun S107 =>
          gX12_room_L240 FU S107 (0 : Int32)
        else
          b2 (gX12_no S (4 : Int32)) fun r113 S114 =>
          some (r113, S114)
    else
      if (gI S 0 13) = 0 then
        b1 (gX12_room_L170 FU S (0 : Int32)) fun S90 =>
        b1 (gX12_room_L212 FU (pI (pI (pI S90 0 14 (1 : Int32)) 0 20 (0 : Int32)) 0 21 (0 : Int32)) (0 : Int32)) fun S93 =>
        gX12_room_L240 FU S93 (0 : Int32)
      else
        b2 (gX12_no S (4 : Int32)) fun r99 S100 =>
        some (r99, S100)
def gX12_room (S : zM) (a1 : Int32) : Option (Int32 × zM) :=
    b1 (gX12_good S) fun S2 =>
    b1 (gX12_within a1 (0 : Int32) (gI S2 0 2)) fun r3 =>
    if r3 = 0 then
      b2 (gX12_no S2 (2 : Int32)) fun r117 S118 =>
      some (r117, S118)
    else
      b1 (gX12_room_L39 a1 FU (pI (pI (pI S2 0 2 (0 : Int32)) 0 9 (0 : Int32)) 0 13 (0 : Int32)) (0 : Int32)) fun S5 =>
      b1 (gX12_next (pI (pI S5 0 3 a1) 0 5 (0 : Int32))) fun S7 =>
      b1 (gX12_readLine S7) fun S9 =>
      b1 (gX12_room_L77 FU S9) fun S14 =>
      if (gI S14 0 13) = 0 then
        if (gI S14 0 6) = 0 then
          if (gI S14 0 13) = 0 then
            ck (ixb (238 : Int32) 463) <|
            if (gI S14 4 (ix (238 : Int32))) = 0 then
              b1 (gX12_wrong S14 (6 : Int32) (gI S14 0 4)) fun S85 =>
              gX12_room_J155 S85
            else
              if (gI S14 0 13) = 0 then
                b1 (gX12_room_L170 FU S14 (0 : Int32)) fun S73 =>
                b1 (gX12_room_L212 FU (pI (pI (pI S73 0 14 (1 : Int32)) 0 20 (0 : Int32)) 0 21 (0 : Int32)) (0 : Int32)) fun S76 =>
                gX12_room_L240 FU S76 (0 : Int32)
              else
                b2 (gX12_no S14 (4 : Int32)) fun r82 S83 =>
                some (r82, S83)
          else
            if (gI S14 0 13) = 0 then
              b1 (gX12_room_L170 FU S14 (0 : Int32)) fun S59 =>
              b1 (gX12_room_L212 FU (pI (pI (pI S59 0 14 (1 : Int32)) 0 20 (0 : Int32)) 0 21 (0 : Int32)) (0 : Int32)) fun S62 =>
              gX12_room_L240 FU S62 (0 : Int32)
            else
              b2 (gX12_no S14 (4 : Int32)) fun r68 S69 =>
              some (r68, S69)
        else
          b1 (gX12_wrong S14 (1 : Int32) (gI S14 0 4)) fun S87 =>
          gX12_room_J127 S87
      else
        if (gI S14 0 13) = 0 then
          ck (ixb (238 : Int32) 463) <|
          if (gI S14 4 (ix (238 : Int32))) = 0 then
            b1 (gX12_wrong S14 (6 : Int32) (gI S14 0 4)) fun S43 =>
            gX12_room_J155 S43
          else
            if (gI S14 0 13) = 0 then
              b1 (gX12_room_L170 FU S14 (0 : Int32)) fun S31 =>
              b1 (gX12_room_L212 FU (pI (pI (pI S31 0 14 (1 : Int32)) 0 20 (0 : Int32)) 0 21 (0 : Int32)) (0 : Int32)) fun S34 =>
              gX12_room_L240 FU S34 (0 : Int32)
            else
              b2 (gX12_no S14 (4 : Int32)) fun r40 S41 =>
              some (r40, S41)
        else
          if (gI S14 0 13) = 0 then
            b1 (gX12_room_L170 FU S14 (0 : Int32)) fun S17 =>
            b1 (gX12_room_L212 FU (pI (pI (pI S17 0 14 (1 : Int32)) 0 20 (0 : Int32)) 0 21 (0 : Int32)) (0 : Int32)) fun S20 =>
            gX12_room_L240 FU S20 (0 : Int32)
          else
            b2 (gX12_no S14 (4 : Int32)) fun r26 S27 =>
            some (r26, S27)
def gX12_fault (S : zM) : Option (Int32 × zM) :=
    some ((gI (pI S 0 0 (0 : Int32)) 0 9), (pI S 0 0 (0 : Int32)))
def gX12_where (S : zM) : Option (Int32 × zM) :=
    if (gI (pI S 0 0 (0 : Int32)) 0 11) = (4 : Int32) then
      some ((gI (pI S 0 0 (0 : Int32)) 0 10), (pI S 0 0 (0 : Int32)))
    else
      some ((-1 : Int32), (pI S 0 0 (0 : Int32)))
def gX12_isSense (S : zM) (a1 : Int32) : Option Int32 :=
    if (gI S 0 14) = 0 then
      some (0 : Int32)
    else
      ck (ixb (238 : Int32) 463) <|
      b1 (gX12_within a1 (0 : Int32) ((gI S 3 (ix (238 : Int32))) - (1 : Int32))) fun r2 =>
      if r2 = 0 then
        some (0 : Int32)
      else
        some (1 : Int32)
def gX12_isSayer (S : zM) (a1 : Int32) : Option Int32 :=
    if (gI S 0 14) = 0 then
      some (0 : Int32)
    else
      ck (ixb (239 : Int32) 463) <|
      b1 (gX12_within a1 (0 : Int32) ((gI S 3 (ix (239 : Int32))) - (1 : Int32))) fun r2 =>
      if r2 = 0 then
        some (0 : Int32)
      else
        some (1 : Int32)
def gX12_level (S : zM) (a1 : Int32) (a2 : Int32) : Option (Int32 × zM) :=
    b1 (gX12_isSense (pI S 0 0 (0 : Int32)) a1) fun r1 =>
    if r1 = 0 then
      some ((-1 : Int32), (pI S 0 0 (0 : Int32)))
    else
      b1 (gX12_within a2 (0 : Int32) (400 : Int32)) fun r2 =>
      if r2 = 0 then
        some ((-1 : Int32), (pI S 0 0 (0 : Int32)))
      else
        ck (ixb (((401 : Int32) * a1) + a2) 2406) <|
        some ((gI (pI S 0 0 (0 : Int32)) 5 (ix (((401 : Int32) * a1) + a2))), (pI S 0 0 (0 : Int32)))
def gX12_levelOf (S : zM) (a1 : Int32) (a2 : Int32) : Option Int32 :=
    ck (ixb (((401 : Int32) * a1) + a2) 2406) <|
    some (gI S 5 (ix (((401 : Int32) * a1) + a2)))
def gX12_often_J10 (S : zM) (v1 : Int32) (v3 : Int32) (s0 : Int32) : Option Int32 :=
    if v3 ≤ s0 then
      some (0 : Int32)
    else
      ck (ixb (((84 : Int32) + ((6 : Int32) * v1)) + s0) 463) <|
      some (gI S 3 (ix (((84 : Int32) + ((6 : Int32) * v1)) + s0)))
def gX12_often (S : zM) (a1 : Int32) (a2 : Int32) (a3 : Int32) : Option Int32 :=
    if 0 ≤ a2 then
      gX12_often_J10 S a1 a3 a2
    else
      gX12_often_J10 S a1 a3 (-a2)
def gX12_noise (S : zM) (a1 : Int32) (a2 : Int32) : Option (Int32 × zM) :=
    b1 (gX12_isSense (pI S 0 0 (0 : Int32)) a1) fun r1 =>
    if r1 = 0 then
      some ((-1 : Int32), (pI S 0 0 (0 : Int32)))
    else
      b1 (gX12_within a2 (-5 : Int32) (5 : Int32)) fun r2 =>
      if r2 = 0 then
        some ((0 : Int32), (pI S 0 0 (0 : Int32)))
      else
        ck (ixb ((78 : Int32) + a1) 463) <|
        b1 (gX12_often (pI S 0 0 (0 : Int32)) a1 a2 (gI (pI S 0 0 (0 : Int32)) 3 (ix ((78 : Int32) + a1)))) fun r4 =>
        some (r4, (pI S 0 0 (0 : Int32)))
def gX12_all_L6 (S : zM) (v1 : Int32) (v2 : Int32) : Nat → Int32 → Int32 → Option Int32
  | 0, _, _ => none
  | n + 1, v3, v4 =>
    if (5 : Int32) < v4 then
      some v3
    else
      b1 (gX12_often S v1 v4 v2) fun r1 =>
      gX12_all_L6 S v1 v2 n (v3 + r1) (v4 + (1 : Int32))
def gX12_all (S : zM) (a1 : Int32) (a2 : Int32) : Option Int32 :=
    gX12_all_L6 S a1 a2 FU (0 : Int32) (-5 : Int32)
def gX12_fullOf (S : zM) (a1 : Int32) : Option Int32 :=
    ck (ixb ((78 : Int32) + a1) 463) <|
    some (gI S 3 (ix ((78 : Int32) + a1)))
def gX12_tired (S : zM) (a1 : Int32) : Option Int32 :=
    ck (ixb ((138 : Int32) + a1) 463) <|
    if (gI S 3 (ix ((138 : Int32) + a1))) = 0 then
      some (0 : Int32)
    else
      ck (ixb a1 6) <|
      ck (ixb ((138 : Int32) + a1) 463) <|
      ck (decide (¬ (gI S 3 (ix ((138 : Int32) + a1))) = 0)) <|
      some ((gI S 7 (ix a1)) / (gI S 3 (ix ((138 : Int32) + a1))))
def gX12_learned_J34 (S : zM) (v1 : Int32) (s0 : Int32) : Option Int32 :=
    ck (ixb ((120 : Int32) + v1) 463) <|
    ck (ixb ((78 : Int32) + (gI S 3 (ix ((120 : Int32) + v1)))) 463) <|
    lt ((gI S 3 (ix ((78 : Int32) + (gI S 3 (ix ((120 : Int32) + v1)))))) - (1 : Int32)) fun x7 =>
    if x7 ≤ s0 then
      some x7
    else
      some s0
def gX12_learned (S : zM) (a1 : Int32) : Option Int32 :=
    ck (ixb ((144 : Int32) + a1) 463) <|
    if (gI S 3 (ix ((144 : Int32) + a1))) = 0 then
      gX12_learned_J34 S a1 (0 : Int32)
    else
      ck (ixb a1 6) <|
      ck (ixb ((144 : Int32) + a1) 463) <|
      ck (decide (¬ (gI S 3 (ix ((144 : Int32) + a1))) = 0)) <|
      gX12_learned_J34 S a1 ((gI S 6 (ix a1)) / (gI S 3 (ix ((144 : Int32) + a1))))
def gX12_wholesNow (S : zM) (a1 : Int32) : Option Int32 :=
    ck (ixb ((120 : Int32) + a1) 463) <|
    ck (ixb ((78 : Int32) + (gI S 3 (ix ((120 : Int32) + a1)))) 463) <|
    b1 (gX12_learned S a1) fun r3 =>
    some ((gI S 3 (ix ((78 : Int32) + (gI S 3 (ix ((120 : Int32) + a1)))))) - r3)
def gX12_sayer (S : zM) (a1 : Int32) (a2 : Int32) : Option (Int32 × zM) :=
    b1 (gX12_isSayer (pI S 0 0 (0 : Int32)) a1) fun r1 =>
    if r1 = 0 then
      some ((-1000 : Int32), (pI S 0 0 (0 : Int32)))
    else
      if a2 = (0 : Int32) then
        ck (ixb ((120 : Int32) + a1) 463) <|
        some ((gI (pI S 0 0 (0 : Int32)) 3 (ix ((120 : Int32) + a1))), (pI S 0 0 (0 : Int32)))
      else
      if a2 = (1 : Int32) then
        ck (ixb ((126 : Int32) + a1) 463) <|
        some ((gI (pI S 0 0 (0 : Int32)) 3 (ix ((126 : Int32) + a1))), (pI S 0 0 (0 : Int32)))
      else
      if a2 = (2 : Int32) then
        ck (ixb ((132 : Int32) + a1) 463) <|
        some ((gI (pI S 0 0 (0 : Int32)) 3 (ix ((132 : Int32) + a1))), (pI S 0 0 (0 : Int32)))
      else
      if a2 = (3 : Int32) then
        b1 (gX12_tired (pI S 0 0 (0 : Int32)) a1) fun r5 =>
        some (r5, (pI S 0 0 (0 : Int32)))
      else
      if a2 = (4 : Int32) then
        b1 (gX12_learned (pI S 0 0 (0 : Int32)) a1) fun r6 =>
        some (r6, (pI S 0 0 (0 : Int32)))
      else
      if a2 = (5 : Int32) then
        ck (ixb a1 6) <|
        some ((gI (pI S 0 0 (0 : Int32)) 6 (ix a1)), (pI S 0 0 (0 : Int32)))
      else
      if a2 = (6 : Int32) then
        ck (ixb a1 6) <|
        some ((gI (pI S 0 0 (0 : Int32)) 7 (ix a1)), (pI S 0 0 (0 : Int32)))
      else
      if a2 = (7 : Int32) then
        ck (ixb ((120 : Int32) + a1) 463) <|
        b1 (gX12_wholesNow (pI S 0 0 (0 : Int32)) a1) fun r10 =>
        b1 (gX12_all (pI S 0 0 (0 : Int32)) (gI (pI S 0 0 (0 : Int32)) 3 (ix ((120 : Int32) + a1))) r10) fun r11 =>
        some (r11, (pI S 0 0 (0 : Int32)))
      else
      if a2 = (8 : Int32) then
        ck (ixb ((150 : Int32) + a1) 463) <|
        some ((gI (pI S 0 0 (0 : Int32)) 3 (ix ((150 : Int32) + a1))), (pI S 0 0 (0 : Int32)))
      else
      if a2 = (9 : Int32) then
        ck (ixb ((156 : Int32) + a1) 463) <|
        some ((gI (pI S 0 0 (0 : Int32)) 3 (ix ((156 : Int32) + a1))), (pI S 0 0 (0 : Int32)))
      else
        some ((-1000 : Int32), (pI S 0 0 (0 : Int32)))
def gX12_rest (S : zM) (a1 : Int32) : Option (Int32 × zM) :=
    b1 (gX12_good S) fun S2 =>
    b1 (gX12_isSayer S2 a1) fun r3 =>
    if r3 = 0 then
      b2 (gX12_isNot S2 (1 : Int32)) fun r5 S6 =>
      ck (isB r5) <|
      some (r5, S6)
    else
      ck (ixb a1 6) <|
      some ((1 : Int32), (pI S2 7 (ix a1) (0 : Int32)))
def gX12_without (a0 : Int32) : Option Int32 :=
    if 0 ≤ a0 then
      some a0
    else
      some (-a0)
def gX12_ordered (a0 : Int32) : Option Int32 :=
    if a0 ≤ 0 then
      if 0 ≤ a0 then
        some (2 : Int32)
      else
        some (0 : Int32)
    else
      some (1 : Int32)
def gX12_matched_L5 (S : zM) (v1 : Int32) (v2 : Int32) : Nat → Int32 → Int32 → Option Int32
  | 0, _, _ => none
  | n + 1, v3, v4 =>
    if (401 : Int32) ≤ v4 then
      some v3
    else
      b1 (gX12_levelOf S v1 v4) fun r1 =>
      b1 (gX12_without (r1 - v2)) fun r2 =>
      b1 (gX12_levelOf S v1 v3) fun r3 =>
      b1 (gX12_without (r3 - v2)) fun r4 =>
      if r4 ≤ r2 then
        gX12_matched_L5 S v1 v2 n v3 (v4 + (1 : Int32))
      else
        gX12_matched_L5 S v1 v2 n v4 (v4 + (1 : Int32))
def gX12_matched (S : zM) (a1 : Int32) (a2 : Int32) : Option Int32 :=
    gX12_matched_L5 S a1 a2 FU (1 : Int32) (2 : Int32)
def gX12_named_L47 (S : zM) (v1 : Int32) (v3 : Int32) (v4 : Int32) : Nat → Int32 → Int32 → Option Int32
  | 0, _, _ => none
  | n + 1, v5, v6 =>
    if v4 ≤ v6 then
      some v5
    else
      ck (ixb (((162 : Int32) + ((6 : Int32) * v1)) + v6) 463) <|
      lt (gI S 3 (ix (((162 : Int32) + ((6 : Int32) * v1)) + v6))) fun x6 =>
      b1 (gX12_without (x6 - v3)) fun r7 =>
      b1 (gX12_without (v5 - v3)) fun r8 =>
      if (r7 - r8) < 0 then
        gX12_named_L47 S v1 v3 v4 n x6 (v6 + (1 : Int32))
      else
        if (r7 - r8) = 0 then
          if v5 ≤ x6 then
            gX12_named_L47 S v1 v3 v4 n v5 (v6 + (1 : Int32))
          else
            gX12_named_L47 S v1 v3 v4 n x6 (v6 + (1 : Int32))
        else
          gX12_named_L47 S v1 v3 v4 n v5 (v6 + (1 : Int32))
def gX12_named_J9 (S : zM) (v1 : Int32) (s0 : Int32) : Option Int32 :=
    ck (ixb ((156 : Int32) + v1) 463) <|
    lt (gI S 3 (ix ((156 : Int32) + v1))) fun x2 =>
    if x2 = 0 then
      some s0
    else
      ck (ixb ((162 : Int32) + ((6 : Int32) * v1)) 463) <|
      lt (gI S 3 (ix ((162 : Int32) + ((6 : Int32) * v1)))) fun x4 =>
      gX12_named_L47 S v1 s0 x2 FU x4 (1 : Int32)
def gX12_named (S : zM) (a1 : Int32) (a2 : Int32) : Option Int32 :=
    if 0 ≤ a2 then
      gX12_named_J9 S a1 a2
    else
      gX12_named_J9 S a1 (0 : Int32)
def gX12_oddOne (a0 : Int32) (a1 : Int32) (a2 : Int32) : Option Int32 :=
    b1 (gX12_without ((((2 : Int32) * a0) - a1) - a2)) fun r1 =>
    b1 (gX12_without ((((2 : Int32) * a1) - a0) - a2)) fun r2 =>
    b1 (gX12_without ((((2 : Int32) * a2) - a0) - a1)) fun r3 =>
    if r1 < r2 then
      if r2 < r3 then
        some (2 : Int32)
      else
        some (1 : Int32)
    else
      if r1 < r3 then
        if r2 < r3 then
          some (2 : Int32)
        else
          some (1 : Int32)
      else
        some (0 : Int32)
def gX12_feelings (a0 : Int32) : Option Int32 :=
    if a0 = (2 : Int32) then
      some (3 : Int32)
    else
      if a0 = 0 then
        some (2 : Int32)
      else
        if a0 = (5 : Int32) then
          some (2 : Int32)
        else
          some (1 : Int32)
def gX12_levelAt_J32 (S : zM) (v1 : Int32) (s0 : Int32) : Option Int32 :=
    b1 (gX12_levelOf S v1 s0) fun r1 =>
    some r1
def gX12_levelAt (S : zM) (a1 : Int32) (a2 : Int32) (a3 : Int32) (a4 : Int32) (a5 : Int32) (a6 : Int32) : Option Int32 :=
    if a2 = (2 : Int32) then
      if a6 = a5 then
        gX12_levelAt_J32 S a1 a4
      else
        gX12_levelAt_J32 S a1 a3
    else
      if a6 = 0 then
        gX12_levelAt_J32 S a1 a3
      else
        gX12_levelAt_J32 S a1 a4
def gX12_answered (S : zM) (a1 : Int32) (a2 : Int32) (a3 : Int32) (a4 : Int32) (a5 : Int32) (a6 : Int32) (a7 : Int32) (a8 : Int32) : Option Int32 :=
    ck (ixb ((132 : Int32) + a1) 463) <|
    lt (((a6 + (gI S 3 (ix ((132 : Int32) + a1)))) + a8) - a5) fun x2 =>
    if a2 = (0 : Int32) then
      if x2 = 0 then
        ck (ixb ((150 : Int32) + a1) 463) <|
        if (gI S 3 (ix ((150 : Int32) + a1))) = (1 : Int32) then
          some (1 : Int32)
        else
          b1 (gX12_ordered x2) fun r5 =>
          some r5
      else
        b1 (gX12_ordered x2) fun r3 =>
        some r3
    else
    if a2 = (1 : Int32) then
      ck (ixb ((126 : Int32) + a1) 463) <|
      if a5 ≤ ((gI S 3 (ix ((126 : Int32) + a1))) + a8) then
        some (0 : Int32)
      else
        some (1 : Int32)
    else
    if a2 = (2 : Int32) then
      b1 (gX12_oddOne a5 a6 a7) fun r7 =>
      some r7
    else
    if a2 = (3 : Int32) then
      b1 (gX12_named S a1 a5) fun r8 =>
      some r8
    else
    if a2 = (4 : Int32) then
      b1 (gX12_matched S a3 a5) fun r9 =>
      some r9
    else
      if a4 = (1 : Int32) then
        if (-2 : Int32) ≤ x2 then
          some (1 : Int32)
        else
          some (0 : Int32)
      else
        if x2 ≤ (2 : Int32) then
          some (0 : Int32)
        else
          some (1 : Int32)
def gX12_bars_J44 (S : zM) (v2 : Int32) (v4 : Int32) (v5 : Int32) (s0 : Int32) (s1 : Int32) : Option Int32 :=
    b1 (gX12_within s1 s0 (400 : Int32)) fun r3 =>
    if r3 = 0 then
      some (2 : Int32)
    else
      if v2 = 0 then
        b1 (gX12_within v4 (1 : Int32) (400 : Int32)) fun r4 =>
        if r4 = 0 then
          some (2 : Int32)
        else
          if v2 = (2 : Int32) then
            b1 (gX12_within v5 (0 : Int32) (2 : Int32)) fun r6 =>
            if r6 = 0 then
              some (2 : Int32)
            else
              if v2 = (5 : Int32) then
                b1 (gX12_within v5 (0 : Int32) (1 : Int32)) fun r7 =>
                if r7 = 0 then
                  some (2 : Int32)
                else
                  some (0 : Int32)
              else
                some (0 : Int32)
          else
            if v2 = (5 : Int32) then
              b1 (gX12_within v5 (0 : Int32) (1 : Int32)) fun r5 =>
              if r5 = 0 then
                some (2 : Int32)
              else
                some (0 : Int32)
            else
              some (0 : Int32)
      else
        if v2 = (2 : Int32) then
          b1 (gX12_within v4 (1 : Int32) (400 : Int32)) fun r8 =>
          if r8 = 0 then
            some (2 : Int32)
          else
            if v2 = (2 : Int32) then
              b1 (gX12_within v5 (0 : Int32) (2 : Int32)) fun r10 =>
              if r10 = 0 then
                some (2 : Int32)
              else
                if v2 = (5 : Int32) then
                  b1 (gX12_within v5 (0 : Int32) (1 : Int32)) fun r11 =>
                  if r11 = 0 then
                    some (2 : Int32)
                  else
                    some (0 : Int32)
                else
                  some (0 : Int32)
            else
              if v2 = (5 : Int32) then
                b1 (gX12_within v5 (0 : Int32) (1 : Int32)) fun r9 =>
                if r9 = 0 then
                  some (2 : Int32)
                else
                  some (0 : Int32)
              else
                some (0 : Int32)
        else
          if v2 = (5 : Int32) then
            b1 (gX12_within v4 (1 : Int32) (400 : Int32)) fun r15 =>
            if r15 = 0 then
              some (2 : Int32)
            else
              if v2 = (2 : Int32) then
                b1 (gX12_within v5 (0 : Int32) (2 : Int32)) fun r17 =>
                if r17 = 0 then
                  some (2 : Int32)
                else
                  if v2 = (5 : Int32) then
                    b1 (gX12_within v5 (0 : Int32) (1 : Int32)) fun r18 =>
                    if r18 = 0 then
                      some (2 : Int32)
                    else
                      some (0 : Int32)
                  else
                    some (0 : Int32)
              else
                if v2 = (5 : Int32) then
                  b1 (gX12_within v5 (0 : Int32) (1 : Int32)) fun r16 =>
                  if r16 = 0 then
                    some (2 : Int32)
                  else
                    some (0 : Int32)
                else
                  some (0 : Int32)
          else
            if v2 = (2 : Int32) then
              b1 (gX12_within v5 (0 : Int32) (2 : Int32)) fun r13 =>
              if r13 = 0 then
                some (2 : Int32)
              else
                if v2 = (5 : Int32) then
                  b1 (gX12_within v5 (0 : Int32) (1 : Int32)) fun r14 =>
                  if r14 = 0 then
                    some (2 : Int32)
                  else
                    some (0 : Int32)
                else
                  some (0 : Int32)
            else
              if v2 = (5 : Int32) then
                b1 (gX12_within v5 (0 : Int32) (1 : Int32)) fun r12 =>
                if r12 = 0 then
                  some (2 : Int32)
                else
                  some (0 : Int32)
              else
                some (0 : Int32)
def gX12_bars (S : zM) (a1 : Int32) (a2 : Int32) (a3 : Int32) (a4 : Int32) (a5 : Int32) : Option Int32 :=
    b1 (gX12_isSayer S a1) fun r1 =>
    if r1 = 0 then
      some (1 : Int32)
    else
      b1 (gX12_within a2 (0 : Int32) (5 : Int32)) fun r2 =>
      if r2 = 0 then
        some (1 : Int32)
      else
        if a2 = (4 : Int32) then
          b1 (gX12_isSense S a4) fun r19 =>
          if r19 = 0 then
            some (1 : Int32)
          else
            if a2 = (1 : Int32) then
              gX12_bars_J44 S a2 a4 a5 (0 : Int32) a3
            else
              gX12_bars_J44 S a2 a4 a5 (1 : Int32) a3
        else
          if a2 = (1 : Int32) then
            gX12_bars_J44 S a2 a4 a5 (0 : Int32) a3
          else
            gX12_bars_J44 S a2 a4 a5 (1 : Int32) a3
def gX12_oddsOf_J230 (S : zM) (v1 : Int32) (v2 : Int32) (v3 : Int32) (v4 : Int32) (v5 : Int32) (v6 : Int32) (v7 : Int32) (v8 : Int32) (v9 : Int32) (v10 : Int32) (v11 : Int32) (v12 : Int32) (v13 : Int32) (v14 : Int32) (v15 : Int32) (v16 : Int32) (v17 : Int32) (v18 : Int32) (v19 : Int32) (s0 : Int32) : Option (Int32 ⊕ (Int32 × Int32)) :=
    b1 (gX12_answered S v1 v2 v4 v5 v14 v17 s0 v7) fun r6 =>
    if r6 = v6 then
      some (.inr ((v11 + v19), (v18 + (1 : Int32))))
    else
      some (.inr ((v11 + (0 : Int32)), (v18 + (1 : Int32))))
def gX12_oddsOf_J194 (S : zM) (v1 : Int32) (v2 : Int32) (v3 : Int32) (v4 : Int32) (v5 : Int32) (v6 : Int32) (v7 : Int32) (v8 : Int32) (v9 : Int32) (v10 : Int32) (v11 : Int32) (v12 : Int32) (v13 : Int32) (v14 : Int32) (v15 : Int32) (v16 : Int32) (v17 : Int32) (v18 : Int32) (s0 : Int32) : Option (Int32 ⊕ (Int32 × Int32)) :=
    if s0 = 0 then
      some (.inr (v11, (v18 + (1 : Int32))))
    else
      if v10 ≤ (2 : Int32) then
        gX12_oddsOf_J230 S v1 v2 v3 v4 v5 v6 v7 v8 v9 v10 v11 v12 v13 v14 v15 v16 v17 v18 s0 (0 : Int32)
      else
        b1 (gX12_levelAt S v9 v2 v3 v4 v5 (2 : Int32)) fun r7 =>
        gX12_oddsOf_J230 S v1 v2 v3 v4 v5 v6 v7 v8 v9 v10 v11 v12 v13 v14 v15 v16 v17 v18 s0 (r7 + v18)
def gX12_oddsOf_L164 (S : zM) (v1 : Int32) (v2 : Int32) (v3 : Int32) (v4 : Int32) (v5 : Int32) (v6 : Int32) (v7 : Int32) (v8 : Int32) (v9 : Int32) (v10 : Int32) (v12 : Int32) (v13 : Int32) (v14 : Int32) (v15 : Int32) (v16 : Int32) (v17 : Int32) : Nat → Int32 → Int32 → Option Int32
  | 0, _, _ => none
  | n + 1, v11, v18 =>
    if (5 : Int32) < v18 then
      some v11
    else
      if v10 ≤ (2 : Int32) then
        lm (gX12_oddsOf_J194 S v1 v2 v3 v4 v5 v6 v7 v8 v9 v10 v11 v12 v13 v14 v15 v16 v17 v18 v16) (un2 fun v11 v18 => gX12_oddsOf_L164 S v1 v2 v3 v4 v5 v6 v7 v8 v9 v10 v12 v13 v14 v15 v16 v17 n v11 v18)
      else
        b1 (gX12_often S v9 v18 v8) fun r8 =>
        lm (gX12_oddsOf_J194 S v1 v2 v3 v4 v5 v6 v7 v8 v9 v10 v11 v12 v13 v14 v15 v16 v17 v18 (v16 * r8)) (un2 fun v11 v18 => gX12_oddsOf_L164 S v1 v2 v3 v4 v5 v6 v7 v8 v9 v10 v12 v13 v14 v15 v16 v17 n v11 v18)
def gX12_oddsOf_J112 (S : zM) (v1 : Int32) (v2 : Int32) (v3 : Int32) (v4 : Int32) (v5 : Int32) (v6 : Int32) (v7 : Int32) (v8 : Int32) (v9 : Int32) (v10 : Int32) (v11 : Int32) (v12 : Int32) (v13 : Int32) (v14 : Int32) (v15 : Int32) (s0 : Int32) : Option (Int32 ⊕ (Int32 × Int32)) :=
    if s0 = 0 then
      some (.inr (v11, (v15 + (1 : Int32))))
    else
      if v10 ≤ (1 : Int32) then
        if v10 ≤ (2 : Int32) then
          b1 (gX12_oddsOf_L164 S v1 v2 v3 v4 v5 v6 v7 v8 v9 v10 v12 v13 v14 v15 s0 (0 : Int32) FU v11 (5 : Int32)) fun w9 =>
          some (.inr (w9, (v15 + (1 : Int32))))
        else
          b1 (gX12_oddsOf_L164 S v1 v2 v3 v4 v5 v6 v7 v8 v9 v10 v12 v13 v14 v15 s0 (0 : Int32) FU v11 (-5 : Int32)) fun w11 =>
          some (.inr (w11, (v15 + (1 : Int32))))
      else
        b1 (gX12_levelAt S v9 v2 v3 v4 v5 (1 : Int32)) fun r12 =>
        if v10 ≤ (2 : Int32) then
          b1 (gX12_oddsOf_L164 S v1 v2 v3 v4 v5 v6 v7 v8 v9 v10 v12 v13 v14 v15 s0 (r12 + v15) FU v11 (5 : Int32)) fun w14 =>
          some (.inr (w14, (v15 + (1 : Int32))))
        else
          b1 (gX12_oddsOf_L164 S v1 v2 v3 v4 v5 v6 v7 v8 v9 v10 v12 v13 v14 v15 s0 (r12 + v15) FU v11 (-5 : Int32)) fun w16 =>
          some (.inr (w16, (v15 + (1 : Int32))))
def gX12_oddsOf_L82 (S : zM) (v1 : Int32) (v2 : Int32) (v3 : Int32) (v4 : Int32) (v5 : Int32) (v6 : Int32) (v7 : Int32) (v8 : Int32) (v9 : Int32) (v10 : Int32) (v12 : Int32) (v13 : Int32) (v14 : Int32) : Nat → Int32 → Int32 → Option Int32
  | 0, _, _ => none
  | n + 1, v11, v15 =>
    if (5 : Int32) < v15 then
      some v11
    else
      if v10 ≤ (1 : Int32) then
        lm (gX12_oddsOf_J112 S v1 v2 v3 v4 v5 v6 v7 v8 v9 v10 v11 v12 v13 v14 v15 v13) (un2 fun v11 v15 => gX12_oddsOf_L82 S v1 v2 v3 v4 v5 v6 v7 v8 v9 v10 v12 v13 v14 n v11 v15)
      else
        b1 (gX12_often S v9 v15 v8) fun r17 =>
        lm (gX12_oddsOf_J112 S v1 v2 v3 v4 v5 v6 v7 v8 v9 v10 v11 v12 v13 v14 v15 (v13 * r17)) (un2 fun v11 v15 => gX12_oddsOf_L82 S v1 v2 v3 v4 v5 v6 v7 v8 v9 v10 v12 v13 v14 n v11 v15)
def gX12_oddsOf_L24 (S : zM) (v1 : Int32) (v2 : Int32) (v3 : Int32) (v4 : Int32) (v5 : Int32) (v6 : Int32) (v7 : Int32) (v8 : Int32) (v9 : Int32) (v10 : Int32) : Nat → Int32 → Int32 → Option Int32
  | 0, _, _ => none
  | n + 1, v11, v12 =>
    if (5 : Int32) < v12 then
      some v11
    else
      b1 (gX12_often S v9 v12 v8) fun r4 =>
      if r4 = 0 then
        gX12_oddsOf_L24 S v1 v2 v3 v4 v5 v6 v7 v8 v9 v10 n v11 (v12 + (1 : Int32))
      else
        b1 (gX12_levelAt S v9 v2 v3 v4 v5 (0 : Int32)) fun r5 =>
        if v10 ≤ (1 : Int32) then
          b1 (gX12_oddsOf_L82 S v1 v2 v3 v4 v5 v6 v7 v8 v9 v10 v12 r4 (r5 + v12) FU v11 (5 : Int32)) fun w18 =>
          gX12_oddsOf_L24 S v1 v2 v3 v4 v5 v6 v7 v8 v9 v10 n w18 (v12 + (1 : Int32))
        else
          b1 (gX12_oddsOf_L82 S v1 v2 v3 v4 v5 v6 v7 v8 v9 v10 v12 r4 (r5 + v12) FU v11 (-5 : Int32)) fun w20 =>
          gX12_oddsOf_L24 S v1 v2 v3 v4 v5 v6 v7 v8 v9 v10 n w20 (v12 + (1 : Int32))
def gX12_oddsOf (S : zM) (a1 : Int32) (a2 : Int32) (a3 : Int32) (a4 : Int32) (a5 : Int32) (a6 : Int32) (a7 : Int32) (a8 : Int32) : Option Int32 :=
    ck (ixb ((120 : Int32) + a1) 463) <|
    lt (gI S 3 (ix ((120 : Int32) + a1))) fun x2 =>
    b1 (gX12_feelings a2) fun r3 =>
    gX12_oddsOf_L24 S a1 a2 a3 a4 a5 a6 a7 a8 x2 r3 FU (0 : Int32) (-5 : Int32)
def gX12_odds (S : zM) (a1 : Int32) (a2 : Int32) (a3 : Int32) (a4 : Int32) (a5 : Int32) (a6 : Int32) (a7 : Int32) : Option (Int32 × zM) :=
    b1 (gX12_good S) fun S2 =>
    b1 (gX12_bars S2 a1 a2 a3 a4 a5) fun r3 =>
    if r3 = 0 then
      if a7 = 0 then
        b1 (gX12_tired S2 a1) fun r9 =>
        b1 (gX12_wholesNow S2 a1) fun r10 =>
        b1 (gX12_oddsOf S2 a1 a2 a3 a4 a5 a6 r9 r10) fun r11 =>
        some (r11, S2)
      else
        ck (ixb ((120 : Int32) + a1) 463) <|
        b1 (gX12_wholesNow S2 a1) fun r5 =>
        b1 (gX12_all S2 (gI S2 3 (ix ((120 : Int32) + a1))) r5) fun r6 =>
        b1 (gX12_feelings a2) fun r7 =>
        if r7 = (3 : Int32) then
          some (((r6 * r6) * r6), S2)
        else
          b1 (gX12_feelings a2) fun r8 =>
          if r8 = (2 : Int32) then
            some ((r6 * r6), S2)
          else
            some (r6, S2)
    else
      b2 (gX12_no S2 r3) fun r12 S13 =>
      some (r12, S13)
def gX12_seed (S : zM) (a1 : Int32) : Option (Int32 × zM) :=
    b1 (gX12_good S) fun S2 =>
    b1 (gX12_within a1 (0 : Int32) (65536 : Int32)) fun r3 =>
    if r3 = 0 then
      b2 (gX12_isNot S2 (2 : Int32)) fun r4 S5 =>
      ck (isB r4) <|
      some (r4, S5)
    else
      some ((1 : Int32), (pI S2 0 20 a1))
def gX12_drawn (S : zM) (a1 : Int32) : Option (Int32 × zM) :=
    lt (pI S 0 20 ((((75 : Int32) * (gI S 0 20)) + (74 : Int32)) - (((75 : Int32) * (gI S 0 20)) + (74 : Int32)) / (65537 : Int32) * (65537 : Int32))) fun S1 =>
    ck (decide (¬ a1 = 0)) <|
    some (((gI S1 0 20) - (gI S1 0 20) / a1 * a1), S1)
def gX12_drawnNoise_L15 (S : zM) (v1 : Int32) (v2 : Int32) : Nat → Int32 → Int32 → Option (Int32 × zM)
  | 0, _, _ => none
  | n + 1, v3, v4 =>
    b1 (gX12_often S v1 v4 v2) fun r4 =>
    if v3 < r4 then
      some (v4, S)
    else
      b1 (gX12_often S v1 v4 v2) fun r5 =>
      gX12_drawnNoise_L15 S v1 v2 n (v3 - r5) (v4 + (1 : Int32))
def gX12_drawnNoise (S : zM) (a1 : Int32) (a2 : Int32) : Option (Int32 × zM) :=
    b1 (gX12_all S a1 a2) fun r1 =>
    b2 (gX12_drawn S r1) fun r2 S3 =>
    gX12_drawnNoise_L15 S3 a1 a2 FU r2 (-5 : Int32)
def gX12_books_J79 (S : zM) (v1 : Int32) (v6 : Int32) (s0 : Int32) (s1 : Int32) : Option zM :=
    ck (ixb s1 1000) <|
    ck (ixb (gI (pI S 12 (ix s1) s0) 0 21) 1000) <|
    lt (pI (pI (pI S 12 (ix s1) s0) 13 (ix (gI (pI S 12 (ix s1) s0) 0 21)) v6) 0 21 ((gI (pI (pI S 12 (ix s1) s0) 13 (ix (gI (pI S 12 (ix s1) s0) 0 21)) v6) 0 21) + (1 : Int32))) fun S8 =>
    ck (ixb v1 6) <|
    ck (ixb v1 6) <|
    ck (ixb v1 6) <|
    ck (ixb v1 6) <|
    lt (pI (pI S8 6 (ix v1) ((gI S8 6 (ix v1)) + (1 : Int32))) 7 (ix v1) ((gI (pI S8 6 (ix v1) ((gI S8 6 (ix v1)) + (1 : Int32))) 7 (ix v1)) + (1 : Int32))) fun S13 =>
    some S13
def gX12_books_J54 (S : zM) (v1 : Int32) (v2 : Int32) (v5 : Int32) (v6 : Int32) (s0 : Int32) (s1 : Int32) : Option zM :=
    ck (ixb s1 1000) <|
    if v2 = (2 : Int32) then
      gX12_books_J79 (pI S 11 (ix s1) s0) v1 v6 v5 (gI (pI S 11 (ix s1) s0) 0 21)
    else
      if v2 = (5 : Int32) then
        gX12_books_J79 (pI S 11 (ix s1) s0) v1 v6 v5 (gI (pI S 11 (ix s1) s0) 0 21)
      else
        gX12_books_J79 (pI S 11 (ix s1) s0) v1 v6 (0 : Int32) (gI (pI S 11 (ix s1) s0) 0 21)
def gX12_books (S : zM) (a1 : Int32) (a2 : Int32) (a3 : Int32) (a4 : Int32) (a5 : Int32) (a6 : Int32) : Option zM :=
    ck (ixb (gI S 0 21) 1000) <|
    ck (ixb (gI (pI S 8 (ix (gI S 0 21)) a1) 0 21) 1000) <|
    ck (ixb (gI (pI (pI S 8 (ix (gI S 0 21)) a1) 9 (ix (gI (pI S 8 (ix (gI S 0 21)) a1) 0 21)) a2) 0 21) 1000) <|
    lt (pI (pI (pI S 8 (ix (gI S 0 21)) a1) 9 (ix (gI (pI S 8 (ix (gI S 0 21)) a1) 0 21)) a2) 10 (ix (gI (pI (pI S 8 (ix (gI S 0 21)) a1) 9 (ix (gI (pI S 8 (ix (gI S 0 21)) a1) 0 21)) a2) 0 21)) a3) fun S4 =>
    if a2 = (1 : Int32) then
      gX12_books_J54 S4 a1 a2 a5 a6 (0 : Int32) (gI S4 0 21)
    else
      if a2 = (3 : Int32) then
        gX12_books_J54 S4 a1 a2 a5 a6 (0 : Int32) (gI S4 0 21)
      else
        gX12_books_J54 S4 a1 a2 a5 a6 a4 (gI S4 0 21)
def gX12_draws_J114 (S : zM) (v1 : Int32) (v2 : Int32) (v3 : Int32) (v4 : Int32) (v5 : Int32) (v9 : Int32) (v10 : Int32) (s0 : Int32) : Option (Int32 × zM) :=
    b1 (gX12_tired S v1) fun r8 =>
    b1 (gX12_answered S v1 v2 v4 v5 v9 v10 s0 r8) fun r9 =>
    b1 (gX12_books S v1 v2 v3 v4 v5 r9) fun S11 =>
    some (r9, S11)
def gX12_draws_J80 (S : zM) (v1 : Int32) (v2 : Int32) (v3 : Int32) (v4 : Int32) (v5 : Int32) (v6 : Int32) (v7 : Int32) (v8 : Int32) (v9 : Int32) (s0 : Int32) : Option (Int32 × zM) :=
    if v8 ≤ (2 : Int32) then
      gX12_draws_J114 S v1 v2 v3 v4 v5 v9 s0 (0 : Int32)
    else
      b1 (gX12_levelAt S v6 v2 v3 v4 v5 (2 : Int32)) fun r12 =>
      b2 (gX12_drawnNoise S v6 v7) fun r13 S14 =>
      gX12_draws_J114 S14 v1 v2 v3 v4 v5 v9 s0 (r12 + r13)
def gX12_draws (S : zM) (a1 : Int32) (a2 : Int32) (a3 : Int32) (a4 : Int32) (a5 : Int32) : Option (Int32 × zM) :=
    ck (ixb ((120 : Int32) + a1) 463) <|
    lt (gI S 3 (ix ((120 : Int32) + a1))) fun x2 =>
    b1 (gX12_wholesNow S a1) fun r3 =>
    b1 (gX12_feelings a2) fun r4 =>
    b1 (gX12_levelAt S x2 a2 a3 a4 a5 (0 : Int32)) fun r5 =>
    b2 (gX12_drawnNoise S x2 r3) fun r6 S7 =>
    if r4 ≤ (1 : Int32) then
      gX12_draws_J80 S7 a1 a2 a3 a4 a5 x2 r3 r4 (r5 + r6) (0 : Int32)
    else
      b1 (gX12_levelAt S7 x2 a2 a3 a4 a5 (1 : Int32)) fun r15 =>
      b2 (gX12_drawnNoise S7 x2 r3) fun r16 S17 =>
      gX12_draws_J80 S17 a1 a2 a3 a4 a5 x2 r3 r4 (r5 + r6) (r15 + r16)
def gX12_trial (S : zM) (a1 : Int32) (a2 : Int32) (a3 : Int32) (a4 : Int32) (a5 : Int32) : Option (Int32 × zM) :=
    b1 (gX12_good S) fun S2 =>
    b1 (gX12_bars S2 a1 a2 a3 a4 a5) fun r3 =>
    if r3 = 0 then
      if (gI S2 0 21) = (1000 : Int32) then
        b2 (gX12_no S2 (3 : Int32)) fun r6 S7 =>
        some (r6, S7)
      else
        b2 (gX12_draws S2 a1 a2 a3 a4 a5) fun r4 S5 =>
        some (r4, S5)
    else
      b2 (gX12_no S2 r3) fun r8 S9 =>
      some (r8, S9)
def gX12_tell_J59 (S : zM) (v1 : Int32) (v2 : Int32) (v3 : Int32) (v4 : Int32) (v5 : Int32) (v6 : Int32) (s0 : Int32) : Option (Int32 × zM) :=
    b1 (gX12_within v6 (0 : Int32) s0) fun r4 =>
    if r4 = 0 then
      b2 (gX12_no S (2 : Int32)) fun r9 S10 =>
      some (r9, S10)
    else
      if (gI S 0 21) = (1000 : Int32) then
        b2 (gX12_no S (3 : Int32)) fun r7 S8 =>
        some (r7, S8)
      else
        b1 (gX12_books S v1 v2 v3 v4 v5 v6) fun S6 =>
        some ((gI S6 0 21), S6)
def gX12_tell (S : zM) (a1 : Int32) (a2 : Int32) (a3 : Int32) (a4 : Int32) (a5 : Int32) (a6 : Int32) : Option (Int32 × zM) :=
    b1 (gX12_good S) fun S2 =>
    b1 (gX12_bars S2 a1 a2 a3 a4 a5) fun r3 =>
    if r3 = 0 then
      if a2 = 0 then
        gX12_tell_J59 S2 a1 a2 a3 a4 a5 a6 (2 : Int32)
      else
        if a2 = (2 : Int32) then
          gX12_tell_J59 S2 a1 a2 a3 a4 a5 a6 (2 : Int32)
        else
          if a2 = (1 : Int32) then
            gX12_tell_J59 S2 a1 a2 a3 a4 a5 a6 (1 : Int32)
          else
            if a2 = (5 : Int32) then
              gX12_tell_J59 S2 a1 a2 a3 a4 a5 a6 (1 : Int32)
            else
              gX12_tell_J59 S2 a1 a2 a3 a4 a5 a6 (2147483647 : Int32)
    else
      b2 (gX12_no S2 r3) fun r11 S12 =>
      some (r11, S12)
def gX12_run_L130 (v1 : Int32) (v2 : Int32) (v3 : Int32) (v4 : Int32) (v5 : Int32) (v6 : Int32) : Nat → zM → Int32 → Option zM
  | 0, _, _ => none
  | n + 1, S, v7 =>
    if v5 ≤ v7 then
      some S
    else
      ck (decide (¬ v4 = 0)) <|
      ck (ixb ((202 : Int32) + v1) 463) <|
      ck (ixb ((210 : Int32) + v1) 463) <|
      if v6 = (1 : Int32) then
        ck (ixb v7 200) <|
        lt (pI S 14 (ix v7) ((gI S 3 (ix ((202 : Int32) + v1))) + ((gI S 3 (ix ((210 : Int32) + v1))) * ((v3 - (1 : Int32)) - (v7 / v4))))) fun S25 =>
        gX12_run_L130 v1 v2 v3 v4 v5 v6 n S25 (v7 + (1 : Int32))
      else
        ck (ixb v7 200) <|
        lt (pI S 14 (ix v7) ((gI S 3 (ix ((202 : Int32) + v1))) + ((gI S 3 (ix ((210 : Int32) + v1))) * (v7 / v4)))) fun S23 =>
        gX12_run_L130 v1 v2 v3 v4 v5 v6 n S23 (v7 + (1 : Int32))
def gX12_run_L239 (v2 : Int32) (v6 : Int32) (v7 : Int32) (v8 : Int32) (v10 : Int32) : Nat → zM → Int32 → Option zM
  | 0, _, _ => none
  | n + 1, S, v11 =>
    if (v8 - (1 : Int32)) ≤ v11 then
      some S
    else
      ck (ixb (v11 + (1 : Int32)) 200) <|
      ck (ixb v11 200) <|
      gX12_run_L239 v2 v6 v7 v8 v10 n (pI S 14 (ix v11) (gI S 14 (ix (v11 + (1 : Int32))))) (v11 + (1 : Int32))
def gX12_run_L203 (v2 : Int32) (v6 : Int32) : Nat → zM → Int32 → Int32 → Option (Int32 × zM)
  | 0, _, _, _ => none
  | n + 1, S, v7, v8 =>
    if v8 ≤ 0 then
      some (v7, S)
    else
      if v6 = (2 : Int32) then
        b2 (gX12_drawn S v8) fun r33 S34 =>
        ck (ixb r33 200) <|
        b1 (gX12_run_L239 v2 v6 v7 v8 (gI S34 14 (ix r33)) FU S34 r33) fun S38 =>
        b2 (gX12_draws S38 v2 (1 : Int32) (gI S34 14 (ix r33)) (0 : Int32) (0 : Int32)) fun r39 S40 =>
        gX12_run_L203 v2 v6 n S40 (v7 + r39) (v8 + (-1 : Int32))
      else
        ck (ixb (0 : Int32) 200) <|
        b1 (gX12_run_L239 v2 v6 v7 v8 (gI S 14 (ix (0 : Int32))) FU S (0 : Int32)) fun S30 =>
        b2 (gX12_draws S30 v2 (1 : Int32) (gI S 14 (ix (0 : Int32))) (0 : Int32) (0 : Int32)) fun r31 S32 =>
        gX12_run_L203 v2 v6 n S32 (v7 + r31) (v8 + (-1 : Int32))
def gX12_run (S : zM) (a1 : Int32) (a2 : Int32) : Option (Int32 × zM) :=
    b1 (gX12_good S) fun S2 =>
    if (gI S2 0 14) = 0 then
      b2 (gX12_no S2 (1 : Int32)) fun r3 S4 =>
      some (r3, S4)
    else
      ck (ixb (240 : Int32) 463) <|
      b1 (gX12_within a1 (0 : Int32) ((gI S2 3 (ix (240 : Int32))) - (1 : Int32))) fun r6 =>
      if r6 = 0 then
        b2 (gX12_no S2 (1 : Int32)) fun r7 S8 =>
        some (r7, S8)
      else
        b1 (gX12_isSayer S2 a2) fun r9 =>
        if r9 = 0 then
          b2 (gX12_no S2 (1 : Int32)) fun r43 S44 =>
          some (r43, S44)
        else
          ck (ixb ((206 : Int32) + a1) 463) <|
          ck (ixb ((202 : Int32) + a1) 463) <|
          ck (ixb ((210 : Int32) + a1) 463) <|
          ck (decide (¬ (gI S2 3 (ix ((210 : Int32) + a1))) = 0)) <|
          lt ((((gI S2 3 (ix ((206 : Int32) + a1))) - (gI S2 3 (ix ((202 : Int32) + a1)))) / (gI S2 3 (ix ((210 : Int32) + a1)))) + (1 : Int32)) fun x14 =>
          ck (ixb ((214 : Int32) + a1) 463) <|
          lt (gI S2 3 (ix ((214 : Int32) + a1))) fun x16 =>
          if ((gI S2 0 21) + (x14 * x16)) ≤ (1000 : Int32) then
            ck (ixb ((198 : Int32) + a1) 463) <|
            lt (gI S2 3 (ix ((198 : Int32) + a1))) fun x18 =>
            b1 (gX12_run_L130 a1 a2 x14 x16 (x14 * x16) x18 FU S2 (0 : Int32)) fun S26 =>
            gX12_run_L203 a2 x18 FU S26 (0 : Int32) (x14 * x16)
          else
            b2 (gX12_no S2 (3 : Int32)) fun r41 S42 =>
            some (r41, S42)
def gX12_held (a0 : Int32) : Option Int32 :=
    if (1 : Int32) ≤ a0 then
      if a0 ≤ (400 : Int32) then
        some a0
      else
        some (400 : Int32)
    else
      some (1 : Int32)
def gX12_climb_L82 (v1 : Int32) (v3 : Int32) (v4 : Int32) : Nat → zM → Int32 → Int32 → Option (Int32 × zM)
  | 0, _, _, _ => none
  | n + 1, S, v5, v6 =>
    if v4 ≤ v6 then
      some (v5, S)
    else
      b2 (gX12_draws S v1 (1 : Int32) v5 (0 : Int32) (0 : Int32)) fun r11 S12 =>
      if r11 = (1 : Int32) then
        b1 (gX12_held (v5 - v3)) fun r14 =>
        gX12_climb_L82 v1 v3 v4 n S12 r14 (v6 + (1 : Int32))
      else
        b1 (gX12_held (v5 + v3)) fun r13 =>
        gX12_climb_L82 v1 v3 v4 n S12 r13 (v6 + (1 : Int32))
def gX12_climb (S : zM) (a1 : Int32) (a2 : Int32) (a3 : Int32) (a4 : Int32) : Option (Int32 × zM) :=
    b1 (gX12_good S) fun S2 =>
    b1 (gX12_isSayer S2 a1) fun r3 =>
    if r3 = 0 then
      b2 (gX12_no S2 (1 : Int32)) fun r19 S20 =>
      some (r19, S20)
    else
      b1 (gX12_within a2 (1 : Int32) (400 : Int32)) fun r4 =>
      if r4 = 0 then
        b2 (gX12_no S2 (2 : Int32)) fun r5 S6 =>
        some (r5, S6)
      else
        b1 (gX12_within a3 (1 : Int32) (400 : Int32)) fun r7 =>
        if r7 = 0 then
          b2 (gX12_no S2 (2 : Int32)) fun r8 S9 =>
          some (r8, S9)
        else
          b1 (gX12_within a4 (1 : Int32) (50 : Int32)) fun r10 =>
          if r10 = 0 then
            b2 (gX12_no S2 (2 : Int32)) fun r17 S18 =>
            some (r17, S18)
          else
            if ((gI S2 0 21) + a4) ≤ (1000 : Int32) then
              gX12_climb_L82 a1 a3 a4 FU S2 a2 (0 : Int32)
            else
              b2 (gX12_no S2 (3 : Int32)) fun r15 S16 =>
              some (r15, S16)
def gX12_book (S : zM) (a1 : Int32) (a2 : Int32) : Option (Int32 × zM) :=
    b1 (gX12_within a1 (0 : Int32) ((gI (pI S 0 0 (0 : Int32)) 0 21) - (1 : Int32))) fun r1 =>
    if r1 = 0 then
      some ((-1 : Int32), (pI S 0 0 (0 : Int32)))
    else
      if a2 = (0 : Int32) then
        ck (ixb a1 1000) <|
        some ((gI (pI S 0 0 (0 : Int32)) 8 (ix a1)), (pI S 0 0 (0 : Int32)))
      else
      if a2 = (1 : Int32) then
        ck (ixb a1 1000) <|
        some ((gI (pI S 0 0 (0 : Int32)) 9 (ix a1)), (pI S 0 0 (0 : Int32)))
      else
      if a2 = (2 : Int32) then
        ck (ixb a1 1000) <|
        some ((gI (pI S 0 0 (0 : Int32)) 10 (ix a1)), (pI S 0 0 (0 : Int32)))
      else
      if a2 = (3 : Int32) then
        ck (ixb a1 1000) <|
        some ((gI (pI S 0 0 (0 : Int32)) 11 (ix a1)), (pI S 0 0 (0 : Int32)))
      else
      if a2 = (4 : Int32) then
        ck (ixb a1 1000) <|
        some ((gI (pI S 0 0 (0 : Int32)) 12 (ix a1)), (pI S 0 0 (0 : Int32)))
      else
      if a2 = (5 : Int32) then
        ck (ixb a1 1000) <|
        some ((gI (pI S 0 0 (0 : Int32)) 13 (ix a1)), (pI S 0 0 (0 : Int32)))
      else
        some ((-1 : Int32), (pI S 0 0 (0 : Int32)))
def gX12_isOf_J69 (S : zM) (v1 : Int32) (v3 : Int32) (v6 : Int32) (s0 : Int32) : Option Int32 :=
    if s0 = 0 then
      some (0 : Int32)
    else
      if v3 = (2 : Int32) then
        ck (ixb v1 1000) <|
        if (gI S 12 (ix v1)) = v6 then
          some (1 : Int32)
        else
          some (0 : Int32)
      else
        if v3 = (5 : Int32) then
          ck (ixb v1 1000) <|
          if (gI S 12 (ix v1)) = v6 then
            some (1 : Int32)
          else
            some (0 : Int32)
        else
          some (1 : Int32)
def gX12_isOf_J36 (S : zM) (v1 : Int32) (v3 : Int32) (v5 : Int32) (v6 : Int32) (s0 : Int32) : Option Int32 :=
    if s0 = 0 then
      gX12_isOf_J69 S v1 v3 v6 (0 : Int32)
    else
      if v3 = (1 : Int32) then
        gX12_isOf_J69 S v1 v3 v6 (1 : Int32)
      else
        if v3 = (3 : Int32) then
          gX12_isOf_J69 S v1 v3 v6 (1 : Int32)
        else
          ck (ixb v1 1000) <|
          if (gI S 11 (ix v1)) = v5 then
            gX12_isOf_J69 S v1 v3 v6 (1 : Int32)
          else
            gX12_isOf_J69 S v1 v3 v6 (0 : Int32)
def gX12_isOf (S : zM) (a1 : Int32) (a2 : Int32) (a3 : Int32) (a4 : Int32) (a5 : Int32) (a6 : Int32) : Option Int32 :=
    ck (ixb a1 1000) <|
    if (gI S 8 (ix a1)) = a2 then
      ck (ixb a1 1000) <|
      if (gI S 9 (ix a1)) = a3 then
        ck (ixb a1 1000) <|
        if (gI S 10 (ix a1)) = a4 then
          gX12_isOf_J36 S a1 a3 a5 a6 (1 : Int32)
        else
          gX12_isOf_J36 S a1 a3 a5 a6 (0 : Int32)
      else
        gX12_isOf_J36 S a1 a3 a5 a6 (0 : Int32)
    else
      gX12_isOf_J36 S a1 a3 a5 a6 (0 : Int32)
def gX12_count_L35 (S : zM) (v1 : Int32) (v2 : Int32) (v3 : Int32) (v4 : Int32) (v5 : Int32) (v6 : Int32) : Nat → Int32 → Int32 → Option (Int32 × zM)
  | 0, _, _ => none
  | n + 1, v8, v9 =>
    if (gI S 0 21) ≤ v9 then
      some (v8, S)
    else
      b1 (gX12_isOf S v9 v1 v2 v3 v4 v5) fun r4 =>
      if r4 = 0 then
        gX12_count_L35 S v1 v2 v3 v4 v5 v6 n (v8 + (0 : Int32)) (v9 + (1 : Int32))
      else
        if v6 = (-1 : Int32) then
          gX12_count_L35 S v1 v2 v3 v4 v5 v6 n (v8 + (1 : Int32)) (v9 + (1 : Int32))
        else
          ck (ixb v9 1000) <|
          if (gI S 13 (ix v9)) = v6 then
            gX12_count_L35 S v1 v2 v3 v4 v5 v6 n (v8 + (1 : Int32)) (v9 + (1 : Int32))
          else
            gX12_count_L35 S v1 v2 v3 v4 v5 v6 n (v8 + (0 : Int32)) (v9 + (1 : Int32))
def gX12_count (S : zM) (a1 : Int32) (a2 : Int32) (a3 : Int32) (a4 : Int32) (a5 : Int32) (a6 : Int32) : Option (Int32 × zM) :=
    b1 (gX12_good S) fun S2 =>
    b1 (gX12_bars S2 a1 a2 a3 a4 a5) fun r3 =>
    if r3 = 0 then
      gX12_count_L35 S2 a1 a2 a3 a4 a5 a6 FU (0 : Int32) (0 : Int32)
    else
      b2 (gX12_no S2 r3) fun r6 S7 =>
      some (r6, S7)
def gX12_become_L2 (v0 : Nat) (v1 : Int32) : Nat → zM → Int32 → Option zM
  | 0, _, _ => none
  | n + 1, S, v2 =>
    if (24 : Int32) ≤ v2 then
      ck (ixb (0 : Int32) 24) <|
      some (pI S v0 (ix (0 : Int32)) v1)
    else
      ck (ixb v2 24) <|
      gX12_become_L2 v0 v1 n (pI S v0 (ix v2) (0 : Int32)) (v2 + (1 : Int32))
def gX12_become (S : zM) (a0 : Nat) (a1 : Int32) : Option zM :=
    gX12_become_L2 a0 a1 FU S (0 : Int32)
def gX12_times_L5 (v0 : Nat) (v1 : Int64) : Nat → zM → Int64 → Int32 → Option zM
  | 0, _, _, _ => none
  | n + 1, S, v3, v5 =>
    if (24 : Int32) ≤ v5 then
      some S
    else
      ck (ixb v5 24) <|
      lt (v3 + ((gI S v0 (ix v5)).toInt64 * v1)) fun x2 =>
      ck (ixb v5 24) <|
      lt (x2 >>> ((28 : Int32).toInt64 &&& 63)) fun x4 =>
      gX12_times_L5 v0 v1 n (pI S v0 (ix v5) ((x2 &&& (268435455 : Int64)).toInt32)) x4 (v5 + (1 : Int32))
def gX12_times (S : zM) (a0 : Nat) (a1 : Int64) : Option zM :=
    gX12_times_L5 a0 a1 FU S (0 : Int64) (0 : Int32)
def gX12_over_L6 (v0 : Nat) (v1 : Int32) : Nat → zM → Int64 → Int32 → Option zM
  | 0, _, _, _ => none
  | n + 1, S, v2, v4 =>
    if v4 < 0 then
      some S
    else
      ck (ixb v4 24) <|
      lt ((v2 <<< ((28 : Int32).toInt64 &&& 63)) + (gI S v0 (ix v4)).toInt64) fun x2 =>
      ck (decide (¬ v1.toInt64 = 0)) <|
      ck (ixb v4 24) <|
      ck (decide (¬ v1.toInt64 = 0)) <|
      lt (x2 - x2 / v1.toInt64 * v1.toInt64) fun x6 =>
      gX12_over_L6 v0 v1 n (pI S v0 (ix v4) ((x2 / v1.toInt64).toInt32)) x6 (v4 + (-1 : Int32))
def gX12_over (S : zM) (a0 : Nat) (a1 : Int32) : Option zM :=
    gX12_over_L6 a0 a1 FU S (0 : Int64) (23 : Int32)
def gX12_add_L6 (v0 : Nat) (v1 : Nat) (v2 : Int64) : Nat → zM → Int64 → Int32 → Option zM
  | 0, _, _, _ => none
  | n + 1, S, v4, v6 =>
    if (24 : Int32) ≤ v6 then
      some S
    else
      ck (ixb v6 24) <|
      ck (ixb v6 24) <|
      lt (v4 + ((gI S v0 (ix v6)).toInt64 + ((gI S v1 (ix v6)).toInt64 * v2))) fun x3 =>
      ck (ixb v6 24) <|
      lt (x3 >>> ((28 : Int32).toInt64 &&& 63)) fun x5 =>
      gX12_add_L6 v0 v1 v2 n (pI S v0 (ix v6) ((x3 &&& (268435455 : Int64)).toInt32)) x5 (v6 + (1 : Int32))
def gX12_add (S : zM) (a0 : Nat) (a1 : Nat) (a2 : Int64) : Option zM :=
    gX12_add_L6 a0 a1 a2 FU S (0 : Int64) (0 : Int32)
def gX12_compare_L3 (S : zM) (v0 : Nat) (v1 : Nat) : Nat → Int32 → Option Int32
  | 0, _ => none
  | n + 1, v2 =>
    if v2 < 0 then
      some (0 : Int32)
    else
      ck (ixb v2 24) <|
      ck (ixb v2 24) <|
      if (gI S v0 (ix v2)) = (gI S v1 (ix v2)) then
        gX12_compare_L3 S v0 v1 n (v2 + (-1 : Int32))
      else
        ck (ixb v2 24) <|
        ck (ixb v2 24) <|
        if (gI S v1 (ix v2)) ≤ (gI S v0 (ix v2)) then
          some (1 : Int32)
        else
          some (-1 : Int32)
def gX12_compare (S : zM) (a0 : Nat) (a1 : Nat) : Option Int32 :=
    gX12_compare_L3 S a0 a1 FU (23 : Int32)
def gX12_copy_L2 (v0 : Nat) (v1 : Nat) : Nat → zM → Int32 → Option zM
  | 0, _, _ => none
  | n + 1, S, v2 =>
    if (24 : Int32) ≤ v2 then
      some S
    else
      ck (ixb v2 24) <|
      ck (ixb v2 24) <|
      gX12_copy_L2 v0 v1 n (pI S v1 (ix v2) (gI S v0 (ix v2))) (v2 + (1 : Int32))
def gX12_copy (S : zM) (a0 : Nat) (a1 : Nat) : Option zM :=
    gX12_copy_L2 a0 a1 FU S (0 : Int32)
def gX12_ways_L5 (v0 : Int32) (v1 : Int32) : Nat → Int64 → Int32 → Option Int64
  | 0, _, _ => none
  | n + 1, v2, v4 =>
    if v1 < v4 then
      some v2
    else
      ck (decide (¬ v4.toInt64 = 0)) <|
      lt ((v2 * ((v0 - v1) + v4).toInt64) / v4.toInt64) fun x2 =>
      gX12_ways_L5 v0 v1 n x2 (v4 + (1 : Int32))
def gX12_ways (a0 : Int32) (a1 : Int32) : Option Int64 :=
    gX12_ways_L5 a0 a1 FU (1 : Int64) (1 : Int32)
def gX12_grows (S : zM) (a1 : Int32) (a2 : Int32) : Option zM :=
    b1 (gX12_ways a1 a2) fun r1 =>
    b1 (gX12_add S 16 15 (r1 &&& (524287 : Int64))) fun S3 =>
    b1 (gX12_copy S3 15 19) fun S5 =>
    b1 (gX12_times S5 19 (524288 : Int64)) fun S7 =>
    b1 (gX12_add S7 16 19 (r1 >>> ((19 : Int32).toInt64 &&& 63))) fun S9 =>
    some S9
def gX12_isFortieth (S : zM) (a1 : Nat) : Option (Int32 × zM) :=
    b1 (gX12_copy S a1 19) fun S2 =>
    b1 (gX12_times S2 19 (40 : Int64)) fun S4 =>
    b1 (gX12_compare S4 19 17) fun r5 =>
    if r5 < 0 then
      some ((0 : Int32), S4)
    else
      some ((1 : Int32), S4)
def gX12_isIn_L49 (v1 : Int32) (v2 : Int32) (v3 : Int32) (v4 : Int32) (v5 : Int32) : Nat → zM → Int32 → Option zM
  | 0, _, _ => none
  | n + 1, S, v6 =>
    if v1 ≤ v6 then
      some S
    else
      b1 (gX12_times S 17 v3.toInt64) fun S8 =>
      b1 (gX12_times S8 15 v5.toInt64) fun S10 =>
      gX12_isIn_L49 v1 v2 v3 v4 v5 n S10 (v6 + (1 : Int32))
def gX12_isIn_J135 (S : zM) (v1 : Int32) (v2 : Int32) (v4 : Int32) (v5 : Int32) (v6 : Int32) (v7 : Int32) : Option ((Int32 × zM) ⊕ (Int32 × Int32 × zM)) :=
    b1 (gX12_grows S v1 v7) fun S27 =>
    if v4 ≤ v7 then
      some (.inr (v6, (v7 + (1 : Int32)), S27))
    else
      b1 (gX12_times S27 15 v2.toInt64) fun S29 =>
      b1 (gX12_over S29 15 v5) fun S31 =>
      some (.inr (v6, (v7 + (1 : Int32)), S31))
def gX12_isIn_L86 (v1 : Int32) (v2 : Int32) (v4 : Int32) (v5 : Int32) : Nat → zM → Int32 → Int32 → Option (Int32 × zM)
  | 0, _, _, _ => none
  | n + 1, S, v6, v7 =>
    if v4 < v7 then
      if v6 = 0 then
        some ((0 : Int32), S)
      else
        b2 (gX12_isFortieth S 16) fun r12 S13 =>
        if r12 = 0 then
          some ((0 : Int32), S13)
        else
          some ((1 : Int32), S13)
    else
      if v7 = v4 then
        b1 (gX12_copy S 17 18) fun S21 =>
        b1 (gX12_add S21 18 16 (-1 : Int64)) fun S23 =>
        b2 (gX12_isFortieth S23 18) fun r24 S25 =>
        lm (gX12_isIn_J135 S25 v1 v2 v4 v5 r24 v7) (un3 fun v6 v7 S => gX12_isIn_L86 v1 v2 v4 v5 n S v6 v7)
      else
        b1 (gX12_grows S v1 v7) fun S15 =>
        if v4 ≤ v7 then
          gX12_isIn_L86 v1 v2 v4 v5 n S15 v6 (v7 + (1 : Int32))
        else
          b1 (gX12_times S15 15 v2.toInt64) fun S17 =>
          b1 (gX12_over S17 15 v5) fun S19 =>
          gX12_isIn_L86 v1 v2 v4 v5 n S19 v6 (v7 + (1 : Int32))
def gX12_isIn (S : zM) (a1 : Int32) (a2 : Int32) (a3 : Int32) (a4 : Int32) : Option (Int32 × zM) :=
    if (a3 - a2) = 0 then
      if a4 = a1 then
        some ((1 : Int32), S)
      else
        some ((0 : Int32), S)
    else
      b1 (gX12_become S 17 (1 : Int32)) fun S2 =>
      b1 (gX12_become S2 15 (1 : Int32)) fun S4 =>
      b1 (gX12_become S4 16 (0 : Int32)) fun S6 =>
      b1 (gX12_isIn_L49 a1 a2 a3 a4 (a3 - a2) FU S6 (0 : Int32)) fun S11 =>
      gX12_isIn_L86 a1 a2 a4 (a3 - a2) FU S11 (0 : Int32) (0 : Int32)
def gX12_spanOf_L6 (v1 : Int32) (v2 : Int32) (v3 : Int32) (v4 : Int32) : Nat → zM → Int32 → Int32 → Option (Int32 × zM)
  | 0, _, _, _ => none
  | n + 1, S, v5, v6 =>
    if v1 < v6 then
      some (v5, S)
    else
      if v4 = 0 then
        if 0 ≤ v5 then
          gX12_spanOf_L6 v1 v2 v3 v4 n S v5 (v6 + (1 : Int32))
        else
          b2 (gX12_isIn S v1 v2 v3 v6) fun r3 S4 =>
          if r3 = 0 then
            gX12_spanOf_L6 v1 v2 v3 v4 n S4 v5 (v6 + (1 : Int32))
          else
            gX12_spanOf_L6 v1 v2 v3 v4 n S4 v6 (v6 + (1 : Int32))
      else
        b2 (gX12_isIn S v1 v2 v3 v6) fun r1 S2 =>
        if r1 = 0 then
          gX12_spanOf_L6 v1 v2 v3 v4 n S2 v5 (v6 + (1 : Int32))
        else
          gX12_spanOf_L6 v1 v2 v3 v4 n S2 v6 (v6 + (1 : Int32))
def gX12_spanOf (S : zM) (a1 : Int32) (a2 : Int32) (a3 : Int32) (a4 : Int32) : Option (Int32 × zM) :=
    gX12_spanOf_L6 a1 a2 a3 a4 FU S (-1 : Int32) (0 : Int32)
def gX12_span (S : zM) (a1 : Int32) (a2 : Int32) (a3 : Int32) (a4 : Int32) : Option (Int32 × zM) :=
    b1 (gX12_good S) fun S2 =>
    b1 (gX12_within a1 (1 : Int32) (40 : Int32)) fun r3 =>
    if r3 = 0 then
      b2 (gX12_no S2 (2 : Int32)) fun r4 S5 =>
      some (r4, S5)
    else
      b1 (gX12_within a3 (1 : Int32) (10000 : Int32)) fun r6 =>
      if r6 = 0 then
        b2 (gX12_no S2 (2 : Int32)) fun r7 S8 =>
        some (r7, S8)
      else
        b1 (gX12_within a2 (0 : Int32) a3) fun r9 =>
        if r9 = 0 then
          b2 (gX12_no S2 (2 : Int32)) fun r14 S15 =>
          some (r14, S15)
        else
          b2 (gX12_spanOf S2 a1 a2 a3 a4) fun r10 S11 =>
          if 0 ≤ r10 then
            some (r10, S11)
          else
            b2 (gX12_no S11 (6 : Int32)) fun r12 S13 =>
            some (r12, S13)
def gX12_lays_L43 (S : zM) (v1 : Int32) (v2 : Int32) (v3 : Int32) : Nat → Int32 → Option Int32
  | 0, _ => none
  | n + 1, v4 =>
    if (gI S 0 34) ≤ v4 then
      some v4
    else
      ck (ixb v4 1000) <|
      ck (ixb v3 1000) <|
      if (gI S 20 (ix v4)) = (gI S 9 (ix v3)) then
        ck (ixb v4 1000) <|
        ck (ixb v3 1000) <|
        if (gI S 21 (ix v4)) = (gI S 10 (ix v3)) then
          ck (ixb v4 1000) <|
          ck (ixb v3 1000) <|
          if (gI S 22 (ix v4)) = (gI S 11 (ix v3)) then
            some v4
          else
            gX12_lays_L43 S v1 v2 v3 n (v4 + (1 : Int32))
        else
          gX12_lays_L43 S v1 v2 v3 n (v4 + (1 : Int32))
      else
        gX12_lays_L43 S v1 v2 v3 n (v4 + (1 : Int32))
def gX12_lays_L165 (v1 : Int32) (v2 : Int32) (v3 : Int32) (v4 : Int32) : Nat → zM → Int32 → Option zM
  | 0, _, _ => none
  | n + 1, S, v5 =>
    if (3 : Int32) ≤ v5 then
      some S
    else
      ck (ixb (((3 : Int32) * v4) + v5) 3000) <|
      gX12_lays_L165 v1 v2 v3 v4 n (pI S 24 (ix (((3 : Int32) * v4) + v5)) (0 : Int32)) (v5 + (1 : Int32))
def gX12_lays_J200 (S : zM) (v1 : Int32) (v2 : Int32) (v3 : Int32) (v4 : Int32) : Option ((Int32 × zM) ⊕ (Int32 × Int32 × zM)) :=
    ck (ixb v4 1000) <|
    ck (ixb v4 1000) <|
    ck (ixb v3 1000) <|
    ck (ixb (((3 : Int32) * v4) + (gI (pI S 23 (ix v4) ((gI S 23 (ix v4)) + (1 : Int32))) 13 (ix v3))) 3000) <|
    ck (ixb (((3 : Int32) * v4) + (gI (pI S 23 (ix v4) ((gI S 23 (ix v4)) + (1 : Int32))) 13 (ix v3))) 3000) <|
    lt (pI (pI S 23 (ix v4) ((gI S 23 (ix v4)) + (1 : Int32))) 24 (ix (((3 : Int32) * v4) + (gI (pI S 23 (ix v4) ((gI S 23 (ix v4)) + (1 : Int32))) 13 (ix v3)))) ((gI (pI S 23 (ix v4) ((gI S 23 (ix v4)) + (1 : Int32))) 24 (ix (((3 : Int32) * v4) + (gI (pI S 23 (ix v4) ((gI S 23 (ix v4)) + (1 : Int32))) 13 (ix v3))))) + (1 : Int32))) fun S33 =>
    if v2 = 0 then
      some (.inr ((0 : Int32), (v3 + (1 : Int32)), S33))
    else
      ck (ixb v4 1000) <|
      if (40 : Int32) < (gI S33 23 (ix v4)) then
        some (.inr ((0 : Int32), (v3 + (1 : Int32)), S33))
      else
        some (.inr ((1 : Int32), (v3 + (1 : Int32)), S33))
def gX12_lays_L9 (v1 : Int32) : Nat → zM → Int32 → Int32 → Option (Int32 × zM)
  | 0, _, _, _ => none
  | n + 1, S, v2, v3 =>
    if (gI S 0 21) ≤ v3 then
      ck (isB v2) <|
      some (v2, S)
    else
      ck (ixb v3 1000) <|
      if (gI S 8 (ix v3)) = v1 then
        ck (ixb v3 1000) <|
        if (gI S 9 (ix v3)) ≤ (1 : Int32) then
          b1 (gX12_lays_L43 S v1 v2 v3 FU (0 : Int32)) fun w10 =>
          if w10 = (gI S 0 34) then
            ck (ixb v3 1000) <|
            ck (ixb w10 1000) <|
            ck (ixb v3 1000) <|
            ck (ixb w10 1000) <|
            lt (pI (pI S 20 (ix w10) (gI S 9 (ix v3))) 21 (ix w10) (gI (pI S 20 (ix w10) (gI S 9 (ix v3))) 10 (ix v3))) fun S22 =>
            ck (ixb v3 1000) <|
            ck (ixb w10 1000) <|
            ck (ixb w10 1000) <|
            b1 (gX12_lays_L165 v1 v2 v3 w10 FU (pI (pI S22 22 (ix w10) (gI S22 11 (ix v3))) 23 (ix w10) (0 : Int32)) (0 : Int32)) fun S27 =>
            lm (gX12_lays_J200 (pI S27 0 34 ((gI S27 0 34) + (1 : Int32))) v1 v2 v3 w10) (un3 fun v2 v3 S => gX12_lays_L9 v1 n S v2 v3)
          else
            ck (ixb w10 1000) <|
            ck (ixb w10 1000) <|
            ck (ixb v3 1000) <|
            ck (ixb (((3 : Int32) * w10) + (gI (pI S 23 (ix w10) ((gI S 23 (ix w10)) + (1 : Int32))) 13 (ix v3))) 3000) <|
            ck (ixb (((3 : Int32) * w10) + (gI (pI S 23 (ix w10) ((gI S 23 (ix w10)) + (1 : Int32))) 13 (ix v3))) 3000) <|
            lt (pI (pI S 23 (ix w10) ((gI S 23 (ix w10)) + (1 : Int32))) 24 (ix (((3 : Int32) * w10) + (gI (pI S 23 (ix w10) ((gI S 23 (ix w10)) + (1 : Int32))) 13 (ix v3)))) ((gI (pI S 23 (ix w10) ((gI S 23 (ix w10)) + (1 : Int32))) 24 (ix (((3 : Int32) * w10) + (gI (pI S 23 (ix w10) ((gI S 23 (ix w10)) + (1 : Int32))) 13 (ix v3))))) + (1 : Int32))) fun S16 =>
            if v2 = 0 then
              gX12_lays_L9 v1 n S16 (0 : Int32) (v3 + (1 : Int32))
            else
              ck (ixb w10 1000) <|
              if (40 : Int32) < (gI S16 23 (ix w10)) then
                gX12_lays_L9 v1 n S16 (0 : Int32) (v3 + (1 : Int32))
              else
                gX12_lays_L9 v1 n S16 (1 : Int32) (v3 + (1 : Int32))
        else
          gX12_lays_L9 v1 n S v2 (v3 + (1 : Int32))
      else
        gX12_lays_L9 v1 n S v2 (v3 + (1 : Int32))
def gX12_lays (S : zM) (a1 : Int32) : Option (Int32 × zM) :=
    gX12_lays_L9 a1 FU (pI S 0 34 (0 : Int32)) (1 : Int32) (0 : Int32)
def gX12_letsLine_L52 (S : zM) (v1 : Int32) (v2 : Int32) (v3 : Int32) (v5 : Int32) : Nat → Int32 → Int32 → Option Int32
  | 0, _, _ => none
  | n + 1, v6, v7 =>
    if (5 : Int32) < v7 then
      some v6
    else
      ck (ixb v5 1000) <|
      b1 (gX12_levelOf S v1 (gI S 21 (ix v5))) fun r7 =>
      if (r7 + v7) ≤ v2 then
        gX12_letsLine_L52 S v1 v2 v3 v5 n (v6 + (0 : Int32)) (v7 + (1 : Int32))
      else
        b1 (gX12_fullOf S v1) fun r8 =>
        b1 (gX12_often S v1 v7 r8) fun r9 =>
        gX12_letsLine_L52 S v1 v2 v3 v5 n (v6 + r9) (v7 + (1 : Int32))
def gX12_letsLine_L17 (v1 : Int32) (v2 : Int32) (v3 : Int32) : Nat → zM → Int32 → Int32 → Option (Int32 × zM)
  | 0, _, _, _ => none
  | n + 1, S, v4, v5 =>
    if (gI S 0 34) ≤ v5 then
      ck (isB v4) <|
      some (v4, S)
    else
      if v4 = 0 then
        ck (isB v4) <|
        some (v4, S)
      else
        ck (ixb v5 1000) <|
        if (gI S 20 (ix v5)) = (1 : Int32) then
          b1 (gX12_letsLine_L52 S v1 v2 v3 v5 FU (0 : Int32) (-5 : Int32)) fun w10 =>
          ck (ixb v5 1000) <|
          ck (ixb (((3 : Int32) * v5) + (1 : Int32)) 3000) <|
          b2 (gX12_isIn S (gI S 23 (ix v5)) w10 v3 (gI S 24 (ix (((3 : Int32) * v5) + (1 : Int32))))) fun r13 S14 =>
          if r13 = 0 then
            gX12_letsLine_L17 v1 v2 v3 n S14 (0 : Int32) (v5 + (1 : Int32))
          else
            ck (ixb v5 1000) <|
            ck (ixb ((3 : Int32) * v5) 3000) <|
            b2 (gX12_isIn S14 (gI S14 23 (ix v5)) (v3 - w10) v3 (gI S14 24 (ix ((3 : Int32) * v5)))) fun r17 S18 =>
            if r17 = 0 then
              gX12_letsLine_L17 v1 v2 v3 n S18 (0 : Int32) (v5 + (1 : Int32))
            else
              gX12_letsLine_L17 v1 v2 v3 n S18 (1 : Int32) (v5 + (1 : Int32))
        else
          gX12_letsLine_L17 v1 v2 v3 n S v4 (v5 + (1 : Int32))
def gX12_letsLine (S : zM) (a1 : Int32) (a2 : Int32) : Option (Int32 × zM) :=
    b1 (gX12_fullOf S a1) fun r1 =>
    b1 (gX12_all S a1 r1) fun r2 =>
    gX12_letsLine_L17 a1 a2 r2 FU S (1 : Int32) (0 : Int32)
def gX12_pairs_L3 (v1 : Int32) (v2 : Int32) (v3 : Int32) (v4 : Int32) : Nat → zM → Int32 → Option zM
  | 0, _, _ => none
  | n + 1, S, v5 =>
    if (3 : Int32) ≤ v5 then
      some S
    else
      ck (ixb v5 3) <|
      gX12_pairs_L3 v1 v2 v3 v4 n (pI S 25 (ix v5) (0 : Int32)) (v5 + (1 : Int32))
def gX12_pairs_L37 (v1 : Int32) (v2 : Int32) (v3 : Int32) (v4 : Int32) (v5 : Int32) : Nat → zM → Int32 → Option zM
  | 0, _, _ => none
  | n + 1, S, v6 =>
    if (5 : Int32) < v6 then
      some S
    else
      b1 (gX12_levelOf S v1 v3) fun r3 =>
      b1 (gX12_levelOf S v1 v2) fun r4 =>
      lt ((((r3 + v6) + v4) - r4) - v5) fun x5 =>
      b1 (gX12_ordered x5) fun r6 =>
      ck (ixb r6 3) <|
      b1 (gX12_fullOf S v1) fun r8 =>
      b1 (gX12_often S v1 v5 r8) fun r9 =>
      b1 (gX12_fullOf S v1) fun r10 =>
      b1 (gX12_often S v1 v6 r10) fun r11 =>
      ck (ixb r6 3) <|
      gX12_pairs_L37 v1 v2 v3 v4 v5 n (pI S 25 (ix r6) ((gI S 25 (ix r6)) + (r9 * r11))) (v6 + (1 : Int32))
def gX12_pairs_L27 (v1 : Int32) (v2 : Int32) (v3 : Int32) (v4 : Int32) : Nat → zM → Int32 → Option zM
  | 0, _, _ => none
  | n + 1, S, v5 =>
    if (5 : Int32) < v5 then
      some S
    else
      b1 (gX12_pairs_L37 v1 v2 v3 v4 v5 FU S (-5 : Int32)) fun S13 =>
      gX12_pairs_L27 v1 v2 v3 v4 n S13 (v5 + (1 : Int32))
def gX12_pairs (S : zM) (a1 : Int32) (a2 : Int32) (a3 : Int32) (a4 : Int32) : Option zM :=
    b1 (gX12_pairs_L3 a1 a2 a3 a4 FU S (0 : Int32)) fun S2 =>
    gX12_pairs_L27 a1 a2 a3 a4 FU S2 (-5 : Int32)
def gX12_letsSecond_J198 (S : zM) (v1 : Int32) (v2 : Int32) (v3 : Int32) (v4 : Int32) (v6 : Int32) (v7 : Int32) (v10 : Int32) (s0 : Int32) : Option ((Int32 × zM) ⊕ (Int32 × Int32 × zM)) :=
    if s0 = 0 then
      some (.inr ((0 : Int32), (v6 + (1 : Int32)), S))
    else
      if v7 = 0 then
        ck (ixb v6 1000) <|
        ck (ixb (((3 : Int32) * v6) + (2 : Int32)) 3000) <|
        b2 (gX12_isIn S (gI S 23 (ix v6)) v10 (v4 * v4) (gI S 24 (ix (((3 : Int32) * v6) + (2 : Int32))))) fun r20 S21 =>
        if r20 = 0 then
          some (.inr ((0 : Int32), (v6 + (1 : Int32)), S21))
        else
          some (.inr ((1 : Int32), (v6 + (1 : Int32)), S21))
      else
        some (.inr ((1 : Int32), (v6 + (1 : Int32)), S))
def gX12_letsSecond_J121 (S : zM) (v1 : Int32) (v2 : Int32) (v3 : Int32) (v4 : Int32) (v6 : Int32) (v7 : Int32) (v8 : Int32) (s0 : Int32) : Option ((Int32 × zM) ⊕ (Int32 × Int32 × zM)) :=
    ck (ixb (2 : Int32) 3) <|
    ck (ixb v6 1000) <|
    ck (ixb ((3 : Int32) * v6) 3000) <|
    b2 (gX12_isIn S (gI S 23 (ix v6)) v8 (v4 * v4) (gI S 24 (ix ((3 : Int32) * v6)))) fun r16 S17 =>
    if r16 = 0 then
      gX12_letsSecond_J198 S17 v1 v2 v3 v4 v6 v7 (gI S 25 (ix (2 : Int32))) (0 : Int32)
    else
      ck (ixb v6 1000) <|
      ck (ixb (((3 : Int32) * v6) + (1 : Int32)) 3000) <|
      b2 (gX12_isIn S17 (gI S17 23 (ix v6)) s0 (v4 * v4) (gI S17 24 (ix (((3 : Int32) * v6) + (1 : Int32))))) fun r24 S25 =>
      if r24 = 0 then
        gX12_letsSecond_J198 S25 v1 v2 v3 v4 v6 v7 (gI S 25 (ix (2 : Int32))) (0 : Int32)
      else
        gX12_letsSecond_J198 S25 v1 v2 v3 v4 v6 v7 (gI S 25 (ix (2 : Int32))) (1 : Int32)
def gX12_letsSecond_J84 (S : zM) (v1 : Int32) (v2 : Int32) (v3 : Int32) (v4 : Int32) (v6 : Int32) (s0 : Int32) : Option ((Int32 × zM) ⊕ (Int32 × Int32 × zM)) :=
    ck (ixb (0 : Int32) 3) <|
    if s0 = 0 then
      ck (ixb (1 : Int32) 3) <|
      gX12_letsSecond_J121 S v1 v2 v3 v4 v6 s0 (gI S 25 (ix (0 : Int32))) (gI S 25 (ix (1 : Int32)))
    else
      ck (ixb (1 : Int32) 3) <|
      ck (ixb (2 : Int32) 3) <|
      gX12_letsSecond_J121 S v1 v2 v3 v4 v6 s0 (gI S 25 (ix (0 : Int32))) ((gI S 25 (ix (1 : Int32))) + (gI S 25 (ix (2 : Int32))))
def gX12_letsSecond_L18 (v1 : Int32) (v2 : Int32) (v3 : Int32) (v4 : Int32) : Nat → zM → Int32 → Int32 → Option (Int32 × zM)
  | 0, _, _, _ => none
  | n + 1, S, v5, v6 =>
    if (gI S 0 34) ≤ v6 then
      ck (isB v5) <|
      some (v5, S)
    else
      if v5 = 0 then
        ck (isB v5) <|
        some (v5, S)
      else
        ck (ixb v6 1000) <|
        if (gI S 20 (ix v6)) = 0 then
          ck (ixb v6 1000) <|
          ck (ixb v6 1000) <|
          b1 (gX12_pairs S v2 (gI S 21 (ix v6)) (gI S 22 (ix v6)) v3) fun S9 =>
          ck (ixb ((150 : Int32) + v1) 463) <|
          if (gI S9 3 (ix ((150 : Int32) + v1))) = (1 : Int32) then
            lm (gX12_letsSecond_J84 S9 v1 v2 v3 v4 v6 (1 : Int32)) (un3 fun v5 v6 S => gX12_letsSecond_L18 v1 v2 v3 v4 n S v5 v6)
          else
            lm (gX12_letsSecond_J84 S9 v1 v2 v3 v4 v6 (0 : Int32)) (un3 fun v5 v6 S => gX12_letsSecond_L18 v1 v2 v3 v4 n S v5 v6)
        else
          gX12_letsSecond_L18 v1 v2 v3 v4 n S v5 (v6 + (1 : Int32))
def gX12_letsSecond (S : zM) (a1 : Int32) (a2 : Int32) (a3 : Int32) : Option (Int32 × zM) :=
    b1 (gX12_fullOf S a2) fun r1 =>
    b1 (gX12_all S a2 r1) fun r2 =>
    gX12_letsSecond_L18 a1 a2 a3 r2 FU S (1 : Int32) (0 : Int32)
def gX12_lets (S : zM) (a1 : Int32) (a2 : Int32) (a3 : Int32) (a4 : Int32) : Option (Int32 × zM) :=
    b1 (gX12_good S) fun S2 =>
    b1 (gX12_isSayer S2 a1) fun r3 =>
    if r3 = 0 then
      b2 (gX12_no S2 (1 : Int32)) fun r4 S5 =>
      some (r4, S5)
    else
      b1 (gX12_isSense S2 a2) fun r6 =>
      if r6 = 0 then
        b2 (gX12_no S2 (1 : Int32)) fun r21 S22 =>
        some (r21, S22)
      else
        b1 (gX12_within a3 (-50 : Int32) (50 : Int32)) fun r7 =>
        if r7 = 0 then
          b2 (gX12_no S2 (2 : Int32)) fun r8 S9 =>
          some (r8, S9)
        else
          b1 (gX12_within a4 (-50 : Int32) (50 : Int32)) fun r10 =>
          if r10 = 0 then
            b2 (gX12_no S2 (2 : Int32)) fun r19 S20 =>
            some (r19, S20)
          else
            b2 (gX12_lays S2 a1) fun r11 S12 =>
            if r11 = 0 then
              b2 (gX12_no S12 (3 : Int32)) fun r17 S18 =>
              some (r17, S18)
            else
              b2 (gX12_letsLine S12 a2 a3) fun r13 S14 =>
              if r13 = 0 then
                some ((0 : Int32), S14)
              else
                b2 (gX12_letsSecond S14 a1 a2 a4) fun r15 S16 =>
                if r15 = 0 then
                  some ((0 : Int32), S16)
                else
                  some ((1 : Int32), S16)
def gX12_fit_L17 (v1 : Int32) (v2 : Int32) : Nat → zM → Int32 → Option zM
  | 0, _, _ => none
  | n + 1, S, v3 =>
    if (10 : Int32) < v3 then
      some S
    else
      b2 (gX12_letsLine S v2 v3) fun r2 S3 =>
      ck (ixb ((((21 : Int32) * v2) + v3) + (10 : Int32)) 126) <|
      gX12_fit_L17 v1 v2 n (pI S3 26 (ix ((((21 : Int32) * v2) + v3) + (10 : Int32))) (vp_nar .boolean r2)) (v3 + (1 : Int32))
def gX12_fit_L52 (v1 : Int32) (v2 : Int32) : Nat → zM → Int32 → Option zM
  | 0, _, _ => none
  | n + 1, S, v3 =>
    if (5 : Int32) < v3 then
      some S
    else
      b2 (gX12_letsSecond S v1 v2 v3) fun r6 S7 =>
      ck (ixb ((((11 : Int32) * v2) + v3) + (5 : Int32)) 66) <|
      gX12_fit_L52 v1 v2 n (pI S7 27 (ix ((((11 : Int32) * v2) + v3) + (5 : Int32))) (vp_nar .boolean r6)) (v3 + (1 : Int32))
def gX12_fit_L2 (v1 : Int32) : Nat → zM → Int32 → Option zM
  | 0, _, _ => none
  | n + 1, S, v2 =>
    ck (ixb (238 : Int32) 463) <|
    if (gI S 3 (ix (238 : Int32))) ≤ v2 then
      some S
    else
      b1 (gX12_fit_L17 v1 v2 FU S (-10 : Int32)) fun S5 =>
      b1 (gX12_fit_L52 v1 v2 FU S5 (-5 : Int32)) fun S9 =>
      gX12_fit_L2 v1 n S9 (v2 + (1 : Int32))
def gX12_fit (S : zM) (a1 : Int32) : Option zM :=
    gX12_fit_L2 a1 FU S (0 : Int32)
def gX12_fitsOf_L7 (S : zM) (v1 : Int32) (v3 : Int32) : Nat → Int32 → Int32 → Option Int32
  | 0, _, _ => none
  | n + 1, v2, v4 =>
    if (21 : Int32) ≤ v4 then
      some v2
    else
      ck (ixb (((21 : Int32) * v1) + v4) 126) <|
      if (gI S 26 (ix (((21 : Int32) * v1) + v4))) = 0 then
        gX12_fitsOf_L7 S v1 v3 n (v2 + (0 : Int32)) (v4 + (1 : Int32))
      else
        gX12_fitsOf_L7 S v1 v3 n (v2 + (1 : Int32)) (v4 + (1 : Int32))
def gX12_fitsOf_L46 (S : zM) (v1 : Int32) (v2 : Int32) : Nat → Int32 → Int32 → Option Int32
  | 0, _, _ => none
  | n + 1, v3, v4 =>
    if (11 : Int32) ≤ v4 then
      some (v2 * v3)
    else
      ck (ixb (((11 : Int32) * v1) + v4) 66) <|
      if (gI S 27 (ix (((11 : Int32) * v1) + v4))) = 0 then
        gX12_fitsOf_L46 S v1 v2 n (v3 + (0 : Int32)) (v4 + (1 : Int32))
      else
        gX12_fitsOf_L46 S v1 v2 n (v3 + (1 : Int32)) (v4 + (1 : Int32))
def gX12_fitsOf (S : zM) (a1 : Int32) : Option Int32 :=
    b1 (gX12_fitsOf_L7 S a1 (0 : Int32) FU (0 : Int32) (0 : Int32)) fun w2 =>
    gX12_fitsOf_L46 S a1 w2 FU (0 : Int32) (0 : Int32)
def gX12_fitsMany_L4 (S : zM) : Nat → Int32 → Int32 → Option Int32
  | 0, _, _ => none
  | n + 1, v1, v2 =>
    ck (ixb (238 : Int32) 463) <|
    if (gI S 3 (ix (238 : Int32))) ≤ v2 then
      some v1
    else
      b1 (gX12_fitsOf S v2) fun r2 =>
      gX12_fitsMany_L4 S n (v1 + r2) (v2 + (1 : Int32))
def gX12_fitsMany (S : zM) : Option Int32 :=
    gX12_fitsMany_L4 S FU (0 : Int32) (0 : Int32)
def gX12_fits (S : zM) (a1 : Int32) : Option (Int32 × zM) :=
    b1 (gX12_good S) fun S2 =>
    b1 (gX12_isSayer S2 a1) fun r3 =>
    if r3 = 0 then
      b2 (gX12_no S2 (1 : Int32)) fun r11 S12 =>
      some (r11, S12)
    else
      b2 (gX12_lays S2 a1) fun r4 S5 =>
      if r4 = 0 then
        b2 (gX12_no S5 (3 : Int32)) fun r9 S10 =>
        some (r9, S10)
      else
        b1 (gX12_fit S5 a1) fun S7 =>
        b1 (gX12_fitsMany S7) fun r8 =>
        some (r8, S7)
def gX12_fitAt_L78 (S : zM) (v2 : Int32) (v3 : Int32) (v5 : Int32) (v6 : Int32) : Nat → Int32 → Int32 → Option ((Int32 × zM) ⊕ Int32)
  | 0, _, _ => none
  | n + 1, v4, v7 =>
    if (11 : Int32) ≤ v7 then
      some (.inr v4)
    else
      ck (ixb (((21 : Int32) * v5) + v6) 126) <|
      if (gI S 26 (ix (((21 : Int32) * v5) + v6))) = 0 then
        gX12_fitAt_L78 S v2 v3 v5 v6 n v4 (v7 + (1 : Int32))
      else
        ck (ixb (((11 : Int32) * v5) + v7) 66) <|
        if (gI S 27 (ix (((11 : Int32) * v5) + v7))) = 0 then
          gX12_fitAt_L78 S v2 v3 v5 v6 n v4 (v7 + (1 : Int32))
        else
          if v4 = v2 then
            if v3 = 0 then
              some (.inl (v5, S))
            else
              if v3 = (1 : Int32) then
                some (.inl ((v6 - (10 : Int32)), S))
              else
                some (.inl ((v7 - (5 : Int32)), S))
          else
            gX12_fitAt_L78 S v2 v3 v5 v6 n (v4 + (1 : Int32)) (v7 + (1 : Int32))
def gX12_fitAt_L68 (S : zM) (v2 : Int32) (v3 : Int32) (v5 : Int32) : Nat → Int32 → Int32 → Option ((Int32 × zM) ⊕ Int32)
  | 0, _, _ => none
  | n + 1, v4, v6 =>
    if (21 : Int32) ≤ v6 then
      some (.inr v4)
    else
      lg (gX12_fitAt_L78 S v2 v3 v5 v6 FU v4 (0 : Int32)) (fun r => .inl r) fun w16 =>
      gX12_fitAt_L68 S v2 v3 v5 n w16 (v6 + (1 : Int32))
def gX12_fitAt_L52 (S : zM) (v2 : Int32) (v3 : Int32) : Nat → Int32 → Int32 → Option (Int32 × zM)
  | 0, _, _ => none
  | n + 1, v4, v5 =>
    ck (ixb (238 : Int32) 463) <|
    if (gI S 3 (ix (238 : Int32))) ≤ v5 then
      b2 (gX12_not S (1 : Int32)) fun r12 S13 =>
      some (r12, S13)
    else
      lm (gX12_fitAt_L68 S v2 v3 v5 FU v4 (0 : Int32)) fun w17 =>
      gX12_fitAt_L52 S v2 v3 n w17 (v5 + (1 : Int32))
def gX12_fitAt (S : zM) (a1 : Int32) (a2 : Int32) (a3 : Int32) : Option (Int32 × zM) :=
    b1 (gX12_good S) fun S2 =>
    b1 (gX12_isSayer S2 a1) fun r3 =>
    if r3 = 0 then
      b2 (gX12_not S2 (1 : Int32)) fun r4 S5 =>
      some (r4, S5)
    else
      b1 (gX12_within a3 (0 : Int32) (2 : Int32)) fun r6 =>
      if r6 = 0 then
        b2 (gX12_not S2 (1 : Int32)) fun r20 S21 =>
        some (r20, S21)
      else
        b2 (gX12_lays S2 a1) fun r7 S8 =>
        if r7 = 0 then
          b2 (gX12_not S8 (3 : Int32)) fun r18 S19 =>
          some (r18, S19)
        else
          b1 (gX12_fit S8 a1) fun S10 =>
          gX12_fitAt_L52 S10 a2 a3 FU (0 : Int32) (0 : Int32)
def gX12_verdict (S : zM) (a1 : Int32) (a2 : Int32) : Option (Int32 × zM) :=
    b1 (gX12_good S) fun S2 =>
    b1 (gX12_isSayer S2 a1) fun r3 =>
    if r3 = 0 then
      b2 (gX12_no S2 (1 : Int32)) fun r4 S5 =>
      some (r4, S5)
    else
      b1 (gX12_isSense S2 a2) fun r6 =>
      if r6 = 0 then
        b2 (gX12_no S2 (1 : Int32)) fun r15 S16 =>
        some (r15, S16)
      else
        b2 (gX12_lays S2 a1) fun r7 S8 =>
        if r7 = 0 then
          b2 (gX12_no S8 (3 : Int32)) fun r13 S14 =>
          some (r13, S14)
        else
          b1 (gX12_fit S8 a1) fun S10 =>
          b1 (gX12_fitsOf S10 a2) fun r11 =>
          if r11 = 0 then
            some ((0 : Int32), S10)
          else
            b1 (gX12_fitsMany S10) fun r12 =>
            if r11 = r12 then
              some ((2 : Int32), S10)
            else
              some ((1 : Int32), S10)
def gX12_lineOf_L43 (v2 : Int32) (v3 : Int32) : Nat → zM → Int32 → Option (Int32 × zM)
  | 0, _, _ => none
  | n + 1, S, v4 =>
    if (100 : Int32) < v4 then
      b2 (gX12_not S (6 : Int32)) fun r9 S10 =>
      some (r9, S10)
    else
      if v3 = 0 then
        b2 (gX12_letsLine S v2 (v4 - (50 : Int32))) fun r11 S12 =>
        if r11 = 0 then
          gX12_lineOf_L43 v2 v3 n S12 (v4 + (1 : Int32))
        else
          some ((v4 - (50 : Int32)), S12)
      else
        b2 (gX12_letsLine S v2 ((50 : Int32) - v4)) fun r13 S14 =>
        if r13 = 0 then
          gX12_lineOf_L43 v2 v3 n S14 (v4 + (1 : Int32))
        else
          some (((50 : Int32) - v4), S14)
def gX12_lineOf (S : zM) (a1 : Int32) (a2 : Int32) (a3 : Int32) : Option (Int32 × zM) :=
    b1 (gX12_good S) fun S2 =>
    b1 (gX12_isSayer S2 a1) fun r3 =>
    if r3 = 0 then
      b2 (gX12_not S2 (1 : Int32)) fun r4 S5 =>
      some (r4, S5)
    else
      b1 (gX12_isSense S2 a2) fun r6 =>
      if r6 = 0 then
        b2 (gX12_not S2 (1 : Int32)) fun r17 S18 =>
        some (r17, S18)
      else
        b2 (gX12_lays S2 a1) fun r7 S8 =>
        if r7 = 0 then
          b2 (gX12_not S8 (3 : Int32)) fun r15 S16 =>
          some (r15, S16)
        else
          gX12_lineOf_L43 a2 a3 FU S8 (0 : Int32)
def gX12_secondOf_J67 (S : zM) (v1 : Int32) (v2 : Int32) (v3 : Int32) (v4 : Int32) (s0 : Int32) : Option ((Int32 × zM) ⊕ (Int32 × zM)) :=
    b2 (gX12_letsSecond S v1 v2 s0) fun r11 S12 =>
    if r11 = 0 then
      some (.inr ((v4 + (1 : Int32)), S12))
    else
      some (.inl (s0, S12))
def gX12_secondOf_L43 (v1 : Int32) (v2 : Int32) (v3 : Int32) : Nat → zM → Int32 → Option (Int32 × zM)
  | 0, _, _ => none
  | n + 1, S, v4 =>
    if (100 : Int32) < v4 then
      b2 (gX12_not S (6 : Int32)) fun r9 S10 =>
      some (r9, S10)
    else
      if v3 = 0 then
        lm (gX12_secondOf_J67 S v1 v2 v3 v4 (v4 - (50 : Int32))) (un2 fun v4 S => gX12_secondOf_L43 v1 v2 v3 n S v4)
      else
        lm (gX12_secondOf_J67 S v1 v2 v3 v4 ((50 : Int32) - v4)) (un2 fun v4 S => gX12_secondOf_L43 v1 v2 v3 n S v4)
def gX12_secondOf (S : zM) (a1 : Int32) (a2 : Int32) (a3 : Int32) : Option (Int32 × zM) :=
    b1 (gX12_good S) fun S2 =>
    b1 (gX12_isSayer S2 a1) fun r3 =>
    if r3 = 0 then
      b2 (gX12_not S2 (1 : Int32)) fun r4 S5 =>
      some (r4, S5)
    else
      b1 (gX12_isSense S2 a2) fun r6 =>
      if r6 = 0 then
        b2 (gX12_not S2 (1 : Int32)) fun r15 S16 =>
        some (r15, S16)
      else
        b2 (gX12_lays S2 a1) fun r7 S8 =>
        if r7 = 0 then
          b2 (gX12_not S8 (3 : Int32)) fun r13 S14 =>
          some (r13, S14)
        else
          gX12_secondOf_L43 a1 a2 a3 FU S8 (0 : Int32)
def gX12_freshOdds (S : zM) (a1 : Int32) (a2 : Int32) (a3 : Int32) (a4 : Int32) (a5 : Int32) : Option Int32 :=
    ck (ixb ((120 : Int32) + a1) 463) <|
    b1 (gX12_fullOf S (gI S 3 (ix ((120 : Int32) + a1)))) fun r2 =>
    b1 (gX12_oddsOf S a1 a2 a3 a4 (0 : Int32) a5 (0 : Int32) r2) fun r3 =>
    some r3
def gX12_moreOf_L31 (S : zM) (v1 : Int32) (v2 : Int32) (v3 : Int32) (v4 : Int32) : Nat → Int32 → Option Int32
  | 0, _ => none
  | n + 1, v5 =>
    if (400 : Int32) < (v2 + v5) then
      some (-2 : Int32)
    else
      b1 (gX12_freshOdds S v1 (0 : Int32) v2 (v2 + v5) (1 : Int32)) fun r5 =>
      if ((100 : Int32) * r5) < ((v3 * v4) * v4) then
        gX12_moreOf_L31 S v1 v2 v3 v4 n (v5 + (1 : Int32))
      else
        some v5
def gX12_moreOf (S : zM) (a1 : Int32) (a2 : Int32) (a3 : Int32) : Option Int32 :=
    ck (ixb ((120 : Int32) + a1) 463) <|
    ck (ixb ((120 : Int32) + a1) 463) <|
    b1 (gX12_fullOf S (gI S 3 (ix ((120 : Int32) + a1)))) fun r3 =>
    b1 (gX12_all S (gI S 3 (ix ((120 : Int32) + a1))) r3) fun r4 =>
    gX12_moreOf_L31 S a1 a2 a3 r4 FU (1 : Int32)
def gX12_more (S : zM) (a1 : Int32) (a2 : Int32) (a3 : Int32) : Option (Int32 × zM) :=
    b1 (gX12_good S) fun S2 =>
    b1 (gX12_isSayer S2 a1) fun r3 =>
    if r3 = 0 then
      b2 (gX12_no S2 (1 : Int32)) fun r11 S12 =>
      some (r11, S12)
    else
      b1 (gX12_within a2 (1 : Int32) (400 : Int32)) fun r4 =>
      if r4 = 0 then
        b2 (gX12_no S2 (2 : Int32)) fun r5 S6 =>
        some (r5, S6)
      else
        b1 (gX12_within a3 (1 : Int32) (100 : Int32)) fun r7 =>
        if r7 = 0 then
          b2 (gX12_no S2 (2 : Int32)) fun r8 S9 =>
          some (r8, S9)
        else
          b1 (gX12_moreOf S2 a1 a2 a3) fun r10 =>
          some (r10, S2)
def gX12_fails_J107 (S : zM) (v1 : Int32) (v2 : Int32) (v4 : Int32) (v5 : Int32) (v6 : Int32) (v7 : Int32) (s0 : Int32) : Option ((Int32 × zM) ⊕ Int32) :=
    if v7 < 0 then
      some (.inl (v6, S))
    else
      b1 (gX12_without (v7 - s0)) fun r17 =>
      if r17 ≤ (1 : Int32) then
        some (.inr (v6 + (1 : Int32)))
      else
        some (.inl (v6, S))
def gX12_fails_L72 (S : zM) (v1 : Int32) (v2 : Int32) (v4 : Int32) (v5 : Int32) : Nat → Int32 → Option (Int32 × zM)
  | 0, _ => none
  | n + 1, v6 =>
    if v4 < v6 then
      some ((-2 : Int32), S)
    else
      b1 (gX12_moreOf S v1 v6 v2) fun r14 =>
      ck (decide (¬ v5 = 0)) <|
      if (1 : Int32) ≤ (v6 / v5) then
        ck (decide (¬ v5 = 0)) <|
        lm (gX12_fails_J107 S v1 v2 v4 v5 v6 r14 (v6 / v5)) fun v6 => gX12_fails_L72 S v1 v2 v4 v5 n v6
      else
        lm (gX12_fails_J107 S v1 v2 v4 v5 v6 r14 (1 : Int32)) fun v6 => gX12_fails_L72 S v1 v2 v4 v5 n v6
def gX12_fails (S : zM) (a1 : Int32) (a2 : Int32) (a3 : Int32) (a4 : Int32) (a5 : Int32) : Option (Int32 × zM) :=
    b1 (gX12_good S) fun S2 =>
    b1 (gX12_isSayer S2 a1) fun r3 =>
    if r3 = 0 then
      b2 (gX12_no S2 (1 : Int32)) fun r20 S21 =>
      some (r20, S21)
    else
      b1 (gX12_within a2 (1 : Int32) (100 : Int32)) fun r4 =>
      if r4 = 0 then
        b2 (gX12_no S2 (2 : Int32)) fun r5 S6 =>
        some (r5, S6)
      else
        b1 (gX12_within a3 (1 : Int32) (400 : Int32)) fun r7 =>
        if r7 = 0 then
          b2 (gX12_no S2 (2 : Int32)) fun r8 S9 =>
          some (r8, S9)
        else
          b1 (gX12_within a4 a3 (400 : Int32)) fun r10 =>
          if r10 = 0 then
            b2 (gX12_no S2 (2 : Int32)) fun r11 S12 =>
            some (r11, S12)
          else
            b1 (gX12_within a5 (1 : Int32) (400 : Int32)) fun r13 =>
            if r13 = 0 then
              b2 (gX12_no S2 (2 : Int32)) fun r18 S19 =>
              some (r18, S19)
            else
              gX12_fails_L72 S2 a1 a2 a4 a5 FU a3
def gX12_steps_L73 (S : zM) (v1 : Int32) (v2 : Int32) (v4 : Int32) : Nat → Int32 → Int32 → Int32 → Option (Int32 × zM)
  | 0, _, _, _ => none
  | n + 1, v5, v6, v7 =>
    if v7 ≤ 0 then
      some (v5, S)
    else
      if v4 < (v6 + v7) then
        some (v5, S)
      else
        b1 (gX12_moreOf S v1 (v6 + v7) v2) fun r12 =>
        gX12_steps_L73 S v1 v2 v4 n (v5 + (1 : Int32)) (v6 + v7) r12
def gX12_steps (S : zM) (a1 : Int32) (a2 : Int32) (a3 : Int32) (a4 : Int32) : Option (Int32 × zM) :=
    b1 (gX12_good S) fun S2 =>
    b1 (gX12_isSayer S2 a1) fun r3 =>
    if r3 = 0 then
      b2 (gX12_no S2 (1 : Int32)) fun r15 S16 =>
      some (r15, S16)
    else
      b1 (gX12_within a2 (1 : Int32) (100 : Int32)) fun r4 =>
      if r4 = 0 then
        b2 (gX12_no S2 (2 : Int32)) fun r5 S6 =>
        some (r5, S6)
      else
        b1 (gX12_within a3 (1 : Int32) (400 : Int32)) fun r7 =>
        if r7 = 0 then
          b2 (gX12_no S2 (2 : Int32)) fun r8 S9 =>
          some (r8, S9)
        else
          b1 (gX12_within a4 (1 : Int32) (400 : Int32)) fun r10 =>
          if r10 = 0 then
            b2 (gX12_no S2 (2 : Int32)) fun r13 S14 =>
            some (r13, S14)
          else
            b1 (gX12_moreOf S2 a1 a3 a2) fun r11 =>
            gX12_steps_L73 S2 a1 a2 a4 FU (0 : Int32) a3 r11
def gX12_felt_L75 (S : zM) (v1 : Int32) (v2 : Int32) (v3 : Int32) (v4 : Int32) : Nat → Int32 → Option (Int32 × zM)
  | 0, _ => none
  | n + 1, v5 =>
    if (400 : Int32) < v5 then
      some ((-2 : Int32), S)
    else
      b1 (gX12_freshOdds S v1 (1 : Int32) v5 (0 : Int32) (1 : Int32)) fun r10 =>
      if ((100 : Int32) * (r10 - v4)) < (v2 * v3) then
        gX12_felt_L75 S v1 v2 v3 v4 n (v5 + (1 : Int32))
      else
        some (v5, S)
def gX12_felt (S : zM) (a1 : Int32) (a2 : Int32) : Option (Int32 × zM) :=
    b1 (gX12_good S) fun S2 =>
    b1 (gX12_isSayer S2 a1) fun r3 =>
    if r3 = 0 then
      b2 (gX12_no S2 (1 : Int32)) fun r13 S14 =>
      some (r13, S14)
    else
      b1 (gX12_within a2 (1 : Int32) (100 : Int32)) fun r4 =>
      if r4 = 0 then
        b2 (gX12_no S2 (2 : Int32)) fun r11 S12 =>
        some (r11, S12)
      else
        ck (ixb ((120 : Int32) + a1) 463) <|
        ck (ixb ((120 : Int32) + a1) 463) <|
        b1 (gX12_fullOf S2 (gI S2 3 (ix ((120 : Int32) + a1)))) fun r7 =>
        b1 (gX12_all S2 (gI S2 3 (ix ((120 : Int32) + a1))) r7) fun r8 =>
        b1 (gX12_freshOdds S2 a1 (1 : Int32) (0 : Int32) (0 : Int32) (1 : Int32)) fun r9 =>
        gX12_felt_L75 S2 a1 a2 r8 r9 FU (1 : Int32)
def gX12_isPay (S : zM) (a1 : Int32) : Option Int32 :=
    if (gI S 0 14) = 0 then
      some (0 : Int32)
    else
      ck (ixb (241 : Int32) 463) <|
      b1 (gX12_within a1 (0 : Int32) ((gI S 3 (ix (241 : Int32))) - (1 : Int32))) fun r2 =>
      if r2 = 0 then
        some (0 : Int32)
      else
        some (1 : Int32)
def gX12_above_L18 (S : zM) (v2 : Int32) (v3 : Int32) (v4 : Int32) : Nat → Int32 → Int32 → Option Int32
  | 0, _, _ => none
  | n + 1, v5, v6 =>
    if (5 : Int32) < v6 then
      some v5
    else
      b1 (gX12_levelOf S v4 v2) fun r3 =>
      if (r3 + v6) ≤ v3 then
        gX12_above_L18 S v2 v3 v4 n (v5 + (0 : Int32)) (v6 + (1 : Int32))
      else
        b1 (gX12_fullOf S v4) fun r4 =>
        b1 (gX12_often S v4 v6 r4) fun r5 =>
        gX12_above_L18 S v2 v3 v4 n (v5 + r5) (v6 + (1 : Int32))
def gX12_above (S : zM) (a1 : Int32) (a2 : Int32) (a3 : Int32) : Option Int32 :=
    ck (ixb ((120 : Int32) + a1) 463) <|
    lt (gI S 3 (ix ((120 : Int32) + a1))) fun x2 =>
    gX12_above_L18 S a2 a3 x2 FU (0 : Int32) (-5 : Int32)
def gX12_gainOf (S : zM) (a1 : Int32) (a2 : Int32) (a3 : Int32) (a4 : Int32) : Option Int64 :=
    ck (ixb ((120 : Int32) + a2) 463) <|
    ck (ixb ((120 : Int32) + a2) 463) <|
    b1 (gX12_fullOf S (gI S 3 (ix ((120 : Int32) + a2)))) fun r3 =>
    b1 (gX12_all S (gI S 3 (ix ((120 : Int32) + a2))) r3) fun r4 =>
    ck (ixb ((234 : Int32) + a1) 463) <|
    lt ((gI S 3 (ix ((234 : Int32) + a1))).toInt64) fun x6 =>
    b1 (gX12_above S a2 a3 a4) fun r7 =>
    b1 (gX12_above S a2 (0 : Int32) a4) fun r8 =>
    ck (ixb ((218 : Int32) + a1) 463) <|
    ck (ixb ((222 : Int32) + a1) 463) <|
    ck (ixb ((226 : Int32) + a1) 463) <|
    ck (ixb ((230 : Int32) + a1) 463) <|
    some ((x6 * ((r7.toInt64 * (gI S 3 (ix ((218 : Int32) + a1))).toInt64) + ((r4.toInt64 - r7.toInt64) * (gI S 3 (ix ((222 : Int32) + a1))).toInt64))) + (((100 : Int64) - x6) * ((r8.toInt64 * (gI S 3 (ix ((226 : Int32) + a1))).toInt64) + ((r4.toInt64 - r8.toInt64) * (gI S 3 (ix ((230 : Int32) + a1))).toInt64))))
def gX12_gain (S : zM) (a1 : Int32) (a2 : Int32) (a3 : Int32) (a4 : Int32) : Option (Int64 × zM) :=
    b1 (gX12_good S) fun S2 =>
    b1 (gX12_isPay S2 a1) fun r3 =>
    if r3 = 0 then
      b2 (gX12_none S2 (1 : Int32)) fun r4 S5 =>
      some (r4, S5)
    else
      b1 (gX12_isSayer S2 a2) fun r6 =>
      if r6 = 0 then
        b2 (gX12_none S2 (1 : Int32)) fun r14 S15 =>
        some (r14, S15)
      else
        b1 (gX12_within a3 (1 : Int32) (400 : Int32)) fun r7 =>
        if r7 = 0 then
          b2 (gX12_none S2 (2 : Int32)) fun r8 S9 =>
          some (r8, S9)
        else
          b1 (gX12_within a4 (-50 : Int32) (50 : Int32)) fun r10 =>
          if r10 = 0 then
            b2 (gX12_none S2 (2 : Int32)) fun r11 S12 =>
            some (r11, S12)
          else
            b1 (gX12_gainOf S2 a1 a2 a3 a4) fun r13 =>
            some (r13, S2)
def gX12_bestLine_L8 (S : zM) (v1 : Int32) (v2 : Int32) (v3 : Int32) : Nat → Int32 → Int32 → Option Int32
  | 0, _, _ => none
  | n + 1, v4, v5 =>
    if (50 : Int32) < v5 then
      some v4
    else
      b1 (gX12_gainOf S v1 v2 v3 v5) fun r1 =>
      b1 (gX12_gainOf S v1 v2 v3 v4) fun r2 =>
      if r1 ≤ r2 then
        gX12_bestLine_L8 S v1 v2 v3 n v4 (v5 + (1 : Int32))
      else
        gX12_bestLine_L8 S v1 v2 v3 n v5 (v5 + (1 : Int32))
def gX12_bestLine (S : zM) (a1 : Int32) (a2 : Int32) (a3 : Int32) : Option Int32 :=
    gX12_bestLine_L8 S a1 a2 a3 FU (-50 : Int32) (-49 : Int32)
def gX12_best (S : zM) (a1 : Int32) (a2 : Int32) (a3 : Int32) : Option (Int32 × zM) :=
    b1 (gX12_good S) fun S2 =>
    b1 (gX12_isPay S2 a1) fun r3 =>
    if r3 = 0 then
      b2 (gX12_not S2 (1 : Int32)) fun r4 S5 =>
      some (r4, S5)
    else
      b1 (gX12_isSayer S2 a2) fun r6 =>
      if r6 = 0 then
        b2 (gX12_not S2 (1 : Int32)) fun r11 S12 =>
        some (r11, S12)
      else
        b1 (gX12_within a3 (1 : Int32) (400 : Int32)) fun r7 =>
        if r7 = 0 then
          b2 (gX12_not S2 (2 : Int32)) fun r8 S9 =>
          some (r8, S9)
        else
          b1 (gX12_bestLine S2 a1 a2 a3) fun r10 =>
          some (r10, S2)
def gX12_moves (S : zM) (a1 : Int32) (a2 : Int32) (a3 : Int32) : Option (Int32 × zM) :=
    b1 (gX12_good S) fun S2 =>
    b1 (gX12_isPay S2 a1) fun r3 =>
    if r3 = 0 then
      b2 (gX12_not S2 (1 : Int32)) fun r4 S5 =>
      some (r4, S5)
    else
      b1 (gX12_isSayer S2 a2) fun r6 =>
      if r6 = 0 then
        b2 (gX12_not S2 (1 : Int32)) fun r15 S16 =>
        some (r15, S16)
      else
        b1 (gX12_within a3 (1 : Int32) (400 : Int32)) fun r7 =>
        if r7 = 0 then
          b2 (gX12_not S2 (2 : Int32)) fun r13 S14 =>
          some (r13, S14)
        else
          ck (ixb ((126 : Int32) + a2) 463) <|
          lt (gI S2 3 (ix ((126 : Int32) + a2))) fun x9 =>
          b1 (gX12_bestLine S2 a1 a2 a3) fun r10 =>
          ck (ixb ((126 : Int32) + a2) 463) <|
          ck (ixb ((126 : Int32) + a2) 463) <|
          some (((gI (pI S2 3 (ix ((126 : Int32) + a2)) r10) 3 (ix ((126 : Int32) + a2))) - x9), (pI S2 3 (ix ((126 : Int32) + a2)) r10))
def gX12_arePairsUnlike (S : zM) (a1 : Int32) (a2 : Int32) (a3 : Int32) (a4 : Int32) : Option (Int32 × zM) :=
    b1 (gX12_fullOf S a1) fun r1 =>
    b1 (gX12_all S a1 r1) fun r2 =>
    b1 (gX12_fullOf S a2) fun r3 =>
    b1 (gX12_all S a2 r3) fun r4 =>
    b1 (gX12_pairs S a1 a3 a4 (0 : Int32)) fun S6 =>
    ck (ixb (0 : Int32) 3) <|
    ck (ixb (1 : Int32) 3) <|
    b1 (gX12_pairs S6 a2 a3 a4 (0 : Int32)) fun S10 =>
    ck (ixb (0 : Int32) 3) <|
    if (((gI S6 25 (ix (0 : Int32))).toInt64 * r4.toInt64) * r4.toInt64) = (((gI S10 25 (ix (0 : Int32))).toInt64 * r2.toInt64) * r2.toInt64) then
      ck (ixb (1 : Int32) 3) <|
      if (((gI S6 25 (ix (1 : Int32))).toInt64 * r4.toInt64) * r4.toInt64) = (((gI S10 25 (ix (1 : Int32))).toInt64 * r2.toInt64) * r2.toInt64) then
        some ((0 : Int32), S10)
      else
        some ((1 : Int32), S10)
    else
      some ((1 : Int32), S10)
def gX12_brings_J62 (S : zM) (v1 : Int32) (v2 : Int32) (v3 : Int32) (v4 : Int32) (v5 : Int32) (s0 : Int32) : Option (Int32 ⊕ (Int32 × Int32)) :=
    if s0 = 0 then
      some (.inr ((v4 + (0 : Int32)), (v5 + (1 : Int32))))
    else
      b1 (gX12_fullOf S v1) fun r2 =>
      b1 (gX12_often S v1 v5 r2) fun r3 =>
      some (.inr ((v4 + r3), (v5 + (1 : Int32))))
def gX12_brings_J53 (S : zM) (v1 : Int32) (v2 : Int32) (v3 : Int32) (v4 : Int32) (v5 : Int32) (s0 : Int32) : Option (Int32 ⊕ (Int32 × Int32)) :=
    if s0 = v3 then
      gX12_brings_J62 S v1 v2 v3 v4 v5 (1 : Int32)
    else
      gX12_brings_J62 S v1 v2 v3 v4 v5 (0 : Int32)
def gX12_brings_L7 (S : zM) (v1 : Int32) (v2 : Int32) (v3 : Int32) : Nat → Int32 → Int32 → Option Int32
  | 0, _, _ => none
  | n + 1, v4, v5 =>
    if (5 : Int32) < v5 then
      some v4
    else
      b1 (gX12_levelOf S v1 v2) fun r1 =>
      if v3 = (-1 : Int32) then
        if (r1 + v5) ≤ 0 then
          lm (gX12_brings_J62 S v1 v2 v3 v4 v5 (0 : Int32)) (un2 fun v4 v5 => gX12_brings_L7 S v1 v2 v3 n v4 v5)
        else
          lm (gX12_brings_J62 S v1 v2 v3 v4 v5 (1 : Int32)) (un2 fun v4 v5 => gX12_brings_L7 S v1 v2 v3 n v4 v5)
      else
        if 0 ≤ (r1 + v5) then
          lm (gX12_brings_J53 S v1 v2 v3 v4 v5 (r1 + v5)) (un2 fun v4 v5 => gX12_brings_L7 S v1 v2 v3 n v4 v5)
        else
          lm (gX12_brings_J53 S v1 v2 v3 v4 v5 (0 : Int32)) (un2 fun v4 v5 => gX12_brings_L7 S v1 v2 v3 n v4 v5)
def gX12_brings (S : zM) (a1 : Int32) (a2 : Int32) (a3 : Int32) : Option Int32 :=
    gX12_brings_L7 S a1 a2 a3 FU (0 : Int32) (-5 : Int32)
def gX12_areUnlike_J129 (S : zM) (v1 : Int32) (v2 : Int32) (v4 : Int32) (v5 : Int32) (v6 : Int32) (v7 : Int32) (v8 : Int32) (v9 : Int32) (s0 : Int32) : Option (Int32 ⊕ (Int32 × Int32)) :=
    if v7 = 0 then
      b1 (gX12_brings S v1 v4 v9) fun r10 =>
      b1 (gX12_brings S v2 v4 v9) fun r11 =>
      if (r10 * v6) = (r11 * v5) then
        b1 (gX12_brings S v1 v4 s0) fun r12 =>
        b1 (gX12_brings S v2 v4 s0) fun r13 =>
        if (r12 * v6) = (r13 * v5) then
          some (.inr ((0 : Int32), (v8 + (1 : Int32))))
        else
          some (.inr ((1 : Int32), (v8 + (1 : Int32))))
      else
        some (.inr ((1 : Int32), (v8 + (1 : Int32))))
    else
      some (.inr ((1 : Int32), (v8 + (1 : Int32))))
def gX12_areUnlike_J100 (S : zM) (v1 : Int32) (v2 : Int32) (v4 : Int32) (v5 : Int32) (v6 : Int32) (v7 : Int32) (v8 : Int32) (s0 : Int32) : Option (Int32 ⊕ (Int32 × Int32)) :=
    b1 (gX12_levelOf S v2 v4) fun r8 =>
    if 0 ≤ (r8 + v8) then
      b1 (gX12_levelOf S v2 v4) fun r9 =>
      gX12_areUnlike_J129 S v1 v2 v4 v5 v6 v7 v8 s0 (r9 + v8)
    else
      gX12_areUnlike_J129 S v1 v2 v4 v5 v6 v7 v8 s0 (0 : Int32)
def gX12_areUnlike_L67 (S : zM) (v1 : Int32) (v2 : Int32) (v4 : Int32) (v5 : Int32) (v6 : Int32) : Nat → Int32 → Int32 → Option Int32
  | 0, _, _ => none
  | n + 1, v7, v8 =>
    if (5 : Int32) < v8 then
      ck (isB v7) <|
      some v7
    else
      b1 (gX12_levelOf S v1 v4) fun r6 =>
      if 0 ≤ (r6 + v8) then
        b1 (gX12_levelOf S v1 v4) fun r7 =>
        lm (gX12_areUnlike_J100 S v1 v2 v4 v5 v6 v7 v8 (r7 + v8)) (un2 fun v7 v8 => gX12_areUnlike_L67 S v1 v2 v4 v5 v6 n v7 v8)
      else
        lm (gX12_areUnlike_J100 S v1 v2 v4 v5 v6 v7 v8 (0 : Int32)) (un2 fun v7 v8 => gX12_areUnlike_L67 S v1 v2 v4 v5 v6 n v7 v8)
def gX12_areUnlike (S : zM) (a1 : Int32) (a2 : Int32) (a3 : Int32) (a4 : Int32) : Option Int32 :=
    b1 (gX12_fullOf S a1) fun r1 =>
    b1 (gX12_all S a1 r1) fun r2 =>
    b1 (gX12_fullOf S a2) fun r3 =>
    b1 (gX12_all S a2 r3) fun r4 =>
    if a3 = (1 : Int32) then
      b1 (gX12_brings S a1 a4 (-1 : Int32)) fun r14 =>
      b1 (gX12_brings S a2 a4 (-1 : Int32)) fun r15 =>
      if (r14 * r4) = (r15 * r2) then
        some (0 : Int32)
      else
        some (1 : Int32)
    else
      gX12_areUnlike_L67 S a1 a2 a4 r2 r4 FU (0 : Int32) (-5 : Int32)
def gX12_parted_L122 (v1 : Int32) (v2 : Int32) (v3 : Int32) (v4 : Int32) (v5 : Int32) (v7 : Int32) : Nat → zM → Int32 → Option ((Int32 × zM) ⊕ zM)
  | 0, _, _ => none
  | n + 1, S, v8 =>
    if v5 < v8 then
      some (.inr S)
    else
      if v3 = 0 then
        b2 (gX12_arePairsUnlike S v1 v2 v7 v8) fun r13 S14 =>
        if r13 = 0 then
          gX12_parted_L122 v1 v2 v3 v4 v5 v7 n S14 (v8 + (1 : Int32))
        else
          some (.inl ((((1000 : Int32) * v7) + v8), S14))
      else
        some (.inr S)
def gX12_parted_L88 (v1 : Int32) (v2 : Int32) (v3 : Int32) (v4 : Int32) (v5 : Int32) : Nat → zM → Int32 → Option (Int32 × zM)
  | 0, _, _ => none
  | n + 1, S, v7 =>
    if v5 < v7 then
      some ((-2 : Int32), S)
    else
      if v3 = 0 then
        lm (gX12_parted_L122 v1 v2 v3 v4 v5 v7 FU S v4) fun S15 =>
        gX12_parted_L88 v1 v2 v3 v4 v5 n S15 (v7 + (1 : Int32))
      else
        b1 (gX12_areUnlike S v1 v2 v3 v7) fun r16 =>
        if r16 = 0 then
          lm (gX12_parted_L122 v1 v2 v3 v4 v5 v7 FU S v4) fun S19 =>
          gX12_parted_L88 v1 v2 v3 v4 v5 n S19 (v7 + (1 : Int32))
        else
          some (((1000 : Int32) * v7), S)
def gX12_parted_J50 (S : zM) (v1 : Int32) (v2 : Int32) (v3 : Int32) (v4 : Int32) (v5 : Int32) (s0 : Int32) : Option (Int32 × zM) :=
    b1 (gX12_within v4 s0 (400 : Int32)) fun r9 =>
    if r9 = 0 then
      b2 (gX12_no S (2 : Int32)) fun r10 S11 =>
      some (r10, S11)
    else
      b1 (gX12_within v5 v4 (400 : Int32)) fun r12 =>
      if r12 = 0 then
        b2 (gX12_no S (2 : Int32)) fun r20 S21 =>
        some (r20, S21)
      else
        gX12_parted_L88 v1 v2 v3 v4 v5 FU S v4
def gX12_parted (S : zM) (a1 : Int32) (a2 : Int32) (a3 : Int32) (a4 : Int32) (a5 : Int32) : Option (Int32 × zM) :=
    b1 (gX12_good S) fun S2 =>
    b1 (gX12_isSense S2 a1) fun r3 =>
    if r3 = 0 then
      b2 (gX12_no S2 (1 : Int32)) fun r4 S5 =>
      some (r4, S5)
    else
      b1 (gX12_isSense S2 a2) fun r6 =>
      if r6 = 0 then
        b2 (gX12_no S2 (1 : Int32)) fun r7 S8 =>
        some (r7, S8)
      else
        if a3 = 0 then
          if a3 = (1 : Int32) then
            gX12_parted_J50 S2 a1 a2 a3 a4 a5 (0 : Int32)
          else
            gX12_parted_J50 S2 a1 a2 a3 a4 a5 (1 : Int32)
        else
          if a3 = (1 : Int32) then
            if a3 = (1 : Int32) then
              gX12_parted_J50 S2 a1 a2 a3 a4 a5 (0 : Int32)
            else
              gX12_parted_J50 S2 a1 a2 a3 a4 a5 (1 : Int32)
          else
            if a3 = (3 : Int32) then
              if a3 = (1 : Int32) then
                gX12_parted_J50 S2 a1 a2 a3 a4 a5 (0 : Int32)
              else
                gX12_parted_J50 S2 a1 a2 a3 a4 a5 (1 : Int32)
            else
              b2 (gX12_no S2 (1 : Int32)) fun r22 S23 =>
              some (r22, S23)
def gX12_fewest_L116 (v5 : Int32) (v6 : Int32) (v7 : Int32) (v8 : Int32) : Nat → zM → Int32 → Option (Int32 × zM)
  | 0, _, _ => none
  | n + 1, S, v9 =>
    if (40 : Int32) < v9 then
      some ((-2 : Int32), S)
    else
      b2 (gX12_spanOf S v9 v7 (v5 * v5) (1 : Int32)) fun r21 S22 =>
      b2 (gX12_spanOf S22 v9 v8 (v6 * v6) (0 : Int32)) fun r23 S24 =>
      if r21 < r23 then
        some (v9, S24)
      else
        b2 (gX12_spanOf S24 v9 v8 (v6 * v6) (1 : Int32)) fun r25 S26 =>
        b2 (gX12_spanOf S26 v9 v7 (v5 * v5) (0 : Int32)) fun r27 S28 =>
        if r27 ≤ r25 then
          gX12_fewest_L116 v5 v6 v7 v8 n S28 (v9 + (1 : Int32))
        else
          some (v9, S28)
def gX12_fewest (S : zM) (a1 : Int32) (a2 : Int32) (a3 : Int32) (a4 : Int32) : Option (Int32 × zM) :=
    b1 (gX12_good S) fun S2 =>
    b1 (gX12_isSense S2 a1) fun r3 =>
    if r3 = 0 then
      b2 (gX12_no S2 (1 : Int32)) fun r4 S5 =>
      some (r4, S5)
    else
      b1 (gX12_isSense S2 a2) fun r6 =>
      if r6 = 0 then
        b2 (gX12_no S2 (1 : Int32)) fun r31 S32 =>
        some (r31, S32)
      else
        b1 (gX12_within a3 (1 : Int32) (400 : Int32)) fun r7 =>
        if r7 = 0 then
          b2 (gX12_no S2 (2 : Int32)) fun r8 S9 =>
          some (r8, S9)
        else
          b1 (gX12_within a4 (1 : Int32) (400 : Int32)) fun r10 =>
          if r10 = 0 then
            b2 (gX12_no S2 (2 : Int32)) fun r29 S30 =>
            some (r29, S30)
          else
            b1 (gX12_fullOf S2 a1) fun r11 =>
            b1 (gX12_all S2 a1 r11) fun r12 =>
            b1 (gX12_fullOf S2 a2) fun r13 =>
            b1 (gX12_all S2 a2 r13) fun r14 =>
            b1 (gX12_pairs S2 a1 a3 a4 (0 : Int32)) fun S16 =>
            ck (ixb (1 : Int32) 3) <|
            b1 (gX12_pairs S16 a2 a3 a4 (0 : Int32)) fun S19 =>
            ck (ixb (1 : Int32) 3) <|
            gX12_fewest_L116 r12 r14 (gI S16 25 (ix (1 : Int32))) (gI S19 25 (ix (1 : Int32))) FU S19 (1 : Int32)
def gX12_match (S : zM) (a1 : Int32) (a2 : Int32) (a3 : Int32) : Option (Int32 × zM) :=
    b1 (gX12_good S) fun S2 =>
    b1 (gX12_isSense S2 a1) fun r3 =>
    if r3 = 0 then
      b2 (gX12_no S2 (1 : Int32)) fun r4 S5 =>
      some (r4, S5)
    else
      b1 (gX12_isSense S2 a3) fun r6 =>
      if r6 = 0 then
        b2 (gX12_no S2 (1 : Int32)) fun r12 S13 =>
        some (r12, S13)
      else
        b1 (gX12_within a2 (1 : Int32) (400 : Int32)) fun r7 =>
        if r7 = 0 then
          b2 (gX12_no S2 (2 : Int32)) fun r8 S9 =>
          some (r8, S9)
        else
          b1 (gX12_levelOf S2 a1 a2) fun r10 =>
          b1 (gX12_matched S2 a3 r10) fun r11 =>
          some (r11, S2)
def gX12_closes (S : zM) (a1 : Int32) (a2 : Int32) (a3 : Int32) (a4 : Int32) : Option (Int32 × zM) :=
    b1 (gX12_good S) fun S2 =>
    b1 (gX12_isSense S2 a1) fun r3 =>
    if r3 = 0 then
      b2 (gX12_not S2 (1 : Int32)) fun r4 S5 =>
      some (r4, S5)
    else
      b1 (gX12_isSense S2 a2) fun r6 =>
      if r6 = 0 then
        b2 (gX12_not S2 (1 : Int32)) fun r7 S8 =>
        some (r7, S8)
      else
        b1 (gX12_isSense S2 a3) fun r9 =>
        if r9 = 0 then
          b2 (gX12_not S2 (1 : Int32)) fun r19 S20 =>
          some (r19, S20)
        else
          b1 (gX12_within a4 (1 : Int32) (400 : Int32)) fun r10 =>
          if r10 = 0 then
            b2 (gX12_not S2 (2 : Int32)) fun r17 S18 =>
            some (r17, S18)
          else
            b1 (gX12_levelOf S2 a1 a4) fun r11 =>
            b1 (gX12_matched S2 a2 r11) fun r12 =>
            b1 (gX12_levelOf S2 a2 r12) fun r13 =>
            b1 (gX12_matched S2 a3 r13) fun r14 =>
            b1 (gX12_levelOf S2 a3 r14) fun r15 =>
            b1 (gX12_matched S2 a1 r15) fun r16 =>
            some ((r16 - a4), S2)
def gX12_stair_L102 (v1 : Int32) (v2 : Int32) (v3 : Int32) (v4 : Int32) (v5 : Int32) (v6 : Int32) : Nat → zM → Int32 → Option zM
  | 0, _, _ => none
  | n + 1, S, v7 =>
    if (400 : Int32) < v7 then
      some S
    else
      if v7 = v2 then
        ck (ixb v7 401) <|
        gX12_stair_L102 v1 v2 v3 v4 v5 v6 n (pL S 28 (ix v7) (1 : Int64)) (v7 + (1 : Int32))
      else
        ck (ixb v7 401) <|
        gX12_stair_L102 v1 v2 v3 v4 v5 v6 n (pL S 28 (ix v7) (0 : Int64)) (v7 + (1 : Int32))
def gX12_stair_L147 (v1 : Int32) (v3 : Int32) (v4 : Int32) (v5 : Int32) (v6 : Int32) (v7 : Int32) : Nat → zM → Int32 → Option zM
  | 0, _, _ => none
  | n + 1, S, v8 =>
    if (400 : Int32) < v8 then
      some S
    else
      ck (ixb v8 401) <|
      gX12_stair_L147 v1 v3 v4 v5 v6 v7 n (pL S 29 (ix v8) (0 : Int64)) (v8 + (1 : Int32))
def gX12_stair_L172 (v1 : Int32) (v3 : Int32) (v4 : Int32) (v5 : Int32) (v6 : Int32) (v7 : Int32) : Nat → zM → Int32 → Option zM
  | 0, _, _ => none
  | n + 1, S, v8 =>
    if (400 : Int32) < v8 then
      some S
    else
      ck (ixb v8 401) <|
      if (gL S 28 (ix v8)) = (0 : Int64) then
        gX12_stair_L172 v1 v3 v4 v5 v6 v7 n S (v8 + (1 : Int32))
      else
        b1 (gX12_freshOdds S v1 (1 : Int32) v8 (0 : Int32) (1 : Int32)) fun r25 =>
        b1 (gX12_held (v8 - v3)) fun r26 =>
        ck (ixb r26 401) <|
        ck (ixb v8 401) <|
        ck (ixb r26 401) <|
        b1 (gX12_held (v8 + v3)) fun r30 =>
        ck (ixb r30 401) <|
        ck (ixb v8 401) <|
        ck (ixb r30 401) <|
        lt (pL (pL S 29 (ix r26) ((gL S 29 (ix r26)) + ((gL S 28 (ix v8)) * r25.toInt64))) 29 (ix r30) ((gL (pL S 29 (ix r26) ((gL S 29 (ix r26)) + ((gL S 28 (ix v8)) * r25.toInt64))) 29 (ix r30)) + ((gL (pL S 29 (ix r26) ((gL S 29 (ix r26)) + ((gL S 28 (ix v8)) * r25.toInt64))) 28 (ix v8)) * (v6.toInt64 - r25.toInt64)))) fun S34 =>
        gX12_stair_L172 v1 v3 v4 v5 v6 v7 n S34 (v8 + (1 : Int32))
def gX12_stair_L271 (v1 : Int32) (v3 : Int32) (v4 : Int32) (v5 : Int32) (v6 : Int32) (v7 : Int32) : Nat → zM → Int32 → Option zM
  | 0, _, _ => none
  | n + 1, S, v8 =>
    if (400 : Int32) < v8 then
      some S
    else
      ck (ixb v8 401) <|
      ck (ixb v8 401) <|
      gX12_stair_L271 v1 v3 v4 v5 v6 v7 n (pL S 28 (ix v8) (gL S 29 (ix v8))) (v8 + (1 : Int32))
def gX12_stair_L137 (v1 : Int32) (v3 : Int32) (v4 : Int32) (v5 : Int32) (v6 : Int32) : Nat → zM → Int32 → Option (Int64 × zM)
  | 0, _, _ => none
  | n + 1, S, v7 =>
    if v4 ≤ v7 then
      ck (ixb v5 401) <|
      some ((gL S 28 (ix v5)), S)
    else
      b1 (gX12_stair_L147 v1 v3 v4 v5 v6 v7 FU S (1 : Int32)) fun S23 =>
      b1 (gX12_stair_L172 v1 v3 v4 v5 v6 v7 FU S23 (1 : Int32)) fun S35 =>
      b1 (gX12_stair_L271 v1 v3 v4 v5 v6 v7 FU S35 (1 : Int32)) fun S38 =>
      gX12_stair_L137 v1 v3 v4 v5 v6 n S38 (v7 + (1 : Int32))
def gX12_stair (S : zM) (a1 : Int32) (a2 : Int32) (a3 : Int32) (a4 : Int32) (a5 : Int32) : Option (Int64 × zM) :=
    b1 (gX12_good S) fun S2 =>
    b1 (gX12_isSayer S2 a1) fun r3 =>
    if r3 = 0 then
      b2 (gX12_no S2 (1 : Int32)) fun r41 S42 =>
      some (r41.toInt64, S42)
    else
      b1 (gX12_within a2 (1 : Int32) (400 : Int32)) fun r4 =>
      if r4 = 0 then
        b2 (gX12_no S2 (2 : Int32)) fun r5 S6 =>
        some (r5.toInt64, S6)
      else
        b1 (gX12_within a3 (1 : Int32) (400 : Int32)) fun r7 =>
        if r7 = 0 then
          b2 (gX12_no S2 (2 : Int32)) fun r8 S9 =>
          some (r8.toInt64, S9)
        else
          b1 (gX12_within a4 (1 : Int32) (9 : Int32)) fun r10 =>
          if r10 = 0 then
            b2 (gX12_no S2 (2 : Int32)) fun r11 S12 =>
            some (r11.toInt64, S12)
          else
            b1 (gX12_within a5 (1 : Int32) (400 : Int32)) fun r13 =>
            if r13 = 0 then
              b2 (gX12_no S2 (2 : Int32)) fun r39 S40 =>
              some (r39.toInt64, S40)
            else
              ck (ixb ((120 : Int32) + a1) 463) <|
              ck (ixb ((120 : Int32) + a1) 463) <|
              b1 (gX12_fullOf S2 (gI S2 3 (ix ((120 : Int32) + a1)))) fun r16 =>
              b1 (gX12_all S2 (gI S2 3 (ix ((120 : Int32) + a1))) r16) fun r17 =>
              b1 (gX12_stair_L102 a1 a2 a3 a4 a5 r17 FU S2 (1 : Int32)) fun S20 =>
              gX12_stair_L137 a1 a3 a4 a5 r17 FU S20 (0 : Int32)
def gX12_image (S : zM) (a1 : Int32) : Option (Int64 × zM) :=
    b1 (gX12_good S) fun S2 =>
    b1 (gX12_isSayer S2 a1) fun r3 =>
    if r3 = 0 then
      b2 (gX12_no S2 (1 : Int32)) fun r9 S10 =>
      some (r9.toInt64, S10)
    else
      ck (ixb a1 6) <|
      if (gI S2 6 (ix a1)) ≤ (4095 : Int32) then
        ck (ixb a1 6) <|
        ck (ixb a1 6) <|
        some (((gI S2 0 20).toInt64 + ((65537 : Int64) * ((gI S2 7 (ix a1)).toInt64 + ((4096 : Int64) * (gI S2 6 (ix a1)).toInt64)))), S2)
      else
        b2 (gX12_no S2 (3 : Int32)) fun r7 S8 =>
        some (r7.toInt64, S8)
def gX12_restore (S : zM) (a1 : Int32) (a2 : Int64) : Option (Int32 × zM) :=
    b1 (gX12_good S) fun S2 =>
    b1 (gX12_isSayer S2 a1) fun r3 =>
    if r3 = 0 then
      b2 (gX12_isNot S2 (1 : Int32)) fun r18 S19 =>
      ck (isB r18) <|
      some (r18, S19)
    else
      if (0 : Int64) ≤ a2 then
        lt ((a2 / (65537 : Int64)) - (a2 / (65537 : Int64)) / (4096 : Int64) * (4096 : Int64)) fun x4 =>
        lt ((a2 / (65537 : Int64)) / (4096 : Int64)) fun x5 =>
        if (4095 : Int64) < x5 then
          b2 (gX12_isNot S2 (2 : Int32)) fun r6 S7 =>
          ck (isB r6) <|
          some (r6, S7)
        else
          if x4 ≤ x5 then
            ck (ixb a1 6) <|
            lt (pI (pI S2 0 20 ((a2 - a2 / (65537 : Int64) * (65537 : Int64)).toInt32)) 7 (ix a1) x4.toInt32) fun S10 =>
            ck (ixb a1 6) <|
            some ((1 : Int32), (pI S10 6 (ix a1) x5.toInt32))
          else
            b2 (gX12_isNot S2 (2 : Int32)) fun r12 S13 =>
            ck (isB r12) <|
            some (r12, S13)
      else
        b2 (gX12_isNot S2 (2 : Int32)) fun r15 S16 =>
        ck (isB r15) <|
        some (r15, S16)
def gX12_clear (S : zM) : Option (Int32 × zM) :=
    lt (gI (pI S 0 0 (0 : Int32)) 0 21) fun x1 =>
    some (x1, (pI (pI S 0 0 (0 : Int32)) 0 21 (0 : Int32)))
def gX12_size (S : zM) (a1 : Int32) : Option (Int32 × zM) :=
    if a1 = (0 : Int32) then
      if (gI (pI S 0 0 (0 : Int32)) 0 14) = 0 then
        some ((0 : Int32), (pI S 0 0 (0 : Int32)))
      else
        ck (ixb (238 : Int32) 463) <|
        some ((gI (pI S 0 0 (0 : Int32)) 3 (ix (238 : Int32))), (pI S 0 0 (0 : Int32)))
    else
    if a1 = (1 : Int32) then
      if (gI (pI S 0 0 (0 : Int32)) 0 14) = 0 then
        some ((0 : Int32), (pI S 0 0 (0 : Int32)))
      else
        ck (ixb (239 : Int32) 463) <|
        some ((gI (pI S 0 0 (0 : Int32)) 3 (ix (239 : Int32))), (pI S 0 0 (0 : Int32)))
    else
    if a1 = (2 : Int32) then
      if (gI (pI S 0 0 (0 : Int32)) 0 14) = 0 then
        some ((0 : Int32), (pI S 0 0 (0 : Int32)))
      else
        ck (ixb (240 : Int32) 463) <|
        some ((gI (pI S 0 0 (0 : Int32)) 3 (ix (240 : Int32))), (pI S 0 0 (0 : Int32)))
    else
    if a1 = (3 : Int32) then
      if (gI (pI S 0 0 (0 : Int32)) 0 14) = 0 then
        some ((0 : Int32), (pI S 0 0 (0 : Int32)))
      else
        ck (ixb (241 : Int32) 463) <|
        some ((gI (pI S 0 0 (0 : Int32)) 3 (ix (241 : Int32))), (pI S 0 0 (0 : Int32)))
    else
    if a1 = (4 : Int32) then
      some ((gI (pI S 0 0 (0 : Int32)) 0 21), (pI S 0 0 (0 : Int32)))
    else
    if a1 = (5 : Int32) then
      some ((gI (pI S 0 0 (0 : Int32)) 0 20), (pI S 0 0 (0 : Int32)))
    else
    if a1 = (6 : Int32) then
      some ((gI (pI S 0 0 (0 : Int32)) 0 2), (pI S 0 0 (0 : Int32)))
    else
      some ((-1 : Int32), (pI S 0 0 (0 : Int32)))
def gX12_trouble (S : zM) : Option (Int32 × zM) :=
    some ((gI (pI S 0 0 (0 : Int32)) 0 11), (pI S 0 0 (0 : Int32)))
