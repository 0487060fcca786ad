def gX0_put_J32 (S : zM) (v2 : Int32) (v5 : Int32) (s0 : Int32) : Option zM :=
    if v2 = (2 : Int32) then
      some (pI (pI S 456 6 s0) 456 7 v5)
    else
      if v2 = (5 : Int32) then
        some (pI (pI S 456 6 s0) 456 7 v5)
      else
        some (pI (pI S 456 6 s0) 456 7 (0 : Int32))
def gX0_put (S : zM) (a1 : Int32) (a2 : Int32) (a3 : Int32) (a4 : Int32) (a5 : Int32) : Option zM :=
    if a2 = (1 : Int32) then
      gX0_put_J32 (pI (pI (pI S 456 3 a1) 456 4 a2) 456 5 a3) a2 a5 (0 : Int32)
    else
      if a2 = (3 : Int32) then
        gX0_put_J32 (pI (pI (pI S 456 3 a1) 456 4 a2) 456 5 a3) a2 a5 (0 : Int32)
      else
        gX0_put_J32 (pI (pI (pI S 456 3 a1) 456 4 a2) 456 5 a3) a2 a5 a4
def gX11_isSize (a0 : Int32) : Option Int32 :=
    if a0 < (1 : Int32) then
      some (0 : Int32)
    else
      if (400 : Int32) < a0 then
        some (0 : Int32)
      else
        some (1 : Int32)
def gX0_isInBounds_J105 (S : zM) (v1 : Int32) (v2 : Int32) (s0 : Int32) : Option Int32 :=
    if v1 = 0 then
      some (0 : Int32)
    else
      if v2 = 0 then
        some (0 : Int32)
      else
        if (gI S 456 7) < 0 then
          some (0 : Int32)
        else
          if s0 < (gI S 456 7) then
            some (0 : Int32)
          else
            some (1 : Int32)
def gX0_isInBounds_J79 (S : zM) (v1 : Int32) (s0 : Int32) : Option Int32 :=
    if (gI S 456 4) = (2 : Int32) then
      gX0_isInBounds_J105 S v1 s0 (2 : Int32)
    else
      if (gI S 456 4) = (5 : Int32) then
        gX0_isInBounds_J105 S v1 s0 (1 : Int32)
      else
        gX0_isInBounds_J105 S v1 s0 (0 : Int32)
def gX0_isInBounds_J40 (S : zM) (s0 : Int32) : Option Int32 :=
    if (gI S 456 4) = 0 then
      b1 (gX11_isSize (gI S 456 6)) fun r2 =>
      if r2 = 0 then
        gX0_isInBounds_J79 S s0 (0 : Int32)
      else
        gX0_isInBounds_J79 S s0 (1 : Int32)
    else
      if (gI S 456 4) = (2 : Int32) then
        b1 (gX11_isSize (gI S 456 6)) fun r3 =>
        if r3 = 0 then
          gX0_isInBounds_J79 S s0 (0 : Int32)
        else
          gX0_isInBounds_J79 S s0 (1 : Int32)
      else
        if (gI S 456 4) = (5 : Int32) then
          b1 (gX11_isSize (gI S 456 6)) fun r4 =>
          if r4 = 0 then
            gX0_isInBounds_J79 S s0 (0 : Int32)
          else
            gX0_isInBounds_J79 S s0 (1 : Int32)
        else
          gX0_isInBounds_J79 S s0 (1 : Int32)
def gX0_isInBounds (S : zM) : Option Int32 :=
    if (gI S 456 4) = (1 : Int32) then
      if (gI S 456 5) < 0 then
        gX0_isInBounds_J40 S (0 : Int32)
      else
        if (400 : Int32) < (gI S 456 5) then
          gX0_isInBounds_J40 S (0 : Int32)
        else
          gX0_isInBounds_J40 S (1 : Int32)
    else
      b1 (gX11_isSize (gI S 456 5)) fun r1 =>
      gX0_isInBounds_J40 S r1
def gX0_canBe_J42 (S : zM) (v1 : Int32) (v2 : Int32) (s0 : Int32) : Option Int32 :=
    if v1 < 0 then
      some (0 : Int32)
    else
      if v2 = 0 then
        if s0 < v1 then
          some (0 : Int32)
        else
          some (1 : Int32)
      else
        some (1 : Int32)
def gX0_canBe_J21 (S : zM) (v1 : Int32) (s0 : Int32) : Option Int32 :=
    if (gI S 456 4) = 0 then
      gX0_canBe_J42 S v1 s0 (2 : Int32)
    else
      if (gI S 456 4) = (2 : Int32) then
        gX0_canBe_J42 S v1 s0 (2 : Int32)
      else
        gX0_canBe_J42 S v1 s0 (1 : Int32)
def gX0_canBe (S : zM) (a1 : Int32) : Option Int32 :=
    if (gI S 456 4) = (3 : Int32) then
      gX0_canBe_J21 S a1 (1 : Int32)
    else
      if (gI S 456 4) = (4 : Int32) then
        gX0_canBe_J21 S a1 (1 : Int32)
      else
        gX0_canBe_J21 S a1 (0 : Int32)
def gX0_feelings (S : zM) : Option Int32 :=
    if (gI S 456 4) = (2 : Int32) then
      some (3 : Int32)
    else
      if (gI S 456 4) = 0 then
        some (2 : Int32)
      else
        if (gI S 456 4) = (5 : Int32) then
          some (2 : Int32)
        else
          some (1 : Int32)
def gX9_levelAt (S : zM) (q : Nat) (a1 : Int32) : Option Int32 :=
    if a1 < 0 then
      some (0 : Int32)
    else
      if a1 ≤ (400 : Int32) then
        ck (ixb a1 401) <|
        some (gI S (q + 5) (ix a1))
      else
        some (0 : Int32)
def gX0_levelOf_J34 (S : zM) (s0 : Int32) : Option Int32 :=
    ck (zobb cW 9 (gR S 456 1)) <|
    if s0 = 0 then
      b1 (gX9_levelAt S (gR S 456 1) (gI S 456 5)) fun r2 =>
      some r2
    else
      b1 (gX9_levelAt S (gR S 456 1) (gI S 456 6)) fun r3 =>
      some r3
def gX0_levelOf (S : zM) (a1 : Int32) : Option Int32 :=
    if (gI S 456 4) = (2 : Int32) then
      if a1 = (gI S 456 7) then
        gX0_levelOf_J34 S (1 : Int32)
      else
        gX0_levelOf_J34 S (0 : Int32)
    else
      if a1 = (1 : Int32) then
        gX0_levelOf_J34 S (1 : Int32)
      else
        gX0_levelOf_J34 S (0 : Int32)
def gX8_tired (S : zM) (q : Nat) : Option Int32 :=
    if (1 : Int32) ≤ (gI S q 4) then
      ck (decide (¬ (gI S q 4) = 0)) <|
      some ((gI S q 9) / (gI S q 4))
    else
      some (0 : Int32)
def gX0_knownSaid_J14 (S : zM) (s0 : Int32) : Option Int32 :=
    if s0 ≤ (2 : Int32) then
      some (gI S 456 7)
    else
      some ((1 : Int32) - (gI S 456 7))
def gX0_knownSaid (S : zM) (a1 : Int32) : Option Int32 :=
    if (gI S 456 7) = (1 : Int32) then
      gX0_knownSaid_J14 S (-a1)
    else
      gX0_knownSaid_J14 S a1
def gX0_pairSaid (S : zM) (a1 : Int32) : Option Int32 :=
    if a1 = 0 then
      ck (zobb cW 8 (gR S 456 0)) <|
      if (gI S (gR S 456 0) 6) = 0 then
        some (2 : Int32)
      else
        some (1 : Int32)
    else
      if a1 ≤ 0 then
        some (0 : Int32)
      else
        some (1 : Int32)
def gX0_oddPlace (a0 : Int32) (a1 : Int32) (a2 : Int32) : Option Int32 :=
    lt (jabs (((3 : Int32) * a0) - ((a0 + a1) + a2))) fun x1 =>
    lt (jabs (((3 : Int32) * a1) - ((a0 + a1) + a2))) fun x2 =>
    lt (jabs (((3 : Int32) * a2) - ((a0 + a1) + a2))) fun x3 =>
    if x2 ≤ x1 then
      if x3 ≤ (jmax x1 x2) then
        some (0 : Int32)
      else
        some (2 : Int32)
    else
      if x3 ≤ (jmax x1 x2) then
        some (1 : Int32)
      else
        some (2 : Int32)
def gX8_inLikedNumbers_L21 (S : zM) (v0 : Nat) (v1 : Int32) : Nat → Int32 → Int32 → Option Int32
  | 0, _, _ => none
  | n + 1, v2, v3 =>
    if (gI S v0 7) ≤ v3 then
      some v2
    else
      if (6 : Int32) ≤ v3 then
        some v2
      else
        ck (ixb v3 6) <|
        lt (jabs ((gI S (v0 + 1) (ix v3)) - v1)) fun x4 =>
        if x4 < (jabs (v2 - v1)) then
          ck (ixb v3 6) <|
          gX8_inLikedNumbers_L21 S v0 v1 n (gI S (v0 + 1) (ix v3)) (v3 + (1 : Int32))
        else
          if x4 = (jabs (v2 - v1)) then
            ck (ixb v3 6) <|
            if v2 ≤ (gI S (v0 + 1) (ix v3)) then
              gX8_inLikedNumbers_L21 S v0 v1 n v2 (v3 + (1 : Int32))
            else
              ck (ixb v3 6) <|
              gX8_inLikedNumbers_L21 S v0 v1 n (gI S (v0 + 1) (ix v3)) (v3 + (1 : Int32))
          else
            gX8_inLikedNumbers_L21 S v0 v1 n v2 (v3 + (1 : Int32))
def gX8_inLikedNumbers (S : zM) (q : Nat) (a1 : Int32) : Option Int32 :=
    if (1 : Int32) ≤ (gI S q 7) then
      ck (ixb (0 : Int32) 6) <|
      lt (gI S (q + 1) (ix (0 : Int32))) fun x2 =>
      gX8_inLikedNumbers_L21 S q a1 FU x2 (1 : Int32)
    else
      gX8_inLikedNumbers_L21 S q a1 FU a1 (1 : Int32)
def gX9_nearest_L4 (S : zM) (v0 : Nat) (v1 : Int32) : Nat → Int32 → Int32 → Option Int32
  | 0, _, _ => none
  | n + 1, v2, v3 =>
    if (400 : Int32) < v3 then
      some v2
    else
      ck (ixb v3 401) <|
      ck (ixb v2 401) <|
      if (jabs ((gI S (v0 + 5) (ix v2)) - v1)) ≤ (jabs ((gI S (v0 + 5) (ix v3)) - v1)) then
        gX9_nearest_L4 S v0 v1 n v2 (v3 + (1 : Int32))
      else
        gX9_nearest_L4 S v0 v1 n v3 (v3 + (1 : Int32))
def gX9_nearest (S : zM) (q : Nat) (a1 : Int32) : Option Int32 :=
    gX9_nearest_L4 S q a1 FU (1 : Int32) (2 : Int32)
def gX0_said (S : zM) (a1 : Int32) (a2 : Int32) (a3 : Int32) : Option Int32 :=
    if (gI S 456 4) = (0 : Int32) then
      ck (zobb cW 8 (gR S 456 0)) <|
      ck (zobb cW 8 (gR S 456 0)) <|
      b1 (gX8_tired S (gR S 456 0)) fun r3 =>
      b1 (gX0_pairSaid S (((a2 + (gI S (gR S 456 0) 3)) + r3) - a1)) fun r4 =>
      some r4
    else
    if (gI S 456 4) = (1 : Int32) then
      ck (zobb cW 8 (gR S 456 0)) <|
      ck (zobb cW 8 (gR S 456 0)) <|
      b1 (gX8_tired S (gR S 456 0)) fun r7 =>
      if a1 ≤ ((gI S (gR S 456 0) 2) + r7) then
        some (0 : Int32)
      else
        some (1 : Int32)
    else
    if (gI S 456 4) = (2 : Int32) then
      b1 (gX0_oddPlace a1 a2 a3) fun r8 =>
      some r8
    else
    if (gI S 456 4) = (3 : Int32) then
      ck (zobb cW 8 (gR S 456 0)) <|
      b1 (gX8_inLikedNumbers S (gR S 456 0) (jmax (0 : Int32) a1)) fun r10 =>
      some r10
    else
    if (gI S 456 4) = (4 : Int32) then
      ck (zobb cW 9 (gR S 456 2)) <|
      b1 (gX9_nearest S (gR S 456 2) a1) fun r12 =>
      some r12
    else
      ck (zobb cW 8 (gR S 456 0)) <|
      ck (zobb cW 8 (gR S 456 0)) <|
      b1 (gX8_tired S (gR S 456 0)) fun r15 =>
      b1 (gX0_knownSaid S (((a2 + (gI S (gR S 456 0) 3)) + r15) - a1)) fun r16 =>
      some r16
def gX0_wholeOdds_L4 (S : zM) (v1 : Nat) : Nat → Int32 → Int32 → Option Int32
  | 0, _, _ => none
  | n + 1, v2, v3 =>
    b1 (gX0_feelings S) fun r1 =>
    if r1 ≤ v3 then
      some v2
    else
      gX0_wholeOdds_L4 S v1 n (v2 * (gI S v1 3)) (v3 + (1 : Int32))
def gX0_wholeOdds (S : zM) (a1 : Nat) : Option Int32 :=
    gX0_wholeOdds_L4 S a1 FU (1 : Int32) (0 : Int32)
def gX4_oftenAt (S : zM) (q : Nat) (a1 : Int32) : Option Int32 :=
    if a1 < (-5 : Int32) then
      some (0 : Int32)
    else
      if a1 ≤ (5 : Int32) then
        ck (ixb (a1 + (5 : Int32)) 11) <|
        some (gI S (q + 1) (ix (a1 + (5 : Int32))))
      else
        some (0 : Int32)
def gX0_oftenAt (S : zM) (a1 : Nat) (a2 : Int32) (a3 : Int32) : Option Int32 :=
    b1 (gX0_feelings S) fun r1 =>
    if r1 ≤ a2 then
      if a3 = 0 then
        some (1 : Int32)
      else
        some (0 : Int32)
    else
      b1 (gX4_oftenAt S a1 a3) fun r2 =>
      some r2
def gX0_lastOdds_L7 (S : zM) (v1 : Nat) (v2 : Int32) (v3 : Int32) (v4 : Int32) : Nat → Int32 → Int32 → Option Int32
  | 0, _, _ => none
  | n + 1, v5, v6 =>
    if (5 : Int32) < v6 then
      some v5
    else
      b1 (gX0_oftenAt S v1 (2 : Int32) v6) fun r1 =>
      if r1 ≤ 0 then
        gX0_lastOdds_L7 S v1 v2 v3 v4 n v5 (v6 + (1 : Int32))
      else
        b1 (gX0_levelOf S (2 : Int32)) fun r2 =>
        b1 (gX0_said S v3 v4 (r2 + v6)) fun r3 =>
        if r3 = v2 then
          gX0_lastOdds_L7 S v1 v2 v3 v4 n (v5 + r1) (v6 + (1 : Int32))
        else
          gX0_lastOdds_L7 S v1 v2 v3 v4 n v5 (v6 + (1 : Int32))
def gX0_lastOdds (S : zM) (a1 : Nat) (a2 : Int32) (a3 : Int32) (a4 : Int32) : Option Int32 :=
    gX0_lastOdds_L7 S a1 a2 a3 a4 FU (0 : Int32) (-5 : Int32)
def gX0_oddsOf_L26 (S : zM) (v1 : Nat) (v2 : Int32) (v4 : Int32) (v5 : Int32) : Nat → Int32 → Int32 → Option Int32
  | 0, _, _ => none
  | n + 1, v3, v6 =>
    if v5 ≤ 0 then
      some v3
    else
      if (5 : Int32) < v6 then
        some v3
      else
        b1 (gX0_oftenAt S v1 (1 : Int32) v6) fun r2 =>
        if (v5 * r2) ≤ 0 then
          gX0_oddsOf_L26 S v1 v2 v4 v5 n v3 (v6 + (1 : Int32))
        else
          b1 (gX0_levelOf S (0 : Int32)) fun r3 =>
          b1 (gX0_levelOf S (1 : Int32)) fun r4 =>
          b1 (gX0_lastOdds S v1 v2 (r3 + v4) (r4 + v6)) fun r5 =>
          gX0_oddsOf_L26 S v1 v2 v4 v5 n (v3 + ((v5 * r2) * r5)) (v6 + (1 : Int32))
def gX0_oddsOf_L6 (S : zM) (v1 : Nat) (v2 : Int32) : Nat → Int32 → Int32 → Option Int32
  | 0, _, _ => none
  | n + 1, v3, v4 =>
    if (5 : Int32) < v4 then
      some v3
    else
      b1 (gX0_oftenAt S v1 (0 : Int32) v4) fun r1 =>
      b1 (gX0_oddsOf_L26 S v1 v2 v4 r1 FU v3 (-5 : Int32)) fun w6 =>
      gX0_oddsOf_L6 S v1 v2 n w6 (v4 + (1 : Int32))
def gX0_oddsOf (S : zM) (a1 : Nat) (a2 : Int32) : Option Int32 :=
    gX0_oddsOf_L6 S a1 a2 FU (0 : Int32) (-5 : Int32)
def gX1_holds (S : zM) (a1 : Int32) : Option Int32 :=
    if (1000 : Int32) < ((gI S 219 2) + a1) then
      some (0 : Int32)
    else
      some (1 : Int32)
def gJ7_fill_53178_L5 (v0 : Nat) (nv0 : Nat) (v1 : Int32) (v3 : Int32) : Nat → zM → Int32 → Option zM
  | 0, _, _ => none
  | n + 1, S, v2 =>
    if v3 ≤ v2 then
      some S
    else
      ck (ixb v2 nv0) <|
      gJ7_fill_53178_L5 v0 nv0 v1 v3 n (pI S v0 (ix v2) v1) (v2 + (1 : Int32))
def gJ7_fill_53178 (S : zM) (a0 : Nat) (na0 : Nat) (a1 : Int32) : Option zM :=
    gJ7_fill_53178_L5 a0 na0 a1 (Int32.ofNat na0) FU S (0 : Int32)
def gX2_empty (S : zM) : Option zM :=
    b1 (gJ7_fill_53178 (pI S 221 7 (0 : Int32)) 222 2048 (0 : Int32)) fun S2 =>
    some S2
def gX1_empty (S : zM) : Option zM :=
    b1 (gX2_empty (pI S 219 2 (0 : Int32))) fun S2 =>
    some S2
def gJ9_floorMod_7cf53 (a0 : Int32) (a1 : Int32) : Option Int32 :=
    ck (decide (¬ a1 = 0)) <|
    if 0 ≤ (a0 ^^^ a1) then
      some (a0 - a0 / a1 * a1)
    else
      if (a0 - a0 / a1 * a1) = 0 then
        some (a0 - a0 / a1 * a1)
      else
        some ((a0 - a0 / a1 * a1) + a1)
def gX2_isOf (S : zM) (a2 : Int32) : Option Int32 :=
    if a2 < 0 then
      some (0 : Int32)
    else
      if (1000 : Int32) ≤ a2 then
        some (0 : Int32)
      else
        ck (ixb a2 1000) <|
        if (gI S 223 (ix a2)) = (gI S 456 3) then
          ck (ixb a2 1000) <|
          if (gI S 224 (ix a2)) = (gI S 456 4) then
            ck (ixb a2 1000) <|
            if (gI S 225 (ix a2)) = (gI S 456 5) then
              ck (ixb a2 1000) <|
              if (gI S 226 (ix a2)) = (gI S 456 6) then
                some (1 : Int32)
              else
                some (0 : Int32)
            else
              some (0 : Int32)
          else
            some (0 : Int32)
        else
          some (0 : Int32)
def gX2_slotOf_L44 (S : zM) : Nat → Int32 → Int32 → Option Int32
  | 0, _, _ => none
  | n + 1, v3, v4 =>
    if (2048 : Int32) ≤ v4 then
      some (-1 : Int32)
    else
      ck (ixb v3 2048) <|
      if (gI S 222 (ix v3)) = 0 then
        some v3
      else
        ck (ixb v3 2048) <|
        b1 (gX2_isOf S ((gI S 222 (ix v3)) - (1 : Int32))) fun r5 =>
        if r5 = 0 then
          lt ((v3 + (1 : Int32)) - (v3 + (1 : Int32)) / (2048 : Int32) * (2048 : Int32)) fun x6 =>
          gX2_slotOf_L44 S n x6 (v4 + (1 : Int32))
        else
          some v3
def gX2_slotOf (S : zM) : Option Int32 :=
    lt (((((((gI S 456 3) * (2 : Int32)) + (gI S 456 4)) * (401 : Int32)) + (gI S 456 5)) * (401 : Int32)) + (gI S 456 6)) fun x1 =>
    b1 (gJ9_floorMod_7cf53 (x1 * (31 : Int32)) (2048 : Int32)) fun r2 =>
    gX2_slotOf_L44 S FU r2 (0 : Int32)
def gX2_open_L86 (v3 : Int32) : Nat → zM → Int32 → Option zM
  | 0, _, _ => none
  | n + 1, S, v4 =>
    if (3 : Int32) ≤ v4 then
      some S
    else
      ck (ixb ((v3 * (3 : Int32)) + v4) 3000) <|
      gX2_open_L86 v3 n (pI S 228 (ix ((v3 * (3 : Int32)) + v4)) (0 : Int32)) (v4 + (1 : Int32))
def gX2_open (S : zM) (a2 : Int32) : Option zM :=
    if (gI S 221 7) < (1000 : Int32) then
      ck (ixb a2 2048) <|
      lt (pI (pI S 221 7 ((gI S 221 7) + (1 : Int32))) 222 (ix a2) (gI (pI S 221 7 ((gI S 221 7) + (1 : Int32))) 221 7)) fun S2 =>
      ck (ixb (gI S 221 7) 1000) <|
      ck (ixb (gI S 221 7) 1000) <|
      lt (pI (pI S2 223 (ix (gI S 221 7)) (gI S2 456 3)) 224 (ix (gI S 221 7)) (gI (pI S2 223 (ix (gI S 221 7)) (gI S2 456 3)) 456 4)) fun S5 =>
      ck (ixb (gI S 221 7) 1000) <|
      ck (ixb (gI S 221 7) 1000) <|
      lt (pI (pI S5 225 (ix (gI S 221 7)) (gI S5 456 5)) 226 (ix (gI S 221 7)) (gI (pI S5 225 (ix (gI S 221 7)) (gI S5 456 5)) 456 6)) fun S8 =>
      ck (ixb (gI S 221 7) 1000) <|
      gX2_open_L86 (gI S 221 7) FU (pI S8 227 (ix (gI S 221 7)) (0 : Int32)) (0 : Int32)
    else
      some S
def gX2_put_J35 (S : zM) (v2 : Int32) (v3 : Int32) : Option zM :=
    ck (ixb v3 2048) <|
    lt ((gI S 222 (ix v3)) - (1 : Int32)) fun x13 =>
    if x13 < 0 then
      some S
    else
      ck (ixb x13 1000) <|
      ck (ixb x13 1000) <|
      ck (ixb ((x13 * (3 : Int32)) + v2) 3000) <|
      ck (ixb ((x13 * (3 : Int32)) + v2) 3000) <|
      lt (pI (pI S 227 (ix x13) ((gI S 227 (ix x13)) + (1 : Int32))) 228 (ix ((x13 * (3 : Int32)) + v2)) ((gI (pI S 227 (ix x13) ((gI S 227 (ix x13)) + (1 : Int32))) 228 (ix ((x13 * (3 : Int32)) + v2))) + (1 : Int32))) fun S18 =>
      some S18
def gX2_put (S : zM) (a2 : Int32) : Option zM :=
    b1 (gX2_slotOf S) fun r1 =>
    if r1 < 0 then
      some S
    else
      if a2 < 0 then
        some S
      else
        if a2 < (3 : Int32) then
          ck (ixb r1 2048) <|
          if (gI S 222 (ix r1)) = 0 then
            b1 (gX2_open S r1) fun S11 =>
            gX2_put_J35 S11 a2 r1
          else
            ck (ixb r1 2048) <|
            lt ((gI S 222 (ix r1)) - (1 : Int32)) fun x4 =>
            if x4 < 0 then
              some S
            else
              ck (ixb x4 1000) <|
              ck (ixb x4 1000) <|
              ck (ixb ((x4 * (3 : Int32)) + a2) 3000) <|
              ck (ixb ((x4 * (3 : Int32)) + a2) 3000) <|
              lt (pI (pI S 227 (ix x4) ((gI S 227 (ix x4)) + (1 : Int32))) 228 (ix ((x4 * (3 : Int32)) + a2)) ((gI (pI S 227 (ix x4) ((gI S 227 (ix x4)) + (1 : Int32))) 228 (ix ((x4 * (3 : Int32)) + a2))) + (1 : Int32))) fun S9 =>
              some S9
        else
          some S
def gX1_put (S : zM) (a2 : Int32) : Option zM :=
    b1 (gX1_holds S (1 : Int32)) fun r1 =>
    if r1 = 0 then
      some S
    else
      ck (ixb ((gI S 219 2) * (6 : Int32)) 6000) <|
      ck (ixb (((gI S 219 2) * (6 : Int32)) + (1 : Int32)) 6000) <|
      lt (pI (pI S 220 (ix ((gI S 219 2) * (6 : Int32))) (gI S 456 3)) 220 (ix (((gI S 219 2) * (6 : Int32)) + (1 : Int32))) (gI (pI S 220 (ix ((gI S 219 2) * (6 : Int32))) (gI S 456 3)) 456 4)) fun S4 =>
      ck (ixb (((gI S 219 2) * (6 : Int32)) + (2 : Int32)) 6000) <|
      ck (ixb (((gI S 219 2) * (6 : Int32)) + (3 : Int32)) 6000) <|
      lt (pI (pI S4 220 (ix (((gI S 219 2) * (6 : Int32)) + (2 : Int32))) (gI S4 456 5)) 220 (ix (((gI S 219 2) * (6 : Int32)) + (3 : Int32))) (gI (pI S4 220 (ix (((gI S 219 2) * (6 : Int32)) + (2 : Int32))) (gI S4 456 5)) 456 6)) fun S7 =>
      ck (ixb (((gI S 219 2) * (6 : Int32)) + (4 : Int32)) 6000) <|
      ck (ixb (((gI S 219 2) * (6 : Int32)) + (5 : Int32)) 6000) <|
      lt (pI (pI S7 220 (ix (((gI S 219 2) * (6 : Int32)) + (4 : Int32))) (gI S7 456 7)) 220 (ix (((gI S 219 2) * (6 : Int32)) + (5 : Int32))) a2) fun S10 =>
      if (gI (pI S10 219 2 ((gI S10 219 2) + (1 : Int32))) 456 4) = 0 then
        b1 (gX2_put (pI S10 219 2 ((gI S10 219 2) + (1 : Int32))) a2) fun S12 =>
        some S12
      else
        if (gI (pI S10 219 2 ((gI S10 219 2) + (1 : Int32))) 456 4) = (1 : Int32) then
          b1 (gX2_put (pI S10 219 2 ((gI S10 219 2) + (1 : Int32))) a2) fun S14 =>
          some S14
        else
          some (pI S10 219 2 ((gI S10 219 2) + (1 : Int32)))
def gX1_rowAt (S : zM) (a1 : Int32) (a2 : Int32) : Option Int32 :=
    if a1 < 0 then
      some (-1 : Int32)
    else
      if (gI S 219 2) ≤ a1 then
        some (-1 : Int32)
      else
        if a2 < 0 then
          some (-1 : Int32)
        else
          if a2 < (6 : Int32) then
            ck (ixb ((a1 * (6 : Int32)) + a2) 6000) <|
            some (gI S 220 (ix ((a1 * (6 : Int32)) + a2)))
          else
            some (-1 : Int32)
def gX1_isOf (S : zM) (a2 : Int32) : Option Int32 :=
    if a2 < 0 then
      some (0 : Int32)
    else
      if (6000 : Int32) ≤ (a2 + (5 : Int32)) then
        some (0 : Int32)
      else
        ck (ixb a2 6000) <|
        if (gI S 220 (ix a2)) = (gI S 456 3) then
          ck (ixb (a2 + (1 : Int32)) 6000) <|
          if (gI S 220 (ix (a2 + (1 : Int32)))) = (gI S 456 4) then
            ck (ixb (a2 + (2 : Int32)) 6000) <|
            if (gI S 220 (ix (a2 + (2 : Int32)))) = (gI S 456 5) then
              ck (ixb (a2 + (3 : Int32)) 6000) <|
              if (gI S 220 (ix (a2 + (3 : Int32)))) = (gI S 456 6) then
                ck (ixb (a2 + (4 : Int32)) 6000) <|
                if (gI S 220 (ix (a2 + (4 : Int32)))) = (gI S 456 7) then
                  some (1 : Int32)
                else
                  some (0 : Int32)
              else
                some (0 : Int32)
            else
              some (0 : Int32)
          else
            some (0 : Int32)
        else
          some (0 : Int32)
def gX1_timesOf_L5 (S : zM) (v2 : Int32) : Nat → Int32 → Int32 → Option Int32
  | 0, _, _ => none
  | n + 1, v3, v4 =>
    if (gI S 219 2) ≤ v4 then
      some v3
    else
      b1 (gX1_isOf S (v4 * (6 : Int32))) fun r1 =>
      if r1 = 0 then
        gX1_timesOf_L5 S v2 n v3 (v4 + (1 : Int32))
      else
        if v2 = (-1 : Int32) then
          gX1_timesOf_L5 S v2 n (v3 + (1 : Int32)) (v4 + (1 : Int32))
        else
          ck (ixb ((v4 * (6 : Int32)) + (5 : Int32)) 6000) <|
          if (gI S 220 (ix ((v4 * (6 : Int32)) + (5 : Int32)))) = v2 then
            gX1_timesOf_L5 S v2 n (v3 + (1 : Int32)) (v4 + (1 : Int32))
          else
            gX1_timesOf_L5 S v2 n v3 (v4 + (1 : Int32))
def gX1_timesOf (S : zM) (a2 : Int32) : Option Int32 :=
    gX1_timesOf_L5 S a2 FU (0 : Int32) (0 : Int32)
def gX1_rowOf_L5 (S : zM) (v1 : Int32) (v2 : Int32) : Nat → Int32 → Int32 → Option Int32
  | 0, _, _ => none
  | n + 1, v3, v4 =>
    if (gI S 219 2) ≤ v4 then
      some (-1 : Int32)
    else
      b1 (gX1_rowAt S v4 (0 : Int32)) fun r1 =>
      if r1 = v1 then
        if v3 = v2 then
          some v4
        else
          gX1_rowOf_L5 S v1 v2 n (v3 + (1 : Int32)) (v4 + (1 : Int32))
      else
        gX1_rowOf_L5 S v1 v2 n v3 (v4 + (1 : Int32))
def gX1_rowOf (S : zM) (a1 : Int32) (a2 : Int32) : Option Int32 :=
    gX1_rowOf_L5 S a1 a2 FU (0 : Int32) (0 : Int32)
def gX2_isOverfull_L2 (S : zM) (v1 : Int32) : Nat → Int32 → Option Int32
  | 0, _ => none
  | n + 1, v2 =>
    if (gI S 221 7) ≤ v2 then
      some (0 : Int32)
    else
      ck (ixb v2 1000) <|
      if (gI S 223 (ix v2)) = v1 then
        ck (ixb v2 1000) <|
        if (gI S 227 (ix v2)) ≤ (40 : Int32) then
          gX2_isOverfull_L2 S v1 n (v2 + (1 : Int32))
        else
          some (1 : Int32)
      else
        gX2_isOverfull_L2 S v1 n (v2 + (1 : Int32))
def gX2_isOverfull (S : zM) (a1 : Int32) : Option Int32 :=
    gX2_isOverfull_L2 S a1 FU (0 : Int32)
def gX9_noiseWithout (S : zM) (q : Nat) (a1 : Int32) : Option Nat :=
    ck (ixb (jmax (0 : Int32) (jmin ((6 : Int32) - (1 : Int32)) (((gI S q 7) - (1 : Int32)) - a1))) 6) <|
    some (q + 7 + 4 * ix (jmax (0 : Int32) (jmin ((6 : Int32) - (1 : Int32)) (((gI S q 7) - (1 : Int32)) - a1))))
def gX9_fresh (S : zM) (q : Nat) : Option Nat :=
    b1 (gX9_noiseWithout S q (0 : Int32)) fun r1 =>
    some r1
def gX4_above (S : zM) (q : Nat) (a1 : Int32) : Option Int32 :=
    ck (ixb (jmax (0 : Int32) (jmin ((12 : Int32) - (1 : Int32)) ((a1 + (5 : Int32)) + (1 : Int32)))) 12) <|
    some (gI S (q + 2) (ix (jmax (0 : Int32) (jmin ((12 : Int32) - (1 : Int32)) ((a1 + (5 : Int32)) + (1 : Int32))))))
def gX4_aloneOdds (S : zM) (q : Nat) (a1 : Int32) (a2 : Int32) : Option Int32 :=
    if a2 = (1 : Int32) then
      b1 (gX4_above S q (-a1)) fun r2 =>
      some r2
    else
      b1 (gX4_above S q (-a1)) fun r1 =>
      some ((gI S q 3) - r1)
def gX10_setTo_L3 (v1 : Nat) (v2 : Int64) : Nat → zM → Int32 → Option zM
  | 0, _, _ => none
  | n + 1, S, v4 =>
    if (gI S 233 3) ≤ v4 then
      ck (ixb (0 : Int32) 15) <|
      some (pL S v1 (ix (0 : Int32)) v2)
    else
      ck (ixb v4 15) <|
      gX10_setTo_L3 v1 v2 n (pL S v1 (ix v4) (0 : Int64)) (v4 + (1 : Int32))
def gX10_setTo (S : zM) (a1 : Nat) (a2 : Int64) : Option zM :=
    gX10_setTo_L3 a1 a2 FU S (1 : Int32)
def gX10_multiply_L6 (v1 : Nat) (v2 : Int64) : Nat → zM → Int64 → Int32 → Option zM
  | 0, _, _, _ => none
  | n + 1, S, v4, v6 =>
    if (gI S 233 3) ≤ v6 then
      some S
    else
      ck (ixb v6 15) <|
      lt (v4 + ((gL S v1 (ix v6)) * v2)) fun x2 =>
      ck (ixb v6 15) <|
      lt ((x2.toUInt64 >>> ((40 : Int32).toInt64.toUInt64 &&& Int64.toUInt64 63)).toInt64) fun x4 =>
      gX10_multiply_L6 v1 v2 n (pL S v1 (ix v6) (x2 &&& (1099511627775 : Int64))) x4 (v6 + (1 : Int32))
def gX10_multiply (S : zM) (a1 : Nat) (a2 : Int64) : Option zM :=
    gX10_multiply_L6 a1 a2 FU S (0 : Int64) (0 : Int32)
def gX10_add_L5 (v1 : Nat) (v2 : Nat) : Nat → zM → Int64 → Int32 → Option zM
  | 0, _, _, _ => none
  | n + 1, S, v3, v5 =>
    if (gI S 233 3) ≤ v5 then
      some S
    else
      ck (ixb v5 15) <|
      ck (ixb v5 15) <|
      lt (v3 + ((gL S v1 (ix v5)) + (gL S v2 (ix v5)))) fun x3 =>
      ck (ixb v5 15) <|
      lt ((x3.toUInt64 >>> ((40 : Int32).toInt64.toUInt64 &&& Int64.toUInt64 63)).toInt64) fun x5 =>
      gX10_add_L5 v1 v2 n (pL S v1 (ix v5) (x3 &&& (1099511627775 : Int64))) x5 (v5 + (1 : Int32))
def gX10_add (S : zM) (a1 : Nat) (a2 : Nat) : Option zM :=
    gX10_add_L5 a1 a2 FU S (0 : Int64) (0 : Int32)
def gX10_isLess_L7 (S : zM) (v1 : Nat) (v2 : Nat) : Nat → Int32 → Option Int32
  | 0, _ => none
  | n + 1, v3 =>
    if v3 < 0 then
      some (0 : Int32)
    else
      ck (ixb v3 15) <|
      ck (ixb v3 15) <|
      if (gL S v1 (ix v3)) = (gL S v2 (ix v3)) then
        gX10_isLess_L7 S v1 v2 n (v3 + (-1 : Int32))
      else
        ck (ixb v3 15) <|
        ck (ixb v3 15) <|
        if (gL S v2 (ix v3)) ≤ (gL S v1 (ix v3)) then
          some (0 : Int32)
        else
          some (1 : Int32)
def gX10_isLess (S : zM) (a1 : Nat) (a2 : Nat) : Option Int32 :=
    gX10_isLess_L7 S a1 a2 FU ((gI S 233 3) - (1 : Int32))
def gX10_divide_L18 (v1 : Nat) (v2 : Int64) : Nat → zM → Int64 → Int32 → Option zM
  | 0, _, _, _ => none
  | n + 1, S, v4, v6 =>
    if v6 < 0 then
      some S
    else
      ck (ixb v6 15) <|
      lt ((v4 <<< ((40 : Int32).toInt64 &&& 63)) + (gL S v1 (ix v6))) fun x2 =>
      ck (decide (¬ v2 = 0)) <|
      ck (ixb v6 15) <|
      ck (decide (¬ v2 = 0)) <|
      gX10_divide_L18 v1 v2 n (pL S v1 (ix v6) (x2 / v2)) (x2 - x2 / v2 * v2) (v6 + (-1 : Int32))
def gX10_divide (S : zM) (a1 : Nat) (a2 : Int64) : Option zM :=
    if (1 : Int64) ≤ a2 then
      gX10_divide_L18 a1 a2 FU S (0 : Int64) ((gI S 233 3) - (1 : Int32))
    else
      some S
def gX10_worked_L48 (v1 : Int32) (v2 : Int32) (v3 : Int32) : Nat → zM → Int32 → Option zM
  | 0, _, _ => none
  | n + 1, S, v4 =>
    if v1 ≤ v4 then
      some S
    else
      b1 (gX10_multiply S 234 v3.toInt64) fun S7 =>
      b1 (gX10_multiply S7 235 v2.toInt64) fun S9 =>
      gX10_worked_L48 v1 v2 v3 n S9 (v4 + (1 : Int32))
def gX10_worked_L107 (v1 : Int32) (v2 : Int32) (v3 : Int32) : Nat → zM → Int32 → Int32 → Option (Int32 × zM)
  | 0, _, _, _ => none
  | n + 1, S, v4, v5 =>
    if v1 ≤ v5 then
      some (v4, S)
    else
      b1 (gX10_isLess S 236 234) fun r15 =>
      if r15 = 0 then
        some (v4, S)
      else
        b1 (gX10_multiply S 235 (v4.toInt64 * (v3 - v2).toInt64)) fun S17 =>
        b1 (gX10_divide S17 235 (((v1 - v4) + (1 : Int32)).toInt64 * v2.toInt64)) fun S19 =>
        b1 (gX10_add S19 236 235) fun S21 =>
        gX10_worked_L107 v1 v2 v3 n S21 (v4 + (-1 : Int32)) (v5 + (1 : Int32))
def gX10_worked (S : zM) (a1 : Int32) (a2 : Int32) (a3 : Int32) : Option (Int32 × zM) :=
    lt (pI S 233 3 (jmax (1 : Int32) (jmin (15 : Int32) ((((a1 * (14 : Int32)) + (25 : Int32)) / (40 : Int32)) + (1 : Int32))))) fun S1 =>
    b1 (gX10_setTo S1 234 (1 : Int64)) fun S3 =>
    b1 (gX10_setTo S3 235 (40 : Int64)) fun S5 =>
    b1 (gX10_worked_L48 a1 a2 a3 FU S5 (0 : Int32)) fun S10 =>
    b1 (gX10_setTo S10 236 (0 : Int64)) fun S12 =>
    b1 (gX10_add S12 236 235) fun S14 =>
    gX10_worked_L107 a1 a2 a3 FU S14 a1 (0 : Int32)
def gX10_greatest (S : zM) (a1 : Int32) (a2 : Int32) (a3 : Int32) : Option (Int32 × zM) :=
    if 0 < a2 then
      if a2 < a3 then
        lt ((((a3.toInt64 * (16384 : Int64)) + a2.toInt64) * (64 : Int64)) + a1.toInt64) fun x1 =>
        lt ((((x1 * (-7046029254386353131 : Int64)).toUInt64 >>> ((53 : Int32).toInt64.toUInt64 &&& Int64.toUInt64 63)).toInt64).toInt32) fun x2 =>
        ck (ixb x2 2048) <|
        if (gL S 237 (ix x2)) = x1 then
          ck (ixb x2 2048) <|
          some ((gI S 238 (ix x2)), S)
        else
          b2 (gX10_worked S a1 a2 a3) fun r5 S6 =>
          ck (ixb x2 2048) <|
          ck (ixb x2 2048) <|
          ck (ixb x2 2048) <|
          some ((gI (pL (pI S6 238 (ix x2) r5) 237 (ix x2) x1) 238 (ix x2)), (pL (pI S6 238 (ix x2) r5) 237 (ix x2) x1))
      else
        some (a1, S)
    else
      some ((0 : Int32), S)
def gX10_holds (S : zM) (a1 : Int32) (a2 : Int32) (a3 : Int32) (a4 : Int32) : Option (Int32 × zM) :=
    b2 (gX10_greatest S a1 a2 a3) fun r1 S2 =>
    if r1 < a4 then
      some ((0 : Int32), S2)
    else
      b2 (gX10_greatest S2 a1 (a3 - a2) a3) fun r3 S4 =>
      if r3 < (a1 - a4) then
        some ((0 : Int32), S4)
      else
        some ((1 : Int32), S4)
def gX2_lineLets_L58 (v1 : Int32) (v2 : Nat) (v3 : Int32) (v5 : Nat) (v6 : Int32) (v7 : Int32) : Nat → zM → Int32 → Option ((Int32 × zM) ⊕ zM)
  | 0, _, _ => none
  | n + 1, S, v8 =>
    if (1 : Int32) < v8 then
      some (.inr S)
    else
      ck (ixb v6 1000) <|
      b1 (gX4_aloneOdds S v5 v7 v8) fun r7 =>
      ck (ixb ((v6 * (3 : Int32)) + v8) 3000) <|
      b2 (gX10_holds S (gI S 227 (ix v6)) r7 (gI S v5 3) (gI S 228 (ix ((v6 * (3 : Int32)) + v8)))) fun r9 S10 =>
      if r9 = 0 then
        some (.inl ((0 : Int32), S10))
      else
        gX2_lineLets_L58 v1 v2 v3 v5 v6 v7 n S10 (v8 + (1 : Int32))
def gX2_lineLets_L9 (v1 : Int32) (v2 : Nat) (v3 : Int32) (v5 : Nat) : Nat → zM → Int32 → Option (Int32 × zM)
  | 0, _, _ => none
  | n + 1, S, v6 =>
    if (gI S 221 7) ≤ v6 then
      some ((1 : Int32), S)
    else
      ck (ixb v6 1000) <|
      if (gI S 223 (ix v6)) = v1 then
        ck (ixb v6 1000) <|
        if (gI S 224 (ix v6)) = (1 : Int32) then
          ck (ixb v6 1000) <|
          b1 (gX9_levelAt S v2 (gI S 225 (ix v6))) fun r5 =>
          lm (gX2_lineLets_L58 v1 v2 v3 v5 v6 (r5 - v3) FU S (0 : Int32)) fun S11 =>
          gX2_lineLets_L9 v1 v2 v3 v5 n S11 (v6 + (1 : Int32))
        else
          gX2_lineLets_L9 v1 v2 v3 v5 n S (v6 + (1 : Int32))
      else
        gX2_lineLets_L9 v1 v2 v3 v5 n S (v6 + (1 : Int32))
def gX2_lineLets (S : zM) (a1 : Int32) (a2 : Nat) (a3 : Int32) : Option (Int32 × zM) :=
    b1 (gX9_fresh S a2) fun r1 =>
    gX2_lineLets_L9 a1 a2 a3 r1 FU S (0 : Int32)
def gX4_pairsAbove (S : zM) (q : Nat) (a1 : Int32) : Option Int32 :=
    ck (ixb (jmax (0 : Int32) (jmin ((22 : Int32) - (1 : Int32)) ((a1 + (10 : Int32)) + (1 : Int32)))) 22) <|
    some (gI S (q + 3) (ix (jmax (0 : Int32) (jmin ((22 : Int32) - (1 : Int32)) ((a1 + (10 : Int32)) + (1 : Int32))))))
def gX4_pairs (S : zM) (q : Nat) : Option Int32 :=
    some ((gI S q 3) * (gI S q 3))
def gX4_pairOdds_J25 (S : zM) (v0 : Nat) (v3 : Int32) (v4 : Int32) (s0 : Int32) : Option Int32 :=
    if v3 = (0 : Int32) then
      b1 (gX4_pairs S v0) fun r3 =>
      some (r3 - v4)
    else
    if v3 = (1 : Int32) then
      some s0
    else
    if v3 = (2 : Int32) then
      some (v4 - s0)
    else
      some (0 : Int32)
def gX4_pairOdds (S : zM) (q : Nat) (a1 : Int32) (a2 : Int32) (a3 : Int32) : Option Int32 :=
    b1 (gX4_pairsAbove S q ((-a1) - (1 : Int32))) fun r1 =>
    if a2 = 0 then
      b1 (gX4_pairsAbove S q (-a1)) fun r2 =>
      gX4_pairOdds_J25 S q a3 r1 r2
    else
      gX4_pairOdds_J25 S q a3 r1 r1
def gX2_secondLets_L81 (v1 : Int32) (v2 : Nat) (v3 : Int32) (v4 : Int32) (v6 : Nat) (v7 : Int32) (v8 : Int32) (v9 : Int32) : Nat → zM → Int32 → Option ((Int32 × zM) ⊕ zM)
  | 0, _, _ => none
  | n + 1, S, v10 =>
    if v7 < v10 then
      some (.inr S)
    else
      ck (ixb v8 1000) <|
      b1 (gX4_pairOdds S v6 v9 v4 v10) fun r9 =>
      b1 (gX4_pairs S v6) fun r10 =>
      ck (ixb ((v8 * (3 : Int32)) + v10) 3000) <|
      b2 (gX10_holds S (gI S 227 (ix v8)) r9 r10 (gI S 228 (ix ((v8 * (3 : Int32)) + v10)))) fun r12 S13 =>
      if r12 = 0 then
        some (.inl ((0 : Int32), S13))
      else
        gX2_secondLets_L81 v1 v2 v3 v4 v6 v7 v8 v9 n S13 (v10 + (1 : Int32))
def gX2_secondLets_L21 (v1 : Int32) (v2 : Nat) (v3 : Int32) (v4 : Int32) (v6 : Nat) (v7 : Int32) : Nat → zM → Int32 → Option (Int32 × zM)
  | 0, _, _ => none
  | n + 1, S, v8 =>
    if (gI S 221 7) ≤ v8 then
      some ((1 : Int32), S)
    else
      ck (ixb v8 1000) <|
      if (gI S 223 (ix v8)) = v1 then
        ck (ixb v8 1000) <|
        if (gI S 224 (ix v8)) = 0 then
          ck (ixb v8 1000) <|
          b1 (gX9_levelAt S v2 (gI S 226 (ix v8))) fun r5 =>
          ck (ixb v8 1000) <|
          b1 (gX9_levelAt S v2 (gI S 225 (ix v8))) fun r7 =>
          lm (gX2_secondLets_L81 v1 v2 v3 v4 v6 v7 v8 ((r5 + v3) - r7) FU S (0 : Int32)) fun S14 =>
          gX2_secondLets_L21 v1 v2 v3 v4 v6 v7 n S14 (v8 + (1 : Int32))
        else
          gX2_secondLets_L21 v1 v2 v3 v4 v6 v7 n S (v8 + (1 : Int32))
      else
        gX2_secondLets_L21 v1 v2 v3 v4 v6 v7 n S (v8 + (1 : Int32))
def gX2_secondLets (S : zM) (a1 : Int32) (a2 : Nat) (a3 : Int32) (a4 : Int32) : Option (Int32 × zM) :=
    b1 (gX9_fresh S a2) fun r1 =>
    if a4 = 0 then
      gX2_secondLets_L21 a1 a2 a3 a4 r1 (2 : Int32) FU S (0 : Int32)
    else
      gX2_secondLets_L21 a1 a2 a3 a4 r1 (1 : Int32) FU S (0 : Int32)
def gX2_judge_L26 (v1 : Int32) (v2 : Int32) (v5 : Nat) (v6 : Int32) : Nat → zM → Int32 → Int32 → Option (Int32 × zM)
  | 0, _, _, _ => none
  | n + 1, S, v7, v8 =>
    if (10 : Int32) < v8 then
      some (v7, S)
    else
      b2 (gX2_lineLets S v1 v5 v8) fun r4 S5 =>
      if r4 = 0 then
        gX2_judge_L26 v1 v2 v5 v6 n S5 v7 (v8 + (1 : Int32))
      else
        ck (ixb ((v2 * (21 : Int32)) + v7) 126) <|
        gX2_judge_L26 v1 v2 v5 v6 n (pI S5 229 (ix ((v2 * (21 : Int32)) + v7)) v8) (v7 + (1 : Int32)) (v8 + (1 : Int32))
def gX2_judge_L77 (v1 : Int32) (v2 : Int32) (v5 : Nat) (v6 : Int32) (v7 : Int32) : Nat → zM → Int32 → Int32 → Option zM
  | 0, _, _, _ => none
  | n + 1, S, v8, v9 =>
    if (5 : Int32) < v9 then
      ck (ixb v2 6) <|
      ck (ixb v2 6) <|
      some (pI (pI S 231 (ix v2) v7) 232 (ix v2) v8)
    else
      if v7 ≤ 0 then
        gX2_judge_L77 v1 v2 v5 v6 v7 n S v8 (v9 + (1 : Int32))
      else
        b2 (gX2_secondLets S v1 v5 v9 v6) fun r11 S12 =>
        if r11 = 0 then
          gX2_judge_L77 v1 v2 v5 v6 v7 n S12 v8 (v9 + (1 : Int32))
        else
          ck (ixb ((v2 * (11 : Int32)) + v8) 66) <|
          gX2_judge_L77 v1 v2 v5 v6 v7 n (pI S12 230 (ix ((v2 * (11 : Int32)) + v8)) v9) (v8 + (1 : Int32)) (v9 + (1 : Int32))
def gX2_judge (S : zM) (a1 : Int32) (a2 : Int32) (a3 : Nat) : Option zM :=
    ck (ixb a2 6) <|
    ck (ixb a1 6) <|
    lt (gI S (a3 + 193 + 2 * ix a1) 6) fun x3 =>
    b1 (gX2_judge_L26 a1 a2 (a3 + 7 + 31 * ix a2) x3 FU S (0 : Int32) (-10 : Int32)) (un2 fun w7 S8 =>
    gX2_judge_L77 a1 a2 (a3 + 7 + 31 * ix a2) x3 w7 FU S8 (0 : Int32) (-5 : Int32))
def gX2_fitsOf (S : zM) (a1 : Int32) : Option Int32 :=
    ck (ixb a1 6) <|
    ck (ixb a1 6) <|
    some ((gI S 231 (ix a1)) * (gI S 232 (ix a1)))
def gX2_fitLine (S : zM) (a1 : Int32) (a2 : Int32) : Option Int32 :=
    if a2 < 0 then
      some (0 : Int32)
    else
      b1 (gX2_fitsOf S a1) fun r1 =>
      if a2 < r1 then
        ck (ixb a1 6) <|
        ck (decide (¬ (gI S 232 (ix a1)) = 0)) <|
        ck (ixb ((a1 * (21 : Int32)) + (a2 / (gI S 232 (ix a1)))) 126) <|
        some (gI S 229 (ix ((a1 * (21 : Int32)) + (a2 / (gI S 232 (ix a1))))))
      else
        some (0 : Int32)
def gX2_fitSecond (S : zM) (a1 : Int32) (a2 : Int32) : Option Int32 :=
    if a2 < 0 then
      some (0 : Int32)
    else
      b1 (gX2_fitsOf S a1) fun r1 =>
      if a2 < r1 then
        ck (ixb a1 6) <|
        ck (decide (¬ (gI S 232 (ix a1)) = 0)) <|
        ck (ixb ((a1 * (11 : Int32)) + (a2 - a2 / (gI S 232 (ix a1)) * (gI S 232 (ix a1)))) 66) <|
        some (gI S 230 (ix ((a1 * (11 : Int32)) + (a2 - a2 / (gI S 232 (ix a1)) * (gI S 232 (ix a1))))))
      else
        some (0 : Int32)
def gX3_empty (S : zM) (q : Nat) : Option zM :=
    lt (pI (pI (pI (pI (pI S q 6 (0 : Int32)) q 7 (0 : Int32)) q 8 (0 : Int32)) q 9 (0 : Int32)) q 10 (0 : Int32)) fun S1 =>
    some S1
def gX9_passMarks_L18 (S : zM) (v0 : Nat) (v1 : Int32) (v4 : Int32) : Nat → Int32 → Int32 → Int32 → Option (Int32 × Int32)
  | 0, _, _, _ => none
  | n + 1, v2, v3, v5 =>
    if (9999 : Int32) < v5 then
      some (v2, v3)
    else
      ck (ixb v4 401) <|
      if (gI S (v0 + 5) (ix v4)) < v2 then
        some (v2, v3)
      else
        ck (decide (¬ (jmax (1 : Int32) v1) = 0)) <|
        lt (v2 + (jmax (1 : Int32) (v2 / (jmax (1 : Int32) v1)))) fun x3 =>
        gX9_passMarks_L18 S v0 v1 v4 n x3 (v3 + (1 : Int32)) (v5 + (1 : Int32))
def gX9_passMarks_L7 (v0 : Nat) (v1 : Int32) : Nat → zM → Int32 → Int32 → Int32 → Option zM
  | 0, _, _, _, _ => none
  | n + 1, S, v2, v3, v4 =>
    if (400 : Int32) < v4 then
      some S
    else
      b1 (gX9_passMarks_L18 S v0 v1 v4 FU v2 v3 (0 : Int32)) (un2 fun w4 w5 =>
      ck (ixb v4 401) <|
      gX9_passMarks_L7 v0 v1 n (pI S (v0 + 5) (ix v4) w5) w4 w5 (v4 + (1 : Int32)))
def gX9_passMarks (S : zM) (q : Nat) (a1 : Int32) : Option zM :=
    gX9_passMarks_L7 q a1 FU S (1 : Int32) (0 : Int32) (0 : Int32)
def gX9_raised_L5 (v0 : Int64) (v2 : Int32) : Nat → Int64 → Int32 → Option Int64
  | 0, _, _ => none
  | n + 1, v3, v5 =>
    if v2 ≤ v5 then
      some v3
    else
      gX9_raised_L5 v0 v2 n (v3 * v0) (v5 + (1 : Int32))
def gX9_raised (a0 : Int64) (a2 : Int32) : Option Int64 :=
    gX9_raised_L5 a0 a2 FU (1 : Int64) (0 : Int32)
def gX9_root_L10 (v0 : Int64) (v2 : Int32) : Nat → Int32 → Int32 → Int32 → Option Int32
  | 0, _, _, _ => none
  | n + 1, v3, v4, v5 =>
    if (32 : Int32) ≤ v5 then
      some v3
    else
      if v4 ≤ v3 then
        some v3
      else
        lt (((v3 + v4) + (1 : Int32)) / (2 : Int32)) fun x1 =>
        b1 (gX9_raised x1.toInt64 v2) fun r2 =>
        if v0 < r2 then
          gX9_root_L10 v0 v2 n v3 (x1 - (1 : Int32)) (v5 + (1 : Int32))
        else
          gX9_root_L10 v0 v2 n x1 v4 (v5 + (1 : Int32))
def gX9_root (a0 : Int64) (a2 : Int32) : Option Int32 :=
    gX9_root_L10 a0 a2 FU (0 : Int32) (9999 : Int32) (0 : Int32)
def gX9_take_L13 (v0 : Nat) (v1 : Int32) (v2 : Int32) (v3 : Int32) : Nat → zM → Int32 → Option zM
  | 0, _, _ => none
  | n + 1, S, v4 =>
    if (400 : Int32) < v4 then
      some S
    else
      ck (ixb v4 401) <|
      if v1 = (1 : Int32) then
        b1 (gX9_raised ((gI S (v0 + 5) (ix v4)).toInt64) v2) fun r6 =>
        b1 (gX9_root r6 v3) fun r7 =>
        ck (ixb v4 401) <|
        gX9_take_L13 v0 v1 v2 v3 n (pI S (v0 + 5) (ix v4) r7) (v4 + (1 : Int32))
      else
        if v1 = (2 : Int32) then
          ck (decide (¬ (jmax (1 : Int32) v3) = 0)) <|
          ck (ixb v4 401) <|
          lt (pI S (v0 + 5) (ix v4) (jmin (9999 : Int32) ((v2 * (gI S (v0 + 5) (ix v4))) / (jmax (1 : Int32) v3)))) fun S5 =>
          gX9_take_L13 v0 v1 v2 v3 n S5 (v4 + (1 : Int32))
        else
          ck (ixb v4 401) <|
          gX9_take_L13 v0 v1 v2 v3 n (pI S (v0 + 5) (ix v4) (jmax (0 : Int32) ((gI S (v0 + 5) (ix v4)) - v2))) (v4 + (1 : Int32))
def gX9_take (S : zM) (q : Nat) (a1 : Int32) (a2 : Int32) (a3 : Int32) : Option zM :=
    if a1 = 0 then
      b1 (gX9_passMarks S q a2) fun S10 =>
      some S10
    else
      gX9_take_L13 q a1 a2 a3 FU S (0 : Int32)
def gX4_sumFromBehind_L5 (v0 : Nat) (nv0 : Nat) : Nat → zM → Int32 → Option zM
  | 0, _, _ => none
  | n + 1, S, v1 =>
    if v1 < 0 then
      some S
    else
      ck (ixb v1 nv0) <|
      ck (ixb (v1 + (1 : Int32)) nv0) <|
      ck (ixb v1 nv0) <|
      gX4_sumFromBehind_L5 v0 nv0 n (pI S v0 (ix v1) ((gI S v0 (ix v1)) + (gI S v0 (ix (v1 + (1 : Int32)))))) (v1 + (-1 : Int32))
def gX4_sumFromBehind (S : zM) (a0 : Nat) (na0 : Nat) : Option zM :=
    lt ((Int32.ofNat na0) - (2 : Int32)) fun x1 =>
    gX4_sumFromBehind_L5 a0 na0 FU S x1
def gX4_fill_L10 (v0 : Nat) (v1 : Nat) (v2 : Int32) : Nat → zM → Int32 → Option zM
  | 0, _, _ => none
  | n + 1, S, v3 =>
    if v2 ≤ v3 then
      some S
    else
      if (6 : Int32) ≤ v3 then
        some S
      else
        if (5 : Int32) < v3 then
          some S
        else
          ck (ixb v3 6) <|
          ck (ixb ((5 : Int32) + v3) 11) <|
          ck (ixb v3 6) <|
          ck (ixb ((5 : Int32) - v3) 11) <|
          lt (pI (pI S (v0 + 1) (ix ((5 : Int32) + v3)) (gI S v1 (ix v3))) (v0 + 1) (ix ((5 : Int32) - v3)) (gI (pI S (v0 + 1) (ix ((5 : Int32) + v3)) (gI S v1 (ix v3))) v1 (ix v3))) fun S7 =>
          gX4_fill_L10 v0 v1 v2 n S7 (v3 + (1 : Int32))
def gX4_fill_L96 (v0 : Nat) (v3 : Int32) : Nat → zM → Int32 → Option zM
  | 0, _, _ => none
  | n + 1, S, v4 =>
    if (11 : Int32) ≤ v4 then
      some S
    else
      ck (ixb ((v4 - v3) + (10 : Int32)) 22) <|
      ck (ixb v3 11) <|
      ck (ixb v4 11) <|
      ck (ixb ((v4 - v3) + (10 : Int32)) 22) <|
      lt (pI S (v0 + 3) (ix ((v4 - v3) + (10 : Int32))) ((gI S (v0 + 3) (ix ((v4 - v3) + (10 : Int32)))) + ((gI S (v0 + 1) (ix v3)) * (gI S (v0 + 1) (ix v4))))) fun S24 =>
      gX4_fill_L96 v0 v3 n S24 (v4 + (1 : Int32))
def gX4_fill_L72 (v0 : Nat) : Nat → zM → Int32 → Option zM
  | 0, _, _ => none
  | n + 1, S, v3 =>
    if (11 : Int32) ≤ v3 then
      b1 (gX4_sumFromBehind S (v0 + 2) 12) fun S14 =>
      b1 (gX4_sumFromBehind S14 (v0 + 3) 22) fun S16 =>
      ck (ixb (0 : Int32) 12) <|
      some (pI S16 v0 3 (gI S16 (v0 + 2) (ix (0 : Int32))))
    else
      ck (ixb v3 11) <|
      ck (ixb v3 12) <|
      b1 (gX4_fill_L96 v0 v3 FU (pI S (v0 + 2) (ix v3) (gI S (v0 + 1) (ix v3))) (0 : Int32)) fun S25 =>
      gX4_fill_L72 v0 n S25 (v3 + (1 : Int32))
def gX4_fill (S : zM) (q : Nat) (a1 : Nat) (a2 : Int32) : Option zM :=
    b1 (gJ7_fill_53178 S (q + 1) 11 (0 : Int32)) fun S2 =>
    b1 (gX4_fill_L10 q a1 a2 FU S2 (0 : Int32)) fun S8 =>
    b1 (gJ7_fill_53178 S8 (q + 2) 12 (0 : Int32)) fun S10 =>
    b1 (gJ7_fill_53178 S10 (q + 3) 22 (0 : Int32)) fun S12 =>
    gX4_fill_L72 q FU S12 (0 : Int32)
def gX9_settle_L2 (v0 : Nat) : Nat → zM → Int32 → Option zM
  | 0, _, _ => none
  | n + 1, S, v1 =>
    if (400 : Int32) < v1 then
      some S
    else
      ck (ixb v1 401) <|
      gX9_settle_L2 v0 n (pI S (v0 + 5) (ix v1) v1) (v1 + (1 : Int32))
def gX9_settle_L24 (v0 : Nat) : Nat → zM → Int32 → Option zM
  | 0, _, _ => none
  | n + 1, S, v1 =>
    if (gI S v0 6) ≤ v1 then
      some S
    else
      if (4 : Int32) ≤ v1 then
        some S
      else
        ck (ixb v1 4) <|
        ck (ixb v1 4) <|
        ck (ixb v1 4) <|
        b1 (gX9_take S v0 (gI S (v0 + 1) (ix v1)) (gI S (v0 + 2) (ix v1)) (gI S (v0 + 3) (ix v1))) fun S7 =>
        gX9_settle_L24 v0 n S7 (v1 + (1 : Int32))
def gX9_settle_L67 (v0 : Nat) : Nat → zM → Int32 → Option zM
  | 0, _, _ => none
  | n + 1, S, v1 =>
    if (gI S v0 7) ≤ v1 then
      some S
    else
      if (6 : Int32) ≤ v1 then
        some S
      else
        ck (ixb v1 6) <|
        b1 (gX4_fill S (v0 + 7 + 4 * ix v1) (v0 + 4) (v1 + (1 : Int32))) fun S11 =>
        gX9_settle_L67 v0 n S11 (v1 + (1 : Int32))
def gX9_settle (S : zM) (q : Nat) : Option zM :=
    b1 (gX9_settle_L2 q FU S (0 : Int32)) fun S2 =>
    b1 (gX9_settle_L24 q FU S2 (0 : Int32)) fun S8 =>
    gX9_settle_L67 q FU S8 (0 : Int32)
def gX3_settle_L2 (v0 : Nat) : Nat → zM → Int32 → Option zM
  | 0, _, _ => none
  | n + 1, S, v1 =>
    if (gI S v0 6) ≤ v1 then
      some S
    else
      if (6 : Int32) ≤ v1 then
        some S
      else
        ck (ixb v1 6) <|
        b1 (gX9_settle S (v0 + 7 + 31 * ix v1)) fun S3 =>
        gX3_settle_L2 v0 n S3 (v1 + (1 : Int32))
def gX3_settle (S : zM) (q : Nat) : Option zM :=
    gX3_settle_L2 q FU S (0 : Int32)
def gX3_addName (S : zM) (q : Nat) (a1 : Int64) (a3 : Int32) : Option zM :=
    if (20 : Int32) ≤ (gI S q 10) then
      some S
    else
      ck (ixb (gI S q 10) 20) <|
      ck (ixb (gI (pL S (q + 5) (ix (gI S q 10)) a1) q 10) 20) <|
      lt (pI (pL S (q + 5) (ix (gI S q 10)) a1) (q + 6) (ix (gI (pL S (q + 5) (ix (gI S q 10)) a1) q 10)) a3) fun S3 =>
      some (pI S3 q 10 ((gI S3 q 10) + (1 : Int32)))
def gX3_namedBy_L2 (S : zM) (v0 : Nat) (v1 : Int64) : Nat → Int32 → Option Int32
  | 0, _ => none
  | n + 1, v3 =>
    if (gI S v0 10) ≤ v3 then
      some (-2 : Int32)
    else
      if (20 : Int32) ≤ v3 then
        some (-2 : Int32)
      else
        ck (ixb v3 20) <|
        if (gL S (v0 + 5) (ix v3)) = v1 then
          ck (ixb v3 20) <|
          some (gI S (v0 + 6) (ix v3))
        else
          gX3_namedBy_L2 S v0 v1 n (v3 + (1 : Int32))
def gX3_namedBy (S : zM) (q : Nat) (a1 : Int64) : Option Int32 :=
    gX3_namedBy_L2 S q a1 FU (0 : Int32)
def gX4_numberOdds (S : zM) (q : Nat) (a1 : Int32) (a2 : Int32) : Option Int32 :=
    if a2 ≤ 0 then
      b1 (gX4_above S q (-a1)) fun r1 =>
      some ((gI S q 3) - r1)
    else
      b1 (gX4_oftenAt S q (a2 - a1)) fun r2 =>
      some r2
def gX4_countedOff_L4 (S : zM) (v0 : Nat) : Nat → Int32 → Int32 → Option Int32
  | 0, _, _ => none
  | n + 1, v2, v3 =>
    if (11 : Int32) ≤ v3 then
      some (0 : Int32)
    else
      ck (ixb v3 11) <|
      if (gI S (v0 + 1) (ix v3)) ≤ v2 then
        ck (ixb v3 11) <|
        lt (v2 - (gI S (v0 + 1) (ix v3))) fun x3 =>
        gX4_countedOff_L4 S v0 n x3 (v3 + (1 : Int32))
      else
        some (v3 - (5 : Int32))
def gX4_countedOff (S : zM) (q : Nat) (a1 : Int32) : Option Int32 :=
    gX4_countedOff_L4 S q FU a1 (0 : Int32)
def gX6_sizes (S : zM) (q : Nat) : Option Int32 :=
    ck (decide (¬ (jmax (1 : Int32) (gI S q 3)) = 0)) <|
    some ((((gI S q 2) - (gI S q 1)) / (jmax (1 : Int32) (gI S q 3))) + (1 : Int32))
def gX6_trials (S : zM) (q : Nat) : Option Int32 :=
    b1 (gX6_sizes S q) fun r1 =>
    some (r1 * (gI S q 4))
def gX6_layOut_L2 (v0 : Nat) : Nat → zM → Int32 → Option zM
  | 0, _, _ => none
  | n + 1, S, v2 =>
    b1 (gX6_trials S v0) fun r1 =>
    if r1 ≤ v2 then
      some S
    else
      if (200 : Int32) ≤ v2 then
        some S
      else
        ck (decide (¬ (jmax (1 : Int32) (gI S v0 4)) = 0)) <|
        lt (v2 / (jmax (1 : Int32) (gI S v0 4))) fun x3 =>
        if (gI S v0 0) = (1 : Int32) then
          b1 (gX6_sizes S v0) fun r5 =>
          ck (ixb v2 200) <|
          gX6_layOut_L2 v0 n (pI S 239 (ix v2) ((gI S v0 1) + ((gI S v0 3) * ((r5 - (1 : Int32)) - x3)))) (v2 + (1 : Int32))
        else
          ck (ixb v2 200) <|
          gX6_layOut_L2 v0 n (pI S 239 (ix v2) ((gI S v0 1) + ((gI S v0 3) * x3))) (v2 + (1 : Int32))
def gX6_layOut (S : zM) (q : Nat) : Option zM :=
    gX6_layOut_L2 q FU S (0 : Int32)
def gX7_isLetter (a0 : Int32) : Option Int32 :=
    if a0 < (97 : Int32) then
      some (0 : Int32)
    else
      if (122 : Int32) < a0 then
        some (0 : Int32)
      else
        some (1 : Int32)
def gX7_addToken (S : zM) (a1 : Int32) (a2 : Int32) (a3 : Int64) : Option zM :=
    if (701 : Int32) ≤ (gI S 2 3) then
      some S
    else
      ck (ixb (gI S 2 3) 701) <|
      ck (ixb (gI (pI S 3 (ix (gI S 2 3)) a1) 2 3) 701) <|
      ck (ixb (gI (pI (pI S 3 (ix (gI S 2 3)) a1) 4 (ix (gI (pI S 3 (ix (gI S 2 3)) a1) 2 3)) a2) 2 3) 701) <|
      lt (pL (pI (pI S 3 (ix (gI S 2 3)) a1) 4 (ix (gI (pI S 3 (ix (gI S 2 3)) a1) 2 3)) a2) 5 (ix (gI (pI (pI S 3 (ix (gI S 2 3)) a1) 4 (ix (gI (pI S 3 (ix (gI S 2 3)) a1) 2 3)) a2) 2 3)) a3) fun S4 =>
      some (pI S4 2 3 ((gI S4 2 3) + (1 : Int32)))
def gX7_scanWord_L6 (S : zM) (v2 : Int32) (v3 : Int32) : Nat → Int64 → Int32 → Option (Int32 × zM)
  | 0, _, _ => none
  | n + 1, v4, v6 =>
    if v3 ≤ v6 then
      if (v6 - v2) ≤ (8 : Int32) then
        b1 (gX7_addToken S (1 : Int32) v2 v4) fun S2 =>
        some (v6, S2)
      else
        b1 (gX7_addToken S (4 : Int32) v2 v4) fun S4 =>
        some (v6, S4)
    else
      if (700 : Int32) ≤ v6 then
        if (v6 - v2) ≤ (8 : Int32) then
          b1 (gX7_addToken S (1 : Int32) v2 v4) fun S6 =>
          some (v6, S6)
        else
          b1 (gX7_addToken S (4 : Int32) v2 v4) fun S8 =>
          some (v6, S8)
      else
        ck (ixb v6 700) <|
        b1 (gX7_isLetter (gI S 1 (ix v6))) fun r10 =>
        if r10 = 0 then
          if (v6 - v2) ≤ (8 : Int32) then
            b1 (gX7_addToken S (1 : Int32) v2 v4) fun S12 =>
            some (v6, S12)
          else
            b1 (gX7_addToken S (4 : Int32) v2 v4) fun S14 =>
            some (v6, S14)
        else
          ck (ixb v6 700) <|
          lt ((((v4 * (32 : Int64)) + (gI S 1 (ix v6)).toInt64) - (97 : Int64)) + (1 : Int64)) fun x16 =>
          gX7_scanWord_L6 S v2 v3 n x16 (v6 + (1 : Int32))
def gX7_scanWord (S : zM) (a2 : Int32) (a3 : Int32) : Option (Int32 × zM) :=
    gX7_scanWord_L6 S a2 a3 FU (0 : Int64) a2
def gX7_isDigit (a0 : Int32) : Option Int32 :=
    if a0 < (48 : Int32) then
      some (0 : Int32)
    else
      if (57 : Int32) < a0 then
        some (0 : Int32)
      else
        some (1 : Int32)
def gX7_scanWhole_L6 (S : zM) (v2 : Int32) (v3 : Int32) : Nat → Int64 → Int32 → Option (Int32 × zM)
  | 0, _, _ => none
  | n + 1, v4, v6 =>
    if v3 ≤ v6 then
      if (v6 - v2) ≤ (3 : Int32) then
        b1 (gX7_addToken S (2 : Int32) v2 v4) fun S2 =>
        some (v6, S2)
      else
        b1 (gX7_addToken S (4 : Int32) v2 v4) fun S4 =>
        some (v6, S4)
    else
      if (700 : Int32) ≤ v6 then
        if (v6 - v2) ≤ (3 : Int32) then
          b1 (gX7_addToken S (2 : Int32) v2 v4) fun S6 =>
          some (v6, S6)
        else
          b1 (gX7_addToken S (4 : Int32) v2 v4) fun S8 =>
          some (v6, S8)
      else
        ck (ixb v6 700) <|
        b1 (gX7_isDigit (gI S 1 (ix v6))) fun r10 =>
        if r10 = 0 then
          if (v6 - v2) ≤ (3 : Int32) then
            b1 (gX7_addToken S (2 : Int32) v2 v4) fun S12 =>
            some (v6, S12)
          else
            b1 (gX7_addToken S (4 : Int32) v2 v4) fun S14 =>
            some (v6, S14)
        else
          ck (ixb v6 700) <|
          lt (((v4 * (10 : Int64)) + (gI S 1 (ix v6)).toInt64) - (48 : Int64)) fun x16 =>
          gX7_scanWhole_L6 S v2 v3 n x16 (v6 + (1 : Int32))
def gX7_scanWhole (S : zM) (a2 : Int32) (a3 : Int32) : Option (Int32 × zM) :=
    gX7_scanWhole_L6 S a2 a3 FU (0 : Int64) a2
def gX7_scanToken (S : zM) (a2 : Int32) (a3 : Int32) : Option (Int32 × zM) :=
    ck (ixb a2 700) <|
    b1 (gX7_isLetter (gI S 1 (ix a2))) fun r2 =>
    if r2 = 0 then
      b1 (gX7_isDigit (gI S 1 (ix a2))) fun r3 =>
      if r3 = 0 then
        if (gI S 1 (ix a2)) = (59 : Int32) then
          b1 (gX7_addToken S (3 : Int32) a2 ((gI S 1 (ix a2)).toInt64)) fun S5 =>
          some ((a2 + (1 : Int32)), S5)
        else
          if (gI S 1 (ix a2)) = (44 : Int32) then
            b1 (gX7_addToken S (3 : Int32) a2 ((gI S 1 (ix a2)).toInt64)) fun S7 =>
            some ((a2 + (1 : Int32)), S7)
          else
            if (gI S 1 (ix a2)) = (47 : Int32) then
              b1 (gX7_addToken S (3 : Int32) a2 ((gI S 1 (ix a2)).toInt64)) fun S11 =>
              some ((a2 + (1 : Int32)), S11)
            else
              b1 (gX7_addToken S (4 : Int32) a2 ((gI S 1 (ix a2)).toInt64)) fun S9 =>
              some ((a2 + (1 : Int32)), S9)
      else
        b2 (gX7_scanWhole S a2 a3) fun r12 S13 =>
        some (r12, S13)
    else
      b2 (gX7_scanWord S a2 a3) fun r14 S15 =>
      some (r14, S15)
def gX7_scan_L15 (v2 : Int32) : Nat → zM → Int32 → Int32 → Option zM
  | 0, _, _, _ => none
  | n + 1, S, v3, v4 =>
    if v2 ≤ v4 then
      b1 (gX7_addToken S (0 : Int32) v2 (0 : Int64)) fun S2 =>
      some S2
    else
      if v2 ≤ v3 then
        b1 (gX7_addToken S (0 : Int32) v2 (0 : Int64)) fun S4 =>
        some S4
      else
        if (700 : Int32) ≤ v3 then
          b1 (gX7_addToken S (0 : Int32) v2 (0 : Int64)) fun S6 =>
          some S6
        else
          ck (ixb v3 700) <|
          if (gI S 1 (ix v3)) = (32 : Int32) then
            gX7_scan_L15 v2 n S (v3 + (1 : Int32)) (v4 + (1 : Int32))
          else
            b2 (gX7_scanToken S v3 v2) fun r8 S9 =>
            gX7_scan_L15 v2 n S9 r8 (v4 + (1 : Int32))
def gX7_scan (S : zM) (a2 : Int32) : Option zM :=
    gX7_scan_L15 a2 FU (pI (pI S 2 3 (0 : Int32)) 2 4 (0 : Int32)) (0 : Int32) (0 : Int32)
def gX7_codeOf_L4 (v0 : Nat) : Nat → Int64 → Int32 → Option Int64
  | 0, _, _ => none
  | n + 1, v1, v3 =>
    if (slen v0) ≤ v3 then
      some v1
    else
      ck (ixb v3 (slnN v0)) <|
      lt ((((v1 * (32 : Int64)) + (sch v0 v3).toInt64) - (97 : Int64)) + (1 : Int64)) fun x2 =>
      gX7_codeOf_L4 v0 n x2 (v3 + (1 : Int32))
def gX7_codeOf (a0 : Nat) : Option Int64 :=
    gX7_codeOf_L4 a0 FU (0 : Int64) (0 : Int32)
def gX7_isWord (S : zM) (a1 : Nat) : Option Int32 :=
    ck (ixb (gI S 2 4) 701) <|
    if (gI S 3 (ix (gI S 2 4))) = (1 : Int32) then
      ck (ixb (gI S 2 4) 701) <|
      b1 (gX7_codeOf a1) fun r3 =>
      if (gL S 5 (ix (gI S 2 4))) = r3 then
        some (1 : Int32)
      else
        some (0 : Int32)
    else
      some (0 : Int32)
def gX7_wrong (S : zM) (a1 : Int32) : Option (Int32 × zM) :=
    ck (ixb (gI (pI S 2 7 a1) 2 4) 701) <|
    some ((0 : Int32), (pI (pI S 2 7 a1) 2 8 (gI (pI S 2 7 a1) 4 (ix (gI (pI S 2 7 a1) 2 4)))))
def gX7_step (S : zM) : Option zM :=
    if (gI S 2 3) ≤ ((gI S 2 4) + (1 : Int32)) then
      some S
    else
      some (pI S 2 4 ((gI S 2 4) + (1 : Int32)))
def gX9_empty (S : zM) (q : Nat) : Option zM :=
    some (pI (pI S q 6 (0 : Int32)) q 7 (0 : Int32))
def gX7_isName (S : zM) : Option Int32 :=
    ck (ixb (gI S 2 4) 701) <|
    if (gI S 3 (ix (gI S 2 4))) = (1 : Int32) then
      b1 (gX7_isWord S 10000) fun r2 =>
      if r2 = 0 then
        b1 (gX7_isWord S 10001) fun r3 =>
        if r3 = 0 then
          b1 (gX7_isWord S 10002) fun r4 =>
          if r4 = 0 then
            b1 (gX7_isWord S 10003) fun r5 =>
            if r5 = 0 then
              b1 (gX7_isWord S 10004) fun r6 =>
              if r6 = 0 then
                b1 (gX7_isWord S 10005) fun r7 =>
                if r7 = 0 then
                  b1 (gX7_isWord S 10006) fun r8 =>
                  if r8 = 0 then
                    b1 (gX7_isWord S 10007) fun r9 =>
                    if r9 = 0 then
                      b1 (gX7_isWord S 10008) fun r10 =>
                      if r10 = 0 then
                        b1 (gX7_isWord S 10009) fun r11 =>
                        if r11 = 0 then
                          b1 (gX7_isWord S 10010) fun r12 =>
                          if r12 = 0 then
                            b1 (gX7_isWord S 10011) fun r13 =>
                            if r13 = 0 then
                              some (1 : Int32)
                            else
                              some (0 : Int32)
                          else
                            some (0 : Int32)
                        else
                          some (0 : Int32)
                      else
                        some (0 : Int32)
                    else
                      some (0 : Int32)
                  else
                    some (0 : Int32)
                else
                  some (0 : Int32)
              else
                some (0 : Int32)
            else
              some (0 : Int32)
          else
            some (0 : Int32)
        else
          some (0 : Int32)
      else
        some (0 : Int32)
    else
      some (0 : Int32)
def gX7_takeNewName (S : zM) (a1 : Int32) : Option (Int32 × zM) :=
    b1 (gX7_isName S) fun r1 =>
    if r1 = 0 then
      b2 (gX7_wrong S (1 : Int32)) fun r14 S15 =>
      ck (isB r14) <|
      some (r14, S15)
    else
      ck (zobb cW 3 (gR S 2 6)) <|
      ck (ixb (gI S 2 4) 701) <|
      b1 (gX3_namedBy S (gR S 2 6) (gL S 5 (ix (gI S 2 4)))) fun r4 =>
      if r4 = (-2 : Int32) then
        ck (zobb cW 3 (gR S 2 6)) <|
        ck (ixb (gI S 2 4) 701) <|
        b1 (gX3_addName S (gR S 2 6) (gL S 5 (ix (gI S 2 4))) a1) fun S8 =>
        b1 (gX7_step S8) fun S10 =>
        some ((1 : Int32), S10)
      else
        b2 (gX7_wrong S (3 : Int32)) fun r11 S12 =>
        ck (isB r11) <|
        some (r11, S12)
def gX7_takeWhole (S : zM) (a1 : Int32) (a2 : Int32) : Option (Int32 × zM) :=
    ck (ixb (gI S 2 4) 701) <|
    if (gI S 3 (ix (gI S 2 4))) = (2 : Int32) then
      ck (ixb (gI S 2 4) 701) <|
      if (gL S 5 (ix (gI S 2 4))) < a1.toInt64 then
        b2 (gX7_wrong S (4 : Int32)) fun r3 S4 =>
        ck (isB r3) <|
        some (r3, S4)
      else
        ck (ixb (gI S 2 4) 701) <|
        if (gL S 5 (ix (gI S 2 4))) ≤ a2.toInt64 then
          ck (ixb (gI S 2 4) 701) <|
          b1 (gX7_step (pI S 2 5 ((gL S 5 (ix (gI S 2 4))).toInt32))) fun S9 =>
          some ((1 : Int32), S9)
        else
          b2 (gX7_wrong S (4 : Int32)) fun r10 S11 =>
          ck (isB r10) <|
          some (r10, S11)
    else
      b2 (gX7_wrong S (1 : Int32)) fun r13 S14 =>
      ck (isB r13) <|
      some (r13, S14)
def gX7_isMark (S : zM) (a1 : Int32) : Option Int32 :=
    ck (ixb (gI S 2 4) 701) <|
    if (gI S 3 (ix (gI S 2 4))) = (3 : Int32) then
      ck (ixb (gI S 2 4) 701) <|
      if (gL S 5 (ix (gI S 2 4))) = a1.toInt64 then
        some (1 : Int32)
      else
        some (0 : Int32)
    else
      some (0 : Int32)
def gX7_takeMark (S : zM) (a1 : Int32) : Option (Int32 × zM) :=
    b1 (gX7_isMark S a1) fun r1 =>
    if r1 = 0 then
      b2 (gX7_wrong S (1 : Int32)) fun r4 S5 =>
      ck (isB r4) <|
      some (r4, S5)
    else
      b1 (gX7_step S) fun S3 =>
      some ((1 : Int32), S3)
def gX9_addStep (S : zM) (q : Nat) (a1 : Int32) (a2 : Int32) (a3 : Int32) : Option zM :=
    if (4 : Int32) ≤ (gI S q 6) then
      some S
    else
      ck (ixb (gI S q 6) 4) <|
      ck (ixb (gI (pI S (q + 1) (ix (gI S q 6)) a1) q 6) 4) <|
      lt (pI (pI S (q + 1) (ix (gI S q 6)) a1) (q + 2) (ix (gI (pI S (q + 1) (ix (gI S q 6)) a1) q 6)) a2) fun S3 =>
      ck (ixb (gI S3 q 6) 4) <|
      lt (pI (pI S3 (q + 3) (ix (gI S3 q 6)) a3) q 6 ((gI (pI S3 (q + 3) (ix (gI S3 q 6)) a3) q 6) + (1 : Int32))) fun S5 =>
      some S5
def gX7_readStepOf (S : zM) (a1 : Nat) (a2 : Int32) (a3 : Int32) (a4 : Int32) : Option (Int32 × zM) :=
    if (gI S a1 6) < (4 : Int32) then
      b1 (gX7_step S) fun S2 =>
      b2 (gX7_takeWhole S2 a3 a4) fun r3 S4 =>
      if r3 = 0 then
        some ((0 : Int32), S4)
      else
        if a2 = (1 : Int32) then
          b2 (gX7_takeMark S4 (47 : Int32)) fun r5 S6 =>
          if r5 = 0 then
            some ((0 : Int32), S6)
          else
            b2 (gX7_takeWhole S6 a3 a4) fun r7 S8 =>
            if r7 = 0 then
              some ((0 : Int32), S8)
            else
              b1 (gX9_addStep S8 a1 a2 (gI S4 2 5) (gI S8 2 5)) fun S10 =>
              some ((1 : Int32), S10)
        else
          if a2 = (2 : Int32) then
            b2 (gX7_takeMark S4 (47 : Int32)) fun r13 S14 =>
            if r13 = 0 then
              some ((0 : Int32), S14)
            else
              b2 (gX7_takeWhole S14 a3 a4) fun r15 S16 =>
              if r15 = 0 then
                some ((0 : Int32), S16)
              else
                b1 (gX9_addStep S16 a1 a2 (gI S4 2 5) (gI S16 2 5)) fun S18 =>
                some ((1 : Int32), S18)
          else
            b1 (gX9_addStep S4 a1 a2 (gI S4 2 5) (1 : Int32)) fun S12 =>
            some ((1 : Int32), S12)
    else
      b2 (gX7_wrong S (5 : Int32)) fun r19 S20 =>
      ck (isB r19) <|
      some (r19, S20)
def gX7_readStep (S : zM) (a1 : Nat) : Option (Int32 × zM) :=
    b1 (gX7_isWord S 10012) fun r1 =>
    if r1 = 0 then
      b1 (gX7_isWord S 10013) fun r2 =>
      if r2 = 0 then
        b1 (gX7_isWord S 10006) fun r3 =>
        if r3 = 0 then
          b1 (gX7_isWord S 10014) fun r4 =>
          if r4 = 0 then
            b2 (gX7_wrong S (1 : Int32)) fun r5 S6 =>
            ck (isB r5) <|
            some (r5, S6)
          else
            b2 (gX7_readStepOf S a1 (3 : Int32) (0 : Int32) (399 : Int32)) fun r8 S9 =>
            ck (isB r8) <|
            some (r8, S9)
        else
          b2 (gX7_readStepOf S a1 (2 : Int32) (1 : Int32) (99 : Int32)) fun r11 S12 =>
          ck (isB r11) <|
          some (r11, S12)
      else
        b2 (gX7_readStepOf S a1 (1 : Int32) (1 : Int32) (3 : Int32)) fun r14 S15 =>
        ck (isB r14) <|
        some (r14, S15)
    else
      b2 (gX7_readStepOf S a1 (0 : Int32) (2 : Int32) (99 : Int32)) fun r17 S18 =>
      ck (isB r17) <|
      some (r17, S18)
def gX7_readSteps_L8 (v1 : Nat) : Nat → zM → Int32 → Int32 → Option (Int32 × zM)
  | 0, _, _, _ => none
  | n + 1, S, v2, v3 =>
    if (gI S 2 3) ≤ v3 then
      ck (isB v2) <|
      some (v2, S)
    else
      if v2 = 0 then
        ck (isB v2) <|
        some (v2, S)
      else
        b1 (gX7_isWord S 10004) fun r5 =>
        if r5 = 0 then
          ck (isB v2) <|
          some (v2, S)
        else
          b1 (gX7_step S) fun S8 =>
          b2 (gX7_readStep S8 v1) fun r9 S10 =>
          gX7_readSteps_L8 v1 n S10 r9 (v3 + (1 : Int32))
def gX7_readSteps (S : zM) (a1 : Nat) : Option (Int32 × zM) :=
    b2 (gX7_readStep S a1) fun r1 S2 =>
    gX7_readSteps_L8 a1 FU S2 r1 (0 : Int32)
def gX7_takeWord (S : zM) (a1 : Nat) : Option (Int32 × zM) :=
    b1 (gX7_isWord S a1) fun r1 =>
    if r1 = 0 then
      b2 (gX7_wrong S (1 : Int32)) fun r4 S5 =>
      ck (isB r4) <|
      some (r4, S5)
    else
      b1 (gX7_step S) fun S3 =>
      some ((1 : Int32), S3)
def gX9_addWhole (S : zM) (q : Nat) (a1 : Int32) : Option zM :=
    if (6 : Int32) ≤ (gI S q 7) then
      some S
    else
      ck (ixb (gI S q 7) 6) <|
      lt (pI (pI S (q + 4) (ix (gI S q 7)) a1) q 7 ((gI (pI S (q + 4) (ix (gI S q 7)) a1) q 7) + (1 : Int32))) fun S2 =>
      some S2
def gX7_readNoise_L22 (v1 : Nat) : Nat → zM → Int32 → Option (Int32 × zM)
  | 0, _, _ => none
  | n + 1, S, v2 =>
    if (gI S 2 3) ≤ v2 then
      some ((1 : Int32), S)
    else
      ck (ixb (gI S 2 4) 701) <|
      if (gI S 3 (ix (gI S 2 4))) = (2 : Int32) then
        ck (ixb (gI S 2 4) 701) <|
        if (9 : Int64) < (gL S 5 (ix (gI S 2 4))) then
          b2 (gX7_takeWhole S (0 : Int32) (9 : Int32)) fun r7 S8 =>
          if r7 = 0 then
            some ((0 : Int32), S8)
          else
            b1 (gX9_addWhole S8 v1 (gI S8 2 5)) fun S10 =>
            gX7_readNoise_L22 v1 n S10 (v2 + (1 : Int32))
        else
          if (gI S v1 7) < (6 : Int32) then
            b2 (gX7_takeWhole S (0 : Int32) (9 : Int32)) fun r11 S12 =>
            if r11 = 0 then
              some ((0 : Int32), S12)
            else
              b1 (gX9_addWhole S12 v1 (gI S12 2 5)) fun S14 =>
              gX7_readNoise_L22 v1 n S14 (v2 + (1 : Int32))
          else
            b2 (gX7_wrong S (5 : Int32)) fun r15 S16 =>
            ck (isB r15) <|
            some (r15, S16)
      else
        some ((1 : Int32), S)
def gX7_readNoise (S : zM) (a1 : Nat) : Option (Int32 × zM) :=
    b2 (gX7_takeWhole S (1 : Int32) (9 : Int32)) fun r1 S2 =>
    if r1 = 0 then
      some ((0 : Int32), S2)
    else
      b1 (gX9_addWhole S2 a1 (gI S2 2 5)) fun S4 =>
      gX7_readNoise_L22 a1 FU S4 (0 : Int32)
def gX7_readSense (S : zM) : Option (Int32 × zM) :=
    ck (zobb cW 3 (gR S 2 6)) <|
    if (gI S (gR S 2 6) 6) < (6 : Int32) then
      b1 (gX7_step S) fun S3 =>
      ck (zobb cW 3 (gR S3 2 6)) <|
      ck (zobb cW 3 (gR S3 2 6)) <|
      ck (ixb (gI S3 (gR S3 2 6) 6) 6) <|
      b1 (gX9_empty S3 ((gR S3 2 6) + 7 + 31 * ix (gI S3 (gR S3 2 6) 6))) fun S8 =>
      ck (zobb cW 3 (gR S8 2 6)) <|
      b2 (gX7_takeNewName S8 (gI S8 (gR S8 2 6) 6)) fun r10 S11 =>
      if r10 = 0 then
        some ((0 : Int32), S11)
      else
        ck (zobb cW 3 (gR S11 2 6)) <|
        b2 (gX7_readSteps (pI S11 (gR S11 2 6) 6 ((gI S11 (gR S11 2 6) 6) + (1 : Int32))) ((gR S3 2 6) + 7 + 31 * ix (gI S3 (gR S3 2 6) 6))) fun r13 S14 =>
        if r13 = 0 then
          some ((0 : Int32), S14)
        else
          b2 (gX7_takeWord S14 10005) fun r15 S16 =>
          if r15 = 0 then
            some ((0 : Int32), S16)
          else
            b2 (gX7_readNoise S16 ((gR S3 2 6) + 7 + 31 * ix (gI S3 (gR S3 2 6) 6))) fun r17 S18 =>
            if r17 = 0 then
              some ((0 : Int32), S18)
            else
              some ((1 : Int32), S18)
    else
      b2 (gX7_wrong S (5 : Int32)) fun r19 S20 =>
      ck (isB r19) <|
      some (r19, S20)
def gX8_empty (S : zM) (q : Nat) : Option zM :=
    lt (pI (pI (pI (pI (pI S q 1 (0 : Int32)) q 2 (0 : Int32)) q 3 (0 : Int32)) q 4 (0 : Int32)) q 5 (0 : Int32)) fun S1 =>
    some (pI (pI (pI (pI S1 q 6 (0 : Int32)) q 7 (0 : Int32)) q 8 (0 : Int32)) q 9 (0 : Int32))
def gX7_takeSenseName (S : zM) : Option (Int32 × zM) :=
    b1 (gX7_isName S) fun r1 =>
    if r1 = 0 then
      b2 (gX7_wrong S (1 : Int32)) fun r10 S11 =>
      ck (isB r10) <|
      some (r10, S11)
    else
      ck (zobb cW 3 (gR S 2 6)) <|
      ck (ixb (gI S 2 4) 701) <|
      b1 (gX3_namedBy S (gR S 2 6) (gL S 5 (ix (gI S 2 4)))) fun r4 =>
      if 0 ≤ r4 then
        b1 (gX7_step (pI S 2 5 r4)) fun S6 =>
        some ((1 : Int32), S6)
      else
        b2 (gX7_wrong S (2 : Int32)) fun r7 S8 =>
        ck (isB r7) <|
        some (r7, S8)
def gX7_takeSigned_J15 (S : zM) (v1 : Int32) (v2 : Int32) : Option (Int32 × zM) :=
    b2 (gX7_takeWhole S (0 : Int32) v1) fun r6 S7 =>
    if r6 = 0 then
      some ((0 : Int32), S7)
    else
      if v2 = 0 then
        some ((1 : Int32), (pI S7 2 5 (gI S7 2 5)))
      else
        some ((1 : Int32), (pI S7 2 5 (-(gI S7 2 5))))
def gX7_takeSigned (S : zM) (a1 : Int32) : Option (Int32 × zM) :=
    b1 (gX7_isWord S 10007) fun r1 =>
    if r1 = 0 then
      b2 (gX7_takeWhole S (0 : Int32) a1) fun r2 S3 =>
      if r2 = 0 then
        some ((0 : Int32), S3)
      else
        if r1 = 0 then
          some ((1 : Int32), (pI S3 2 5 (gI S3 2 5)))
        else
          some ((1 : Int32), (pI S3 2 5 (-(gI S3 2 5))))
    else
      b1 (gX7_step S) fun S5 =>
      gX7_takeSigned_J15 S5 a1 r1
def gX7_readLines_J32 (S : zM) (v1 : Nat) : Option (Int32 × zM) :=
    b1 (gX7_isWord S 10016) fun r11 =>
    if r11 = 0 then
      some ((1 : Int32), S)
    else
      b1 (gX7_step S) fun S13 =>
      b2 (gX7_takeSigned S13 (50 : Int32)) fun r14 S15 =>
      if r14 = 0 then
        some ((0 : Int32), S15)
      else
        some ((1 : Int32), (pI S15 v1 3 (gI S15 2 5)))
def gX7_readLines (S : zM) (a1 : Nat) : Option (Int32 × zM) :=
    b1 (gX7_isWord S 10006) fun r1 =>
    if r1 = 0 then
      b1 (gX7_isWord S 10016) fun r2 =>
      if r2 = 0 then
        some ((1 : Int32), S)
      else
        b1 (gX7_step S) fun S4 =>
        b2 (gX7_takeSigned S4 (50 : Int32)) fun r5 S6 =>
        if r5 = 0 then
          some ((0 : Int32), S6)
        else
          some ((1 : Int32), (pI S6 a1 3 (gI S6 2 5)))
    else
      b1 (gX7_step S) fun S8 =>
      b2 (gX7_takeSigned S8 (50 : Int32)) fun r9 S10 =>
      if r9 = 0 then
        some ((0 : Int32), S10)
      else
        gX7_readLines_J32 (pI S10 a1 2 (gI S10 2 5)) a1
def gX7_readYears_J34 (S : zM) (v1 : Nat) : Option (Int32 × zM) :=
    b1 (gX7_isWord S 10018) fun r11 =>
    if r11 = 0 then
      some ((1 : Int32), S)
    else
      b1 (gX7_step S) fun S13 =>
      b2 (gX7_takeWhole S13 (1 : Int32) (99 : Int32)) fun r14 S15 =>
      if r14 = 0 then
        some ((0 : Int32), S15)
      else
        some ((1 : Int32), (pI S15 v1 5 (gI S15 2 5)))
def gX7_readYears (S : zM) (a1 : Nat) : Option (Int32 × zM) :=
    b1 (gX7_isWord S 10017) fun r1 =>
    if r1 = 0 then
      b1 (gX7_isWord S 10018) fun r2 =>
      if r2 = 0 then
        some ((1 : Int32), S)
      else
        b1 (gX7_step S) fun S4 =>
        b2 (gX7_takeWhole S4 (1 : Int32) (99 : Int32)) fun r5 S6 =>
        if r5 = 0 then
          some ((0 : Int32), S6)
        else
          some ((1 : Int32), (pI S6 a1 5 (gI S6 2 5)))
    else
      b1 (gX7_step S) fun S8 =>
      b2 (gX7_takeWhole S8 (1 : Int32) (99 : Int32)) fun r9 S10 =>
      if r9 = 0 then
        some ((0 : Int32), S10)
      else
        gX7_readYears_J34 (pI S10 a1 4 (gI S10 2 5)) a1
def gX8_likes_L2 (S : zM) (v0 : Nat) (v1 : Int64) : Nat → Int32 → Option Int32
  | 0, _ => none
  | n + 1, v3 =>
    if (gI S v0 7) ≤ v3 then
      some (0 : Int32)
    else
      if (6 : Int32) ≤ v3 then
        some (0 : Int32)
      else
        ck (ixb v3 6) <|
        if (gI S (v0 + 1) (ix v3)).toInt64 = v1 then
          some (1 : Int32)
        else
          gX8_likes_L2 S v0 v1 n (v3 + (1 : Int32))
def gX8_likes (S : zM) (q : Nat) (a1 : Int64) : Option Int32 :=
    gX8_likes_L2 S q a1 FU (0 : Int32)
def gX8_addLiked (S : zM) (q : Nat) (a1 : Int32) : Option zM :=
    if (6 : Int32) ≤ (gI S q 7) then
      some S
    else
      ck (ixb (gI S q 7) 6) <|
      lt (pI (pI S (q + 1) (ix (gI S q 7)) a1) q 7 ((gI (pI S (q + 1) (ix (gI S q 7)) a1) q 7) + (1 : Int32))) fun S2 =>
      some S2
def gX7_readLiked_J18 (S : zM) (v1 : Nat) (s0 : Int32) : Option (Int32 × zM) :=
    if s0 = 0 then
      if s0 = 0 then
        b2 (gX7_takeWhole S (0 : Int32) (999 : Int32)) fun r2 S3 =>
        if r2 = 0 then
          some ((0 : Int32), S3)
        else
          b1 (gX8_addLiked S3 v1 (gI S3 2 5)) fun S5 =>
          some ((1 : Int32), S5)
      else
        if (gI S v1 7) < (6 : Int32) then
          b2 (gX7_takeWhole S (0 : Int32) (999 : Int32)) fun r6 S7 =>
          if r6 = 0 then
            some ((0 : Int32), S7)
          else
            b1 (gX8_addLiked S7 v1 (gI S7 2 5)) fun S9 =>
            some ((1 : Int32), S9)
        else
          b2 (gX7_wrong S (5 : Int32)) fun r10 S11 =>
          ck (isB r10) <|
          some (r10, S11)
    else
      ck (ixb (gI S 2 4) 701) <|
      b1 (gX8_likes S v1 (gL S 5 (ix (gI S 2 4)))) fun r14 =>
      if r14 = 0 then
        if s0 = 0 then
          b2 (gX7_takeWhole S (0 : Int32) (999 : Int32)) fun r15 S16 =>
          if r15 = 0 then
            some ((0 : Int32), S16)
          else
            b1 (gX8_addLiked S16 v1 (gI S16 2 5)) fun S18 =>
            some ((1 : Int32), S18)
        else
          if (gI S v1 7) < (6 : Int32) then
            b2 (gX7_takeWhole S (0 : Int32) (999 : Int32)) fun r19 S20 =>
            if r19 = 0 then
              some ((0 : Int32), S20)
            else
              b1 (gX8_addLiked S20 v1 (gI S20 2 5)) fun S22 =>
              some ((1 : Int32), S22)
          else
            b2 (gX7_wrong S (5 : Int32)) fun r23 S24 =>
            ck (isB r23) <|
            some (r23, S24)
      else
        b2 (gX7_wrong S (3 : Int32)) fun r26 S27 =>
        ck (isB r26) <|
        some (r26, S27)
def gX7_readLiked (S : zM) (a1 : Nat) : Option (Int32 × zM) :=
    ck (ixb (gI S 2 4) 701) <|
    if (gI S 3 (ix (gI S 2 4))) = (2 : Int32) then
      gX7_readLiked_J18 S a1 (1 : Int32)
    else
      gX7_readLiked_J18 S a1 (0 : Int32)
def gX7_readLikes_L41 (v1 : Nat) : Nat → zM → Int32 → Int32 → Option (Int32 × zM)
  | 0, _, _, _ => none
  | n + 1, S, v2, v3 =>
    if (gI S 2 3) ≤ v3 then
      ck (isB v2) <|
      some (v2, S)
    else
      if v2 = 0 then
        ck (isB v2) <|
        some (v2, S)
      else
        b1 (gX7_isMark S (44 : Int32)) fun r9 =>
        if r9 = 0 then
          ck (isB v2) <|
          some (v2, S)
        else
          b1 (gX7_step S) fun S12 =>
          b2 (gX7_readLiked S12 v1) fun r13 S14 =>
          gX7_readLikes_L41 v1 n S14 r13 (v3 + (1 : Int32))
def gX7_readLikes_J18 (S : zM) (v1 : Nat) : Option (Int32 × zM) :=
    b1 (gX7_isWord S 10010) fun r17 =>
    if r17 = 0 then
      some ((1 : Int32), S)
    else
      b1 (gX7_step S) fun S19 =>
      b2 (gX7_readLiked S19 v1) fun r20 S21 =>
      gX7_readLikes_L41 v1 FU S21 r20 (0 : Int32)
def gX7_readLikes (S : zM) (a1 : Nat) : Option (Int32 × zM) :=
    b1 (gX7_isWord S 10011) fun r1 =>
    if r1 = 0 then
      b1 (gX7_isWord S 10010) fun r2 =>
      if r2 = 0 then
        some ((1 : Int32), S)
      else
        b1 (gX7_step S) fun S4 =>
        b2 (gX7_readLiked S4 a1) fun r5 S6 =>
        gX7_readLikes_L41 a1 FU S6 r5 (0 : Int32)
    else
      b1 (gX7_step S) fun S16 =>
      gX7_readLikes_J18 (pI S16 a1 6 (1 : Int32)) a1
def gX7_readSayer (S : zM) : Option (Int32 × zM) :=
    ck (zobb cW 3 (gR S 2 6)) <|
    if (gI S (gR S 2 6) 7) < (6 : Int32) then
      b1 (gX7_step S) fun S3 =>
      ck (zobb cW 3 (gR S3 2 6)) <|
      ck (zobb cW 3 (gR S3 2 6)) <|
      ck (ixb (gI S3 (gR S3 2 6) 7) 6) <|
      b1 (gX8_empty S3 ((gR S3 2 6) + 193 + 2 * ix (gI S3 (gR S3 2 6) 7))) fun S8 =>
      ck (zobb cW 3 (gR S8 2 6)) <|
      b2 (gX7_takeNewName (pI S8 (gR S8 2 6) 7 ((gI S8 (gR S8 2 6) 7) + (1 : Int32))) (-1 : Int32)) fun r10 S11 =>
      if r10 = 0 then
        some ((0 : Int32), S11)
      else
        b2 (gX7_takeWord S11 10015) fun r12 S13 =>
        if r12 = 0 then
          some ((0 : Int32), S13)
        else
          b2 (gX7_takeSenseName S13) fun r14 S15 =>
          if r14 = 0 then
            some ((0 : Int32), S15)
          else
            b2 (gX7_readLines (pI S15 ((gR S3 2 6) + 193 + 2 * ix (gI S3 (gR S3 2 6) 7)) 1 (gI S15 2 5)) ((gR S3 2 6) + 193 + 2 * ix (gI S3 (gR S3 2 6) 7))) fun r16 S17 =>
            if r16 = 0 then
              some ((0 : Int32), S17)
            else
              b2 (gX7_readYears S17 ((gR S3 2 6) + 193 + 2 * ix (gI S3 (gR S3 2 6) 7))) fun r18 S19 =>
              if r18 = 0 then
                some ((0 : Int32), S19)
              else
                b2 (gX7_readLikes S19 ((gR S3 2 6) + 193 + 2 * ix (gI S3 (gR S3 2 6) 7))) fun r20 S21 =>
                if r20 = 0 then
                  some ((0 : Int32), S21)
                else
                  some ((1 : Int32), S21)
    else
      b2 (gX7_wrong S (5 : Int32)) fun r22 S23 =>
      ck (isB r22) <|
      some (r22, S23)
def gX7_readSizes (S : zM) (a1 : Nat) : Option (Int32 × zM) :=
    b2 (gX7_takeWhole S (1 : Int32) (400 : Int32)) fun r1 S2 =>
    if r1 = 0 then
      some ((0 : Int32), S2)
    else
      b2 (gX7_takeWord (pI S2 a1 1 (gI S2 2 5)) 10008) fun r3 S4 =>
      if r3 = 0 then
        some ((0 : Int32), S4)
      else
        b2 (gX7_takeWhole S4 (gI S4 a1 1) (400 : Int32)) fun r5 S6 =>
        if r5 = 0 then
          some ((0 : Int32), S6)
        else
          b2 (gX7_takeWord (pI S6 a1 2 (gI S6 2 5)) 10009) fun r7 S8 =>
          if r7 = 0 then
            some ((0 : Int32), S8)
          else
            b2 (gX7_takeWhole S8 (1 : Int32) (400 : Int32)) fun r9 S10 =>
            if r9 = 0 then
              some ((0 : Int32), S10)
            else
              b1 (gX6_sizes (pI S10 a1 3 (gI S10 2 5)) a1) fun r11 =>
              ck (decide (¬ (jmax (1 : Int32) r11) = 0)) <|
              lt (jmin (20 : Int32) ((200 : Int32) / (jmax (1 : Int32) r11))) fun x13 =>
              b2 (gX7_takeWord (pI S10 a1 3 (gI S10 2 5)) 10022) fun r14 S15 =>
              if r14 = 0 then
                some ((0 : Int32), S15)
              else
                b2 (gX7_takeWhole S15 (1 : Int32) x13) fun r16 S17 =>
                if r16 = 0 then
                  some ((0 : Int32), S17)
                else
                  some ((1 : Int32), (pI S17 a1 4 (gI S17 2 5)))
def gX7_readPlan_J104 (S : zM) (v1 : Nat) (s0 : Int32) : Option (Int32 × zM) :=
    if (gI (pI S v1 0 s0) v1 0) = (-1 : Int32) then
      b2 (gX7_wrong (pI S v1 0 s0) (1 : Int32)) fun r18 S19 =>
      ck (isB r18) <|
      some (r18, S19)
    else
      b1 (gX7_step (pI S v1 0 s0)) fun S14 =>
      b2 (gX7_readSizes S14 v1) fun r15 S16 =>
      ck (isB r15) <|
      some (r15, S16)
def gX7_readPlan (S : zM) : Option (Int32 × zM) :=
    ck (zobb cW 3 (gR S 2 6)) <|
    if (gI S (gR S 2 6) 8) < (4 : Int32) then
      b1 (gX7_step S) fun S3 =>
      ck (zobb cW 3 (gR S3 2 6)) <|
      ck (zobb cW 3 (gR S3 2 6)) <|
      ck (ixb (gI S3 (gR S3 2 6) 8) 4) <|
      ck (zobb cW 3 (gR S3 2 6)) <|
      b2 (gX7_takeNewName (pI S3 (gR S3 2 6) 8 ((gI S3 (gR S3 2 6) 8) + (1 : Int32))) (-1 : Int32)) fun r8 S9 =>
      if r8 = 0 then
        some ((0 : Int32), S9)
      else
        b1 (gX7_isWord S9 10019) fun r10 =>
        if r10 = 0 then
          b1 (gX7_isWord S9 10020) fun r11 =>
          if r11 = 0 then
            b1 (gX7_isWord S9 10021) fun r12 =>
            if r12 = 0 then
              gX7_readPlan_J104 S9 ((gR S3 2 6) + 205 + 1 * ix (gI S3 (gR S3 2 6) 8)) (-1 : Int32)
            else
              gX7_readPlan_J104 S9 ((gR S3 2 6) + 205 + 1 * ix (gI S3 (gR S3 2 6) 8)) (2 : Int32)
          else
            gX7_readPlan_J104 S9 ((gR S3 2 6) + 205 + 1 * ix (gI S3 (gR S3 2 6) 8)) (1 : Int32)
        else
          gX7_readPlan_J104 S9 ((gR S3 2 6) + 205 + 1 * ix (gI S3 (gR S3 2 6) 8)) (0 : Int32)
    else
      b2 (gX7_wrong S (5 : Int32)) fun r21 S22 =>
      ck (isB r21) <|
      some (r21, S22)
def gX7_takeAmount (S : zM) (a1 : Nat) : Option (Int32 × zM) :=
    b2 (gX7_takeWord S a1) fun r1 S2 =>
    if r1 = 0 then
      some ((0 : Int32), S2)
    else
      b2 (gX7_takeSigned S2 (99 : Int32)) fun r3 S4 =>
      if r3 = 0 then
        some ((0 : Int32), S4)
      else
        some ((1 : Int32), S4)
def gX7_readPay (S : zM) : Option (Int32 × zM) :=
    ck (zobb cW 3 (gR S 2 6)) <|
    if (gI S (gR S 2 6) 9) < (4 : Int32) then
      b1 (gX7_step S) fun S3 =>
      ck (zobb cW 3 (gR S3 2 6)) <|
      ck (zobb cW 3 (gR S3 2 6)) <|
      ck (ixb (gI S3 (gR S3 2 6) 9) 4) <|
      ck (zobb cW 3 (gR S3 2 6)) <|
      b2 (gX7_takeNewName (pI S3 (gR S3 2 6) 9 ((gI S3 (gR S3 2 6) 9) + (1 : Int32))) (-1 : Int32)) fun r8 S9 =>
      if r8 = 0 then
        some ((0 : Int32), S9)
      else
        b2 (gX7_takeAmount S9 10023) fun r10 S11 =>
        if r10 = 0 then
          some ((0 : Int32), S11)
        else
          b2 (gX7_takeAmount (pI S11 ((gR S3 2 6) + 209 + 1 * ix (gI S3 (gR S3 2 6) 9)) 0 (gI S11 2 5)) 10024) fun r12 S13 =>
          if r12 = 0 then
            some ((0 : Int32), S13)
          else
            b2 (gX7_takeAmount (pI S13 ((gR S3 2 6) + 209 + 1 * ix (gI S3 (gR S3 2 6) 9)) 1 (gI S13 2 5)) 10025) fun r14 S15 =>
            if r14 = 0 then
              some ((0 : Int32), S15)
            else
              b2 (gX7_takeAmount (pI S15 ((gR S3 2 6) + 209 + 1 * ix (gI S3 (gR S3 2 6) 9)) 2 (gI S15 2 5)) 10026) fun r16 S17 =>
              if r16 = 0 then
                some ((0 : Int32), S17)
              else
                b2 (gX7_takeWord (pI S17 ((gR S3 2 6) + 209 + 1 * ix (gI S3 (gR S3 2 6) 9)) 3 (gI S17 2 5)) 10027) fun r18 S19 =>
                if r18 = 0 then
                  some ((0 : Int32), S19)
                else
                  b2 (gX7_takeWhole S19 (0 : Int32) (100 : Int32)) fun r20 S21 =>
                  if r20 = 0 then
                    some ((0 : Int32), S21)
                  else
                    some ((1 : Int32), (pI S21 ((gR S3 2 6) + 209 + 1 * ix (gI S3 (gR S3 2 6) 9)) 4 (gI S21 2 5)))
    else
      b2 (gX7_wrong S (5 : Int32)) fun r22 S23 =>
      ck (isB r22) <|
      some (r22, S23)
def gX7_reads_J119 (S : zM) (v4 : Int32) (s0 : Int32) : Option (((Int32 × zM) ⊕ zM) ⊕ (Int32 × Int32 × zM)) :=
    if s0 = 0 then
      some (.inl (.inl ((0 : Int32), S)))
    else
      b1 (gX7_isMark S (59 : Int32)) fun r12 =>
      if r12 = 0 then
        some (.inr (r12, (v4 + (1 : Int32)), S))
      else
        b1 (gX7_step S) fun S14 =>
        some (.inr (r12, (v4 + (1 : Int32)), S14))
def gX7_reads_L37 : Nat → zM → Int32 → Int32 → Option ((Int32 × zM) ⊕ zM)
  | 0, _, _, _ => none
  | n + 1, S, v3, v4 =>
    if (gI S 2 3) ≤ v4 then
      some (.inr S)
    else
      if v3 = 0 then
        some (.inr S)
      else
        b1 (gX7_isWord S 10000) fun r6 =>
        if r6 = 0 then
          b1 (gX7_isWord S 10001) fun r7 =>
          if r7 = 0 then
            b1 (gX7_isWord S 10002) fun r8 =>
            if r8 = 0 then
              b1 (gX7_isWord S 10003) fun r9 =>
              if r9 = 0 then
                b2 (gX7_wrong S (1 : Int32)) fun r10 S11 =>
                lm (gX7_reads_J119 S11 v4 r10) (un3 fun v3 v4 S => gX7_reads_L37 n S v3 v4)
              else
                b2 (gX7_readPay S) fun r15 S16 =>
                lm (gX7_reads_J119 S16 v4 r15) (un3 fun v3 v4 S => gX7_reads_L37 n S v3 v4)
            else
              b2 (gX7_readPlan S) fun r17 S18 =>
              lm (gX7_reads_J119 S18 v4 r17) (un3 fun v3 v4 S => gX7_reads_L37 n S v3 v4)
          else
            b2 (gX7_readSayer S) fun r19 S20 =>
            lm (gX7_reads_J119 S20 v4 r19) (un3 fun v3 v4 S => gX7_reads_L37 n S v3 v4)
        else
          b2 (gX7_readSense S) fun r21 S22 =>
          lm (gX7_reads_J119 S22 v4 r21) (un3 fun v3 v4 S => gX7_reads_L37 n S v3 v4)
def gX7_reads (S : zM) (a2 : Int32) : Option (Int32 × zM) :=
    ck (zobb cW 3 (gR S 2 6)) <|
    b1 (gX3_empty S (gR S 2 6)) fun S3 =>
    b1 (gX7_scan (pI (pI S3 2 7 (0 : Int32)) 2 8 (0 : Int32)) (jmax (0 : Int32) (jmin a2 (700 : Int32)))) fun S5 =>
    lm (gX7_reads_L37 FU S5 (1 : Int32) (0 : Int32)) fun S23 =>
    ck (ixb (gI S23 2 4) 701) <|
    if (gI S23 3 (ix (gI S23 2 4))) = 0 then
      ck (zobb cW 3 (gR S23 2 6)) <|
      if 0 < (gI S23 (gR S23 2 6) 6) then
        some ((1 : Int32), S23)
      else
        b2 (gX7_wrong S23 (6 : Int32)) fun r26 S27 =>
        if r26 = 0 then
          some ((0 : Int32), S27)
        else
          some ((1 : Int32), S27)
    else
      b2 (gX7_wrong S23 (1 : Int32)) fun r28 S29 =>
      ck (isB r28) <|
      some (r28, S29)
def gX8_learned (S : zM) (q : Nat) (a1 : Int32) : Option Int32 :=
    if (1 : Int32) ≤ (gI S q 5) then
      ck (decide (¬ (gI S q 5) = 0)) <|
      some (jmin a1 ((gI S q 8) / (gI S q 5)))
    else
      some (0 : Int32)
def gX10_least (S : zM) (a1 : Int32) (a2 : Int32) (a3 : Int32) : Option (Int32 × zM) :=
    b2 (gX10_greatest S a1 (a3 - a2) a3) fun r1 S2 =>
    some ((a1 - r1), S2)
def gX11_putBytes_L3 (v1 : Int32) : Nat → zM → Int32 → Option zM
  | 0, _, _ => none
  | n + 1, S, v2 =>
    if v2 < 0 then
      some S
    else
      if (700 : Int32) ≤ (gI S 0 10) then
        some S
      else
        ck (ixb (gI S 0 10) 700) <|
        lt (pI (pI S 1 (ix (gI S 0 10)) (vp_nar .byte ((v1 >>> (v2 &&& 31)).toInt8.toInt32))) 0 10 ((gI (pI S 1 (ix (gI S 0 10)) (vp_nar .byte ((v1 >>> (v2 &&& 31)).toInt8.toInt32))) 0 10) + (1 : Int32))) fun S2 =>
        gX11_putBytes_L3 v1 n S2 (v2 + (-8 : Int32))
def gX11_putBytes (S : zM) (a1 : Int32) : Option zM :=
    gX11_putBytes_L3 a1 FU S (24 : Int32)
def gX11_feed (S : zM) (a1 : Int32) (a2 : Int32) (a3 : Int32) (a4 : Int32) (a5 : Int32) : Option (Int32 × zM) :=
    if ((gI S 0 10) + (20 : Int32)) ≤ (700 : Int32) then
      b1 (gX11_putBytes S a1) fun S2 =>
      b1 (gX11_putBytes S2 a2) fun S4 =>
      b1 (gX11_putBytes S4 a3) fun S6 =>
      b1 (gX11_putBytes S6 a4) fun S8 =>
      b1 (gX11_putBytes S8 a5) fun S10 =>
      some ((gI S10 0 10), S10)
    else
      some ((-1 : Int32), S)
def gX11_passes (S : zM) (a1 : Int32) : Option (Int32 × zM) :=
    if a1 = 0 then
      some ((1 : Int32), (pI S 0 12 a1))
    else
      some ((0 : Int32), (pI S 0 12 a1))
def gX11_room_J76 (S : zM) (s0 : Int32) : Option (Int32 × zM) :=
    b2 (gX11_passes S s0) fun r5 S6 =>
    if r5 = 0 then
      some ((-1 : Int32), S6)
    else
      ck (zobb cW 3 (gR S6 0 8)) <|
      ck (zobb cW 3 (gR S6 2 6)) <|
      ck (zobb cW 3 (gR (pR (pR S6 0 8 (gR S6 2 6)) 2 6 (gR S6 0 8)) 0 8)) <|
      b1 (gX3_settle (pR (pR S6 0 8 (gR S6 2 6)) 2 6 (gR S6 0 8)) (gR (pR (pR S6 0 8 (gR S6 2 6)) 2 6 (gR S6 0 8)) 0 8)) fun S11 =>
      b1 (gX1_empty S11) fun S13 =>
      ck (zobb cW 3 (gR (pI S13 0 11 (0 : Int32)) 0 8)) <|
      some ((gI (pI S13 0 11 (0 : Int32)) (gR (pI S13 0 11 (0 : Int32)) 0 8) 6), (pI S13 0 11 (0 : Int32)))
def gX11_room_J18 (S : zM) (v1 : Int32) (s0 : Int32) : Option (Int32 × zM) :=
    b2 (gX11_passes S s0) fun r1 S2 =>
    if r1 = 0 then
      some ((-1 : Int32), S2)
    else
      b2 (gX7_reads (pI S2 0 10 (0 : Int32)) v1) fun r3 S4 =>
      if r3 = 0 then
        gX11_room_J76 (pI (pI S4 0 13 (gI S4 2 7)) 0 14 (gI (pI S4 0 13 (gI S4 2 7)) 2 8)) (4 : Int32)
      else
        gX11_room_J76 (pI (pI S4 0 13 (gI S4 2 7)) 0 14 (gI (pI S4 0 13 (gI S4 2 7)) 2 8)) (0 : Int32)
def gX11_room (S : zM) (a1 : Int32) : Option (Int32 × zM) :=
    if a1 < 0 then
      gX11_room_J18 S a1 (2 : Int32)
    else
      if a1 ≤ (gI S 0 10) then
        gX11_room_J18 S a1 (0 : Int32)
      else
        gX11_room_J18 S a1 (2 : Int32)
def gX11_fault (S : zM) : Option Int32 :=
    some (gI S 0 13)
def gX11_where (S : zM) : Option Int32 :=
    if (gI S 0 12) = (4 : Int32) then
      some (gI S 0 14)
    else
      some (-1 : Int32)
def gX11_isSense (S : zM) (a1 : Int32) : Option Int32 :=
    if a1 < 0 then
      some (0 : Int32)
    else
      ck (zobb cW 3 (gR S 0 8)) <|
      if (gI S (gR S 0 8) 6) ≤ a1 then
        some (0 : Int32)
      else
        some (1 : Int32)
def gX11_level (S : zM) (a1 : Int32) (a2 : Int32) : Option Int32 :=
    b1 (gX11_isSense S a1) fun r1 =>
    if r1 = 0 then
      some (-1 : Int32)
    else
      if a2 < 0 then
        some (-1 : Int32)
      else
        if a2 ≤ (400 : Int32) then
          ck (zobb cW 3 (gR S 0 8)) <|
          ck (ixb a1 6) <|
          b1 (gX9_levelAt S ((gR S 0 8) + 7 + 31 * ix a1) a2) fun r4 =>
          some r4
        else
          some (-1 : Int32)
def gX11_noise (S : zM) (a1 : Int32) (a2 : Int32) : Option Int32 :=
    b1 (gX11_isSense S a1) fun r1 =>
    if r1 = 0 then
      some (-1 : Int32)
    else
      ck (zobb cW 3 (gR S 0 8)) <|
      ck (ixb a1 6) <|
      b1 (gX9_fresh S ((gR S 0 8) + 7 + 31 * ix a1)) fun r4 =>
      b1 (gX4_oftenAt S r4 a2) fun r5 =>
      some r5
def gX11_isSayer (S : zM) (a1 : Int32) : Option Int32 :=
    if a1 < 0 then
      some (0 : Int32)
    else
      ck (zobb cW 3 (gR S 0 8)) <|
      if (gI S (gR S 0 8) 7) ≤ a1 then
        some (0 : Int32)
      else
        some (1 : Int32)
def gX11_senseOf (S : zM) (a1 : Nat) : Option Nat :=
    b1 (gX11_isSense S (gI S a1 1)) fun r1 =>
    if r1 = 0 then
      ck (zobb cW 3 (gR S 0 8)) <|
      ck (ixb (0 : Int32) 6) <|
      some ((gR S 0 8) + 7 + 31 * ix (0 : Int32))
    else
      ck (zobb cW 3 (gR S 0 8)) <|
      ck (ixb (gI S a1 1) 6) <|
      some ((gR S 0 8) + 7 + 31 * ix (gI S a1 1))
def gX11_leftOut (S : zM) (a1 : Nat) : Option Int32 :=
    b1 (gX11_senseOf S a1) fun r1 =>
    b1 (gX8_learned S a1 ((gI S r1 7) - (1 : Int32))) fun r2 =>
    some r2
def gX11_noiseOf (S : zM) (a1 : Nat) : Option Nat :=
    b1 (gX11_senseOf S a1) fun r1 =>
    b1 (gX11_leftOut S a1) fun r2 =>
    b1 (gX9_noiseWithout S r1 r2) fun r3 =>
    some r3
def gX11_sayer (S : zM) (a1 : Int32) (a2 : Int32) : Option Int32 :=
    b1 (gX11_isSayer S a1) fun r1 =>
    if r1 = 0 then
      some (-1000 : Int32)
    else
      ck (zobb cW 3 (gR S 0 8)) <|
      ck (ixb a1 6) <|
      if a2 = (0 : Int32) then
        some (gI S ((gR S 0 8) + 193 + 2 * ix a1) 1)
      else
      if a2 = (1 : Int32) then
        some (gI S ((gR S 0 8) + 193 + 2 * ix a1) 2)
      else
      if a2 = (2 : Int32) then
        some (gI S ((gR S 0 8) + 193 + 2 * ix a1) 3)
      else
      if a2 = (3 : Int32) then
        b1 (gX8_tired S ((gR S 0 8) + 193 + 2 * ix a1)) fun r4 =>
        some r4
      else
      if a2 = (4 : Int32) then
        b1 (gX11_leftOut S ((gR S 0 8) + 193 + 2 * ix a1)) fun r5 =>
        some r5
      else
      if a2 = (5 : Int32) then
        some (gI S ((gR S 0 8) + 193 + 2 * ix a1) 8)
      else
      if a2 = (6 : Int32) then
        some (gI S ((gR S 0 8) + 193 + 2 * ix a1) 9)
      else
      if a2 = (7 : Int32) then
        b1 (gX11_noiseOf S ((gR S 0 8) + 193 + 2 * ix a1)) fun r6 =>
        some (gI S r6 3)
      else
      if a2 = (8 : Int32) then
        if (gI S ((gR S 0 8) + 193 + 2 * ix a1) 6) = 0 then
          some (0 : Int32)
        else
          some (1 : Int32)
      else
      if a2 = (9 : Int32) then
        some (gI S ((gR S 0 8) + 193 + 2 * ix a1) 7)
      else
        some (-1000 : Int32)
def gX11_rest_J14 (S : zM) (v1 : Int32) (s0 : Int32) : Option (Int32 × zM) :=
    b2 (gX11_passes S s0) fun r2 S3 =>
    if r2 = 0 then
      some ((0 : Int32), S3)
    else
      ck (zobb cW 3 (gR S3 0 8)) <|
      ck (ixb v1 6) <|
      some ((1 : Int32), (pI S3 ((gR S3 0 8) + 193 + 2 * ix v1) 9 (0 : Int32)))
def gX11_rest (S : zM) (a1 : Int32) : Option (Int32 × zM) :=
    b1 (gX11_isSayer S a1) fun r1 =>
    if r1 = 0 then
      gX11_rest_J14 S a1 (1 : Int32)
    else
      gX11_rest_J14 S a1 (0 : Int32)
def gX11_askOf (S : zM) (a1 : Nat) : Option zM :=
    b1 (gX11_senseOf (pR S 456 0 a1) a1) fun r1 =>
    b1 (gX11_isSense (pR (pR S 456 0 a1) 456 1 r1) (gI (pR (pR S 456 0 a1) 456 1 r1) 456 6)) fun r2 =>
    if r2 = 0 then
      ck (zobb cW 9 (gR (pR (pR S 456 0 a1) 456 1 r1) 456 1)) <|
      some (pR (pR (pR S 456 0 a1) 456 1 r1) 456 2 (gR (pR (pR S 456 0 a1) 456 1 r1) 456 1))
    else
      ck (zobb cW 3 (gR (pR (pR S 456 0 a1) 456 1 r1) 0 8)) <|
      ck (ixb (gI (pR (pR S 456 0 a1) 456 1 r1) 456 6) 6) <|
      lt (pR (pR (pR S 456 0 a1) 456 1 r1) 456 2 ((gR (pR (pR S 456 0 a1) 456 1 r1) 0 8) + 7 + 31 * ix (gI (pR (pR S 456 0 a1) 456 1 r1) 456 6))) fun S6 =>
      some S6
def gX11_asks_J49 (S : zM) (v1 : Int32) (v2 : Int32) (v3 : Int32) (v4 : Int32) (v5 : Int32) (s0 : Int32) : Option (Int32 × zM) :=
    b2 (gX11_passes S s0) fun r2 S3 =>
    if r2 = 0 then
      some ((0 : Int32), S3)
    else
      b1 (gX0_put S3 v1 v2 v3 v4 v5) fun S5 =>
      ck (zobb cW 3 (gR S5 0 8)) <|
      ck (ixb v1 6) <|
      b1 (gX11_askOf S5 ((gR S5 0 8) + 193 + 2 * ix v1)) fun S9 =>
      b1 (gX0_isInBounds S9) fun r10 =>
      if r10 = 0 then
        b2 (gX11_passes S9 (2 : Int32)) fun r11 S12 =>
        ck (isB r11) <|
        some (r11, S12)
      else
        b2 (gX11_passes S9 (0 : Int32)) fun r14 S15 =>
        ck (isB r14) <|
        some (r14, S15)
def gX11_asks_J36 (S : zM) (v1 : Int32) (v2 : Int32) (v3 : Int32) (v4 : Int32) (v5 : Int32) (s0 : Int32) : Option (Int32 × zM) :=
    if s0 = 0 then
      gX11_asks_J49 S v1 v2 v3 v4 v5 (1 : Int32)
    else
      gX11_asks_J49 S v1 v2 v3 v4 v5 (0 : Int32)
def gX11_asks (S : zM) (a1 : Int32) (a2 : Int32) (a3 : Int32) (a4 : Int32) (a5 : Int32) : Option (Int32 × zM) :=
    b1 (gX11_isSayer S a1) fun r1 =>
    if r1 = 0 then
      gX11_asks_J36 S a1 a2 a3 a4 a5 (0 : Int32)
    else
      if a2 < 0 then
        gX11_asks_J36 S a1 a2 a3 a4 a5 (0 : Int32)
      else
        if (5 : Int32) < a2 then
          gX11_asks_J36 S a1 a2 a3 a4 a5 (0 : Int32)
        else
          if a2 = (4 : Int32) then
            b1 (gX11_isSense S a4) fun r17 =>
            if r17 = 0 then
              gX11_asks_J36 S a1 a2 a3 a4 a5 (0 : Int32)
            else
              gX11_asks_J36 S a1 a2 a3 a4 a5 (1 : Int32)
          else
            gX11_asks_J36 S a1 a2 a3 a4 a5 (1 : Int32)
def gX11_odds (S : zM) (a1 : Int32) (a2 : Int32) (a3 : Int32) (a4 : Int32) (a5 : Int32) (a6 : Int32) (a7 : Int32) : Option (Int32 × zM) :=
    b2 (gX11_asks S a1 a2 a3 a4 a5) fun r1 S2 =>
    if r1 = 0 then
      some ((-1 : Int32), S2)
    else
      ck (zobb cW 8 (gR S2 456 0)) <|
      b1 (gX11_noiseOf S2 (gR S2 456 0)) fun r4 =>
      if a7 = 0 then
        b1 (gX0_oddsOf S2 r4 a6) fun r5 =>
        some (r5, S2)
      else
        b1 (gX0_wholeOdds S2 r4) fun r6 =>
        some (r6, S2)
def gX11_seed (S : zM) (a1 : Int32) : Option (Int32 × zM) :=
    if a1 < 0 then
      b2 (gX11_passes S (2 : Int32)) fun r1 S2 =>
      if r1 = 0 then
        some ((0 : Int32), S2)
      else
        some ((1 : Int32), (pI S2 0 11 a1))
    else
      if a1 < (65537 : Int32) then
        b2 (gX11_passes S (0 : Int32)) fun r3 S4 =>
        if r3 = 0 then
          some ((0 : Int32), S4)
        else
          some ((1 : Int32), (pI S4 0 11 a1))
      else
        b2 (gX11_passes S (2 : Int32)) fun r5 S6 =>
        if r5 = 0 then
          some ((0 : Int32), S6)
        else
          some ((1 : Int32), (pI S6 0 11 a1))
def gX11_whyNoRoom (S : zM) (a1 : Int32) : Option Int32 :=
    b1 (gX1_holds S a1) fun r1 =>
    if r1 = 0 then
      some (3 : Int32)
    else
      some (0 : Int32)
def gX11_drawn (S : zM) (a1 : Int32) : Option (Int32 × zM) :=
    lt (pI S 0 11 ((((75 : Int32) * (gI S 0 11)) + (74 : Int32)) - (((75 : Int32) * (gI S 0 11)) + (74 : Int32)) / (65537 : Int32) * (65537 : Int32))) fun S1 =>
    if (1 : Int32) ≤ a1 then
      ck (decide (¬ a1 = 0)) <|
      some (((gI S1 0 11) - (gI S1 0 11) / a1 * a1), S1)
    else
      some ((0 : Int32), S1)
def gX11_feelingDrawn (S : zM) (a1 : Nat) (a2 : Int32) : Option (Int32 × zM) :=
    b1 (gX0_feelings S) fun r1 =>
    if r1 ≤ a2 then
      some ((0 : Int32), S)
    else
      b1 (gX0_levelOf S a2) fun r2 =>
      b2 (gX11_drawn S (gI S a1 3)) fun r3 S4 =>
      b1 (gX4_countedOff S4 a1 r3) fun r5 =>
      some ((r2 + r5), S4)
def gX11_write (S : zM) (a1 : Int32) : Option zM :=
    b1 (gX1_put S a1) fun S2 =>
    ck (zobb cW 8 (gR S2 456 0)) <|
    ck (zobb cW 8 (gR (pI S2 (gR S2 456 0) 8 ((gI S2 (gR S2 456 0) 8) + (1 : Int32))) 456 0)) <|
    lt (pI (pI S2 (gR S2 456 0) 8 ((gI S2 (gR S2 456 0) 8) + (1 : Int32))) (gR (pI S2 (gR S2 456 0) 8 ((gI S2 (gR S2 456 0) 8) + (1 : Int32))) 456 0) 9 ((gI (pI S2 (gR S2 456 0) 8 ((gI S2 (gR S2 456 0) 8) + (1 : Int32))) (gR (pI S2 (gR S2 456 0) 8 ((gI S2 (gR S2 456 0) 8) + (1 : Int32))) 456 0) 9) + (1 : Int32))) fun S5 =>
    some S5
def gX11_sayDrawn (S : zM) : Option (Int32 × zM) :=
    ck (zobb cW 8 (gR S 456 0)) <|
    b1 (gX11_noiseOf S (gR S 456 0)) fun r2 =>
    b2 (gX11_feelingDrawn S r2 (0 : Int32)) fun r3 S4 =>
    b2 (gX11_feelingDrawn S4 r2 (1 : Int32)) fun r5 S6 =>
    b2 (gX11_feelingDrawn S6 r2 (2 : Int32)) fun r7 S8 =>
    b1 (gX0_said S8 r3 r5 r7) fun r9 =>
    b1 (gX11_write S8 r9) fun S11 =>
    some (r9, S11)
def gX11_trial (S : zM) (a1 : Int32) (a2 : Int32) (a3 : Int32) (a4 : Int32) (a5 : Int32) : Option (Int32 × zM) :=
    b2 (gX11_asks S a1 a2 a3 a4 a5) fun r1 S2 =>
    if r1 = 0 then
      some ((-1 : Int32), S2)
    else
      b1 (gX11_whyNoRoom S2 (1 : Int32)) fun r3 =>
      b2 (gX11_passes S2 r3) fun r4 S5 =>
      if r4 = 0 then
        some ((-1 : Int32), S5)
      else
        b2 (gX11_sayDrawn S5) fun r6 S7 =>
        some (r6, S7)
def gX11_tell_J36 (S : zM) (v6 : Int32) (s0 : Int32) : Option (Int32 × zM) :=
    b2 (gX11_passes S s0) fun r4 S5 =>
    if r4 = 0 then
      some ((-1 : Int32), S5)
    else
      b1 (gX11_write S5 v6) fun S7 =>
      some ((gI S7 219 2), S7)
def gX11_tell (S : zM) (a1 : Int32) (a2 : Int32) (a3 : Int32) (a4 : Int32) (a5 : Int32) (a6 : Int32) : Option (Int32 × zM) :=
    b2 (gX11_asks S a1 a2 a3 a4 a5) fun r1 S2 =>
    if r1 = 0 then
      some ((-1 : Int32), S2)
    else
      b1 (gX0_canBe S2 a6) fun r3 =>
      if r3 = 0 then
        gX11_tell_J36 S2 a6 (2 : Int32)
      else
        b1 (gX11_whyNoRoom S2 (1 : Int32)) fun r8 =>
        gX11_tell_J36 S2 a6 r8
def gX11_isPlan (S : zM) (a1 : Int32) : Option Int32 :=
    if a1 < 0 then
      some (0 : Int32)
    else
      ck (zobb cW 3 (gR S 0 8)) <|
      if (gI S (gR S 0 8) 8) ≤ a1 then
        some (0 : Int32)
      else
        some (1 : Int32)
def gX11_bringToFront_L29 (v1 : Int32) (v3 : Int32) : Nat → zM → Int32 → Option zM
  | 0, _, _ => none
  | n + 1, S, v4 =>
    if v4 ≤ v1 then
      ck (ixb v1 200) <|
      some (pI S 239 (ix v1) v3)
    else
      ck (ixb (v4 - (1 : Int32)) 200) <|
      ck (ixb v4 200) <|
      gX11_bringToFront_L29 v1 v3 n (pI S 239 (ix v4) (gI S 239 (ix (v4 - (1 : Int32))))) (v4 + (-1 : Int32))
def gX11_bringToFront (S : zM) (a1 : Int32) (a2 : Int32) : Option zM :=
    if a1 < 0 then
      some S
    else
      if a2 < a1 then
        some S
      else
        if a2 < (200 : Int32) then
          ck (ixb a2 200) <|
          gX11_bringToFront_L29 a1 (gI S 239 (ix a2)) FU S a2
        else
          some S
def gX11_sayAlone (S : zM) (a1 : Int32) (a2 : Int32) : Option (Int32 × zM) :=
    b1 (gX0_put S a1 (1 : Int32) a2 (0 : Int32) (0 : Int32)) fun S2 =>
    ck (zobb cW 3 (gR S2 0 8)) <|
    ck (ixb a1 6) <|
    b1 (gX11_askOf S2 ((gR S2 0 8) + 193 + 2 * ix a1)) fun S6 =>
    b2 (gX11_sayDrawn S6) fun r7 S8 =>
    some (r7, S8)
def gX11_run_J116 (S : zM) (v2 : Int32) (v3 : Nat) (v4 : Int32) (v5 : Int32) (v6 : Int32) : Option ((Int32 × zM) ⊕ (Int32 × Int32 × zM)) :=
    ck (ixb v6 200) <|
    b2 (gX11_sayAlone S v2 (gI S 239 (ix v6))) fun r20 S21 =>
    some (.inr ((v5 + r20), (v6 + (1 : Int32)), S21))
def gX11_run_L83 (v2 : Int32) (v3 : Nat) (v4 : Int32) : Nat → zM → Int32 → Int32 → Option (Int32 × zM)
  | 0, _, _, _ => none
  | n + 1, S, v5, v6 =>
    if v4 ≤ v6 then
      some (v5, S)
    else
      if (gI S v3 0) = (2 : Int32) then
        b2 (gX11_drawn S (v4 - v6)) fun r15 S16 =>
        b1 (gX11_bringToFront S16 v6 (v6 + r15)) fun S18 =>
        lm (gX11_run_J116 S18 v2 v3 v4 v5 v6) (un3 fun v5 v6 S => gX11_run_L83 v2 v3 v4 n S v5 v6)
      else
        ck (ixb v6 200) <|
        b2 (gX11_sayAlone S v2 (gI S 239 (ix v6))) fun r13 S14 =>
        gX11_run_L83 v2 v3 v4 n S14 (v5 + r13) (v6 + (1 : Int32))
def gX11_run_J22 (S : zM) (v1 : Int32) (v2 : Int32) (s0 : Int32) : Option (Int32 × zM) :=
    b2 (gX11_passes S s0) fun r2 S3 =>
    if r2 = 0 then
      some ((-1 : Int32), S3)
    else
      ck (zobb cW 3 (gR S3 0 8)) <|
      ck (ixb v1 4) <|
      b1 (gX6_trials S3 ((gR S3 0 8) + 205 + 1 * ix v1)) fun r6 =>
      b1 (gX11_whyNoRoom S3 (jmin r6 (200 : Int32))) fun r7 =>
      b2 (gX11_passes S3 r7) fun r8 S9 =>
      if r8 = 0 then
        some ((-1 : Int32), S9)
      else
        b1 (gX6_layOut S9 ((gR S3 0 8) + 205 + 1 * ix v1)) fun S11 =>
        gX11_run_L83 v2 ((gR S3 0 8) + 205 + 1 * ix v1) (jmin r6 (200 : Int32)) FU S11 (0 : Int32) (0 : Int32)
def gX11_run (S : zM) (a1 : Int32) (a2 : Int32) : Option (Int32 × zM) :=
    b1 (gX11_isPlan S a1) fun r1 =>
    if r1 = 0 then
      gX11_run_J22 S a1 a2 (1 : Int32)
    else
      b1 (gX11_isSayer S a2) fun r22 =>
      if r22 = 0 then
        gX11_run_J22 S a1 a2 (1 : Int32)
      else
        gX11_run_J22 S a1 a2 (0 : Int32)
def gX11_stepped (a0 : Int32) (a1 : Int32) (a2 : Int32) : Option Int32 :=
    if a1 = (1 : Int32) then
      some (jmax (1 : Int32) (a0 - a2))
    else
      some (jmin (400 : Int32) (a0 + a2))
def gX11_climb_L80 (v1 : Int32) (v3 : Int32) (v4 : Int32) : Nat → zM → Int32 → Int32 → Option (Int32 × zM)
  | 0, _, _, _ => none
  | n + 1, S, v5, v6 =>
    if v4 ≤ v6 then
      some (v5, S)
    else
      b2 (gX11_sayAlone S v1 v5) fun r10 S11 =>
      b1 (gX11_stepped v5 r10 v3) fun r12 =>
      gX11_climb_L80 v1 v3 v4 n S11 r12 (v6 + (1 : Int32))
def gX11_climb_J53 (S : zM) (v1 : Int32) (v2 : Int32) (v3 : Int32) (v4 : Int32) (s0 : Int32) : Option (Int32 × zM) :=
    b2 (gX11_passes S s0) fun r5 S6 =>
    if r5 = 0 then
      some ((-1 : Int32), S6)
    else
      b1 (gX11_whyNoRoom S6 v4) fun r7 =>
      b2 (gX11_passes S6 r7) fun r8 S9 =>
      if r8 = 0 then
        some ((-1 : Int32), S9)
      else
        gX11_climb_L80 v1 v3 v4 FU S9 v2 (0 : Int32)
def gX11_climb_J14 (S : zM) (v1 : Int32) (v2 : Int32) (v3 : Int32) (v4 : Int32) (s0 : Int32) : Option (Int32 × zM) :=
    b2 (gX11_passes S s0) fun r2 S3 =>
    if r2 = 0 then
      some ((-1 : Int32), S3)
    else
      b1 (gX11_isSize v2) fun r4 =>
      if r4 = 0 then
        gX11_climb_J53 S3 v1 v2 v3 v4 (2 : Int32)
      else
        b1 (gX11_isSize v3) fun r13 =>
        if r13 = 0 then
          gX11_climb_J53 S3 v1 v2 v3 v4 (2 : Int32)
        else
          if v4 < (1 : Int32) then
            gX11_climb_J53 S3 v1 v2 v3 v4 (2 : Int32)
          else
            if (50 : Int32) < v4 then
              gX11_climb_J53 S3 v1 v2 v3 v4 (2 : Int32)
            else
              gX11_climb_J53 S3 v1 v2 v3 v4 (0 : Int32)
def gX11_climb (S : zM) (a1 : Int32) (a2 : Int32) (a3 : Int32) (a4 : Int32) : Option (Int32 × zM) :=
    b1 (gX11_isSayer S a1) fun r1 =>
    if r1 = 0 then
      gX11_climb_J14 S a1 a2 a3 a4 (1 : Int32)
    else
      gX11_climb_J14 S a1 a2 a3 a4 (0 : Int32)
def gX11_book (S : zM) (a1 : Int32) (a2 : Int32) : Option Int32 :=
    b1 (gX1_rowAt S a1 a2) fun r1 =>
    some r1
def gX11_count (S : zM) (a1 : Int32) (a2 : Int32) (a3 : Int32) (a4 : Int32) (a5 : Int32) (a6 : Int32) : Option (Int32 × zM) :=
    b2 (gX11_asks S a1 a2 a3 a4 a5) fun r1 S2 =>
    if r1 = 0 then
      some ((-1 : Int32), S2)
    else
      b1 (gX1_timesOf S2 a6) fun r3 =>
      some (r3, S2)
def gX11_span_J38 (S : zM) (v1 : Int32) (v2 : Int32) (v3 : Int32) (v4 : Int32) (s0 : Int32) : Option (Int32 × zM) :=
    b2 (gX11_passes S s0) fun r1 S2 =>
    if r1 = 0 then
      some ((-1 : Int32), S2)
    else
      if v4 = 0 then
        b2 (gX10_least S2 v1 v2 v3) fun r3 S4 =>
        some (r3, S4)
      else
        b2 (gX10_greatest S2 v1 v2 v3) fun r5 S6 =>
        some (r5, S6)
def gX11_span (S : zM) (a1 : Int32) (a2 : Int32) (a3 : Int32) (a4 : Int32) : Option (Int32 × zM) :=
    if a1 < (1 : Int32) then
      gX11_span_J38 S a1 a2 a3 a4 (2 : Int32)
    else
      if (40 : Int32) < a1 then
        gX11_span_J38 S a1 a2 a3 a4 (2 : Int32)
      else
        if a3 < (1 : Int32) then
          gX11_span_J38 S a1 a2 a3 a4 (2 : Int32)
        else
          if (10000 : Int32) < a3 then
            gX11_span_J38 S a1 a2 a3 a4 (2 : Int32)
          else
            if a2 < 0 then
              gX11_span_J38 S a1 a2 a3 a4 (2 : Int32)
            else
              if a2 ≤ a3 then
                gX11_span_J38 S a1 a2 a3 a4 (0 : Int32)
              else
                gX11_span_J38 S a1 a2 a3 a4 (2 : Int32)
def gX11_isFar (a0 : Int32) : Option Int32 :=
    if a0 < (-50 : Int32) then
      some (0 : Int32)
    else
      if (50 : Int32) < a0 then
        some (0 : Int32)
      else
        some (1 : Int32)
def gX11_whyNotJudged (S : zM) (a1 : Int32) : Option Int32 :=
    b1 (gX2_isOverfull S a1) fun r1 =>
    if r1 = 0 then
      some (0 : Int32)
    else
      some (3 : Int32)
def gX11_lets_J53 (S : zM) (v1 : Int32) (v2 : Int32) (v3 : Int32) (v4 : Int32) (s0 : Int32) : Option (Int32 × zM) :=
    b2 (gX11_passes S s0) fun r5 S6 =>
    if r5 = 0 then
      some ((-1 : Int32), S6)
    else
      ck (zobb cW 3 (gR S6 0 8)) <|
      ck (ixb v2 6) <|
      b2 (gX2_lineLets S6 v1 ((gR S6 0 8) + 7 + 31 * ix v2) v3) fun r9 S10 =>
      if r9 = 0 then
        some ((0 : Int32), S10)
      else
        ck (zobb cW 3 (gR S10 0 8)) <|
        ck (ixb v1 6) <|
        b2 (gX2_secondLets S10 v1 ((gR S6 0 8) + 7 + 31 * ix v2) v4 (gI S10 ((gR S10 0 8) + 193 + 2 * ix v1) 6)) fun r13 S14 =>
        if r13 = 0 then
          some ((0 : Int32), S14)
        else
          some ((1 : Int32), S14)
def gX11_lets_J22 (S : zM) (v1 : Int32) (v2 : Int32) (v3 : Int32) (v4 : Int32) (s0 : Int32) : Option (Int32 × zM) :=
    b2 (gX11_passes S s0) fun r2 S3 =>
    if r2 = 0 then
      some ((-1 : Int32), S3)
    else
      b1 (gX11_isFar v3) fun r4 =>
      if r4 = 0 then
        gX11_lets_J53 S3 v1 v2 v3 v4 (2 : Int32)
      else
        b1 (gX11_isFar v4) fun r15 =>
        if r15 = 0 then
          gX11_lets_J53 S3 v1 v2 v3 v4 (2 : Int32)
        else
          b1 (gX11_whyNotJudged S3 v1) fun r16 =>
          gX11_lets_J53 S3 v1 v2 v3 v4 r16
def gX11_lets (S : zM) (a1 : Int32) (a2 : Int32) (a3 : Int32) (a4 : Int32) : Option (Int32 × zM) :=
    b1 (gX11_isSayer S a1) fun r1 =>
    if r1 = 0 then
      gX11_lets_J22 S a1 a2 a3 a4 (1 : Int32)
    else
      b1 (gX11_isSense S a2) fun r17 =>
      if r17 = 0 then
        gX11_lets_J22 S a1 a2 a3 a4 (1 : Int32)
      else
        gX11_lets_J22 S a1 a2 a3 a4 (0 : Int32)
def gX11_allFits_L4 (v1 : Int32) : Nat → zM → Int32 → Int32 → Option (Int32 × zM)
  | 0, _, _, _ => none
  | n + 1, S, v2, v3 =>
    ck (zobb cW 3 (gR S 0 8)) <|
    if (gI S (gR S 0 8) 6) ≤ v3 then
      some (v2, S)
    else
      ck (zobb cW 3 (gR S 0 8)) <|
      b1 (gX2_judge S v1 v3 (gR S 0 8)) fun S4 =>
      b1 (gX2_fitsOf S4 v3) fun r5 =>
      gX11_allFits_L4 v1 n S4 (v2 + r5) (v3 + (1 : Int32))
def gX11_allFits (S : zM) (a1 : Int32) : Option (Int32 × zM) :=
    gX11_allFits_L4 a1 FU S (0 : Int32) (0 : Int32)
def gX11_fits (S : zM) (a1 : Int32) : Option (Int32 × zM) :=
    b1 (gX11_isSayer S a1) fun r1 =>
    if r1 = 0 then
      b2 (gX11_passes S (1 : Int32)) fun r2 S3 =>
      if r2 = 0 then
        some ((-1 : Int32), S3)
      else
        b2 (gX11_allFits S3 a1) fun r4 S5 =>
        some (r4, S5)
    else
      b1 (gX11_whyNotJudged S a1) fun r6 =>
      b2 (gX11_passes S r6) fun r7 S8 =>
      if r7 = 0 then
        some ((-1 : Int32), S8)
      else
        b2 (gX11_allFits S8 a1) fun r9 S10 =>
        some (r9, S10)
def gX11_fitAt_L86 (S : zM) (v3 : Int32) (v7 : Int32) : Nat → Int32 → Int32 → Option (Int32 × zM)
  | 0, _, _ => none
  | n + 1, v5, v6 =>
    if v7 ≤ v6 then
      if v3 = 0 then
        some (v6, S)
      else
        if v3 = (1 : Int32) then
          b1 (gX2_fitLine S v6 v5) fun r8 =>
          some (r8, S)
        else
          b1 (gX2_fitSecond S v6 v5) fun r7 =>
          some (r7, S)
    else
      b1 (gX2_fitsOf S v6) fun r9 =>
      if v5 < r9 then
        if v3 = 0 then
          some (v6, S)
        else
          if v3 = (1 : Int32) then
            b1 (gX2_fitLine S v6 v5) fun r11 =>
            some (r11, S)
          else
            b1 (gX2_fitSecond S v6 v5) fun r10 =>
            some (r10, S)
      else
        b1 (gX2_fitsOf S v6) fun r12 =>
        gX11_fitAt_L86 S v3 v7 n (v5 - r12) (v6 + (1 : Int32))
def gX11_fitAt_J52 (S : zM) (v2 : Int32) (v3 : Int32) (s0 : Int32) : Option (Int32 × zM) :=
    b2 (gX11_passes S s0) fun r4 S5 =>
    if r4 = 0 then
      some ((-1000 : Int32), S5)
    else
      ck (zobb cW 3 (gR S5 0 8)) <|
      gX11_fitAt_L86 S5 v3 (gI S5 (gR S5 0 8) 6) FU v2 (0 : Int32)
def gX11_fitAt_J27 (S : zM) (v1 : Int32) (v2 : Int32) (v3 : Int32) (s0 : Int32) : Option (Int32 × zM) :=
    b2 (gX11_passes S s0) fun r2 S3 =>
    if r2 = 0 then
      some ((-1000 : Int32), S3)
    else
      if v2 < 0 then
        gX11_fitAt_J52 S3 v2 v3 (1 : Int32)
      else
        b2 (gX11_allFits S3 v1) fun r13 S14 =>
        if r13 ≤ v2 then
          gX11_fitAt_J52 S14 v2 v3 (1 : Int32)
        else
          gX11_fitAt_J52 S14 v2 v3 (0 : Int32)
def gX11_fitAt (S : zM) (a1 : Int32) (a2 : Int32) (a3 : Int32) : Option (Int32 × zM) :=
    b1 (gX11_isSayer S a1) fun r1 =>
    if r1 = 0 then
      gX11_fitAt_J27 S a1 a2 a3 (1 : Int32)
    else
      if a3 < 0 then
        gX11_fitAt_J27 S a1 a2 a3 (1 : Int32)
      else
        if (2 : Int32) < a3 then
          gX11_fitAt_J27 S a1 a2 a3 (1 : Int32)
        else
          b1 (gX11_whyNotJudged S a1) fun r15 =>
          gX11_fitAt_J27 S a1 a2 a3 r15
def gX11_verdict_J26 (S : zM) (v1 : Int32) (v2 : Int32) (s0 : Int32) : Option (Int32 × zM) :=
    b2 (gX11_passes S s0) fun r2 S3 =>
    if r2 = 0 then
      some ((-1 : Int32), S3)
    else
      b2 (gX11_allFits S3 v1) fun r4 S5 =>
      b1 (gX2_fitsOf S5 v2) fun r6 =>
      if r6 = 0 then
        some ((0 : Int32), S5)
      else
        if r6 = r4 then
          some ((2 : Int32), S5)
        else
          some ((1 : Int32), S5)
def gX11_verdict (S : zM) (a1 : Int32) (a2 : Int32) : Option (Int32 × zM) :=
    b1 (gX11_isSayer S a1) fun r1 =>
    if r1 = 0 then
      gX11_verdict_J26 S a1 a2 (1 : Int32)
    else
      b1 (gX11_isSense S a2) fun r7 =>
      if r7 = 0 then
        gX11_verdict_J26 S a1 a2 (1 : Int32)
      else
        b1 (gX11_whyNotJudged S a1) fun r8 =>
        gX11_verdict_J26 S a1 a2 r8
def gX11_lineOf_J59 (S : zM) (v1 : Int32) (v2 : Int32) (v3 : Int32) (v4 : Int32) (s0 : Int32) : Option ((Int32 × zM) ⊕ (Int32 × zM)) :=
    ck (zobb cW 3 (gR S 0 8)) <|
    ck (ixb v2 6) <|
    b2 (gX2_lineLets S v1 ((gR S 0 8) + 7 + 31 * ix v2) s0) fun r6 S7 =>
    if r6 = 0 then
      some (.inr ((v4 + (1 : Int32)), S7))
    else
      some (.inl (s0, S7))
def gX11_lineOf_L40 (v1 : Int32) (v2 : Int32) (v3 : Int32) : Nat → zM → Int32 → Option (Int32 × zM)
  | 0, _, _ => none
  | n + 1, S, v4 =>
    if (50 : Int32) < v4 then
      some ((-1000 : Int32), (pI S 0 12 (6 : Int32)))
    else
      if v3 = 0 then
        lm (gX11_lineOf_J59 S v1 v2 v3 v4 v4) (un2 fun v4 S => gX11_lineOf_L40 v1 v2 v3 n S v4)
      else
        lm (gX11_lineOf_J59 S v1 v2 v3 v4 (-v4)) (un2 fun v4 S => gX11_lineOf_L40 v1 v2 v3 n S v4)
def gX11_lineOf (S : zM) (a1 : Int32) (a2 : Int32) (a3 : Int32) : Option (Int32 × zM) :=
    b1 (gX11_isSayer S a1) fun r1 =>
    if r1 = 0 then
      b2 (gX11_passes S (1 : Int32)) fun r2 S3 =>
      if r2 = 0 then
        some ((-1000 : Int32), S3)
      else
        gX11_lineOf_L40 a1 a2 a3 FU S3 (-50 : Int32)
    else
      b1 (gX11_isSense S a2) fun r8 =>
      if r8 = 0 then
        b2 (gX11_passes S (1 : Int32)) fun r9 S10 =>
        if r9 = 0 then
          some ((-1000 : Int32), S10)
        else
          gX11_lineOf_L40 a1 a2 a3 FU S10 (-50 : Int32)
      else
        b1 (gX11_whyNotJudged S a1) fun r11 =>
        b2 (gX11_passes S r11) fun r12 S13 =>
        if r12 = 0 then
          some ((-1000 : Int32), S13)
        else
          gX11_lineOf_L40 a1 a2 a3 FU S13 (-50 : Int32)
def gX11_secondOf_J73 (S : zM) (v1 : Int32) (v2 : Int32) (v3 : Int32) (v4 : Int32) (v5 : Int32) (s0 : Int32) : Option ((Int32 × zM) ⊕ (Int32 × zM)) :=
    ck (zobb cW 3 (gR S 0 8)) <|
    ck (ixb v2 6) <|
    b2 (gX2_secondLets S v1 ((gR S 0 8) + 7 + 31 * ix v2) s0 v4) fun r9 S10 =>
    if r9 = 0 then
      some (.inr ((v5 + (1 : Int32)), S10))
    else
      some (.inl (s0, S10))
def gX11_secondOf_L54 (v1 : Int32) (v2 : Int32) (v3 : Int32) (v4 : Int32) : Nat → zM → Int32 → Option (Int32 × zM)
  | 0, _, _ => none
  | n + 1, S, v5 =>
    if (50 : Int32) < v5 then
      some ((-1000 : Int32), (pI S 0 12 (6 : Int32)))
    else
      if v3 = 0 then
        lm (gX11_secondOf_J73 S v1 v2 v3 v4 v5 v5) (un2 fun v5 S => gX11_secondOf_L54 v1 v2 v3 v4 n S v5)
      else
        lm (gX11_secondOf_J73 S v1 v2 v3 v4 v5 (-v5)) (un2 fun v5 S => gX11_secondOf_L54 v1 v2 v3 v4 n S v5)
def gX11_secondOf_J26 (S : zM) (v1 : Int32) (v2 : Int32) (v3 : Int32) (s0 : Int32) : Option (Int32 × zM) :=
    b2 (gX11_passes S s0) fun r2 S3 =>
    if r2 = 0 then
      some ((-1000 : Int32), S3)
    else
      ck (zobb cW 3 (gR S3 0 8)) <|
      ck (ixb v1 6) <|
      lt (gI S3 ((gR S3 0 8) + 193 + 2 * ix v1) 6) fun x6 =>
      gX11_secondOf_L54 v1 v2 v3 x6 FU S3 (-50 : Int32)
def gX11_secondOf (S : zM) (a1 : Int32) (a2 : Int32) (a3 : Int32) : Option (Int32 × zM) :=
    b1 (gX11_isSayer S a1) fun r1 =>
    if r1 = 0 then
      gX11_secondOf_J26 S a1 a2 a3 (1 : Int32)
    else
      b1 (gX11_isSense S a2) fun r11 =>
      if r11 = 0 then
        gX11_secondOf_J26 S a1 a2 a3 (1 : Int32)
      else
        b1 (gX11_whyNotJudged S a1) fun r12 =>
        gX11_secondOf_J26 S a1 a2 a3 r12
def gX11_isPercent (a0 : Int32) : Option Int32 :=
    if a0 < (1 : Int32) then
      some (0 : Int32)
    else
      if (100 : Int32) < a0 then
        some (0 : Int32)
      else
        some (1 : Int32)
def gX11_needed_L30 (S : zM) (v1 : Nat) (v2 : Int32) (v3 : Int32) (v4 : Nat) (v5 : Nat) (v6 : Int32) : Nat → Int32 → Option Int32
  | 0, _ => none
  | n + 1, v7 =>
    if (400 : Int32) < (v2 + v7) then
      some (-2 : Int32)
    else
      b1 (gX9_levelAt S v4 (v2 + v7)) fun r4 =>
      b1 (gX4_pairOdds S v5 (r4 - v6) (gI S v1 6) (1 : Int32)) fun r5 =>
      b1 (gX4_pairs S v5) fun r6 =>
      if ((100 : Int32) * r5) < (v3 * r6) then
        gX11_needed_L30 S v1 v2 v3 v4 v5 v6 n (v7 + (1 : Int32))
      else
        some v7
def gX11_needed (S : zM) (a1 : Nat) (a2 : Int32) (a3 : Int32) : Option Int32 :=
    b1 (gX11_senseOf S a1) fun r1 =>
    b1 (gX9_fresh S r1) fun r2 =>
    b1 (gX9_levelAt S r1 a2) fun r3 =>
    gX11_needed_L30 S a1 a2 a3 r1 r2 (r3 - (gI S a1 3)) FU (1 : Int32)
def gX11_more_J40 (S : zM) (v1 : Int32) (v2 : Int32) (v3 : Int32) (s0 : Int32) : Option (Int32 × zM) :=
    b2 (gX11_passes S s0) fun r5 S6 =>
    if r5 = 0 then
      some ((-1 : Int32), S6)
    else
      ck (zobb cW 3 (gR S6 0 8)) <|
      ck (ixb v1 6) <|
      b1 (gX11_needed S6 ((gR S6 0 8) + 193 + 2 * ix v1) v2 v3) fun r9 =>
      some (r9, S6)
def gX11_more_J14 (S : zM) (v1 : Int32) (v2 : Int32) (v3 : Int32) (s0 : Int32) : Option (Int32 × zM) :=
    b2 (gX11_passes S s0) fun r2 S3 =>
    if r2 = 0 then
      some ((-1 : Int32), S3)
    else
      b1 (gX11_isSize v2) fun r4 =>
      if r4 = 0 then
        gX11_more_J40 S3 v1 v2 v3 (2 : Int32)
      else
        b1 (gX11_isPercent v3) fun r10 =>
        if r10 = 0 then
          gX11_more_J40 S3 v1 v2 v3 (2 : Int32)
        else
          gX11_more_J40 S3 v1 v2 v3 (0 : Int32)
def gX11_more (S : zM) (a1 : Int32) (a2 : Int32) (a3 : Int32) : Option (Int32 × zM) :=
    b1 (gX11_isSayer S a1) fun r1 =>
    if r1 = 0 then
      gX11_more_J14 S a1 a2 a3 (1 : Int32)
    else
      gX11_more_J14 S a1 a2 a3 (0 : Int32)
def gX11_fails_J111 (S : zM) (v1 : Int32) (v2 : Int32) (v4 : Int32) (v5 : Int32) (v7 : Int32) (s0 : Int32) : Option ((Int32 × zM) ⊕ Int32) :=
    ck (zobb cW 3 (gR S 0 8)) <|
    ck (ixb v1 6) <|
    b1 (gX11_needed S ((gR S 0 8) + 193 + 2 * ix v1) v7 v2) fun r10 =>
    if r10 = (-2 : Int32) then
      some (.inl (v7, S))
    else
      if (jabs (r10 - s0)) ≤ (1 : Int32) then
        some (.inr (v7 + (1 : Int32)))
      else
        some (.inl (v7, S))
def gX11_fails_L85 (S : zM) (v1 : Int32) (v2 : Int32) (v4 : Int32) (v5 : Int32) : Nat → Int32 → Option (Int32 × zM)
  | 0, _ => none
  | n + 1, v7 =>
    if v4 < v7 then
      some ((-2 : Int32), S)
    else
      if (1 : Int32) ≤ v5 then
        ck (decide (¬ v5 = 0)) <|
        lm (gX11_fails_J111 S v1 v2 v4 v5 v7 (jmax (1 : Int32) (v7 / v5))) fun v7 => gX11_fails_L85 S v1 v2 v4 v5 n v7
      else
        lm (gX11_fails_J111 S v1 v2 v4 v5 v7 (1 : Int32)) fun v7 => gX11_fails_L85 S v1 v2 v4 v5 n v7
def gX11_fails_J57 (S : zM) (v1 : Int32) (v2 : Int32) (v3 : Int32) (v4 : Int32) (v5 : Int32) (v6 : Int32) (s0 : Int32) : Option (Int32 × zM) :=
    b2 (gX11_passes S s0) fun r3 S4 =>
    if r3 = 0 then
      some ((-1 : Int32), S4)
    else
      if v6 = 0 then
        b2 (gX11_passes S4 (2 : Int32)) fun r5 S6 =>
        if r5 = 0 then
          some ((-1 : Int32), S6)
        else
          gX11_fails_L85 S6 v1 v2 v4 v5 FU v3
      else
        b2 (gX11_passes S4 (0 : Int32)) fun r11 S12 =>
        if r11 = 0 then
          some ((-1 : Int32), S12)
        else
          gX11_fails_L85 S12 v1 v2 v4 v5 FU v3
def gX11_fails_J41 (S : zM) (v1 : Int32) (v2 : Int32) (v3 : Int32) (v4 : Int32) (v5 : Int32) (s0 : Int32) : Option (Int32 × zM) :=
    b1 (gX11_isSayer S v1) fun r2 =>
    if r2 = 0 then
      gX11_fails_J57 S v1 v2 v3 v4 v5 s0 (1 : Int32)
    else
      gX11_fails_J57 S v1 v2 v3 v4 v5 s0 (0 : Int32)
def gX11_fails (S : zM) (a1 : Int32) (a2 : Int32) (a3 : Int32) (a4 : Int32) (a5 : Int32) : Option (Int32 × zM) :=
    b1 (gX11_isPercent a2) fun r1 =>
    if r1 = 0 then
      gX11_fails_J41 S a1 a2 a3 a4 a5 (0 : Int32)
    else
      b1 (gX11_isSize a3) fun r14 =>
      if r14 = 0 then
        gX11_fails_J41 S a1 a2 a3 a4 a5 (0 : Int32)
      else
        b1 (gX11_isSize a4) fun r15 =>
        if r15 = 0 then
          gX11_fails_J41 S a1 a2 a3 a4 a5 (0 : Int32)
        else
          if a4 < a3 then
            gX11_fails_J41 S a1 a2 a3 a4 a5 (0 : Int32)
          else
            b1 (gX11_isSize a5) fun r16 =>
            if r16 = 0 then
              gX11_fails_J41 S a1 a2 a3 a4 a5 (0 : Int32)
            else
              gX11_fails_J41 S a1 a2 a3 a4 a5 (1 : Int32)
def gX11_steps_L62 (S : zM) (v1 : Int32) (v2 : Int32) (v4 : Int32) : Nat → Int32 → Int32 → Option (Int32 × zM)
  | 0, _, _ => none
  | n + 1, v5, v6 =>
    if (400 : Int32) ≤ v6 then
      some ((400 : Int32), S)
    else
      ck (zobb cW 3 (gR S 0 8)) <|
      ck (ixb v1 6) <|
      b1 (gX11_needed S ((gR S 0 8) + 193 + 2 * ix v1) v5 v2) fun r9 =>
      if r9 = (-2 : Int32) then
        some (v6, S)
      else
        if (v5 + r9) ≤ v4 then
          gX11_steps_L62 S v1 v2 v4 n (v5 + r9) (v6 + (1 : Int32))
        else
          some (v6, S)
def gX11_steps_J14 (S : zM) (v1 : Int32) (v2 : Int32) (v3 : Int32) (v4 : Int32) (s0 : Int32) : Option (Int32 × zM) :=
    b2 (gX11_passes S s0) fun r2 S3 =>
    if r2 = 0 then
      some ((-1 : Int32), S3)
    else
      b1 (gX11_isPercent v2) fun r4 =>
      if r4 = 0 then
        b2 (gX11_passes S3 (2 : Int32)) fun r5 S6 =>
        if r5 = 0 then
          some ((-1 : Int32), S6)
        else
          gX11_steps_L62 S6 v1 v2 v4 FU v3 (0 : Int32)
      else
        b1 (gX11_isSize v3) fun r10 =>
        if r10 = 0 then
          b2 (gX11_passes S3 (2 : Int32)) fun r11 S12 =>
          if r11 = 0 then
            some ((-1 : Int32), S12)
          else
            gX11_steps_L62 S12 v1 v2 v4 FU v3 (0 : Int32)
        else
          b1 (gX11_isSize v4) fun r16 =>
          if r16 = 0 then
            b2 (gX11_passes S3 (2 : Int32)) fun r17 S18 =>
            if r17 = 0 then
              some ((-1 : Int32), S18)
            else
              gX11_steps_L62 S18 v1 v2 v4 FU v3 (0 : Int32)
          else
            b2 (gX11_passes S3 (0 : Int32)) fun r22 S23 =>
            if r22 = 0 then
              some ((-1 : Int32), S23)
            else
              gX11_steps_L62 S23 v1 v2 v4 FU v3 (0 : Int32)
def gX11_steps (S : zM) (a1 : Int32) (a2 : Int32) (a3 : Int32) (a4 : Int32) : Option (Int32 × zM) :=
    b1 (gX11_isSayer S a1) fun r1 =>
    if r1 = 0 then
      gX11_steps_J14 S a1 a2 a3 a4 (1 : Int32)
    else
      gX11_steps_J14 S a1 a2 a3 a4 (0 : Int32)
def gX11_freshOnes (S : zM) (a1 : Nat) (a2 : Int32) (a3 : Int32) : Option Int32 :=
    b1 (gX11_senseOf S a1) fun r1 =>
    b1 (gX9_fresh S r1) fun r2 =>
    b1 (gX9_levelAt S r1 a2) fun r3 =>
    b1 (gX4_above S r2 (a3 - r3)) fun r4 =>
    some r4
def gX11_felt_L76 (S : zM) (v2 : Int32) (v3 : Nat) (v4 : Nat) (v5 : Int32) : Nat → Int32 → Option (Int32 × zM)
  | 0, _ => none
  | n + 1, v6 =>
    if (400 : Int32) < v6 then
      some ((-2 : Int32), S)
    else
      b1 (gX11_freshOnes S v3 v6 (gI S v3 2)) fun r12 =>
      if ((100 : Int32) * (r12 - v5)) < (v2 * (gI S v4 3)) then
        gX11_felt_L76 S v2 v3 v4 v5 n (v6 + (1 : Int32))
      else
        some (v6, S)
def gX11_felt_J33 (S : zM) (v1 : Int32) (v2 : Int32) (s0 : Int32) : Option (Int32 × zM) :=
    b2 (gX11_passes S s0) fun r5 S6 =>
    if r5 = 0 then
      some ((-1 : Int32), S6)
    else
      ck (zobb cW 3 (gR S6 0 8)) <|
      ck (ixb v1 6) <|
      b1 (gX11_senseOf S6 ((gR S6 0 8) + 193 + 2 * ix v1)) fun r9 =>
      b1 (gX9_fresh S6 r9) fun r10 =>
      b1 (gX11_freshOnes S6 ((gR S6 0 8) + 193 + 2 * ix v1) (0 : Int32) (gI S6 ((gR S6 0 8) + 193 + 2 * ix v1) 2)) fun r11 =>
      gX11_felt_L76 S6 v2 ((gR S6 0 8) + 193 + 2 * ix v1) r10 r11 FU (1 : Int32)
def gX11_felt_J14 (S : zM) (v1 : Int32) (v2 : Int32) (s0 : Int32) : Option (Int32 × zM) :=
    b2 (gX11_passes S s0) fun r2 S3 =>
    if r2 = 0 then
      some ((-1 : Int32), S3)
    else
      b1 (gX11_isPercent v2) fun r4 =>
      if r4 = 0 then
        gX11_felt_J33 S3 v1 v2 (2 : Int32)
      else
        gX11_felt_J33 S3 v1 v2 (0 : Int32)
def gX11_felt (S : zM) (a1 : Int32) (a2 : Int32) : Option (Int32 × zM) :=
    b1 (gX11_isSayer S a1) fun r1 =>
    if r1 = 0 then
      gX11_felt_J14 S a1 a2 (1 : Int32)
    else
      gX11_felt_J14 S a1 a2 (0 : Int32)
def gX11_isPay (S : zM) (a1 : Int32) : Option Int32 :=
    if a1 < 0 then
      some (0 : Int32)
    else
      ck (zobb cW 3 (gR S 0 8)) <|
      if (gI S (gR S 0 8) 9) ≤ a1 then
        some (0 : Int32)
      else
        some (1 : Int32)
def gX11_gained (S : zM) (a1 : Nat) (a2 : Nat) (a3 : Int32) (a4 : Int32) : Option Int64 :=
    b1 (gX11_senseOf S a2) fun r1 =>
    b1 (gX9_fresh S r1) fun r2 =>
    b1 (gX11_freshOnes S a2 a3 a4) fun r3 =>
    b1 (gX11_freshOnes S a2 (0 : Int32) a4) fun r4 =>
    lt ((r3.toInt64 * (gI S a1 0).toInt64) + (((gI S r2 3).toInt64 - r3.toInt64) * (gI S a1 1).toInt64)) fun x5 =>
    lt ((r4.toInt64 * (gI S a1 2).toInt64) + (((gI S r2 3).toInt64 - r4.toInt64) * (gI S a1 3).toInt64)) fun x6 =>
    some (((gI S a1 4).toInt64 * x5) + (((100 : Int32) - (gI S a1 4)).toInt64 * x6))
def gX11_gain_J49 (S : zM) (v1 : Int32) (v2 : Int32) (v3 : Int32) (v4 : Int32) (s0 : Int32) : Option (Int64 × zM) :=
    b2 (gX11_passes S s0) fun r5 S6 =>
    if r5 = 0 then
      some ((-9223372036854775808 : Int64), S6)
    else
      ck (zobb cW 3 (gR S6 0 8)) <|
      ck (ixb v1 4) <|
      ck (zobb cW 3 (gR S6 0 8)) <|
      ck (ixb v2 6) <|
      b1 (gX11_gained S6 ((gR S6 0 8) + 209 + 1 * ix v1) ((gR S6 0 8) + 193 + 2 * ix v2) v3 v4) fun r11 =>
      some (r11, S6)
def gX11_gain_J22 (S : zM) (v1 : Int32) (v2 : Int32) (v3 : Int32) (v4 : Int32) (s0 : Int32) : Option (Int64 × zM) :=
    b2 (gX11_passes S s0) fun r2 S3 =>
    if r2 = 0 then
      some ((-9223372036854775808 : Int64), S3)
    else
      b1 (gX11_isSize v3) fun r4 =>
      if r4 = 0 then
        gX11_gain_J49 S3 v1 v2 v3 v4 (2 : Int32)
      else
        b1 (gX11_isFar v4) fun r12 =>
        if r12 = 0 then
          gX11_gain_J49 S3 v1 v2 v3 v4 (2 : Int32)
        else
          gX11_gain_J49 S3 v1 v2 v3 v4 (0 : Int32)
def gX11_gain (S : zM) (a1 : Int32) (a2 : Int32) (a3 : Int32) (a4 : Int32) : Option (Int64 × zM) :=
    b1 (gX11_isPay S a1) fun r1 =>
    if r1 = 0 then
      gX11_gain_J22 S a1 a2 a3 a4 (1 : Int32)
    else
      b1 (gX11_isSayer S a2) fun r13 =>
      if r13 = 0 then
        gX11_gain_J22 S a1 a2 a3 a4 (1 : Int32)
      else
        gX11_gain_J22 S a1 a2 a3 a4 (0 : Int32)
def gX11_bestLine_L19 (S : zM) (v1 : Nat) (v2 : Nat) (v3 : Int32) : Nat → Int32 → Int64 → Int32 → Option Int32
  | 0, _, _, _ => none
  | n + 1, v4, v5, v7 =>
    if (50 : Int32) < v7 then
      some v4
    else
      b1 (gX11_gained S v1 v2 v3 v7) fun r2 =>
      if r2 ≤ v5 then
        gX11_bestLine_L19 S v1 v2 v3 n v4 v5 (v7 + (1 : Int32))
      else
        gX11_bestLine_L19 S v1 v2 v3 n v7 r2 (v7 + (1 : Int32))
def gX11_bestLine (S : zM) (a1 : Nat) (a2 : Nat) (a3 : Int32) : Option Int32 :=
    b1 (gX11_gained S a1 a2 a3 (-50 : Int32)) fun r1 =>
    gX11_bestLine_L19 S a1 a2 a3 FU (-50 : Int32) r1 (-49 : Int32)
def gX11_best_J41 (S : zM) (v1 : Int32) (v2 : Int32) (v3 : Int32) (s0 : Int32) : Option (Int32 × zM) :=
    b2 (gX11_passes S s0) fun r5 S6 =>
    if r5 = 0 then
      some ((-1000 : Int32), S6)
    else
      ck (zobb cW 3 (gR S6 0 8)) <|
      ck (ixb v1 4) <|
      ck (zobb cW 3 (gR S6 0 8)) <|
      ck (ixb v2 6) <|
      b1 (gX11_bestLine S6 ((gR S6 0 8) + 209 + 1 * ix v1) ((gR S6 0 8) + 193 + 2 * ix v2) v3) fun r11 =>
      some (r11, S6)
def gX11_best_J22 (S : zM) (v1 : Int32) (v2 : Int32) (v3 : Int32) (s0 : Int32) : Option (Int32 × zM) :=
    b2 (gX11_passes S s0) fun r2 S3 =>
    if r2 = 0 then
      some ((-1000 : Int32), S3)
    else
      b1 (gX11_isSize v3) fun r4 =>
      if r4 = 0 then
        gX11_best_J41 S3 v1 v2 v3 (2 : Int32)
      else
        gX11_best_J41 S3 v1 v2 v3 (0 : Int32)
def gX11_best (S : zM) (a1 : Int32) (a2 : Int32) (a3 : Int32) : Option (Int32 × zM) :=
    b1 (gX11_isPay S a1) fun r1 =>
    if r1 = 0 then
      gX11_best_J22 S a1 a2 a3 (1 : Int32)
    else
      b1 (gX11_isSayer S a2) fun r12 =>
      if r12 = 0 then
        gX11_best_J22 S a1 a2 a3 (1 : Int32)
      else
        gX11_best_J22 S a1 a2 a3 (0 : Int32)
def gX11_moves_J41 (S : zM) (v1 : Int32) (v2 : Int32) (v3 : Int32) (s0 : Int32) : Option (Int32 × zM) :=
    b2 (gX11_passes S s0) fun r5 S6 =>
    if r5 = 0 then
      some ((-1000 : Int32), S6)
    else
      ck (zobb cW 3 (gR S6 0 8)) <|
      ck (ixb v2 6) <|
      lt (gI S6 ((gR S6 0 8) + 193 + 2 * ix v2) 2) fun x9 =>
      ck (zobb cW 3 (gR S6 0 8)) <|
      ck (ixb v1 4) <|
      b1 (gX11_bestLine S6 ((gR S6 0 8) + 209 + 1 * ix v1) ((gR S6 0 8) + 193 + 2 * ix v2) v3) fun r12 =>
      some (((gI (pI S6 ((gR S6 0 8) + 193 + 2 * ix v2) 2 r12) ((gR S6 0 8) + 193 + 2 * ix v2) 2) - x9), (pI S6 ((gR S6 0 8) + 193 + 2 * ix v2) 2 r12))
def gX11_moves_J22 (S : zM) (v1 : Int32) (v2 : Int32) (v3 : Int32) (s0 : Int32) : Option (Int32 × zM) :=
    b2 (gX11_passes S s0) fun r2 S3 =>
    if r2 = 0 then
      some ((-1000 : Int32), S3)
    else
      b1 (gX11_isSize v3) fun r4 =>
      if r4 = 0 then
        gX11_moves_J41 S3 v1 v2 v3 (2 : Int32)
      else
        gX11_moves_J41 S3 v1 v2 v3 (0 : Int32)
def gX11_moves (S : zM) (a1 : Int32) (a2 : Int32) (a3 : Int32) : Option (Int32 × zM) :=
    b1 (gX11_isPay S a1) fun r1 =>
    if r1 = 0 then
      gX11_moves_J22 S a1 a2 a3 (1 : Int32)
    else
      b1 (gX11_isSayer S a2) fun r13 =>
      if r13 = 0 then
        gX11_moves_J22 S a1 a2 a3 (1 : Int32)
      else
        gX11_moves_J22 S a1 a2 a3 (0 : Int32)
def gX11_leadPlace (a0 : Int32) (a1 : Int32) : Option Int32 :=
    lt ((jmax (-(11 : Int32)) (jmin (11 : Int32) a0)) + (11 : Int32)) fun x1 =>
    lt ((jmax (-(11 : Int32)) (jmin (11 : Int32) a1)) + (11 : Int32)) fun x2 =>
    some ((x1 * (((2 : Int32) * (11 : Int32)) + (1 : Int32))) + x2)
def gX11_compareLeads_L26 (S : zM) (v1 : Nat) (v2 : Nat) (v3 : Int32) (v4 : Int32) : Nat → Int32 → Int32 → Option Int32
  | 0, _, _ => none
  | n + 1, v5, v6 =>
    if (1 : Int32) < v6 then
      some v5
    else
      b1 (gX4_pairOdds S v1 v3 (0 : Int32) v6) fun r1 =>
      b1 (gX4_pairs S v2) fun r2 =>
      b1 (gX4_pairOdds S v2 v4 (0 : Int32) v6) fun r3 =>
      b1 (gX4_pairs S v1) fun r4 =>
      if v5 = 0 then
        gX11_compareLeads_L26 S v1 v2 v3 v4 n (0 : Int32) (v6 + (1 : Int32))
      else
        if (r1.toInt64 * r2.toInt64) = (r3.toInt64 * r4.toInt64) then
          gX11_compareLeads_L26 S v1 v2 v3 v4 n (1 : Int32) (v6 + (1 : Int32))
        else
          gX11_compareLeads_L26 S v1 v2 v3 v4 n (0 : Int32) (v6 + (1 : Int32))
def gX11_compareLeads_L13 (v1 : Nat) (v2 : Nat) (v3 : Int32) : Nat → zM → Int32 → Option zM
  | 0, _, _ => none
  | n + 1, S, v4 =>
    if (11 : Int32) < v4 then
      some S
    else
      b1 (gX11_compareLeads_L26 S v1 v2 v3 v4 FU (1 : Int32) (0 : Int32)) fun w5 =>
      b1 (gX11_leadPlace v3 v4) fun r6 =>
      ck (ixb r6 529) <|
      gX11_compareLeads_L13 v1 v2 v3 n (pI S 242 (ix r6) (vp_nar .boolean w5)) (v4 + (1 : Int32))
def gX11_compareLeads_L3 (v1 : Nat) (v2 : Nat) : Nat → zM → Int32 → Option zM
  | 0, _, _ => none
  | n + 1, S, v3 =>
    if (11 : Int32) < v3 then
      some S
    else
      b1 (gX11_compareLeads_L13 v1 v2 v3 FU S (-11 : Int32)) fun S8 =>
      gX11_compareLeads_L3 v1 v2 n S8 (v3 + (1 : Int32))
def gX11_compareLeads (S : zM) (a1 : Nat) (a2 : Nat) : Option zM :=
    gX11_compareLeads_L3 a1 a2 FU S (-11 : Int32)
def gX11_pairParted_L25 (S : zM) (v1 : Nat) (v2 : Nat) (v3 : Int32) (v4 : Int32) (v5 : Int32) : Nat → Int32 → Option ((Int32 × zM) ⊕ Unit)
  | 0, _ => none
  | n + 1, v6 =>
    if v4 < v6 then
      some (.inr ())
    else
      b1 (gX9_levelAt S v1 v6) fun r5 =>
      b1 (gX9_levelAt S v1 v5) fun r6 =>
      b1 (gX9_levelAt S v2 v6) fun r7 =>
      b1 (gX9_levelAt S v2 v5) fun r8 =>
      b1 (gX11_leadPlace (r5 - r6) (r7 - r8)) fun r9 =>
      ck (ixb r9 529) <|
      if (gI S 242 (ix r9)) = 0 then
        some (.inl ((((1000 : Int32) * v5) + v6), S))
      else
        gX11_pairParted_L25 S v1 v2 v3 v4 v5 n (v6 + (1 : Int32))
def gX11_pairParted_L15 (S : zM) (v1 : Nat) (v2 : Nat) (v3 : Int32) (v4 : Int32) : Nat → Int32 → Option (Int32 × zM)
  | 0, _ => none
  | n + 1, v5 =>
    if v4 < v5 then
      some ((-2 : Int32), S)
    else
      lm (gX11_pairParted_L25 S v1 v2 v3 v4 v5 FU v3) fun _ =>
      gX11_pairParted_L15 S v1 v2 v3 v4 n (v5 + (1 : Int32))
def gX11_pairParted (S : zM) (a1 : Nat) (a2 : Nat) (a3 : Int32) (a4 : Int32) : Option (Int32 × zM) :=
    b1 (gX9_fresh S a1) fun r1 =>
    b1 (gX9_fresh S a2) fun r2 =>
    b1 (gX11_compareLeads S r1 r2) fun S4 =>
    gX11_pairParted_L15 S4 a1 a2 a3 a4 FU a3
def gX11_aloneParts (S : zM) (a0 : Nat) (a1 : Nat) (a2 : Int32) : Option Int32 :=
    b1 (gX9_fresh S a0) fun r1 =>
    b1 (gX9_fresh S a1) fun r2 =>
    b1 (gX9_levelAt S a0 a2) fun r3 =>
    b1 (gX4_aloneOdds S r1 r3 (1 : Int32)) fun r4 =>
    b1 (gX9_levelAt S a1 a2) fun r5 =>
    b1 (gX4_aloneOdds S r2 r5 (1 : Int32)) fun r6 =>
    if (r4 * (gI S r2 3)) = (r6 * (gI S r1 3)) then
      some (0 : Int32)
    else
      some (1 : Int32)
def gX11_numberParts_L15 (S : zM) (v0 : Nat) (v1 : Nat) (v2 : Int32) (v3 : Nat) (v4 : Nat) : Nat → Int32 → Option Int32
  | 0, _ => none
  | n + 1, v5 =>
    if (5 : Int32) < v5 then
      some (0 : Int32)
    else
      b1 (gX9_levelAt S v0 v2) fun r3 =>
      b1 (gX9_levelAt S v0 v2) fun r4 =>
      b1 (gX4_numberOdds S v3 r4 (jmax (0 : Int32) (r3 + v5))) fun r5 =>
      b1 (gX9_levelAt S v1 v2) fun r6 =>
      b1 (gX4_numberOdds S v4 r6 (jmax (0 : Int32) (r3 + v5))) fun r7 =>
      if (r5 * (gI S v4 3)) = (r7 * (gI S v3 3)) then
        gX11_numberParts_L15 S v0 v1 v2 v3 v4 n (v5 + (1 : Int32))
      else
        some (1 : Int32)
def gX11_numberParts (S : zM) (a0 : Nat) (a1 : Nat) (a2 : Int32) : Option Int32 :=
    b1 (gX9_fresh S a0) fun r1 =>
    b1 (gX9_fresh S a1) fun r2 =>
    gX11_numberParts_L15 S a0 a1 a2 r1 r2 FU (-5 : Int32)
def gX11_parted_L145 (S : zM) (v3 : Int32) (v5 : Int32) (v8 : Nat) (v9 : Nat) : Nat → Int32 → Option (Int32 × zM)
  | 0, _ => none
  | n + 1, v10 =>
    if v5 < v10 then
      some ((-2 : Int32), S)
    else
      if v3 = (1 : Int32) then
        b1 (gX11_aloneParts S v8 v9 v10) fun r11 =>
        if r11 = 0 then
          gX11_parted_L145 S v3 v5 v8 v9 n (v10 + (1 : Int32))
        else
          some (((1000 : Int32) * v10), S)
      else
        b1 (gX11_numberParts S v8 v9 v10) fun r10 =>
        if r10 = 0 then
          gX11_parted_L145 S v3 v5 v8 v9 n (v10 + (1 : Int32))
        else
          some (((1000 : Int32) * v10), S)
def gX11_parted_J94 (S : zM) (v1 : Int32) (v2 : Int32) (v3 : Int32) (v4 : Int32) (v5 : Int32) (s0 : Int32) : Option (Int32 × zM) :=
    b2 (gX11_passes S s0) fun r4 S5 =>
    if r4 = 0 then
      some ((-1 : Int32), S5)
    else
      ck (zobb cW 3 (gR S5 0 8)) <|
      ck (ixb v1 6) <|
      ck (zobb cW 3 (gR S5 0 8)) <|
      ck (ixb v2 6) <|
      if v3 = 0 then
        b2 (gX11_pairParted S5 ((gR S5 0 8) + 7 + 31 * ix v1) ((gR S5 0 8) + 7 + 31 * ix v2) v4 v5) fun r12 S13 =>
        some (r12, S13)
      else
        gX11_parted_L145 S5 v3 v5 ((gR S5 0 8) + 7 + 31 * ix v1) ((gR S5 0 8) + 7 + 31 * ix v2) FU v4
def gX11_parted_J60 (S : zM) (v1 : Int32) (v2 : Int32) (v3 : Int32) (v4 : Int32) (v5 : Int32) (v7 : Int32) (s0 : Int32) : Option (Int32 × zM) :=
    b2 (gX11_passes S s0) fun r2 S3 =>
    if r2 = 0 then
      some ((-1 : Int32), S3)
    else
      if v4 < v7 then
        gX11_parted_J94 S3 v1 v2 v3 v4 v5 (2 : Int32)
      else
        if (400 : Int32) < v5 then
          gX11_parted_J94 S3 v1 v2 v3 v4 v5 (2 : Int32)
        else
          if v4 ≤ v5 then
            gX11_parted_J94 S3 v1 v2 v3 v4 v5 (0 : Int32)
          else
            gX11_parted_J94 S3 v1 v2 v3 v4 v5 (2 : Int32)
def gX11_parted_J47 (S : zM) (v1 : Int32) (v2 : Int32) (v3 : Int32) (v4 : Int32) (v5 : Int32) (v6 : Int32) (s0 : Int32) : Option (Int32 × zM) :=
    if v6 = 0 then
      gX11_parted_J60 S v1 v2 v3 v4 v5 s0 (1 : Int32)
    else
      gX11_parted_J60 S v1 v2 v3 v4 v5 s0 (0 : Int32)
def gX11_parted_J35 (S : zM) (v1 : Int32) (v2 : Int32) (v3 : Int32) (v4 : Int32) (v5 : Int32) (s0 : Int32) : Option (Int32 × zM) :=
    if v3 = (1 : Int32) then
      gX11_parted_J47 S v1 v2 v3 v4 v5 s0 (0 : Int32)
    else
      gX11_parted_J47 S v1 v2 v3 v4 v5 s0 (1 : Int32)
def gX11_parted (S : zM) (a1 : Int32) (a2 : Int32) (a3 : Int32) (a4 : Int32) (a5 : Int32) : Option (Int32 × zM) :=
    b1 (gX11_isSense S a1) fun r1 =>
    if r1 = 0 then
      gX11_parted_J35 S a1 a2 a3 a4 a5 (0 : Int32)
    else
      b1 (gX11_isSense S a2) fun r14 =>
      if r14 = 0 then
        gX11_parted_J35 S a1 a2 a3 a4 a5 (0 : Int32)
      else
        if a3 = 0 then
          gX11_parted_J35 S a1 a2 a3 a4 a5 (1 : Int32)
        else
          if a3 = (1 : Int32) then
            gX11_parted_J35 S a1 a2 a3 a4 a5 (1 : Int32)
          else
            if a3 = (3 : Int32) then
              gX11_parted_J35 S a1 a2 a3 a4 a5 (1 : Int32)
            else
              gX11_parted_J35 S a1 a2 a3 a4 a5 (0 : Int32)
def gX11_pairOnes (S : zM) (a0 : Nat) (a1 : Int32) (a2 : Int32) : Option Int32 :=
    b1 (gX9_fresh S a0) fun r1 =>
    b1 (gX9_levelAt S a0 a2) fun r2 =>
    b1 (gX9_levelAt S a0 a1) fun r3 =>
    b1 (gX4_pairOdds S r1 (r2 - r3) (0 : Int32) (1 : Int32)) fun r4 =>
    some r4
def gX11_fewest_L128 (v5 : Int32) (v6 : Int32) (v7 : Int32) (v8 : Int32) : Nat → zM → Int32 → Option (Int32 × zM)
  | 0, _, _ => none
  | n + 1, S, v9 =>
    if (40 : Int32) < v9 then
      some ((-2 : Int32), S)
    else
      b2 (gX10_greatest S v9 v5 v6) fun r21 S22 =>
      b2 (gX10_least S22 v9 v7 v8) fun r23 S24 =>
      if r21 < r23 then
        some (v9, S24)
      else
        b2 (gX10_greatest S24 v9 v7 v8) fun r25 S26 =>
        b2 (gX10_least S26 v9 v5 v6) fun r27 S28 =>
        if r27 ≤ r25 then
          gX11_fewest_L128 v5 v6 v7 v8 n S28 (v9 + (1 : Int32))
        else
          some (v9, S28)
def gX11_fewest_J49 (S : zM) (v1 : Int32) (v2 : Int32) (v3 : Int32) (v4 : Int32) (s0 : Int32) : Option (Int32 × zM) :=
    b2 (gX11_passes S s0) fun r5 S6 =>
    if r5 = 0 then
      some ((-1 : Int32), S6)
    else
      ck (zobb cW 3 (gR S6 0 8)) <|
      ck (ixb v1 6) <|
      b1 (gX11_pairOnes S6 ((gR S6 0 8) + 7 + 31 * ix v1) v3 v4) fun r9 =>
      ck (zobb cW 3 (gR S6 0 8)) <|
      ck (ixb v1 6) <|
      b1 (gX9_fresh S6 ((gR S6 0 8) + 7 + 31 * ix v1)) fun r12 =>
      b1 (gX4_pairs S6 r12) fun r13 =>
      ck (zobb cW 3 (gR S6 0 8)) <|
      ck (ixb v2 6) <|
      b1 (gX11_pairOnes S6 ((gR S6 0 8) + 7 + 31 * ix v2) v3 v4) fun r16 =>
      ck (zobb cW 3 (gR S6 0 8)) <|
      ck (ixb v2 6) <|
      b1 (gX9_fresh S6 ((gR S6 0 8) + 7 + 31 * ix v2)) fun r19 =>
      b1 (gX4_pairs S6 r19) fun r20 =>
      gX11_fewest_L128 r9 r13 r16 r20 FU S6 (1 : Int32)
def gX11_fewest_J22 (S : zM) (v1 : Int32) (v2 : Int32) (v3 : Int32) (v4 : Int32) (s0 : Int32) : Option (Int32 × zM) :=
    b2 (gX11_passes S s0) fun r2 S3 =>
    if r2 = 0 then
      some ((-1 : Int32), S3)
    else
      b1 (gX11_isSize v3) fun r4 =>
      if r4 = 0 then
        gX11_fewest_J49 S3 v1 v2 v3 v4 (2 : Int32)
      else
        b1 (gX11_isSize v4) fun r29 =>
        if r29 = 0 then
          gX11_fewest_J49 S3 v1 v2 v3 v4 (2 : Int32)
        else
          gX11_fewest_J49 S3 v1 v2 v3 v4 (0 : Int32)
def gX11_fewest (S : zM) (a1 : Int32) (a2 : Int32) (a3 : Int32) (a4 : Int32) : Option (Int32 × zM) :=
    b1 (gX11_isSense S a1) fun r1 =>
    if r1 = 0 then
      gX11_fewest_J22 S a1 a2 a3 a4 (1 : Int32)
    else
      b1 (gX11_isSense S a2) fun r30 =>
      if r30 = 0 then
        gX11_fewest_J22 S a1 a2 a3 a4 (1 : Int32)
      else
        gX11_fewest_J22 S a1 a2 a3 a4 (0 : Int32)
def gX11_matched (S : zM) (a1 : Int32) (a2 : Int32) (a3 : Int32) : Option Int32 :=
    ck (zobb cW 3 (gR S 0 8)) <|
    ck (ixb a3 6) <|
    ck (zobb cW 3 (gR S 0 8)) <|
    ck (ixb a1 6) <|
    b1 (gX9_levelAt S ((gR S 0 8) + 7 + 31 * ix a1) a2) fun r5 =>
    b1 (gX9_nearest S ((gR S 0 8) + 7 + 31 * ix a3) r5) fun r6 =>
    some r6
def gX11_match_J22 (S : zM) (v1 : Int32) (v2 : Int32) (v3 : Int32) (s0 : Int32) : Option (Int32 × zM) :=
    b2 (gX11_passes S s0) fun r2 S3 =>
    if r2 = 0 then
      some ((-1 : Int32), S3)
    else
      b1 (gX11_isSize v2) fun r4 =>
      if r4 = 0 then
        b2 (gX11_passes S3 (2 : Int32)) fun r5 S6 =>
        if r5 = 0 then
          some ((-1 : Int32), S6)
        else
          b1 (gX11_matched S6 v1 v2 v3) fun r7 =>
          some (r7, S6)
      else
        b2 (gX11_passes S3 (0 : Int32)) fun r8 S9 =>
        if r8 = 0 then
          some ((-1 : Int32), S9)
        else
          b1 (gX11_matched S9 v1 v2 v3) fun r10 =>
          some (r10, S9)
def gX11_match (S : zM) (a1 : Int32) (a2 : Int32) (a3 : Int32) : Option (Int32 × zM) :=
    b1 (gX11_isSense S a1) fun r1 =>
    if r1 = 0 then
      gX11_match_J22 S a1 a2 a3 (1 : Int32)
    else
      b1 (gX11_isSense S a3) fun r11 =>
      if r11 = 0 then
        gX11_match_J22 S a1 a2 a3 (1 : Int32)
      else
        gX11_match_J22 S a1 a2 a3 (0 : Int32)
def gX11_closes_J50 (S : zM) (v1 : Int32) (v2 : Int32) (v3 : Int32) (v4 : Int32) (s0 : Int32) : Option (Int32 × zM) :=
    b2 (gX11_passes S s0) fun r5 S6 =>
    if r5 = 0 then
      some ((-1000 : Int32), S6)
    else
      b1 (gX11_matched S6 v1 v4 v2) fun r7 =>
      b1 (gX11_matched S6 v2 r7 v3) fun r8 =>
      b1 (gX11_matched S6 v3 r8 v1) fun r9 =>
      some ((r9 - v4), S6)
def gX11_closes_J30 (S : zM) (v1 : Int32) (v2 : Int32) (v3 : Int32) (v4 : Int32) (s0 : Int32) : Option (Int32 × zM) :=
    b2 (gX11_passes S s0) fun r2 S3 =>
    if r2 = 0 then
      some ((-1000 : Int32), S3)
    else
      b1 (gX11_isSize v4) fun r4 =>
      if r4 = 0 then
        gX11_closes_J50 S3 v1 v2 v3 v4 (2 : Int32)
      else
        gX11_closes_J50 S3 v1 v2 v3 v4 (0 : Int32)
def gX11_closes (S : zM) (a1 : Int32) (a2 : Int32) (a3 : Int32) (a4 : Int32) : Option (Int32 × zM) :=
    b1 (gX11_isSense S a1) fun r1 =>
    if r1 = 0 then
      gX11_closes_J30 S a1 a2 a3 a4 (1 : Int32)
    else
      b1 (gX11_isSense S a2) fun r10 =>
      if r10 = 0 then
        gX11_closes_J30 S a1 a2 a3 a4 (1 : Int32)
      else
        b1 (gX11_isSense S a3) fun r11 =>
        if r11 = 0 then
          gX11_closes_J30 S a1 a2 a3 a4 (1 : Int32)
        else
          gX11_closes_J30 S a1 a2 a3 a4 (0 : Int32)
def gJ7_fill_d0a16_L6 (v0 : Nat) (nv0 : Nat) (v1 : Int64) (v4 : Int32) : Nat → zM → Int32 → Option zM
  | 0, _, _ => none
  | n + 1, S, v3 =>
    if v4 ≤ v3 then
      some S
    else
      ck (ixb v3 nv0) <|
      gJ7_fill_d0a16_L6 v0 nv0 v1 v4 n (pL S v0 (ix v3) v1) (v3 + (1 : Int32))
def gJ7_fill_d0a16 (S : zM) (a0 : Nat) (na0 : Nat) (a1 : Int64) : Option zM :=
    gJ7_fill_d0a16_L6 a0 na0 a1 (Int32.ofNat na0) FU S (0 : Int32)
def gX11_spreadWays_L23 (v1 : Nat) (v2 : Int32) (v3 : Int32) : Nat → zM → Int32 → Option zM
  | 0, _, _ => none
  | n + 1, S, v4 =>
    if (400 : Int32) < v4 then
      some (cqL S 241 240 401)
    else
      ck (ixb v4 401) <|
      if (gL S 240 (ix v4)) = (0 : Int64) then
        gX11_spreadWays_L23 v1 v2 v3 n S (v4 + (1 : Int32))
      else
        b1 (gX11_freshOnes S v1 v4 (gI S v1 2)) fun r6 =>
        b1 (gX11_stepped v4 (1 : Int32) v2) fun r7 =>
        ck (ixb r7 401) <|
        ck (ixb v4 401) <|
        ck (ixb r7 401) <|
        b1 (gX11_stepped v4 (0 : Int32) v2) fun r11 =>
        ck (ixb r11 401) <|
        ck (ixb v4 401) <|
        ck (ixb r11 401) <|
        lt (pL (pL S 241 (ix r7) ((gL S 241 (ix r7)) + ((gL S 240 (ix v4)) * r6.toInt64))) 241 (ix r11) ((gL (pL S 241 (ix r7) ((gL S 241 (ix r7)) + ((gL S 240 (ix v4)) * r6.toInt64))) 241 (ix r11)) + ((gL (pL S 241 (ix r7) ((gL S 241 (ix r7)) + ((gL S 240 (ix v4)) * r6.toInt64))) 240 (ix v4)) * (v3.toInt64 - r6.toInt64)))) fun S15 =>
        gX11_spreadWays_L23 v1 v2 v3 n S15 (v4 + (1 : Int32))
def gX11_spreadWays (S : zM) (a1 : Nat) (a2 : Int32) : Option zM :=
    b1 (gX11_senseOf S a1) fun r1 =>
    b1 (gX9_fresh S r1) fun r2 =>
    b1 (gJ7_fill_d0a16 S 241 401 (0 : Int64)) fun S4 =>
    gX11_spreadWays_L23 a1 a2 (gI S r2 3) FU S4 (1 : Int32)
def gX11_stair_L101 (v1 : Int32) (v3 : Int32) (v4 : Int32) (v5 : Int32) : Nat → zM → Int32 → Option (Int64 × zM)
  | 0, _, _ => none
  | n + 1, S, v7 =>
    if v4 ≤ v7 then
      ck (ixb v5 401) <|
      some ((gL S 240 (ix v5)), S)
    else
      ck (zobb cW 3 (gR S 0 8)) <|
      ck (ixb v1 6) <|
      b1 (gX11_spreadWays S ((gR S 0 8) + 193 + 2 * ix v1) v3) fun S14 =>
      gX11_stair_L101 v1 v3 v4 v5 n S14 (v7 + (1 : Int32))
def gX11_stair_J73 (S : zM) (v1 : Int32) (v2 : Int32) (v3 : Int32) (v4 : Int32) (v5 : Int32) (s0 : Int32) : Option (Int64 × zM) :=
    b2 (gX11_passes S s0) fun r5 S6 =>
    if r5 = 0 then
      some ((-1 : Int64), S6)
    else
      b1 (gJ7_fill_d0a16 S6 240 401 (0 : Int64)) fun S8 =>
      ck (ixb v2 401) <|
      gX11_stair_L101 v1 v3 v4 v5 FU (pL S8 240 (ix v2) (1 : Int64)) (0 : Int32)
def gX11_stair_J56 (S : zM) (v1 : Int32) (v2 : Int32) (v3 : Int32) (v4 : Int32) (v5 : Int32) (v6 : Int32) (s0 : Int32) : Option (Int64 × zM) :=
    b2 (gX11_passes S s0) fun r3 S4 =>
    if r3 = 0 then
      some ((-1 : Int64), S4)
    else
      if v6 = 0 then
        gX11_stair_J73 S4 v1 v2 v3 v4 v5 (2 : Int32)
      else
        gX11_stair_J73 S4 v1 v2 v3 v4 v5 (0 : Int32)
def gX11_stair_J40 (S : zM) (v1 : Int32) (v2 : Int32) (v3 : Int32) (v4 : Int32) (v5 : Int32) (s0 : Int32) : Option (Int64 × zM) :=
    b1 (gX11_isSayer S v1) fun r2 =>
    if r2 = 0 then
      gX11_stair_J56 S v1 v2 v3 v4 v5 s0 (1 : Int32)
    else
      gX11_stair_J56 S v1 v2 v3 v4 v5 s0 (0 : Int32)
def gX11_stair (S : zM) (a1 : Int32) (a2 : Int32) (a3 : Int32) (a4 : Int32) (a5 : Int32) : Option (Int64 × zM) :=
    b1 (gX11_isSize a2) fun r1 =>
    if r1 = 0 then
      gX11_stair_J40 S a1 a2 a3 a4 a5 (0 : Int32)
    else
      b1 (gX11_isSize a5) fun r15 =>
      if r15 = 0 then
        gX11_stair_J40 S a1 a2 a3 a4 a5 (0 : Int32)
      else
        b1 (gX11_isSize a3) fun r16 =>
        if r16 = 0 then
          gX11_stair_J40 S a1 a2 a3 a4 a5 (0 : Int32)
        else
          if a4 < (1 : Int32) then
            gX11_stair_J40 S a1 a2 a3 a4 a5 (0 : Int32)
          else
            if (9 : Int32) < a4 then
              gX11_stair_J40 S a1 a2 a3 a4 a5 (0 : Int32)
            else
              gX11_stair_J40 S a1 a2 a3 a4 a5 (1 : Int32)
def gX11_image_J44 (S : zM) (v1 : Int32) (s0 : Int32) : Option (Int64 × zM) :=
    b2 (gX11_passes S s0) fun r6 S7 =>
    if r6 = 0 then
      some ((-1 : Int64), S7)
    else
      ck (zobb cW 3 (gR S7 0 8)) <|
      ck (ixb v1 6) <|
      some (((gI S7 0 11).toInt64 + ((65537 : Int64) * ((gI S7 ((gR S7 0 8) + 193 + 2 * ix v1) 9).toInt64 + ((4096 : Int64) * (gI S7 ((gR S7 0 8) + 193 + 2 * ix v1) 8).toInt64)))), S7)
def gX11_image_J14 (S : zM) (v1 : Int32) (s0 : Int32) : Option (Int64 × zM) :=
    b2 (gX11_passes S s0) fun r2 S3 =>
    if r2 = 0 then
      some ((-1 : Int64), S3)
    else
      ck (zobb cW 3 (gR S3 0 8)) <|
      ck (ixb v1 6) <|
      if (gI S3 ((gR S3 0 8) + 193 + 2 * ix v1) 8) < (4096 : Int32) then
        gX11_image_J44 S3 v1 (0 : Int32)
      else
        gX11_image_J44 S3 v1 (3 : Int32)
def gX11_image (S : zM) (a1 : Int32) : Option (Int64 × zM) :=
    b1 (gX11_isSayer S a1) fun r1 =>
    if r1 = 0 then
      gX11_image_J14 S a1 (1 : Int32)
    else
      gX11_image_J14 S a1 (0 : Int32)
def gX11_restore_J72 (S : zM) (v1 : Int32) (v2 : Int64) (v6 : Int64) (v8 : Int64) (s0 : Int32) : Option (Int32 × zM) :=
    b2 (gX11_passes S s0) fun r6 S7 =>
    if r6 = 0 then
      some ((0 : Int32), S7)
    else
      ck (zobb cW 3 (gR (pI S7 0 11 ((v2 - v2 / (65537 : Int64) * (65537 : Int64)).toInt32)) 0 8)) <|
      ck (ixb v1 6) <|
      lt (pI (pI S7 0 11 ((v2 - v2 / (65537 : Int64) * (65537 : Int64)).toInt32)) ((gR (pI S7 0 11 ((v2 - v2 / (65537 : Int64) * (65537 : Int64)).toInt32)) 0 8) + 193 + 2 * ix v1) 8 v6.toInt32) fun S10 =>
      ck (zobb cW 3 (gR S10 0 8)) <|
      ck (ixb v1 6) <|
      some ((1 : Int32), (pI S10 ((gR S10 0 8) + 193 + 2 * ix v1) 9 v8.toInt32))
def gX11_restore_J37 (S : zM) (v1 : Int32) (v2 : Int64) (v6 : Int64) (v8 : Int64) (s0 : Int32) : Option (Int32 × zM) :=
    b2 (gX11_passes S s0) fun r4 S5 =>
    if r4 = 0 then
      some ((0 : Int32), S5)
    else
      if v2 < (0 : Int64) then
        gX11_restore_J72 S5 v1 v2 v6 v8 (2 : Int32)
      else
        if v6 < v8 then
          gX11_restore_J72 S5 v1 v2 v6 v8 (2 : Int32)
        else
          if v6 < (4096 : Int64) then
            gX11_restore_J72 S5 v1 v2 v6 v8 (0 : Int32)
          else
            gX11_restore_J72 S5 v1 v2 v6 v8 (2 : Int32)
def gX11_restore (S : zM) (a1 : Int32) (a2 : Int64) : Option (Int32 × zM) :=
    lt ((a2 / (65537 : Int64)) / (4096 : Int64)) fun x1 =>
    lt ((a2 / (65537 : Int64)) - (a2 / (65537 : Int64)) / (4096 : Int64) * (4096 : Int64)) fun x2 =>
    b1 (gX11_isSayer S a1) fun r3 =>
    if r3 = 0 then
      gX11_restore_J37 S a1 a2 x1 x2 (1 : Int32)
    else
      gX11_restore_J37 S a1 a2 x1 x2 (0 : Int32)
def gX11_clear (S : zM) : Option (Int32 × zM) :=
    b1 (gX1_empty S) fun S2 =>
    some ((gI S 219 2), S2)
def gX11_size (S : zM) (a1 : Int32) : Option Int32 :=
    if a1 = (0 : Int32) then
      ck (zobb cW 3 (gR S 0 8)) <|
      some (gI S (gR S 0 8) 6)
    else
    if a1 = (1 : Int32) then
      ck (zobb cW 3 (gR S 0 8)) <|
      some (gI S (gR S 0 8) 7)
    else
    if a1 = (2 : Int32) then
      ck (zobb cW 3 (gR S 0 8)) <|
      some (gI S (gR S 0 8) 8)
    else
    if a1 = (3 : Int32) then
      ck (zobb cW 3 (gR S 0 8)) <|
      some (gI S (gR S 0 8) 9)
    else
    if a1 = (4 : Int32) then
      some (gI S 219 2)
    else
    if a1 = (5 : Int32) then
      some (gI S 0 11)
    else
    if a1 = (6 : Int32) then
      some (gI S 0 10)
    else
      some (-1 : Int32)
def gX11_trouble (S : zM) : Option Int32 :=
    some (gI S 0 12)
