def F_X3_thrown (S : Ms)  : Ms × Int32 :=
  (S, mO S 0)
def B_X3_begin_12   (t : Nat) (Z : Ms) : Ms :=
  let S3 : Ms := mQ Z 22 t 0
  S3
def B_X3_begin_32   (t : Nat) (Z : Ms) : Ms :=
  let S5 : Ms := mQ Z 21 t 0
  S5
def B_X3_begin_89  (t : Nat) (tx : Nat) (Zx : Ms) : Ms :=
  if (nI tx) = 5 then
    let S11 : Ms := mQ Zx 19 (10 * t + tx) ((-1))
    S11
  else
    if (nI tx) = 6 then
      let S13 : Ms := mQ Zx 19 (10 * t + tx) ((-1))
      S13
    else
      let S12 : Ms := mQ Zx 19 (10 * t + tx) 0
      S12
def B_X3_begin_53   (t : Nat) (Z : Ms) : Ms :=
  let S7 : Ms := mQ Z 11 t 0
  let S8 : Ms := mQ S7 12 t 0
  let S9 : Ms := mQ S8 13 t 0
  let S10 : Ms := mQ S9 17 t 0
  let S14 : Ms := itr (B_X3_begin_89 t) 10 0 S10
  S14
def F_X3_begin (S : Ms)  : Ms :=
  let S1 : Ms := mP S 9 0
  let S2 : Ms := mP S1 10 ((-1))
  let S4 : Ms := itr B_X3_begin_12 4 0 S2
  let S6 : Ms := itr B_X3_begin_32 6 0 S4
  let S15 : Ms := itr B_X3_begin_53 16 0 S6
  S15
def B_X3_set_7 (p1 : Int32)  (t : Nat) (Z : Ms) : Ms :=
  let S2 : Ms := mQ Z 2 t 1
  let S3 : Ms := mQ S2 3 t 1
  S3
def F_X3_set (S : Ms) (p1 : Int32) : Ms :=
  let S1 : Ms := mP S 1 p1
  let S4 : Ms := itr (B_X3_set_7 p1) 6 0 S1
  let S5 : Ms := mP S4 5 0
  let S6 : Ms := F_X3_begin S5
  S6
def F_X3_levels (S : Ms) (p1 : Int32) : Ms :=
  if p1 < 1 then
    let S1 : Ms := mP S 0 1
    S1
  else
    if p1 ≤ 6 then
      let S2 : Ms := mP S 0 0
      let S3 : Ms := F_X3_set S2 p1
      S3
    else
      let S4 : Ms := mP S 0 1
      S4
def F_X3_level (S : Ms) (p1 : Int32) (p2 : Int32) (p3 : Int32) : Ms :=
  if p1 < 0 then
    let S1 : Ms := mP S 0 1
    S1
  else
    if p1 < (mO S 1) then
      if p2 < 1 then
        let S2 : Ms := mP S 0 2
        S2
      else
        if 100 < p2 then
          let S3 : Ms := mP S 0 2
          S3
        else
          if p3 < 1 then
            let S4 : Ms := mP S 0 2
            S4
          else
            if p3 ≤ 1000 then
              if (mO S 9) ≤ 0 then
                let S5 : Ms := mP S 0 0
                let S6 : Ms := mQ S5 2 ((p1).toNatClampNeg) p2
                let S7 : Ms := mQ S6 3 ((p1).toNatClampNeg) p3
                S7
              else
                let S8 : Ms := mP S 0 3
                S8
            else
              let S9 : Ms := mP S 0 2
              S9
    else
      let S10 : Ms := mP S 0 1
      S10
def F_X3_period (S : Ms) (p1 : Int32) : Ms :=
  if p1 < 0 then
    let S1 : Ms := mP S 0 1
    S1
  else
    if p1 ≤ 10000 then
      if (mO S 9) ≤ 0 then
        let S2 : Ms := mP S 0 0
        let S3 : Ms := mP S2 4 p1
        S3
      else
        let S4 : Ms := mP S 0 2
        S4
    else
      let S5 : Ms := mP S 0 1
      S5
def F_X3_process (S : Ms) (p1 : Int32) : Ms × Int32 :=
  if p1 < 0 then
    let S1 : Ms := mP S 0 1
    (S1, 0)
  else
    if p1 ≤ 20000 then
      if (mO S 9) ≤ 0 then
        let S2 : Ms := mP S 0 0
        if (mO S2 5) = 16 then
          (S2, (-1))
        else
          let S3 : Ms := mQ S2 6 (((mO S2 5)).toNatClampNeg) p1
          let S4 : Ms := mQ S3 7 (((mO S3 5)).toNatClampNeg) 0
          let S5 : Ms := mP S4 5 ((mO S4 5) + 1)
          (S5, (mO S5 5) - 1)
      else
        let S6 : Ms := mP S 0 2
        (S6, 0)
    else
      let S7 : Ms := mP S 0 1
      (S7, 0)
def F_X3_noProcess (S : Ms) (p1 : Int32) : Ms × Int32 :=
  if p1 < 0 then
    (S, 1)
  else
    if p1 < (mO S 5) then
      (S, 0)
    else
      (S, 1)
def F_X3_burst (S : Ms) (p1 : Int32) (p2 : Int32) : Ms × Int32 :=
  let S1 : Ms := (F_X3_noProcess S p1).1
  if ((F_X3_noProcess S p1).2) = 0 then
    if p2 < 1 then
      let S2 : Ms := mP S1 0 2
      (S2, 0)
    else
      if p2 ≤ 5000 then
        if (mO S1 9) ≤ 0 then
          let S3 : Ms := mP S1 0 0
          if (mA S3 7 ((p1).toNatClampNeg)) = 12 then
            (S3, (-1))
          else
            let S4 : Ms := mQ S3 8 (12 * (p1).toNatClampNeg + (mA S3 7 (p1).toNatClampNeg).toNatClampNeg) p2
            let S5 : Ms := mQ S4 7 ((p1).toNatClampNeg) ((mA S4 7 ((p1).toNatClampNeg)) + 1)
            (S5, mA S5 7 ((p1).toNatClampNeg))
        else
          let S6 : Ms := mP S1 0 3
          (S6, 0)
      else
        let S7 : Ms := mP S1 0 2
        (S7, 0)
  else
    let S8 : Ms := mP S1 0 1
    (S8, 0)
def F_X3_toEnd (S : Ms) (p1 : Int32) (p2 : Int32) : Ms :=
  let S1 : Ms := mQ S 20 (16 * (p1).toNatClampNeg + (mA S 21 (p1).toNatClampNeg).toNatClampNeg) p2
  let S2 : Ms := mQ S1 21 ((p1).toNatClampNeg) ((mA S1 21 ((p1).toNatClampNeg)) + 1)
  let S3 : Ms := mQ S2 11 ((p2).toNatClampNeg) 1
  S3
def B_X3_toFront_7 (p1 : Int32) (p2 : Int32) (n : Nat) (Z : Ms) : Ms :=
  let S1 : Ms := mQ Z 20 (16 * (p1).toNatClampNeg + (n + 1)) (mA Z 20 (16 * (p1).toNatClampNeg + n))
  S1
def F_X3_toFront (S : Ms) (p1 : Int32) (p2 : Int32) : Ms :=
  let S2 : Ms := itd (B_X3_toFront_7 p1 p2) ((mA S 21 (p1).toNatClampNeg).toNatClampNeg) S
  let S3 : Ms := mQ S2 20 (16 * (p1).toNatClampNeg) p2
  let S4 : Ms := mQ S3 21 ((p1).toNatClampNeg) ((mA S3 21 ((p1).toNatClampNeg)) + 1)
  let S5 : Ms := mQ S4 11 ((p2).toNatClampNeg) 1
  S5
def B_X3_takeFirst_22 (p1 : Int32)  (t : Nat) (Z : Ms) : Ms :=
  let S2 : Ms := mQ Z 20 (16 * (p1).toNatClampNeg + t) (mA Z 20 (16 * (p1).toNatClampNeg + t + 1))
  S2
def F_X3_takeFirst (S : Ms) (p1 : Int32) : Ms × Int32 :=
  let S1 : Ms := mQ S 21 ((p1).toNatClampNeg) ((mA S 21 ((p1).toNatClampNeg)) - 1)
  let S3 : Ms := itr (B_X3_takeFirst_22 p1) ((mA S1 21 (p1).toNatClampNeg).toNatClampNeg) 0 S1
  (S3, mA S 20 (16 * (p1).toNatClampNeg))
def F_X3_end (S : Ms) (p1 : Int32) (p2 : Int32) : Ms :=
  let S1 : Ms := mQ S 11 ((p1).toNatClampNeg) 4
  let S2 : Ms := mQ S1 19 (10 * (p1).toNatClampNeg + 6) p2
  let S3 : Ms := mQ S2 22 3 ((mA S2 22 3) + 1)
  S3
def L_X3_firstLevel_2  : Nat → Nat → Ms → Ms × Int32
  | 0, t, Z =>
    (Z, (-1))
  | n + 1, t, Z =>
    if (mA Z 21 t) ≤ 0 then
      L_X3_firstLevel_2 n (t + 1) Z
    else
      (Z, nI t)
def F_X3_firstLevel (S : Ms)  : Ms × Int32 :=
  L_X3_firstLevel_2 ((mO S 1).toNatClampNeg) 0 S
def F_X3_restart (S : Ms)  : Ms :=
  let S1 : Ms := mP S 0 0
  let S2 : Ms := F_X3_begin S1
  S2
def F_X3_time (S : Ms)  : Ms × Int32 :=
  let S1 : Ms := mP S 0 0
  (S1, mO S1 9)
def F_X3_running (S : Ms)  : Ms × Int32 :=
  let S1 : Ms := mP S 0 0
  (S1, mO S1 10)
def F_X3_told (S : Ms) (p1 : Int32) (p2 : Int32) : Ms × Int32 :=
  let S1 : Ms := (F_X3_noProcess S p1).1
  if ((F_X3_noProcess S p1).2) = 0 then
    if p2 < 0 then
      let S2 : Ms := mP S1 0 2
      (S2, 0)
    else
      if p2 ≤ 9 then
        let S3 : Ms := mP S1 0 0
        if p2 = 0 then
          (S3, mA S3 11 ((p1).toNatClampNeg))
        else
          if p2 = 1 then
            (S3, mA S3 12 ((p1).toNatClampNeg))
          else
            (S3, mA S3 19 (10 * (p1).toNatClampNeg + (p2).toNatClampNeg))
      else
        let S4 : Ms := mP S1 0 2
        (S4, 0)
  else
    let S5 : Ms := mP S1 0 1
    (S5, 0)
def F_X3_queued (S : Ms) (p1 : Int32) (p2 : Int32) : Ms × Int32 :=
  if p1 < 0 then
    let S1 : Ms := mP S 0 1
    (S1, 0)
  else
    if p1 < (mO S 1) then
      let S2 : Ms := mP S 0 0
      if p2 < 0 then
        (S2, (-1))
      else
        if p2 < (mA S2 21 ((p1).toNatClampNeg)) then
          (S2, mA S2 20 (16 * (p1).toNatClampNeg + (p2).toNatClampNeg))
        else
          (S2, (-1))
    else
      let S3 : Ms := mP S 0 1
      (S3, 0)
def F_X3_all (S : Ms) (p1 : Int32) : Ms × Int32 :=
  if p1 < 0 then
    let S1 : Ms := mP S 0 1
    (S1, 0)
  else
    if p1 ≤ 3 then
      let S2 : Ms := mP S 0 0
      (S2, mA S2 22 ((p1).toNatClampNeg))
    else
      let S3 : Ms := mP S 0 1
      (S3, 0)
def F_X3_switched (S : Ms) (p1 : Int32) : Ms × Int32 :=
  if p1 < 0 then
    let S1 : Ms := mP S 0 1
    (S1, 0)
  else
    if (mA S 22 0) ≤ p1 then
      let S2 : Ms := mP S 0 1
      (S2, 0)
    else
      if p1 < 400 then
        let S3 : Ms := mP S 0 0
        (S3, mA S3 23 ((p1).toNatClampNeg))
      else
        let S4 : Ms := mP S 0 1
        (S4, 0)
def B_X3_count_2   (t : Nat) (Z : Ms) : Ms :=
  if (mA Z 11 t) = 1 then
    let S2 : Ms := mQ Z 19 (10 * t + 3) ((mA Z 19 (10 * t + 3)) + 1)
    S2
  else
    if (mA Z 11 t) = 3 then
      let S1 : Ms := mQ Z 19 (10 * t + 4) ((mA Z 19 (10 * t + 4)) + 1)
      S1
    else
      Z
def F_X3_count (S : Ms)  : Ms :=
  let S3 : Ms := itr B_X3_count_2 ((mO S 5).toNatClampNeg) 0 S
  S3
def B_X3_come_2 (p1 : Int32)  (t : Nat) (Z : Ms) : Ms :=
  if (mA Z 6 t) = p1 then
    if (mA Z 7 t) = 0 then
      let S5 : Ms := F_X3_end Z (nI t) p1
      S5
    else
      let S1 : Ms := mQ Z 12 t 0
      let S2 : Ms := mQ S1 16 t (mA S1 3 0)
      let S3 : Ms := mQ S2 14 t (mA S2 8 (12 * t))
      let S4 : Ms := F_X3_toEnd S3 0 (nI t)
      S4
  else
    Z
def F_X3_come (S : Ms) (p1 : Int32) : Ms :=
  let S6 : Ms := itr (B_X3_come_2 p1) ((mO S 5).toNatClampNeg) 0 S
  S6
def B_X3_comeBack_2 (p1 : Int32)  (t : Nat) (Z : Ms) : Ms :=
  if (mA Z 11 t) = 3 then
    if (mA Z 18 t) = p1 then
      let S1 : Ms := mQ Z 13 t ((mA Z 13 t) + 1)
      if (mA S1 13 t) = (mA S1 7 t) then
        let S4 : Ms := F_X3_end S1 (nI t) p1
        S4
      else
        let S2 : Ms := mQ S1 14 t (mA S1 8 (12 * t + (mA S1 13 t).toNatClampNeg))
        let S3 : Ms := F_X3_toEnd S2 (mA S2 12 t) (nI t)
        S3
    else
      Z
  else
    Z
def F_X3_comeBack (S : Ms) (p1 : Int32) : Ms :=
  let S5 : Ms := itr (B_X3_comeBack_2 p1) ((mO S 5).toNatClampNeg) 0 S
  S5
def B_X3_allUp_20  (t : Nat) (nx : Nat) (Zx : Ms) : Ms :=
  let S2 : Ms := (F_X3_takeFirst Zx (nI t)).1
  let S3 : Ms := F_X3_toEnd S2 0 ((F_X3_takeFirst Zx (nI t)).2)
  S3
def B_X3_allUp_12   (t : Nat) (Z : Ms) : Ms :=
  let S4 : Ms := itd (B_X3_allUp_20 t) ((mA Z 21 t).toNatClampNeg) Z
  S4
def B_X3_allUp_50   (t : Nat) (Z : Ms) : Ms :=
  if (mA Z 11 t) = 0 then
    Z
  else
    if (mA Z 11 t) = 4 then
      Z
    else
      let S6 : Ms := mQ Z 12 t 0
      let S7 : Ms := mQ S6 16 t (mA S6 3 0)
      if (mA S7 17 t) = 0 then
        S7
      else
        if (mA S7 15 t) ≤ (mA S7 2 0) then
          S7
        else
          let S8 : Ms := mQ S7 15 t (mA S7 2 0)
          S8
def F_X3_allUp (S : Ms)  : Ms :=
  let S1 : Ms := mQ S 22 2 ((mA S 22 2) + 1)
  let S5 : Ms := itr B_X3_allUp_12 ((mO S1 1).toNatClampNeg - 1) 1 S1
  let S9 : Ms := itr B_X3_allUp_50 ((mO S5 5).toNatClampNeg) 0 S5
  if (mO S9 10) < 0 then
    S9
  else
    let S10 : Ms := mQ S9 15 (((mO S9 10)).toNatClampNeg) (mA S9 2 0)
    S10
def G_X3_choose_208 (Y : Ms) (p1 : Int32) (p9 : Int32) : Ms :=
  if 400 ≤ (mA Y 22 0) then
    let S1 : Ms := mQ Y 22 0 ((mA Y 22 0) + 1)
    S1
  else
    let S2 : Ms := mQ Y 23 (((mA Y 22 0)).toNatClampNeg) ((16 * p1) + p9)
    let S3 : Ms := mQ S2 22 0 ((mA S2 22 0) + 1)
    S3
def G_X3_choose_145 (Y : Ms) (p1 : Int32) (p9 : Int32) : Ms :=
  let S4 : Ms := mQ Y 17 ((p9).toNatClampNeg) 0
  let S5 : Ms := mQ S4 19 (10 * (p9).toNatClampNeg + 7) ((mA S4 19 (10 * (p9).toNatClampNeg + 7)) + 1)
  if 0 ≤ (mA S5 19 (10 * (p9).toNatClampNeg + 5)) then
    let S6 : Ms := mQ S5 19 (10 * (p9).toNatClampNeg + 5) (mA S5 19 (10 * (p9).toNatClampNeg + 5))
    G_X3_choose_208 S6 p1 p9
  else
    let S7 : Ms := mQ S5 19 (10 * (p9).toNatClampNeg + 5) p1
    G_X3_choose_208 S7 p1 p9
def G_X3_choose_103 (Y : Ms) (p1 : Int32) (p9 : Int32) : Ms :=
  let S8 : Ms := mQ Y 11 ((p9).toNatClampNeg) 2
  if (mA S8 17 ((p9).toNatClampNeg)) = 0 then
    let S9 : Ms := mQ S8 15 ((p9).toNatClampNeg) (mA S8 2 ((mA S8 12 (p9).toNatClampNeg).toNatClampNeg))
    G_X3_choose_145 S9 p1 p9
  else
    let S10 : Ms := mQ S8 15 ((p9).toNatClampNeg) (mA S8 15 ((p9).toNatClampNeg))
    G_X3_choose_145 S10 p1 p9
def G_X3_choose_80 (Y : Ms) (p1 : Int32) (p8 : Int32) : Ms :=
  if 0 ≤ (mO Y 10) then
    Y
  else
    if 0 ≤ p8 then
      let S11 : Ms := (F_X3_takeFirst Y p8).1
      let S12 : Ms := mP S11 10 ((F_X3_takeFirst Y p8).2)
      G_X3_choose_103 S12 p1 ((F_X3_takeFirst Y p8).2)
    else
      Y
def F_X3_choose (S : Ms) (p1 : Int32) : Ms :=
  let S13 : Ms := (F_X3_firstLevel S).1
  if (mO S13 10) < 0 then
    G_X3_choose_80 S13 p1 ((F_X3_firstLevel S).2)
  else
    if ((F_X3_firstLevel S).2) < 0 then
      G_X3_choose_80 S13 p1 ((F_X3_firstLevel S).2)
    else
      if (mA S13 12 ((mO S13 10).toNatClampNeg)) ≤ ((F_X3_firstLevel S).2) then
        G_X3_choose_80 S13 p1 ((F_X3_firstLevel S).2)
      else
        let S14 : Ms := mQ S13 17 ((mO S13 10).toNatClampNeg) 1
        let S15 : Ms := mQ S14 19 (10 * (mO S14 10).toNatClampNeg + 9) ((mA S14 19 (10 * (mO S14 10).toNatClampNeg + 9)) + 1)
        let S16 : Ms := F_X3_toFront S15 (mA S15 12 ((mO S15 10).toNatClampNeg)) (mO S15 10)
        let S17 : Ms := mP S16 10 ((-1))
        G_X3_choose_80 S17 p1 ((F_X3_firstLevel S).2)
def F_X3_work (S : Ms) (p1 : Int32) : Ms :=
  let S1 : Ms := mQ S 19 (10 * (mO S 10).toNatClampNeg + 2) ((mA S 19 (10 * (mO S 10).toNatClampNeg + 2)) + 1)
  let S2 : Ms := mQ S1 14 ((mO S 10).toNatClampNeg) ((mA S1 14 ((mO S 10).toNatClampNeg)) - 1)
  let S3 : Ms := mQ S2 15 ((mO S 10).toNatClampNeg) ((mA S2 15 ((mO S 10).toNatClampNeg)) - 1)
  let S4 : Ms := mQ S3 16 ((mO S 10).toNatClampNeg) ((mA S3 16 ((mO S 10).toNatClampNeg)) - 1)
  if (mA S4 14 ((mO S 10).toNatClampNeg)) = 0 then
    let S14 : Ms := mP S4 10 ((-1))
    let S15 : Ms := mQ S14 13 ((mO S 10).toNatClampNeg) ((mA S14 13 ((mO S 10).toNatClampNeg)) + 1)
    if (mA S15 13 ((mO S 10).toNatClampNeg)) = (mA S15 7 ((mO S 10).toNatClampNeg)) then
      let S18 : Ms := F_X3_end S15 (mO S 10) (p1 + 1)
      S18
    else
      let S16 : Ms := mQ S15 11 ((mO S 10).toNatClampNeg) 3
      let S17 : Ms := mQ S16 18 ((mO S 10).toNatClampNeg) ((p1 + 1) + (mA S16 8 (12 * (mO S 10).toNatClampNeg + (mA S16 13 (mO S 10).toNatClampNeg).toNatClampNeg)))
      S17
  else
    if 0 < (mA S4 16 ((mO S 10).toNatClampNeg)) then
      if (mA S4 15 ((mO S 10).toNatClampNeg)) = 0 then
        let S5 : Ms := mP S4 10 ((-1))
        let S6 : Ms := F_X3_toEnd S5 (mA S5 12 ((mO S 10).toNatClampNeg)) (mO S 10)
        S6
      else
        S4
    else
      let S7 : Ms := mP S4 10 ((-1))
      if ((mO S7 1) - 1) ≤ (mA S7 12 ((mO S 10).toNatClampNeg)) then
        let S8 : Ms := mQ S7 16 ((mO S 10).toNatClampNeg) (mA S7 3 ((mA S7 12 (mO S 10).toNatClampNeg).toNatClampNeg))
        let S9 : Ms := F_X3_toEnd S8 (mA S8 12 ((mO S 10).toNatClampNeg)) (mO S 10)
        S9
      else
        let S10 : Ms := mQ S7 12 ((mO S 10).toNatClampNeg) ((mA S7 12 ((mO S 10).toNatClampNeg)) + 1)
        let S11 : Ms := mQ S10 19 (10 * (mO S 10).toNatClampNeg + 8) ((mA S10 19 (10 * (mO S 10).toNatClampNeg + 8)) + 1)
        let S12 : Ms := mQ S11 16 ((mO S 10).toNatClampNeg) (mA S11 3 ((mA S11 12 (mO S 10).toNatClampNeg).toNatClampNeg))
        let S13 : Ms := F_X3_toEnd S12 (mA S12 12 ((mO S 10).toNatClampNeg)) (mO S 10)
        S13
def L_X3_run_35 (p1 : Int32) : Nat → Nat → Ms → Int32 → Ms × Int32
  | 0, t, Z, w =>
    (Z, w)
  | n + 1, t, Z, w =>
    if (mO Z 4) ≤ 0 then
      let S4 : Ms := F_X3_come Z (mO Z 9)
      let S5 : Ms := F_X3_comeBack S4 (mO Z 9)
      let S6 : Ms := F_X3_choose S5 (mO Z 9)
      let S7 : Ms := F_X3_count S6
      if (mO S7 10) < 0 then
        let S8 : Ms := mQ S7 22 1 ((mA S7 22 1) + 1)
        let S9 : Ms := mP S8 9 ((mO S8 9) + 1)
        L_X3_run_35 p1 n (t + 1) S9 (w + 1)
      else
        let S10 : Ms := F_X3_work S7 (mO Z 9)
        let S11 : Ms := mP S10 9 ((mO S10 9) + 1)
        L_X3_run_35 p1 n (t + 1) S11 w
    else
      if (mO Z 9) ≤ 0 then
        let S12 : Ms := F_X3_come Z (mO Z 9)
        let S13 : Ms := F_X3_comeBack S12 (mO Z 9)
        let S14 : Ms := F_X3_choose S13 (mO Z 9)
        let S15 : Ms := F_X3_count S14
        if (mO S15 10) < 0 then
          let S16 : Ms := mQ S15 22 1 ((mA S15 22 1) + 1)
          let S17 : Ms := mP S16 9 ((mO S16 9) + 1)
          L_X3_run_35 p1 n (t + 1) S17 (w + 1)
        else
          let S18 : Ms := F_X3_work S15 (mO Z 9)
          let S19 : Ms := mP S18 9 ((mO S18 9) + 1)
          L_X3_run_35 p1 n (t + 1) S19 w
      else
        if ((mO Z 9) - (mO Z 9) / (mO Z 4) * (mO Z 4)) = 0 then
          let S28 : Ms := F_X3_allUp Z
          let S29 : Ms := F_X3_come S28 (mO Z 9)
          let S30 : Ms := F_X3_comeBack S29 (mO Z 9)
          let S31 : Ms := F_X3_choose S30 (mO Z 9)
          let S32 : Ms := F_X3_count S31
          if (mO S32 10) < 0 then
            let S33 : Ms := mQ S32 22 1 ((mA S32 22 1) + 1)
            let S34 : Ms := mP S33 9 ((mO S33 9) + 1)
            L_X3_run_35 p1 n (t + 1) S34 (w + 1)
          else
            let S35 : Ms := F_X3_work S32 (mO Z 9)
            let S36 : Ms := mP S35 9 ((mO S35 9) + 1)
            L_X3_run_35 p1 n (t + 1) S36 w
        else
          let S20 : Ms := F_X3_come Z (mO Z 9)
          let S21 : Ms := F_X3_comeBack S20 (mO Z 9)
          let S22 : Ms := F_X3_choose S21 (mO Z 9)
          let S23 : Ms := F_X3_count S22
          if (mO S23 10) < 0 then
            let S24 : Ms := mQ S23 22 1 ((mA S23 22 1) + 1)
            let S25 : Ms := mP S24 9 ((mO S24 9) + 1)
            L_X3_run_35 p1 n (t + 1) S25 (w + 1)
          else
            let S26 : Ms := F_X3_work S23 (mO Z 9)
            let S27 : Ms := mP S26 9 ((mO S26 9) + 1)
            L_X3_run_35 p1 n (t + 1) S27 w
def F_X3_run (S : Ms) (p1 : Int32) : Ms × Int32 :=
  if p1 < 0 then
    let S1 : Ms := mP S 0 1
    if p1 ≤ 0 then
      (S1, 0)
    else
      (S1, 0)
  else
    if 30000 < p1 then
      let S2 : Ms := mP S 0 1
      if p1 ≤ 0 then
        (S2, 0)
      else
        (S2, 0)
    else
      if ((mO S 9) + p1) ≤ 100000 then
        let S3 : Ms := mP S 0 0
        L_X3_run_35 p1 ((p1).toNatClampNeg) 0 S3 0
      else
        let S37 : Ms := mP S 0 1
        if p1 ≤ 0 then
          (S37, 0)
        else
          (S37, 0)
