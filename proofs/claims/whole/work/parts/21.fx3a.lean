def F_X3_thrown (S : Ms)  : Ms × Int32 :=
  (S, mO S 0)
def B_X3_begin_12   (t : Nat) (Z : Ms) : Ms :=
  let S3 : Ms := mQ Z 22 t 0
  S3
def B_X3_begin_32   (t : Nat) (Z : Ms) : Ms :=
  let S5 : Ms := mQ Z 21 t 0
  S5
def B_X3_begin_89  (t : Nat) (tx : Nat) (Zx : Ms) : Ms :=
  if (nI tx) = 5 then
    let S11 : Ms := mQ Zx 19 (10 * t + tx) ((-1))
    S11
  else
    if (nI tx) = 6 then
      let S13 : Ms := mQ Zx 19 (10 * t + tx) ((-1))
      S13
    else
      let S12 : Ms := mQ Zx 19 (10 * t + tx) 0
      S12
def B_X3_begin_53   (t : Nat) (Z : Ms) : Ms :=
  let S7 : Ms := mQ Z 11 t 0
  let S8 : Ms := mQ S7 12 t 0
  let S9 : Ms := mQ S8 13 t 0
  let S10 : Ms := mQ S9 17 t 0
  let S14 : Ms := itr (B_X3_begin_89 t) 10 0 S10
  S14
def F_X3_begin (S : Ms)  : Ms :=
  let S1 : Ms := mP S 9 0
  let S2 : Ms := mP S1 10 ((-1))
  let S4 : Ms := itr B_X3_begin_12 4 0 S2
  let S6 : Ms := itr B_X3_begin_32 6 0 S4
  let S15 : Ms := itr B_X3_begin_53 16 0 S6
  S15
def B_X3_set_7 (p1 : Int32)  (t : Nat) (Z : Ms) : Ms :=
  let S2 : Ms := mQ Z 2 t 1
  let S3 : Ms := mQ S2 3 t 1
  S3
def F_X3_set (S : Ms) (p1 : Int32) : Ms :=
  let S1 : Ms := mP S 1 p1
  let S4 : Ms := itr (B_X3_set_7 p1) 6 0 S1
  let S5 : Ms := mP S4 5 0
  let S6 : Ms := F_X3_begin S5
  S6
def F_X3_levels (S : Ms) (p1 : Int32) : Ms :=
  if p1 < 1 then
    let S1 : Ms := mP S 0 1
    S1
  else
    if p1 ≤ 6 then
      let S2 : Ms := mP S 0 0
      let S3 : Ms := F_X3_set S2 p1
      S3
    else
      let S4 : Ms := mP S 0 1
      S4
def F_X3_level (S : Ms) (p1 : Int32) (p2 : Int32) (p3 : Int32) : Ms :=
  if p1 < 0 then
    let S1 : Ms := mP S 0 1
    S1
  else
    if p1 < (mO S 1) then
      if p2 < 1 then
        let S2 : Ms := mP S 0 2
        S2
      else
        if 100 < p2 then
          let S3 : Ms := mP S 0 2
          S3
        else
          if p3 < 1 then
            let S4 : Ms := mP S 0 2
            S4
          else
            if p3 ≤ 1000 then
              if (mO S 9) ≤ 0 then
                let S5 : Ms := mP S 0 0
                let S6 : Ms := mQ S5 2 ((p1).toNatClampNeg) p2
                let S7 : Ms := mQ S6 3 ((p1).toNatClampNeg) p3
                S7
              else
                let S8 : Ms := mP S 0 3
                S8
            else
              let S9 : Ms := mP S 0 2
              S9
    else
      let S10 : Ms := mP S 0 1
      S10
def F_X3_period (S : Ms) (p1 : Int32) : Ms :=
  if p1 < 0 then
    let S1 : Ms := mP S 0 1
    S1
  else
    if p1 ≤ 10000 then
      if (mO S 9) ≤ 0 then
        let S2 : Ms := mP S 0 0
        let S3 : Ms := mP S2 4 p1
        S3
      else
        let S4 : Ms := mP S 0 2
        S4
    else
      let S5 : Ms := mP S 0 1
      S5
def F_X3_process (S : Ms) (p1 : Int32) : Ms × Int32 :=
  if p1 < 0 then
    let S1 : Ms := mP S 0 1
    (S1, 0)
  else
    if p1 ≤ 20000 then
      if (mO S 9) ≤ 0 then
        let S2 : Ms := mP S 0 0
        if (mO S2 5) = 16 then
          (S2, (-1))
        else
          let S3 : Ms := mQ S2 6 (((mO S2 5)).toNatClampNeg) p1
          let S4 : Ms := mQ S3 7 (((mO S3 5)).toNatClampNeg) 0
          let S5 : Ms := mP S4 5 ((mO S4 5) + 1)
          (S5, (mO S5 5) - 1)
      else
        let S6 : Ms := mP S 0 2
        (S6, 0)
    else
      let S7 : Ms := mP S 0 1
      (S7, 0)
def F_X3_noProcess (S : Ms) (p1 : Int32) : Ms × Int32 :=
  if p1 < 0 then
    (S, 1)
  else
    if p1 < (mO S 5) then
      (S, 0)
    else
      (S, 1)
def F_X3_burst (S : Ms) (p1 : Int32) (p2 : Int32) : Ms × Int32 :=
  let S1 : Ms := (F_X3_noProcess S p1).1
  if ((F_X3_noProcess S p1).2) = 0 then
    if p2 < 1 then
      let S2 : Ms := mP S1 0 2
      (S2, 0)
    else
      if p2 ≤ 5000 then
        if (mO S1 9) ≤ 0 then
          let S3 : Ms := mP S1 0 0
          if (mA S3 7 ((p1).toNatClampNeg)) = 12 then
            (S3, (-1))
          else
            let S4 : Ms := mQ S3 8 (12 * (p1).toNatClampNeg + (mA S3 7 (p1).toNatClampNeg).toNatClampNeg) p2
            let S5 : Ms := mQ S4 7 ((p1).toNatClampNeg) ((mA S4 7 ((p1).toNatClampNeg)) + 1)
            (S5, mA S5 7 ((p1).toNatClampNeg))
        else
          let S6 : Ms := mP S1 0 3
          (S6, 0)
      else
        let S7 : Ms := mP S1 0 2
        (S7, 0)
  else
    let S8 : Ms := mP S1 0 1
    (S8, 0)
def F_X3_toEnd (S : Ms) (p1 : Int32) (p2 : Int32) : Ms :=
  let S1 : Ms := mQ S 20 (16 * (p1).toNatClampNeg + (mA S 21 (p1).toNatClampNeg).toNatClampNeg) p2
  let S2 : Ms := mQ S1 21 ((p1).toNatClampNeg) ((mA S1 21 ((p1).toNatClampNeg)) + 1)
  let S3 : Ms := mQ S2 11 ((p2).toNatClampNeg) 1
  S3
def B_X3_toFront_7 (p1 : Int32) (p2 : Int32) (n : Nat) (Z : Ms) : Ms :=
  let S1 : Ms := mQ Z 20 (16 * (p1).toNatClampNeg + (n + 1)) (mA Z 20 (16 * (p1).toNatClampNeg + n))
  S1
def F_X3_toFront (S : Ms) (p1 : Int32) (p2 : Int32) : Ms :=
  let S2 : Ms := itd (B_X3_toFront_7 p1 p2) ((mA S 21 (p1).toNatClampNeg).toNatClampNeg) S
  let S3 : Ms := mQ S2 20 (16 * (p1).toNatClampNeg) p2
  let S4 : Ms := mQ S3 21 ((p1).toNatClampNeg) ((mA S3 21 ((p1).toNatClampNeg)) + 1)
  let S5 : Ms := mQ S4 11 ((p2).toNatClampNeg) 1
  S5
def B_X3_takeFirst_22 (p1 : Int32)  (t : Nat) (Z : Ms) : Ms :=
  let S2 : Ms := mQ Z 20 (16 * (p1).toNatClampNeg + t) (mA Z 20 (16 * (p1).toNatClampNeg + t + 1))
  S2
def F_X3_takeFirst (S : Ms) (p1 : Int32) : Ms × Int32 :=
  let S1 : Ms := mQ S 21 ((p1).toNatClampNeg) ((mA S 21 ((p1).toNatClampNeg)) - 1)
  let S3 : Ms := itr (B_X3_takeFirst_22 p1) ((mA S1 21 (p1).toNatClampNeg).toNatClampNeg) 0 S1
  (S3, mA S 20 (16 * (p1).toNatClampNeg))
def F_X3_end (S : Ms) (p1 : Int32) (p2 : Int32) : Ms :=
  let S1 : Ms := mQ S 11 ((p1).toNatClampNeg) 4
  let S2 : Ms := mQ S1 19 (10 * (p1).toNatClampNeg + 6) p2
  let S3 : Ms := mQ S2 22 3 ((mA S2 22 3) + 1)
  S3
def L_X3_firstLevel_2  : Nat → Nat → Ms → Ms × Int32
  | 0, t, Z =>
    (Z, (-1))
  | n + 1, t, Z =>
    if (mA Z 21 t) ≤ 0 then
      L_X3_firstLevel_2 n (t + 1) Z
    else
      (Z, nI t)
def F_X3_firstLevel (S : Ms)  : Ms × Int32 :=
  L_X3_firstLevel_2 ((mO S 1).toNatClampNeg) 0 S
def F_X3_restart (S : Ms)  : Ms :=
  let S1 : Ms := mP S 0 0
  let S2 : Ms := F_X3_begin S1
  S2
def F_X3_time (S : Ms)  : Ms × Int32 :=
  let S1 : Ms := mP S 0 0
  (S1, mO S1 9)
def F_X3_running (S : Ms)  : Ms × Int32 :=
  let S1 : Ms := mP S 0 0
  (S1, mO S1 10)
def F_X3_told (S : Ms) (p1 : Int32) (p2 : Int32) : Ms × Int32 :=
  let S1 : Ms := (F_X3_noProcess S p1).1
  if ((F_X3_noProcess S p1).2) = 0 then
    if p2 < 0 then
      let S2 : Ms := mP S1 0 2
      (S2, 0)
    else
      if p2 ≤ 9 then
        let S3 : Ms := mP S1 0 0
        if p2 = 0 then
          (S3, mA S3 11 ((p1).toNatClampNeg))
        else
          if p2 = 1 then
            (S3, mA S3 12 ((p1).toNatClampNeg))
          else
            (S3, mA S3 19 (10 * (p1).toNatClampNeg + (p2).toNatClampNeg))
      else
        let S4 : Ms := mP S1 0 2
        (S4, 0)
  else
    let S5 : Ms := mP S1 0 1
    (S5, 0)
def F_X3_queued (S : Ms) (p1 : Int32) (p2 : Int32) : Ms × Int32 :=
  if p1 < 0 then
    let S1 : Ms := mP S 0 1
    (S1, 0)
  else
    if p1 < (mO S 1) then
      let S2 : Ms := mP S 0 0
      if p2 < 0 then
        (S2, (-1))
      else
        if p2 < (mA S2 21 ((p1).toNatClampNeg)) then
          (S2, mA S2 20 (16 * (p1).toNatClampNeg + (p2).toNatClampNeg))
        else
          (S2, (-1))
    else
      let S3 : Ms := mP S 0 1
      (S3, 0)
def F_X3_all (S : Ms) (p1 : Int32) : Ms × Int32 :=
  if p1 < 0 then
    let S1 : Ms := mP S 0 1
    (S1, 0)
  else
    if p1 ≤ 3 then
      let S2 : Ms := mP S 0 0
      (S2, mA S2 22 ((p1).toNatClampNeg))
    else
      let S3 : Ms := mP S 0 1
      (S3, 0)
def F_X3_switched (S : Ms) (p1 : Int32) : Ms × Int32 :=
  if p1 < 0 then
    let S1 : Ms := mP S 0 1
    (S1, 0)
  else
    if (mA S 22 0) ≤ p1 then
      let S2 : Ms := mP S 0 1
      (S2, 0)
    else
      if p1 < 400 then
        let S3 : Ms := mP S 0 0
        (S3, mA S3 23 ((p1).toNatClampNeg))
      else
        let S4 : Ms := mP S 0 1
        (S4, 0)
def B_X3_count_2   (t : Nat) (Z : Ms) : Ms :=
  if (mA Z 11 t) = 1 then
    let S2 : Ms := mQ Z 19 (10 * t + 3) ((mA Z 19 (10 * t + 3)) + 1)
    S2
  else
    if (mA Z 11 t) = 3 then
      let S1 : Ms := mQ Z 19 (10 * t + 4) ((mA Z 19 (10 * t + 4)) + 1)
      S1
    else
      Z
def F_X3_count (S : Ms)  : Ms :=
  let S3 : Ms := itr B_X3_count_2 ((mO S 5).toNatClampNeg) 0 S
  S3
