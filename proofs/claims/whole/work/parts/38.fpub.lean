def F_X2_restart (S : Cs)  : Cs :=
  let S1 : Cs := F_X2_startOver S
  S1
def F_X2_time (S : Cs)  : Cs × Int32 :=
  (S, cO S 6)
def F_X2_running (S : Cs)  : Cs × Int32 :=
  if cN S = none then
    (S, (-1))
  else
    (S, cT S (cI S) 0)
def B_X2_levels_28 (p1 : Int32)  (t : Nat) (Z : Cs) : Cs :=
  let S2 : Cs := sL Z t 0 1
  let S3 : Cs := sL S2 t 1 1
  S3
def F_X2_levels (S : Cs) (p1 : Int32) : Cs × Int32 × Nat :=
  if p1 < 1 then
    (S, 0, 2)
  else
    if p1 ≤ 6 then
      let S1 : Cs := sO S 3 p1
      let S4 : Cs := itr (B_X2_levels_28 p1) 6 0 S1
      let S5 : Cs := sO S4 4 0
      let S6 : Cs := F_X2_startOver S5
      (S6, 0, 0)
    else
      (S, 0, 2)
def F_X2_level (S : Cs) (p1 : Int32) (p2 : Int32) (p3 : Int32) : Cs × Int32 × Nat :=
  let S1 : Cs := (F_X2_isLevel S p1).1
  if ((F_X2_isLevel S p1).2) = 0 then
    (S1, 0, 1)
  else
    if p2 < 1 then
      (S1, 0, 2)
    else
      if p2 ≤ 100 then
        if p3 < 1 then
          (S1, 0, 2)
        else
          if p3 ≤ 1000 then
            if (cO S1 6) = 0 then
              let S2 : Cs := sL S1 ((p1).toNatClampNeg) 0 p2
              let S3 : Cs := sL S2 ((p1).toNatClampNeg) 1 p3
              (S3, 0, 0)
            else
              (S1, 0, 3)
          else
            (S1, 0, 2)
      else
        (S1, 0, 2)
def F_X2_period (S : Cs) (p1 : Int32) : Cs × Int32 × Nat :=
  if p1 < 0 then
    (S, 0, 2)
  else
    if p1 ≤ 10000 then
      if (cO S 6) = 0 then
        let S1 : Cs := sO S 5 p1
        (S1, 0, 0)
      else
        (S, 0, 3)
    else
      (S, 0, 2)
def F_X2_process (S : Cs) (p1 : Int32) : Cs × Int32 × Nat :=
  if p1 < 0 then
    (S, 0, 2)
  else
    if p1 ≤ 20000 then
      if (cO S 6) = 0 then
        if (cO S 4) < 16 then
          let S1 : Cs := F_X1_tellArrival S (((cO S 4)).toNatClampNeg) p1
          let S2 : Cs := sO S1 4 ((cO S1 4) + 1)
          (S2, (cO S2 4) - 1, 0)
        else
          (S, (-1), 0)
      else
        (S, 0, 3)
    else
      (S, 0, 2)
def F_X2_burst (S : Cs) (p1 : Int32) (p2 : Int32) : Cs × Int32 × Nat :=
  let S1 : Cs := (F_X2_isTask S p1).1
  if ((F_X2_isTask S p1).2) = 0 then
    (S1, 0, 1)
  else
    if p2 < 1 then
      (S1, 0, 2)
    else
      if p2 ≤ 5000 then
        if (cO S1 6) = 0 then
          let S2 : Cs := (F_X1_tellBurst S1 ((p1).toNatClampNeg) p2).1
          (S2, (F_X1_tellBurst S1 ((p1).toNatClampNeg) p2).2, 0)
        else
          (S1, 0, 3)
      else
        (S1, 0, 2)
def B_X2_run_49 (p1 : Int32)  (t : Nat) (Z : Cs) : Cs :=
  let S1 : Cs := F_X2_doTick Z
  S1
def F_X2_run (S : Cs) (p1 : Int32) : Cs × Int32 × Nat :=
  if p1 < 0 then
    (S, 0, 2)
  else
    if p1 ≤ 30000 then
      if ((cO S 6) + p1) ≤ 100000 then
        let S2 : Cs := itr (B_X2_run_49 p1) ((p1).toNatClampNeg) 0 S
        (S2, (cO S2 9) - (cO S 9), 0)
      else
        (S, 0, 2)
    else
      (S, 0, 2)
def F_X2_told (S : Cs) (p1 : Int32) (p2 : Int32) : Cs × Int32 × Nat :=
  let S1 : Cs := (F_X2_isTask S p1).1
  if ((F_X2_isTask S p1).2) = 0 then
    (S1, 0, 1)
  else
    if p2 = 0 then
      (S1, cT S1 ((p1).toNatClampNeg) 4, 0)
    else
      if p2 = 1 then
        (S1, cT S1 ((p1).toNatClampNeg) 5, 0)
      else
        if p2 = 2 then
          (S1, cT S1 ((p1).toNatClampNeg) 11, 0)
        else
          if p2 = 3 then
            (S1, cT S1 ((p1).toNatClampNeg) 12, 0)
          else
            if p2 = 4 then
              (S1, cT S1 ((p1).toNatClampNeg) 13, 0)
            else
              if p2 = 5 then
                (S1, cT S1 ((p1).toNatClampNeg) 14, 0)
              else
                if p2 = 6 then
                  (S1, cT S1 ((p1).toNatClampNeg) 15, 0)
                else
                  if p2 = 7 then
                    (S1, cT S1 ((p1).toNatClampNeg) 16, 0)
                  else
                    if p2 = 8 then
                      (S1, cT S1 ((p1).toNatClampNeg) 17, 0)
                    else
                      if p2 = 9 then
                        (S1, cT S1 ((p1).toNatClampNeg) 18, 0)
                      else
                        (S1, 0, 2)
def F_X2_queued (S : Cs) (p1 : Int32) (p2 : Int32) : Cs × Int32 × Nat :=
  let S1 : Cs := (F_X2_isLevel S p1).1
  if ((F_X2_isLevel S p1).2) = 0 then
    (S1, 0, 1)
  else
    let S2 : Cs := (F_X0_at S1 ((p1).toNatClampNeg) p2).1
    (S2, (F_X0_at S1 ((p1).toNatClampNeg) p2).2, 0)
def F_X2_all (S : Cs) (p1 : Int32) : Cs × Int32 × Nat :=
  if p1 = 0 then
    (S, cO S 8, 0)
  else
    if p1 = 1 then
      (S, cO S 9, 0)
    else
      if p1 = 2 then
        (S, cO S 10, 0)
      else
        if p1 = 3 then
          (S, cO S 11, 0)
        else
          (S, 0, 2)
def F_X2_switched (S : Cs) (p1 : Int32) : Cs × Int32 × Nat :=
  if p1 < 0 then
    (S, 0, 1)
  else
    if (cO S 8) ≤ p1 then
      (S, 0, 1)
    else
      if p1 < 400 then
        (S, cW S ((p1).toNatClampNeg), 0)
      else
        (S, 0, 1)
