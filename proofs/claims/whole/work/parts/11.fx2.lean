def F_X2_isLevel (S : Cs) (p1 : Int32) : Cs × Int32 :=
  if p1 < 0 then
    (S, 0)
  else
    if (cO S 3) ≤ p1 then
      (S, 0)
    else
      (S, 1)
def F_X2_isTask (S : Cs) (p1 : Int32) : Cs × Int32 :=
  if p1 < 0 then
    (S, 0)
  else
    if (cO S 4) ≤ p1 then
      (S, 0)
    else
      (S, 1)
def F_X2_endTask (S : Cs) (u : Nat) (p2 : Int32) : Cs :=
  let S1 : Cs := sT S u 4 4
  let S2 : Cs := sT S1 u 15 p2
  let S3 : Cs := sO S2 11 ((cO S2 11) + 1)
  S3
def F_X2_standAtEnd (S : Cs) (u : Nat) : Cs :=
  let S1 : Cs := sT S u 4 1
  let S2 : Cs := F_X0_addLast S1 (((cT S1 u 5)).toNatClampNeg) (cT S1 u 0)
  S2
def F_X2_goOnOrEnd (S : Cs) (u : Nat) : Cs :=
  let S1 : Cs := (F_X1_beginBurst S u).1
  if ((F_X1_beginBurst S u).2) = 0 then
    let S2 : Cs := F_X2_endTask S1 u (cO S1 6)
    S2
  else
    let S3 : Cs := F_X2_standAtEnd S1 u
    S3
def F_X2_blockOrEnd (S : Cs) (u : Nat) : Cs :=
  let S1 : Cs := (F_X1_beginBurst S u).1
  if ((F_X1_beginBurst S u).2) = 0 then
    let S2 : Cs := F_X2_endTask S1 u ((cO S1 6) + 1)
    S2
  else
    let S3 : Cs := sT S1 u 4 3
    S3
def F_X2_sendDown (S : Cs) (u : Nat) : Cs :=
  if ((cO S 3) - 1) ≤ (cT S u 5) then
    let S1 : Cs := sT S u 9 (cL S (((cT S u 5)).toNatClampNeg) 1)
    let S2 : Cs := F_X2_standAtEnd S1 u
    S2
  else
    let S3 : Cs := sT S u 5 ((cT S u 5) + 1)
    let S4 : Cs := sT S3 u 17 ((cT S3 u 17) + 1)
    let S5 : Cs := sT S4 u 9 (cL S4 (((cT S4 u 5)).toNatClampNeg) 1)
    let S6 : Cs := F_X2_standAtEnd S5 u
    S6
def F_X2_useTick (S : Cs) (u : Nat) : Cs :=
  let S1 : Cs := sT S u 11 ((cT S u 11) + 1)
  let S2 : Cs := sT S1 u 7 ((cT S1 u 7) - 1)
  let S3 : Cs := sT S2 u 8 ((cT S2 u 8) - 1)
  let S4 : Cs := sT S3 u 9 ((cT S3 u 9) - 1)
  if (cT S4 u 7) = 0 then
    let S9 : Cs := F_X2_blockOrEnd S4 u
    let S10 : Cs := sN S9 none
    S10
  else
    if 0 < (cT S4 u 9) then
      if (cT S4 u 8) = 0 then
        let S5 : Cs := F_X2_standAtEnd S4 u
        let S6 : Cs := sN S5 none
        S6
      else
        S4
    else
      let S7 : Cs := F_X2_sendDown S4 u
      let S8 : Cs := sN S7 none
      S8
def L_X2_isOneReadyAbove_2 (p1 : Int32) : Nat → Nat → Cs → Cs × Int32
  | 0, t, Z =>
    (Z, 0)
  | n + 1, t, Z =>
    if (cL Z t 3) ≤ 0 then
      L_X2_isOneReadyAbove_2 p1 n (t + 1) Z
    else
      (Z, 1)
def F_X2_isOneReadyAbove (S : Cs) (p1 : Int32) : Cs × Int32 :=
  L_X2_isOneReadyAbove_2 p1 ((p1).toNatClampNeg) 0 S
def B_X2_countWaiting_2   (t : Nat) (Z : Cs) : Cs :=
  if (cT Z t 4) = 1 then
    let S3 : Cs := sT Z t 12 ((cT Z t 12) + 1)
    S3
  else
    if (cT Z t 4) = 3 then
      let S1 : Cs := sT Z t 13 ((cT Z t 13) + 1)
      let S2 : Cs := sT S1 t 7 ((cT S1 t 7) - 1)
      S2
    else
      Z
def F_X2_countWaiting (S : Cs)  : Cs :=
  let S4 : Cs := itr B_X2_countWaiting_2 ((cO S 4).toNatClampNeg) 0 S
  S4
def B_X2_letArrive_2   (t : Nat) (Z : Cs) : Cs :=
  if (cT Z t 4) = 0 then
    if (cT Z t 1) = (cO Z 6) then
      let S1 : Cs := sT Z t 9 (cL Z 0 1)
      let S2 : Cs := F_X2_goOnOrEnd S1 t
      S2
    else
      Z
  else
    Z
def F_X2_letArrive (S : Cs)  : Cs :=
  let S3 : Cs := itr B_X2_letArrive_2 ((cO S 4).toNatClampNeg) 0 S
  S3
def B_X2_letComeBack_2   (t : Nat) (Z : Cs) : Cs :=
  if (cT Z t 4) = 3 then
    if (cT Z t 7) = 0 then
      let S1 : Cs := F_X2_goOnOrEnd Z t
      S1
    else
      Z
  else
    Z
def F_X2_letComeBack (S : Cs)  : Cs :=
  let S2 : Cs := itr B_X2_letComeBack_2 ((cO S 4).toNatClampNeg) 0 S
  S2
def B_X2_bringAllUp_19   (t : Nat) (Z : Cs) : Cs :=
  if (cT Z t 4) = 0 then
    Z
  else
    if (cT Z t 4) = 4 then
      Z
    else
      let S2 : Cs := F_X1_comeUp Z t (cL Z 0 0) (cL Z 0 1)
      S2
def B_X2_bringAllUp_77   (t : Nat) (Z : Cs) : Cs :=
  let S4 : Cs := F_X0_addAllOf Z 0 t
  let S5 : Cs := F_X0_clear S4 t
  S5
def F_X2_bringAllUp (S : Cs)  : Cs :=
  let S1 : Cs := sO S 10 ((cO S 10) + 1)
  let S3 : Cs := itr B_X2_bringAllUp_19 ((cO S1 4).toNatClampNeg) 0 S1
  let S6 : Cs := itr B_X2_bringAllUp_77 ((cO S3 3).toNatClampNeg - 1) 1 S3
  S6
def F_X2_makeWay (S : Cs)  : Cs :=
  if cN S = none then
    S
  else
    let S1 : Cs := (F_X2_isOneReadyAbove S (cT S (cI S) 5)).1
    if ((F_X2_isOneReadyAbove S (cT S (cI S) 5)).2) = 0 then
      S1
    else
      let S2 : Cs := sT S1 (cI S1) 4 1
      let S3 : Cs := sT S2 (cI S2) 10 1
      let S4 : Cs := sT S3 (cI S3) 18 ((cT S3 (cI S3) 18) + 1)
      let S5 : Cs := F_X0_addFirst S4 (((cT S4 (cI S4) 5)).toNatClampNeg) (cT S4 (cI S4) 0)
      let S6 : Cs := sN S5 none
      S6
def F_X2_switchTo (S : Cs) (u : Nat) : Cs :=
  let S1 : Cs := F_X1_beginRunning S u (cO S 6) (cL S (((cT S u 5)).toNatClampNeg) 0)
  if 400 ≤ (cO S1 8) then
    let S2 : Cs := sO S1 8 ((cO S1 8) + 1)
    let S3 : Cs := sN S2 (some u)
    S3
  else
    let S4 : Cs := sW S1 (((cO S1 8)).toNatClampNeg) ((16 * (cO S1 6)) + (cT S1 u 0))
    let S5 : Cs := sO S4 8 ((cO S4 8) + 1)
    let S6 : Cs := sN S5 (some u)
    S6
def L_X2_switchToFirst_2  : Nat → Nat → Cs → Cs
  | 0, t, Z =>
    Z
  | n + 1, t, Z =>
    let S1 : Cs := (F_X0_takeFirst Z t).1
    let S2 : Cs := (F_X2_isTask S1 ((F_X0_takeFirst Z t).2)).1
    if ((F_X2_isTask S1 ((F_X0_takeFirst Z t).2)).2) = 0 then
      L_X2_switchToFirst_2 n (t + 1) S2
    else
      let S3 : Cs := F_X2_switchTo S2 ((((F_X0_takeFirst Z t).2)).toNatClampNeg)
      S3
def F_X2_switchToFirst (S : Cs)  : Cs :=
  L_X2_switchToFirst_2 ((cO S 3).toNatClampNeg) 0 S
def G_X2_doTick_30 (Y : Cs)  : Cs :=
  let S1 : Cs := F_X2_letArrive Y
  let S2 : Cs := F_X2_letComeBack S1
  let S3 : Cs := F_X2_makeWay S2
  if cN S3 = none then
    let S4 : Cs := F_X2_switchToFirst S3
    let S5 : Cs := F_X2_countWaiting S4
    if cN S5 = none then
      let S6 : Cs := sO S5 9 ((cO S5 9) + 1)
      let S7 : Cs := sO S6 6 ((cO S6 6) + 1)
      S7
    else
      let S8 : Cs := F_X2_useTick S5 (cI S5)
      let S9 : Cs := sO S8 6 ((cO S8 6) + 1)
      S9
  else
    let S10 : Cs := F_X2_countWaiting S3
    if cN S10 = none then
      let S11 : Cs := sO S10 9 ((cO S10 9) + 1)
      let S12 : Cs := sO S11 6 ((cO S11 6) + 1)
      S12
    else
      let S13 : Cs := F_X2_useTick S10 (cI S10)
      let S14 : Cs := sO S13 6 ((cO S13 6) + 1)
      S14
def F_X2_doTick (S : Cs)  : Cs :=
  if (cO S 5) = 0 then
    G_X2_doTick_30 S 
  else
    if (cO S 6) ≤ 0 then
      G_X2_doTick_30 S 
    else
      if ((cO S 6) - (cO S 6) / (cO S 5) * (cO S 5)) = 0 then
        let S15 : Cs := F_X2_bringAllUp S
        G_X2_doTick_30 S15 
      else
        G_X2_doTick_30 S 
def B_X2_startOver_32   (t : Nat) (Z : Cs) : Cs :=
  let S7 : Cs := F_X0_clear Z t
  S7
def B_X2_startOver_55   (t : Nat) (Z : Cs) : Cs :=
  let S9 : Cs := F_X1_startOver Z t
  S9
def F_X2_startOver (S : Cs)  : Cs :=
  let S1 : Cs := sO S 6 0
  let S2 : Cs := sN S1 none
  let S3 : Cs := sO S2 8 0
  let S4 : Cs := sO S3 9 0
  let S5 : Cs := sO S4 10 0
  let S6 : Cs := sO S5 11 0
  let S8 : Cs := itr B_X2_startOver_32 6 0 S6
  let S10 : Cs := itr B_X2_startOver_55 16 0 S8
  S10
