/-! the reference: the same -/
def f_X11_in (S : xS) (p0 : Int64) (p1 : Int64) (p2 : Int64) : Int32 :=
  if (lg_cmp p0 p1) < 0 then
    0
  else
    if 0 < (lg_cmp p0 p2) then
      0
    else
      1
def f_X11_has (S : xS) (p0 : Int32) (p1 : Int32) : Int32 :=
  if ((p0 >>> (p1 &&& 31)) &&& 1) = 1 then
    1
  else
    0
def f_X11_ones_L4 : Nat → xS → Int32 → Int32 → Int32 → (Int32)
  | 0, S, x0_4, x1_4, x2_4 => (x1_4)
  | n + 1, S, x0_4, x1_4, x2_4 =>
    if 7 ≤ x2_4 then
      x1_4
    else
      f_X11_ones_L4 n S x0_4 (x1_4 + ((x0_4 >>> (x2_4 &&& 31)) &&& 1)) (x2_4 + 1)
def s_X11_ones_L4 : Nat → xS → Int32 → Int32 → Int32 → Prop
  | 0, _, _, _, _ => False
  | n + 1, S, x0_4, x1_4, x2_4 =>
    (7 ≤ x2_4 →
      True) ∧ (¬ (7 ≤ x2_4) →
      s_X11_ones_L4 n S x0_4 (x1_4 + ((x0_4 >>> (x2_4 &&& 31)) &&& 1)) (x2_4 + 1))
def f_X11_ones (S : xS) (p0 : Int32) : Int32 :=
  let q_4 := f_X11_ones_L4 (fu 0 7) S p0 0 0
  q_4
def s_X11_ones (S : xS) (p0 : Int32) : Prop :=
  (s_X11_ones_L4 (fu 0 7) S p0 0 0) ∧ (
    let q_4 := f_X11_ones_L4 (fu 0 7) S p0 0 0
    True)
def f_X11_isRoom (S : xS) (p0 : Int32) : Int32 :=
  let r_1 := f_X11_in S (p0 : Int32).toInt64 0 (((S 127 0) - 1) : Int32).toInt64
  r_1
def f_X11_isPerson (S : xS) (p0 : Int32) : Int32 :=
  let r_1 := f_X11_in S (p0 : Int32).toInt64 0 (((S 127 6) - 1) : Int32).toInt64
  r_1
def f_X11_areTwo (S : xS) (p0 : Int32) (p1 : Int32) : Int32 :=
  let r_1 := f_X11_isPerson S p0
  if r_1 = 0 then
    0
  else
    let r_3 := f_X11_isPerson S p1
    if r_3 = 0 then
      0
    else
      if p0 = p1 then
        0
      else
        1
def f_X11_feed (S : xS) (p0 : Int32) : (Int32 × xS) :=
  let r_1 := f_X11_in S (p0 : Int32).toInt64 0 255
  if r_1 = 0 then
    ((-1000000002), S)
  else
    if (S 127 19) = 240 then
      ((-1000000004), S)
    else
      let S_5 := xu S 138 ((S 127 19)).toNatClampNeg p0
      let S_6 := xu S_5 127 19 ((S_5 127 19) + 1)
      ((S_6 127 19), S_6)
def s_X11_feed (S : xS) (p0 : Int32) : Prop :=
  let r_1 := f_X11_in S (p0 : Int32).toInt64 0 255
  (r_1 = 0 →
    True) ∧ (¬ (r_1 = 0) →
    ((S 127 19) = 240 →
      True) ∧ (¬ ((S 127 19) = 240) →
      (vp_in (S 127 19) 240) ∧ (
        True)))
def f_X11_here_L0 : Nat → xS → (xS)
  | 0, T_0 => (T_0)
  | n + 1, T_0 =>
    if (T_0 127 19) ≤ (T_0 127 21) then
      T_0
    else
      if (T_0 138 ((T_0 127 21)).toNatClampNeg) = 32 then
        let S_6 := xu T_0 127 21 ((T_0 127 21) + 1)
        f_X11_here_L0 n S_6
      else
        T_0
def s_X11_here_L0 : Nat → xS → Prop
  | 0, _ => False
  | n + 1, T_0 =>
    ((T_0 127 19) ≤ (T_0 127 21) →
      True) ∧ (¬ ((T_0 127 19) ≤ (T_0 127 21)) →
      (vp_in (T_0 127 21) 240) ∧ (
        ((T_0 138 ((T_0 127 21)).toNatClampNeg) = 32 →
          let S_6 := xu T_0 127 21 ((T_0 127 21) + 1)
          s_X11_here_L0 n S_6) ∧ (¬ ((T_0 138 ((T_0 127 21)).toNatClampNeg) = 32) →
          True)))
def f_X11_here (S : xS) : (Int32 × xS) :=
  let q_0 := f_X11_here_L0 (fu (S 127 21) (S 127 19)) S
  if (q_0 127 19) ≤ (q_0 127 21) then
    ((-1), q_0)
  else
    ((q_0 138 ((q_0 127 21)).toNatClampNeg), q_0)
def s_X11_here (S : xS) : Prop :=
  (s_X11_here_L0 (fu (S 127 21) (S 127 19)) S) ∧ (
    let q_0 := f_X11_here_L0 (fu (S 127 21) (S 127 19)) S
    ((q_0 127 19) ≤ (q_0 127 21) →
      True) ∧ (¬ ((q_0 127 19) ≤ (q_0 127 21)) →
      (vp_in (q_0 127 21) 240) ∧ (
        True)))
def f_X11_fails (S : xS) (p0 : Int32) (p1 : Int32) : (Int32 × xS) :=
  let S_1 := xu S 127 20 p1
  (p0, S_1)
def f_X11_takeNumber_L42 : Nat → xS → Int32 → Int32 → (xS)
  | 0, T_42, x1_42, x2_42 => (T_42)
  | n + 1, T_42, x1_42, x2_42 =>
    if (T_42 127 19) ≤ (T_42 127 21) then
      T_42
    else
      let r_12 := f_X11_in T_42 ((T_42 138 ((T_42 127 21)).toNatClampNeg) : Int32).toInt64 48 57
      if r_12 = 0 then
        T_42
      else
        if (T_42 127 22) ≤ 10000 then
          let S_16 := xu T_42 127 22 (((10 * (T_42 127 22)) + (T_42 138 ((T_42 127 21)).toNatClampNeg)) - 48)
          let S_17 := xu S_16 127 21 ((S_16 127 21) + 1)
          f_X11_takeNumber_L42 n S_17 x1_42 x2_42
        else
          let S_19 := xu T_42 127 22 (T_42 127 22)
          let S_20 := xu S_19 127 21 ((S_19 127 21) + 1)
          f_X11_takeNumber_L42 n S_20 x1_42 x2_42
def s_X11_takeNumber_L42 : Nat → xS → Int32 → Int32 → Prop
  | 0, _, _, _ => False
  | n + 1, T_42, x1_42, x2_42 =>
    ((T_42 127 19) ≤ (T_42 127 21) →
      True) ∧ (¬ ((T_42 127 19) ≤ (T_42 127 21)) →
      (vp_in (T_42 127 21) 240) ∧ (
        let r_12 := f_X11_in T_42 ((T_42 138 ((T_42 127 21)).toNatClampNeg) : Int32).toInt64 48 57
        (r_12 = 0 →
          True) ∧ (¬ (r_12 = 0) →
          ((T_42 127 22) ≤ 10000 →
            let S_16 := xu T_42 127 22 (((10 * (T_42 127 22)) + (T_42 138 ((T_42 127 21)).toNatClampNeg)) - 48)
            let S_17 := xu S_16 127 21 ((S_16 127 21) + 1)
            s_X11_takeNumber_L42 n S_17 x1_42 x2_42) ∧ (¬ ((T_42 127 22) ≤ 10000) →
            let S_19 := xu T_42 127 22 (T_42 127 22)
            let S_20 := xu S_19 127 21 ((S_19 127 21) + 1)
            s_X11_takeNumber_L42 n S_20 x1_42 x2_42))))
def f_X11_takeNumber (S : xS) (p0 : Int32) (p1 : Int32) : (Int32 × xS) :=
  let q_4 := f_X11_here S
  let r_2 := q_4.1
  let S_3 := q_4.2
  let r_5 := f_X11_in S_3 (r_2 : Int32).toInt64 48 57
  if r_5 = 0 then
    let q_33 := f_X11_fails S_3 1 (S_3 127 21)
    let r_31 := q_33.1
    let S_32 := q_33.2
    (r_31, S_32)
  else
    let S_7 := xu S_3 127 23 (S_3 127 21)
    let S_8 := xu S_7 127 22 0
    let q_42 := f_X11_takeNumber_L42 (fu (S_8 127 21) (S_8 127 19)) S_8 p0 p1
    if 3 < ((q_42 127 21) - (q_42 127 23)) then
      let q_25 := f_X11_fails q_42 2 (q_42 127 23)
      let r_23 := q_25.1
      let S_24 := q_25.2
      (r_23, S_24)
    else
      let r_26 := f_X11_in q_42 ((q_42 127 22) : Int32).toInt64 (p0 : Int32).toInt64 (p1 : Int32).toInt64
      if r_26 = 0 then
        let q_30 := f_X11_fails q_42 2 (q_42 127 23)
        let r_28 := q_30.1
        let S_29 := q_30.2
        (r_28, S_29)
      else
        (0, q_42)
def s_X11_takeNumber (S : xS) (p0 : Int32) (p1 : Int32) : Prop :=
  (s_X11_here S) ∧ (
    let q_4 := f_X11_here S
    let r_2 := q_4.1
    let S_3 := q_4.2
    let r_5 := f_X11_in S_3 (r_2 : Int32).toInt64 48 57
    (r_5 = 0 →
      True) ∧ (¬ (r_5 = 0) →
      let S_7 := xu S_3 127 23 (S_3 127 21)
      let S_8 := xu S_7 127 22 0
      (s_X11_takeNumber_L42 (fu (S_8 127 21) (S_8 127 19)) S_8 p0 p1) ∧ (
        let q_42 := f_X11_takeNumber_L42 (fu (S_8 127 21) (S_8 127 19)) S_8 p0 p1
        True)))
def f_X11_takeRooms (S : xS) : (Int32 × xS) :=
  let q_4 := f_X11_takeNumber S 2 6
  let r_2 := q_4.1
  let S_3 := q_4.2
  if r_2 ≤ 0 then
    let q_9 := f_X11_takeNumber S_3 0 ((1 <<< ((S_3 127 22) &&& 31)) - 1)
    let r_7 := q_9.1
    let S_8 := q_9.2
    let S_10 := xu S_8 127 24 (S_3 127 22)
    let S_11 := xu S_10 127 25 (S_10 127 22)
    (r_7, S_11)
  else
    (r_2, S_3)
def s_X11_takeRooms (S : xS) : Prop :=
  (s_X11_takeNumber S 2 6) ∧ (
    let q_4 := f_X11_takeNumber S 2 6
    let r_2 := q_4.1
    let S_3 := q_4.2
    (r_2 ≤ 0 →
      (s_X11_takeNumber S_3 0 ((1 <<< ((S_3 127 22) &&& 31)) - 1)) ∧ (
        True)) ∧ (¬ (r_2 ≤ 0) →
      True))
def f_X11_takePair (S : xS) (k0 : Nat) : (Int32 × xS) :=
  let q_4 := f_X11_takeNumber S 0 ((S 127 24) - 1)
  let r_2 := q_4.1
  let S_3 := q_4.2
  if r_2 ≤ 0 then
    let S_6 := xu S_3 127 35 (S_3 127 22)
    let q_10 := f_X11_takeNumber S_6 0 ((S_6 127 24) - 1)
    let r_8 := q_10.1
    let S_9 := q_10.2
    if r_8 ≤ 0 then
      if (S_9 127 22) = (S_9 127 35) then
        let q_15 := f_X11_fails S_9 4 (S_9 127 23)
        let r_13 := q_15.1
        let S_14 := q_15.2
        (r_13, S_14)
      else
        let r_17 := f_X11_has S_9 (S_9 k0 ((S_9 127 35)).toNatClampNeg) (S_9 127 22)
        if r_17 = 0 then
          (0, S_9)
        else
          let q_21 := f_X11_fails S_9 4 (S_9 127 23)
          let r_19 := q_21.1
          let S_20 := q_21.2
          (r_19, S_20)
    else
      (r_8, S_9)
  else
    (r_2, S_3)
def s_X11_takePair (S : xS) (k0 : Nat) : Prop :=
  (s_X11_takeNumber S 0 ((S 127 24) - 1)) ∧ (
    let q_4 := f_X11_takeNumber S 0 ((S 127 24) - 1)
    let r_2 := q_4.1
    let S_3 := q_4.2
    (r_2 ≤ 0 →
      let S_6 := xu S_3 127 35 (S_3 127 22)
      (s_X11_takeNumber S_6 0 ((S_6 127 24) - 1)) ∧ (
        let q_10 := f_X11_takeNumber S_6 0 ((S_6 127 24) - 1)
        let r_8 := q_10.1
        let S_9 := q_10.2
        (r_8 ≤ 0 →
          ((S_9 127 22) = (S_9 127 35) →
            True) ∧ (¬ ((S_9 127 22) = (S_9 127 35)) →
            (vp_in (S_9 127 35) (xlen k0)) ∧ (
              True))) ∧ (¬ (r_8 ≤ 0) →
          True))) ∧ (¬ (r_2 ≤ 0) →
      True))
def f_X11_takeBench (S : xS) : (Int32 × xS) :=
  let q_4 := f_X11_takePair S 139
  let r_2 := q_4.1
  let S_3 := q_4.2
  if r_2 = 0 then
    let S_7 := xu S_3 139 ((S_3 127 35)).toNatClampNeg ((S_3 139 ((S_3 127 35)).toNatClampNeg) ||| (1 <<< ((S_3 127 22) &&& 31)))
    let S_8 := xu S_7 127 26 ((S_7 127 26) + 1)
    (r_2, S_8)
  else
    (r_2, S_3)
def s_X11_takeBench (S : xS) : Prop :=
  (s_X11_takePair S 139) ∧ (
    let q_4 := f_X11_takePair S 139
    let r_2 := q_4.1
    let S_3 := q_4.2
    (r_2 = 0 →
      (vp_in (S_3 127 35) 6) ∧ (
        True)) ∧ (¬ (r_2 = 0) →
      True))
def f_X11_takeWay (S : xS) : (Int32 × xS) :=
  let q_4 := f_X11_takePair S 140
  let r_2 := q_4.1
  let S_3 := q_4.2
  if r_2 = 0 then
    let S_7 := xu S_3 140 ((S_3 127 35)).toNatClampNeg ((S_3 140 ((S_3 127 35)).toNatClampNeg) ||| (1 <<< ((S_3 127 22) &&& 31)))
    let S_9 := xu S_7 140 ((S_7 127 22)).toNatClampNeg ((S_7 140 ((S_7 127 22)).toNatClampNeg) ||| (1 <<< ((S_7 127 35) &&& 31)))
    let S_10 := xu S_9 127 27 ((S_9 127 27) + 1)
    (r_2, S_10)
  else
    (r_2, S_3)
def s_X11_takeWay (S : xS) : Prop :=
  (s_X11_takePair S 140) ∧ (
    let q_4 := f_X11_takePair S 140
    let r_2 := q_4.1
    let S_3 := q_4.2
    (r_2 = 0 →
      (vp_in (S_3 127 35) 6) ∧ (
        let S_7 := xu S_3 140 ((S_3 127 35)).toNatClampNeg ((S_3 140 ((S_3 127 35)).toNatClampNeg) ||| (1 <<< ((S_3 127 22) &&& 31)))
        (vp_in (S_7 127 22) 6) ∧ (
          True))) ∧ (¬ (r_2 = 0) →
      True))
def f_X11_takePerson (S : xS) : (Int32 × xS) :=
  let q_4 := f_X11_takeNumber S 0 3
  let r_2 := q_4.1
  let S_3 := q_4.2
  if r_2 ≤ 0 then
    let S_7 := xu S_3 141 ((S_3 127 30)).toNatClampNeg (S_3 127 22)
    let q_11 := f_X11_takeNumber S_7 0 ((S_7 127 24) - 1)
    let r_9 := q_11.1
    let S_10 := q_11.2
    let S_13 := xu S_10 142 ((S_10 127 30)).toNatClampNeg (S_10 127 22)
    let S_14 := xu S_13 127 30 ((S_13 127 30) + 1)
    (r_9, S_14)
  else
    (r_2, S_3)
def s_X11_takePerson (S : xS) : Prop :=
  (s_X11_takeNumber S 0 3) ∧ (
    let q_4 := f_X11_takeNumber S 0 3
    let r_2 := q_4.1
    let S_3 := q_4.2
    (r_2 ≤ 0 →
      (vp_in (S_3 127 30) 7) ∧ (
        let S_7 := xu S_3 141 ((S_3 127 30)).toNatClampNeg (S_3 127 22)
        (s_X11_takeNumber S_7 0 ((S_7 127 24) - 1)) ∧ (
          let q_11 := f_X11_takeNumber S_7 0 ((S_7 127 24) - 1)
          let r_9 := q_11.1
          let S_10 := q_11.2
          (vp_in (S_10 127 30) 7) ∧ (
            True)))) ∧ (¬ (r_2 ≤ 0) →
      True))
def f_X11_takeLiking (S : xS) : (Int32 × xS) :=
  let q_4 := f_X11_takeNumber S 0 ((S 127 30) - 1)
  let r_2 := q_4.1
  let S_3 := q_4.2
  if r_2 ≤ 0 then
    let q_9 := f_X11_takeNumber S_3 0 ((S_3 127 30) - 1)
    let r_7 := q_9.1
    let S_8 := q_9.2
    if r_7 ≤ 0 then
      if (S_3 127 22) = (S_8 127 22) then
        let q_21 := f_X11_fails S_8 4 (S_8 127 23)
        let r_19 := q_21.1
        let S_20 := q_21.2
        (r_19, S_20)
      else
        let q_15 := f_X11_takeNumber S_8 0 9
        let r_13 := q_15.1
        let S_14 := q_15.2
        let S_17 := xu S_14 143 (((7 * (S_3 127 22)) + (S_8 127 22))).toNatClampNeg (S_14 127 22)
        let S_18 := xu S_17 127 33 ((S_17 127 33) + 1)
        (r_13, S_18)
    else
      (r_7, S_8)
  else
    (r_2, S_3)
def s_X11_takeLiking (S : xS) : Prop :=
  (s_X11_takeNumber S 0 ((S 127 30) - 1)) ∧ (
    let q_4 := f_X11_takeNumber S 0 ((S 127 30) - 1)
    let r_2 := q_4.1
    let S_3 := q_4.2
    (r_2 ≤ 0 →
      (s_X11_takeNumber S_3 0 ((S_3 127 30) - 1)) ∧ (
        let q_9 := f_X11_takeNumber S_3 0 ((S_3 127 30) - 1)
        let r_7 := q_9.1
        let S_8 := q_9.2
        (r_7 ≤ 0 →
          ((S_3 127 22) = (S_8 127 22) →
            True) ∧ (¬ ((S_3 127 22) = (S_8 127 22)) →
            (s_X11_takeNumber S_8 0 9) ∧ (
              let q_15 := f_X11_takeNumber S_8 0 9
              let r_13 := q_15.1
              let S_14 := q_15.2
              (vp_in ((7 * (S_3 127 22)) + (S_8 127 22)) 49) ∧ (
                True)))) ∧ (¬ (r_7 ≤ 0) →
          True))) ∧ (¬ (r_2 ≤ 0) →
      True))
def f_X11_isFull (S : xS) (p0 : Int32) : Int32 :=
  if p0 = 0 then
    if (S 127 24) ≤ 0 then
      0
    else
      1
  else
    if p0 = 1 then
      if (S 127 26) = 9 then
        1
      else
        0
    else
      if p0 = 2 then
        if (S 127 27) = 9 then
          1
        else
          0
      else
        if p0 = 3 then
          if (S 127 30) = 7 then
            1
          else
            0
        else
          if (S 127 33) = 20 then
            1
          else
            0
def f_X11_takeBody (S : xS) (p0 : Int32) : (Int32 × xS) :=
  if p0 = 0 then
    let q_24 := f_X11_takeRooms S
    let r_22 := q_24.1
    let S_23 := q_24.2
    (r_22, S_23)
  else
    if p0 = 1 then
      let q_20 := f_X11_takeBench S
      let r_18 := q_20.1
      let S_19 := q_20.2
      (r_18, S_19)
    else
      if p0 = 2 then
        let q_16 := f_X11_takeWay S
        let r_14 := q_16.1
        let S_15 := q_16.2
        (r_14, S_15)
      else
        if p0 = 3 then
          let q_12 := f_X11_takePerson S
          let r_10 := q_12.1
          let S_11 := q_12.2
          (r_10, S_11)
        else
          let q_8 := f_X11_takeLiking S
          let r_6 := q_8.1
          let S_7 := q_8.2
          (r_6, S_7)
def s_X11_takeBody (S : xS) (p0 : Int32) : Prop :=
  (p0 = 0 →
    (s_X11_takeRooms S) ∧ (
      True)) ∧ (¬ (p0 = 0) →
    (p0 = 1 →
      (s_X11_takeBench S) ∧ (
        True)) ∧ (¬ (p0 = 1) →
      (p0 = 2 →
        (s_X11_takeWay S) ∧ (
          True)) ∧ (¬ (p0 = 2) →
        (p0 = 3 →
          (s_X11_takePerson S) ∧ (
            True)) ∧ (¬ (p0 = 3) →
          (s_X11_takeLiking S) ∧ (
            True)))))
def f_X11_takeClause (S : xS) : (Int32 × xS) :=
  let q_4 := f_X11_here S
  let r_2 := q_4.1
  let S_3 := q_4.2
  if r_2 = 114 then
    let r_109 := f_X11_isFull S_3 0
    if r_109 = 0 then
      let S_111 := xu S_3 127 21 ((S_3 127 21) + 1)
      let q_115 := f_X11_takeBody S_111 0
      let r_113 := q_115.1
      let S_114 := q_115.2
      if r_113 ≤ 0 then
        let q_120 := f_X11_here S_114
        let r_118 := q_120.1
        let S_119 := q_120.2
        if r_118 = 59 then
          let S_122 := xu S_119 127 21 ((S_119 127 21) + 1)
          (0, S_122)
        else
          let q_125 := f_X11_fails S_119 1 (S_119 127 21)
          let r_123 := q_125.1
          let S_124 := q_125.2
          (r_123, S_124)
      else
        (r_113, S_114)
    else
      let q_128 := f_X11_fails S_3 3 (S_3 127 21)
      let r_126 := q_128.1
      let S_127 := q_128.2
      (r_126, S_127)
  else
    if r_2 = 98 then
      if (S_3 127 24) = 0 then
        let q_108 := f_X11_fails S_3 1 (S_3 127 21)
        let r_106 := q_108.1
        let S_107 := q_108.2
        (r_106, S_107)
      else
        let r_86 := f_X11_isFull S_3 1
        if r_86 = 0 then
          let S_88 := xu S_3 127 21 ((S_3 127 21) + 1)
          let q_92 := f_X11_takeBody S_88 1
          let r_90 := q_92.1
          let S_91 := q_92.2
          if r_90 ≤ 0 then
            let q_97 := f_X11_here S_91
            let r_95 := q_97.1
            let S_96 := q_97.2
            if r_95 = 59 then
              let S_99 := xu S_96 127 21 ((S_96 127 21) + 1)
              (0, S_99)
            else
              let q_102 := f_X11_fails S_96 1 (S_96 127 21)
              let r_100 := q_102.1
              let S_101 := q_102.2
              (r_100, S_101)
          else
            (r_90, S_91)
        else
          let q_105 := f_X11_fails S_3 3 (S_3 127 21)
          let r_103 := q_105.1
          let S_104 := q_105.2
          (r_103, S_104)
    else
      if r_2 = 103 then
        if (S_3 127 24) = 0 then
          let q_84 := f_X11_fails S_3 1 (S_3 127 21)
          let r_82 := q_84.1
          let S_83 := q_84.2
          (r_82, S_83)
        else
          let r_62 := f_X11_isFull S_3 2
          if r_62 = 0 then
            let S_64 := xu S_3 127 21 ((S_3 127 21) + 1)
            let q_68 := f_X11_takeBody S_64 2
            let r_66 := q_68.1
            let S_67 := q_68.2
            if r_66 ≤ 0 then
              let q_73 := f_X11_here S_67
              let r_71 := q_73.1
              let S_72 := q_73.2
              if r_71 = 59 then
                let S_75 := xu S_72 127 21 ((S_72 127 21) + 1)
                (0, S_75)
              else
                let q_78 := f_X11_fails S_72 1 (S_72 127 21)
                let r_76 := q_78.1
                let S_77 := q_78.2
                (r_76, S_77)
            else
              (r_66, S_67)
          else
            let q_81 := f_X11_fails S_3 3 (S_3 127 21)
            let r_79 := q_81.1
            let S_80 := q_81.2
            (r_79, S_80)
      else
        if r_2 = 112 then
          if (S_3 127 24) = 0 then
            let q_60 := f_X11_fails S_3 1 (S_3 127 21)
            let r_58 := q_60.1
            let S_59 := q_60.2
            (r_58, S_59)
          else
            let r_38 := f_X11_isFull S_3 3
            if r_38 = 0 then
              let S_40 := xu S_3 127 21 ((S_3 127 21) + 1)
              let q_44 := f_X11_takeBody S_40 3
              let r_42 := q_44.1
              let S_43 := q_44.2
              if r_42 ≤ 0 then
                let q_49 := f_X11_here S_43
                let r_47 := q_49.1
                let S_48 := q_49.2
                if r_47 = 59 then
                  let S_51 := xu S_48 127 21 ((S_48 127 21) + 1)
                  (0, S_51)
                else
                  let q_54 := f_X11_fails S_48 1 (S_48 127 21)
                  let r_52 := q_54.1
                  let S_53 := q_54.2
                  (r_52, S_53)
              else
                (r_42, S_43)
            else
              let q_57 := f_X11_fails S_3 3 (S_3 127 21)
              let r_55 := q_57.1
              let S_56 := q_57.2
              (r_55, S_56)
        else
          if r_2 = 108 then
            if (S_3 127 24) = 0 then
              let q_36 := f_X11_fails S_3 1 (S_3 127 21)
              let r_34 := q_36.1
              let S_35 := q_36.2
              (r_34, S_35)
            else
              let r_14 := f_X11_isFull S_3 4
              if r_14 = 0 then
                let S_16 := xu S_3 127 21 ((S_3 127 21) + 1)
                let q_20 := f_X11_takeBody S_16 4
                let r_18 := q_20.1
                let S_19 := q_20.2
                if r_18 ≤ 0 then
                  let q_25 := f_X11_here S_19
                  let r_23 := q_25.1
                  let S_24 := q_25.2
                  if r_23 = 59 then
                    let S_27 := xu S_24 127 21 ((S_24 127 21) + 1)
                    (0, S_27)
                  else
                    let q_30 := f_X11_fails S_24 1 (S_24 127 21)
                    let r_28 := q_30.1
                    let S_29 := q_30.2
                    (r_28, S_29)
                else
                  (r_18, S_19)
              else
                let q_33 := f_X11_fails S_3 3 (S_3 127 21)
                let r_31 := q_33.1
                let S_32 := q_33.2
                (r_31, S_32)
          else
            let q_12 := f_X11_fails S_3 1 (S_3 127 21)
            let r_10 := q_12.1
            let S_11 := q_12.2
            (r_10, S_11)
def s_X11_takeClause (S : xS) : Prop :=
  (s_X11_here S) ∧ (
    let q_4 := f_X11_here S
    let r_2 := q_4.1
    let S_3 := q_4.2
    (r_2 = 114 →
      let r_109 := f_X11_isFull S_3 0
      (r_109 = 0 →
        let S_111 := xu S_3 127 21 ((S_3 127 21) + 1)
        (s_X11_takeBody S_111 0) ∧ (
          let q_115 := f_X11_takeBody S_111 0
          let r_113 := q_115.1
          let S_114 := q_115.2
          (r_113 ≤ 0 →
            (s_X11_here S_114) ∧ (
              True)) ∧ (¬ (r_113 ≤ 0) →
            True))) ∧ (¬ (r_109 = 0) →
        True)) ∧ (¬ (r_2 = 114) →
      (r_2 = 98 →
        ((S_3 127 24) = 0 →
          True) ∧ (¬ ((S_3 127 24) = 0) →
          let r_86 := f_X11_isFull S_3 1
          (r_86 = 0 →
            let S_88 := xu S_3 127 21 ((S_3 127 21) + 1)
            (s_X11_takeBody S_88 1) ∧ (
              let q_92 := f_X11_takeBody S_88 1
              let r_90 := q_92.1
              let S_91 := q_92.2
              (r_90 ≤ 0 →
                (s_X11_here S_91) ∧ (
                  True)) ∧ (¬ (r_90 ≤ 0) →
                True))) ∧ (¬ (r_86 = 0) →
            True))) ∧ (¬ (r_2 = 98) →
        (r_2 = 103 →
          ((S_3 127 24) = 0 →
            True) ∧ (¬ ((S_3 127 24) = 0) →
            let r_62 := f_X11_isFull S_3 2
            (r_62 = 0 →
              let S_64 := xu S_3 127 21 ((S_3 127 21) + 1)
              (s_X11_takeBody S_64 2) ∧ (
                let q_68 := f_X11_takeBody S_64 2
                let r_66 := q_68.1
                let S_67 := q_68.2
                (r_66 ≤ 0 →
                  (s_X11_here S_67) ∧ (
                    True)) ∧ (¬ (r_66 ≤ 0) →
                  True))) ∧ (¬ (r_62 = 0) →
              True))) ∧ (¬ (r_2 = 103) →
          (r_2 = 112 →
            ((S_3 127 24) = 0 →
              True) ∧ (¬ ((S_3 127 24) = 0) →
              let r_38 := f_X11_isFull S_3 3
              (r_38 = 0 →
                let S_40 := xu S_3 127 21 ((S_3 127 21) + 1)
                (s_X11_takeBody S_40 3) ∧ (
                  let q_44 := f_X11_takeBody S_40 3
                  let r_42 := q_44.1
                  let S_43 := q_44.2
                  (r_42 ≤ 0 →
                    (s_X11_here S_43) ∧ (
                      True)) ∧ (¬ (r_42 ≤ 0) →
                    True))) ∧ (¬ (r_38 = 0) →
                True))) ∧ (¬ (r_2 = 112) →
            (r_2 = 108 →
              ((S_3 127 24) = 0 →
                True) ∧ (¬ ((S_3 127 24) = 0) →
                let r_14 := f_X11_isFull S_3 4
                (r_14 = 0 →
                  let S_16 := xu S_3 127 21 ((S_3 127 21) + 1)
                  (s_X11_takeBody S_16 4) ∧ (
                    let q_20 := f_X11_takeBody S_16 4
                    let r_18 := q_20.1
                    let S_19 := q_20.2
                    (r_18 ≤ 0 →
                      (s_X11_here S_19) ∧ (
                        True)) ∧ (¬ (r_18 ≤ 0) →
                      True))) ∧ (¬ (r_14 = 0) →
                  True))) ∧ (¬ (r_2 = 108) →
              True))))))
def f_X11_takeRead_L42 : Nat → xS → Int32 → (xS)
  | 0, T_42, x1_42 => (T_42)
  | n + 1, T_42, x1_42 =>
    if 6 ≤ x1_42 then
      T_42
    else
      let S_9 := xu T_42 128 (x1_42).toNatClampNeg (T_42 139 (x1_42).toNatClampNeg)
      let S_10 := xu S_9 129 (x1_42).toNatClampNeg (S_9 140 (x1_42).toNatClampNeg)
      f_X11_takeRead_L42 n S_10 (x1_42 + 1)
def s_X11_takeRead_L42 : Nat → xS → Int32 → Prop
  | 0, _, _ => False
  | n + 1, T_42, x1_42 =>
    (6 ≤ x1_42 →
      True) ∧ (¬ (6 ≤ x1_42) →
      (vp_in x1_42 6) ∧ (
        let S_9 := xu T_42 128 (x1_42).toNatClampNeg (T_42 139 (x1_42).toNatClampNeg)
        let S_10 := xu S_9 129 (x1_42).toNatClampNeg (S_9 140 (x1_42).toNatClampNeg)
        s_X11_takeRead_L42 n S_10 (x1_42 + 1)))
def f_X11_takeRead_L80 : Nat → xS → Int32 → (xS)
  | 0, T_80, x1_80 => (T_80)
  | n + 1, T_80, x1_80 =>
    if 72 ≤ x1_80 then
      T_80
    else
      let S_15 := xu T_80 131 (x1_80).toNatClampNeg 0
      f_X11_takeRead_L80 n S_15 (x1_80 + 1)
def s_X11_takeRead_L80 : Nat → xS → Int32 → Prop
  | 0, _, _ => False
  | n + 1, T_80, x1_80 =>
    (72 ≤ x1_80 →
      True) ∧ (¬ (72 ≤ x1_80) →
      (vp_in x1_80 72) ∧ (
        let S_15 := xu T_80 131 (x1_80).toNatClampNeg 0
        s_X11_takeRead_L80 n S_15 (x1_80 + 1)))
def f_X11_takeRead_L101 : Nat → xS → Int32 → (xS)
  | 0, T_101, x1_101 => (T_101)
  | n + 1, T_101, x1_101 =>
    if 7 ≤ x1_101 then
      T_101
    else
      let S_20 := xu T_101 130 (x1_101).toNatClampNeg (T_101 141 (x1_101).toNatClampNeg)
      if (S_20 127 6) ≤ x1_101 then
        let S_23 := xu S_20 131 ((2 + x1_101)).toNatClampNeg 0
        f_X11_takeRead_L101 n S_23 (x1_101 + 1)
      else
        let S_26 := xu S_20 131 ((2 + x1_101)).toNatClampNeg (S_20 142 (x1_101).toNatClampNeg)
        f_X11_takeRead_L101 n S_26 (x1_101 + 1)
def s_X11_takeRead_L101 : Nat → xS → Int32 → Prop
  | 0, _, _ => False
  | n + 1, T_101, x1_101 =>
    (7 ≤ x1_101 →
      True) ∧ (¬ (7 ≤ x1_101) →
      (vp_in x1_101 7) ∧ (
        let S_20 := xu T_101 130 (x1_101).toNatClampNeg (T_101 141 (x1_101).toNatClampNeg)
        ((S_20 127 6) ≤ x1_101 →
          (vp_in (2 + x1_101) 72) ∧ (
            let S_23 := xu S_20 131 ((2 + x1_101)).toNatClampNeg 0
            s_X11_takeRead_L101 n S_23 (x1_101 + 1))) ∧ (¬ ((S_20 127 6) ≤ x1_101) →
          (vp_in (2 + x1_101) 72) ∧ (
            let S_26 := xu S_20 131 ((2 + x1_101)).toNatClampNeg (S_20 142 (x1_101).toNatClampNeg)
            s_X11_takeRead_L101 n S_26 (x1_101 + 1)))))
def f_X11_takeRead_L153 : Nat → xS → Int32 → (xS)
  | 0, T_153, x1_153 => (T_153)
  | n + 1, T_153, x1_153 =>
    if 49 ≤ x1_153 then
      T_153
    else
      let S_32 := xu T_153 131 ((23 + x1_153)).toNatClampNeg (T_153 143 (x1_153).toNatClampNeg)
      f_X11_takeRead_L153 n S_32 (x1_153 + 1)
def s_X11_takeRead_L153 : Nat → xS → Int32 → Prop
  | 0, _, _ => False
  | n + 1, T_153, x1_153 =>
    (49 ≤ x1_153 →
      True) ∧ (¬ (49 ≤ x1_153) →
      (vp_in x1_153 49) ∧ (
        (vp_in (23 + x1_153) 72) ∧ (
          let S_32 := xu T_153 131 ((23 + x1_153)).toNatClampNeg (T_153 143 (x1_153).toNatClampNeg)
          s_X11_takeRead_L153 n S_32 (x1_153 + 1))))
def f_X11_takeRead (S : xS) : xS :=
  let S_1 := xu S 127 0 (S 127 24)
  let S_2 := xu S_1 127 1 (S_1 127 25)
  let S_3 := xu S_2 127 2 (S_2 127 26)
  let S_4 := xu S_3 127 3 (S_3 127 27)
  let S_5 := xu S_4 127 6 (S_4 127 30)
  let q_42 := f_X11_takeRead_L42 (fu 0 6) S_5 0
  let q_80 := f_X11_takeRead_L80 (fu 0 72) q_42 0
  let q_101 := f_X11_takeRead_L101 (fu 0 7) q_80 0
  let q_153 := f_X11_takeRead_L153 (fu 0 49) q_101 0
  q_153
def s_X11_takeRead (S : xS) : Prop :=
  let S_1 := xu S 127 0 (S 127 24)
  let S_2 := xu S_1 127 1 (S_1 127 25)
  let S_3 := xu S_2 127 2 (S_2 127 26)
  let S_4 := xu S_3 127 3 (S_3 127 27)
  let S_5 := xu S_4 127 6 (S_4 127 30)
  (s_X11_takeRead_L42 (fu 0 6) S_5 0) ∧ (
    let q_42 := f_X11_takeRead_L42 (fu 0 6) S_5 0
    (s_X11_takeRead_L80 (fu 0 72) q_42 0) ∧ (
      let q_80 := f_X11_takeRead_L80 (fu 0 72) q_42 0
      (s_X11_takeRead_L101 (fu 0 7) q_80 0) ∧ (
        let q_101 := f_X11_takeRead_L101 (fu 0 7) q_80 0
        (s_X11_takeRead_L153 (fu 0 49) q_101 0) ∧ (
          let q_153 := f_X11_takeRead_L153 (fu 0 49) q_101 0
          True))))
def f_X11_hill_L42 : Nat → xS → Int32 → (xS)
  | 0, T_42, x1_42 => (T_42)
  | n + 1, T_42, x1_42 =>
    if 6 ≤ x1_42 then
      T_42
    else
      let S_12 := xu T_42 139 (x1_42).toNatClampNeg 0
      let S_13 := xu S_12 140 (x1_42).toNatClampNeg 0
      f_X11_hill_L42 n S_13 (x1_42 + 1)
def s_X11_hill_L42 : Nat → xS → Int32 → Prop
  | 0, _, _ => False
  | n + 1, T_42, x1_42 =>
    (6 ≤ x1_42 →
      True) ∧ (¬ (6 ≤ x1_42) →
      (vp_in x1_42 6) ∧ (
        let S_12 := xu T_42 139 (x1_42).toNatClampNeg 0
        let S_13 := xu S_12 140 (x1_42).toNatClampNeg 0
        s_X11_hill_L42 n S_13 (x1_42 + 1)))
def f_X11_hill_L70 : Nat → xS → Int32 → (xS)
  | 0, T_70, x1_70 => (T_70)
  | n + 1, T_70, x1_70 =>
    if 49 ≤ x1_70 then
      T_70
    else
      let S_18 := xu T_70 143 (x1_70).toNatClampNeg 5
      f_X11_hill_L70 n S_18 (x1_70 + 1)
def s_X11_hill_L70 : Nat → xS → Int32 → Prop
  | 0, _, _ => False
  | n + 1, T_70, x1_70 =>
    (49 ≤ x1_70 →
      True) ∧ (¬ (49 ≤ x1_70) →
      (vp_in x1_70 49) ∧ (
        let S_18 := xu T_70 143 (x1_70).toNatClampNeg 5
        s_X11_hill_L70 n S_18 (x1_70 + 1)))
def f_X11_hill_L91 : Nat → xS → Int32 → (Int32 × xS)
  | 0, T_91, x1_91 => (x1_91, T_91)
  | n + 1, T_91, x1_91 =>
    if x1_91 = 0 then
      let q_25 := f_X11_here T_91
      let r_23 := q_25.1
      let S_24 := q_25.2
      if r_23 < 0 then
        (x1_91, S_24)
      else
        let q_31 := f_X11_takeClause S_24
        let r_29 := q_31.1
        let S_30 := q_31.2
        f_X11_hill_L91 n S_30 r_29
    else
      (x1_91, T_91)
def s_X11_hill_L91 : Nat → xS → Int32 → Prop
  | 0, _, _ => False
  | n + 1, T_91, x1_91 =>
    (x1_91 = 0 →
      (s_X11_here T_91) ∧ (
        let q_25 := f_X11_here T_91
        let r_23 := q_25.1
        let S_24 := q_25.2
        (r_23 < 0 →
          True) ∧ (¬ (r_23 < 0) →
          (s_X11_takeClause S_24) ∧ (
            let q_31 := f_X11_takeClause S_24
            let r_29 := q_31.1
            let S_30 := q_31.2
            s_X11_hill_L91 n S_30 r_29)))) ∧ (¬ (x1_91 = 0) →
      True)
def f_X11_hill (S : xS) : (Int32 × xS) :=
  let S_1 := xu S 127 20 (-1)
  let S_2 := xu S_1 127 21 0
  let S_3 := xu S_2 127 24 0
  let S_4 := xu S_3 127 25 0
  let S_5 := xu S_4 127 26 0
  let S_6 := xu S_5 127 27 0
  let S_7 := xu S_6 127 30 0
  let S_8 := xu S_7 127 33 0
  let q_42 := f_X11_hill_L42 (fu 0 6) S_8 0
  let q_70 := f_X11_hill_L70 (fu 0 49) q_42 0
  let q_91 := f_X11_hill_L91 (fuel_X11_hill_91) q_70 0
  let S_33 := xu q_91.2 127 19 0
  if q_91.1 ≤ 0 then
    let S_36 := f_X11_takeRead S_33
    let S_37 := xu S_36 127 11 0
    let S_38 := xu S_37 127 15 0
    let S_39 := xu S_38 127 36 0
    let S_40 := xu S_39 147 (0 : Int32).toNatClampNeg 0
    let S_41 := xu S_40 147 (1 : Int32).toNatClampNeg 0
    ((S_41 127 6), S_41)
  else
    (((-10) - q_91.1), S_33)
def s_X11_hill (S : xS) : Prop :=
  let S_1 := xu S 127 20 (-1)
  let S_2 := xu S_1 127 21 0
  let S_3 := xu S_2 127 24 0
  let S_4 := xu S_3 127 25 0
  let S_5 := xu S_4 127 26 0
  let S_6 := xu S_5 127 27 0
  let S_7 := xu S_6 127 30 0
  let S_8 := xu S_7 127 33 0
  (s_X11_hill_L42 (fu 0 6) S_8 0) ∧ (
    let q_42 := f_X11_hill_L42 (fu 0 6) S_8 0
    (s_X11_hill_L70 (fu 0 49) q_42 0) ∧ (
      let q_70 := f_X11_hill_L70 (fu 0 49) q_42 0
      (s_X11_hill_L91 (fuel_X11_hill_91) q_70 0) ∧ (
        let q_91 := f_X11_hill_L91 (fuel_X11_hill_91) q_70 0
        let S_33 := xu q_91.2 127 19 0
        (q_91.1 ≤ 0 →
          (s_X11_takeRead S_33) ∧ (
            True)) ∧ (¬ (q_91.1 ≤ 0) →
          True))))
def f_X11_fault (S : xS) : Int32 :=
  (S 127 20)
def f_X11_sayBy (S : xS) (p0 : Int32) (p1 : Int32) (p2 : Int32) : Int32 :=
  if p2 = 0 then
    if p1 < 5 then
      if p0 = 1 then
        if p0 = 2 then
          0
        else
          0
      else
        if p0 = 2 then
          0
        else
          0
    else
      if p0 = 1 then
        if 0 ≤ p1 then
          if p0 = 2 then
            if p1 ≤ 0 then
              p1
            else
              (p1 / 2)
          else
            p1
        else
          0
      else
        if p0 = 2 then
          if p1 ≤ 0 then
            p1
          else
            (p1 / 2)
        else
          p1
  else
    if p0 = 1 then
      if 0 ≤ (p1 - 9) then
        if p0 = 2 then
          if (p1 - 9) ≤ 0 then
            (p1 - 9)
          else
            ((p1 - 9) / 2)
        else
          (p1 - 9)
      else
        0
    else
      if p0 = 2 then
        if (p1 - 9) ≤ 0 then
          (p1 - 9)
        else
          ((p1 - 9) / 2)
      else
        (p1 - 9)
def f_X11_isThere (S : xS) (p0 : Int32) (p1 : Int32) (p2 : Int32) : Int32 :=
  if p0 = p1 then
    1
  else
    if p2 = 0 then
      0
    else
      let r_4 := f_X11_has S (S 128 (p0).toNatClampNeg) p1
      if r_4 = 0 then
        0
      else
        1
def s_X11_isThere (S : xS) (p0 : Int32) (p1 : Int32) (p2 : Int32) : Prop :=
  (p0 = p1 →
    True) ∧ (¬ (p0 = p1) →
    (p2 = 0 →
      True) ∧ (¬ (p2 = 0) →
      (vp_in p0 6) ∧ (
        True)))
def f_X11_says (S : xS) (k0 : Nat) (p1 : Int32) (p2 : Int32) : Int32 :=
  if (S 130 (p1).toNatClampNeg) = 3 then
    let r_6 := f_X11_isThere S (S k0 ((2 + p1)).toNatClampNeg) (S k0 ((2 + p2)).toNatClampNeg) 0
    let r_8 := f_X11_sayBy S (S 130 (p1).toNatClampNeg) (S k0 (((23 + (7 * p1)) + p2)).toNatClampNeg) r_6
    r_8
  else
    let r_10 := f_X11_has S (S k0 (1 : Int32).toNatClampNeg) p2
    if r_10 = 0 then
      let r_13 := f_X11_isThere S (S k0 ((2 + p1)).toNatClampNeg) (S k0 ((2 + p2)).toNatClampNeg) 0
      let r_15 := f_X11_sayBy S (S 130 (p1).toNatClampNeg) (S k0 (((23 + (7 * p1)) + p2)).toNatClampNeg) r_13
      r_15
    else
      let r_17 := f_X11_isThere S (S k0 ((2 + p1)).toNatClampNeg) (S k0 ((2 + p2)).toNatClampNeg) 1
      let r_19 := f_X11_sayBy S (S 130 (p1).toNatClampNeg) (S k0 (((23 + (7 * p1)) + p2)).toNatClampNeg) r_17
      r_19
def s_X11_says (S : xS) (k0 : Nat) (p1 : Int32) (p2 : Int32) : Prop :=
  (vp_in (2 + p1) (xlen k0)) ∧ (
    (vp_in (2 + p2) (xlen k0)) ∧ (
      (vp_in p1 7) ∧ (
        ((S 130 (p1).toNatClampNeg) = 3 →
          (s_X11_isThere S (S k0 ((2 + p1)).toNatClampNeg) (S k0 ((2 + p2)).toNatClampNeg) 0) ∧ (
            let r_6 := f_X11_isThere S (S k0 ((2 + p1)).toNatClampNeg) (S k0 ((2 + p2)).toNatClampNeg) 0
            (vp_in ((23 + (7 * p1)) + p2) (xlen k0)) ∧ (
              True))) ∧ (¬ ((S 130 (p1).toNatClampNeg) = 3) →
          (vp_in 1 (xlen k0)) ∧ (
            let r_10 := f_X11_has S (S k0 (1 : Int32).toNatClampNeg) p2
            (r_10 = 0 →
              (s_X11_isThere S (S k0 ((2 + p1)).toNatClampNeg) (S k0 ((2 + p2)).toNatClampNeg) 0) ∧ (
                let r_13 := f_X11_isThere S (S k0 ((2 + p1)).toNatClampNeg) (S k0 ((2 + p2)).toNatClampNeg) 0
                (vp_in ((23 + (7 * p1)) + p2) (xlen k0)) ∧ (
                  True))) ∧ (¬ (r_10 = 0) →
              (s_X11_isThere S (S k0 ((2 + p1)).toNatClampNeg) (S k0 ((2 + p2)).toNatClampNeg) 1) ∧ (
                let r_17 := f_X11_isThere S (S k0 ((2 + p1)).toNatClampNeg) (S k0 ((2 + p2)).toNatClampNeg) 1
                (vp_in ((23 + (7 * p1)) + p2) (xlen k0)) ∧ (
                  True))))))))
def f_X11_hears (S : xS) (k0 : Nat) (p1 : Int32) (p2 : Int32) : Int32 :=
  if (S k0 ((2 + p1)).toNatClampNeg) = (S k0 ((2 + p2)).toNatClampNeg) then
    1
  else
    let r_5 := f_X11_has S (S 128 ((S k0 ((2 + p1)).toNatClampNeg)).toNatClampNeg) (S k0 ((2 + p2)).toNatClampNeg)
    if r_5 = 0 then
      0
    else
      1
def s_X11_hears (S : xS) (k0 : Nat) (p1 : Int32) (p2 : Int32) : Prop :=
  (vp_in (2 + p1) (xlen k0)) ∧ (
    (vp_in (2 + p2) (xlen k0)) ∧ (
      ((S k0 ((2 + p1)).toNatClampNeg) = (S k0 ((2 + p2)).toNatClampNeg) →
        True) ∧ (¬ ((S k0 ((2 + p1)).toNatClampNeg) = (S k0 ((2 + p2)).toNatClampNeg)) →
        (vp_in (S k0 ((2 + p1)).toNatClampNeg) 6) ∧ (
          True))))
def f_X11_spokenOf (S : xS) (p0 : Int32) (p1 : Int32) : Int32 :=
  (((p0 + p1) + 1) - ((p0 + p1) + 1) / (S 127 6) * (S 127 6))
def s_X11_spokenOf (S : xS) (p0 : Int32) (p1 : Int32) : Prop :=
  (¬ ((S 127 6) = 0)) ∧ (
    True)
def f_X11_saidAll_L4 : Nat → xS → Nat → Int32 → Int32 → (Int32)
  | 0, S, k0, x2_4, x3_4 => (x2_4)
  | n + 1, S, k0, x2_4, x3_4 =>
    if (S 127 6) ≤ x3_4 then
      x2_4
    else
      let r_5 := f_X11_spokenOf S x3_4 (S k0 (0 : Int32).toNatClampNeg)
      if r_5 = x3_4 then
        f_X11_saidAll_L4 n S k0 (x2_4 + 0) (x3_4 + 1)
      else
        let r_8 := f_X11_says S k0 x3_4 r_5
        f_X11_saidAll_L4 n S k0 (x2_4 + r_8) (x3_4 + 1)
def s_X11_saidAll_L4 : Nat → xS → Nat → Int32 → Int32 → Prop
  | 0, _, _, _, _ => False
  | n + 1, S, k0, x2_4, x3_4 =>
    ((S 127 6) ≤ x3_4 →
      True) ∧ (¬ ((S 127 6) ≤ x3_4) →
      (vp_in 0 (xlen k0)) ∧ (
        (s_X11_spokenOf S x3_4 (S k0 (0 : Int32).toNatClampNeg)) ∧ (
          let r_5 := f_X11_spokenOf S x3_4 (S k0 (0 : Int32).toNatClampNeg)
          (r_5 = x3_4 →
            s_X11_saidAll_L4 n S k0 (x2_4 + 0) (x3_4 + 1)) ∧ (¬ (r_5 = x3_4) →
            (s_X11_says S k0 x3_4 r_5) ∧ (
              let r_8 := f_X11_says S k0 x3_4 r_5
              s_X11_saidAll_L4 n S k0 (x2_4 + r_8) (x3_4 + 1))))))
def f_X11_saidAll (S : xS) (k0 : Nat) : Int32 :=
  let q_4 := f_X11_saidAll_L4 (fu 0 (S 127 6)) S k0 0 0
  q_4
def s_X11_saidAll (S : xS) (k0 : Nat) : Prop :=
  (s_X11_saidAll_L4 (fu 0 (S 127 6)) S k0 0 0) ∧ (
    let q_4 := f_X11_saidAll_L4 (fu 0 (S 127 6)) S k0 0 0
    True)
def f_X11_passes_L2 : Nat → xS → Nat → Int32 → (xS)
  | 0, T_2, k0, x2_2 => (T_2)
  | n + 1, T_2, k0, x2_2 =>
    if (T_2 127 6) ≤ x2_2 then
      T_2
    else
      let r_5 := f_X11_spokenOf T_2 x2_2 (T_2 k0 (0 : Int32).toNatClampNeg)
      if r_5 = x2_2 then
        f_X11_passes_L2 n T_2 k0 (x2_2 + 1)
      else
        let r_9 := f_X11_hears T_2 k0 x2_2 r_5
        if r_9 = 0 then
          f_X11_passes_L2 n T_2 k0 (x2_2 + 1)
        else
          let r_14 := f_X11_says T_2 k0 x2_2 r_5
          if ((T_2 k0 ((9 + r_5)).toNatClampNeg) + r_14) ≤ 9999 then
            if (-9999) ≤ ((T_2 k0 ((9 + r_5)).toNatClampNeg) + r_14) then
              let S_17 := xu T_2 k0 ((9 + r_5)).toNatClampNeg ((T_2 k0 ((9 + r_5)).toNatClampNeg) + r_14)
              f_X11_passes_L2 n S_17 k0 (x2_2 + 1)
            else
              let S_19 := xu T_2 k0 ((9 + r_5)).toNatClampNeg (-9999)
              f_X11_passes_L2 n S_19 k0 (x2_2 + 1)
          else
            let S_21 := xu T_2 k0 ((9 + r_5)).toNatClampNeg 9999
            f_X11_passes_L2 n S_21 k0 (x2_2 + 1)
def s_X11_passes_L2 : Nat → xS → Nat → Int32 → Prop
  | 0, _, _, _ => False
  | n + 1, T_2, k0, x2_2 =>
    ((T_2 127 6) ≤ x2_2 →
      True) ∧ (¬ ((T_2 127 6) ≤ x2_2) →
      (vp_in 0 (xlen k0)) ∧ (
        (s_X11_spokenOf T_2 x2_2 (T_2 k0 (0 : Int32).toNatClampNeg)) ∧ (
          let r_5 := f_X11_spokenOf T_2 x2_2 (T_2 k0 (0 : Int32).toNatClampNeg)
          (r_5 = x2_2 →
            s_X11_passes_L2 n T_2 k0 (x2_2 + 1)) ∧ (¬ (r_5 = x2_2) →
            (s_X11_hears T_2 k0 x2_2 r_5) ∧ (
              let r_9 := f_X11_hears T_2 k0 x2_2 r_5
              (r_9 = 0 →
                s_X11_passes_L2 n T_2 k0 (x2_2 + 1)) ∧ (¬ (r_9 = 0) →
                (vp_in (9 + r_5) (xlen k0)) ∧ (
                  (s_X11_says T_2 k0 x2_2 r_5) ∧ (
                    let r_14 := f_X11_says T_2 k0 x2_2 r_5
                    (((T_2 k0 ((9 + r_5)).toNatClampNeg) + r_14) ≤ 9999 →
                      ((-9999) ≤ ((T_2 k0 ((9 + r_5)).toNatClampNeg) + r_14) →
                        let S_17 := xu T_2 k0 ((9 + r_5)).toNatClampNeg ((T_2 k0 ((9 + r_5)).toNatClampNeg) + r_14)
                        s_X11_passes_L2 n S_17 k0 (x2_2 + 1)) ∧ (¬ ((-9999) ≤ ((T_2 k0 ((9 + r_5)).toNatClampNeg) + r_14)) →
                        let S_19 := xu T_2 k0 ((9 + r_5)).toNatClampNeg (-9999)
                        s_X11_passes_L2 n S_19 k0 (x2_2 + 1))) ∧ (¬ (((T_2 k0 ((9 + r_5)).toNatClampNeg) + r_14) ≤ 9999) →
                      let S_21 := xu T_2 k0 ((9 + r_5)).toNatClampNeg 9999
                      s_X11_passes_L2 n S_21 k0 (x2_2 + 1))))))))))
def f_X11_passes_L94 : Nat → xS → Nat → Int32 → (xS)
  | 0, T_94, k0, x2_94 => (T_94)
  | n + 1, T_94, k0, x2_94 =>
    if (T_94 127 6) ≤ x2_94 then
      T_94
    else
      let r_27 := f_X11_has T_94 (T_94 127 1) (T_94 k0 ((2 + x2_94)).toNatClampNeg)
      if r_27 = 0 then
        if ((T_94 k0 ((16 + x2_94)).toNatClampNeg) + (-1)) ≤ 99 then
          if 0 ≤ ((T_94 k0 ((16 + x2_94)).toNatClampNeg) + (-1)) then
            let S_31 := xu T_94 k0 ((16 + x2_94)).toNatClampNeg ((T_94 k0 ((16 + x2_94)).toNatClampNeg) + (-1))
            f_X11_passes_L94 n S_31 k0 (x2_94 + 1)
          else
            let S_33 := xu T_94 k0 ((16 + x2_94)).toNatClampNeg 0
            f_X11_passes_L94 n S_33 k0 (x2_94 + 1)
        else
          let S_35 := xu T_94 k0 ((16 + x2_94)).toNatClampNeg 99
          f_X11_passes_L94 n S_35 k0 (x2_94 + 1)
      else
        if ((T_94 k0 ((16 + x2_94)).toNatClampNeg) + 1) ≤ 99 then
          if 0 ≤ ((T_94 k0 ((16 + x2_94)).toNatClampNeg) + 1) then
            let S_39 := xu T_94 k0 ((16 + x2_94)).toNatClampNeg ((T_94 k0 ((16 + x2_94)).toNatClampNeg) + 1)
            f_X11_passes_L94 n S_39 k0 (x2_94 + 1)
          else
            let S_41 := xu T_94 k0 ((16 + x2_94)).toNatClampNeg 0
            f_X11_passes_L94 n S_41 k0 (x2_94 + 1)
        else
          let S_43 := xu T_94 k0 ((16 + x2_94)).toNatClampNeg 99
          f_X11_passes_L94 n S_43 k0 (x2_94 + 1)
def s_X11_passes_L94 : Nat → xS → Nat → Int32 → Prop
  | 0, _, _, _ => False
  | n + 1, T_94, k0, x2_94 =>
    ((T_94 127 6) ≤ x2_94 →
      True) ∧ (¬ ((T_94 127 6) ≤ x2_94) →
      (vp_in (16 + x2_94) (xlen k0)) ∧ (
        (vp_in (2 + x2_94) (xlen k0)) ∧ (
          let r_27 := f_X11_has T_94 (T_94 127 1) (T_94 k0 ((2 + x2_94)).toNatClampNeg)
          (r_27 = 0 →
            (((T_94 k0 ((16 + x2_94)).toNatClampNeg) + (-1)) ≤ 99 →
              (0 ≤ ((T_94 k0 ((16 + x2_94)).toNatClampNeg) + (-1)) →
                let S_31 := xu T_94 k0 ((16 + x2_94)).toNatClampNeg ((T_94 k0 ((16 + x2_94)).toNatClampNeg) + (-1))
                s_X11_passes_L94 n S_31 k0 (x2_94 + 1)) ∧ (¬ (0 ≤ ((T_94 k0 ((16 + x2_94)).toNatClampNeg) + (-1))) →
                let S_33 := xu T_94 k0 ((16 + x2_94)).toNatClampNeg 0
                s_X11_passes_L94 n S_33 k0 (x2_94 + 1))) ∧ (¬ (((T_94 k0 ((16 + x2_94)).toNatClampNeg) + (-1)) ≤ 99) →
              let S_35 := xu T_94 k0 ((16 + x2_94)).toNatClampNeg 99
              s_X11_passes_L94 n S_35 k0 (x2_94 + 1))) ∧ (¬ (r_27 = 0) →
            (((T_94 k0 ((16 + x2_94)).toNatClampNeg) + 1) ≤ 99 →
              (0 ≤ ((T_94 k0 ((16 + x2_94)).toNatClampNeg) + 1) →
                let S_39 := xu T_94 k0 ((16 + x2_94)).toNatClampNeg ((T_94 k0 ((16 + x2_94)).toNatClampNeg) + 1)
                s_X11_passes_L94 n S_39 k0 (x2_94 + 1)) ∧ (¬ (0 ≤ ((T_94 k0 ((16 + x2_94)).toNatClampNeg) + 1)) →
                let S_41 := xu T_94 k0 ((16 + x2_94)).toNatClampNeg 0
                s_X11_passes_L94 n S_41 k0 (x2_94 + 1))) ∧ (¬ (((T_94 k0 ((16 + x2_94)).toNatClampNeg) + 1) ≤ 99) →
              let S_43 := xu T_94 k0 ((16 + x2_94)).toNatClampNeg 99
              s_X11_passes_L94 n S_43 k0 (x2_94 + 1))))))
def f_X11_passes (S : xS) (k0 : Nat) : xS :=
  let q_2 := f_X11_passes_L2 (fu 0 (S 127 6)) S k0 0
  let q_94 := f_X11_passes_L94 (fu 0 (q_2 127 6)) q_2 k0 0
  let S_46 := xu q_94 k0 (1 : Int32).toNatClampNeg 0
  let S_48 := xu S_46 k0 (0 : Int32).toNatClampNeg ((S_46 k0 (0 : Int32).toNatClampNeg) + 1)
  S_48
def s_X11_passes (S : xS) (k0 : Nat) : Prop :=
  (s_X11_passes_L2 (fu 0 (S 127 6)) S k0 0) ∧ (
    let q_2 := f_X11_passes_L2 (fu 0 (S 127 6)) S k0 0
    (s_X11_passes_L94 (fu 0 (q_2 127 6)) q_2 k0 0) ∧ (
      let q_94 := f_X11_passes_L94 (fu 0 (q_2 127 6)) q_2 k0 0
      (vp_in 1 (xlen k0)) ∧ (
        let S_46 := xu q_94 k0 (1 : Int32).toNatClampNeg 0
        (vp_in 0 (xlen k0)) ∧ (
          True))))
def f_X11_praised_L21 : Nat → xS → Int32 → Int32 → Int32 → Int32 → Int32 → (Int32)
  | 0, S, x1_21, x2_21, x3_21, x4_21, x5_21 => (x4_21)
  | n + 1, S, x1_21, x2_21, x3_21, x4_21, x5_21 =>
    if (S 127 6) ≤ x5_21 then
      x4_21
    else
      if x5_21 = x3_21 then
        f_X11_praised_L21 n S x1_21 x2_21 x3_21 (x4_21 + 0) (x5_21 + 1)
      else
        let r_7 := f_X11_says S 131 x5_21 x3_21
        f_X11_praised_L21 n S x1_21 x2_21 x3_21 (x4_21 + r_7) (x5_21 + 1)
def s_X11_praised_L21 : Nat → xS → Int32 → Int32 → Int32 → Int32 → Int32 → Prop
  | 0, _, _, _, _, _, _ => False
  | n + 1, S, x1_21, x2_21, x3_21, x4_21, x5_21 =>
    ((S 127 6) ≤ x5_21 →
      True) ∧ (¬ ((S 127 6) ≤ x5_21) →
      (x5_21 = x3_21 →
        s_X11_praised_L21 n S x1_21 x2_21 x3_21 (x4_21 + 0) (x5_21 + 1)) ∧ (¬ (x5_21 = x3_21) →
        (s_X11_says S 131 x5_21 x3_21) ∧ (
          let r_7 := f_X11_says S 131 x5_21 x3_21
          s_X11_praised_L21 n S x1_21 x2_21 x3_21 (x4_21 + r_7) (x5_21 + 1))))
def f_X11_praised_L7 : Nat → xS → Int32 → Int32 → Int32 → (Int32)
  | 0, S, x1_7, x2_7, x3_7 => (x1_7)
  | n + 1, S, x1_7, x2_7, x3_7 =>
    if (S 127 6) ≤ x3_7 then
      x1_7
    else
      let q_21 := f_X11_praised_L21 (fu 0 (S 127 6)) S x1_7 x2_7 x3_7 0 0
      if q_21 ≤ x2_7 then
        f_X11_praised_L7 n S x1_7 x2_7 (x3_7 + 1)
      else
        f_X11_praised_L7 n S x3_7 q_21 (x3_7 + 1)
def s_X11_praised_L7 : Nat → xS → Int32 → Int32 → Int32 → Prop
  | 0, _, _, _, _ => False
  | n + 1, S, x1_7, x2_7, x3_7 =>
    ((S 127 6) ≤ x3_7 →
      True) ∧ (¬ ((S 127 6) ≤ x3_7) →
      (s_X11_praised_L21 (fu 0 (S 127 6)) S x1_7 x2_7 x3_7 0 0) ∧ (
        let q_21 := f_X11_praised_L21 (fu 0 (S 127 6)) S x1_7 x2_7 x3_7 0 0
        (q_21 ≤ x2_7 →
          s_X11_praised_L7 n S x1_7 x2_7 (x3_7 + 1)) ∧ (¬ (q_21 ≤ x2_7) →
          s_X11_praised_L7 n S x3_7 q_21 (x3_7 + 1))))
def f_X11_praised (S : xS) : Int32 :=
  let q_7 := f_X11_praised_L7 (fu 0 (S 127 6)) S (-1) (-1000000) 0
  q_7
def s_X11_praised (S : xS) : Prop :=
  (s_X11_praised_L7 (fu 0 (S 127 6)) S (-1) (-1000000) 0) ∧ (
    let q_7 := f_X11_praised_L7 (fu 0 (S 127 6)) S (-1) (-1000000) 0
    True)
def f_X11_silentBy_L17 : Nat → xS → Int32 → Int32 → Int32 → Int32 → (Int32 ⊕ (Int32))
  | 0, S, x1_17, x2_17, x3_17, x4_17 => .inr (x2_17)
  | n + 1, S, x1_17, x2_17, x3_17, x4_17 =>
    if (S 127 6) ≤ x4_17 then
      .inr x2_17
    else
      let r_6 := f_X11_says S 131 x3_17 x4_17
      if 0 < r_6 then
        f_X11_silentBy_L17 n S x1_17 x2_17 x3_17 (x4_17 + 1)
      else
        let r_10 := f_X11_says S 131 x4_17 x3_17
        if 0 < r_10 then
          f_X11_silentBy_L17 n S x1_17 x2_17 x3_17 (x4_17 + 1)
        else
          if x2_17 = x1_17 then
            .inl ((100 * x3_17) + x4_17)
          else
            f_X11_silentBy_L17 n S x1_17 (x2_17 + 1) x3_17 (x4_17 + 1)
def s_X11_silentBy_L17 : Nat → xS → Int32 → Int32 → Int32 → Int32 → Prop
  | 0, _, _, _, _, _ => False
  | n + 1, S, x1_17, x2_17, x3_17, x4_17 =>
    ((S 127 6) ≤ x4_17 →
      True) ∧ (¬ ((S 127 6) ≤ x4_17) →
      (s_X11_says S 131 x3_17 x4_17) ∧ (
        let r_6 := f_X11_says S 131 x3_17 x4_17
        (0 < r_6 →
          s_X11_silentBy_L17 n S x1_17 x2_17 x3_17 (x4_17 + 1)) ∧ (¬ (0 < r_6) →
          (s_X11_says S 131 x4_17 x3_17) ∧ (
            let r_10 := f_X11_says S 131 x4_17 x3_17
            (0 < r_10 →
              s_X11_silentBy_L17 n S x1_17 x2_17 x3_17 (x4_17 + 1)) ∧ (¬ (0 < r_10) →
              (x2_17 = x1_17 →
                True) ∧ (¬ (x2_17 = x1_17) →
                s_X11_silentBy_L17 n S x1_17 (x2_17 + 1) x3_17 (x4_17 + 1)))))))
def f_X11_silentBy_L4 : Nat → xS → Int32 → Int32 → Int32 → (Int32 ⊕ (Int32))
  | 0, S, x1_4, x2_4, x3_4 => .inr (x2_4)
  | n + 1, S, x1_4, x2_4, x3_4 =>
    if (S 127 6) ≤ x3_4 then
      .inr x2_4
    else
      Sum.elim (fun r => .inl r) (fun q_17 =>
        f_X11_silentBy_L4 n S x1_4 q_17 (x3_4 + 1)) (f_X11_silentBy_L17 (fu (x3_4 + 1) (S 127 6)) S x1_4 x2_4 x3_4 (x3_4 + 1))
def s_X11_silentBy_L4 : Nat → xS → Int32 → Int32 → Int32 → Prop
  | 0, _, _, _, _ => False
  | n + 1, S, x1_4, x2_4, x3_4 =>
    ((S 127 6) ≤ x3_4 →
      True) ∧ (¬ ((S 127 6) ≤ x3_4) →
      (s_X11_silentBy_L17 (fu (x3_4 + 1) (S 127 6)) S x1_4 x2_4 x3_4 (x3_4 + 1)) ∧ (∀ q_17, f_X11_silentBy_L17 (fu (x3_4 + 1) (S 127 6)) S x1_4 x2_4 x3_4 (x3_4 + 1) = .inr q_17 →
        s_X11_silentBy_L4 n S x1_4 q_17 (x3_4 + 1)))
def f_X11_silentBy (S : xS) (p0 : Int32) : Int32 :=
  Sum.elim (fun r => r) (fun q_4 =>
    if p0 = (-1) then
      q_4
    else
      (-1)) (f_X11_silentBy_L4 (fu 0 (S 127 6)) S p0 0 0)
def s_X11_silentBy (S : xS) (p0 : Int32) : Prop :=
  (s_X11_silentBy_L4 (fu 0 (S 127 6)) S p0 0 0) ∧ (∀ q_4, f_X11_silentBy_L4 (fu 0 (S 127 6)) S p0 0 0 = .inr q_4 →
    True)
def f_X11_cover_L27 : Nat → xS → Int32 → Int32 → Int32 → Int32 → (Int32)
  | 0, S, x1_27, x2_27, x3_27, x4_27 => (x3_27)
  | n + 1, S, x1_27, x2_27, x3_27, x4_27 =>
    if (S 127 0) ≤ x4_27 then
      x3_27
    else
      if x3_27 = 0 then
        f_X11_cover_L27 n S x1_27 x2_27 0 (x4_27 + 1)
      else
        if (((S 128 (x4_27).toNatClampNeg) ||| (1 <<< (x4_27 &&& 31))) &&& x2_27) = 0 then
          f_X11_cover_L27 n S x1_27 x2_27 0 (x4_27 + 1)
        else
          f_X11_cover_L27 n S x1_27 x2_27 1 (x4_27 + 1)
def s_X11_cover_L27 : Nat → xS → Int32 → Int32 → Int32 → Int32 → Prop
  | 0, _, _, _, _, _ => False
  | n + 1, S, x1_27, x2_27, x3_27, x4_27 =>
    ((S 127 0) ≤ x4_27 →
      True) ∧ (¬ ((S 127 0) ≤ x4_27) →
      (x3_27 = 0 →
        s_X11_cover_L27 n S x1_27 x2_27 0 (x4_27 + 1)) ∧ (¬ (x3_27 = 0) →
        (vp_in x4_27 6) ∧ (
          ((((S 128 (x4_27).toNatClampNeg) ||| (1 <<< (x4_27 &&& 31))) &&& x2_27) = 0 →
            s_X11_cover_L27 n S x1_27 x2_27 0 (x4_27 + 1)) ∧ (¬ ((((S 128 (x4_27).toNatClampNeg) ||| (1 <<< (x4_27 &&& 31))) &&& x2_27) = 0) →
            s_X11_cover_L27 n S x1_27 x2_27 1 (x4_27 + 1)))))
def f_X11_cover_L18 : Nat → xS → Int32 → Int32 → (Int32)
  | 0, S, x1_18, x2_18 => (x1_18)
  | n + 1, S, x1_18, x2_18 =>
    if x2_18 < 0 then
      x1_18
    else
      let q_27 := f_X11_cover_L27 (fu 0 (S 127 0)) S x1_18 x2_18 1 0
      if q_27 = 0 then
        f_X11_cover_L18 n S x1_18 (x2_18 + (-1))
      else
        let r_14 := f_X11_ones S x2_18
        let r_16 := f_X11_ones S x1_18
        if r_16 < r_14 then
          f_X11_cover_L18 n S x1_18 (x2_18 + (-1))
        else
          f_X11_cover_L18 n S x2_18 (x2_18 + (-1))
def s_X11_cover_L18 : Nat → xS → Int32 → Int32 → Prop
  | 0, _, _, _ => False
  | n + 1, S, x1_18, x2_18 =>
    (x2_18 < 0 →
      True) ∧ (¬ (x2_18 < 0) →
      (s_X11_cover_L27 (fu 0 (S 127 0)) S x1_18 x2_18 1 0) ∧ (
        let q_27 := f_X11_cover_L27 (fu 0 (S 127 0)) S x1_18 x2_18 1 0
        (q_27 = 0 →
          s_X11_cover_L18 n S x1_18 (x2_18 + (-1))) ∧ (¬ (q_27 = 0) →
          (s_X11_ones S x2_18) ∧ (
            let r_14 := f_X11_ones S x2_18
            (s_X11_ones S x1_18) ∧ (
              let r_16 := f_X11_ones S x1_18
              (r_16 < r_14 →
                s_X11_cover_L18 n S x1_18 (x2_18 + (-1))) ∧ (¬ (r_16 < r_14) →
                s_X11_cover_L18 n S x2_18 (x2_18 + (-1))))))))
def f_X11_cover (S : xS) : Int32 :=
  let q_18 := f_X11_cover_L18 (fd ((1 <<< ((S 127 0) &&& 31)) - 1)) S ((1 <<< ((S 127 0) &&& 31)) - 1) ((1 <<< ((S 127 0) &&& 31)) - 1)
  q_18
def s_X11_cover (S : xS) : Prop :=
  (s_X11_cover_L18 (fd ((1 <<< ((S 127 0) &&& 31)) - 1)) S ((1 <<< ((S 127 0) &&& 31)) - 1) ((1 <<< ((S 127 0) &&& 31)) - 1)) ∧ (
    let q_18 := f_X11_cover_L18 (fd ((1 <<< ((S 127 0) &&& 31)) - 1)) S ((1 <<< ((S 127 0) &&& 31)) - 1) ((1 <<< ((S 127 0) &&& 31)) - 1)
    True)
def f_X11_told (S : xS) (p0 : Int32) : Int32 :=
  if p0 = 0 then
    (S 127 0)
  else
    if p0 = 1 then
      (S 127 1)
    else
      if p0 = 2 then
        (S 127 2)
      else
        if p0 = 3 then
          (S 127 3)
        else
          if p0 = 4 then
            (S 127 6)
          else
            if p0 = 5 then
              (S 127 19)
            else
              if p0 = 6 then
                (S 131 (0 : Int32).toNatClampNeg)
              else
                if p0 = 7 then
                  (S 131 (1 : Int32).toNatClampNeg)
                else
                  if p0 = 8 then
                    let r_11 := f_X11_praised S
                    r_11
                  else
                    if p0 = 9 then
                      let r_14 := f_X11_silentBy S (-1)
                      r_14
                    else
                      if p0 = 10 then
                        let r_17 := f_X11_cover S
                        r_17
                      else
                        if p0 = 11 then
                          (S 127 11)
                        else
                          if p0 = 12 then
                            (S 127 15)
                          else
                            if p0 = 13 then
                              (S 127 36)
                            else
                              (-1000000002)
def s_X11_told (S : xS) (p0 : Int32) : Prop :=
  (p0 = 0 →
    True) ∧ (¬ (p0 = 0) →
    (p0 = 1 →
      True) ∧ (¬ (p0 = 1) →
      (p0 = 2 →
        True) ∧ (¬ (p0 = 2) →
        (p0 = 3 →
          True) ∧ (¬ (p0 = 3) →
          (p0 = 4 →
            True) ∧ (¬ (p0 = 4) →
            (p0 = 5 →
              True) ∧ (¬ (p0 = 5) →
              (p0 = 6 →
                True) ∧ (¬ (p0 = 6) →
                (p0 = 7 →
                  True) ∧ (¬ (p0 = 7) →
                  (p0 = 8 →
                    (s_X11_praised S) ∧ (
                      True)) ∧ (¬ (p0 = 8) →
                    (p0 = 9 →
                      (s_X11_silentBy S (-1)) ∧ (
                        True)) ∧ (¬ (p0 = 9) →
                      (p0 = 10 →
                        (s_X11_cover S) ∧ (
                          True)) ∧ (¬ (p0 = 10) →
                        True)))))))))))
def f_X11_whoIsIn_L4 : Nat → xS → Int32 → Int32 → Int32 → (Int32)
  | 0, S, x1_4, x2_4, x3_4 => (x2_4)
  | n + 1, S, x1_4, x2_4, x3_4 =>
    if (S 127 6) ≤ x3_4 then
      x2_4
    else
      if (S 131 ((2 + x3_4)).toNatClampNeg) = x1_4 then
        f_X11_whoIsIn_L4 n S x1_4 (x2_4 ||| (1 <<< (x3_4 &&& 31))) (x3_4 + 1)
      else
        f_X11_whoIsIn_L4 n S x1_4 (x2_4 ||| 0) (x3_4 + 1)
def s_X11_whoIsIn_L4 : Nat → xS → Int32 → Int32 → Int32 → Prop
  | 0, _, _, _, _ => False
  | n + 1, S, x1_4, x2_4, x3_4 =>
    ((S 127 6) ≤ x3_4 →
      True) ∧ (¬ ((S 127 6) ≤ x3_4) →
      (vp_in (2 + x3_4) 72) ∧ (
        ((S 131 ((2 + x3_4)).toNatClampNeg) = x1_4 →
          s_X11_whoIsIn_L4 n S x1_4 (x2_4 ||| (1 <<< (x3_4 &&& 31))) (x3_4 + 1)) ∧ (¬ ((S 131 ((2 + x3_4)).toNatClampNeg) = x1_4) →
          s_X11_whoIsIn_L4 n S x1_4 (x2_4 ||| 0) (x3_4 + 1))))
def f_X11_whoIsIn (S : xS) (p0 : Int32) : Int32 :=
  let q_4 := f_X11_whoIsIn_L4 (fu 0 (S 127 6)) S p0 0 0
  q_4
def s_X11_whoIsIn (S : xS) (p0 : Int32) : Prop :=
  (s_X11_whoIsIn_L4 (fu 0 (S 127 6)) S p0 0 0) ∧ (
    let q_4 := f_X11_whoIsIn_L4 (fu 0 (S 127 6)) S p0 0 0
    True)
def f_X11_room (S : xS) (p0 : Int32) (p1 : Int32) : Int32 :=
  let r_1 := f_X11_isRoom S p0
  if r_1 = 0 then
    (-1000000001)
  else
    if p1 = 0 then
      let r_9 := f_X11_whoIsIn S p0
      r_9
    else
      if p1 = 1 then
        (S 128 (p0).toNatClampNeg)
      else
        if p1 = 2 then
          (S 129 (p0).toNatClampNeg)
        else
          (-1000000002)
def s_X11_room (S : xS) (p0 : Int32) (p1 : Int32) : Prop :=
  let r_1 := f_X11_isRoom S p0
  (r_1 = 0 →
    True) ∧ (¬ (r_1 = 0) →
    (p1 = 0 →
      (s_X11_whoIsIn S p0) ∧ (
        True)) ∧ (¬ (p1 = 0) →
      (p1 = 1 →
        (vp_in p0 6) ∧ (
          True)) ∧ (¬ (p1 = 1) →
        (p1 = 2 →
          (vp_in p0 6) ∧ (
            True)) ∧ (¬ (p1 = 2) →
          True))))
def f_X11_person (S : xS) (p0 : Int32) (p1 : Int32) : Int32 :=
  let r_1 := f_X11_isPerson S p0
  if r_1 = 0 then
    (-1000000001)
  else
    if p1 = 0 then
      (S 130 (p0).toNatClampNeg)
    else
      if p1 = 1 then
        (S 131 ((2 + p0)).toNatClampNeg)
      else
        if p1 = 2 then
          ((S 131 ((9 + p0)).toNatClampNeg) + 10000)
        else
          if p1 = 3 then
            (S 131 ((16 + p0)).toNatClampNeg)
          else
            if p1 = 4 then
              (((S 131 (1 : Int32).toNatClampNeg) >>> (p0 &&& 31)) &&& 1)
            else
              (-1000000002)
def s_X11_person (S : xS) (p0 : Int32) (p1 : Int32) : Prop :=
  let r_1 := f_X11_isPerson S p0
  (r_1 = 0 →
    True) ∧ (¬ (r_1 = 0) →
    (p1 = 0 →
      (vp_in p0 7) ∧ (
        True)) ∧ (¬ (p1 = 0) →
      (p1 = 1 →
        (vp_in (2 + p0) 72) ∧ (
          True)) ∧ (¬ (p1 = 1) →
        (p1 = 2 →
          (vp_in (9 + p0) 72) ∧ (
            True)) ∧ (¬ (p1 = 2) →
          (p1 = 3 →
            (vp_in (16 + p0) 72) ∧ (
              True)) ∧ (¬ (p1 = 3) →
            True)))))
def f_X11_liking (S : xS) (p0 : Int32) (p1 : Int32) : Int32 :=
  let r_1 := f_X11_areTwo S p0 p1
  if r_1 = 0 then
    (-1000000001)
  else
    (S 131 (((23 + (7 * p0)) + p1)).toNatClampNeg)
def s_X11_liking (S : xS) (p0 : Int32) (p1 : Int32) : Prop :=
  let r_1 := f_X11_areTwo S p0 p1
  (r_1 = 0 →
    True) ∧ (¬ (r_1 = 0) →
    (vp_in ((23 + (7 * p0)) + p1) 72) ∧ (
      True))
def f_X11_said (S : xS) (p0 : Int32) (p1 : Int32) (p2 : Int32) : Int32 :=
  let r_1 := f_X11_areTwo S p0 p1
  if r_1 = 0 then
    (-1000000001)
  else
    if p2 = 0 then
      let r_9 := f_X11_says S 131 p0 p1
      (r_9 + 100)
    else
      if p2 = 1 then
        let r_6 := f_X11_hears S 131 p0 p1
        if r_6 = 0 then
          0
        else
          1
      else
        (-1000000002)
def s_X11_said (S : xS) (p0 : Int32) (p1 : Int32) (p2 : Int32) : Prop :=
  let r_1 := f_X11_areTwo S p0 p1
  (r_1 = 0 →
    True) ∧ (¬ (r_1 = 0) →
    (p2 = 0 →
      (s_X11_says S 131 p0 p1) ∧ (
        True)) ∧ (¬ (p2 = 0) →
      (p2 = 1 →
        (s_X11_hears S 131 p0 p1) ∧ (
          True)) ∧ (¬ (p2 = 1) →
        True)))
def f_X11_remember_L52 : Nat → xS → Int32 → (xS)
  | 0, T_52, x1_52 => (T_52)
  | n + 1, T_52, x1_52 =>
    if 72 ≤ x1_52 then
      T_52
    else
      let S_6 := xu T_52 144 (((72 * (T_52 127 36)) + x1_52)).toNatClampNeg (T_52 131 (x1_52).toNatClampNeg)
      f_X11_remember_L52 n S_6 (x1_52 + 1)
def s_X11_remember_L52 : Nat → xS → Int32 → Prop
  | 0, _, _ => False
  | n + 1, T_52, x1_52 =>
    (72 ≤ x1_52 →
      True) ∧ (¬ (72 ≤ x1_52) →
      (vp_in x1_52 72) ∧ (
        (vp_in ((72 * (T_52 127 36)) + x1_52) 1152) ∧ (
          let S_6 := xu T_52 144 (((72 * (T_52 127 36)) + x1_52)).toNatClampNeg (T_52 131 (x1_52).toNatClampNeg)
          s_X11_remember_L52 n S_6 (x1_52 + 1))))
def f_X11_remember_L12 : Nat → xS → Int32 → (xS)
  | 0, T_12, x1_12 => (T_12)
  | n + 1, T_12, x1_12 =>
    if 1152 ≤ x1_12 then
      T_12
    else
      let S_13 := xu T_12 144 ((x1_12 - 72)).toNatClampNeg (T_12 144 (x1_12).toNatClampNeg)
      f_X11_remember_L12 n S_13 (x1_12 + 1)
def s_X11_remember_L12 : Nat → xS → Int32 → Prop
  | 0, _, _ => False
  | n + 1, T_12, x1_12 =>
    (1152 ≤ x1_12 →
      True) ∧ (¬ (1152 ≤ x1_12) →
      (vp_in x1_12 1152) ∧ (
        (vp_in (x1_12 - 72) 1152) ∧ (
          let S_13 := xu T_12 144 ((x1_12 - 72)).toNatClampNeg (T_12 144 (x1_12).toNatClampNeg)
          s_X11_remember_L12 n S_13 (x1_12 + 1))))
def f_X11_remember (S : xS) : xS :=
  if (S 127 36) = 16 then
    let q_12 := f_X11_remember_L12 (fu 72 1152) S 72
    let S_15 := xu q_12 127 36 ((q_12 127 36) - 1)
    let q_52 := f_X11_remember_L52 (fu 0 72) S_15 0
    let S_22 := xu q_52 127 36 ((q_52 127 36) + 1)
    S_22
  else
    let q_52 := f_X11_remember_L52 (fu 0 72) S 0
    let S_8 := xu q_52 127 36 ((q_52 127 36) + 1)
    S_8
def s_X11_remember (S : xS) : Prop :=
  ((S 127 36) = 16 →
    (s_X11_remember_L12 (fu 72 1152) S 72) ∧ (
      let q_12 := f_X11_remember_L12 (fu 72 1152) S 72
      let S_15 := xu q_12 127 36 ((q_12 127 36) - 1)
      (s_X11_remember_L52 (fu 0 72) S_15 0) ∧ (
        let q_52 := f_X11_remember_L52 (fu 0 72) S_15 0
        True))) ∧ (¬ ((S 127 36) = 16) →
    (s_X11_remember_L52 (fu 0 72) S 0) ∧ (
      let q_52 := f_X11_remember_L52 (fu 0 72) S 0
      True))
def f_X11_hoursRefused (S : xS) (p0 : Int32) : Int32 :=
  let r_1 := f_X11_in S (p0 : Int32).toInt64 1 60
  if r_1 = 0 then
    (-1000000002)
  else
    if (S 127 0) = 0 then
      (-1000000003)
    else
      if (S 131 (0 : Int32).toNatClampNeg) ≤ 9000 then
        0
      else
        (-1000000004)
def f_X11_hour_L18 : Nat → xS → Int32 → Int32 → (xS)
  | 0, T_18, x1_18, x3_18 => (T_18)
  | n + 1, T_18, x1_18, x3_18 =>
    if x1_18 ≤ x3_18 then
      T_18
    else
      let S_8 := f_X11_passes T_18 131
      f_X11_hour_L18 n S_8 x1_18 (x3_18 + 1)
def s_X11_hour_L18 : Nat → xS → Int32 → Int32 → Prop
  | 0, _, _, _ => False
  | n + 1, T_18, x1_18, x3_18 =>
    (x1_18 ≤ x3_18 →
      True) ∧ (¬ (x1_18 ≤ x3_18) →
      (s_X11_passes T_18 131) ∧ (
        let S_8 := f_X11_passes T_18 131
        s_X11_hour_L18 n S_8 x1_18 (x3_18 + 1)))
def f_X11_hour (S : xS) (p0 : Int32) : (Int32 × xS) :=
  let r_1 := f_X11_hoursRefused S p0
  if r_1 = 0 then
    let S_4 := f_X11_remember S
    let q_18 := f_X11_hour_L18 (fu 0 p0) S_4 p0 0
    ((q_18 131 (0 : Int32).toNatClampNeg), q_18)
  else
    (r_1, S)
def s_X11_hour (S : xS) (p0 : Int32) : Prop :=
  let r_1 := f_X11_hoursRefused S p0
  (r_1 = 0 →
    (s_X11_remember S) ∧ (
      let S_4 := f_X11_remember S
      (s_X11_hour_L18 (fu 0 p0) S_4 p0 0) ∧ (
        let q_18 := f_X11_hour_L18 (fu 0 p0) S_4 p0 0
        True))) ∧ (¬ (r_1 = 0) →
    True)
def f_X11_go (S : xS) (p0 : Int32) (p1 : Int32) : (Int32 × xS) :=
  let r_1 := f_X11_isPerson S p0
  if r_1 = 0 then
    ((-1000000001), S)
  else
    let r_3 := f_X11_isRoom S p1
    if r_3 = 0 then
      ((-1000000001), S)
    else
      let r_7 := f_X11_has S (S 129 ((S 131 ((2 + p0)).toNatClampNeg)).toNatClampNeg) p1
      if r_7 = 0 then
        ((-1000000003), S)
      else
        let S_10 := f_X11_remember S
        let S_11 := xu S_10 131 ((2 + p0)).toNatClampNeg p1
        ((S 131 ((2 + p0)).toNatClampNeg), S_11)
def s_X11_go (S : xS) (p0 : Int32) (p1 : Int32) : Prop :=
  let r_1 := f_X11_isPerson S p0
  (r_1 = 0 →
    True) ∧ (¬ (r_1 = 0) →
    let r_3 := f_X11_isRoom S p1
    (r_3 = 0 →
      True) ∧ (¬ (r_3 = 0) →
      (vp_in (2 + p0) 72) ∧ (
        (vp_in (S 131 ((2 + p0)).toNatClampNeg) 6) ∧ (
          let r_7 := f_X11_has S (S 129 ((S 131 ((2 + p0)).toNatClampNeg)).toNatClampNeg) p1
          (r_7 = 0 →
            True) ∧ (¬ (r_7 = 0) →
            (s_X11_remember S) ∧ (
              True))))))
def f_X11_cough (S : xS) (p0 : Int32) : (Int32 × xS) :=
  let r_1 := f_X11_isPerson S p0
  if r_1 = 0 then
    ((-1000000001), S)
  else
    let r_3 := f_X11_has S (S 131 (1 : Int32).toNatClampNeg) p0
    if r_3 = 0 then
      let S_6 := f_X11_remember S
      let S_7 := xu S_6 131 (1 : Int32).toNatClampNeg ((S_6 131 (1 : Int32).toNatClampNeg) ||| (1 <<< (p0 &&& 31)))
      ((S_7 131 (1 : Int32).toNatClampNeg), S_7)
    else
      ((-1000000003), S)
def s_X11_cough (S : xS) (p0 : Int32) : Prop :=
  let r_1 := f_X11_isPerson S p0
  (r_1 = 0 →
    True) ∧ (¬ (r_1 = 0) →
    let r_3 := f_X11_has S (S 131 (1 : Int32).toNatClampNeg) p0
    (r_3 = 0 →
      (s_X11_remember S) ∧ (
        True)) ∧ (¬ (r_3 = 0) →
      True))
def f_X11_like (S : xS) (p0 : Int32) (p1 : Int32) (p2 : Int32) : (Int32 × xS) :=
  let r_1 := f_X11_areTwo S p0 p1
  if r_1 = 0 then
    ((-1000000001), S)
  else
    let r_3 := f_X11_in S (p2 : Int32).toInt64 0 9
    if r_3 = 0 then
      ((-1000000002), S)
    else
      let S_6 := f_X11_remember S
      let S_8 := xu S_6 131 (((23 + (7 * p0)) + p1)).toNatClampNeg p2
      ((S_6 131 (((23 + (7 * p0)) + p1)).toNatClampNeg), S_8)
def s_X11_like (S : xS) (p0 : Int32) (p1 : Int32) (p2 : Int32) : Prop :=
  let r_1 := f_X11_areTwo S p0 p1
  (r_1 = 0 →
    True) ∧ (¬ (r_1 = 0) →
    let r_3 := f_X11_in S (p2 : Int32).toInt64 0 9
    (r_3 = 0 →
      True) ∧ (¬ (r_3 = 0) →
      (s_X11_remember S) ∧ (
        let S_6 := f_X11_remember S
        (vp_in ((23 + (7 * p0)) + p1) 72) ∧ (
          True))))
def f_X11_draw (S : xS) (p0 : Int32) : (Int32 × xS) :=
  let S_1 := xu S 127 10 ((((((S 127 10) : Int32).toInt64 * 1103515245) + 12345) - ((((S 127 10) : Int32).toInt64 * 1103515245) + 12345) / 2147483648 * 2147483648)).toInt32
  ((((S_1 127 10) / 65536) - ((S_1 127 10) / 65536) / p0 * p0), S_1)
def s_X11_draw (S : xS) (p0 : Int32) : Prop :=
  let S_1 := xu S 127 10 ((((((S 127 10) : Int32).toInt64 * 1103515245) + 12345) - ((((S 127 10) : Int32).toInt64 * 1103515245) + 12345) / 2147483648 * 2147483648)).toInt32
  (¬ (p0 = 0)) ∧ (
    True)
def f_X11_chance (S : xS) : xS :=
  let q_4 := f_X11_draw S 4
  let r_2 := q_4.1
  let S_3 := q_4.2
  let q_8 := f_X11_draw S_3 (S_3 127 6)
  let r_6 := q_8.1
  let S_7 := q_8.2
  if r_2 = 0 then
    let q_29 := f_X11_draw S_7 (S_7 127 0)
    let r_27 := q_29.1
    let S_28 := q_29.2
    let r_32 := f_X11_has S_28 (S_28 129 ((S_28 131 ((2 + r_6)).toNatClampNeg)).toNatClampNeg) r_27
    if r_32 = 0 then
      let S_34 := xu S_28 131 ((2 + r_6)).toNatClampNeg (S_28 131 ((2 + r_6)).toNatClampNeg)
      S_34
    else
      let S_35 := xu S_28 131 ((2 + r_6)).toNatClampNeg r_27
      S_35
  else
    if r_2 = 1 then
      let S_25 := xu S_7 131 (1 : Int32).toNatClampNeg ((S_7 131 (1 : Int32).toNatClampNeg) ||| (1 <<< (r_6 &&& 31)))
      S_25
    else
      if r_2 = 2 then
        let q_15 := f_X11_draw S_7 (S_7 127 6)
        let r_13 := q_15.1
        let S_14 := q_15.2
        let q_19 := f_X11_draw S_14 10
        let r_17 := q_19.1
        let S_18 := q_19.2
        if r_13 = r_6 then
          let S_24 := xu S_18 131 (((23 + (7 * r_6)) + r_13)).toNatClampNeg (S_18 131 (((23 + (7 * r_6)) + r_13)).toNatClampNeg)
          S_24
        else
          let S_22 := xu S_18 131 (((23 + (7 * r_6)) + r_13)).toNatClampNeg r_17
          S_22
      else
        S_7
def s_X11_chance (S : xS) : Prop :=
  (s_X11_draw S 4) ∧ (
    let q_4 := f_X11_draw S 4
    let r_2 := q_4.1
    let S_3 := q_4.2
    (s_X11_draw S_3 (S_3 127 6)) ∧ (
      let q_8 := f_X11_draw S_3 (S_3 127 6)
      let r_6 := q_8.1
      let S_7 := q_8.2
      (r_2 = 0 →
        (s_X11_draw S_7 (S_7 127 0)) ∧ (
          let q_29 := f_X11_draw S_7 (S_7 127 0)
          let r_27 := q_29.1
          let S_28 := q_29.2
          (vp_in (2 + r_6) 72) ∧ (
            (vp_in (S_28 131 ((2 + r_6)).toNatClampNeg) 6) ∧ (
              True)))) ∧ (¬ (r_2 = 0) →
        (r_2 = 1 →
          True) ∧ (¬ (r_2 = 1) →
          (r_2 = 2 →
            (s_X11_draw S_7 (S_7 127 6)) ∧ (
              let q_15 := f_X11_draw S_7 (S_7 127 6)
              let r_13 := q_15.1
              let S_14 := q_15.2
              (s_X11_draw S_14 10) ∧ (
                let q_19 := f_X11_draw S_14 10
                let r_17 := q_19.1
                let S_18 := q_19.2
                (r_13 = r_6 →
                  (vp_in ((23 + (7 * r_6)) + r_13) 72) ∧ (
                    True)) ∧ (¬ (r_13 = r_6) →
                  (vp_in ((23 + (7 * r_6)) + r_13) 72) ∧ (
                    True))))) ∧ (¬ (r_2 = 2) →
            True)))))
def f_X11_drift_L18 : Nat → xS → Int32 → Int32 → (xS)
  | 0, T_18, x1_18, x3_18 => (T_18)
  | n + 1, T_18, x1_18, x3_18 =>
    if x1_18 ≤ x3_18 then
      T_18
    else
      if (T_18 127 6) ≤ 0 then
        let S_9 := f_X11_passes T_18 131
        f_X11_drift_L18 n S_9 x1_18 (x3_18 + 1)
      else
        let S_12 := f_X11_chance T_18
        let S_14 := f_X11_passes S_12 131
        f_X11_drift_L18 n S_14 x1_18 (x3_18 + 1)
def s_X11_drift_L18 : Nat → xS → Int32 → Int32 → Prop
  | 0, _, _, _ => False
  | n + 1, T_18, x1_18, x3_18 =>
    (x1_18 ≤ x3_18 →
      True) ∧ (¬ (x1_18 ≤ x3_18) →
      ((T_18 127 6) ≤ 0 →
        (s_X11_passes T_18 131) ∧ (
          let S_9 := f_X11_passes T_18 131
          s_X11_drift_L18 n S_9 x1_18 (x3_18 + 1))) ∧ (¬ ((T_18 127 6) ≤ 0) →
        (s_X11_chance T_18) ∧ (
          let S_12 := f_X11_chance T_18
          (s_X11_passes S_12 131) ∧ (
            let S_14 := f_X11_passes S_12 131
            s_X11_drift_L18 n S_14 x1_18 (x3_18 + 1)))))
def f_X11_drift (S : xS) (p0 : Int32) : (Int32 × xS) :=
  let r_1 := f_X11_hoursRefused S p0
  if r_1 = 0 then
    let S_4 := f_X11_remember S
    let q_18 := f_X11_drift_L18 (fu 0 p0) S_4 p0 0
    ((q_18 131 (0 : Int32).toNatClampNeg), q_18)
  else
    (r_1, S)
def s_X11_drift (S : xS) (p0 : Int32) : Prop :=
  let r_1 := f_X11_hoursRefused S p0
  (r_1 = 0 →
    (s_X11_remember S) ∧ (
      let S_4 := f_X11_remember S
      (s_X11_drift_L18 (fu 0 p0) S_4 p0 0) ∧ (
        let q_18 := f_X11_drift_L18 (fu 0 p0) S_4 p0 0
        True))) ∧ (¬ (r_1 = 0) →
    True)
def f_X11_undo_L22 : Nat → xS → Int32 → (xS)
  | 0, T_22, x1_22 => (T_22)
  | n + 1, T_22, x1_22 =>
    if 72 ≤ x1_22 then
      T_22
    else
      let S_7 := xu T_22 131 (x1_22).toNatClampNeg (T_22 144 (((72 * (T_22 127 36)) + x1_22)).toNatClampNeg)
      f_X11_undo_L22 n S_7 (x1_22 + 1)
def s_X11_undo_L22 : Nat → xS → Int32 → Prop
  | 0, _, _ => False
  | n + 1, T_22, x1_22 =>
    (72 ≤ x1_22 →
      True) ∧ (¬ (72 ≤ x1_22) →
      (vp_in ((72 * (T_22 127 36)) + x1_22) 1152) ∧ (
        (vp_in x1_22 72) ∧ (
          let S_7 := xu T_22 131 (x1_22).toNatClampNeg (T_22 144 (((72 * (T_22 127 36)) + x1_22)).toNatClampNeg)
          s_X11_undo_L22 n S_7 (x1_22 + 1))))
def f_X11_undo (S : xS) : (Int32 × xS) :=
  if (S 127 36) = 0 then
    ((-1000000003), S)
  else
    let S_2 := xu S 127 36 ((S 127 36) - 1)
    let q_22 := f_X11_undo_L22 (fu 0 72) S_2 0
    ((q_22 127 36), q_22)
def s_X11_undo (S : xS) : Prop :=
  ((S 127 36) = 0 →
    True) ∧ (¬ ((S 127 36) = 0) →
    let S_2 := xu S 127 36 ((S 127 36) - 1)
    (s_X11_undo_L22 (fu 0 72) S_2 0) ∧ (
      let q_22 := f_X11_undo_L22 (fu 0 72) S_2 0
      True))
def f_X11_tries_L2 : Nat → xS → Int32 → (xS)
  | 0, T_2, x1_2 => (T_2)
  | n + 1, T_2, x1_2 =>
    if 72 ≤ x1_2 then
      T_2
    else
      let S_4 := xu T_2 132 (x1_2).toNatClampNeg (T_2 131 (x1_2).toNatClampNeg)
      f_X11_tries_L2 n S_4 (x1_2 + 1)
def s_X11_tries_L2 : Nat → xS → Int32 → Prop
  | 0, _, _ => False
  | n + 1, T_2, x1_2 =>
    (72 ≤ x1_2 →
      True) ∧ (¬ (72 ≤ x1_2) →
      (vp_in x1_2 72) ∧ (
        let S_4 := xu T_2 132 (x1_2).toNatClampNeg (T_2 131 (x1_2).toNatClampNeg)
        s_X11_tries_L2 n S_4 (x1_2 + 1)))
def f_X11_tries (S : xS) : xS :=
  let q_2 := f_X11_tries_L2 (fu 0 72) S 0
  q_2
def s_X11_tries (S : xS) : Prop :=
  (s_X11_tries_L2 (fu 0 72) S 0) ∧ (
    let q_2 := f_X11_tries_L2 (fu 0 72) S 0
    True)
def f_X11_warm_L32 : Nat → xS → Int32 → Int32 → Int32 → (xS)
  | 0, T_32, x1_32, x2_32, x3_32 => (T_32)
  | n + 1, T_32, x1_32, x2_32, x3_32 =>
    if x2_32 ≤ x3_32 then
      T_32
    else
      let S_10 := f_X11_passes T_32 132
      f_X11_warm_L32 n S_10 x1_32 x2_32 (x3_32 + 1)
def s_X11_warm_L32 : Nat → xS → Int32 → Int32 → Int32 → Prop
  | 0, _, _, _, _ => False
  | n + 1, T_32, x1_32, x2_32, x3_32 =>
    (x2_32 ≤ x3_32 →
      True) ∧ (¬ (x2_32 ≤ x3_32) →
      (s_X11_passes T_32 132) ∧ (
        let S_10 := f_X11_passes T_32 132
        s_X11_warm_L32 n S_10 x1_32 x2_32 (x3_32 + 1)))
def f_X11_warm (S : xS) (p0 : Int32) (p1 : Int32) : (Int32 × xS) :=
  let r_1 := f_X11_isPerson S p0
  if r_1 = 0 then
    ((-1000000001), S)
  else
    let r_3 := f_X11_in S (p1 : Int32).toInt64 0 100
    if r_3 = 0 then
      ((-1000000002), S)
    else
      let S_6 := f_X11_tries S
      let q_32 := f_X11_warm_L32 (fu 0 p1) S_6 p0 p1 0
      (((q_32 132 ((9 + p0)).toNatClampNeg) + 10000), q_32)
def s_X11_warm (S : xS) (p0 : Int32) (p1 : Int32) : Prop :=
  let r_1 := f_X11_isPerson S p0
  (r_1 = 0 →
    True) ∧ (¬ (r_1 = 0) →
    let r_3 := f_X11_in S (p1 : Int32).toInt64 0 100
    (r_3 = 0 →
      True) ∧ (¬ (r_3 = 0) →
      (s_X11_tries S) ∧ (
        let S_6 := f_X11_tries S
        (s_X11_warm_L32 (fu 0 p1) S_6 p0 p1 0) ∧ (
          let q_32 := f_X11_warm_L32 (fu 0 p1) S_6 p0 p1 0
          (vp_in (9 + p0) 72) ∧ (
            True)))))
def f_X11_bestRoom_L72 : Nat → xS → Int32 → Int32 → Int32 → Int32 → Int32 → Int32 → Int32 → (xS)
  | 0, T_72, x1_72, x2_72, x3_72, x4_72, x5_72, x6_72, x7_72 => (T_72)
  | n + 1, T_72, x1_72, x2_72, x3_72, x4_72, x5_72, x6_72, x7_72 =>
    if x2_72 ≤ x7_72 then
      T_72
    else
      let S_16 := f_X11_passes T_72 132
      f_X11_bestRoom_L72 n S_16 x1_72 x2_72 x3_72 x4_72 x5_72 x6_72 (x7_72 + 1)
def s_X11_bestRoom_L72 : Nat → xS → Int32 → Int32 → Int32 → Int32 → Int32 → Int32 → Int32 → Prop
  | 0, _, _, _, _, _, _, _, _ => False
  | n + 1, T_72, x1_72, x2_72, x3_72, x4_72, x5_72, x6_72, x7_72 =>
    (x2_72 ≤ x7_72 →
      True) ∧ (¬ (x2_72 ≤ x7_72) →
      (s_X11_passes T_72 132) ∧ (
        let S_16 := f_X11_passes T_72 132
        s_X11_bestRoom_L72 n S_16 x1_72 x2_72 x3_72 x4_72 x5_72 x6_72 (x7_72 + 1)))
def f_X11_bestRoom_L46 : Nat → xS → Int32 → Int32 → Int32 → Int32 → Int32 → Int32 → (Int32 × Int32 × xS)
  | 0, T_46, x1_46, x2_46, x3_46, x4_46, x5_46, x6_46 => (x4_46, x5_46, T_46)
  | n + 1, T_46, x1_46, x2_46, x3_46, x4_46, x5_46, x6_46 =>
    if (T_46 127 0) ≤ x6_46 then
      (x4_46, x5_46, T_46)
    else
      let S_10 := f_X11_tries T_46
      let S_12 := xu S_10 132 ((2 + x1_46)).toNatClampNeg x6_46
      let q_72 := f_X11_bestRoom_L72 (fu 0 x2_46) S_12 x1_46 x2_46 x3_46 x4_46 x5_46 x6_46 0
      if (q_72 132 ((9 + x1_46)).toNatClampNeg) ≤ x5_46 then
        f_X11_bestRoom_L46 n q_72 x1_46 x2_46 x3_46 x4_46 x5_46 (x6_46 + 1)
      else
        f_X11_bestRoom_L46 n q_72 x1_46 x2_46 x3_46 x6_46 (q_72 132 ((9 + x1_46)).toNatClampNeg) (x6_46 + 1)
def s_X11_bestRoom_L46 : Nat → xS → Int32 → Int32 → Int32 → Int32 → Int32 → Int32 → Prop
  | 0, _, _, _, _, _, _, _ => False
  | n + 1, T_46, x1_46, x2_46, x3_46, x4_46, x5_46, x6_46 =>
    ((T_46 127 0) ≤ x6_46 →
      True) ∧ (¬ ((T_46 127 0) ≤ x6_46) →
      (s_X11_tries T_46) ∧ (
        let S_10 := f_X11_tries T_46
        (vp_in (2 + x1_46) 72) ∧ (
          let S_12 := xu S_10 132 ((2 + x1_46)).toNatClampNeg x6_46
          (s_X11_bestRoom_L72 (fu 0 x2_46) S_12 x1_46 x2_46 x3_46 x4_46 x5_46 x6_46 0) ∧ (
            let q_72 := f_X11_bestRoom_L72 (fu 0 x2_46) S_12 x1_46 x2_46 x3_46 x4_46 x5_46 x6_46 0
            (vp_in (9 + x1_46) 72) ∧ (
              ((q_72 132 ((9 + x1_46)).toNatClampNeg) ≤ x5_46 →
                s_X11_bestRoom_L46 n q_72 x1_46 x2_46 x3_46 x4_46 x5_46 (x6_46 + 1)) ∧ (¬ ((q_72 132 ((9 + x1_46)).toNatClampNeg) ≤ x5_46) →
                s_X11_bestRoom_L46 n q_72 x1_46 x2_46 x3_46 x6_46 (q_72 132 ((9 + x1_46)).toNatClampNeg) (x6_46 + 1)))))))
def f_X11_bestRoom (S : xS) (p0 : Int32) (p1 : Int32) (p2 : Int32) : (Int32 × xS) :=
  let r_1 := f_X11_isPerson S p0
  if r_1 = 0 then
    ((-1000000001), S)
  else
    let r_3 := f_X11_in S (p1 : Int32).toInt64 1 30
    if r_3 = 0 then
      ((-1000000002), S)
    else
      let r_5 := f_X11_in S (p2 : Int32).toInt64 0 1
      if r_5 = 0 then
        ((-1000000002), S)
      else
        let q_46 := f_X11_bestRoom_L46 (fu 0 (S 127 0)) S p0 p1 p2 0 (-1000000) 0
        if p2 = 0 then
          (q_46.1, q_46.2.2)
        else
          ((q_46.2.1 + 10000), q_46.2.2)
def s_X11_bestRoom (S : xS) (p0 : Int32) (p1 : Int32) (p2 : Int32) : Prop :=
  let r_1 := f_X11_isPerson S p0
  (r_1 = 0 →
    True) ∧ (¬ (r_1 = 0) →
    let r_3 := f_X11_in S (p1 : Int32).toInt64 1 30
    (r_3 = 0 →
      True) ∧ (¬ (r_3 = 0) →
      let r_5 := f_X11_in S (p2 : Int32).toInt64 0 1
      (r_5 = 0 →
        True) ∧ (¬ (r_5 = 0) →
        (s_X11_bestRoom_L46 (fu 0 (S 127 0)) S p0 p1 p2 0 (-1000000) 0) ∧ (
          let q_46 := f_X11_bestRoom_L46 (fu 0 (S 127 0)) S p0 p1 p2 0 (-1000000) 0
          True))))
def f_X11_warmer_L36 : Nat → xS → Int32 → Int32 → Int32 → Int32 → (Int32)
  | 0, S_4, x1_36, x3_36, x5_36, x6_36 => (x5_36)
  | n + 1, S_4, x1_36, x3_36, x5_36, x6_36 =>
    if (S_4 127 6) ≤ x6_36 then
      x5_36
    else
      if x6_36 = x1_36 then
        f_X11_warmer_L36 n S_4 x1_36 x3_36 (x5_36 + 0) (x6_36 + 1)
      else
        let r_10 := f_X11_spokenOf S_4 x6_36 x3_36
        if r_10 = x1_36 then
          let r_14 := f_X11_hears S_4 132 x6_36 x1_36
          if r_14 = 0 then
            f_X11_warmer_L36 n S_4 x1_36 x3_36 (x5_36 + 0) (x6_36 + 1)
          else
            let r_18 := f_X11_says S_4 132 x6_36 x1_36
            f_X11_warmer_L36 n S_4 x1_36 x3_36 (x5_36 + r_18) (x6_36 + 1)
        else
          f_X11_warmer_L36 n S_4 x1_36 x3_36 (x5_36 + 0) (x6_36 + 1)
def s_X11_warmer_L36 : Nat → xS → Int32 → Int32 → Int32 → Int32 → Prop
  | 0, _, _, _, _, _ => False
  | n + 1, S_4, x1_36, x3_36, x5_36, x6_36 =>
    ((S_4 127 6) ≤ x6_36 →
      True) ∧ (¬ ((S_4 127 6) ≤ x6_36) →
      (x6_36 = x1_36 →
        s_X11_warmer_L36 n S_4 x1_36 x3_36 (x5_36 + 0) (x6_36 + 1)) ∧ (¬ (x6_36 = x1_36) →
        (s_X11_spokenOf S_4 x6_36 x3_36) ∧ (
          let r_10 := f_X11_spokenOf S_4 x6_36 x3_36
          (r_10 = x1_36 →
            (s_X11_hears S_4 132 x6_36 x1_36) ∧ (
              let r_14 := f_X11_hears S_4 132 x6_36 x1_36
              (r_14 = 0 →
                s_X11_warmer_L36 n S_4 x1_36 x3_36 (x5_36 + 0) (x6_36 + 1)) ∧ (¬ (r_14 = 0) →
                (s_X11_says S_4 132 x6_36 x1_36) ∧ (
                  let r_18 := f_X11_says S_4 132 x6_36 x1_36
                  s_X11_warmer_L36 n S_4 x1_36 x3_36 (x5_36 + r_18) (x6_36 + 1))))) ∧ (¬ (r_10 = x1_36) →
            s_X11_warmer_L36 n S_4 x1_36 x3_36 (x5_36 + 0) (x6_36 + 1)))))
def f_X11_warmer (S : xS) (p0 : Int32) (p1 : Int32) (p2 : Int32) (p3 : Int32) : (Int32 × xS) :=
  let S_2 := xu S 132 ((2 + p0)).toNatClampNeg p1
  if p3 = 0 then
    let S_4 := xu S_2 132 (1 : Int32).toNatClampNeg 0
    let q_36 := f_X11_warmer_L36 (fu 0 (S_4 127 6)) S_4 p0 p2 0 0
    (q_36, S_4)
  else
    let S_20 := xu S_2 132 (1 : Int32).toNatClampNeg (S_2 131 (1 : Int32).toNatClampNeg)
    let q_36 := f_X11_warmer_L36 (fu 0 (S_20 127 6)) S_20 p0 p2 0 0
    (q_36, S_20)
def s_X11_warmer (S : xS) (p0 : Int32) (p1 : Int32) (p2 : Int32) (p3 : Int32) : Prop :=
  (vp_in (2 + p0) 72) ∧ (
    let S_2 := xu S 132 ((2 + p0)).toNatClampNeg p1
    (p3 = 0 →
      let S_4 := xu S_2 132 (1 : Int32).toNatClampNeg 0
      (s_X11_warmer_L36 (fu 0 (S_4 127 6)) S_4 p0 p2 0 0) ∧ (
        let q_36 := f_X11_warmer_L36 (fu 0 (S_4 127 6)) S_4 p0 p2 0 0
        True)) ∧ (¬ (p3 = 0) →
      let S_20 := xu S_2 132 (1 : Int32).toNatClampNeg (S_2 131 (1 : Int32).toNatClampNeg)
      (s_X11_warmer_L36 (fu 0 (S_20 127 6)) S_20 p0 p2 0 0) ∧ (
        let q_36 := f_X11_warmer_L36 (fu 0 (S_20 127 6)) S_20 p0 p2 0 0
        True)))
def f_X11_route_L43 : Nat → xS → Int32 → Int32 → Int32 → Int32 → (xS)
  | 0, T_43, x1_43, x2_43, x3_43, x4_43 => (T_43)
  | n + 1, T_43, x1_43, x2_43, x3_43, x4_43 =>
    if 6 ≤ x4_43 then
      T_43
    else
      let S_12 := xu T_43 145 (((6 * x2_43) + x4_43)).toNatClampNeg 0
      f_X11_route_L43 n S_12 x1_43 x2_43 x3_43 (x4_43 + 1)
def s_X11_route_L43 : Nat → xS → Int32 → Int32 → Int32 → Int32 → Prop
  | 0, _, _, _, _, _ => False
  | n + 1, T_43, x1_43, x2_43, x3_43, x4_43 =>
    (6 ≤ x4_43 →
      True) ∧ (¬ (6 ≤ x4_43) →
      (vp_in ((6 * x2_43) + x4_43) 54) ∧ (
        let S_12 := xu T_43 145 (((6 * x2_43) + x4_43)).toNatClampNeg 0
        s_X11_route_L43 n S_12 x1_43 x2_43 x3_43 (x4_43 + 1)))
def f_X11_route_L108 : Nat → xS → Int32 → Int32 → Int32 → Int32 → Int32 → Int32 → Int32 → Int32 → Int32 → (Int32 × Int32 × xS)
  | 0, T_108, x1_108, x3_108, x4_108, x5_108, x6_108, x7_108, x8_108, x9_108, x10_108 => (x8_108, x9_108, T_108)
  | n + 1, T_108, x1_108, x3_108, x4_108, x5_108, x6_108, x7_108, x8_108, x9_108, x10_108 =>
    if (T_108 127 0) ≤ x10_108 then
      (x8_108, x9_108, T_108)
    else
      if x10_108 = x7_108 then
        if x6_108 = 0 then
          let q_33 := f_X11_warmer T_108 x1_108 x10_108 ((T_108 131 (0 : Int32).toNatClampNeg) + x6_108) 1
          let r_31 := q_33.1
          let S_32 := q_33.2
          if (r_31 + (S_32 145 (((6 * (x6_108 + 1)) + x10_108)).toNatClampNeg)) ≤ x8_108 then
            f_X11_route_L108 n S_32 x1_108 x3_108 x4_108 x5_108 x6_108 x7_108 x8_108 x9_108 (x10_108 + 1)
          else
            f_X11_route_L108 n S_32 x1_108 x3_108 x4_108 x5_108 x6_108 x7_108 (r_31 + (S_32 145 (((6 * (x6_108 + 1)) + x10_108)).toNatClampNeg)) x10_108 (x10_108 + 1)
        else
          let q_25 := f_X11_warmer T_108 x1_108 x10_108 ((T_108 131 (0 : Int32).toNatClampNeg) + x6_108) 0
          let r_23 := q_25.1
          let S_24 := q_25.2
          if (r_23 + (S_24 145 (((6 * (x6_108 + 1)) + x10_108)).toNatClampNeg)) ≤ x8_108 then
            f_X11_route_L108 n S_24 x1_108 x3_108 x4_108 x5_108 x6_108 x7_108 x8_108 x9_108 (x10_108 + 1)
          else
            f_X11_route_L108 n S_24 x1_108 x3_108 x4_108 x5_108 x6_108 x7_108 (r_23 + (S_24 145 (((6 * (x6_108 + 1)) + x10_108)).toNatClampNeg)) x10_108 (x10_108 + 1)
      else
        let r_39 := f_X11_has T_108 (T_108 129 (x7_108).toNatClampNeg) x10_108
        if r_39 = 0 then
          f_X11_route_L108 n T_108 x1_108 x3_108 x4_108 x5_108 x6_108 x7_108 x8_108 x9_108 (x10_108 + 1)
        else
          if x6_108 = 0 then
            let q_54 := f_X11_warmer T_108 x1_108 x10_108 ((T_108 131 (0 : Int32).toNatClampNeg) + x6_108) 1
            let r_52 := q_54.1
            let S_53 := q_54.2
            if (r_52 + (S_53 145 (((6 * (x6_108 + 1)) + x10_108)).toNatClampNeg)) ≤ x8_108 then
              f_X11_route_L108 n S_53 x1_108 x3_108 x4_108 x5_108 x6_108 x7_108 x8_108 x9_108 (x10_108 + 1)
            else
              f_X11_route_L108 n S_53 x1_108 x3_108 x4_108 x5_108 x6_108 x7_108 (r_52 + (S_53 145 (((6 * (x6_108 + 1)) + x10_108)).toNatClampNeg)) x10_108 (x10_108 + 1)
          else
            let q_46 := f_X11_warmer T_108 x1_108 x10_108 ((T_108 131 (0 : Int32).toNatClampNeg) + x6_108) 0
            let r_44 := q_46.1
            let S_45 := q_46.2
            if (r_44 + (S_45 145 (((6 * (x6_108 + 1)) + x10_108)).toNatClampNeg)) ≤ x8_108 then
              f_X11_route_L108 n S_45 x1_108 x3_108 x4_108 x5_108 x6_108 x7_108 x8_108 x9_108 (x10_108 + 1)
            else
              f_X11_route_L108 n S_45 x1_108 x3_108 x4_108 x5_108 x6_108 x7_108 (r_44 + (S_45 145 (((6 * (x6_108 + 1)) + x10_108)).toNatClampNeg)) x10_108 (x10_108 + 1)
def s_X11_route_L108 : Nat → xS → Int32 → Int32 → Int32 → Int32 → Int32 → Int32 → Int32 → Int32 → Int32 → Prop
  | 0, _, _, _, _, _, _, _, _, _, _ => False
  | n + 1, T_108, x1_108, x3_108, x4_108, x5_108, x6_108, x7_108, x8_108, x9_108, x10_108 =>
    ((T_108 127 0) ≤ x10_108 →
      True) ∧ (¬ ((T_108 127 0) ≤ x10_108) →
      (x10_108 = x7_108 →
        (x6_108 = 0 →
          (s_X11_warmer T_108 x1_108 x10_108 ((T_108 131 (0 : Int32).toNatClampNeg) + x6_108) 1) ∧ (
            let q_33 := f_X11_warmer T_108 x1_108 x10_108 ((T_108 131 (0 : Int32).toNatClampNeg) + x6_108) 1
            let r_31 := q_33.1
            let S_32 := q_33.2
            (vp_in ((6 * (x6_108 + 1)) + x10_108) 54) ∧ (
              ((r_31 + (S_32 145 (((6 * (x6_108 + 1)) + x10_108)).toNatClampNeg)) ≤ x8_108 →
                s_X11_route_L108 n S_32 x1_108 x3_108 x4_108 x5_108 x6_108 x7_108 x8_108 x9_108 (x10_108 + 1)) ∧ (¬ ((r_31 + (S_32 145 (((6 * (x6_108 + 1)) + x10_108)).toNatClampNeg)) ≤ x8_108) →
                s_X11_route_L108 n S_32 x1_108 x3_108 x4_108 x5_108 x6_108 x7_108 (r_31 + (S_32 145 (((6 * (x6_108 + 1)) + x10_108)).toNatClampNeg)) x10_108 (x10_108 + 1))))) ∧ (¬ (x6_108 = 0) →
          (s_X11_warmer T_108 x1_108 x10_108 ((T_108 131 (0 : Int32).toNatClampNeg) + x6_108) 0) ∧ (
            let q_25 := f_X11_warmer T_108 x1_108 x10_108 ((T_108 131 (0 : Int32).toNatClampNeg) + x6_108) 0
            let r_23 := q_25.1
            let S_24 := q_25.2
            (vp_in ((6 * (x6_108 + 1)) + x10_108) 54) ∧ (
              ((r_23 + (S_24 145 (((6 * (x6_108 + 1)) + x10_108)).toNatClampNeg)) ≤ x8_108 →
                s_X11_route_L108 n S_24 x1_108 x3_108 x4_108 x5_108 x6_108 x7_108 x8_108 x9_108 (x10_108 + 1)) ∧ (¬ ((r_23 + (S_24 145 (((6 * (x6_108 + 1)) + x10_108)).toNatClampNeg)) ≤ x8_108) →
                s_X11_route_L108 n S_24 x1_108 x3_108 x4_108 x5_108 x6_108 x7_108 (r_23 + (S_24 145 (((6 * (x6_108 + 1)) + x10_108)).toNatClampNeg)) x10_108 (x10_108 + 1)))))) ∧ (¬ (x10_108 = x7_108) →
        (vp_in x7_108 6) ∧ (
          let r_39 := f_X11_has T_108 (T_108 129 (x7_108).toNatClampNeg) x10_108
          (r_39 = 0 →
            s_X11_route_L108 n T_108 x1_108 x3_108 x4_108 x5_108 x6_108 x7_108 x8_108 x9_108 (x10_108 + 1)) ∧ (¬ (r_39 = 0) →
            (x6_108 = 0 →
              (s_X11_warmer T_108 x1_108 x10_108 ((T_108 131 (0 : Int32).toNatClampNeg) + x6_108) 1) ∧ (
                let q_54 := f_X11_warmer T_108 x1_108 x10_108 ((T_108 131 (0 : Int32).toNatClampNeg) + x6_108) 1
                let r_52 := q_54.1
                let S_53 := q_54.2
                (vp_in ((6 * (x6_108 + 1)) + x10_108) 54) ∧ (
                  ((r_52 + (S_53 145 (((6 * (x6_108 + 1)) + x10_108)).toNatClampNeg)) ≤ x8_108 →
                    s_X11_route_L108 n S_53 x1_108 x3_108 x4_108 x5_108 x6_108 x7_108 x8_108 x9_108 (x10_108 + 1)) ∧ (¬ ((r_52 + (S_53 145 (((6 * (x6_108 + 1)) + x10_108)).toNatClampNeg)) ≤ x8_108) →
                    s_X11_route_L108 n S_53 x1_108 x3_108 x4_108 x5_108 x6_108 x7_108 (r_52 + (S_53 145 (((6 * (x6_108 + 1)) + x10_108)).toNatClampNeg)) x10_108 (x10_108 + 1))))) ∧ (¬ (x6_108 = 0) →
              (s_X11_warmer T_108 x1_108 x10_108 ((T_108 131 (0 : Int32).toNatClampNeg) + x6_108) 0) ∧ (
                let q_46 := f_X11_warmer T_108 x1_108 x10_108 ((T_108 131 (0 : Int32).toNatClampNeg) + x6_108) 0
                let r_44 := q_46.1
                let S_45 := q_46.2
                (vp_in ((6 * (x6_108 + 1)) + x10_108) 54) ∧ (
                  ((r_44 + (S_45 145 (((6 * (x6_108 + 1)) + x10_108)).toNatClampNeg)) ≤ x8_108 →
                    s_X11_route_L108 n S_45 x1_108 x3_108 x4_108 x5_108 x6_108 x7_108 x8_108 x9_108 (x10_108 + 1)) ∧ (¬ ((r_44 + (S_45 145 (((6 * (x6_108 + 1)) + x10_108)).toNatClampNeg)) ≤ x8_108) →
                    s_X11_route_L108 n S_45 x1_108 x3_108 x4_108 x5_108 x6_108 x7_108 (r_44 + (S_45 145 (((6 * (x6_108 + 1)) + x10_108)).toNatClampNeg)) x10_108 (x10_108 + 1)))))))))
def f_X11_route_L89 : Nat → xS → Int32 → Int32 → Int32 → Int32 → Int32 → Int32 → (Int32 × Int32 × xS)
  | 0, T_89, x1_89, x3_89, x4_89, x5_89, x6_89, x7_89 => (x4_89, x5_89, T_89)
  | n + 1, T_89, x1_89, x3_89, x4_89, x5_89, x6_89, x7_89 =>
    if (T_89 127 0) ≤ x7_89 then
      (x4_89, x5_89, T_89)
    else
      let q_108 := f_X11_route_L108 (fu 0 (T_89 127 0)) T_89 x1_89 x3_89 x4_89 x5_89 x6_89 x7_89 (-1000000) 0 0
      let S_60 := xu q_108.2.2 145 (((6 * x6_89) + x7_89)).toNatClampNeg q_108.1
      if x6_89 = 0 then
        if x7_89 = (S_60 131 ((2 + x1_89)).toNatClampNeg) then
          f_X11_route_L89 n S_60 x1_89 x3_89 q_108.2.1 q_108.1 x6_89 (x7_89 + 1)
        else
          f_X11_route_L89 n S_60 x1_89 x3_89 x4_89 x5_89 x6_89 (x7_89 + 1)
      else
        f_X11_route_L89 n S_60 x1_89 x3_89 x4_89 x5_89 x6_89 (x7_89 + 1)
def s_X11_route_L89 : Nat → xS → Int32 → Int32 → Int32 → Int32 → Int32 → Int32 → Prop
  | 0, _, _, _, _, _, _, _ => False
  | n + 1, T_89, x1_89, x3_89, x4_89, x5_89, x6_89, x7_89 =>
    ((T_89 127 0) ≤ x7_89 →
      True) ∧ (¬ ((T_89 127 0) ≤ x7_89) →
      (s_X11_route_L108 (fu 0 (T_89 127 0)) T_89 x1_89 x3_89 x4_89 x5_89 x6_89 x7_89 (-1000000) 0 0) ∧ (
        let q_108 := f_X11_route_L108 (fu 0 (T_89 127 0)) T_89 x1_89 x3_89 x4_89 x5_89 x6_89 x7_89 (-1000000) 0 0
        (vp_in ((6 * x6_89) + x7_89) 54) ∧ (
          let S_60 := xu q_108.2.2 145 (((6 * x6_89) + x7_89)).toNatClampNeg q_108.1
          (x6_89 = 0 →
            (vp_in (2 + x1_89) 72) ∧ (
              (x7_89 = (S_60 131 ((2 + x1_89)).toNatClampNeg) →
                s_X11_route_L89 n S_60 x1_89 x3_89 q_108.2.1 q_108.1 x6_89 (x7_89 + 1)) ∧ (¬ (x7_89 = (S_60 131 ((2 + x1_89)).toNatClampNeg)) →
                s_X11_route_L89 n S_60 x1_89 x3_89 x4_89 x5_89 x6_89 (x7_89 + 1)))) ∧ (¬ (x6_89 = 0) →
            s_X11_route_L89 n S_60 x1_89 x3_89 x4_89 x5_89 x6_89 (x7_89 + 1)))))
def f_X11_route_L81 : Nat → xS → Int32 → Int32 → Int32 → Int32 → Int32 → (Int32 × Int32 × xS)
  | 0, T_81, x1_81, x3_81, x4_81, x5_81, x6_81 => (x4_81, x5_81, T_81)
  | n + 1, T_81, x1_81, x3_81, x4_81, x5_81, x6_81 =>
    if x6_81 < 0 then
      (x4_81, x5_81, T_81)
    else
      let q_89 := f_X11_route_L89 (fu 0 (T_81 127 0)) T_81 x1_81 x3_81 x4_81 x5_81 x6_81 0
      f_X11_route_L81 n q_89.2.2 x1_81 x3_81 q_89.1 q_89.2.1 (x6_81 + (-1))
def s_X11_route_L81 : Nat → xS → Int32 → Int32 → Int32 → Int32 → Int32 → Prop
  | 0, _, _, _, _, _, _ => False
  | n + 1, T_81, x1_81, x3_81, x4_81, x5_81, x6_81 =>
    (x6_81 < 0 →
      True) ∧ (¬ (x6_81 < 0) →
      (s_X11_route_L89 (fu 0 (T_81 127 0)) T_81 x1_81 x3_81 x4_81 x5_81 x6_81 0) ∧ (
        let q_89 := f_X11_route_L89 (fu 0 (T_81 127 0)) T_81 x1_81 x3_81 x4_81 x5_81 x6_81 0
        s_X11_route_L81 n q_89.2.2 x1_81 x3_81 q_89.1 q_89.2.1 (x6_81 + (-1))))
def f_X11_route (S : xS) (p0 : Int32) (p1 : Int32) (p2 : Int32) : (Int32 × xS) :=
  let r_1 := f_X11_isPerson S p0
  if r_1 = 0 then
    ((-1000000001), S)
  else
    let r_3 := f_X11_in S (p1 : Int32).toInt64 1 8
    if r_3 = 0 then
      ((-1000000002), S)
    else
      let r_5 := f_X11_in S (p2 : Int32).toInt64 0 1
      if r_5 = 0 then
        ((-1000000002), S)
      else
        let S_8 := f_X11_tries S
        let q_43 := f_X11_route_L43 (fu 0 6) S_8 p0 p1 p2 0
        let q_81 := f_X11_route_L81 (fd (p1 - 1)) q_43 p0 p2 0 (-1000000) (p1 - 1)
        if p2 = 0 then
          ((q_81.2.1 + 10000), q_81.2.2)
        else
          (q_81.1, q_81.2.2)
def s_X11_route (S : xS) (p0 : Int32) (p1 : Int32) (p2 : Int32) : Prop :=
  let r_1 := f_X11_isPerson S p0
  (r_1 = 0 →
    True) ∧ (¬ (r_1 = 0) →
    let r_3 := f_X11_in S (p1 : Int32).toInt64 1 8
    (r_3 = 0 →
      True) ∧ (¬ (r_3 = 0) →
      let r_5 := f_X11_in S (p2 : Int32).toInt64 0 1
      (r_5 = 0 →
        True) ∧ (¬ (r_5 = 0) →
        (s_X11_tries S) ∧ (
          let S_8 := f_X11_tries S
          (s_X11_route_L43 (fu 0 6) S_8 p0 p1 p2 0) ∧ (
            let q_43 := f_X11_route_L43 (fu 0 6) S_8 p0 p1 p2 0
            (s_X11_route_L81 (fd (p1 - 1)) q_43 p0 p2 0 (-1000000) (p1 - 1)) ∧ (
              let q_81 := f_X11_route_L81 (fd (p1 - 1)) q_43 p0 p2 0 (-1000000) (p1 - 1)
              True))))))
def f_X11_leavers_L51 : Nat → xS → Int32 → Int32 → Int32 → Int32 → Int32 → Int32 → (xS)
  | 0, T_51, x1_51, x2_51, x3_51, x4_51, x5_51, x6_51 => (T_51)
  | n + 1, T_51, x1_51, x2_51, x3_51, x4_51, x5_51, x6_51 =>
    if (T_51 127 6) ≤ x6_51 then
      T_51
    else
      let r_11 := f_X11_has T_51 x5_51 x6_51
      if r_11 = 0 then
        let S_14 := xu T_51 132 ((2 + x6_51)).toNatClampNeg (T_51 131 ((2 + x6_51)).toNatClampNeg)
        f_X11_leavers_L51 n S_14 x1_51 x2_51 x3_51 x4_51 x5_51 (x6_51 + 1)
      else
        let S_17 := xu T_51 132 ((2 + x6_51)).toNatClampNeg x1_51
        f_X11_leavers_L51 n S_17 x1_51 x2_51 x3_51 x4_51 x5_51 (x6_51 + 1)
def s_X11_leavers_L51 : Nat → xS → Int32 → Int32 → Int32 → Int32 → Int32 → Int32 → Prop
  | 0, _, _, _, _, _, _, _ => False
  | n + 1, T_51, x1_51, x2_51, x3_51, x4_51, x5_51, x6_51 =>
    ((T_51 127 6) ≤ x6_51 →
      True) ∧ (¬ ((T_51 127 6) ≤ x6_51) →
      let r_11 := f_X11_has T_51 x5_51 x6_51
      (r_11 = 0 →
        (vp_in (2 + x6_51) 72) ∧ (
          let S_14 := xu T_51 132 ((2 + x6_51)).toNatClampNeg (T_51 131 ((2 + x6_51)).toNatClampNeg)
          s_X11_leavers_L51 n S_14 x1_51 x2_51 x3_51 x4_51 x5_51 (x6_51 + 1))) ∧ (¬ (r_11 = 0) →
        (vp_in (2 + x6_51) 72) ∧ (
          let S_17 := xu T_51 132 ((2 + x6_51)).toNatClampNeg x1_51
          s_X11_leavers_L51 n S_17 x1_51 x2_51 x3_51 x4_51 x5_51 (x6_51 + 1))))
def f_X11_leavers_L33 : Nat → xS → Int32 → Int32 → Int32 → Int32 → Int32 → (Int32 × Int32 × xS)
  | 0, T_33, x1_33, x2_33, x3_33, x4_33, x5_33 => (x3_33, x4_33, T_33)
  | n + 1, T_33, x1_33, x2_33, x3_33, x4_33, x5_33 =>
    if (1 <<< ((T_33 127 6) &&& 31)) ≤ x5_33 then
      (x3_33, x4_33, T_33)
    else
      let S_8 := f_X11_tries T_33
      let q_51 := f_X11_leavers_L51 (fu 0 (S_8 127 6)) S_8 x1_33 x2_33 x3_33 x4_33 x5_33 0
      let r_20 := f_X11_saidAll q_51 132
      if x4_33 < r_20 then
        f_X11_leavers_L33 n q_51 x1_33 x2_33 x5_33 r_20 (x5_33 + 1)
      else
        if r_20 = x4_33 then
          let r_26 := f_X11_ones q_51 x5_33
          let r_28 := f_X11_ones q_51 x3_33
          if r_28 ≤ r_26 then
            f_X11_leavers_L33 n q_51 x1_33 x2_33 x3_33 x4_33 (x5_33 + 1)
          else
            f_X11_leavers_L33 n q_51 x1_33 x2_33 x5_33 r_20 (x5_33 + 1)
        else
          f_X11_leavers_L33 n q_51 x1_33 x2_33 x3_33 x4_33 (x5_33 + 1)
def s_X11_leavers_L33 : Nat → xS → Int32 → Int32 → Int32 → Int32 → Int32 → Prop
  | 0, _, _, _, _, _, _ => False
  | n + 1, T_33, x1_33, x2_33, x3_33, x4_33, x5_33 =>
    ((1 <<< ((T_33 127 6) &&& 31)) ≤ x5_33 →
      True) ∧ (¬ ((1 <<< ((T_33 127 6) &&& 31)) ≤ x5_33) →
      (s_X11_tries T_33) ∧ (
        let S_8 := f_X11_tries T_33
        (s_X11_leavers_L51 (fu 0 (S_8 127 6)) S_8 x1_33 x2_33 x3_33 x4_33 x5_33 0) ∧ (
          let q_51 := f_X11_leavers_L51 (fu 0 (S_8 127 6)) S_8 x1_33 x2_33 x3_33 x4_33 x5_33 0
          (s_X11_saidAll q_51 132) ∧ (
            let r_20 := f_X11_saidAll q_51 132
            (x4_33 < r_20 →
              s_X11_leavers_L33 n q_51 x1_33 x2_33 x5_33 r_20 (x5_33 + 1)) ∧ (¬ (x4_33 < r_20) →
              (r_20 = x4_33 →
                (s_X11_ones q_51 x5_33) ∧ (
                  let r_26 := f_X11_ones q_51 x5_33
                  (s_X11_ones q_51 x3_33) ∧ (
                    let r_28 := f_X11_ones q_51 x3_33
                    (r_28 ≤ r_26 →
                      s_X11_leavers_L33 n q_51 x1_33 x2_33 x3_33 x4_33 (x5_33 + 1)) ∧ (¬ (r_28 ≤ r_26) →
                      s_X11_leavers_L33 n q_51 x1_33 x2_33 x5_33 r_20 (x5_33 + 1))))) ∧ (¬ (r_20 = x4_33) →
                s_X11_leavers_L33 n q_51 x1_33 x2_33 x3_33 x4_33 (x5_33 + 1)))))))
def f_X11_leavers (S : xS) (p0 : Int32) (p1 : Int32) : (Int32 × xS) :=
  let r_1 := f_X11_isRoom S p0
  if r_1 = 0 then
    ((-1000000001), S)
  else
    let r_3 := f_X11_in S (p1 : Int32).toInt64 0 1
    if r_3 = 0 then
      ((-1000000002), S)
    else
      let q_33 := f_X11_leavers_L33 (fu 0 (1 <<< ((S 127 6) &&& 31))) S p0 p1 0 (-1000000) 0
      if p1 = 0 then
        (q_33.1, q_33.2.2)
      else
        ((q_33.2.1 + 10000), q_33.2.2)
def s_X11_leavers (S : xS) (p0 : Int32) (p1 : Int32) : Prop :=
  let r_1 := f_X11_isRoom S p0
  (r_1 = 0 →
    True) ∧ (¬ (r_1 = 0) →
    let r_3 := f_X11_in S (p1 : Int32).toInt64 0 1
    (r_3 = 0 →
      True) ∧ (¬ (r_3 = 0) →
      (s_X11_leavers_L33 (fu 0 (1 <<< ((S 127 6) &&& 31))) S p0 p1 0 (-1000000) 0) ∧ (
        let q_33 := f_X11_leavers_L33 (fu 0 (1 <<< ((S 127 6) &&& 31))) S p0 p1 0 (-1000000) 0
        True)))
def f_X11_silent (S : xS) (p0 : Int32) : Int32 :=
  if 0 ≤ p0 then
    let r_3 := f_X11_silentBy S p0
    r_3
  else
    (-1)
def s_X11_silent (S : xS) (p0 : Int32) : Prop :=
  (0 ≤ p0 →
    (s_X11_silentBy S p0) ∧ (
      True)) ∧ (¬ (0 ≤ p0) →
    True)
def f_X11_knowThen_L15 : Nat → xS → Int32 → Int32 → Int32 → Int32 → (Int32)
  | 0, S, x1_15, x2_15, x3_15, x4_15 => (x2_15)
  | n + 1, S, x1_15, x2_15, x3_15, x4_15 =>
    if (S 127 6) ≤ x4_15 then
      x2_15
    else
      let r_5 := f_X11_has S x1_15 x3_15
      if r_5 = 0 then
        f_X11_knowThen_L15 n S x1_15 (x2_15 ||| 0) x3_15 (x4_15 + 1)
      else
        let r_9 := f_X11_hears S 131 x3_15 x4_15
        if r_9 = 0 then
          f_X11_knowThen_L15 n S x1_15 (x2_15 ||| 0) x3_15 (x4_15 + 1)
        else
          f_X11_knowThen_L15 n S x1_15 (x2_15 ||| (1 <<< (x4_15 &&& 31))) x3_15 (x4_15 + 1)
def s_X11_knowThen_L15 : Nat → xS → Int32 → Int32 → Int32 → Int32 → Prop
  | 0, _, _, _, _, _ => False
  | n + 1, S, x1_15, x2_15, x3_15, x4_15 =>
    ((S 127 6) ≤ x4_15 →
      True) ∧ (¬ ((S 127 6) ≤ x4_15) →
      let r_5 := f_X11_has S x1_15 x3_15
      (r_5 = 0 →
        s_X11_knowThen_L15 n S x1_15 (x2_15 ||| 0) x3_15 (x4_15 + 1)) ∧ (¬ (r_5 = 0) →
        (s_X11_hears S 131 x3_15 x4_15) ∧ (
          let r_9 := f_X11_hears S 131 x3_15 x4_15
          (r_9 = 0 →
            s_X11_knowThen_L15 n S x1_15 (x2_15 ||| 0) x3_15 (x4_15 + 1)) ∧ (¬ (r_9 = 0) →
            s_X11_knowThen_L15 n S x1_15 (x2_15 ||| (1 <<< (x4_15 &&& 31))) x3_15 (x4_15 + 1)))))
def f_X11_knowThen_L4 : Nat → xS → Int32 → Int32 → Int32 → (Int32)
  | 0, S, x1_4, x2_4, x3_4 => (x2_4)
  | n + 1, S, x1_4, x2_4, x3_4 =>
    if (S 127 6) ≤ x3_4 then
      x2_4
    else
      let q_15 := f_X11_knowThen_L15 (fu 0 (S 127 6)) S x1_4 x2_4 x3_4 0
      f_X11_knowThen_L4 n S x1_4 q_15 (x3_4 + 1)
def s_X11_knowThen_L4 : Nat → xS → Int32 → Int32 → Int32 → Prop
  | 0, _, _, _, _ => False
  | n + 1, S, x1_4, x2_4, x3_4 =>
    ((S 127 6) ≤ x3_4 →
      True) ∧ (¬ ((S 127 6) ≤ x3_4) →
      (s_X11_knowThen_L15 (fu 0 (S 127 6)) S x1_4 x2_4 x3_4 0) ∧ (
        let q_15 := f_X11_knowThen_L15 (fu 0 (S 127 6)) S x1_4 x2_4 x3_4 0
        s_X11_knowThen_L4 n S x1_4 q_15 (x3_4 + 1)))
def f_X11_knowThen (S : xS) (p0 : Int32) : Int32 :=
  let q_4 := f_X11_knowThen_L4 (fu 0 (S 127 6)) S p0 p0 0
  q_4
def s_X11_knowThen (S : xS) (p0 : Int32) : Prop :=
  (s_X11_knowThen_L4 (fu 0 (S 127 6)) S p0 p0 0) ∧ (
    let q_4 := f_X11_knowThen_L4 (fu 0 (S 127 6)) S p0 p0 0
    True)
def f_X11_carried_L62 : Nat → xS → Int32 → Int32 → (Int32 ⊕ (Unit))
  | 0, S, x3_62, x4_62 => .inr (())
  | n + 1, S, x3_62, x4_62 =>
    if 7 < x4_62 then
      .inr ()
    else
      let r_9 := f_X11_ones S x3_62
      if r_9 = (S 127 6) then
        .inl x4_62
      else
        let r_12 := f_X11_knowThen S x3_62
        f_X11_carried_L62 n S r_12 (x4_62 + 1)
def s_X11_carried_L62 : Nat → xS → Int32 → Int32 → Prop
  | 0, _, _, _ => False
  | n + 1, S, x3_62, x4_62 =>
    (7 < x4_62 →
      True) ∧ (¬ (7 < x4_62) →
      (s_X11_ones S x3_62) ∧ (
        let r_9 := f_X11_ones S x3_62
        (r_9 = (S 127 6) →
          True) ∧ (¬ (r_9 = (S 127 6)) →
          (s_X11_knowThen S x3_62) ∧ (
            let r_12 := f_X11_knowThen S x3_62
            s_X11_carried_L62 n S r_12 (x4_62 + 1)))))
def f_X11_carried_L39 : Nat → xS → Int32 → Int32 → Int32 → (Int32)
  | 0, S, x2_39, x3_39, x4_39 => (x3_39)
  | n + 1, S, x2_39, x3_39, x4_39 =>
    if x2_39 ≤ x4_39 then
      x3_39
    else
      let r_18 := f_X11_knowThen S x3_39
      f_X11_carried_L39 n S x2_39 r_18 (x4_39 + 1)
def s_X11_carried_L39 : Nat → xS → Int32 → Int32 → Int32 → Prop
  | 0, _, _, _, _ => False
  | n + 1, S, x2_39, x3_39, x4_39 =>
    (x2_39 ≤ x4_39 →
      True) ∧ (¬ (x2_39 ≤ x4_39) →
      (s_X11_knowThen S x3_39) ∧ (
        let r_18 := f_X11_knowThen S x3_39
        s_X11_carried_L39 n S x2_39 r_18 (x4_39 + 1)))
def f_X11_carried (S : xS) (p0 : Int32) (p1 : Int32) : Int32 :=
  let r_1 := f_X11_isPerson S p0
  if r_1 = 0 then
    (-1000000001)
  else
    let r_3 := f_X11_in S (p1 : Int32).toInt64 (-1) 20
    if r_3 = 0 then
      (-1000000002)
    else
      if p1 < 0 then
        Sum.elim (fun r => r) (fun q_62 =>
          (-1)) (f_X11_carried_L62 (fu 0 7) S (1 <<< (p0 &&& 31)) 0)
      else
        let q_39 := f_X11_carried_L39 (fu 0 p1) S p1 (1 <<< (p0 &&& 31)) 0
        q_39
def s_X11_carried (S : xS) (p0 : Int32) (p1 : Int32) : Prop :=
  let r_1 := f_X11_isPerson S p0
  (r_1 = 0 →
    True) ∧ (¬ (r_1 = 0) →
    let r_3 := f_X11_in S (p1 : Int32).toInt64 (-1) 20
    (r_3 = 0 →
      True) ∧ (¬ (r_3 = 0) →
      (p1 < 0 →
        (s_X11_carried_L62 (fu 0 7) S (1 <<< (p0 &&& 31)) 0) ∧ (∀ q_62, f_X11_carried_L62 (fu 0 7) S (1 <<< (p0 &&& 31)) 0 = .inr q_62 →
          True)) ∧ (¬ (p1 < 0) →
        (s_X11_carried_L39 (fu 0 p1) S p1 (1 <<< (p0 &&& 31)) 0) ∧ (
          let q_39 := f_X11_carried_L39 (fu 0 p1) S p1 (1 <<< (p0 &&& 31)) 0
          True))))
def f_X11_hale_L34 : Nat → xS → Int32 → Int32 → Int64 → Int32 → (Int64)
  | 0, S, x1_34, x2_34, x3_34, x5_34 => (x3_34)
  | n + 1, S, x1_34, x2_34, x3_34, x5_34 =>
    if x1_34 ≤ x5_34 then
      x3_34
    else
      f_X11_hale_L34 n S x1_34 x2_34 ((x3_34 * (x2_34 : Int32).toInt64) / 100) (x5_34 + 1)
def s_X11_hale_L34 : Nat → xS → Int32 → Int32 → Int64 → Int32 → Prop
  | 0, _, _, _, _, _ => False
  | n + 1, S, x1_34, x2_34, x3_34, x5_34 =>
    (x1_34 ≤ x5_34 →
      True) ∧ (¬ (x1_34 ≤ x5_34) →
      s_X11_hale_L34 n S x1_34 x2_34 ((x3_34 * (x2_34 : Int32).toInt64) / 100) (x5_34 + 1))
def f_X11_hale (S : xS) (p0 : Int32) (p1 : Int32) : Int32 :=
  let r_1 := f_X11_in S (p0 : Int32).toInt64 0 60
  if r_1 = 0 then
    (-1000000002)
  else
    let r_3 := f_X11_in S (p1 : Int32).toInt64 0 100
    if r_3 = 0 then
      (-1000000002)
    else
      let q_34 := f_X11_hale_L34 (fu 0 p0) S p0 p1 1000000000 0
      (q_34).toInt32
def s_X11_hale (S : xS) (p0 : Int32) (p1 : Int32) : Prop :=
  let r_1 := f_X11_in S (p0 : Int32).toInt64 0 60
  (r_1 = 0 →
    True) ∧ (¬ (r_1 = 0) →
    let r_3 := f_X11_in S (p1 : Int32).toInt64 0 100
    (r_3 = 0 →
      True) ∧ (¬ (r_3 = 0) →
      (s_X11_hale_L34 (fu 0 p0) S p0 p1 1000000000 0) ∧ (
        let q_34 := f_X11_hale_L34 (fu 0 p0) S p0 p1 1000000000 0
        True)))
def f_X11_note (S : xS) (p0 : Int32) (p1 : Int32) (p2 : Int32) : (Int32 × xS) :=
  let r_1 := f_X11_in S (p0 : Int32).toInt64 0 2
  if r_1 = 0 then
    ((-1000000002), S)
  else
    let r_3 := f_X11_in S (p1 : Int32).toInt64 (-9) 9
    if r_3 = 0 then
      ((-1000000002), S)
    else
      if (S 127 11) = 6 then
        ((-1000000004), S)
      else
        let S_7 := xu S 133 ((S 127 11)).toNatClampNeg p0
        let S_9 := xu S_7 134 ((S_7 127 11)).toNatClampNeg p1
        if p2 = 0 then
          let S_12 := xu S_9 135 ((S_9 127 11)).toNatClampNeg 0
          let S_13 := xu S_12 127 11 ((S_12 127 11) + 1)
          ((S_13 127 11), S_13)
        else
          let S_15 := xu S_9 135 ((S_9 127 11)).toNatClampNeg 1
          let S_16 := xu S_15 127 11 ((S_15 127 11) + 1)
          ((S_16 127 11), S_16)
def s_X11_note (S : xS) (p0 : Int32) (p1 : Int32) (p2 : Int32) : Prop :=
  let r_1 := f_X11_in S (p0 : Int32).toInt64 0 2
  (r_1 = 0 →
    True) ∧ (¬ (r_1 = 0) →
    let r_3 := f_X11_in S (p1 : Int32).toInt64 (-9) 9
    (r_3 = 0 →
      True) ∧ (¬ (r_3 = 0) →
      ((S 127 11) = 6 →
        True) ∧ (¬ ((S 127 11) = 6) →
        (vp_in (S 127 11) 6) ∧ (
          let S_7 := xu S 133 ((S 127 11)).toNatClampNeg p0
          (vp_in (S_7 127 11) 6) ∧ (
            let S_9 := xu S_7 134 ((S_7 127 11)).toNatClampNeg p1
            (p2 = 0 →
              (vp_in (S_9 127 11) 6) ∧ (
                True)) ∧ (¬ (p2 = 0) →
              (vp_in (S_9 127 11) 6) ∧ (
                True)))))))
def f_X11_isSo_L4 : Nat → xS → Int32 → Int32 → Int32 → (Int32)
  | 0, S, x1_4, x2_4, x3_4 => (x2_4)
  | n + 1, S, x1_4, x2_4, x3_4 =>
    if (S 127 11) ≤ x3_4 then
      x2_4
    else
      if x2_4 = 0 then
        f_X11_isSo_L4 n S x1_4 0 (x3_4 + 1)
      else
        if (S 135 (x3_4).toNatClampNeg) = 1 then
          let r_11 := f_X11_sayBy S (S 133 (x3_4).toNatClampNeg) x1_4 1
          if r_11 = (S 134 (x3_4).toNatClampNeg) then
            f_X11_isSo_L4 n S x1_4 1 (x3_4 + 1)
          else
            f_X11_isSo_L4 n S x1_4 0 (x3_4 + 1)
        else
          let r_7 := f_X11_sayBy S (S 133 (x3_4).toNatClampNeg) x1_4 0
          if r_7 = (S 134 (x3_4).toNatClampNeg) then
            f_X11_isSo_L4 n S x1_4 1 (x3_4 + 1)
          else
            f_X11_isSo_L4 n S x1_4 0 (x3_4 + 1)
def s_X11_isSo_L4 : Nat → xS → Int32 → Int32 → Int32 → Prop
  | 0, _, _, _, _ => False
  | n + 1, S, x1_4, x2_4, x3_4 =>
    ((S 127 11) ≤ x3_4 →
      True) ∧ (¬ ((S 127 11) ≤ x3_4) →
      (x2_4 = 0 →
        s_X11_isSo_L4 n S x1_4 0 (x3_4 + 1)) ∧ (¬ (x2_4 = 0) →
        (vp_in x3_4 6) ∧ (
          ((S 135 (x3_4).toNatClampNeg) = 1 →
            let r_11 := f_X11_sayBy S (S 133 (x3_4).toNatClampNeg) x1_4 1
            (r_11 = (S 134 (x3_4).toNatClampNeg) →
              s_X11_isSo_L4 n S x1_4 1 (x3_4 + 1)) ∧ (¬ (r_11 = (S 134 (x3_4).toNatClampNeg)) →
              s_X11_isSo_L4 n S x1_4 0 (x3_4 + 1))) ∧ (¬ ((S 135 (x3_4).toNatClampNeg) = 1) →
            let r_7 := f_X11_sayBy S (S 133 (x3_4).toNatClampNeg) x1_4 0
            (r_7 = (S 134 (x3_4).toNatClampNeg) →
              s_X11_isSo_L4 n S x1_4 1 (x3_4 + 1)) ∧ (¬ (r_7 = (S 134 (x3_4).toNatClampNeg)) →
              s_X11_isSo_L4 n S x1_4 0 (x3_4 + 1))))))
def f_X11_isSo (S : xS) (p0 : Int32) : Int32 :=
  let q_4 := f_X11_isSo_L4 (fu 0 (S 127 11)) S p0 1 0
  q_4
def s_X11_isSo (S : xS) (p0 : Int32) : Prop :=
  (s_X11_isSo_L4 (fu 0 (S 127 11)) S p0 1 0) ∧ (
    let q_4 := f_X11_isSo_L4 (fu 0 (S 127 11)) S p0 1 0
    (q_4 = 0 ∨ q_4 = 1) ∧ (
      True))
def f_X11_thinks_L25 : Nat → xS → Int32 → Int32 → Int32 → Int32 → Int32 → (Int32 × Int32 × Int32)
  | 0, S, x1_25, x2_25, x3_25, x4_25, x5_25 => (x2_25, x3_25, x4_25)
  | n + 1, S, x1_25, x2_25, x3_25, x4_25, x5_25 =>
    if 10 ≤ x5_25 then
      (x2_25, x3_25, x4_25)
    else
      let r_6 := f_X11_isSo S x5_25
      if r_6 = 0 then
        f_X11_thinks_L25 n S x1_25 x2_25 x3_25 x4_25 (x5_25 + 1)
      else
        if x2_25 = 0 then
          f_X11_thinks_L25 n S x1_25 (x2_25 + 1) x5_25 x5_25 (x5_25 + 1)
        else
          f_X11_thinks_L25 n S x1_25 (x2_25 + 1) x3_25 x5_25 (x5_25 + 1)
def s_X11_thinks_L25 : Nat → xS → Int32 → Int32 → Int32 → Int32 → Int32 → Prop
  | 0, _, _, _, _, _, _ => False
  | n + 1, S, x1_25, x2_25, x3_25, x4_25, x5_25 =>
    (10 ≤ x5_25 →
      True) ∧ (¬ (10 ≤ x5_25) →
      (s_X11_isSo S x5_25) ∧ (
        let r_6 := f_X11_isSo S x5_25
        (r_6 = 0 →
          s_X11_thinks_L25 n S x1_25 x2_25 x3_25 x4_25 (x5_25 + 1)) ∧ (¬ (r_6 = 0) →
          (x2_25 = 0 →
            s_X11_thinks_L25 n S x1_25 (x2_25 + 1) x5_25 x5_25 (x5_25 + 1)) ∧ (¬ (x2_25 = 0) →
            s_X11_thinks_L25 n S x1_25 (x2_25 + 1) x3_25 x5_25 (x5_25 + 1)))))
def f_X11_thinks (S : xS) (p0 : Int32) : Int32 :=
  let r_1 := f_X11_in S (p0 : Int32).toInt64 0 2
  if r_1 = 0 then
    (-1000000002)
  else
    let q_25 := f_X11_thinks_L25 (fu 0 10) S p0 0 (-1) (-1) 0
    if p0 = 0 then
      q_25.1
    else
      if p0 = 1 then
        q_25.2.1
      else
        q_25.2.2
def s_X11_thinks (S : xS) (p0 : Int32) : Prop :=
  let r_1 := f_X11_in S (p0 : Int32).toInt64 0 2
  (r_1 = 0 →
    True) ∧ (¬ (r_1 = 0) →
    (s_X11_thinks_L25 (fu 0 10) S p0 0 (-1) (-1) 0) ∧ (
      let q_25 := f_X11_thinks_L25 (fu 0 10) S p0 0 (-1) (-1) 0
      True))
def f_X11_ask_L51 : Nat → xS → Int32 → Int32 → Int32 → Int32 → Int32 → Int32 → Int32 → Int32 → (Int32)
  | 0, S, x1_51, x2_51, x3_51, x4_51, x5_51, x6_51, x7_51, x8_51 => (x7_51)
  | n + 1, S, x1_51, x2_51, x3_51, x4_51, x5_51, x6_51, x7_51, x8_51 =>
    if 10 ≤ x8_51 then
      x7_51
    else
      let r_12 := f_X11_isSo S x6_51
      if r_12 = 0 then
        f_X11_ask_L51 n S x1_51 x2_51 x3_51 x4_51 x5_51 x6_51 (x7_51 + 0) (x8_51 + 1)
      else
        let r_16 := f_X11_isSo S x8_51
        if r_16 = 0 then
          f_X11_ask_L51 n S x1_51 x2_51 x3_51 x4_51 x5_51 x6_51 (x7_51 + 0) (x8_51 + 1)
        else
          if x4_51 = 1 then
            let r_25 := f_X11_sayBy S x1_51 x6_51 1
            let r_26 := f_X11_sayBy S x1_51 x8_51 1
            if r_25 = r_26 then
              f_X11_ask_L51 n S x1_51 x2_51 x3_51 x4_51 x5_51 x6_51 (x7_51 + 1) (x8_51 + 1)
            else
              f_X11_ask_L51 n S x1_51 x2_51 x3_51 x4_51 x5_51 x6_51 (x7_51 + 0) (x8_51 + 1)
          else
            let r_20 := f_X11_sayBy S x1_51 x6_51 0
            let r_21 := f_X11_sayBy S x1_51 x8_51 0
            if r_20 = r_21 then
              f_X11_ask_L51 n S x1_51 x2_51 x3_51 x4_51 x5_51 x6_51 (x7_51 + 1) (x8_51 + 1)
            else
              f_X11_ask_L51 n S x1_51 x2_51 x3_51 x4_51 x5_51 x6_51 (x7_51 + 0) (x8_51 + 1)
def s_X11_ask_L51 : Nat → xS → Int32 → Int32 → Int32 → Int32 → Int32 → Int32 → Int32 → Int32 → Prop
  | 0, _, _, _, _, _, _, _, _, _ => False
  | n + 1, S, x1_51, x2_51, x3_51, x4_51, x5_51, x6_51, x7_51, x8_51 =>
    (10 ≤ x8_51 →
      True) ∧ (¬ (10 ≤ x8_51) →
      (s_X11_isSo S x6_51) ∧ (
        let r_12 := f_X11_isSo S x6_51
        (r_12 = 0 →
          s_X11_ask_L51 n S x1_51 x2_51 x3_51 x4_51 x5_51 x6_51 (x7_51 + 0) (x8_51 + 1)) ∧ (¬ (r_12 = 0) →
          (s_X11_isSo S x8_51) ∧ (
            let r_16 := f_X11_isSo S x8_51
            (r_16 = 0 →
              s_X11_ask_L51 n S x1_51 x2_51 x3_51 x4_51 x5_51 x6_51 (x7_51 + 0) (x8_51 + 1)) ∧ (¬ (r_16 = 0) →
              (x4_51 = 1 →
                let r_25 := f_X11_sayBy S x1_51 x6_51 1
                let r_26 := f_X11_sayBy S x1_51 x8_51 1
                (r_25 = r_26 →
                  s_X11_ask_L51 n S x1_51 x2_51 x3_51 x4_51 x5_51 x6_51 (x7_51 + 1) (x8_51 + 1)) ∧ (¬ (r_25 = r_26) →
                  s_X11_ask_L51 n S x1_51 x2_51 x3_51 x4_51 x5_51 x6_51 (x7_51 + 0) (x8_51 + 1))) ∧ (¬ (x4_51 = 1) →
                let r_20 := f_X11_sayBy S x1_51 x6_51 0
                let r_21 := f_X11_sayBy S x1_51 x8_51 0
                (r_20 = r_21 →
                  s_X11_ask_L51 n S x1_51 x2_51 x3_51 x4_51 x5_51 x6_51 (x7_51 + 1) (x8_51 + 1)) ∧ (¬ (r_20 = r_21) →
                  s_X11_ask_L51 n S x1_51 x2_51 x3_51 x4_51 x5_51 x6_51 (x7_51 + 0) (x8_51 + 1))))))))
def f_X11_ask_L38 : Nat → xS → Int32 → Int32 → Int32 → Int32 → Int32 → Int32 → (Int32)
  | 0, S, x1_38, x2_38, x3_38, x4_38, x5_38, x6_38 => (x5_38)
  | n + 1, S, x1_38, x2_38, x3_38, x4_38, x5_38, x6_38 =>
    if 10 ≤ x6_38 then
      x5_38
    else
      let q_51 := f_X11_ask_L51 (fu 0 10) S x1_38 x2_38 x3_38 x4_38 x5_38 x6_38 0 0
      if q_51 ≤ x5_38 then
        f_X11_ask_L38 n S x1_38 x2_38 x3_38 x4_38 x5_38 (x6_38 + 1)
      else
        f_X11_ask_L38 n S x1_38 x2_38 x3_38 x4_38 q_51 (x6_38 + 1)
def s_X11_ask_L38 : Nat → xS → Int32 → Int32 → Int32 → Int32 → Int32 → Int32 → Prop
  | 0, _, _, _, _, _, _, _ => False
  | n + 1, S, x1_38, x2_38, x3_38, x4_38, x5_38, x6_38 =>
    (10 ≤ x6_38 →
      True) ∧ (¬ (10 ≤ x6_38) →
      (s_X11_ask_L51 (fu 0 10) S x1_38 x2_38 x3_38 x4_38 x5_38 x6_38 0 0) ∧ (
        let q_51 := f_X11_ask_L51 (fu 0 10) S x1_38 x2_38 x3_38 x4_38 x5_38 x6_38 0 0
        (q_51 ≤ x5_38 →
          s_X11_ask_L38 n S x1_38 x2_38 x3_38 x4_38 x5_38 (x6_38 + 1)) ∧ (¬ (q_51 ≤ x5_38) →
          s_X11_ask_L38 n S x1_38 x2_38 x3_38 x4_38 q_51 (x6_38 + 1))))
def f_X11_ask_L26 : Nat → xS → Int32 → Int32 → Int32 → Int32 → (Int32)
  | 0, S, x1_26, x2_26, x3_26, x4_26 => (x2_26)
  | n + 1, S, x1_26, x2_26, x3_26, x4_26 =>
    if 2 ≤ x4_26 then
      x2_26
    else
      let q_38 := f_X11_ask_L38 (fu 0 10) S x1_26 x2_26 x3_26 x4_26 0 0
      if x3_26 ≤ q_38 then
        f_X11_ask_L26 n S x1_26 x2_26 x3_26 (x4_26 + 1)
      else
        f_X11_ask_L26 n S x1_26 x4_26 q_38 (x4_26 + 1)
def s_X11_ask_L26 : Nat → xS → Int32 → Int32 → Int32 → Int32 → Prop
  | 0, _, _, _, _, _ => False
  | n + 1, S, x1_26, x2_26, x3_26, x4_26 =>
    (2 ≤ x4_26 →
      True) ∧ (¬ (2 ≤ x4_26) →
      (s_X11_ask_L38 (fu 0 10) S x1_26 x2_26 x3_26 x4_26 0 0) ∧ (
        let q_38 := f_X11_ask_L38 (fu 0 10) S x1_26 x2_26 x3_26 x4_26 0 0
        (x3_26 ≤ q_38 →
          s_X11_ask_L26 n S x1_26 x2_26 x3_26 (x4_26 + 1)) ∧ (¬ (x3_26 ≤ q_38) →
          s_X11_ask_L26 n S x1_26 x4_26 q_38 (x4_26 + 1))))
def f_X11_ask (S : xS) (p0 : Int32) : Int32 :=
  let r_1 := f_X11_in S (p0 : Int32).toInt64 0 2
  if r_1 = 0 then
    (-1000000002)
  else
    let r_4 := f_X11_thinks S 0
    let q_26 := f_X11_ask_L26 (fu 0 2) S p0 (-1) r_4 0
    q_26
def s_X11_ask (S : xS) (p0 : Int32) : Prop :=
  let r_1 := f_X11_in S (p0 : Int32).toInt64 0 2
  (r_1 = 0 →
    True) ∧ (¬ (r_1 = 0) →
    (s_X11_thinks S 0) ∧ (
      let r_4 := f_X11_thinks S 0
      (s_X11_ask_L26 (fu 0 2) S p0 (-1) r_4 0) ∧ (
        let q_26 := f_X11_ask_L26 (fu 0 2) S p0 (-1) r_4 0
        True)))
def f_X11_listens_L39 : Nat → xS → Int32 → Int32 → Int32 → Int32 → Int32 → (Int32 × xS)
  | 0, T_39, x1_39, x2_39, x3_39, x4_39, x5_39 => (x4_39, T_39)
  | n + 1, T_39, x1_39, x2_39, x3_39, x4_39, x5_39 =>
    if (T_39 127 0) ≤ x5_39 then
      (x4_39, T_39)
    else
      let S_10 := xu T_39 132 ((2 + x2_39)).toNatClampNeg x5_39
      let r_12 := f_X11_says S_10 132 x1_39 x2_39
      if r_12 = x3_39 then
        f_X11_listens_L39 n S_10 x1_39 x2_39 x3_39 (x4_39 ||| (1 <<< (x5_39 &&& 31))) (x5_39 + 1)
      else
        f_X11_listens_L39 n S_10 x1_39 x2_39 x3_39 (x4_39 ||| 0) (x5_39 + 1)
def s_X11_listens_L39 : Nat → xS → Int32 → Int32 → Int32 → Int32 → Int32 → Prop
  | 0, _, _, _, _, _, _ => False
  | n + 1, T_39, x1_39, x2_39, x3_39, x4_39, x5_39 =>
    ((T_39 127 0) ≤ x5_39 →
      True) ∧ (¬ ((T_39 127 0) ≤ x5_39) →
      (vp_in (2 + x2_39) 72) ∧ (
        let S_10 := xu T_39 132 ((2 + x2_39)).toNatClampNeg x5_39
        (s_X11_says S_10 132 x1_39 x2_39) ∧ (
          let r_12 := f_X11_says S_10 132 x1_39 x2_39
          (r_12 = x3_39 →
            s_X11_listens_L39 n S_10 x1_39 x2_39 x3_39 (x4_39 ||| (1 <<< (x5_39 &&& 31))) (x5_39 + 1)) ∧ (¬ (r_12 = x3_39) →
            s_X11_listens_L39 n S_10 x1_39 x2_39 x3_39 (x4_39 ||| 0) (x5_39 + 1)))))
def f_X11_listens (S : xS) (p0 : Int32) (p1 : Int32) (p2 : Int32) : (Int32 × xS) :=
  let r_1 := f_X11_areTwo S p0 p1
  if r_1 = 0 then
    ((-1000000001), S)
  else
    let r_3 := f_X11_in S (p2 : Int32).toInt64 (-9) 9
    if r_3 = 0 then
      ((-1000000002), S)
    else
      let S_6 := f_X11_tries S
      let q_39 := f_X11_listens_L39 (fu 0 (S_6 127 0)) S_6 p0 p1 p2 0 0
      (q_39.1, q_39.2)
def s_X11_listens (S : xS) (p0 : Int32) (p1 : Int32) (p2 : Int32) : Prop :=
  let r_1 := f_X11_areTwo S p0 p1
  (r_1 = 0 →
    True) ∧ (¬ (r_1 = 0) →
    let r_3 := f_X11_in S (p2 : Int32).toInt64 (-9) 9
    (r_3 = 0 →
      True) ∧ (¬ (r_3 = 0) →
      (s_X11_tries S) ∧ (
        let S_6 := f_X11_tries S
        (s_X11_listens_L39 (fu 0 (S_6 127 0)) S_6 p0 p1 p2 0 0) ∧ (
          let q_39 := f_X11_listens_L39 (fu 0 (S_6 127 0)) S_6 p0 p1 p2 0 0
          True))))
def f_X11_write (S : xS) (p0 : Int32) (p1 : Int32) : (Int32 × xS) :=
  let r_1 := f_X11_isPerson S p0
  if r_1 = 0 then
    ((-1000000001), S)
  else
    let r_3 := f_X11_in S (p1 : Int32).toInt64 (-9999) 9999
    if r_3 = 0 then
      ((-1000000002), S)
    else
      if (S 127 15) = 15 then
        ((-1000000004), S)
      else
        let S_7 := xu S 136 ((S 127 15)).toNatClampNeg p0
        let S_9 := xu S_7 137 ((S_7 127 15)).toNatClampNeg p1
        let S_10 := xu S_9 127 15 ((S_9 127 15) + 1)
        ((S_10 127 15), S_10)
def s_X11_write (S : xS) (p0 : Int32) (p1 : Int32) : Prop :=
  let r_1 := f_X11_isPerson S p0
  (r_1 = 0 →
    True) ∧ (¬ (r_1 = 0) →
    let r_3 := f_X11_in S (p1 : Int32).toInt64 (-9999) 9999
    (r_3 = 0 →
      True) ∧ (¬ (r_3 = 0) →
      ((S 127 15) = 15 →
        True) ∧ (¬ ((S 127 15) = 15) →
        (vp_in (S 127 15) 15) ∧ (
          let S_7 := xu S 136 ((S 127 15)).toNatClampNeg p0
          (vp_in (S_7 127 15) 15) ∧ (
            True)))))
def f_X11_tear (S : xS) : (Int32 × xS) :=
  let S_1 := xu S 127 11 0
  let S_2 := xu S_1 127 15 0
  (((S 127 11) + (S 127 15)), S_2)
def f_X11_judge_L2 : Nat → xS → Int32 → (Int32 ⊕ (Unit))
  | 0, S, x1_2 => .inr (())
  | n + 1, S, x1_2 =>
    if (S 127 15) ≤ x1_2 then
      .inr ()
    else
      if (S 131 ((9 + (S 136 (x1_2).toNatClampNeg))).toNatClampNeg) = (S 137 (x1_2).toNatClampNeg) then
        f_X11_judge_L2 n S (x1_2 + 1)
      else
        .inl x1_2
def s_X11_judge_L2 : Nat → xS → Int32 → Prop
  | 0, _, _ => False
  | n + 1, S, x1_2 =>
    ((S 127 15) ≤ x1_2 →
      True) ∧ (¬ ((S 127 15) ≤ x1_2) →
      (vp_in x1_2 15) ∧ (
        (vp_in (9 + (S 136 (x1_2).toNatClampNeg)) 72) ∧ (
          ((S 131 ((9 + (S 136 (x1_2).toNatClampNeg))).toNatClampNeg) = (S 137 (x1_2).toNatClampNeg) →
            s_X11_judge_L2 n S (x1_2 + 1)) ∧ (¬ ((S 131 ((9 + (S 136 (x1_2).toNatClampNeg))).toNatClampNeg) = (S 137 (x1_2).toNatClampNeg)) →
            True))))
def f_X11_judge (S : xS) : Int32 :=
  Sum.elim (fun r => r) (fun q_2 =>
    (-1)) (f_X11_judge_L2 (fu 0 (S 127 15)) S 0)
def s_X11_judge (S : xS) : Prop :=
  (s_X11_judge_L2 (fu 0 (S 127 15)) S 0) ∧ (∀ q_2, f_X11_judge_L2 (fu 0 (S 127 15)) S 0 = .inr q_2 →
    True)
def f_X11_seed (S : xS) (p0 : Int32) : (Int32 × xS) :=
  if 0 ≤ p0 then
    let S_2 := xu S 127 10 p0
    ((S 127 10), S_2)
  else
    ((-1000000002), S)
def f_X11_keep_L15 : Nat → xS → Int32 → Int32 → (xS)
  | 0, T_15, x1_15, x2_15 => (T_15)
  | n + 1, T_15, x1_15, x2_15 =>
    if 72 ≤ x2_15 then
      T_15
    else
      let S_7 := xu T_15 146 (((73 * x1_15) + x2_15)).toNatClampNeg (T_15 131 (x2_15).toNatClampNeg)
      f_X11_keep_L15 n S_7 x1_15 (x2_15 + 1)
def s_X11_keep_L15 : Nat → xS → Int32 → Int32 → Prop
  | 0, _, _, _ => False
  | n + 1, T_15, x1_15, x2_15 =>
    (72 ≤ x2_15 →
      True) ∧ (¬ (72 ≤ x2_15) →
      (vp_in x2_15 72) ∧ (
        (vp_in ((73 * x1_15) + x2_15) 146) ∧ (
          let S_7 := xu T_15 146 (((73 * x1_15) + x2_15)).toNatClampNeg (T_15 131 (x2_15).toNatClampNeg)
          s_X11_keep_L15 n S_7 x1_15 (x2_15 + 1))))
def f_X11_keep (S : xS) (p0 : Int32) : (Int32 × xS) :=
  let r_1 := f_X11_in S (p0 : Int32).toInt64 0 1
  if r_1 = 0 then
    ((-1000000001), S)
  else
    let q_15 := f_X11_keep_L15 (fu 0 72) S p0 0
    let S_10 := xu q_15 146 (((73 * p0) + 72)).toNatClampNeg (q_15 127 10)
    let S_12 := xu S_10 147 (p0).toNatClampNeg 1
    let S_13 := xu S_12 127 36 0
    (1, S_13)
def s_X11_keep (S : xS) (p0 : Int32) : Prop :=
  let r_1 := f_X11_in S (p0 : Int32).toInt64 0 1
  (r_1 = 0 →
    True) ∧ (¬ (r_1 = 0) →
    (s_X11_keep_L15 (fu 0 72) S p0 0) ∧ (
      let q_15 := f_X11_keep_L15 (fu 0 72) S p0 0
      (vp_in ((73 * p0) + 72) 146) ∧ (
        let S_10 := xu q_15 146 (((73 * p0) + 72)).toNatClampNeg (q_15 127 10)
        (vp_in p0 2) ∧ (
          True))))
def f_X11_goBack_L27 : Nat → xS → Int32 → Int32 → (xS)
  | 0, T_27, x1_27, x2_27 => (T_27)
  | n + 1, T_27, x1_27, x2_27 =>
    if 72 ≤ x2_27 then
      T_27
    else
      let S_9 := xu T_27 131 (x2_27).toNatClampNeg (T_27 146 (((73 * x1_27) + x2_27)).toNatClampNeg)
      f_X11_goBack_L27 n S_9 x1_27 (x2_27 + 1)
def s_X11_goBack_L27 : Nat → xS → Int32 → Int32 → Prop
  | 0, _, _, _ => False
  | n + 1, T_27, x1_27, x2_27 =>
    (72 ≤ x2_27 →
      True) ∧ (¬ (72 ≤ x2_27) →
      (vp_in ((73 * x1_27) + x2_27) 146) ∧ (
        (vp_in x2_27 72) ∧ (
          let S_9 := xu T_27 131 (x2_27).toNatClampNeg (T_27 146 (((73 * x1_27) + x2_27)).toNatClampNeg)
          s_X11_goBack_L27 n S_9 x1_27 (x2_27 + 1))))
def f_X11_goBack (S : xS) (p0 : Int32) : (Int32 × xS) :=
  let r_1 := f_X11_in S (p0 : Int32).toInt64 0 1
  if r_1 = 0 then
    ((-1000000001), S)
  else
    if (S 147 (p0).toNatClampNeg) = 0 then
      ((-1000000003), S)
    else
      let q_27 := f_X11_goBack_L27 (fu 0 72) S p0 0
      let S_12 := xu q_27 127 10 (q_27 146 (((73 * p0) + 72)).toNatClampNeg)
      let S_13 := xu S_12 127 36 0
      (1, S_13)
def s_X11_goBack (S : xS) (p0 : Int32) : Prop :=
  let r_1 := f_X11_in S (p0 : Int32).toInt64 0 1
  (r_1 = 0 →
    True) ∧ (¬ (r_1 = 0) →
    (vp_in p0 2) ∧ (
      ((S 147 (p0).toNatClampNeg) = 0 →
        True) ∧ (¬ ((S 147 (p0).toNatClampNeg) = 0) →
        (s_X11_goBack_L27 (fu 0 72) S p0 0) ∧ (
          let q_27 := f_X11_goBack_L27 (fu 0 72) S p0 0
          (vp_in ((73 * p0) + 72) 146) ∧ (
            True)))))
