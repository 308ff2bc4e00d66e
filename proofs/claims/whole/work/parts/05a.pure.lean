/-! the class: what each method answers and leaves, f_.., and what it needs, s_.. (laid by wip/whole/gen.py out of the bytecode) -/
def f_X10_put (S : xS) (k0 : Nat) (p1 : Int32) (p2 : Int32) : xS :=
  if p1 < 0 then
    S
  else
    if (nI (xlen k0)) ≤ p1 then
      S
    else
      let S_3 := xu S k0 (p1).toNatClampNeg p2
      S_3
def f_X0_add (S : xS) (p0 : Int32) (p1 : Int32) : (Int32 × xS) :=
  let S_1 := f_X10_put S 24 (S 23 2) p0
  let S_2 := f_X10_put S_1 25 (S_1 23 2) p1
  let S_3 := xu S_2 23 2 ((S_2 23 2) + 1)
  ((S_3 23 2), S_3)
def f_X10_at (S : xS) (k0 : Nat) (p1 : Int32) : Int32 :=
  if p1 < 0 then
    0
  else
    if (nI (xlen k0)) ≤ p1 then
      0
    else
      (S k0 (p1).toNatClampNeg)
def f_X0_firstWrong_L2 : Nat → xS → Nat → Int32 → (Int32 ⊕ (Unit))
  | 0, S, k0, x2_2 => .inr (())
  | n + 1, S, k0, x2_2 =>
    if (S 23 2) ≤ x2_2 then
      .inr ()
    else
      let r_3 := f_X10_at S 25 x2_2
      let r_4 := f_X10_at S 24 x2_2
      let r_5 := f_X10_at S (k0 + 2) r_4
      if r_3 = r_5 then
        f_X0_firstWrong_L2 n S k0 (x2_2 + 1)
      else
        .inl x2_2
def s_X0_firstWrong_L2 : Nat → xS → Nat → Int32 → Prop
  | 0, _, _, _ => False
  | n + 1, S, k0, x2_2 =>
    ((S 23 2) ≤ x2_2 →
      True) ∧ (¬ ((S 23 2) ≤ x2_2) →
      let r_3 := f_X10_at S 25 x2_2
      let r_4 := f_X10_at S 24 x2_2
      let r_5 := f_X10_at S (k0 + 2) r_4
      (r_3 = r_5 →
        s_X0_firstWrong_L2 n S k0 (x2_2 + 1)) ∧ (¬ (r_3 = r_5) →
        True))
def f_X0_firstWrong (S : xS) (k0 : Nat) : Int32 :=
  Sum.elim (fun r => r) (fun q_2 =>
    (-1)) (f_X0_firstWrong_L2 (fu 0 (S 23 2)) S k0 0)
def s_X0_firstWrong (S : xS) (k0 : Nat) : Prop :=
  (s_X0_firstWrong_L2 (fu 0 (S 23 2)) S k0 0) ∧ (∀ q_2, f_X0_firstWrong_L2 (fu 0 (S 23 2)) S k0 0 = .inr q_2 →
    True)
def f_X1_next (S : xS) (p0 : Int32) : (Int32 × xS) :=
  let S_1 := xu S 26 0 ((((((S 26 0) : Int32).toInt64 * 1103515245) + 12345) &&& 2147483647)).toInt32
  if p0 ≤ 0 then
    (0, S_1)
  else
    ((((S_1 26 0) / 65536) - ((S_1 26 0) / 65536) / p0 * p0), S_1)
def f_J7_fill_53178_L5 : Nat → xS → Nat → Int32 → Int32 → Int32 → (xS)
  | 0, T_5, k0, x1_5, x2_5, x3_5 => (T_5)
  | n + 1, T_5, k0, x1_5, x2_5, x3_5 =>
    if x3_5 ≤ x2_5 then
      T_5
    else
      let S_4 := xu T_5 k0 (x2_5).toNatClampNeg x1_5
      f_J7_fill_53178_L5 n S_4 k0 x1_5 (x2_5 + 1) x3_5
def s_J7_fill_53178_L5 : Nat → xS → Nat → Int32 → Int32 → Int32 → Prop
  | 0, _, _, _, _, _ => False
  | n + 1, T_5, k0, x1_5, x2_5, x3_5 =>
    (x3_5 ≤ x2_5 →
      True) ∧ (¬ (x3_5 ≤ x2_5) →
      (vp_in x2_5 (xlen k0)) ∧ (
        let S_4 := xu T_5 k0 (x2_5).toNatClampNeg x1_5
        s_J7_fill_53178_L5 n S_4 k0 x1_5 (x2_5 + 1) x3_5))
def f_J7_fill_53178 (S : xS) (k0 : Nat) (p1 : Int32) : xS :=
  let q_5 := f_J7_fill_53178_L5 (fu 0 (nI (xlen k0))) S k0 p1 0 (nI (xlen k0))
  q_5
def s_J7_fill_53178 (S : xS) (k0 : Nat) (p1 : Int32) : Prop :=
  (s_J7_fill_53178_L5 (fu 0 (nI (xlen k0))) S k0 p1 0 (nI (xlen k0))) ∧ (
    let q_5 := f_J7_fill_53178_L5 (fu 0 (nI (xlen k0))) S k0 p1 0 (nI (xlen k0))
    True)
def f_X2_clear (S : xS) (b : Nat) : xS :=
  let S_2 := f_J7_fill_53178 S (b + 1) 0
  let S_4 := f_J7_fill_53178 S_2 (b + 2) 0
  let S_6 := f_J7_fill_53178 S_4 (b + 3) 0
  let S_8 := f_J7_fill_53178 S_6 (b + 4) 0
  let S_10 := f_J7_fill_53178 S_8 (b + 5) 5
  let S_11 := xu S_10 b 5 0
  let S_12 := xu S_11 b 6 0
  let S_13 := xu S_12 b 7 0
  let S_14 := xu S_13 b 8 0
  let S_15 := xu S_14 b 9 0
  S_15
def s_X2_clear (S : xS) (b : Nat) : Prop :=
  (s_J7_fill_53178 S (b + 1) 0) ∧ (
    let S_2 := f_J7_fill_53178 S (b + 1) 0
    (s_J7_fill_53178 S_2 (b + 2) 0) ∧ (
      let S_4 := f_J7_fill_53178 S_2 (b + 2) 0
      (s_J7_fill_53178 S_4 (b + 3) 0) ∧ (
        let S_6 := f_J7_fill_53178 S_4 (b + 3) 0
        (s_J7_fill_53178 S_6 (b + 4) 0) ∧ (
          let S_8 := f_J7_fill_53178 S_6 (b + 4) 0
          (s_J7_fill_53178 S_8 (b + 5) 5) ∧ (
            True)))))
def f_X10_copy (S : xS) (k0 : Nat) (k1 : Nat) : xS :=
  let r_1 := (if (nI (xlen k1)) < (nI (xlen k0)) then (nI (xlen k1)) else (nI (xlen k0)))
  let S_3 := xr S k1 (va_cpy (S k0) (S k1) 0 0 (r_1).toNatClampNeg)
  S_3
def s_X10_copy (S : xS) (k0 : Nat) (k1 : Nat) : Prop :=
  let r_1 := (if (nI (xlen k1)) < (nI (xlen k0)) then (nI (xlen k1)) else (nI (xlen k0)))
  (¬ (r_1 < 0) ∧ (r_1).toNatClampNeg ≤ (xlen k0) ∧ (r_1).toNatClampNeg ≤ (xlen k1)) ∧ (
    True)
def f_X2_copyFrom (S : xS) (b : Nat) (k0 : Nat) : xS :=
  let S_2 := f_X10_copy S (k0 + 1) (b + 1)
  let S_4 := f_X10_copy S_2 (k0 + 2) (b + 2)
  let S_6 := f_X10_copy S_4 (k0 + 3) (b + 3)
  let S_8 := f_X10_copy S_6 (k0 + 4) (b + 4)
  let S_10 := f_X10_copy S_8 (k0 + 5) (b + 5)
  let S_11 := xu S_10 b 5 (S_10 k0 5)
  let S_12 := xu S_11 b 6 (S_11 k0 6)
  let S_13 := xu S_12 b 7 (S_12 k0 7)
  let S_14 := xu S_13 b 8 (S_13 k0 8)
  let S_15 := xu S_14 b 9 (S_14 k0 9)
  S_15
def s_X2_copyFrom (S : xS) (b : Nat) (k0 : Nat) : Prop :=
  (s_X10_copy S (k0 + 1) (b + 1)) ∧ (
    let S_2 := f_X10_copy S (k0 + 1) (b + 1)
    (s_X10_copy S_2 (k0 + 2) (b + 2)) ∧ (
      let S_4 := f_X10_copy S_2 (k0 + 2) (b + 2)
      (s_X10_copy S_4 (k0 + 3) (b + 3)) ∧ (
        let S_6 := f_X10_copy S_4 (k0 + 3) (b + 3)
        (s_X10_copy S_6 (k0 + 4) (b + 4)) ∧ (
          let S_8 := f_X10_copy S_6 (k0 + 4) (b + 4)
          (s_X10_copy S_8 (k0 + 5) (b + 5)) ∧ (
            True)))))
def f_X2_isTold (S : xS) (b : Nat) : Int32 :=
  if (S b 5) ≤ 0 then
    0
  else
    1
def f_X2_isRoom (S : xS) (b : Nat) (p0 : Int32) : Int32 :=
  if p0 < 0 then
    0
  else
    if (S b 5) ≤ p0 then
      0
    else
      1
def f_X2_isPerson (S : xS) (b : Nat) (p0 : Int32) : Int32 :=
  if p0 < 0 then
    0
  else
    if (S b 9) ≤ p0 then
      0
    else
      1
def f_X2_isPair (S : xS) (b : Nat) (p0 : Int32) (p1 : Int32) : Int32 :=
  let r_1 := f_X2_isPerson S b p0
  if r_1 = 0 then
    0
  else
    let r_3 := f_X2_isPerson S b p1
    if r_3 = 0 then
      0
    else
      if p0 = p1 then
        0
      else
        1
def f_X10_has (S : xS) (p0 : Int32) (p1 : Int32) : Int32 :=
  if p1 < 0 then
    0
  else
    if 30 < p1 then
      0
    else
      if ((p0 >>> (p1 &&& 31)) &&& 1) = 1 then
        1
      else
        0
def f_X2_isBench (S : xS) (b : Nat) (p0 : Int32) (p1 : Int32) : Int32 :=
  let r_1 := f_X10_at S (b + 1) p0
  let r_2 := f_X10_has S r_1 p1
  r_2
def f_X2_isWay (S : xS) (b : Nat) (p0 : Int32) (p1 : Int32) : Int32 :=
  let r_1 := f_X10_at S (b + 2) p0
  let r_2 := f_X10_has S r_1 p1
  r_2
def f_X10_bit (S : xS) (p0 : Int32) : Int32 :=
  if p0 < 0 then
    0
  else
    if 30 < p0 then
      0
    else
      (1 <<< (p0 &&& 31))
def f_X2_addBench (S : xS) (b : Nat) (p0 : Int32) (p1 : Int32) : xS :=
  let r_1 := f_X10_at S (b + 1) p0
  let r_2 := f_X10_bit S p1
  let S_3 := f_X10_put S (b + 1) p0 (r_1 ||| r_2)
  let S_4 := xu S_3 b 7 ((S_3 b 7) + 1)
  S_4
def f_X2_addWay (S : xS) (b : Nat) (p0 : Int32) (p1 : Int32) : xS :=
  let r_1 := f_X10_at S (b + 2) p0
  let r_2 := f_X10_bit S p1
  let S_3 := f_X10_put S (b + 2) p0 (r_1 ||| r_2)
  let r_4 := f_X10_at S_3 (b + 2) p1
  let r_5 := f_X10_bit S_3 p0
  let S_6 := f_X10_put S_3 (b + 2) p1 (r_4 ||| r_5)
  let S_7 := xu S_6 b 8 ((S_6 b 8) + 1)
  S_7
def f_X2_addPerson (S : xS) (b : Nat) (p0 : Int32) (p1 : Int32) : xS :=
  let S_1 := f_X10_put S (b + 3) (S b 9) p0
  let S_2 := f_X10_put S_1 (b + 4) (S_1 b 9) p1
  let S_3 := xu S_2 b 9 ((S_2 b 9) + 1)
  S_3
def f_X10_pairIndex (S : xS) (p0 : Int32) (p1 : Int32) : Int32 :=
  ((p0 * 7) + p1)
def f_X2_addLiking (S : xS) (b : Nat) (p0 : Int32) (p1 : Int32) (p2 : Int32) : xS :=
  let r_1 := f_X10_pairIndex S p0 p1
  let S_2 := f_X10_put S (b + 5) r_1 p2
  S_2
def f_X4_personsIn_L4 : Nat → xS → Int32 → Int32 → Int32 → (Int32)
  | 0, S, x1_4, x2_4, x3_4 => (x2_4)
  | n + 1, S, x1_4, x2_4, x3_4 =>
    if (S 9 9) ≤ x3_4 then
      x2_4
    else
      let r_3 := f_X10_at S 33 x3_4
      let r_4 := f_X10_has S x1_4 r_3
      if r_4 = 0 then
        f_X4_personsIn_L4 n S x1_4 x2_4 (x3_4 + 1)
      else
        let r_7 := f_X10_bit S x3_4
        f_X4_personsIn_L4 n S x1_4 (x2_4 ||| r_7) (x3_4 + 1)
def s_X4_personsIn_L4 : Nat → xS → Int32 → Int32 → Int32 → Prop
  | 0, _, _, _, _ => False
  | n + 1, S, x1_4, x2_4, x3_4 =>
    ((S 9 9) ≤ x3_4 →
      True) ∧ (¬ ((S 9 9) ≤ x3_4) →
      let r_3 := f_X10_at S 33 x3_4
      let r_4 := f_X10_has S x1_4 r_3
      (r_4 = 0 →
        s_X4_personsIn_L4 n S x1_4 x2_4 (x3_4 + 1)) ∧ (¬ (r_4 = 0) →
        let r_7 := f_X10_bit S x3_4
        s_X4_personsIn_L4 n S x1_4 (x2_4 ||| r_7) (x3_4 + 1)))
def f_X4_personsIn (S : xS) (p0 : Int32) : Int32 :=
  let q_4 := f_X4_personsIn_L4 (fu 0 (S 9 9)) S p0 0 0
  q_4
def s_X4_personsIn (S : xS) (p0 : Int32) : Prop :=
  (s_X4_personsIn_L4 (fu 0 (S 9 9)) S p0 0 0) ∧ (
    let q_4 := f_X4_personsIn_L4 (fu 0 (S 9 9)) S p0 0 0
    True)
def f_X4_reaches (S : xS) (p0 : Int32) (p1 : Int32) : Int32 :=
  if p0 = p1 then
    1
  else
    let r_2 := f_X10_at S 10 p0
    let r_3 := f_X10_has S r_2 p1
    if r_3 = 0 then
      0
    else
      1
def f_X10_words (S : xS) (p0 : Int32) (p1 : Int32) (p2 : Int32) : Int32 :=
  if p2 = 0 then
    if p1 < 5 then
      if p0 = 1 then
        if p0 = 2 then
          0
        else
          0
      else
        if p0 = 2 then
          0
        else
          0
    else
      if p0 = 1 then
        if 0 ≤ p1 then
          if p0 = 2 then
            if p1 ≤ 0 then
              p1
            else
              (p1 / 2)
          else
            p1
        else
          0
      else
        if p0 = 2 then
          if p1 ≤ 0 then
            p1
          else
            (p1 / 2)
        else
          p1
  else
    if p0 = 1 then
      if 0 ≤ (p1 - 9) then
        if p0 = 2 then
          if (p1 - 9) ≤ 0 then
            (p1 - 9)
          else
            ((p1 - 9) / 2)
        else
          (p1 - 9)
      else
        0
    else
      if p0 = 2 then
        if (p1 - 9) ≤ 0 then
          (p1 - 9)
        else
          ((p1 - 9) / 2)
      else
        (p1 - 9)
def f_X4_says (S : xS) (p0 : Int32) (p1 : Int32) (p2 : Int32) (p3 : Int32) (p4 : Int32) : Int32 :=
  let r_1 := f_X10_at S 12 p0
  if p1 = p3 then
    let r_3 := f_X10_pairIndex S p0 p2
    let r_4 := f_X10_at S 36 r_3
    let r_5 := f_X10_words S r_1 r_4 1
    r_5
  else
    if p4 = 0 then
      let r_7 := f_X10_pairIndex S p0 p2
      let r_8 := f_X10_at S 36 r_7
      let r_9 := f_X10_words S r_1 r_8 0
      r_9
    else
      if r_1 = 3 then
        let r_11 := f_X10_pairIndex S p0 p2
        let r_12 := f_X10_at S 36 r_11
        let r_13 := f_X10_words S r_1 r_12 0
        r_13
      else
        let r_14 := f_X4_reaches S p1 p3
        if r_14 = 0 then
          let r_16 := f_X10_pairIndex S p0 p2
          let r_17 := f_X10_at S 36 r_16
          let r_18 := f_X10_words S r_1 r_17 0
          r_18
        else
          let r_19 := f_X10_pairIndex S p0 p2
          let r_20 := f_X10_at S 36 r_19
          let r_21 := f_X10_words S r_1 r_20 1
          r_21
def f_X4_saysNow (S : xS) (p0 : Int32) (p1 : Int32) : Int32 :=
  let r_1 := f_X10_at S 33 p0
  let r_2 := f_X10_at S 33 p1
  let r_3 := f_X10_has S (S 32 4) p1
  let r_4 := f_X4_says S p0 r_1 p1 r_2 r_3
  r_4
def f_J9_floorMod_7cf53 (S : xS) (p0 : Int32) (p1 : Int32) : Int32 :=
  if 0 ≤ (p0 ^^^ p1) then
    (p0 - p0 / p1 * p1)
  else
    if (p0 - p0 / p1 * p1) = 0 then
      (p0 - p0 / p1 * p1)
    else
      ((p0 - p0 / p1 * p1) + p1)
def s_J9_floorMod_7cf53 (S : xS) (p0 : Int32) (p1 : Int32) : Prop :=
  (¬ (p1 = 0)) ∧ (
    True)
def f_X4_spokenOfBy (S : xS) (p0 : Int32) (p1 : Int32) : Int32 :=
  if (S 9 9) ≤ 0 then
    p0
  else
    let r_2 := f_J9_floorMod_7cf53 S ((p0 + p1) + 1) (S 9 9)
    r_2
def f_X4_speakerOf (S : xS) (p0 : Int32) (p1 : Int32) : Int32 :=
  if (S 9 9) ≤ 0 then
    p0
  else
    let r_2 := f_J9_floorMod_7cf53 S ((p0 - p1) - 1) (S 9 9)
    r_2
def f_X10_bounded (S : xS) (p0 : Int32) (p1 : Int32) (p2 : Int32) : Int32 :=
  let r_1 := (if p0 < p2 then p0 else p2)
  let r_2 := (if p1 < r_1 then r_1 else p1)
  r_2
def f_X4_warmer (S : xS) (p0 : Int32) (p1 : Int32) : Int32 :=
  let r_1 := f_X10_bounded S (p0 + p1) (-9999) 9999
  r_1
def f_X4_passHour_L2 : Nat → xS → Int32 → (xS)
  | 0, T_2, x1_2 => (T_2)
  | n + 1, T_2, x1_2 =>
    if (T_2 9 9) ≤ x1_2 then
      T_2
    else
      let r_3 := f_X4_spokenOfBy T_2 x1_2 (T_2 32 5)
      if r_3 = x1_2 then
        f_X4_passHour_L2 n T_2 (x1_2 + 1)
      else
        let r_6 := f_X10_at T_2 33 x1_2
        let r_7 := f_X10_at T_2 33 r_3
        let r_8 := f_X4_reaches T_2 r_6 r_7
        if r_8 = 0 then
          f_X4_passHour_L2 n T_2 (x1_2 + 1)
        else
          let r_11 := f_X10_at T_2 34 r_3
          let r_12 := f_X4_saysNow T_2 x1_2 r_3
          let r_13 := f_X4_warmer T_2 r_11 r_12
          let S_14 := f_X10_put T_2 34 r_3 r_13
          f_X4_passHour_L2 n S_14 (x1_2 + 1)
def s_X4_passHour_L2 : Nat → xS → Int32 → Prop
  | 0, _, _ => False
  | n + 1, T_2, x1_2 =>
    ((T_2 9 9) ≤ x1_2 →
      True) ∧ (¬ ((T_2 9 9) ≤ x1_2) →
      let r_3 := f_X4_spokenOfBy T_2 x1_2 (T_2 32 5)
      (r_3 = x1_2 →
        s_X4_passHour_L2 n T_2 (x1_2 + 1)) ∧ (¬ (r_3 = x1_2) →
        let r_6 := f_X10_at T_2 33 x1_2
        let r_7 := f_X10_at T_2 33 r_3
        let r_8 := f_X4_reaches T_2 r_6 r_7
        (r_8 = 0 →
          s_X4_passHour_L2 n T_2 (x1_2 + 1)) ∧ (¬ (r_8 = 0) →
          let r_11 := f_X10_at T_2 34 r_3
          let r_12 := f_X4_saysNow T_2 x1_2 r_3
          let r_13 := f_X4_warmer T_2 r_11 r_12
          let S_14 := f_X10_put T_2 34 r_3 r_13
          s_X4_passHour_L2 n S_14 (x1_2 + 1))))
def f_X4_passHour_L100 : Nat → xS → Int32 → (xS)
  | 0, T_100, x1_100 => (T_100)
  | n + 1, T_100, x1_100 =>
    if (T_100 9 9) ≤ x1_100 then
      T_100
    else
      let r_18 := f_X10_at T_100 33 x1_100
      let r_19 := f_X10_has T_100 (T_100 9 6) r_18
      if r_19 = 0 then
        let r_21 := f_X10_at T_100 35 x1_100
        let r_22 := f_X10_bounded T_100 (r_21 + (-1)) 0 99
        let S_23 := f_X10_put T_100 35 x1_100 r_22
        f_X4_passHour_L100 n S_23 (x1_100 + 1)
      else
        let r_25 := f_X10_at T_100 35 x1_100
        let r_26 := f_X10_bounded T_100 (r_25 + 1) 0 99
        let S_27 := f_X10_put T_100 35 x1_100 r_26
        f_X4_passHour_L100 n S_27 (x1_100 + 1)
def s_X4_passHour_L100 : Nat → xS → Int32 → Prop
  | 0, _, _ => False
  | n + 1, T_100, x1_100 =>
    ((T_100 9 9) ≤ x1_100 →
      True) ∧ (¬ ((T_100 9 9) ≤ x1_100) →
      let r_18 := f_X10_at T_100 33 x1_100
      let r_19 := f_X10_has T_100 (T_100 9 6) r_18
      (r_19 = 0 →
        let r_21 := f_X10_at T_100 35 x1_100
        let r_22 := f_X10_bounded T_100 (r_21 + (-1)) 0 99
        let S_23 := f_X10_put T_100 35 x1_100 r_22
        s_X4_passHour_L100 n S_23 (x1_100 + 1)) ∧ (¬ (r_19 = 0) →
        let r_25 := f_X10_at T_100 35 x1_100
        let r_26 := f_X10_bounded T_100 (r_25 + 1) 0 99
        let S_27 := f_X10_put T_100 35 x1_100 r_26
        s_X4_passHour_L100 n S_27 (x1_100 + 1)))
def f_X4_passHour (S : xS) : xS :=
  let q_2 := f_X4_passHour_L2 (fu 0 (S 9 9)) S 0
  let q_100 := f_X4_passHour_L100 (fu 0 (q_2 9 9)) q_2 0
  let S_29 := xu q_100 32 4 0
  let S_30 := xu S_29 32 5 ((S_29 32 5) + 1)
  S_30
def s_X4_passHour (S : xS) : Prop :=
  (s_X4_passHour_L2 (fu 0 (S 9 9)) S 0) ∧ (
    let q_2 := f_X4_passHour_L2 (fu 0 (S 9 9)) S 0
    (s_X4_passHour_L100 (fu 0 (q_2 9 9)) q_2 0) ∧ (
      let q_100 := f_X4_passHour_L100 (fu 0 (q_2 9 9)) q_2 0
      True))
def f_X5_add (S : xS) (p0 : Int32) (p1 : Int32) (p2 : Int32) : (Int32 × xS) :=
  let S_1 := f_X10_put S 20 (S 19 3) p0
  let S_2 := f_X10_put S_1 21 (S_1 19 3) p1
  if p2 = 0 then
    let S_4 := f_X10_put S_2 22 (S_2 19 3) 0
    let S_5 := xu S_4 19 3 ((S_4 19 3) + 1)
    ((S_5 19 3), S_5)
  else
    let S_6 := f_X10_put S_2 22 (S_2 19 3) 1
    let S_7 := xu S_6 19 3 ((S_6 19 3) + 1)
    ((S_7 19 3), S_7)
def f_X5_fits_L2 : Nat → xS → Int32 → Int32 → (Int32 ⊕ (Unit))
  | 0, S, x1_2, x2_2 => .inr (())
  | n + 1, S, x1_2, x2_2 =>
    if (S 19 3) ≤ x2_2 then
      .inr ()
    else
      let r_3 := f_X10_at S 20 x2_2
      let r_4 := f_X10_at S 22 x2_2
      if r_4 = 1 then
        let r_11 := f_X10_words S r_3 x1_2 1
        let r_12 := f_X10_at S 21 x2_2
        if r_11 = r_12 then
          f_X5_fits_L2 n S x1_2 (x2_2 + 1)
        else
          .inl 0
      else
        let r_6 := f_X10_words S r_3 x1_2 0
        let r_7 := f_X10_at S 21 x2_2
        if r_6 = r_7 then
          f_X5_fits_L2 n S x1_2 (x2_2 + 1)
        else
          .inl 0
def s_X5_fits_L2 : Nat → xS → Int32 → Int32 → Prop
  | 0, _, _, _ => False
  | n + 1, S, x1_2, x2_2 =>
    ((S 19 3) ≤ x2_2 →
      True) ∧ (¬ ((S 19 3) ≤ x2_2) →
      let r_3 := f_X10_at S 20 x2_2
      let r_4 := f_X10_at S 22 x2_2
      (r_4 = 1 →
        let r_11 := f_X10_words S r_3 x1_2 1
        let r_12 := f_X10_at S 21 x2_2
        (r_11 = r_12 →
          s_X5_fits_L2 n S x1_2 (x2_2 + 1)) ∧ (¬ (r_11 = r_12) →
          True)) ∧ (¬ (r_4 = 1) →
        let r_6 := f_X10_words S r_3 x1_2 0
        let r_7 := f_X10_at S 21 x2_2
        (r_6 = r_7 →
          s_X5_fits_L2 n S x1_2 (x2_2 + 1)) ∧ (¬ (r_6 = r_7) →
          True)))
def f_X5_fits (S : xS) (p0 : Int32) : Int32 :=
  Sum.elim (fun r => r) (fun q_2 =>
    1) (f_X5_fits_L2 (fu 0 (S 19 3)) S p0 0)
def s_X5_fits (S : xS) (p0 : Int32) : Prop :=
  (s_X5_fits_L2 (fu 0 (S 19 3)) S p0 0) ∧ (∀ q_2, f_X5_fits_L2 (fu 0 (S 19 3)) S p0 0 = .inr q_2 →
    True)
def f_X5_fitting_L4 : Nat → xS → Int32 → Int32 → (Int32)
  | 0, S, x1_4, x2_4 => (x1_4)
  | n + 1, S, x1_4, x2_4 =>
    if 9 < x2_4 then
      x1_4
    else
      let r_4 := f_X5_fits S x2_4
      if r_4 = 0 then
        f_X5_fitting_L4 n S (x1_4 ||| 0) (x2_4 + 1)
      else
        let r_7 := f_X10_bit S x2_4
        f_X5_fitting_L4 n S (x1_4 ||| r_7) (x2_4 + 1)
def s_X5_fitting_L4 : Nat → xS → Int32 → Int32 → Prop
  | 0, _, _, _ => False
  | n + 1, S, x1_4, x2_4 =>
    (9 < x2_4 →
      True) ∧ (¬ (9 < x2_4) →
      (s_X5_fits S x2_4) ∧ (
        let r_4 := f_X5_fits S x2_4
        (r_4 = 0 →
          s_X5_fitting_L4 n S (x1_4 ||| 0) (x2_4 + 1)) ∧ (¬ (r_4 = 0) →
          let r_7 := f_X10_bit S x2_4
          s_X5_fitting_L4 n S (x1_4 ||| r_7) (x2_4 + 1))))
def f_X5_fitting (S : xS) : Int32 :=
  let q_4 := f_X5_fitting_L4 (fu 0 9) S 0 0
  q_4
def s_X5_fitting (S : xS) : Prop :=
  (s_X5_fitting_L4 (fu 0 9) S 0 0) ∧ (
    let q_4 := f_X5_fitting_L4 (fu 0 9) S 0 0
    True)
def f_X5_leastFitting_L7 : Nat → xS → Int32 → Int32 → (Int32 ⊕ (Unit))
  | 0, S, x1_7, x2_7 => .inr (())
  | n + 1, S, x1_7, x2_7 =>
    if 9 < x2_7 then
      .inr ()
    else
      let r_5 := f_X10_has S x1_7 x2_7
      if r_5 = 0 then
        f_X5_leastFitting_L7 n S x1_7 (x2_7 + 1)
      else
        .inl x2_7
def s_X5_leastFitting_L7 : Nat → xS → Int32 → Int32 → Prop
  | 0, _, _, _ => False
  | n + 1, S, x1_7, x2_7 =>
    (9 < x2_7 →
      True) ∧ (¬ (9 < x2_7) →
      let r_5 := f_X10_has S x1_7 x2_7
      (r_5 = 0 →
        s_X5_leastFitting_L7 n S x1_7 (x2_7 + 1)) ∧ (¬ (r_5 = 0) →
        True))
def f_X5_leastFitting (S : xS) : Int32 :=
  let r_2 := f_X5_fitting S
  Sum.elim (fun r => r) (fun q_7 =>
    (-1)) (f_X5_leastFitting_L7 (fu 0 9) S r_2 0)
def s_X5_leastFitting (S : xS) : Prop :=
  (s_X5_fitting S) ∧ (
    let r_2 := f_X5_fitting S
    (s_X5_leastFitting_L7 (fu 0 9) S r_2 0) ∧ (∀ q_7, f_X5_leastFitting_L7 (fu 0 9) S r_2 0 = .inr q_7 →
      True))
def f_X5_greatestFitting_L8 : Nat → xS → Int32 → Int32 → (Int32 ⊕ (Unit))
  | 0, S, x1_8, x2_8 => .inr (())
  | n + 1, S, x1_8, x2_8 =>
    if x2_8 < 0 then
      .inr ()
    else
      let r_5 := f_X10_has S x1_8 x2_8
      if r_5 = 0 then
        f_X5_greatestFitting_L8 n S x1_8 (x2_8 + (-1))
      else
        .inl x2_8
def s_X5_greatestFitting_L8 : Nat → xS → Int32 → Int32 → Prop
  | 0, _, _, _ => False
  | n + 1, S, x1_8, x2_8 =>
    (x2_8 < 0 →
      True) ∧ (¬ (x2_8 < 0) →
      let r_5 := f_X10_has S x1_8 x2_8
      (r_5 = 0 →
        s_X5_greatestFitting_L8 n S x1_8 (x2_8 + (-1))) ∧ (¬ (r_5 = 0) →
        True))
def f_X5_greatestFitting (S : xS) : Int32 :=
  let r_2 := f_X5_fitting S
  Sum.elim (fun r => r) (fun q_8 =>
    (-1)) (f_X5_greatestFitting_L8 (fd 9) S r_2 9)
def s_X5_greatestFitting (S : xS) : Prop :=
  (s_X5_fitting S) ∧ (
    let r_2 := f_X5_fitting S
    (s_X5_greatestFitting_L8 (fd 9) S r_2 9) ∧ (∀ q_8, f_X5_greatestFitting_L8 (fd 9) S r_2 9 = .inr q_8 →
      True))
def f_X5_greatestPart_L20 : Nat → xS → Int32 → Int32 → Int32 → Int32 → Int32 → Int32 → Int32 → (Int32)
  | 0, S, x1_20, x2_20, x3_20, x4_20, x5_20, x6_20, x7_20 => (x6_20)
  | n + 1, S, x1_20, x2_20, x3_20, x4_20, x5_20, x6_20, x7_20 =>
    if 9 < x7_20 then
      x6_20
    else
      let r_5 := f_X10_has S x1_20 x7_20
      if r_5 = 0 then
        f_X5_greatestPart_L20 n S x1_20 x2_20 x3_20 x4_20 x5_20 (x6_20 + 0) (x7_20 + 1)
      else
        let r_8 := f_X10_words S x2_20 x7_20 x3_20
        if r_8 = x5_20 then
          f_X5_greatestPart_L20 n S x1_20 x2_20 x3_20 x4_20 x5_20 (x6_20 + 1) (x7_20 + 1)
        else
          f_X5_greatestPart_L20 n S x1_20 x2_20 x3_20 x4_20 x5_20 (x6_20 + 0) (x7_20 + 1)
def s_X5_greatestPart_L20 : Nat → xS → Int32 → Int32 → Int32 → Int32 → Int32 → Int32 → Int32 → Prop
  | 0, _, _, _, _, _, _, _, _ => False
  | n + 1, S, x1_20, x2_20, x3_20, x4_20, x5_20, x6_20, x7_20 =>
    (9 < x7_20 →
      True) ∧ (¬ (9 < x7_20) →
      let r_5 := f_X10_has S x1_20 x7_20
      (r_5 = 0 →
        s_X5_greatestPart_L20 n S x1_20 x2_20 x3_20 x4_20 x5_20 (x6_20 + 0) (x7_20 + 1)) ∧ (¬ (r_5 = 0) →
        let r_8 := f_X10_words S x2_20 x7_20 x3_20
        (r_8 = x5_20 →
          s_X5_greatestPart_L20 n S x1_20 x2_20 x3_20 x4_20 x5_20 (x6_20 + 1) (x7_20 + 1)) ∧ (¬ (r_8 = x5_20) →
          s_X5_greatestPart_L20 n S x1_20 x2_20 x3_20 x4_20 x5_20 (x6_20 + 0) (x7_20 + 1))))
def f_X5_greatestPart_L7 : Nat → xS → Int32 → Int32 → Int32 → Int32 → Int32 → (Int32)
  | 0, S, x1_7, x2_7, x3_7, x4_7, x5_7 => (x4_7)
  | n + 1, S, x1_7, x2_7, x3_7, x4_7, x5_7 =>
    if 9 < x5_7 then
      x4_7
    else
      let q_20 := f_X5_greatestPart_L20 (fu 0 9) S x1_7 x2_7 x3_7 x4_7 x5_7 0 0
      let r_12 := (if x4_7 < q_20 then q_20 else x4_7)
      f_X5_greatestPart_L7 n S x1_7 x2_7 x3_7 r_12 (x5_7 + 1)
def s_X5_greatestPart_L7 : Nat → xS → Int32 → Int32 → Int32 → Int32 → Int32 → Prop
  | 0, _, _, _, _, _, _ => False
  | n + 1, S, x1_7, x2_7, x3_7, x4_7, x5_7 =>
    (9 < x5_7 →
      True) ∧ (¬ (9 < x5_7) →
      (s_X5_greatestPart_L20 (fu 0 9) S x1_7 x2_7 x3_7 x4_7 x5_7 0 0) ∧ (
        let q_20 := f_X5_greatestPart_L20 (fu 0 9) S x1_7 x2_7 x3_7 x4_7 x5_7 0 0
        let r_12 := (if x4_7 < q_20 then q_20 else x4_7)
        s_X5_greatestPart_L7 n S x1_7 x2_7 x3_7 r_12 (x5_7 + 1)))
def f_X5_greatestPart (S : xS) (p0 : Int32) (p1 : Int32) (p2 : Int32) : Int32 :=
  let q_7 := f_X5_greatestPart_L7 (fu (-9) 9) S p0 p1 p2 0 (-9)
  q_7
def s_X5_greatestPart (S : xS) (p0 : Int32) (p1 : Int32) (p2 : Int32) : Prop :=
  (s_X5_greatestPart_L7 (fu (-9) 9) S p0 p1 p2 0 (-9)) ∧ (
    let q_7 := f_X5_greatestPart_L7 (fu (-9) 9) S p0 p1 p2 0 (-9)
    True)
def f_J6_bitCount_0f7a4 (S : xS) (p0 : Int32) : Int32 :=
  ((((((((p0 - ((((p0).toUInt32 >>> ((1 : Int32).toUInt32 &&& Int32.toUInt32 31)).toInt32) &&& 1431655765)) &&& 858993459) + (((((p0 - ((((p0).toUInt32 >>> ((1 : Int32).toUInt32 &&& Int32.toUInt32 31)).toInt32) &&& 1431655765))).toUInt32 >>> ((2 : Int32).toUInt32 &&& Int32.toUInt32 31)).toInt32) &&& 858993459)) + ((((((p0 - ((((p0).toUInt32 >>> ((1 : Int32).toUInt32 &&& Int32.toUInt32 31)).toInt32) &&& 1431655765)) &&& 858993459) + (((((p0 - ((((p0).toUInt32 >>> ((1 : Int32).toUInt32 &&& Int32.toUInt32 31)).toInt32) &&& 1431655765))).toUInt32 >>> ((2 : Int32).toUInt32 &&& Int32.toUInt32 31)).toInt32) &&& 858993459))).toUInt32 >>> ((4 : Int32).toUInt32 &&& Int32.toUInt32 31)).toInt32)) &&& 252645135) + ((((((((p0 - ((((p0).toUInt32 >>> ((1 : Int32).toUInt32 &&& Int32.toUInt32 31)).toInt32) &&& 1431655765)) &&& 858993459) + (((((p0 - ((((p0).toUInt32 >>> ((1 : Int32).toUInt32 &&& Int32.toUInt32 31)).toInt32) &&& 1431655765))).toUInt32 >>> ((2 : Int32).toUInt32 &&& Int32.toUInt32 31)).toInt32) &&& 858993459)) + ((((((p0 - ((((p0).toUInt32 >>> ((1 : Int32).toUInt32 &&& Int32.toUInt32 31)).toInt32) &&& 1431655765)) &&& 858993459) + (((((p0 - ((((p0).toUInt32 >>> ((1 : Int32).toUInt32 &&& Int32.toUInt32 31)).toInt32) &&& 1431655765))).toUInt32 >>> ((2 : Int32).toUInt32 &&& Int32.toUInt32 31)).toInt32) &&& 858993459))).toUInt32 >>> ((4 : Int32).toUInt32 &&& Int32.toUInt32 31)).toInt32)) &&& 252645135)).toUInt32 >>> ((8 : Int32).toUInt32 &&& Int32.toUInt32 31)).toInt32)) + (((((((((p0 - ((((p0).toUInt32 >>> ((1 : Int32).toUInt32 &&& Int32.toUInt32 31)).toInt32) &&& 1431655765)) &&& 858993459) + (((((p0 - ((((p0).toUInt32 >>> ((1 : Int32).toUInt32 &&& Int32.toUInt32 31)).toInt32) &&& 1431655765))).toUInt32 >>> ((2 : Int32).toUInt32 &&& Int32.toUInt32 31)).toInt32) &&& 858993459)) + ((((((p0 - ((((p0).toUInt32 >>> ((1 : Int32).toUInt32 &&& Int32.toUInt32 31)).toInt32) &&& 1431655765)) &&& 858993459) + (((((p0 - ((((p0).toUInt32 >>> ((1 : Int32).toUInt32 &&& Int32.toUInt32 31)).toInt32) &&& 1431655765))).toUInt32 >>> ((2 : Int32).toUInt32 &&& Int32.toUInt32 31)).toInt32) &&& 858993459))).toUInt32 >>> ((4 : Int32).toUInt32 &&& Int32.toUInt32 31)).toInt32)) &&& 252645135) + ((((((((p0 - ((((p0).toUInt32 >>> ((1 : Int32).toUInt32 &&& Int32.toUInt32 31)).toInt32) &&& 1431655765)) &&& 858993459) + (((((p0 - ((((p0).toUInt32 >>> ((1 : Int32).toUInt32 &&& Int32.toUInt32 31)).toInt32) &&& 1431655765))).toUInt32 >>> ((2 : Int32).toUInt32 &&& Int32.toUInt32 31)).toInt32) &&& 858993459)) + ((((((p0 - ((((p0).toUInt32 >>> ((1 : Int32).toUInt32 &&& Int32.toUInt32 31)).toInt32) &&& 1431655765)) &&& 858993459) + (((((p0 - ((((p0).toUInt32 >>> ((1 : Int32).toUInt32 &&& Int32.toUInt32 31)).toInt32) &&& 1431655765))).toUInt32 >>> ((2 : Int32).toUInt32 &&& Int32.toUInt32 31)).toInt32) &&& 858993459))).toUInt32 >>> ((4 : Int32).toUInt32 &&& Int32.toUInt32 31)).toInt32)) &&& 252645135)).toUInt32 >>> ((8 : Int32).toUInt32 &&& Int32.toUInt32 31)).toInt32))).toUInt32 >>> ((16 : Int32).toUInt32 &&& Int32.toUInt32 31)).toInt32)) &&& 63)
def f_X5_bestQuestion (S : xS) (p0 : Int32) : Int32 :=
  let r_2 := f_X5_fitting S
  let r_4 := f_X5_greatestPart S r_2 p0 0
  let r_6 := f_X5_greatestPart S r_2 p0 1
  let r_7 := (if r_6 < r_4 then r_6 else r_4)
  let r_8 := f_J6_bitCount_0f7a4 S r_2
  if r_7 < r_8 then
    if r_4 ≤ r_6 then
      0
    else
      1
  else
    (-1)
def s_X5_bestQuestion (S : xS) (p0 : Int32) : Prop :=
  (s_X5_fitting S) ∧ (
    let r_2 := f_X5_fitting S
    (s_X5_greatestPart S r_2 p0 0) ∧ (
      let r_4 := f_X5_greatestPart S r_2 p0 0
      (s_X5_greatestPart S r_2 p0 1) ∧ (
        True)))
def f_X6_slotAt (S : xS) (p0 : Int32) : Option Nat :=
  if p0 < 0 then
    (none : Option Nat)
  else
    if (nI 16) ≤ p0 then
      (none : Option Nat)
    else
      (some (37 + 5 * (p0).toNatClampNeg))
def f_X7_copyFrom (S : xS) (b : Nat) (k0 : Nat) : xS :=
  let S_2 := f_X10_copy S (k0 + 1) (b + 1)
  let S_4 := f_X10_copy S_2 (k0 + 2) (b + 2)
  let S_6 := f_X10_copy S_4 (k0 + 3) (b + 3)
  let S_8 := f_X10_copy S_6 (k0 + 4) (b + 4)
  let S_9 := xu S_8 b 4 (S_8 k0 4)
  let S_10 := xu S_9 b 5 (S_9 k0 5)
  S_10
def s_X7_copyFrom (S : xS) (b : Nat) (k0 : Nat) : Prop :=
  (s_X10_copy S (k0 + 1) (b + 1)) ∧ (
    let S_2 := f_X10_copy S (k0 + 1) (b + 1)
    (s_X10_copy S_2 (k0 + 2) (b + 2)) ∧ (
      let S_4 := f_X10_copy S_2 (k0 + 2) (b + 2)
      (s_X10_copy S_4 (k0 + 3) (b + 3)) ∧ (
        let S_6 := f_X10_copy S_4 (k0 + 3) (b + 3)
        (s_X10_copy S_6 (k0 + 4) (b + 4)) ∧ (
          True))))
def f_X6_remember (S : xS) (k0 : Nat) : xS :=
  Option.elim (f_X6_slotAt S (S 27 1)) (
    S) (fun (t_3 : Nat) =>
    let S_6 := f_X7_copyFrom S t_3 k0
    let S_7 := xu S_6 27 1 (((S_6 27 1) + 1) - ((S_6 27 1) + 1) / 16 * 16)
    let r_8 := (if 16 < ((S_7 27 2) + 1) then 16 else ((S_7 27 2) + 1))
    let S_9 := xu S_7 27 2 r_8
    S_9)
def s_X6_remember (S : xS) (k0 : Nat) : Prop :=
  ((f_X6_slotAt S (S 27 1)) = none →
    True) ∧ (∀ t_3 : Nat, (f_X6_slotAt S (S 27 1)) = some t_3 →
    (s_X7_copyFrom S t_3 k0) ∧ (
      True))
def f_X6_recall (S : xS) (k0 : Nat) : (Int32 × xS) :=
  Option.elim (f_X6_slotAt S ((((S 27 1) + 16) - 1) - (((S 27 1) + 16) - 1) / 16 * 16)) (
    if (S 27 2) ≤ 0 then
      (0, S)
    else
      (0, S)) (fun (t_3 : Nat) =>
    if (S 27 2) ≤ 0 then
      (0, S)
    else
      let S_8 := f_X7_copyFrom S k0 t_3
      let S_9 := xu S_8 27 1 ((((S 27 1) + 16) - 1) - (((S 27 1) + 16) - 1) / 16 * 16)
      let S_10 := xu S_9 27 2 ((S_9 27 2) - 1)
      (1, S_10))
def s_X6_recall (S : xS) (k0 : Nat) : Prop :=
  ((f_X6_slotAt S ((((S 27 1) + 16) - 1) - (((S 27 1) + 16) - 1) / 16 * 16)) = none →
    True) ∧ (∀ t_3 : Nat, (f_X6_slotAt S ((((S 27 1) + 16) - 1) - (((S 27 1) + 16) - 1) / 16 * 16)) = some t_3 →
    ((S 27 2) ≤ 0 →
      True) ∧ (¬ ((S 27 2) ≤ 0) →
      (s_X7_copyFrom S k0 t_3) ∧ (
        True)))
def f_X6_forget (S : xS) : xS :=
  let S_1 := xu S 27 2 0
  S_1
def f_X7_begin (S : xS) (b : Nat) (k0 : Nat) : xS :=
  let S_2 := f_X10_copy S (k0 + 4) (b + 1)
  let S_4 := f_J7_fill_53178 S_2 (b + 2) 0
  let S_6 := f_J7_fill_53178 S_4 (b + 3) 0
  let S_8 := f_X10_copy S_6 (k0 + 5) (b + 4)
  let S_9 := xu S_8 b 4 0
  let S_10 := xu S_9 b 5 0
  S_10
def s_X7_begin (S : xS) (b : Nat) (k0 : Nat) : Prop :=
  (s_X10_copy S (k0 + 4) (b + 1)) ∧ (
    let S_2 := f_X10_copy S (k0 + 4) (b + 1)
    (s_J7_fill_53178 S_2 (b + 2) 0) ∧ (
      let S_4 := f_J7_fill_53178 S_2 (b + 2) 0
      (s_J7_fill_53178 S_4 (b + 3) 0) ∧ (
        let S_6 := f_J7_fill_53178 S_4 (b + 3) 0
        (s_X10_copy S_6 (k0 + 5) (b + 4)) ∧ (
          True))))
def f_X8_add (S : xS) (p0 : Int32) : (Int32 × xS) :=
  let S_1 := f_X10_put S 2 (S 1 2) p0
  let S_2 := xu S_1 1 2 ((S_1 1 2) + 1)
  ((S_2 1 2), S_2)
def f_X8_letter (S : xS) : Int32 :=
  if (S 1 5) < 0 then
    (-1)
  else
    if (S 1 2) ≤ (S 1 5) then
      (-1)
    else
      if (nI 240) ≤ (S 1 5) then
        (-1)
      else
        (S 2 ((S 1 5)).toNatClampNeg)
def f_X8_skipBlanks_L0 : Nat → xS → (xS)
  | 0, T_0 => (T_0)
  | n + 1, T_0 =>
    if (T_0 1 2) ≤ (T_0 1 5) then
      T_0
    else
      let r_3 := f_X8_letter T_0
      if r_3 = 32 then
        let S_6 := xu T_0 1 5 ((T_0 1 5) + 1)
        f_X8_skipBlanks_L0 n S_6
      else
        T_0
def s_X8_skipBlanks_L0 : Nat → xS → Prop
  | 0, _ => False
  | n + 1, T_0 =>
    ((T_0 1 2) ≤ (T_0 1 5) →
      True) ∧ (¬ ((T_0 1 2) ≤ (T_0 1 5)) →
      let r_3 := f_X8_letter T_0
      (r_3 = 32 →
        let S_6 := xu T_0 1 5 ((T_0 1 5) + 1)
        s_X8_skipBlanks_L0 n S_6) ∧ (¬ (r_3 = 32) →
        True))
def f_X8_skipBlanks (S : xS) : xS :=
  let q_0 := f_X8_skipBlanks_L0 (fu (S 1 5) (S 1 2)) S
  q_0
def s_X8_skipBlanks (S : xS) : Prop :=
  (s_X8_skipBlanks_L0 (fu (S 1 5) (S 1 2)) S) ∧ (
    let q_0 := f_X8_skipBlanks_L0 (fu (S 1 5) (S 1 2)) S
    True)
def f_X8_faultOfWord (S : xS) (p0 : Int32) : Int32 :=
  if p0 = 114 then
    let r_12 := f_X2_isTold S 3
    if r_12 = 0 then
      0
    else
      3
  else
    let r_2 := f_X2_isTold S 3
    if r_2 = 0 then
      1
    else
      if p0 = 98 then
        if (S 3 7) < 9 then
          0
        else
          3
      else
        if p0 = 103 then
          if (S 3 8) < 9 then
            0
          else
            3
        else
          if p0 = 108 then
            if (S 1 7) < 20 then
              0
            else
              3
          else
            if p0 = 112 then
              if (S 3 9) < 7 then
                0
              else
                3
            else
              1
def f_X8_blame (S : xS) (p0 : Int32) (p1 : Int32) : xS :=
  if (S 1 3) = 0 then
    if p0 = 0 then
      S
    else
      let S_3 := xu S 1 3 p0
      let S_4 := xu S_3 1 4 p1
      S_4
  else
    S
def f_X10_within (S : xS) (p0 : Int32) (p1 : Int32) (p2 : Int32) : Int32 :=
  if p0 < p1 then
    0
  else
    if p2 < p0 then
      0
    else
      1
def f_X8_readNumber_L26 : Nat → xS → Int32 → Int32 → Int32 → Int32 → (Int32 × Int32 × xS)
  | 0, T_26, x1_26, x2_26, x3_26, x4_26 => (x3_26, x4_26, T_26)
  | n + 1, T_26, x1_26, x2_26, x3_26, x4_26 =>
    if (T_26 1 2) ≤ (T_26 1 5) then
      (x3_26, x4_26, T_26)
    else
      let r_7 := f_X8_letter T_26
      let r_8 := f_X10_within T_26 r_7 48 57
      if r_8 = 0 then
        (x3_26, x4_26, T_26)
      else
        if 3 ≤ x3_26 then
          let S_12 := xu T_26 1 5 ((T_26 1 5) + 1)
          f_X8_readNumber_L26 n S_12 x1_26 x2_26 (x3_26 + 1) x4_26
        else
          let r_14 := f_X8_letter T_26
          let S_15 := xu T_26 1 5 ((T_26 1 5) + 1)
          f_X8_readNumber_L26 n S_15 x1_26 x2_26 (x3_26 + 1) (((x4_26 * 10) + r_14) - 48)
def s_X8_readNumber_L26 : Nat → xS → Int32 → Int32 → Int32 → Int32 → Prop
  | 0, _, _, _, _, _ => False
  | n + 1, T_26, x1_26, x2_26, x3_26, x4_26 =>
    ((T_26 1 2) ≤ (T_26 1 5) →
      True) ∧ (¬ ((T_26 1 2) ≤ (T_26 1 5)) →
      let r_7 := f_X8_letter T_26
      let r_8 := f_X10_within T_26 r_7 48 57
      (r_8 = 0 →
        True) ∧ (¬ (r_8 = 0) →
        (3 ≤ x3_26 →
          let S_12 := xu T_26 1 5 ((T_26 1 5) + 1)
          s_X8_readNumber_L26 n S_12 x1_26 x2_26 (x3_26 + 1) x4_26) ∧ (¬ (3 ≤ x3_26) →
          let r_14 := f_X8_letter T_26
          let S_15 := xu T_26 1 5 ((T_26 1 5) + 1)
          s_X8_readNumber_L26 n S_15 x1_26 x2_26 (x3_26 + 1) (((x4_26 * 10) + r_14) - 48))))
def f_X8_readNumber (S : xS) (p0 : Int32) (p1 : Int32) : (Int32 × xS) :=
  if (S 1 3) = 0 then
    let S_3 := f_X8_skipBlanks S
    let S_4 := xu S_3 1 6 (S_3 1 5)
    let q_26 := f_X8_readNumber_L26 (fu (S_4 1 5) (S_4 1 2)) S_4 p0 p1 0 0
    if q_26.1 = 0 then
      let S_23 := f_X8_blame q_26.2.2 1 (q_26.2.2 1 6)
      (q_26.2.1, S_23)
    else
      if 3 < q_26.1 then
        let S_19 := f_X8_blame q_26.2.2 2 (q_26.2.2 1 6)
        (q_26.2.1, S_19)
      else
        let r_20 := f_X10_within q_26.2.2 q_26.2.1 p0 p1
        if r_20 = 0 then
          let S_22 := f_X8_blame q_26.2.2 2 (q_26.2.2 1 6)
          (q_26.2.1, S_22)
        else
          (q_26.2.1, q_26.2.2)
  else
    (0, S)
def s_X8_readNumber (S : xS) (p0 : Int32) (p1 : Int32) : Prop :=
  ((S 1 3) = 0 →
    (s_X8_skipBlanks S) ∧ (
      let S_3 := f_X8_skipBlanks S
      let S_4 := xu S_3 1 6 (S_3 1 5)
      (s_X8_readNumber_L26 (fu (S_4 1 5) (S_4 1 2)) S_4 p0 p1 0 0) ∧ (
        let q_26 := f_X8_readNumber_L26 (fu (S_4 1 5) (S_4 1 2)) S_4 p0 p1 0 0
        True))) ∧ (¬ ((S 1 3) = 0) →
    True)
def f_X8_readRooms (S : xS) : xS :=
  let q_4 := f_X8_readNumber S 2 6
  let r_2 := q_4.1
  let S_3 := q_4.2
  let r_5 := f_X10_bit S_3 r_2
  let q_9 := f_X8_readNumber S_3 0 (r_5 - 1)
  let r_7 := q_9.1
  let S_8 := q_9.2
  if (S_8 1 3) = 0 then
    let S_11 := xu S_8 3 5 r_2
    let S_12 := xu S_11 3 6 r_7
    S_12
  else
    S_8
def s_X8_readRooms (S : xS) : Prop :=
  (s_X8_readNumber S 2 6) ∧ (
    let q_4 := f_X8_readNumber S 2 6
    let r_2 := q_4.1
    let S_3 := q_4.2
    let r_5 := f_X10_bit S_3 r_2
    (s_X8_readNumber S_3 0 (r_5 - 1)) ∧ (
      True))
def f_X8_readBench (S : xS) : xS :=
  let q_4 := f_X8_readNumber S 0 ((S 3 5) - 1)
  let r_2 := q_4.1
  let S_3 := q_4.2
  let q_8 := f_X8_readNumber S_3 0 ((S_3 3 5) - 1)
  let r_6 := q_8.1
  let S_7 := q_8.2
  if r_2 = r_6 then
    let S_10 := f_X8_blame S_7 4 (S_7 1 6)
    if (S_10 1 3) = 0 then
      let S_12 := f_X2_addBench S_10 3 r_2 r_6
      S_12
    else
      S_10
  else
    let r_13 := f_X2_isBench S_7 3 r_2 r_6
    if r_13 = 0 then
      let S_15 := f_X8_blame S_7 0 (S_7 1 6)
      if (S_15 1 3) = 0 then
        let S_17 := f_X2_addBench S_15 3 r_2 r_6
        S_17
      else
        S_15
    else
      let S_18 := f_X8_blame S_7 4 (S_7 1 6)
      if (S_18 1 3) = 0 then
        let S_20 := f_X2_addBench S_18 3 r_2 r_6
        S_20
      else
        S_18
def s_X8_readBench (S : xS) : Prop :=
  (s_X8_readNumber S 0 ((S 3 5) - 1)) ∧ (
    let q_4 := f_X8_readNumber S 0 ((S 3 5) - 1)
    let r_2 := q_4.1
    let S_3 := q_4.2
    (s_X8_readNumber S_3 0 ((S_3 3 5) - 1)) ∧ (
      True))
def f_X8_readWay (S : xS) : xS :=
  let q_4 := f_X8_readNumber S 0 ((S 3 5) - 1)
  let r_2 := q_4.1
  let S_3 := q_4.2
  let q_8 := f_X8_readNumber S_3 0 ((S_3 3 5) - 1)
  let r_6 := q_8.1
  let S_7 := q_8.2
  if r_2 = r_6 then
    let S_10 := f_X8_blame S_7 4 (S_7 1 6)
    if (S_10 1 3) = 0 then
      let S_12 := f_X2_addWay S_10 3 r_2 r_6
      S_12
    else
      S_10
  else
    let r_13 := f_X2_isWay S_7 3 r_2 r_6
    if r_13 = 0 then
      let S_15 := f_X8_blame S_7 0 (S_7 1 6)
      if (S_15 1 3) = 0 then
        let S_17 := f_X2_addWay S_15 3 r_2 r_6
        S_17
      else
        S_15
    else
      let S_18 := f_X8_blame S_7 4 (S_7 1 6)
      if (S_18 1 3) = 0 then
        let S_20 := f_X2_addWay S_18 3 r_2 r_6
        S_20
      else
        S_18
def s_X8_readWay (S : xS) : Prop :=
  (s_X8_readNumber S 0 ((S 3 5) - 1)) ∧ (
    let q_4 := f_X8_readNumber S 0 ((S 3 5) - 1)
    let r_2 := q_4.1
    let S_3 := q_4.2
    (s_X8_readNumber S_3 0 ((S_3 3 5) - 1)) ∧ (
      True))
def f_X8_readPerson (S : xS) : xS :=
  let q_4 := f_X8_readNumber S 0 3
  let r_2 := q_4.1
  let S_3 := q_4.2
  let q_8 := f_X8_readNumber S_3 0 ((S_3 3 5) - 1)
  let r_6 := q_8.1
  let S_7 := q_8.2
  if (S_7 1 3) = 0 then
    let S_10 := f_X2_addPerson S_7 3 r_2 r_6
    S_10
  else
    S_7
def s_X8_readPerson (S : xS) : Prop :=
  (s_X8_readNumber S 0 3) ∧ (
    let q_4 := f_X8_readNumber S 0 3
    let r_2 := q_4.1
    let S_3 := q_4.2
    (s_X8_readNumber S_3 0 ((S_3 3 5) - 1)) ∧ (
      True))
def f_X8_readLiking (S : xS) : xS :=
  let q_4 := f_X8_readNumber S 0 ((S 3 9) - 1)
  let r_2 := q_4.1
  let S_3 := q_4.2
  let q_8 := f_X8_readNumber S_3 0 ((S_3 3 9) - 1)
  let r_6 := q_8.1
  let S_7 := q_8.2
  if r_2 = r_6 then
    let S_18 := f_X8_blame S_7 4 (S_7 1 6)
    let q_22 := f_X8_readNumber S_18 0 9
    let r_20 := q_22.1
    let S_21 := q_22.2
    if (S_21 1 3) = 0 then
      let S_24 := f_X2_addLiking S_21 3 r_2 r_6 r_20
      let S_25 := xu S_24 1 7 ((S_24 1 7) + 1)
      S_25
    else
      S_21
  else
    let S_10 := f_X8_blame S_7 0 (S_7 1 6)
    let q_14 := f_X8_readNumber S_10 0 9
    let r_12 := q_14.1
    let S_13 := q_14.2
    if (S_13 1 3) = 0 then
      let S_16 := f_X2_addLiking S_13 3 r_2 r_6 r_12
      let S_17 := xu S_16 1 7 ((S_16 1 7) + 1)
      S_17
    else
      S_13
def s_X8_readLiking (S : xS) : Prop :=
  (s_X8_readNumber S 0 ((S 3 9) - 1)) ∧ (
    let q_4 := f_X8_readNumber S 0 ((S 3 9) - 1)
    let r_2 := q_4.1
    let S_3 := q_4.2
    (s_X8_readNumber S_3 0 ((S_3 3 9) - 1)) ∧ (
      let q_8 := f_X8_readNumber S_3 0 ((S_3 3 9) - 1)
      let r_6 := q_8.1
      let S_7 := q_8.2
      (r_2 = r_6 →
        let S_18 := f_X8_blame S_7 4 (S_7 1 6)
        (s_X8_readNumber S_18 0 9) ∧ (
          True)) ∧ (¬ (r_2 = r_6) →
        let S_10 := f_X8_blame S_7 0 (S_7 1 6)
        (s_X8_readNumber S_10 0 9) ∧ (
          True))))
def f_X8_readEnd (S : xS) : xS :=
  let S_2 := f_X8_skipBlanks S
  let r_3 := f_X8_letter S_2
  if r_3 = 59 then
    let S_7 := f_X8_blame S_2 0 (S_2 1 5)
    let S_8 := xu S_7 1 5 ((S_7 1 5) + 1)
    S_8
  else
    let S_5 := f_X8_blame S_2 1 (S_2 1 5)
    let S_6 := xu S_5 1 5 ((S_5 1 5) + 1)
    S_6
def s_X8_readEnd (S : xS) : Prop :=
  (s_X8_skipBlanks S) ∧ (
    True)
def f_X8_readClause (S : xS) : xS :=
  let r_1 := f_X8_letter S
  let r_2 := f_X8_faultOfWord S r_1
  let S_3 := f_X8_blame S r_2 (S 1 5)
  if (S_3 1 3) = 0 then
    let S_5 := xu S_3 1 5 ((S_3 1 5) + 1)
    if r_1 = 98 then
      let S_8 := f_X8_readBench S_5
      let S_10 := f_X8_readEnd S_8
      S_10
    else
      if r_1 = 103 then
        let S_13 := f_X8_readWay S_5
        let S_15 := f_X8_readEnd S_13
        S_15
      else
        if r_1 = 112 then
          let S_18 := f_X8_readPerson S_5
          let S_20 := f_X8_readEnd S_18
          S_20
        else
          if r_1 = 114 then
            let S_23 := f_X8_readRooms S_5
            let S_25 := f_X8_readEnd S_23
            S_25
          else
            let S_27 := f_X8_readLiking S_5
            let S_29 := f_X8_readEnd S_27
            S_29
  else
    S_3
def s_X8_readClause (S : xS) : Prop :=
  let r_1 := f_X8_letter S
  let r_2 := f_X8_faultOfWord S r_1
  let S_3 := f_X8_blame S r_2 (S 1 5)
  ((S_3 1 3) = 0 →
    let S_5 := xu S_3 1 5 ((S_3 1 5) + 1)
    (r_1 = 98 →
      (s_X8_readBench S_5) ∧ (
        let S_8 := f_X8_readBench S_5
        (s_X8_readEnd S_8) ∧ (
          True))) ∧ (¬ (r_1 = 98) →
      (r_1 = 103 →
        (s_X8_readWay S_5) ∧ (
          let S_13 := f_X8_readWay S_5
          (s_X8_readEnd S_13) ∧ (
            True))) ∧ (¬ (r_1 = 103) →
        (r_1 = 112 →
          (s_X8_readPerson S_5) ∧ (
            let S_18 := f_X8_readPerson S_5
            (s_X8_readEnd S_18) ∧ (
              True))) ∧ (¬ (r_1 = 112) →
          (r_1 = 114 →
            (s_X8_readRooms S_5) ∧ (
              let S_23 := f_X8_readRooms S_5
              (s_X8_readEnd S_23) ∧ (
                True))) ∧ (¬ (r_1 = 114) →
            (s_X8_readLiking S_5) ∧ (
              let S_27 := f_X8_readLiking S_5
              (s_X8_readEnd S_27) ∧ (
                True))))))) ∧ (¬ ((S_3 1 3) = 0) →
    True)
def f_X8_read_L33 : Nat → xS → Int32 → (xS)
  | 0, T_33, x1_33 => (T_33)
  | n + 1, T_33, x1_33 =>
    if 240 ≤ x1_33 then
      T_33
    else
      if (T_33 1 2) ≤ (T_33 1 5) then
        T_33
      else
        if (T_33 1 3) = 0 then
          let S_16 := f_X8_readClause T_33
          let S_18 := f_X8_skipBlanks S_16
          f_X8_read_L33 n S_18 (x1_33 + 1)
        else
          T_33
def s_X8_read_L33 : Nat → xS → Int32 → Prop
  | 0, _, _ => False
  | n + 1, T_33, x1_33 =>
    (240 ≤ x1_33 →
      True) ∧ (¬ (240 ≤ x1_33) →
      ((T_33 1 2) ≤ (T_33 1 5) →
        True) ∧ (¬ ((T_33 1 2) ≤ (T_33 1 5)) →
        ((T_33 1 3) = 0 →
          (s_X8_readClause T_33) ∧ (
            let S_16 := f_X8_readClause T_33
            (s_X8_skipBlanks S_16) ∧ (
              let S_18 := f_X8_skipBlanks S_16
              s_X8_read_L33 n S_18 (x1_33 + 1)))) ∧ (¬ ((T_33 1 3) = 0) →
          True)))
def f_X8_read (S : xS) : (Int32 × xS) :=
  let S_2 := f_X2_clear S 3
  let S_3 := xu S_2 1 7 0
  let S_4 := xu S_3 1 3 0
  let S_5 := xu S_4 1 4 (-1)
  let S_6 := xu S_5 1 5 0
  let S_8 := f_X8_skipBlanks S_6
  let q_33 := f_X8_read_L33 (fu 0 240) S_8 0
  if (q_33 1 3) = 0 then
    (1, q_33)
  else
    (0, q_33)
def s_X8_read (S : xS) : Prop :=
  (s_X2_clear S 3) ∧ (
    let S_2 := f_X2_clear S 3
    let S_3 := xu S_2 1 7 0
    let S_4 := xu S_3 1 3 0
    let S_5 := xu S_4 1 4 (-1)
    let S_6 := xu S_5 1 5 0
    (s_X8_skipBlanks S_6) ∧ (
      let S_8 := f_X8_skipBlanks S_6
      (s_X8_read_L33 (fu 0 240) S_8 0) ∧ (
        let q_33 := f_X8_read_L33 (fu 0 240) S_8 0
        True)))
def f_X9_heardIn (S : xS) (p0 : Int32) (p1 : Int32) (p2 : Int32) : Int32 :=
  let r_1 := f_X4_speakerOf S p0 ((S 32 5) + p2)
  let r_2 := f_X10_at S 33 r_1
  if r_1 = p0 then
    0
  else
    let r_4 := f_X4_reaches S r_2 p1
    if r_4 = 0 then
      0
    else
      if p2 = 0 then
        let r_8 := f_X10_has S (S 32 4) p0
        if r_8 = 0 then
          let r_10 := f_X4_says S r_1 r_2 p0 p1 0
          r_10
        else
          let r_11 := f_X4_says S r_1 r_2 p0 p1 1
          r_11
      else
        let r_7 := f_X4_says S r_1 r_2 p0 p1 0
        r_7
def f_X9_warmBehind_L16 : Nat → xS → Int32 → Int32 → Int32 → Int32 → Int32 → (Int32)
  | 0, S, x1_16, x2_16, x3_16, x4_16, x5_16 => (x4_16)
  | n + 1, S, x1_16, x2_16, x3_16, x4_16, x5_16 =>
    if x3_16 ≤ x5_16 then
      x4_16
    else
      let r_4 := f_X9_heardIn S x1_16 x2_16 x5_16
      let r_5 := f_X4_warmer S x4_16 r_4
      f_X9_warmBehind_L16 n S x1_16 x2_16 x3_16 r_5 (x5_16 + 1)
def s_X9_warmBehind_L16 : Nat → xS → Int32 → Int32 → Int32 → Int32 → Int32 → Prop
  | 0, _, _, _, _, _, _ => False
  | n + 1, S, x1_16, x2_16, x3_16, x4_16, x5_16 =>
    (x3_16 ≤ x5_16 →
      True) ∧ (¬ (x3_16 ≤ x5_16) →
      let r_4 := f_X9_heardIn S x1_16 x2_16 x5_16
      let r_5 := f_X4_warmer S x4_16 r_4
      s_X9_warmBehind_L16 n S x1_16 x2_16 x3_16 r_5 (x5_16 + 1))
def f_X9_warmBehind (S : xS) (p0 : Int32) (p1 : Int32) (p2 : Int32) : Int32 :=
  let r_1 := f_X10_at S 34 p0
  let q_16 := f_X9_warmBehind_L16 (fu 0 p2) S p0 p1 p2 r_1 0
  q_16
def s_X9_warmBehind (S : xS) (p0 : Int32) (p1 : Int32) (p2 : Int32) : Prop :=
  let r_1 := f_X10_at S 34 p0
  (s_X9_warmBehind_L16 (fu 0 p2) S p0 p1 p2 r_1 0) ∧ (
    let q_16 := f_X9_warmBehind_L16 (fu 0 p2) S p0 p1 p2 r_1 0
    True)
def f_X9_warmestRoom_L14 : Nat → xS → Int32 → Int32 → Int32 → Int32 → Int32 → (Int32)
  | 0, S, x1_14, x2_14, x3_14, x4_14, x5_14 => (x3_14)
  | n + 1, S, x1_14, x2_14, x3_14, x4_14, x5_14 =>
    if (S 9 5) ≤ x5_14 then
      x3_14
    else
      let r_6 := f_X9_warmBehind S x1_14 x5_14 x2_14
      if r_6 ≤ x4_14 then
        f_X9_warmestRoom_L14 n S x1_14 x2_14 x3_14 x4_14 (x5_14 + 1)
      else
        f_X9_warmestRoom_L14 n S x1_14 x2_14 x5_14 r_6 (x5_14 + 1)
def s_X9_warmestRoom_L14 : Nat → xS → Int32 → Int32 → Int32 → Int32 → Int32 → Prop
  | 0, _, _, _, _, _, _ => False
  | n + 1, S, x1_14, x2_14, x3_14, x4_14, x5_14 =>
    ((S 9 5) ≤ x5_14 →
      True) ∧ (¬ ((S 9 5) ≤ x5_14) →
      (s_X9_warmBehind S x1_14 x5_14 x2_14) ∧ (
        let r_6 := f_X9_warmBehind S x1_14 x5_14 x2_14
        (r_6 ≤ x4_14 →
          s_X9_warmestRoom_L14 n S x1_14 x2_14 x3_14 x4_14 (x5_14 + 1)) ∧ (¬ (r_6 ≤ x4_14) →
          s_X9_warmestRoom_L14 n S x1_14 x2_14 x5_14 r_6 (x5_14 + 1))))
def f_X9_warmestRoom (S : xS) (p0 : Int32) (p1 : Int32) : Int32 :=
  let r_2 := f_X9_warmBehind S p0 0 p1
  let q_14 := f_X9_warmestRoom_L14 (fu 1 (S 9 5)) S p0 p1 0 r_2 1
  q_14
def s_X9_warmestRoom (S : xS) (p0 : Int32) (p1 : Int32) : Prop :=
  (s_X9_warmBehind S p0 0 p1) ∧ (
    let r_2 := f_X9_warmBehind S p0 0 p1
    (s_X9_warmestRoom_L14 (fu 1 (S 9 5)) S p0 p1 0 r_2 1) ∧ (
      let q_14 := f_X9_warmestRoom_L14 (fu 1 (S 9 5)) S p0 p1 0 r_2 1
      True))
def f_X9_worthOf (S : xS) (p0 : Int32) : Int32 :=
  let r_1 := f_X10_at S 17 p0
  r_1
def f_X9_bestStep_L4 : Nat → xS → Int32 → Int32 → Int32 → (Int32)
  | 0, S, x1_4, x2_4, x3_4 => (x2_4)
  | n + 1, S, x1_4, x2_4, x3_4 =>
    if (S 9 5) ≤ x3_4 then
      x2_4
    else
      if x3_4 = x1_4 then
        if x2_4 = (-1) then
          f_X9_bestStep_L4 n S x1_4 x3_4 (x3_4 + 1)
        else
          let r_6 := f_X9_worthOf S x3_4
          let r_7 := f_X9_worthOf S x2_4
          if r_6 ≤ r_7 then
            f_X9_bestStep_L4 n S x1_4 x2_4 (x3_4 + 1)
          else
            f_X9_bestStep_L4 n S x1_4 x3_4 (x3_4 + 1)
      else
        let r_11 := f_X2_isWay S 9 x1_4 x3_4
        if r_11 = 0 then
          f_X9_bestStep_L4 n S x1_4 x2_4 (x3_4 + 1)
        else
          if x2_4 = (-1) then
            f_X9_bestStep_L4 n S x1_4 x3_4 (x3_4 + 1)
          else
            let r_16 := f_X9_worthOf S x3_4
            let r_17 := f_X9_worthOf S x2_4
            if r_16 ≤ r_17 then
              f_X9_bestStep_L4 n S x1_4 x2_4 (x3_4 + 1)
            else
              f_X9_bestStep_L4 n S x1_4 x3_4 (x3_4 + 1)
def s_X9_bestStep_L4 : Nat → xS → Int32 → Int32 → Int32 → Prop
  | 0, _, _, _, _ => False
  | n + 1, S, x1_4, x2_4, x3_4 =>
    ((S 9 5) ≤ x3_4 →
      True) ∧ (¬ ((S 9 5) ≤ x3_4) →
      (x3_4 = x1_4 →
        (x2_4 = (-1) →
          s_X9_bestStep_L4 n S x1_4 x3_4 (x3_4 + 1)) ∧ (¬ (x2_4 = (-1)) →
          let r_6 := f_X9_worthOf S x3_4
          let r_7 := f_X9_worthOf S x2_4
          (r_6 ≤ r_7 →
            s_X9_bestStep_L4 n S x1_4 x2_4 (x3_4 + 1)) ∧ (¬ (r_6 ≤ r_7) →
            s_X9_bestStep_L4 n S x1_4 x3_4 (x3_4 + 1)))) ∧ (¬ (x3_4 = x1_4) →
        let r_11 := f_X2_isWay S 9 x1_4 x3_4
        (r_11 = 0 →
          s_X9_bestStep_L4 n S x1_4 x2_4 (x3_4 + 1)) ∧ (¬ (r_11 = 0) →
          (x2_4 = (-1) →
            s_X9_bestStep_L4 n S x1_4 x3_4 (x3_4 + 1)) ∧ (¬ (x2_4 = (-1)) →
            let r_16 := f_X9_worthOf S x3_4
            let r_17 := f_X9_worthOf S x2_4
            (r_16 ≤ r_17 →
              s_X9_bestStep_L4 n S x1_4 x2_4 (x3_4 + 1)) ∧ (¬ (r_16 ≤ r_17) →
              s_X9_bestStep_L4 n S x1_4 x3_4 (x3_4 + 1))))))
def f_X9_bestStep (S : xS) (p0 : Int32) : Int32 :=
  let q_4 := f_X9_bestStep_L4 (fu 0 (S 9 5)) S p0 (-1) 0
  q_4
def s_X9_bestStep (S : xS) (p0 : Int32) : Prop :=
  (s_X9_bestStep_L4 (fu 0 (S 9 5)) S p0 (-1) 0) ∧ (
    let q_4 := f_X9_bestStep_L4 (fu 0 (S 9 5)) S p0 (-1) 0
    True)
def f_X9_firstOfRoute_L19 : Nat → xS → Int32 → Int32 → Int32 → (xS)
  | 0, T_19, x1_19, x3_19, x4_19 => (T_19)
  | n + 1, T_19, x1_19, x3_19, x4_19 =>
    if (T_19 9 5) ≤ x4_19 then
      T_19
    else
      let r_7 := f_X9_heardIn T_19 x1_19 x4_19 x3_19
      let r_8 := f_X10_at T_19 18 x4_19
      let S_9 := f_X10_put T_19 17 x4_19 (r_7 + r_8)
      f_X9_firstOfRoute_L19 n S_9 x1_19 x3_19 (x4_19 + 1)
def s_X9_firstOfRoute_L19 : Nat → xS → Int32 → Int32 → Int32 → Prop
  | 0, _, _, _, _ => False
  | n + 1, T_19, x1_19, x3_19, x4_19 =>
    ((T_19 9 5) ≤ x4_19 →
      True) ∧ (¬ ((T_19 9 5) ≤ x4_19) →
      let r_7 := f_X9_heardIn T_19 x1_19 x4_19 x3_19
      let r_8 := f_X10_at T_19 18 x4_19
      let S_9 := f_X10_put T_19 17 x4_19 (r_7 + r_8)
      s_X9_firstOfRoute_L19 n S_9 x1_19 x3_19 (x4_19 + 1))
def f_X9_firstOfRoute_L67 : Nat → xS → Int32 → Int32 → Int32 → (xS)
  | 0, T_67, x1_67, x3_67, x4_67 => (T_67)
  | n + 1, T_67, x1_67, x3_67, x4_67 =>
    if (T_67 9 5) ≤ x4_67 then
      T_67
    else
      let r_14 := f_X9_bestStep T_67 x4_67
      let r_15 := f_X9_worthOf T_67 r_14
      let S_16 := f_X10_put T_67 18 x4_67 r_15
      f_X9_firstOfRoute_L67 n S_16 x1_67 x3_67 (x4_67 + 1)
def s_X9_firstOfRoute_L67 : Nat → xS → Int32 → Int32 → Int32 → Prop
  | 0, _, _, _, _ => False
  | n + 1, T_67, x1_67, x3_67, x4_67 =>
    ((T_67 9 5) ≤ x4_67 →
      True) ∧ (¬ ((T_67 9 5) ≤ x4_67) →
      (s_X9_bestStep T_67 x4_67) ∧ (
        let r_14 := f_X9_bestStep T_67 x4_67
        let r_15 := f_X9_worthOf T_67 r_14
        let S_16 := f_X10_put T_67 18 x4_67 r_15
        s_X9_firstOfRoute_L67 n S_16 x1_67 x3_67 (x4_67 + 1)))
def f_X9_firstOfRoute_L12 : Nat → xS → Int32 → Int32 → (xS)
  | 0, T_12, x1_12, x3_12 => (T_12)
  | n + 1, T_12, x1_12, x3_12 =>
    if x3_12 < 0 then
      T_12
    else
      let q_19 := f_X9_firstOfRoute_L19 (fu 0 (T_12 9 5)) T_12 x1_12 x3_12 0
      let q_67 := f_X9_firstOfRoute_L67 (fu 0 (q_19 9 5)) q_19 x1_12 x3_12 0
      f_X9_firstOfRoute_L12 n q_67 x1_12 (x3_12 + (-1))
def s_X9_firstOfRoute_L12 : Nat → xS → Int32 → Int32 → Prop
  | 0, _, _, _ => False
  | n + 1, T_12, x1_12, x3_12 =>
    (x3_12 < 0 →
      True) ∧ (¬ (x3_12 < 0) →
      (s_X9_firstOfRoute_L19 (fu 0 (T_12 9 5)) T_12 x1_12 x3_12 0) ∧ (
        let q_19 := f_X9_firstOfRoute_L19 (fu 0 (T_12 9 5)) T_12 x1_12 x3_12 0
        (s_X9_firstOfRoute_L67 (fu 0 (q_19 9 5)) q_19 x1_12 x3_12 0) ∧ (
          let q_67 := f_X9_firstOfRoute_L67 (fu 0 (q_19 9 5)) q_19 x1_12 x3_12 0
          s_X9_firstOfRoute_L12 n q_67 x1_12 (x3_12 + (-1)))))
def f_X9_firstOfRoute (S : xS) (p0 : Int32) (p1 : Int32) : (Int32 × xS) :=
  let S_2 := f_J7_fill_53178 S 18 0
  let q_12 := f_X9_firstOfRoute_L12 (fd (p1 - 1)) S_2 p0 (p1 - 1)
  let r_19 := f_X10_at q_12 33 p0
  let r_21 := f_X9_bestStep q_12 r_19
  (r_21, q_12)
def s_X9_firstOfRoute (S : xS) (p0 : Int32) (p1 : Int32) : Prop :=
  (s_J7_fill_53178 S 18 0) ∧ (
    let S_2 := f_J7_fill_53178 S 18 0
    (s_X9_firstOfRoute_L12 (fd (p1 - 1)) S_2 p0 (p1 - 1)) ∧ (
      let q_12 := f_X9_firstOfRoute_L12 (fd (p1 - 1)) S_2 p0 (p1 - 1)
      let r_19 := f_X10_at q_12 33 p0
      (s_X9_bestStep q_12 r_19) ∧ (
        True)))
def f_X9_saidTogether_L5 : Nat → xS → Int32 → Int32 → Int32 → Int32 → (Int32)
  | 0, S, x1_5, x2_5, x3_5, x4_5 => (x3_5)
  | n + 1, S, x1_5, x2_5, x3_5, x4_5 =>
    if (S 9 9) ≤ x4_5 then
      x3_5
    else
      let r_3 := f_X4_spokenOfBy S x4_5 (S 32 5)
      if r_3 = x4_5 then
        f_X9_saidTogether_L5 n S x1_5 x2_5 x3_5 (x4_5 + 1)
      else
        let r_6 := f_X10_has S x1_5 x4_5
        if r_6 = 0 then
          let r_8 := f_X10_at S 33 x4_5
          let r_9 := f_X10_has S x1_5 r_3
          if r_9 = 0 then
            let r_11 := f_X10_at S 33 r_3
            let r_12 := f_X10_has S (S 32 4) r_3
            let r_13 := f_X4_says S x4_5 r_8 r_3 r_11 r_12
            f_X9_saidTogether_L5 n S x1_5 x2_5 (x3_5 + r_13) (x4_5 + 1)
          else
            let r_15 := f_X10_has S (S 32 4) r_3
            let r_16 := f_X4_says S x4_5 r_8 r_3 x2_5 r_15
            f_X9_saidTogether_L5 n S x1_5 x2_5 (x3_5 + r_16) (x4_5 + 1)
        else
          let r_18 := f_X10_has S x1_5 r_3
          if r_18 = 0 then
            let r_20 := f_X10_at S 33 r_3
            let r_21 := f_X10_has S (S 32 4) r_3
            let r_22 := f_X4_says S x4_5 x2_5 r_3 r_20 r_21
            f_X9_saidTogether_L5 n S x1_5 x2_5 (x3_5 + r_22) (x4_5 + 1)
          else
            let r_24 := f_X10_has S (S 32 4) r_3
            let r_25 := f_X4_says S x4_5 x2_5 r_3 x2_5 r_24
            f_X9_saidTogether_L5 n S x1_5 x2_5 (x3_5 + r_25) (x4_5 + 1)
def s_X9_saidTogether_L5 : Nat → xS → Int32 → Int32 → Int32 → Int32 → Prop
  | 0, _, _, _, _, _ => False
  | n + 1, S, x1_5, x2_5, x3_5, x4_5 =>
    ((S 9 9) ≤ x4_5 →
      True) ∧ (¬ ((S 9 9) ≤ x4_5) →
      let r_3 := f_X4_spokenOfBy S x4_5 (S 32 5)
      (r_3 = x4_5 →
        s_X9_saidTogether_L5 n S x1_5 x2_5 x3_5 (x4_5 + 1)) ∧ (¬ (r_3 = x4_5) →
        let r_6 := f_X10_has S x1_5 x4_5
        (r_6 = 0 →
          let r_8 := f_X10_at S 33 x4_5
          let r_9 := f_X10_has S x1_5 r_3
          (r_9 = 0 →
            let r_11 := f_X10_at S 33 r_3
            let r_12 := f_X10_has S (S 32 4) r_3
            let r_13 := f_X4_says S x4_5 r_8 r_3 r_11 r_12
            s_X9_saidTogether_L5 n S x1_5 x2_5 (x3_5 + r_13) (x4_5 + 1)) ∧ (¬ (r_9 = 0) →
            let r_15 := f_X10_has S (S 32 4) r_3
            let r_16 := f_X4_says S x4_5 r_8 r_3 x2_5 r_15
            s_X9_saidTogether_L5 n S x1_5 x2_5 (x3_5 + r_16) (x4_5 + 1))) ∧ (¬ (r_6 = 0) →
          let r_18 := f_X10_has S x1_5 r_3
          (r_18 = 0 →
            let r_20 := f_X10_at S 33 r_3
            let r_21 := f_X10_has S (S 32 4) r_3
            let r_22 := f_X4_says S x4_5 x2_5 r_3 r_20 r_21
            s_X9_saidTogether_L5 n S x1_5 x2_5 (x3_5 + r_22) (x4_5 + 1)) ∧ (¬ (r_18 = 0) →
            let r_24 := f_X10_has S (S 32 4) r_3
            let r_25 := f_X4_says S x4_5 x2_5 r_3 x2_5 r_24
            s_X9_saidTogether_L5 n S x1_5 x2_5 (x3_5 + r_25) (x4_5 + 1)))))
def f_X9_saidTogether (S : xS) (p0 : Int32) (p1 : Int32) : Int32 :=
  let q_5 := f_X9_saidTogether_L5 (fu 0 (S 9 9)) S p0 p1 0 0
  q_5
def s_X9_saidTogether (S : xS) (p0 : Int32) (p1 : Int32) : Prop :=
  (s_X9_saidTogether_L5 (fu 0 (S 9 9)) S p0 p1 0 0) ∧ (
    let q_5 := f_X9_saidTogether_L5 (fu 0 (S 9 9)) S p0 p1 0 0
    True)
def f_X10_isSmaller (S : xS) (p0 : Int32) (p1 : Int32) : Int32 :=
  let r_1 := f_J6_bitCount_0f7a4 S p0
  let r_2 := f_J6_bitCount_0f7a4 S p1
  if (r_1 - r_2) < 0 then
    1
  else
    if (r_1 - r_2) = 0 then
      if p1 ≤ p0 then
        0
      else
        1
    else
      0
def f_X9_bestLeavers_L12 : Nat → xS → Int32 → Int32 → Int32 → Int32 → (Int32)
  | 0, S, x1_12, x2_12, x3_12, x4_12 => (x2_12)
  | n + 1, S, x1_12, x2_12, x3_12, x4_12 =>
    let r_3 := f_X10_bit S (S 9 9)
    if r_3 ≤ x4_12 then
      x2_12
    else
      let r_7 := f_X9_saidTogether S x4_12 x1_12
      if x3_12 < r_7 then
        f_X9_bestLeavers_L12 n S x1_12 x4_12 r_7 (x4_12 + 1)
      else
        if r_7 = x3_12 then
          let r_12 := f_X10_isSmaller S x4_12 x2_12
          if r_12 = 0 then
            f_X9_bestLeavers_L12 n S x1_12 x2_12 x3_12 (x4_12 + 1)
          else
            f_X9_bestLeavers_L12 n S x1_12 x4_12 r_7 (x4_12 + 1)
        else
          f_X9_bestLeavers_L12 n S x1_12 x2_12 x3_12 (x4_12 + 1)
def s_X9_bestLeavers_L12 : Nat → xS → Int32 → Int32 → Int32 → Int32 → Prop
  | 0, _, _, _, _, _ => False
  | n + 1, S, x1_12, x2_12, x3_12, x4_12 =>
    let r_3 := f_X10_bit S (S 9 9)
    (r_3 ≤ x4_12 →
      True) ∧ (¬ (r_3 ≤ x4_12) →
      (s_X9_saidTogether S x4_12 x1_12) ∧ (
        let r_7 := f_X9_saidTogether S x4_12 x1_12
        (x3_12 < r_7 →
          s_X9_bestLeavers_L12 n S x1_12 x4_12 r_7 (x4_12 + 1)) ∧ (¬ (x3_12 < r_7) →
          (r_7 = x3_12 →
            let r_12 := f_X10_isSmaller S x4_12 x2_12
            (r_12 = 0 →
              s_X9_bestLeavers_L12 n S x1_12 x2_12 x3_12 (x4_12 + 1)) ∧ (¬ (r_12 = 0) →
              s_X9_bestLeavers_L12 n S x1_12 x4_12 r_7 (x4_12 + 1))) ∧ (¬ (r_7 = x3_12) →
            s_X9_bestLeavers_L12 n S x1_12 x2_12 x3_12 (x4_12 + 1)))))
def f_X9_bestLeavers (S : xS) (p0 : Int32) : Int32 :=
  let r_2 := f_X9_saidTogether S 0 p0
  let q_12 := f_X9_bestLeavers_L12 (fuel_X9_bestLeavers_12) S p0 0 r_2 1
  q_12
def s_X9_bestLeavers (S : xS) (p0 : Int32) : Prop :=
  (s_X9_saidTogether S 0 p0) ∧ (
    let r_2 := f_X9_saidTogether S 0 p0
    (s_X9_bestLeavers_L12 (fuel_X9_bestLeavers_12) S p0 0 r_2 1) ∧ (
      let q_12 := f_X9_bestLeavers_L12 (fuel_X9_bestLeavers_12) S p0 0 r_2 1
      True))
def f_X9_saidOf_L4 : Nat → xS → Int32 → Int32 → Int32 → (Int32)
  | 0, S, x1_4, x2_4, x3_4 => (x2_4)
  | n + 1, S, x1_4, x2_4, x3_4 =>
    if (S 9 9) ≤ x3_4 then
      x2_4
    else
      if x3_4 = x1_4 then
        f_X9_saidOf_L4 n S x1_4 x2_4 (x3_4 + 1)
      else
        let r_5 := f_X4_saysNow S x3_4 x1_4
        f_X9_saidOf_L4 n S x1_4 (x2_4 + r_5) (x3_4 + 1)
def s_X9_saidOf_L4 : Nat → xS → Int32 → Int32 → Int32 → Prop
  | 0, _, _, _, _ => False
  | n + 1, S, x1_4, x2_4, x3_4 =>
    ((S 9 9) ≤ x3_4 →
      True) ∧ (¬ ((S 9 9) ≤ x3_4) →
      (x3_4 = x1_4 →
        s_X9_saidOf_L4 n S x1_4 x2_4 (x3_4 + 1)) ∧ (¬ (x3_4 = x1_4) →
        let r_5 := f_X4_saysNow S x3_4 x1_4
        s_X9_saidOf_L4 n S x1_4 (x2_4 + r_5) (x3_4 + 1)))
def f_X9_saidOf (S : xS) (p0 : Int32) : Int32 :=
  let q_4 := f_X9_saidOf_L4 (fu 0 (S 9 9)) S p0 0 0
  q_4
def s_X9_saidOf (S : xS) (p0 : Int32) : Prop :=
  (s_X9_saidOf_L4 (fu 0 (S 9 9)) S p0 0 0) ∧ (
    let q_4 := f_X9_saidOf_L4 (fu 0 (S 9 9)) S p0 0 0
    True)
def f_X9_praised_L6 : Nat → xS → Int32 → Int32 → Int32 → (Int32)
  | 0, S, x1_6, x2_6, x3_6 => (x1_6)
  | n + 1, S, x1_6, x2_6, x3_6 =>
    if (S 9 9) ≤ x3_6 then
      x1_6
    else
      let r_4 := f_X9_saidOf S x3_6
      if x1_6 = (-1) then
        f_X9_praised_L6 n S x3_6 r_4 (x3_6 + 1)
      else
        if r_4 ≤ x2_6 then
          f_X9_praised_L6 n S x1_6 x2_6 (x3_6 + 1)
        else
          f_X9_praised_L6 n S x3_6 r_4 (x3_6 + 1)
def s_X9_praised_L6 : Nat → xS → Int32 → Int32 → Int32 → Prop
  | 0, _, _, _, _ => False
  | n + 1, S, x1_6, x2_6, x3_6 =>
    ((S 9 9) ≤ x3_6 →
      True) ∧ (¬ ((S 9 9) ≤ x3_6) →
      (s_X9_saidOf S x3_6) ∧ (
        let r_4 := f_X9_saidOf S x3_6
        (x1_6 = (-1) →
          s_X9_praised_L6 n S x3_6 r_4 (x3_6 + 1)) ∧ (¬ (x1_6 = (-1)) →
          (r_4 ≤ x2_6 →
            s_X9_praised_L6 n S x1_6 x2_6 (x3_6 + 1)) ∧ (¬ (r_4 ≤ x2_6) →
            s_X9_praised_L6 n S x3_6 r_4 (x3_6 + 1)))))
def f_X9_praised (S : xS) : Int32 :=
  let q_6 := f_X9_praised_L6 (fu 0 (S 9 9)) S (-1) 0 0
  q_6
def s_X9_praised (S : xS) : Prop :=
  (s_X9_praised_L6 (fu 0 (S 9 9)) S (-1) 0 0) ∧ (
    let q_6 := f_X9_praised_L6 (fu 0 (S 9 9)) S (-1) 0 0
    True)
def f_X9_isSilent (S : xS) (p0 : Int32) (p1 : Int32) : Int32 :=
  let r_1 := f_X4_saysNow S p0 p1
  if 0 < r_1 then
    0
  else
    let r_3 := f_X4_saysNow S p1 p0
    if 0 < r_3 then
      0
    else
      1
def f_X9_silentPairs_L19 : Nat → xS → Int32 → Int32 → Int32 → (Int32)
  | 0, S, x1_19, x2_19, x3_19 => (x1_19)
  | n + 1, S, x1_19, x2_19, x3_19 =>
    if (S 9 9) ≤ x3_19 then
      x1_19
    else
      let r_5 := f_X9_isSilent S x2_19 x3_19
      if r_5 = 0 then
        f_X9_silentPairs_L19 n S (x1_19 + 0) x2_19 (x3_19 + 1)
      else
        f_X9_silentPairs_L19 n S (x1_19 + 1) x2_19 (x3_19 + 1)
def s_X9_silentPairs_L19 : Nat → xS → Int32 → Int32 → Int32 → Prop
  | 0, _, _, _, _ => False
  | n + 1, S, x1_19, x2_19, x3_19 =>
    ((S 9 9) ≤ x3_19 →
      True) ∧ (¬ ((S 9 9) ≤ x3_19) →
      let r_5 := f_X9_isSilent S x2_19 x3_19
      (r_5 = 0 →
        s_X9_silentPairs_L19 n S (x1_19 + 0) x2_19 (x3_19 + 1)) ∧ (¬ (r_5 = 0) →
        s_X9_silentPairs_L19 n S (x1_19 + 1) x2_19 (x3_19 + 1)))
def f_X9_silentPairs_L4 : Nat → xS → Int32 → Int32 → (Int32)
  | 0, S, x1_4, x2_4 => (x1_4)
  | n + 1, S, x1_4, x2_4 =>
    if (S 9 9) ≤ x2_4 then
      x1_4
    else
      let q_19 := f_X9_silentPairs_L19 (fu (x2_4 + 1) (S 9 9)) S x1_4 x2_4 (x2_4 + 1)
      f_X9_silentPairs_L4 n S q_19 (x2_4 + 1)
def s_X9_silentPairs_L4 : Nat → xS → Int32 → Int32 → Prop
  | 0, _, _, _ => False
  | n + 1, S, x1_4, x2_4 =>
    ((S 9 9) ≤ x2_4 →
      True) ∧ (¬ ((S 9 9) ≤ x2_4) →
      (s_X9_silentPairs_L19 (fu (x2_4 + 1) (S 9 9)) S x1_4 x2_4 (x2_4 + 1)) ∧ (
        let q_19 := f_X9_silentPairs_L19 (fu (x2_4 + 1) (S 9 9)) S x1_4 x2_4 (x2_4 + 1)
        s_X9_silentPairs_L4 n S q_19 (x2_4 + 1)))
def f_X9_silentPairs (S : xS) : Int32 :=
  let q_4 := f_X9_silentPairs_L4 (fu 0 (S 9 9)) S 0 0
  q_4
def s_X9_silentPairs (S : xS) : Prop :=
  (s_X9_silentPairs_L4 (fu 0 (S 9 9)) S 0 0) ∧ (
    let q_4 := f_X9_silentPairs_L4 (fu 0 (S 9 9)) S 0 0
    True)
def f_X9_silentPair_L20 : Nat → xS → Int32 → Int32 → Int32 → Int32 → (Int32 ⊕ (Int32))
  | 0, S, x1_20, x2_20, x3_20, x4_20 => .inr (x2_20)
  | n + 1, S, x1_20, x2_20, x3_20, x4_20 =>
    if (S 9 9) ≤ x4_20 then
      .inr x2_20
    else
      let r_5 := f_X9_isSilent S x3_20 x4_20
      if r_5 = 0 then
        f_X9_silentPair_L20 n S x1_20 x2_20 x3_20 (x4_20 + 1)
      else
        if x2_20 = x1_20 then
          .inl ((100 * x3_20) + x4_20)
        else
          f_X9_silentPair_L20 n S x1_20 (x2_20 + 1) x3_20 (x4_20 + 1)
def s_X9_silentPair_L20 : Nat → xS → Int32 → Int32 → Int32 → Int32 → Prop
  | 0, _, _, _, _, _ => False
  | n + 1, S, x1_20, x2_20, x3_20, x4_20 =>
    ((S 9 9) ≤ x4_20 →
      True) ∧ (¬ ((S 9 9) ≤ x4_20) →
      let r_5 := f_X9_isSilent S x3_20 x4_20
      (r_5 = 0 →
        s_X9_silentPair_L20 n S x1_20 x2_20 x3_20 (x4_20 + 1)) ∧ (¬ (r_5 = 0) →
        (x2_20 = x1_20 →
          True) ∧ (¬ (x2_20 = x1_20) →
          s_X9_silentPair_L20 n S x1_20 (x2_20 + 1) x3_20 (x4_20 + 1))))
def f_X9_silentPair_L4 : Nat → xS → Int32 → Int32 → Int32 → (Int32 ⊕ (Unit))
  | 0, S, x1_4, x2_4, x3_4 => .inr (())
  | n + 1, S, x1_4, x2_4, x3_4 =>
    if (S 9 9) ≤ x3_4 then
      .inr ()
    else
      Sum.elim (fun r => .inl r) (fun q_20 =>
        f_X9_silentPair_L4 n S x1_4 q_20 (x3_4 + 1)) (f_X9_silentPair_L20 (fu (x3_4 + 1) (S 9 9)) S x1_4 x2_4 x3_4 (x3_4 + 1))
def s_X9_silentPair_L4 : Nat → xS → Int32 → Int32 → Int32 → Prop
  | 0, _, _, _, _ => False
  | n + 1, S, x1_4, x2_4, x3_4 =>
    ((S 9 9) ≤ x3_4 →
      True) ∧ (¬ ((S 9 9) ≤ x3_4) →
      (s_X9_silentPair_L20 (fu (x3_4 + 1) (S 9 9)) S x1_4 x2_4 x3_4 (x3_4 + 1)) ∧ (∀ q_20, f_X9_silentPair_L20 (fu (x3_4 + 1) (S 9 9)) S x1_4 x2_4 x3_4 (x3_4 + 1) = .inr q_20 →
        s_X9_silentPair_L4 n S x1_4 q_20 (x3_4 + 1)))
def f_X9_silentPair (S : xS) (p0 : Int32) : Int32 :=
  Sum.elim (fun r => r) (fun q_4 =>
    (-1)) (f_X9_silentPair_L4 (fu 0 (S 9 9)) S p0 0 0)
def s_X9_silentPair (S : xS) (p0 : Int32) : Prop :=
  (s_X9_silentPair_L4 (fu 0 (S 9 9)) S p0 0 0) ∧ (∀ q_4, f_X9_silentPair_L4 (fu 0 (S 9 9)) S p0 0 0 = .inr q_4 →
    True)
def f_X9_covers_L2 : Nat → xS → Int32 → Int32 → (Int32 ⊕ (Unit))
  | 0, S, x1_2, x2_2 => .inr (())
  | n + 1, S, x1_2, x2_2 =>
    if (S 9 5) ≤ x2_2 then
      .inr ()
    else
      let r_3 := f_X10_has S x1_2 x2_2
      if r_3 = 0 then
        let r_6 := f_X10_at S 10 x2_2
        if (r_6 &&& x1_2) = 0 then
          .inl 0
        else
          f_X9_covers_L2 n S x1_2 (x2_2 + 1)
      else
        f_X9_covers_L2 n S x1_2 (x2_2 + 1)
def s_X9_covers_L2 : Nat → xS → Int32 → Int32 → Prop
  | 0, _, _, _ => False
  | n + 1, S, x1_2, x2_2 =>
    ((S 9 5) ≤ x2_2 →
      True) ∧ (¬ ((S 9 5) ≤ x2_2) →
      let r_3 := f_X10_has S x1_2 x2_2
      (r_3 = 0 →
        let r_6 := f_X10_at S 10 x2_2
        ((r_6 &&& x1_2) = 0 →
          True) ∧ (¬ ((r_6 &&& x1_2) = 0) →
          s_X9_covers_L2 n S x1_2 (x2_2 + 1))) ∧ (¬ (r_3 = 0) →
        s_X9_covers_L2 n S x1_2 (x2_2 + 1)))
def f_X9_covers (S : xS) (p0 : Int32) : Int32 :=
  Sum.elim (fun r => r) (fun q_2 =>
    1) (f_X9_covers_L2 (fu 0 (S 9 5)) S p0 0)
def s_X9_covers (S : xS) (p0 : Int32) : Prop :=
  (s_X9_covers_L2 (fu 0 (S 9 5)) S p0 0) ∧ (∀ q_2, f_X9_covers_L2 (fu 0 (S 9 5)) S p0 0 = .inr q_2 →
    True)
def f_X9_cover_L15 : Nat → xS → Int32 → Int32 → (Int32)
  | 0, S, x1_15, x2_15 => (x1_15)
  | n + 1, S, x1_15, x2_15 =>
    let r_2 := f_X10_bit S (S 9 5)
    if r_2 ≤ x2_15 then
      x1_15
    else
      let r_6 := f_X9_covers S x2_15
      if r_6 = 0 then
        f_X9_cover_L15 n S x1_15 (x2_15 + 1)
      else
        let r_9 := f_X10_isSmaller S x2_15 x1_15
        if r_9 = 0 then
          f_X9_cover_L15 n S x1_15 (x2_15 + 1)
        else
          f_X9_cover_L15 n S x2_15 (x2_15 + 1)
def s_X9_cover_L15 : Nat → xS → Int32 → Int32 → Prop
  | 0, _, _, _ => False
  | n + 1, S, x1_15, x2_15 =>
    let r_2 := f_X10_bit S (S 9 5)
    (r_2 ≤ x2_15 →
      True) ∧ (¬ (r_2 ≤ x2_15) →
      (s_X9_covers S x2_15) ∧ (
        let r_6 := f_X9_covers S x2_15
        (r_6 = 0 →
          s_X9_cover_L15 n S x1_15 (x2_15 + 1)) ∧ (¬ (r_6 = 0) →
          let r_9 := f_X10_isSmaller S x2_15 x1_15
          (r_9 = 0 →
            s_X9_cover_L15 n S x1_15 (x2_15 + 1)) ∧ (¬ (r_9 = 0) →
            s_X9_cover_L15 n S x2_15 (x2_15 + 1)))))
def f_X9_cover (S : xS) : Int32 :=
  let r_1 := f_X10_bit S (S 9 5)
  let q_15 := f_X9_cover_L15 (fuel_X9_cover_15) S (r_1 - 1) 0
  q_15
def s_X9_cover (S : xS) : Prop :=
  let r_1 := f_X10_bit S (S 9 5)
  (s_X9_cover_L15 (fuel_X9_cover_15) S (r_1 - 1) 0) ∧ (
    let q_15 := f_X9_cover_L15 (fuel_X9_cover_15) S (r_1 - 1) 0
    True)
def f_X9_spread_L4 : Nat → xS → Int32 → Int32 → Int32 → (Int32)
  | 0, S, x1_4, x2_4, x3_4 => (x2_4)
  | n + 1, S, x1_4, x2_4, x3_4 =>
    if (S 9 9) ≤ x3_4 then
      x2_4
    else
      let r_3 := f_X10_has S x1_4 x3_4
      if r_3 = 0 then
        f_X9_spread_L4 n S x1_4 x2_4 (x3_4 + 1)
      else
        let r_6 := f_X10_at S 33 x3_4
        let r_7 := f_X10_bit S r_6
        let r_8 := f_X10_at S 10 r_6
        f_X9_spread_L4 n S x1_4 (x2_4 ||| (r_7 ||| r_8)) (x3_4 + 1)
def s_X9_spread_L4 : Nat → xS → Int32 → Int32 → Int32 → Prop
  | 0, _, _, _, _ => False
  | n + 1, S, x1_4, x2_4, x3_4 =>
    ((S 9 9) ≤ x3_4 →
      True) ∧ (¬ ((S 9 9) ≤ x3_4) →
      let r_3 := f_X10_has S x1_4 x3_4
      (r_3 = 0 →
        s_X9_spread_L4 n S x1_4 x2_4 (x3_4 + 1)) ∧ (¬ (r_3 = 0) →
        let r_6 := f_X10_at S 33 x3_4
        let r_7 := f_X10_bit S r_6
        let r_8 := f_X10_at S 10 r_6
        s_X9_spread_L4 n S x1_4 (x2_4 ||| (r_7 ||| r_8)) (x3_4 + 1)))
def f_X9_spread (S : xS) (p0 : Int32) : Int32 :=
  let q_4 := f_X9_spread_L4 (fu 0 (S 9 9)) S p0 0 0
  let r_11 := f_X4_personsIn S q_4
  (p0 ||| r_11)
def s_X9_spread (S : xS) (p0 : Int32) : Prop :=
  (s_X9_spread_L4 (fu 0 (S 9 9)) S p0 0 0) ∧ (
    let q_4 := f_X9_spread_L4 (fu 0 (S 9 9)) S p0 0 0
    (s_X4_personsIn S q_4) ∧ (
      True))
def f_X9_knownBehind_L8 : Nat → xS → Int32 → Int32 → Int32 → (Int32)
  | 0, S, x2_8, x3_8, x4_8 => (x3_8)
  | n + 1, S, x2_8, x3_8, x4_8 =>
    if x2_8 ≤ x4_8 then
      x3_8
    else
      let r_5 := f_X9_spread S x3_8
      f_X9_knownBehind_L8 n S x2_8 r_5 (x4_8 + 1)
def s_X9_knownBehind_L8 : Nat → xS → Int32 → Int32 → Int32 → Prop
  | 0, _, _, _, _ => False
  | n + 1, S, x2_8, x3_8, x4_8 =>
    (x2_8 ≤ x4_8 →
      True) ∧ (¬ (x2_8 ≤ x4_8) →
      (s_X9_spread S x3_8) ∧ (
        let r_5 := f_X9_spread S x3_8
        s_X9_knownBehind_L8 n S x2_8 r_5 (x4_8 + 1)))
def f_X9_knownBehind (S : xS) (p0 : Int32) (p1 : Int32) : Int32 :=
  let r_1 := f_X10_bit S p0
  let q_8 := f_X9_knownBehind_L8 (fu 0 p1) S p1 r_1 0
  q_8
def s_X9_knownBehind (S : xS) (p0 : Int32) (p1 : Int32) : Prop :=
  let r_1 := f_X10_bit S p0
  (s_X9_knownBehind_L8 (fu 0 p1) S p1 r_1 0) ∧ (
    let q_8 := f_X9_knownBehind_L8 (fu 0 p1) S p1 r_1 0
    True)
def f_X9_hoursTillAllKnow_L7 : Nat → xS → Int32 → Int32 → (Int32 ⊕ (Unit))
  | 0, S, x2_7, x3_7 => .inr (())
  | n + 1, S, x2_7, x3_7 =>
    if (S 9 9) < x3_7 then
      .inr ()
    else
      let r_4 := f_X10_bit S (S 9 9)
      if x2_7 = (r_4 - 1) then
        .inl x3_7
      else
        let r_7 := f_X9_spread S x2_7
        f_X9_hoursTillAllKnow_L7 n S r_7 (x3_7 + 1)
def s_X9_hoursTillAllKnow_L7 : Nat → xS → Int32 → Int32 → Prop
  | 0, _, _, _ => False
  | n + 1, S, x2_7, x3_7 =>
    ((S 9 9) < x3_7 →
      True) ∧ (¬ ((S 9 9) < x3_7) →
      let r_4 := f_X10_bit S (S 9 9)
      (x2_7 = (r_4 - 1) →
        True) ∧ (¬ (x2_7 = (r_4 - 1)) →
        (s_X9_spread S x2_7) ∧ (
          let r_7 := f_X9_spread S x2_7
          s_X9_hoursTillAllKnow_L7 n S r_7 (x3_7 + 1))))
def f_X9_hoursTillAllKnow (S : xS) (p0 : Int32) : Int32 :=
  let r_1 := f_X10_bit S p0
  Sum.elim (fun r => r) (fun q_7 =>
    (-1)) (f_X9_hoursTillAllKnow_L7 (fu 0 (S 9 9)) S r_1 0)
def s_X9_hoursTillAllKnow (S : xS) (p0 : Int32) : Prop :=
  let r_1 := f_X10_bit S p0
  (s_X9_hoursTillAllKnow_L7 (fu 0 (S 9 9)) S r_1 0) ∧ (∀ q_7, f_X9_hoursTillAllKnow_L7 (fu 0 (S 9 9)) S r_1 0 = .inr q_7 →
    True)
def f_X9_listeningRooms_L6 : Nat → xS → Int32 → Int32 → Int32 → Int32 → Int32 → (Int32)
  | 0, S, x1_6, x2_6, x3_6, x4_6, x5_6 => (x4_6)
  | n + 1, S, x1_6, x2_6, x3_6, x4_6, x5_6 =>
    if (S 9 5) ≤ x5_6 then
      x4_6
    else
      let r_3 := f_X10_at S 33 x1_6
      let r_4 := f_X10_has S (S 32 4) x2_6
      let r_5 := f_X4_says S x1_6 r_3 x2_6 x5_6 r_4
      if r_5 = x3_6 then
        let r_8 := f_X10_bit S x5_6
        f_X9_listeningRooms_L6 n S x1_6 x2_6 x3_6 (x4_6 ||| r_8) (x5_6 + 1)
      else
        f_X9_listeningRooms_L6 n S x1_6 x2_6 x3_6 x4_6 (x5_6 + 1)
def s_X9_listeningRooms_L6 : Nat → xS → Int32 → Int32 → Int32 → Int32 → Int32 → Prop
  | 0, _, _, _, _, _, _ => False
  | n + 1, S, x1_6, x2_6, x3_6, x4_6, x5_6 =>
    ((S 9 5) ≤ x5_6 →
      True) ∧ (¬ ((S 9 5) ≤ x5_6) →
      let r_3 := f_X10_at S 33 x1_6
      let r_4 := f_X10_has S (S 32 4) x2_6
      let r_5 := f_X4_says S x1_6 r_3 x2_6 x5_6 r_4
      (r_5 = x3_6 →
        let r_8 := f_X10_bit S x5_6
        s_X9_listeningRooms_L6 n S x1_6 x2_6 x3_6 (x4_6 ||| r_8) (x5_6 + 1)) ∧ (¬ (r_5 = x3_6) →
        s_X9_listeningRooms_L6 n S x1_6 x2_6 x3_6 x4_6 (x5_6 + 1)))
def f_X9_listeningRooms (S : xS) (p0 : Int32) (p1 : Int32) (p2 : Int32) : Int32 :=
  let q_6 := f_X9_listeningRooms_L6 (fu 0 (S 9 5)) S p0 p1 p2 0 0
  q_6
def s_X9_listeningRooms (S : xS) (p0 : Int32) (p1 : Int32) (p2 : Int32) : Prop :=
  (s_X9_listeningRooms_L6 (fu 0 (S 9 5)) S p0 p1 p2 0 0) ∧ (
    let q_6 := f_X9_listeningRooms_L6 (fu 0 (S 9 5)) S p0 p1 p2 0 0
    True)
def f_X10_feed (S : xS) (p0 : Int32) : (Int32 × xS) :=
  let r_1 := f_X10_within S p0 0 255
  if r_1 = 0 then
    ((-1000000002), S)
  else
    if (S 1 2) < 240 then
      let q_6 := f_X8_add S p0
      let r_4 := q_6.1
      let S_5 := q_6.2
      (r_4, S_5)
    else
      ((-1000000004), S)
def f_X10_hill_L81 : Nat → xS → Int32 → (xS)
  | 0, T_81, x2_81 => (T_81)
  | n + 1, T_81, x2_81 =>
    if (nI 2) ≤ x2_81 then
      T_81
    else
      let S_19 := xu T_81 (30 + (x2_81).toNatClampNeg) 2 0
      f_X10_hill_L81 n S_19 (x2_81 + 1)
def s_X10_hill_L81 : Nat → xS → Int32 → Prop
  | 0, _, _ => False
  | n + 1, T_81, x2_81 =>
    ((nI 2) ≤ x2_81 →
      True) ∧ (¬ ((nI 2) ≤ x2_81) →
      (vp_in x2_81 2) ∧ (
        let S_19 := xu T_81 (30 + (x2_81).toNatClampNeg) 2 0
        s_X10_hill_L81 n S_19 (x2_81 + 1)))
def f_X10_hill (S : xS) : (Int32 × xS) :=
  let q_4 := f_X8_read S
  let r_2 := q_4.1
  let S_3 := q_4.2
  let S_5 := xu S_3 1 2 0
  if r_2 = 0 then
    (((-10) - (S_5 1 3)), S_5)
  else
    let S_8 := f_X2_copyFrom S_5 9 3
    let S_10 := f_X7_begin S_8 32 9
    let S_11 := xu S_10 19 3 0
    let S_12 := xu S_11 23 2 0
    let S_13 := f_X6_forget S_12
    let q_81 := f_X10_hill_L81 (fu 0 (nI 2)) S_13 0
    ((q_81 9 9), q_81)
def s_X10_hill (S : xS) : Prop :=
  (s_X8_read S) ∧ (
    let q_4 := f_X8_read S
    let r_2 := q_4.1
    let S_3 := q_4.2
    let S_5 := xu S_3 1 2 0
    (r_2 = 0 →
      True) ∧ (¬ (r_2 = 0) →
      (s_X2_copyFrom S_5 9 3) ∧ (
        let S_8 := f_X2_copyFrom S_5 9 3
        (s_X7_begin S_8 32 9) ∧ (
          let S_10 := f_X7_begin S_8 32 9
          let S_11 := xu S_10 19 3 0
          let S_12 := xu S_11 23 2 0
          let S_13 := f_X6_forget S_12
          (s_X10_hill_L81 (fu 0 (nI 2)) S_13 0) ∧ (
            let q_81 := f_X10_hill_L81 (fu 0 (nI 2)) S_13 0
            True)))))
def f_X10_fault (S : xS) : Int32 :=
  (S 1 4)
def f_X10_told (S : xS) (p0 : Int32) : Int32 :=
  if p0 = 0 then
    (S 9 5)
  else
    if p0 = 1 then
      (S 9 6)
    else
      if p0 = 2 then
        (S 9 7)
      else
        if p0 = 3 then
          (S 9 8)
        else
          if p0 = 4 then
            (S 9 9)
          else
            if p0 = 5 then
              (S 1 2)
            else
              if p0 = 6 then
                (S 32 5)
              else
                if p0 = 7 then
                  (S 32 4)
                else
                  if p0 = 8 then
                    let r_11 := f_X9_praised S
                    r_11
                  else
                    if p0 = 9 then
                      let r_14 := f_X9_silentPairs S
                      r_14
                    else
                      if p0 = 10 then
                        let r_17 := f_X9_cover S
                        r_17
                      else
                        if p0 = 11 then
                          (S 19 3)
                        else
                          if p0 = 12 then
                            (S 23 2)
                          else
                            if p0 = 13 then
                              (S 27 2)
                            else
                              (-1000000002)
def s_X10_told (S : xS) (p0 : Int32) : Prop :=
  (p0 = 0 →
    True) ∧ (¬ (p0 = 0) →
    (p0 = 1 →
      True) ∧ (¬ (p0 = 1) →
      (p0 = 2 →
        True) ∧ (¬ (p0 = 2) →
        (p0 = 3 →
          True) ∧ (¬ (p0 = 3) →
          (p0 = 4 →
            True) ∧ (¬ (p0 = 4) →
            (p0 = 5 →
              True) ∧ (¬ (p0 = 5) →
              (p0 = 6 →
                True) ∧ (¬ (p0 = 6) →
                (p0 = 7 →
                  True) ∧ (¬ (p0 = 7) →
                  (p0 = 8 →
                    (s_X9_praised S) ∧ (
                      True)) ∧ (¬ (p0 = 8) →
                    (p0 = 9 →
                      (s_X9_silentPairs S) ∧ (
                        True)) ∧ (¬ (p0 = 9) →
                      (p0 = 10 →
                        (s_X9_cover S) ∧ (
                          True)) ∧ (¬ (p0 = 10) →
                        True)))))))))))
def f_X10_room (S : xS) (p0 : Int32) (p1 : Int32) : Int32 :=
  let r_1 := f_X2_isRoom S 9 p0
  if r_1 = 0 then
    (-1000000001)
  else
    if p1 = 0 then
      let r_4 := f_X10_bit S p0
      let r_6 := f_X4_personsIn S r_4
      r_6
    else
      if p1 = 1 then
        let r_8 := f_X10_at S 10 p0
        r_8
      else
        if p1 = 2 then
          let r_10 := f_X10_at S 11 p0
          r_10
        else
          (-1000000002)
def s_X10_room (S : xS) (p0 : Int32) (p1 : Int32) : Prop :=
  let r_1 := f_X2_isRoom S 9 p0
  (r_1 = 0 →
    True) ∧ (¬ (r_1 = 0) →
    (p1 = 0 →
      let r_4 := f_X10_bit S p0
      (s_X4_personsIn S r_4) ∧ (
        True)) ∧ (¬ (p1 = 0) →
      True))
def f_X10_person (S : xS) (p0 : Int32) (p1 : Int32) : Int32 :=
  let r_1 := f_X2_isPerson S 9 p0
  if r_1 = 0 then
    (-1000000001)
  else
    if p1 = 0 then
      let r_4 := f_X10_at S 12 p0
      r_4
    else
      if p1 = 1 then
        let r_6 := f_X10_at S 33 p0
        r_6
      else
        if p1 = 2 then
          let r_8 := f_X10_at S 34 p0
          (r_8 + 10000)
        else
          if p1 = 3 then
            let r_10 := f_X10_at S 35 p0
            r_10
          else
            if p1 = 4 then
              let r_12 := f_X10_has S (S 32 4) p0
              if r_12 = 0 then
                0
              else
                1
            else
              (-1000000002)
def f_X10_liking (S : xS) (p0 : Int32) (p1 : Int32) : Int32 :=
  let r_1 := f_X2_isPair S 9 p0 p1
  if r_1 = 0 then
    (-1000000001)
  else
    let r_3 := f_X10_pairIndex S p0 p1
    let r_4 := f_X10_at S 36 r_3
    r_4
def f_X10_said (S : xS) (p0 : Int32) (p1 : Int32) (p2 : Int32) : Int32 :=
  let r_1 := f_X2_isPair S 9 p0 p1
  if r_1 = 0 then
    (-1000000001)
  else
    if p2 = 0 then
      let r_4 := f_X4_saysNow S p0 p1
      (r_4 + 100)
    else
      if p2 = 1 then
        let r_6 := f_X10_at S 33 p0
        let r_7 := f_X10_at S 33 p1
        let r_8 := f_X4_reaches S r_6 r_7
        if r_8 = 0 then
          0
        else
          1
      else
        (-1000000002)
def f_X10_refusalOfHours (S : xS) (p0 : Int32) : Int32 :=
  let r_1 := f_X10_within S p0 1 60
  if r_1 = 0 then
    (-1000000002)
  else
    let r_3 := f_X2_isTold S 9
    if r_3 = 0 then
      (-1000000003)
    else
      if (S 32 5) ≤ 9000 then
        0
      else
        (-1000000004)
def f_X10_hour_L25 : Nat → xS → Int32 → Int32 → (xS)
  | 0, T_25, x1_25, x3_25 => (T_25)
  | n + 1, T_25, x1_25, x3_25 =>
    if x1_25 ≤ x3_25 then
      T_25
    else
      let S_8 := f_X4_passHour T_25
      f_X10_hour_L25 n S_8 x1_25 (x3_25 + 1)
def s_X10_hour_L25 : Nat → xS → Int32 → Int32 → Prop
  | 0, _, _, _ => False
  | n + 1, T_25, x1_25, x3_25 =>
    (x1_25 ≤ x3_25 →
      True) ∧ (¬ (x1_25 ≤ x3_25) →
      (s_X4_passHour T_25) ∧ (
        let S_8 := f_X4_passHour T_25
        s_X10_hour_L25 n S_8 x1_25 (x3_25 + 1)))
def f_X10_hour (S : xS) (p0 : Int32) : (Int32 × xS) :=
  let r_1 := f_X10_refusalOfHours S p0
  if r_1 = 0 then
    let S_4 := f_X6_remember S 32
    let q_25 := f_X10_hour_L25 (fu 0 p0) S_4 p0 0
    ((q_25 32 5), q_25)
  else
    (r_1, S)
def s_X10_hour (S : xS) (p0 : Int32) : Prop :=
  let r_1 := f_X10_refusalOfHours S p0
  (r_1 = 0 →
    (s_X6_remember S 32) ∧ (
      let S_4 := f_X6_remember S 32
      (s_X10_hour_L25 (fu 0 p0) S_4 p0 0) ∧ (
        let q_25 := f_X10_hour_L25 (fu 0 p0) S_4 p0 0
        True))) ∧ (¬ (r_1 = 0) →
    True)
def f_X10_go (S : xS) (p0 : Int32) (p1 : Int32) : (Int32 × xS) :=
  let r_1 := f_X2_isPerson S 9 p0
  if r_1 = 0 then
    ((-1000000001), S)
  else
    let r_3 := f_X2_isRoom S 9 p1
    if r_3 = 0 then
      ((-1000000001), S)
    else
      let r_5 := f_X10_at S 33 p0
      let r_6 := f_X2_isWay S 9 r_5 p1
      if r_6 = 0 then
        ((-1000000003), S)
      else
        let S_9 := f_X6_remember S 32
        let S_10 := f_X10_put S_9 33 p0 p1
        (r_5, S_10)
def s_X10_go (S : xS) (p0 : Int32) (p1 : Int32) : Prop :=
  let r_1 := f_X2_isPerson S 9 p0
  (r_1 = 0 →
    True) ∧ (¬ (r_1 = 0) →
    let r_3 := f_X2_isRoom S 9 p1
    (r_3 = 0 →
      True) ∧ (¬ (r_3 = 0) →
      let r_5 := f_X10_at S 33 p0
      let r_6 := f_X2_isWay S 9 r_5 p1
      (r_6 = 0 →
        True) ∧ (¬ (r_6 = 0) →
        (s_X6_remember S 32) ∧ (
          True))))
def f_X10_cough (S : xS) (p0 : Int32) : (Int32 × xS) :=
  let r_1 := f_X2_isPerson S 9 p0
  if r_1 = 0 then
    ((-1000000001), S)
  else
    let r_3 := f_X10_has S (S 32 4) p0
    if r_3 = 0 then
      let S_6 := f_X6_remember S 32
      let r_7 := f_X10_bit S_6 p0
      let S_8 := xu S_6 32 4 ((S_6 32 4) ||| r_7)
      ((S_8 32 4), S_8)
    else
      ((-1000000003), S)
def s_X10_cough (S : xS) (p0 : Int32) : Prop :=
  let r_1 := f_X2_isPerson S 9 p0
  (r_1 = 0 →
    True) ∧ (¬ (r_1 = 0) →
    let r_3 := f_X10_has S (S 32 4) p0
    (r_3 = 0 →
      (s_X6_remember S 32) ∧ (
        True)) ∧ (¬ (r_3 = 0) →
      True))
def f_X10_like (S : xS) (p0 : Int32) (p1 : Int32) (p2 : Int32) : (Int32 × xS) :=
  let r_1 := f_X2_isPair S 9 p0 p1
  if r_1 = 0 then
    ((-1000000001), S)
  else
    let r_3 := f_X10_within S p2 0 9
    if r_3 = 0 then
      ((-1000000002), S)
    else
      let S_6 := f_X6_remember S 32
      let r_7 := f_X10_pairIndex S_6 p0 p1
      let r_8 := f_X10_at S_6 36 r_7
      let r_9 := f_X10_pairIndex S_6 p0 p1
      let S_10 := f_X10_put S_6 36 r_9 p2
      (r_8, S_10)
def s_X10_like (S : xS) (p0 : Int32) (p1 : Int32) (p2 : Int32) : Prop :=
  let r_1 := f_X2_isPair S 9 p0 p1
  (r_1 = 0 →
    True) ∧ (¬ (r_1 = 0) →
    let r_3 := f_X10_within S p2 0 9
    (r_3 = 0 →
      True) ∧ (¬ (r_3 = 0) →
      (s_X6_remember S 32) ∧ (
        True)))
def f_X10_drawDeed (S : xS) : xS :=
  if 0 < (S 9 9) then
    let q_4 := f_X1_next S 4
    let r_2 := q_4.1
    let S_3 := q_4.2
    let q_7 := f_X1_next S_3 (S_3 9 9)
    let r_5 := q_7.1
    let S_6 := q_7.2
    if r_2 = 0 then
      let q_11 := f_X1_next S_6 (S_6 9 5)
      let r_9 := q_11.1
      let S_10 := q_11.2
      let r_12 := f_X10_at S_10 33 r_5
      let r_13 := f_X2_isWay S_10 9 r_12 r_9
      if r_13 = 0 then
        S_10
      else
        let S_15 := f_X10_put S_10 33 r_5 r_9
        S_15
    else
      if r_2 = 1 then
        let r_17 := f_X10_bit S_6 r_5
        let S_18 := xu S_6 32 4 ((S_6 32 4) ||| r_17)
        S_18
      else
        if r_2 = 2 then
          let q_22 := f_X1_next S_6 (S_6 9 9)
          let r_20 := q_22.1
          let S_21 := q_22.2
          let q_25 := f_X1_next S_21 10
          let r_23 := q_25.1
          let S_24 := q_25.2
          if r_20 = r_5 then
            S_24
          else
            let r_27 := f_X10_pairIndex S_24 r_5 r_20
            let S_28 := f_X10_put S_24 36 r_27 r_23
            S_28
        else
          S_6
  else
    S
def f_X10_drift_L25 : Nat → xS → Int32 → Int32 → (xS)
  | 0, T_25, x1_25, x3_25 => (T_25)
  | n + 1, T_25, x1_25, x3_25 =>
    if x1_25 ≤ x3_25 then
      T_25
    else
      let S_7 := f_X10_drawDeed T_25
      let S_9 := f_X4_passHour S_7
      f_X10_drift_L25 n S_9 x1_25 (x3_25 + 1)
def s_X10_drift_L25 : Nat → xS → Int32 → Int32 → Prop
  | 0, _, _, _ => False
  | n + 1, T_25, x1_25, x3_25 =>
    (x1_25 ≤ x3_25 →
      True) ∧ (¬ (x1_25 ≤ x3_25) →
      let S_7 := f_X10_drawDeed T_25
      (s_X4_passHour S_7) ∧ (
        let S_9 := f_X4_passHour S_7
        s_X10_drift_L25 n S_9 x1_25 (x3_25 + 1)))
def f_X10_drift (S : xS) (p0 : Int32) : (Int32 × xS) :=
  let r_1 := f_X10_refusalOfHours S p0
  if r_1 = 0 then
    let S_4 := f_X6_remember S 32
    let q_25 := f_X10_drift_L25 (fu 0 p0) S_4 p0 0
    ((q_25 32 5), q_25)
  else
    (r_1, S)
def s_X10_drift (S : xS) (p0 : Int32) : Prop :=
  let r_1 := f_X10_refusalOfHours S p0
  (r_1 = 0 →
    (s_X6_remember S 32) ∧ (
      let S_4 := f_X6_remember S 32
      (s_X10_drift_L25 (fu 0 p0) S_4 p0 0) ∧ (
        let q_25 := f_X10_drift_L25 (fu 0 p0) S_4 p0 0
        True))) ∧ (¬ (r_1 = 0) →
    True)
def f_X10_undo (S : xS) : (Int32 × xS) :=
  let q_4 := f_X6_recall S 32
  let r_2 := q_4.1
  let S_3 := q_4.2
  if r_2 = 0 then
    ((-1000000003), S_3)
  else
    ((S_3 27 2), S_3)
def s_X10_undo (S : xS) : Prop :=
  (s_X6_recall S 32) ∧ (
    True)
def f_X10_warm (S : xS) (p0 : Int32) (p1 : Int32) : Int32 :=
  let r_1 := f_X2_isPerson S 9 p0
  if r_1 = 0 then
    (-1000000001)
  else
    let r_3 := f_X10_within S p1 0 100
    if r_3 = 0 then
      (-1000000002)
    else
      let r_5 := f_X10_at S 33 p0
      let r_7 := f_X9_warmBehind S p0 r_5 p1
      (r_7 + 10000)
def s_X10_warm (S : xS) (p0 : Int32) (p1 : Int32) : Prop :=
  let r_1 := f_X2_isPerson S 9 p0
  (r_1 = 0 →
    True) ∧ (¬ (r_1 = 0) →
    let r_3 := f_X10_within S p1 0 100
    (r_3 = 0 →
      True) ∧ (¬ (r_3 = 0) →
      let r_5 := f_X10_at S 33 p0
      (s_X9_warmBehind S p0 r_5 p1) ∧ (
        True)))
def f_X10_bestRoom (S : xS) (p0 : Int32) (p1 : Int32) (p2 : Int32) : Int32 :=
  let r_1 := f_X2_isPerson S 9 p0
  if r_1 = 0 then
    (-1000000001)
  else
    let r_3 := f_X10_within S p1 1 30
    if r_3 = 0 then
      (-1000000002)
    else
      let r_5 := f_X10_within S p2 0 1
      if r_5 = 0 then
        (-1000000002)
      else
        let r_8 := f_X9_warmestRoom S p0 p1
        if p2 = 0 then
          r_8
        else
          let r_11 := f_X9_warmBehind S p0 r_8 p1
          (r_11 + 10000)
def s_X10_bestRoom (S : xS) (p0 : Int32) (p1 : Int32) (p2 : Int32) : Prop :=
  let r_1 := f_X2_isPerson S 9 p0
  (r_1 = 0 →
    True) ∧ (¬ (r_1 = 0) →
    let r_3 := f_X10_within S p1 1 30
    (r_3 = 0 →
      True) ∧ (¬ (r_3 = 0) →
      let r_5 := f_X10_within S p2 0 1
      (r_5 = 0 →
        True) ∧ (¬ (r_5 = 0) →
        (s_X9_warmestRoom S p0 p1) ∧ (
          let r_8 := f_X9_warmestRoom S p0 p1
          (p2 = 0 →
            True) ∧ (¬ (p2 = 0) →
            (s_X9_warmBehind S p0 r_8 p1) ∧ (
              True))))))
def f_X10_route (S : xS) (p0 : Int32) (p1 : Int32) (p2 : Int32) : (Int32 × xS) :=
  let r_1 := f_X2_isPerson S 9 p0
  if r_1 = 0 then
    ((-1000000001), S)
  else
    let r_3 := f_X10_within S p1 1 8
    if r_3 = 0 then
      ((-1000000002), S)
    else
      let r_5 := f_X10_within S p2 0 1
      if r_5 = 0 then
        ((-1000000002), S)
      else
        let q_10 := f_X9_firstOfRoute S p0 p1
        let r_8 := q_10.1
        let S_9 := q_10.2
        if p2 = 0 then
          let r_12 := f_X9_worthOf S_9 r_8
          ((r_12 + 10000), S_9)
        else
          (r_8, S_9)
def s_X10_route (S : xS) (p0 : Int32) (p1 : Int32) (p2 : Int32) : Prop :=
  let r_1 := f_X2_isPerson S 9 p0
  (r_1 = 0 →
    True) ∧ (¬ (r_1 = 0) →
    let r_3 := f_X10_within S p1 1 8
    (r_3 = 0 →
      True) ∧ (¬ (r_3 = 0) →
      let r_5 := f_X10_within S p2 0 1
      (r_5 = 0 →
        True) ∧ (¬ (r_5 = 0) →
        (s_X9_firstOfRoute S p0 p1) ∧ (
          True))))
def f_X10_leavers (S : xS) (p0 : Int32) (p1 : Int32) : Int32 :=
  let r_1 := f_X2_isRoom S 9 p0
  if r_1 = 0 then
    (-1000000001)
  else
    let r_3 := f_X10_within S p1 0 1
    if r_3 = 0 then
      (-1000000002)
    else
      let r_6 := f_X9_bestLeavers S p0
      if p1 = 0 then
        r_6
      else
        let r_9 := f_X9_saidTogether S r_6 p0
        (r_9 + 10000)
def s_X10_leavers (S : xS) (p0 : Int32) (p1 : Int32) : Prop :=
  let r_1 := f_X2_isRoom S 9 p0
  (r_1 = 0 →
    True) ∧ (¬ (r_1 = 0) →
    let r_3 := f_X10_within S p1 0 1
    (r_3 = 0 →
      True) ∧ (¬ (r_3 = 0) →
      (s_X9_bestLeavers S p0) ∧ (
        let r_6 := f_X9_bestLeavers S p0
        (p1 = 0 →
          True) ∧ (¬ (p1 = 0) →
          (s_X9_saidTogether S r_6 p0) ∧ (
            True)))))
def f_X10_silent (S : xS) (p0 : Int32) : Int32 :=
  let r_2 := f_X9_silentPair S p0
  r_2
def s_X10_silent (S : xS) (p0 : Int32) : Prop :=
  (s_X9_silentPair S p0) ∧ (
    True)
def f_X10_carried (S : xS) (p0 : Int32) (p1 : Int32) : Int32 :=
  let r_1 := f_X2_isPerson S 9 p0
  if r_1 = 0 then
    (-1000000001)
  else
    if p1 = (-1) then
      let r_9 := f_X9_hoursTillAllKnow S p0
      r_9
    else
      let r_4 := f_X10_within S p1 0 20
      if r_4 = 0 then
        (-1000000002)
      else
        let r_7 := f_X9_knownBehind S p0 p1
        r_7
def s_X10_carried (S : xS) (p0 : Int32) (p1 : Int32) : Prop :=
  let r_1 := f_X2_isPerson S 9 p0
  (r_1 = 0 →
    True) ∧ (¬ (r_1 = 0) →
    (p1 = (-1) →
      (s_X9_hoursTillAllKnow S p0) ∧ (
        True)) ∧ (¬ (p1 = (-1)) →
      let r_4 := f_X10_within S p1 0 20
      (r_4 = 0 →
        True) ∧ (¬ (r_4 = 0) →
        (s_X9_knownBehind S p0 p1) ∧ (
          True))))
def f_X10_hale_L30 : Nat → xS → Int32 → Int32 → Int64 → Int32 → (Int64)
  | 0, S, x1_30, x2_30, x3_30, x5_30 => (x3_30)
  | n + 1, S, x1_30, x2_30, x3_30, x5_30 =>
    if x1_30 ≤ x5_30 then
      x3_30
    else
      f_X10_hale_L30 n S x1_30 x2_30 ((x3_30 * (x2_30 : Int32).toInt64) / 100) (x5_30 + 1)
def s_X10_hale_L30 : Nat → xS → Int32 → Int32 → Int64 → Int32 → Prop
  | 0, _, _, _, _, _ => False
  | n + 1, S, x1_30, x2_30, x3_30, x5_30 =>
    (x1_30 ≤ x5_30 →
      True) ∧ (¬ (x1_30 ≤ x5_30) →
      s_X10_hale_L30 n S x1_30 x2_30 ((x3_30 * (x2_30 : Int32).toInt64) / 100) (x5_30 + 1))
def f_X10_hale (S : xS) (p0 : Int32) (p1 : Int32) : Int32 :=
  let r_1 := f_X10_within S p0 0 60
  if r_1 = 0 then
    (-1000000002)
  else
    let r_3 := f_X10_within S p1 0 100
    if r_3 = 0 then
      (-1000000002)
    else
      let q_30 := f_X10_hale_L30 (fu 0 p0) S p0 p1 1000000000 0
      (q_30).toInt32
def s_X10_hale (S : xS) (p0 : Int32) (p1 : Int32) : Prop :=
  let r_1 := f_X10_within S p0 0 60
  (r_1 = 0 →
    True) ∧ (¬ (r_1 = 0) →
    let r_3 := f_X10_within S p1 0 100
    (r_3 = 0 →
      True) ∧ (¬ (r_3 = 0) →
      (s_X10_hale_L30 (fu 0 p0) S p0 p1 1000000000 0) ∧ (
        let q_30 := f_X10_hale_L30 (fu 0 p0) S p0 p1 1000000000 0
        True)))
def f_X10_note (S : xS) (p0 : Int32) (p1 : Int32) (p2 : Int32) : (Int32 × xS) :=
  let r_1 := f_X10_within S p0 0 2
  if r_1 = 0 then
    ((-1000000002), S)
  else
    let r_3 := f_X10_within S p1 (-9) 9
    if r_3 = 0 then
      ((-1000000002), S)
    else
      if (S 19 3) < 6 then
        let q_8 := f_X5_add S p0 p1 p2
        let r_6 := q_8.1
        let S_7 := q_8.2
        (r_6, S_7)
      else
        ((-1000000004), S)
def f_X10_thinks (S : xS) (p0 : Int32) : Int32 :=
  if p0 = 0 then
    let r_3 := f_X5_fitting S
    let r_4 := f_J6_bitCount_0f7a4 S r_3
    r_4
  else
    if p0 = 1 then
      let r_7 := f_X5_leastFitting S
      r_7
    else
      if p0 = 2 then
        let r_10 := f_X5_greatestFitting S
        r_10
      else
        (-1000000002)
def s_X10_thinks (S : xS) (p0 : Int32) : Prop :=
  (p0 = 0 →
    (s_X5_fitting S) ∧ (
      True)) ∧ (¬ (p0 = 0) →
    (p0 = 1 →
      (s_X5_leastFitting S) ∧ (
        True)) ∧ (¬ (p0 = 1) →
      (p0 = 2 →
        (s_X5_greatestFitting S) ∧ (
          True)) ∧ (¬ (p0 = 2) →
        True)))
def f_X10_ask (S : xS) (p0 : Int32) : Int32 :=
  let r_1 := f_X10_within S p0 0 2
  if r_1 = 0 then
    (-1000000002)
  else
    let r_4 := f_X5_bestQuestion S p0
    r_4
def s_X10_ask (S : xS) (p0 : Int32) : Prop :=
  let r_1 := f_X10_within S p0 0 2
  (r_1 = 0 →
    True) ∧ (¬ (r_1 = 0) →
    (s_X5_bestQuestion S p0) ∧ (
      True))
def f_X10_listens (S : xS) (p0 : Int32) (p1 : Int32) (p2 : Int32) : Int32 :=
  let r_1 := f_X2_isPair S 9 p0 p1
  if r_1 = 0 then
    (-1000000001)
  else
    let r_3 := f_X10_within S p2 (-9) 9
    if r_3 = 0 then
      (-1000000002)
    else
      let r_6 := f_X9_listeningRooms S p0 p1 p2
      r_6
def s_X10_listens (S : xS) (p0 : Int32) (p1 : Int32) (p2 : Int32) : Prop :=
  let r_1 := f_X2_isPair S 9 p0 p1
  (r_1 = 0 →
    True) ∧ (¬ (r_1 = 0) →
    let r_3 := f_X10_within S p2 (-9) 9
    (r_3 = 0 →
      True) ∧ (¬ (r_3 = 0) →
      (s_X9_listeningRooms S p0 p1 p2) ∧ (
        True)))
def f_X10_write (S : xS) (p0 : Int32) (p1 : Int32) : (Int32 × xS) :=
  let r_1 := f_X2_isPerson S 9 p0
  if r_1 = 0 then
    ((-1000000001), S)
  else
    let r_3 := f_X10_within S p1 (-9999) 9999
    if r_3 = 0 then
      ((-1000000002), S)
    else
      if (S 23 2) < 15 then
        let q_8 := f_X0_add S p0 p1
        let r_6 := q_8.1
        let S_7 := q_8.2
        (r_6, S_7)
      else
        ((-1000000004), S)
def f_X10_tear (S : xS) : (Int32 × xS) :=
  let S_1 := xu S 19 3 0
  let S_2 := xu S_1 23 2 0
  (((S 19 3) + (S 23 2)), S_2)
def f_X10_judge (S : xS) : Int32 :=
  let r_2 := f_X0_firstWrong S 32
  r_2
def s_X10_judge (S : xS) : Prop :=
  (s_X0_firstWrong S 32) ∧ (
    True)
def f_X10_seed (S : xS) (p0 : Int32) : (Int32 × xS) :=
  if 0 ≤ p0 then
    let S_2 := xu S 26 0 p0
    ((S 26 0), S_2)
  else
    ((-1000000002), S)
def f_X10_imageAt (S : xS) (p0 : Int32) : Option Nat :=
  if p0 < 0 then
    (none : Option Nat)
  else
    if (nI 2) ≤ p0 then
      (none : Option Nat)
    else
      (some (30 + (p0).toNatClampNeg))
def f_X10_keep (S : xS) (p0 : Int32) : (Int32 × xS) :=
  Option.elim (f_X10_imageAt S p0) (
    ((-1000000001), S)) (fun (t_3 : Nat) =>
    let S_6 := f_X7_copyFrom S (117 + 5 * (t_3 - 30)) 32
    let S_7 := xu S_6 t_3 1 (S_6 26 0)
    let S_8 := xu S_7 t_3 2 1
    let S_9 := f_X6_forget S_8
    (1, S_9))
def s_X10_keep (S : xS) (p0 : Int32) : Prop :=
  ((f_X10_imageAt S p0) = none →
    True) ∧ (∀ t_3 : Nat, (f_X10_imageAt S p0) = some t_3 →
    (s_X7_copyFrom S (117 + 5 * (t_3 - 30)) 32) ∧ (
      True))
def f_X10_goBack (S : xS) (p0 : Int32) : (Int32 × xS) :=
  Option.elim (f_X10_imageAt S p0) (
    ((-1000000001), S)) (fun (t_3 : Nat) =>
    if (S t_3 2) = 0 then
      ((-1000000003), S)
    else
      let S_7 := f_X7_copyFrom S 32 (117 + 5 * (t_3 - 30))
      let S_8 := xu S_7 26 0 (S_7 t_3 1)
      let S_9 := f_X6_forget S_8
      (1, S_9))
def s_X10_goBack (S : xS) (p0 : Int32) : Prop :=
  ((f_X10_imageAt S p0) = none →
    True) ∧ (∀ t_3 : Nat, (f_X10_imageAt S p0) = some t_3 →
    ((S t_3 2) = 0 →
      True) ∧ (¬ ((S t_3 2) = 0) →
      (s_X7_copyFrom S 32 (117 + 5 * (t_3 - 30))) ∧ (
        True)))
