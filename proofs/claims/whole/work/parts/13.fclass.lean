def f_X0_putDown (v1 : Int32) (v2 : Int32) (v3 : Int32) (σ : sm_M) : Option (sm_M) :=
  if (64 : Int32) ≤ (σ.1 3 0 3) then
    some σ
  else
    (uI 11 σ 0 (σ.1 3 0 3) v1).bind fun σ1 =>
    (uI 12 σ1 0 (σ1.1 3 0 3) v2).bind fun σ2 =>
    (uI 13 σ2 0 (σ2.1 3 0 3) v3).bind fun σ3 =>
    (sI 3 3 σ3 0 ((σ3.1 3 0 3) + (1 : Int32))).bind fun σ4 =>
    some σ4
def f_X1_keepAsMark (a0 : Nat) (σ : sm_M) : Option (sm_M) :=
  (sI 5 9 σ a0 (σ.1 5 a0 4)).bind fun σ1 =>
  (sI 5 10 σ1 a0 (σ1.1 5 a0 5)).bind fun σ2 =>
  (sI 5 11 σ2 a0 (σ2.1 5 a0 6)).bind fun σ3 =>
  (sI 5 8 σ3 a0 (0 : Int32)).bind fun σ4 =>
  some σ4
def f_X1_set (a0 : Nat) (v1 : Int32) (v2 : Int32) (v3 : Int32) (σ : sm_M) : Option (sm_M) :=
  (sI 5 1 σ a0 v1).bind fun σ1 =>
  (sI 5 2 σ1 a0 v2).bind fun σ2 =>
  (sZ 5 3 σ2 a0 v3).bind fun σ3 =>
  (sI 5 4 σ3 a0 (0 : Int32)).bind fun σ4 =>
  (sI 5 5 σ4 a0 (0 : Int32)).bind fun σ5 =>
  (sI 5 6 σ5 a0 (0 : Int32)).bind fun σ6 =>
  (sI 5 7 σ6 a0 (0 : Int32)).bind fun σ7 =>
  (f_X1_keepAsMark a0 σ7).bind fun q8 =>
  some q8
def f_X5_isIn_14 (s0 : Int32) (σ : sm_M) : Option (Int32 × sm_M) :=
  if s0 = 0 ∨ s0 = 1 then some (s0, σ) else none
def f_X5_isIn (v0 : Int32) (v1 : Int32) (σ : sm_M) : Option (Int32 × sm_M) :=
  if ((v0 >>> (v1 &&& 31)) &&& (1 : Int32)) = (1 : Int32) then
    f_X5_isIn_14 (1 : Int32) σ
  else
    f_X5_isIn_14 (0 : Int32) σ
def f_X1_isOverAt_24 (s0 : Int32) (σ : sm_M) : Option (Int32 × sm_M) :=
  if s0 = 0 ∨ s0 = 1 then some (s0, σ) else none
def f_X1_isOverAt_23 (σ : sm_M) : Option (Int32 × sm_M) :=
  f_X1_isOverAt_24 (0 : Int32) σ
def f_X1_isOverAt (a0 : Nat) (v1 : Int32) (v2 : Int32) (σ : sm_M) : Option (Int32 × sm_M) :=
  (f_X5_isIn v2 (σ.1 5 a0 1) σ).bind fun q1 =>
  if q1.1 = 0 then
    f_X1_isOverAt_23 q1.2
  else
    if v1 < (q1.2.1 5 a0 5) then
      f_X1_isOverAt_23 q1.2
    else
      f_X1_isOverAt_24 (1 : Int32) q1.2
def f_X1_takeOne (a0 : Nat) (σ : sm_M) : Option (sm_M) :=
  (sI 5 6 σ a0 ((σ.1 5 a0 6) + (1 : Int32))).bind fun σ1 =>
  (sI 5 7 σ1 a0 (if (σ1.1 5 a0 7) < (σ1.1 5 a0 6) then (σ1.1 5 a0 6) else (σ1.1 5 a0 7))).bind fun σ2 =>
  some σ2
def f_X1_put_41 (a0 : Nat) (σ : sm_M) : Option (sm_M) :=
  (sI 5 5 σ a0 ((σ.1 5 a0 5) + (1 : Int32))).bind fun σ1 =>
  some σ1
def f_X1_put (a0 : Nat) (v1 : Int32) (σ : sm_M) : Option (sm_M) :=
  if (σ.1 5 a0 5) < (64 : Int32) then
    if (σ.1 5 a0 5) = (σ.1 5 a0 4) then
      (uI 16 σ a0 (σ.1 5 a0 4) v1).bind fun σ1 =>
      (sI 5 4 σ1 a0 ((σ1.1 5 a0 4) + (1 : Int32))).bind fun σ2 =>
      f_X1_put_41 a0 σ2
    else
      f_X1_put_41 a0 σ
  else
    some σ
def f_X1_loseBehindMark (a0 : Nat) (σ : sm_M) : Option (sm_M) :=
  (sI 5 8 σ a0 ((σ.1 5 a0 4) - (σ.1 5 a0 9))).bind fun σ1 =>
  some σ1
def f_X1_settled (a0 : Nat) (σ : sm_M) : Option (Int32 × sm_M) :=
  some ((if (σ.1 5 a0 9) < (σ.1 5 a0 11) then (σ.1 5 a0 11) else (σ.1 5 a0 9)), σ)
def f_X1_rewindGiver_45 (a0 : Nat) (σ : sm_M) : Option (sm_M) :=
  (sI 5 4 σ a0 (σ.1 5 a0 9)).bind fun σ1 =>
  (sI 5 8 σ1 a0 (0 : Int32)).bind fun σ2 =>
  some σ2
def f_X1_rewindGiver_27 (a0 : Nat) (v1 : Int32) (σ : sm_M) : Option (sm_M) :=
  if (σ.1 5 a0 3) = 0 then
    f_X1_rewindGiver_45 a0 σ
  else
    if v1 = 0 then
      if (σ.1 5 a0 8) ≤ 0 then
        some σ
      else
        f_X1_rewindGiver_45 a0 σ
    else
      f_X1_rewindGiver_45 a0 σ
def f_X1_rewindGiver (a0 : Nat) (v1 : Int32) (σ : sm_M) : Option (sm_M) :=
  (sI 5 5 σ a0 (σ.1 5 a0 10)).bind fun σ1 =>
  if v1 = 0 then
    f_X1_rewindGiver_27 a0 v1 σ1
  else
    (f_X1_settled a0 σ1).bind fun q2 =>
    (sI 5 7 q2.2 a0 (if q2.1 < (σ1.1 5 a0 7) then q2.1 else (σ1.1 5 a0 7))).bind fun σ3 =>
    f_X1_rewindGiver_27 a0 v1 σ3
def f_X1_rewindTaker (a0 : Nat) (σ : sm_M) : Option (sm_M) :=
  (sI 5 6 σ a0 (σ.1 5 a0 11)).bind fun σ1 =>
  some σ1
def f_X2_hasTask_17 (s0 : Int32) (σ : sm_M) : Option (Int32 × sm_M) :=
  if s0 = 0 ∨ s0 = 1 then some (s0, σ) else none
def f_X2_hasTask_16 (σ : sm_M) : Option (Int32 × sm_M) :=
  f_X2_hasTask_17 (0 : Int32) σ
def f_X2_hasTask (v1 : Int32) (σ : sm_M) : Option (Int32 × sm_M) :=
  if v1 < 0 then
    f_X2_hasTask_16 σ
  else
    if (σ.1 1 0 2) ≤ v1 then
      f_X2_hasTask_16 σ
    else
      f_X2_hasTask_17 (1 : Int32) σ
def f_X2_hasChannel_17 (s0 : Int32) (σ : sm_M) : Option (Int32 × sm_M) :=
  if s0 = 0 ∨ s0 = 1 then some (s0, σ) else none
def f_X2_hasChannel_16 (σ : sm_M) : Option (Int32 × sm_M) :=
  f_X2_hasChannel_17 (0 : Int32) σ
def f_X2_hasChannel (v1 : Int32) (σ : sm_M) : Option (Int32 × sm_M) :=
  if v1 < 0 then
    f_X2_hasChannel_16 σ
  else
    if (σ.1 1 0 3) ≤ v1 then
      f_X2_hasChannel_16 σ
    else
      f_X2_hasChannel_17 (1 : Int32) σ
def f_X4_keepAsMark (a0 : Nat) (σ : sm_M) : Option (sm_M) :=
  (sI 4 14 σ a0 (σ.1 4 a0 11)).bind fun σ1 =>
  (sI 4 15 σ1 a0 (σ1.1 4 a0 12)).bind fun σ2 =>
  (sI 4 16 σ2 a0 (σ2.1 4 a0 13)).bind fun σ3 =>
  some σ3
def f_X4_set (a0 : Nat) (v1 : Int32) (v2 : Int32) (v3 : Int32) (σ : sm_M) : Option (sm_M) :=
  (sI 4 2 σ a0 v1).bind fun σ1 =>
  (sI 4 3 σ1 a0 v2).bind fun σ2 =>
  (sI 4 4 σ2 a0 v3).bind fun σ3 =>
  (sI 4 5 σ3 a0 (0 : Int32)).bind fun σ4 =>
  (sI 4 6 σ4 a0 (1001 : Int32)).bind fun σ5 =>
  (sI 4 7 σ5 a0 (8 : Int32)).bind fun σ6 =>
  (sI 4 8 σ6 a0 (0 : Int32)).bind fun σ7 =>
  (sI 4 9 σ7 a0 (0 : Int32)).bind fun σ8 =>
  (sI 4 10 σ8 a0 (0 : Int32)).bind fun σ9 =>
  (sI 4 11 σ9 a0 (0 : Int32)).bind fun σ10 =>
  (sI 4 12 σ10 a0 (0 : Int32)).bind fun σ11 =>
  (sI 4 13 σ11 a0 (0 : Int32)).bind fun σ12 =>
  (f_X4_keepAsMark a0 σ12).bind fun q13 =>
  some q13
def f_X2_addTask (v1 : Int32) (v2 : Int32) (v3 : Int32) (σ : sm_M) : Option (Int32 × sm_M) :=
  (aP 7 (σ.1 1 0 2)).bind fun x1 =>
  (f_X4_set x1 v1 v2 v3 σ).bind fun q2 =>
  (sI 1 2 q2 0 ((q2.1 1 0 2) + (1 : Int32))).bind fun σ3 =>
  some (((σ3.1 1 0 2) - (1 : Int32)), σ3)
def f_X2_addChannel (v1 : Int32) (v2 : Int32) (v3 : Int32) (σ : sm_M) : Option (Int32 × sm_M) :=
  (aP 8 (σ.1 1 0 3)).bind fun x1 =>
  (f_X1_set x1 v1 v2 v3 σ).bind fun q2 =>
  (aP 7 v2).bind fun x3 =>
  (sI 4 5 q2 x3 ((q2.1 4 x3 5) ||| ((1 : Int32) <<< (v1 &&& 31)))).bind fun σ4 =>
  (sI 1 3 σ4 0 ((σ4.1 1 0 3) + (1 : Int32))).bind fun σ5 =>
  some (((σ5.1 1 0 3) - (1 : Int32)), σ5)
def f_X2_tasksOn_37 (v2 : Int32) (σ : sm_M) : Option (Int32 × sm_M) :=
  some (v2, σ)
def f_X2_tasksOn_31 (k4 : Int32 → Int32 → Int32 → sm_M → Option (Int32 × sm_M)) (v1 : Int32) (v2 : Int32) (v3 : Int32) (σ : sm_M) : Option (Int32 × sm_M) :=
  k4 v1 v2 (v3 + 1) σ
def f_X2_tasksOn_4 : Nat → Int32 → Int32 → Int32 → sm_M → Option (Int32 × sm_M)
  | 0, _, _, _, _ => none
  | n + 1, v1, v2, v3, σ =>
    if (σ.1 1 0 2) ≤ v3 then
      f_X2_tasksOn_37 v2 σ
    else
      (aP 7 v3).bind fun x1 =>
      if (σ.1 4 x1 4) = v1 then
        f_X2_tasksOn_31 (f_X2_tasksOn_4 n) v1 (v2 ||| ((1 : Int32) <<< (v3 &&& 31))) v3 σ
      else
        f_X2_tasksOn_31 (f_X2_tasksOn_4 n) v1 v2 v3 σ
def f_X2_tasksOn (v1 : Int32) (σ : sm_M) : Option (Int32 × sm_M) :=
  f_X2_tasksOn_4 1000 v1 (0 : Int32) (0 : Int32) σ
def f_X4_waitsStill (a0 : Nat) (v1 : Int32) (σ : sm_M) : Option (Int32 × sm_M) :=
  some ((if (0 : Int32) < ((σ.1 4 a0 9) - v1) then ((σ.1 4 a0 9) - v1) else (0 : Int32)), σ)
def f_X2_countWaiting_34 (v2 : Int32) (σ : sm_M) : Option (Int32 × sm_M) :=
  some (v2, σ)
def f_X2_countWaiting_28 (k4 : Int32 → Int32 → Int32 → sm_M → Option (Int32 × sm_M)) (v1 : Int32) (v2 : Int32) (v3 : Int32) (σ : sm_M) : Option (Int32 × sm_M) :=
  k4 v1 v2 (v3 + 1) σ
def f_X2_countWaiting_4 : Nat → Int32 → Int32 → Int32 → sm_M → Option (Int32 × sm_M)
  | 0, _, _, _, _ => none
  | n + 1, v1, v2, v3, σ =>
    if (σ.1 1 0 2) ≤ v3 then
      f_X2_countWaiting_34 v2 σ
    else
      (aP 7 v3).bind fun x1 =>
      (f_X4_waitsStill x1 v1 σ).bind fun q2 =>
      if q2.1 ≤ 0 then
        f_X2_countWaiting_28 (f_X2_countWaiting_4 n) v1 v2 v3 q2.2
      else
        f_X2_countWaiting_28 (f_X2_countWaiting_4 n) v1 (v2 + 1) v3 q2.2
def f_X2_countWaiting (v1 : Int32) (σ : sm_M) : Option (Int32 × sm_M) :=
  f_X2_countWaiting_4 1000 v1 (0 : Int32) (0 : Int32) σ
def f_X2_isDone_82 (k41 : Int32 → Int32 → Int32 → sm_M → Option (Int32 × sm_M)) (v1 : Int32) (v2 : Int32) (v3 : Int32) (σ : sm_M) : Option (Int32 × sm_M) :=
  k41 v1 v2 (v3 + 1) σ
def f_X2_isDone_41 : Nat → Int32 → Int32 → Int32 → sm_M → Option (Int32 × sm_M)
  | 0, _, _, _, _ => none
  | n + 1, v1, v2, v3, σ =>
    if (σ.1 1 0 3) ≤ v3 then
      if (1 : Int32) = 0 ∨ (1 : Int32) = 1 then some ((1 : Int32), σ) else none
    else
      (aP 8 v3).bind fun x1 =>
      if (σ.1 5 x1 2) = v1 then
        (f_X1_isOverAt x1 (σ.1 5 x1 6) v2 σ).bind fun q2 =>
        if q2.1 = 0 then
          if (0 : Int32) = 0 ∨ (0 : Int32) = 1 then some ((0 : Int32), q2.2) else none
        else
          f_X2_isDone_82 (f_X2_isDone_41 n) v1 v2 v3 q2.2
      else
        f_X2_isDone_82 (f_X2_isDone_41 n) v1 v2 v3 σ
def f_X2_isDone_38 (s0 : Int32) (σ : sm_M) : Option (Int32 × sm_M) :=
  if s0 = 0 ∨ s0 = 1 then some (s0, σ) else none
def f_X2_isDone (v1 : Int32) (v2 : Int32) (σ : sm_M) : Option (Int32 × sm_M) :=
  (aP 7 v1).bind fun x1 =>
  if (σ.1 4 x1 2) = 0 then
    (aP 7 v1).bind fun x2 =>
    (aP 7 v1).bind fun x3 =>
    if (σ.1 4 x2 11) < (σ.1 4 x3 3) then
      f_X2_isDone_38 (0 : Int32) σ
    else
      f_X2_isDone_38 (1 : Int32) σ
  else
    f_X2_isDone_41 1000 v1 v2 (0 : Int32) σ
def f_X2_doneTasks_33 (v1 : Int32) (σ : sm_M) : Option (Int32 × sm_M) :=
  some (v1, σ)
def f_X2_doneTasks_27 (k4 : Int32 → Int32 → sm_M → Option (Int32 × sm_M)) (v1 : Int32) (v2 : Int32) (σ : sm_M) : Option (Int32 × sm_M) :=
  k4 v1 (v2 + 1) σ
def f_X2_doneTasks_4 : Nat → Int32 → Int32 → sm_M → Option (Int32 × sm_M)
  | 0, _, _, _ => none
  | n + 1, v1, v2, σ =>
    if (σ.1 1 0 2) ≤ v2 then
      f_X2_doneTasks_33 v1 σ
    else
      (f_X2_isDone v2 v1 σ).bind fun q1 =>
      if q1.1 = 0 then
        f_X2_doneTasks_27 (f_X2_doneTasks_4 n) v1 v2 q1.2
      else
        f_X2_doneTasks_27 (f_X2_doneTasks_4 n) (v1 ||| ((1 : Int32) <<< (v2 &&& 31))) v2 q1.2
def f_X2_doneTasks (σ : sm_M) : Option (Int32 × sm_M) :=
  f_X2_doneTasks_4 1000 (0 : Int32) (0 : Int32) σ
def f_X2_roomOf_76 (v2 : Int32) (σ : sm_M) : Option (Int32 × sm_M) :=
  some (v2, σ)
def f_X2_roomOf_70 (k32 : Int32 → Int32 → Int32 → sm_M → Option (Int32 × sm_M)) (v1 : Int32) (v2 : Int32) (v3 : Int32) (σ : sm_M) : Option (Int32 × sm_M) :=
  k32 v1 v2 (v3 + 1) σ
def f_X2_roomOf_32 : Nat → Int32 → Int32 → Int32 → sm_M → Option (Int32 × sm_M)
  | 0, _, _, _, _ => none
  | n + 1, v1, v2, v3, σ =>
    if (σ.1 1 0 3) ≤ v3 then
      f_X2_roomOf_76 v2 σ
    else
      (aP 8 v3).bind fun x1 =>
      if (σ.1 5 x1 1) = v1 then
        (aP 8 v3).bind fun x2 =>
        f_X2_roomOf_70 (f_X2_roomOf_32 n) v1 (if ((64 : Int32) - (σ.1 5 x2 5)) < v2 then ((64 : Int32) - (σ.1 5 x2 5)) else v2) v3 σ
      else
        f_X2_roomOf_70 (f_X2_roomOf_32 n) v1 v2 v3 σ
def f_X2_roomOf (v1 : Int32) (σ : sm_M) : Option (Int32 × sm_M) :=
  (aP 7 v1).bind fun x1 =>
  if (σ.1 4 x1 2) = (5 : Int32) then
    (aP 7 v1).bind fun x2 =>
    some (((200 : Int32) - (σ.1 4 x2 13)), σ)
  else
    f_X2_roomOf_32 1000 v1 (64 : Int32) (0 : Int32) σ
def f_X2_give_33 (k2 : Int32 → Int32 → Int32 → sm_M → Option (sm_M)) (v1 : Int32) (v2 : Int32) (v3 : Int32) (σ : sm_M) : Option (sm_M) :=
  k2 v1 v2 (v3 + 1) σ
def f_X2_give_2 : Nat → Int32 → Int32 → Int32 → sm_M → Option (sm_M)
  | 0, _, _, _, _ => none
  | n + 1, v1, v2, v3, σ =>
    if (σ.1 1 0 3) ≤ v3 then
      some σ
    else
      (aP 8 v3).bind fun x1 =>
      if (σ.1 5 x1 1) = v1 then
        (aP 8 v3).bind fun x2 =>
        (f_X1_put x2 v2 σ).bind fun q3 =>
        f_X2_give_33 (f_X2_give_2 n) v1 v2 v3 q3
      else
        f_X2_give_33 (f_X2_give_2 n) v1 v2 v3 σ
def f_X2_give (v1 : Int32) (v2 : Int32) (σ : sm_M) : Option (sm_M) :=
  f_X2_give_2 1000 v1 v2 (0 : Int32) σ
def f_X2_loseAllFrom_47 (k2 : Int32 → Int32 → sm_M → Option (sm_M)) (v1 : Int32) (v2 : Int32) (σ : sm_M) : Option (sm_M) :=
  k2 v1 (v2 + 1) σ
def f_X2_loseAllFrom_2 : Nat → Int32 → Int32 → sm_M → Option (sm_M)
  | 0, _, _, _ => none
  | n + 1, v1, v2, σ =>
    if (σ.1 1 0 3) ≤ v2 then
      some σ
    else
      (aP 8 v2).bind fun x1 =>
      if (σ.1 5 x1 3) = 0 then
        f_X2_loseAllFrom_47 (f_X2_loseAllFrom_2 n) v1 v2 σ
      else
        (aP 8 v2).bind fun x2 =>
        (f_X5_isIn v1 (σ.1 5 x2 1) σ).bind fun q3 =>
        if q3.1 = 0 then
          f_X2_loseAllFrom_47 (f_X2_loseAllFrom_2 n) v1 v2 q3.2
        else
          (aP 8 v2).bind fun x4 =>
          (f_X1_loseBehindMark x4 q3.2).bind fun q5 =>
          f_X2_loseAllFrom_47 (f_X2_loseAllFrom_2 n) v1 v2 q5
def f_X2_loseAllFrom (v1 : Int32) (σ : sm_M) : Option (sm_M) :=
  f_X2_loseAllFrom_2 1000 v1 (0 : Int32) σ
def f_X2_keepAsMark_27 : Nat → Int32 → sm_M → Option (sm_M)
  | 0, _, _ => none
  | n + 1, v1, σ =>
    if (σ.1 1 0 3) ≤ v1 then
      some σ
    else
      (aP 8 v1).bind fun x1 =>
      (f_X1_keepAsMark x1 σ).bind fun q2 =>
      (f_X2_keepAsMark_27 n) (v1 + 1) q2
def f_X2_keepAsMark_25 (σ : sm_M) : Option (sm_M) :=
  f_X2_keepAsMark_27 1000 (0 : Int32) σ
def f_X2_keepAsMark_2 : Nat → Int32 → sm_M → Option (sm_M)
  | 0, _, _ => none
  | n + 1, v1, σ =>
    if (σ.1 1 0 2) ≤ v1 then
      f_X2_keepAsMark_25 σ
    else
      (aP 7 v1).bind fun x1 =>
      (f_X4_keepAsMark x1 σ).bind fun q2 =>
      (f_X2_keepAsMark_2 n) (v1 + 1) q2
def f_X2_keepAsMark (σ : sm_M) : Option (sm_M) :=
  f_X2_keepAsMark_2 1000 (0 : Int32) σ
def f_X2_unsteadyIn_59 (v2 : Int32) (σ : sm_M) : Option (Int32 × sm_M) :=
  some (v2, σ)
def f_X2_unsteadyIn_53 (k4 : Int32 → Int32 → Int32 → sm_M → Option (Int32 × sm_M)) (v1 : Int32) (v2 : Int32) (v3 : Int32) (σ : sm_M) : Option (Int32 × sm_M) :=
  k4 v1 v2 (v3 + 1) σ
def f_X2_unsteadyIn_47 (k4 : Int32 → Int32 → Int32 → sm_M → Option (Int32 × sm_M)) (v1 : Int32) (v2 : Int32) (v3 : Int32) (σ : sm_M) : Option (Int32 × sm_M) :=
  f_X2_unsteadyIn_53 k4 v1 (v2 ||| ((1 : Int32) <<< (v3 &&& 31))) v3 σ
def f_X2_unsteadyIn_4 : Nat → Int32 → Int32 → Int32 → sm_M → Option (Int32 × sm_M)
  | 0, _, _, _, _ => none
  | n + 1, v1, v2, v3, σ =>
    if (σ.1 1 0 2) ≤ v3 then
      f_X2_unsteadyIn_59 v2 σ
    else
      (f_X5_isIn v1 v3 σ).bind fun q1 =>
      if q1.1 = 0 then
        f_X2_unsteadyIn_53 (f_X2_unsteadyIn_4 n) v1 v2 v3 q1.2
      else
        (aP 7 v3).bind fun x2 =>
        if (q1.2.1 4 x2 2) = (4 : Int32) then
          f_X2_unsteadyIn_47 (f_X2_unsteadyIn_4 n) v1 v2 v3 q1.2
        else
          (aP 7 v3).bind fun x3 =>
          if ((q1.2.1 4 x3 5) &&& v2) = 0 then
            f_X2_unsteadyIn_53 (f_X2_unsteadyIn_4 n) v1 v2 v3 q1.2
          else
            f_X2_unsteadyIn_47 (f_X2_unsteadyIn_4 n) v1 v2 v3 q1.2
def f_X2_unsteadyIn (v1 : Int32) (σ : sm_M) : Option (Int32 × sm_M) :=
  f_X2_unsteadyIn_4 1000 v1 (0 : Int32) (0 : Int32) σ
def f_X2_widened_140 (v3 : Int32) (σ : sm_M) : Option (Int32 × sm_M) :=
  some (v3, σ)
def f_X2_widened_134 (k11 : Int32 → Int32 → Int32 → Int32 → sm_M → Option (Int32 × sm_M)) (v1 : Int32) (v2 : Int32) (v3 : Int32) (v4 : Int32) (σ : sm_M) : Option (Int32 × sm_M) :=
  k11 v1 v2 v3 (v4 + 1) σ
def f_X2_widened_124 (k11 : Int32 → Int32 → Int32 → Int32 → sm_M → Option (Int32 × sm_M)) (v1 : Int32) (v2 : Int32) (v3 : Int32) (v4 : Int32) (a5 : Nat) (σ : sm_M) : Option (Int32 × sm_M) :=
  f_X2_widened_134 k11 v1 v2 (v3 ||| ((1 : Int32) <<< ((σ.1 5 a5 1) &&& 31))) v4 σ
def f_X2_widened_96 (k11 : Int32 → Int32 → Int32 → Int32 → sm_M → Option (Int32 × sm_M)) (v1 : Int32) (v2 : Int32) (v3 : Int32) (v4 : Int32) (a5 : Nat) (σ : sm_M) : Option (Int32 × sm_M) :=
  (f_X5_isIn v1 (σ.1 5 a5 2) σ).bind fun q1 =>
  if q1.1 = 0 then
    f_X2_widened_134 k11 v1 v2 v3 v4 q1.2
  else
    if (q1.2.1 5 a5 3) = 0 then
      f_X2_widened_124 k11 v1 v2 v3 v4 a5 q1.2
    else
      if (q1.2.1 5 a5 8) ≤ 0 then
        f_X2_widened_134 k11 v1 v2 v3 v4 q1.2
      else
        f_X2_widened_124 k11 v1 v2 v3 v4 a5 q1.2
def f_X2_widened_86 (k11 : Int32 → Int32 → Int32 → Int32 → sm_M → Option (Int32 × sm_M)) (v1 : Int32) (v2 : Int32) (v3 : Int32) (v4 : Int32) (a5 : Nat) (σ : sm_M) : Option (Int32 × sm_M) :=
  f_X2_widened_96 k11 v1 v2 (v3 ||| ((1 : Int32) <<< ((σ.1 5 a5 2) &&& 31))) v4 a5 σ
def f_X2_widened_59 (k11 : Int32 → Int32 → Int32 → Int32 → sm_M → Option (Int32 × sm_M)) (v1 : Int32) (v2 : Int32) (v3 : Int32) (v4 : Int32) (a5 : Nat) (s0 : Int32) (σ : sm_M) : Option (Int32 × sm_M) :=
  (f_X5_isIn v1 (σ.1 5 a5 1) σ).bind fun q1 =>
  if q1.1 = 0 then
    f_X2_widened_96 k11 v1 v2 v3 v4 a5 q1.2
  else
    if (q1.2.1 5 a5 3) = 0 then
      f_X2_widened_86 k11 v1 v2 v3 v4 a5 q1.2
    else
      if s0 = 0 then
        f_X2_widened_96 k11 v1 v2 v3 v4 a5 q1.2
      else
        f_X2_widened_86 k11 v1 v2 v3 v4 a5 q1.2
def f_X2_widened_58 (k11 : Int32 → Int32 → Int32 → Int32 → sm_M → Option (Int32 × sm_M)) (v1 : Int32) (v2 : Int32) (v3 : Int32) (v4 : Int32) (a5 : Nat) (σ : sm_M) : Option (Int32 × sm_M) :=
  f_X2_widened_59 k11 v1 v2 v3 v4 a5 (0 : Int32) σ
def f_X2_widened_11 : Nat → Int32 → Int32 → Int32 → Int32 → sm_M → Option (Int32 × sm_M)
  | 0, _, _, _, _, _ => none
  | n + 1, v1, v2, v3, v4, σ =>
    if (σ.1 1 0 3) ≤ v4 then
      f_X2_widened_140 v3 σ
    else
      (aP 8 v4).bind fun x1 =>
      (f_X5_isIn v2 (σ.1 5 x1 1) σ).bind fun q2 =>
      if q2.1 = 0 then
        f_X2_widened_58 (f_X2_widened_11 n) v1 v2 v3 v4 x1 q2.2
      else
        (f_X1_settled x1 q2.2).bind fun q3 =>
        if (q2.2.1 5 x1 7) ≤ q3.1 then
          f_X2_widened_58 (f_X2_widened_11 n) v1 v2 v3 v4 x1 q3.2
        else
          f_X2_widened_59 (f_X2_widened_11 n) v1 v2 v3 v4 x1 (1 : Int32) q3.2
def f_X2_widened (v1 : Int32) (σ : sm_M) : Option (Int32 × sm_M) :=
  (f_X2_unsteadyIn v1 σ).bind fun q1 =>
  f_X2_widened_11 1000 v1 q1.1 v1 (0 : Int32) q1.2
def f_X2_regionOf_34 (v2 : Int32) (σ : sm_M) : Option (Int32 × sm_M) :=
  some (v2, σ)
def f_X2_regionOf_23 (v2 : Int32) (σ : sm_M) : Option (Int32 × sm_M) :=
  some (v2, σ)
def f_X2_regionOf_4 : Nat → Int32 → Int32 → sm_M → Option (Int32 × sm_M)
  | 0, _, _, _ => none
  | n + 1, v2, v3, σ =>
    if (16 : Int32) ≤ v3 then
      f_X2_regionOf_34 v2 σ
    else
      (f_X2_widened v2 σ).bind fun q1 =>
      if q1.1 = v2 then
        f_X2_regionOf_23 v2 q1.2
      else
        (f_X2_regionOf_4 n) q1.1 (v3 + 1) q1.2
def f_X2_regionOf (v1 : Int32) (σ : sm_M) : Option (Int32 × sm_M) :=
  f_X2_regionOf_4 1000 v1 (0 : Int32) σ
def f_X4_rewind (a0 : Nat) (v1 : Int32) (σ : sm_M) : Option (sm_M) :=
  (sI 4 11 σ a0 (σ.1 4 a0 14)).bind fun σ1 =>
  (sI 4 12 σ1 a0 (σ1.1 4 a0 15)).bind fun σ2 =>
  (sI 4 13 σ2 a0 (σ2.1 4 a0 16)).bind fun σ3 =>
  (sI 4 9 σ3 a0 (if (σ3.1 4 a0 9) < v1 then v1 else (σ3.1 4 a0 9))).bind fun σ4 =>
  some σ4
def f_X2_rewind_108 (k47 : Int32 → Int32 → Int32 → sm_M → Option (sm_M)) (v1 : Int32) (v3 : Int32) (v4 : Int32) (σ : sm_M) : Option (sm_M) :=
  k47 v1 v3 (v4 + 1) σ
def f_X2_rewind_82 (k47 : Int32 → Int32 → Int32 → sm_M → Option (sm_M)) (v1 : Int32) (v3 : Int32) (v4 : Int32) (a5 : Nat) (σ : sm_M) : Option (sm_M) :=
  (f_X5_isIn v1 (σ.1 5 a5 1) σ).bind fun q1 =>
  if q1.1 = 0 then
    f_X2_rewind_108 k47 v1 v3 v4 q1.2
  else
    (f_X5_isIn v3 (q1.2.1 5 a5 1) q1.2).bind fun q2 =>
    (f_X1_rewindGiver a5 q2.1 q2.2).bind fun q3 =>
    f_X2_rewind_108 k47 v1 v3 v4 q3
def f_X2_rewind_47 : Nat → Int32 → Int32 → Int32 → sm_M → Option (sm_M)
  | 0, _, _, _, _ => none
  | n + 1, v1, v3, v4, σ =>
    if (σ.1 1 0 3) ≤ v4 then
      some σ
    else
      (aP 8 v4).bind fun x1 =>
      (f_X5_isIn v1 (σ.1 5 x1 2) σ).bind fun q2 =>
      if q2.1 = 0 then
        f_X2_rewind_82 (f_X2_rewind_47 n) v1 v3 v4 x1 q2.2
      else
        (f_X1_rewindTaker x1 q2.2).bind fun q3 =>
        f_X2_rewind_82 (f_X2_rewind_47 n) v1 v3 v4 x1 q3
def f_X2_rewind_44 (v1 : Int32) (v3 : Int32) (σ : sm_M) : Option (sm_M) :=
  f_X2_rewind_47 1000 v1 v3 (0 : Int32) σ
def f_X2_rewind_38 (k9 : Int32 → Int32 → Int32 → Int32 → sm_M → Option (sm_M)) (v1 : Int32) (v2 : Int32) (v3 : Int32) (v4 : Int32) (σ : sm_M) : Option (sm_M) :=
  k9 v1 v2 v3 (v4 + 1) σ
def f_X2_rewind_9 : Nat → Int32 → Int32 → Int32 → Int32 → sm_M → Option (sm_M)
  | 0, _, _, _, _, _ => none
  | n + 1, v1, v2, v3, v4, σ =>
    if (σ.1 1 0 2) ≤ v4 then
      f_X2_rewind_44 v1 v3 σ
    else
      (f_X5_isIn v1 v4 σ).bind fun q1 =>
      if q1.1 = 0 then
        f_X2_rewind_38 (f_X2_rewind_9 n) v1 v2 v3 v4 q1.2
      else
        (aP 7 v4).bind fun x2 =>
        (f_X4_rewind x2 v2 q1.2).bind fun q3 =>
        f_X2_rewind_38 (f_X2_rewind_9 n) v1 v2 v3 v4 q3
def f_X2_rewind (v1 : Int32) (v2 : Int32) (σ : sm_M) : Option (sm_M) :=
  (f_X2_unsteadyIn v1 σ).bind fun q1 =>
  f_X2_rewind_9 1000 v1 v2 q1.1 (0 : Int32) q1.2
def f_X3_takesMore_39 (s0 : Int32) (σ : sm_M) : Option (Int32 × sm_M) :=
  if s0 = 0 ∨ s0 = 1 then some (s0, σ) else none
def f_X3_takesMore_38 (σ : sm_M) : Option (Int32 × sm_M) :=
  f_X3_takesMore_39 (0 : Int32) σ
def f_X3_takesMore (a1 : Nat) (σ : sm_M) : Option (Int32 × sm_M) :=
  if (σ.1 2 0 3) = 0 then
    if (σ.1 4 a1 7) ≤ (σ.1 2 0 2) then
      f_X3_takesMore_38 σ
    else
      if (8 : Int32) ≤ (σ.1 2 0 2) then
        f_X3_takesMore_38 σ
      else
        if (σ.1 2 0 4) ≤ 0 then
          f_X3_takesMore_38 σ
        else
          f_X3_takesMore_39 (1 : Int32) σ
  else
    f_X3_takesMore_38 σ
def f_X4_isAside_2 : Nat → Nat → Int32 → Int32 → sm_M → Option (Int32 × sm_M)
  | 0, _, _, _, _ => none
  | n + 1, a0, v1, v2, σ =>
    if (σ.1 4 a0 10) ≤ v2 then
      if (0 : Int32) = 0 ∨ (0 : Int32) = 1 then some ((0 : Int32), σ) else none
    else
      (aI 15 σ a0 v2).bind fun x1 =>
      if x1 = v1 then
        if (1 : Int32) = 0 ∨ (1 : Int32) = 1 then some ((1 : Int32), σ) else none
      else
        (f_X4_isAside_2 n) a0 v1 (v2 + 1) σ
def f_X4_isAside (a0 : Nat) (v1 : Int32) (σ : sm_M) : Option (Int32 × sm_M) :=
  f_X4_isAside_2 1000 a0 v1 (0 : Int32) σ
def f_X4_throwsAt_31 (s0 : Int32) (σ : sm_M) : Option (Int32 × sm_M) :=
  if s0 = 0 ∨ s0 = 1 then some (s0, σ) else none
def f_X4_throwsAt_30 (σ : sm_M) : Option (Int32 × sm_M) :=
  f_X4_throwsAt_31 (0 : Int32) σ
def f_X4_throwsAt (a0 : Nat) (v1 : Int32) (v2 : Int32) (σ : sm_M) : Option (Int32 × sm_M) :=
  if (σ.1 4 a0 6) = (1001 : Int32) then
    f_X4_throwsAt_30 σ
  else
    if v2 = (σ.1 4 a0 6) then
      (f_X4_isAside a0 v1 σ).bind fun q1 =>
      if q1.1 = 0 then
        f_X4_throwsAt_31 (1 : Int32) q1.2
      else
        f_X4_throwsAt_30 q1.2
    else
      f_X4_throwsAt_30 σ
def f_X4_givesFor_29 (s0 : Int32) (σ : sm_M) : Option (Int32 × sm_M) :=
  if s0 = 0 ∨ s0 = 1 then some (s0, σ) else none
def f_X4_givesFor_28 (σ : sm_M) : Option (Int32 × sm_M) :=
  f_X4_givesFor_29 (0 : Int32) σ
def f_X4_givesFor_24 (σ : sm_M) : Option (Int32 × sm_M) :=
  f_X4_givesFor_29 (1 : Int32) σ
def f_X4_givesFor (a0 : Nat) (v1 : Int32) (σ : sm_M) : Option (Int32 × sm_M) :=
  if (σ.1 4 a0 2) = (2 : Int32) then
    if (σ.1 4 a0 3) ≤ 0 then
      f_X4_givesFor_28 σ
    else
      if (σ.1 4 a0 3) = 0 then none else
      if (v1 - v1 / (σ.1 4 a0 3) * (σ.1 4 a0 3)) = 0 then
        f_X4_givesFor_24 σ
      else
        f_X4_givesFor_28 σ
  else
    f_X4_givesFor_24 σ
def f_X3_add_54 (v2 : Int32) (v3 : Int32) (σ : sm_M) : Option (sm_M) :=
  (uI 9 σ 0 (σ.1 2 0 2) v3).bind fun σ1 =>
  (uI 10 σ1 0 (σ1.1 2 0 2) v2).bind fun σ2 =>
  (sI 2 2 σ2 0 ((σ2.1 2 0 2) + (1 : Int32))).bind fun σ3 =>
  some σ3
def f_X3_add (a1 : Nat) (v2 : Int32) (v3 : Int32) (σ : sm_M) : Option (sm_M) :=
  (f_X4_throwsAt a1 ((σ.1 4 a1 11) + (σ.1 2 0 2)) v3 σ).bind fun q1 =>
  if q1.1 = 0 then
    (f_X4_isAside a1 ((σ.1 4 a1 11) + (σ.1 2 0 2)) q1.2).bind fun q2 =>
    if q2.1 = 0 then
      (f_X4_givesFor a1 v3 q2.2).bind fun q3 =>
      if q3.1 = 0 then
        f_X3_add_54 v2 v3 q3.2
      else
        (sI 2 4 q3.2 0 ((q3.2.1 2 0 4) - (1 : Int32))).bind fun σ4 =>
        f_X3_add_54 v2 v3 σ4
    else
      f_X3_add_54 v2 v3 q2.2
  else
    (sZ 2 3 q1.2 0 (1 : Int32)).bind fun σ5 =>
    some σ5
def f_X3_fillFromSource_5 : Nat → Nat → Int32 → Int32 → sm_M → Option (sm_M)
  | 0, _, _, _, _ => none
  | n + 1, a1, v2, v3, σ =>
    if (σ.1 4 a1 3) ≤ v3 then
      some σ
    else
      (f_X3_takesMore a1 σ).bind fun q1 =>
      if q1.1 = 0 then
        some q1.2
      else
        if (20 : Int32) = 0 then none else
        (f_X3_add a1 (-9 : Int32) ((((5 : Int32) * v2) + ((3 : Int32) * v3)) - (((5 : Int32) * v2) + ((3 : Int32) * v3)) / (20 : Int32) * (20 : Int32)) q1.2).bind fun q2 =>
        (f_X3_fillFromSource_5 n) a1 v2 (v3 + 1) q2
def f_X3_fillFromSource (a1 : Nat) (v2 : Int32) (σ : sm_M) : Option (sm_M) :=
  f_X3_fillFromSource_5 1000 a1 v2 (σ.1 4 a1 11) σ
def f_X3_fillFromChannels_114 (k16 : Int32 → Nat → Int32 → Int32 → sm_M → Option (sm_M)) (v2 : Int32) (a3 : Nat) (v4 : Int32) (v5 : Int32) (σ : sm_M) : Option (sm_M) :=
  k16 v2 a3 v4 (v5 + 1) σ
def f_X3_fillFromChannels_101 (k16 : Int32 → Nat → Int32 → Int32 → sm_M → Option (sm_M)) (v2 : Int32) (a3 : Nat) (v4 : Int32) (v5 : Int32) (a6 : Nat) (v7 : Int32) (σ : sm_M) : Option (sm_M) :=
  (f_X1_isOverAt a6 v7 v4 σ).bind fun q1 =>
  if q1.1 = 0 then
    some q1.2
  else
    f_X3_fillFromChannels_114 k16 v2 a3 v4 v5 q1.2
def f_X3_fillFromChannels_50 (k16 : Int32 → Nat → Int32 → Int32 → sm_M → Option (sm_M)) : Nat → Int32 → Nat → Int32 → Int32 → Nat → Int32 → sm_M → Option (sm_M)
  | 0, _, _, _, _, _, _, _ => none
  | n + 1, v2, a3, v4, v5, a6, v7, σ =>
    if (σ.1 5 a6 4) ≤ v7 then
      f_X3_fillFromChannels_101 k16 v2 a3 v4 v5 a6 v7 σ
    else
      (f_X1_isOverAt a6 v7 v4 σ).bind fun q1 =>
      if q1.1 = 0 then
        (f_X3_takesMore a3 q1.2).bind fun q2 =>
        if q2.1 = 0 then
          f_X3_fillFromChannels_101 k16 v2 a3 v4 v5 a6 v7 q2.2
        else
          (aI 16 q2.2 a6 v7).bind fun x3 =>
          (f_X3_add a3 v5 x3 q2.2).bind fun q4 =>
          (f_X3_fillFromChannels_50 k16 n) v2 a3 v4 v5 a6 (v7 + 1) q4
      else
        f_X3_fillFromChannels_101 k16 v2 a3 v4 v5 a6 v7 q1.2
def f_X3_fillFromChannels_16 : Nat → Int32 → Nat → Int32 → Int32 → sm_M → Option (sm_M)
  | 0, _, _, _, _, _ => none
  | n + 1, v2, a3, v4, v5, σ =>
    if (σ.1 1 0 3) ≤ v5 then
      some σ
    else
      (aP 8 v5).bind fun x1 =>
      if (σ.1 5 x1 2) = v2 then
        f_X3_fillFromChannels_50 (f_X3_fillFromChannels_16 n) 1000 v2 a3 v4 v5 x1 (σ.1 5 x1 6) σ
      else
        f_X3_fillFromChannels_114 (f_X3_fillFromChannels_16 n) v2 a3 v4 v5 σ
def f_X3_fillFromChannels (v2 : Int32) (σ : sm_M) : Option (sm_M) :=
  (aP 7 v2).bind fun x1 =>
  (f_X2_doneTasks σ).bind fun q2 =>
  f_X3_fillFromChannels_16 1000 v2 x1 q2.1 (0 : Int32) q2.2
def f_X3_fill (v2 : Int32) (σ : sm_M) : Option (sm_M) :=
  (sI 2 2 σ 0 (0 : Int32)).bind fun σ1 =>
  (sZ 2 3 σ1 0 (0 : Int32)).bind fun σ2 =>
  (f_X2_roomOf v2 σ2).bind fun q3 =>
  (sI 2 4 q3.2 0 q3.1).bind fun σ4 =>
  (aP 7 v2).bind fun x5 =>
  if (σ4.1 4 x5 2) = 0 then
    (aP 7 v2).bind fun x7 =>
    (f_X3_fillFromSource x7 v2 σ4).bind fun q8 =>
    some q8
  else
    (f_X3_fillFromChannels v2 σ4).bind fun q6 =>
    some q6
def f_X4_narrowAfterThrow (a0 : Nat) (v1 : Int32) (σ : sm_M) : Option (sm_M) :=
  if (σ.1 4 a0 7) ≤ (1 : Int32) then
    if v1 = 0 then
      some σ
    else
      if (8 : Int32) ≤ (σ.1 4 a0 10) then
        some σ
      else
        (uI 15 σ a0 (σ.1 4 a0 10) (σ.1 4 a0 11)).bind fun σ1 =>
        (sI 4 10 σ1 a0 ((σ1.1 4 a0 10) + (1 : Int32))).bind fun σ2 =>
        (sI 4 7 σ2 a0 (8 : Int32)).bind fun σ3 =>
        some σ3
  else
    if (2 : Int32) = 0 then none else
    (sI 4 7 σ a0 ((σ.1 4 a0 7) / (2 : Int32))).bind fun σ4 =>
    some σ4
def f_X4_putOut (a0 : Nat) (v1 : Int32) (σ : sm_M) : Option (sm_M) :=
  if (200 : Int32) ≤ (σ.1 4 a0 13) then
    some σ
  else
    (uI 14 σ a0 (σ.1 4 a0 13) v1).bind fun σ1 =>
    (sI 4 13 σ1 a0 ((σ1.1 4 a0 13) + (1 : Int32))).bind fun σ2 =>
    some σ2
def f_X5_isNode_14 (s0 : Int32) (σ : sm_M) : Option (Int32 × sm_M) :=
  if s0 = 0 ∨ s0 = 1 then some (s0, σ) else none
def f_X5_isNode_13 (σ : sm_M) : Option (Int32 × sm_M) :=
  f_X5_isNode_14 (0 : Int32) σ
def f_X5_isNode (v0 : Int32) (σ : sm_M) : Option (Int32 × sm_M) :=
  if v0 < 0 then
    f_X5_isNode_13 σ
  else
    if (4 : Int32) ≤ v0 then
      f_X5_isNode_13 σ
    else
      f_X5_isNode_14 (1 : Int32) σ
def f_X5_mayBe_93 (s0 : Int32) (σ : sm_M) : Option (Int32 × sm_M) :=
  if s0 = 0 ∨ s0 = 1 then some (s0, σ) else none
def f_X5_mayBe_92 (σ : sm_M) : Option (Int32 × sm_M) :=
  f_X5_mayBe_93 (0 : Int32) σ
def f_X5_mayBe_77 (s0 : Int32) (σ : sm_M) : Option (Int32 × sm_M) :=
  if s0 = 0 ∨ s0 = 1 then some (s0, σ) else none
def f_X5_mayBe_76 (σ : sm_M) : Option (Int32 × sm_M) :=
  f_X5_mayBe_77 (0 : Int32) σ
def f_X5_mayBe_61 (s0 : Int32) (σ : sm_M) : Option (Int32 × sm_M) :=
  if s0 = 0 ∨ s0 = 1 then some (s0, σ) else none
def f_X5_mayBe_60 (σ : sm_M) : Option (Int32 × sm_M) :=
  f_X5_mayBe_61 (0 : Int32) σ
def f_X5_mayBe_43 (s0 : Int32) (σ : sm_M) : Option (Int32 × sm_M) :=
  if s0 = 0 ∨ s0 = 1 then some (s0, σ) else none
def f_X5_mayBe_42 (σ : sm_M) : Option (Int32 × sm_M) :=
  f_X5_mayBe_43 (0 : Int32) σ
def f_X5_mayBe (v0 : Int32) (v1 : Int32) (σ : sm_M) : Option (Int32 × sm_M) :=
  if v0 = 0 then
    if v1 < 0 then
      f_X5_mayBe_42 σ
    else
      if (20 : Int32) < v1 then
        f_X5_mayBe_42 σ
      else
        f_X5_mayBe_43 (1 : Int32) σ
  else
    if v0 = 1 then
      if v1 < (-20 : Int32) then
        f_X5_mayBe_60 σ
      else
        if (20 : Int32) < v1 then
          f_X5_mayBe_60 σ
        else
          f_X5_mayBe_61 (1 : Int32) σ
    else
      if v0 = 2 then
        if v1 < (1 : Int32) then
          f_X5_mayBe_76 σ
        else
          if (5 : Int32) < v1 then
            f_X5_mayBe_76 σ
          else
            f_X5_mayBe_77 (1 : Int32) σ
      else
        if v0 < (3 : Int32) then
          f_X5_mayBe_92 σ
        else
          if (5 : Int32) < v0 then
            f_X5_mayBe_92 σ
          else
            f_X5_mayBe_93 (1 : Int32) σ
def f_X5_task (v1 : Int32) (v2 : Int32) (v3 : Int32) (σ : sm_M) : Option (Int32 × sm_M) :=
  (f_X5_isNode v3 σ).bind fun q1 =>
  if q1.1 = 0 then
    some ((-1 : Int32), q1.2)
  else
    (aI 6 q1.2 0 v3).bind fun x2 =>
    if x2 = 0 then
      some ((-1 : Int32), q1.2)
    else
      (f_X5_mayBe v1 v2 q1.2).bind fun q3 =>
      if q3.1 = 0 then
        some ((-2 : Int32), q3.2)
      else
        if (q3.2.1 0 0 11) = 0 then
          if (q3.2.1 1 0 2) < (16 : Int32) then
            (f_X2_addTask v1 v2 v3 q3.2).bind fun q4 =>
            some (q4.1, q4.2)
          else
            some ((-4 : Int32), q3.2)
        else
          some ((-3 : Int32), q3.2)
def f_X5_channel_60 (σ : sm_M) : Option (Int32 × sm_M) :=
  some ((-2 : Int32), σ)
def f_X5_channel (v1 : Int32) (v2 : Int32) (v3 : Int32) (σ : sm_M) : Option (Int32 × sm_M) :=
  (f_X2_hasTask v1 σ).bind fun q1 =>
  if q1.1 = 0 then
    some ((-1 : Int32), q1.2)
  else
    (f_X2_hasTask v2 q1.2).bind fun q2 =>
    if q2.1 = 0 then
      some ((-1 : Int32), q2.2)
    else
      if v2 ≤ v1 then
        f_X5_channel_60 q2.2
      else
        (aP 7 v1).bind fun x3 =>
        if (q2.2.1 4 x3 2) = (5 : Int32) then
          f_X5_channel_60 q2.2
        else
          (aP 7 v2).bind fun x4 =>
          if (q2.2.1 4 x4 2) = 0 then
            f_X5_channel_60 q2.2
          else
            if (q2.2.1 0 0 11) = 0 then
              if (q2.2.1 1 0 3) < (40 : Int32) then
                (f_X2_addChannel v1 v2 v3 q2.2).bind fun q5 =>
                some (q5.1, q5.2)
              else
                some ((-4 : Int32), q2.2)
            else
              some ((-3 : Int32), q2.2)
def f_X5_poison_27 (σ : sm_M) : Option (Int32 × sm_M) :=
  some ((-2 : Int32), σ)
def f_X5_poison (v1 : Int32) (v2 : Int32) (σ : sm_M) : Option (Int32 × sm_M) :=
  (f_X2_hasTask v1 σ).bind fun q1 =>
  if q1.1 = 0 then
    some ((-1 : Int32), q1.2)
  else
    if v2 < (-1000 : Int32) then
      f_X5_poison_27 q1.2
    else
      if v2 ≤ (1000 : Int32) then
        if (q1.2.1 0 0 11) = 0 then
          (aP 7 v1).bind fun x2 =>
          (aP 7 v1).bind fun x3 =>
          (sI 4 6 q1.2 x3 v2).bind fun σ4 =>
          some ((q1.2.1 4 x2 6), σ4)
        else
          some ((-3 : Int32), q1.2)
      else
        f_X5_poison_27 q1.2
def f_X5_rule_11 (σ : sm_M) : Option (Int32 × sm_M) :=
  some ((-2 : Int32), σ)
def f_X5_rule (v1 : Int32) (v2 : Int32) (σ : sm_M) : Option (Int32 × sm_M) :=
  if v1 < (1 : Int32) then
    f_X5_rule_11 σ
  else
    if v1 ≤ (9 : Int32) then
      (sI 0 4 σ 0 v1).bind fun σ1 =>
      (sZ 0 5 σ1 0 v2).bind fun σ2 =>
      some ((σ.1 0 0 4), σ2)
    else
      f_X5_rule_11 σ
def f_X5_blameAll_96 (v3 : Int32) (σ : sm_M) : Option (Int32 × sm_M) :=
  some (v3, σ)
def f_X5_blameAll_83 (v3 : Int32) (σ : sm_M) : Option (Int32 × sm_M) :=
  if v3 ≤ (σ.1 0 0 4) then
    f_X5_blameAll_96 v3 σ
  else
    (sZ 0 12 σ 0 (1 : Int32)).bind fun σ1 =>
    f_X5_blameAll_96 v3 σ1
def f_X5_blameAll_77 (k5 : Int32 → Int32 → Int32 → Int32 → sm_M → Option (Int32 × sm_M)) (v1 : Int32) (v2 : Int32) (v3 : Int32) (v4 : Int32) (σ : sm_M) : Option (Int32 × sm_M) :=
  k5 v1 v2 v3 (v4 + 1) σ
def f_X5_blameAll_5 : Nat → Int32 → Int32 → Int32 → Int32 → sm_M → Option (Int32 × sm_M)
  | 0, _, _, _, _, _ => none
  | n + 1, v1, v2, v3, v4, σ =>
    if (σ.1 1 0 2) ≤ v4 then
      f_X5_blameAll_83 v3 σ
    else
      (f_X5_isIn v1 v4 σ).bind fun q1 =>
      if q1.1 = 0 then
        f_X5_blameAll_77 (f_X5_blameAll_5 n) v1 v2 v3 v4 q1.2
      else
        (f_X0_putDown v4 (q1.2.1 0 0 6) v2 q1.2).bind fun q2 =>
        (aP 7 v4).bind fun x3 =>
        (sI 4 8 q2 x3 ((q2.1 4 x3 8) + (1 : Int32))).bind fun σ4 =>
        (aP 7 v4).bind fun x5 =>
        f_X5_blameAll_77 (f_X5_blameAll_5 n) v1 v2 (if v3 < (σ4.1 4 x5 8) then (σ4.1 4 x5 8) else v3) v4 σ4
def f_X5_blameAll (v1 : Int32) (v2 : Int32) (σ : sm_M) : Option (Int32 × sm_M) :=
  f_X5_blameAll_5 1000 v1 v2 (0 : Int32) (0 : Int32) σ
def f_X5_waitAfter_25 (s0 : Int32) (σ : sm_M) : Option (Int32 × sm_M) :=
  some (s0, σ)
def f_X5_waitAfter_10 (σ : sm_M) : Option (Int32 × sm_M) :=
  f_X5_waitAfter_25 (16 : Int32) σ
def f_X5_waitAfter (v0 : Int32) (σ : sm_M) : Option (Int32 × sm_M) :=
  if v0 < (1 : Int32) then
    f_X5_waitAfter_10 σ
  else
    if v0 ≤ (5 : Int32) then
      f_X5_waitAfter_25 (if ((1 : Int32) <<< ((v0 - (1 : Int32)) &&& 31)) < (16 : Int32) then ((1 : Int32) <<< ((v0 - (1 : Int32)) &&& 31)) else (16 : Int32)) σ
    else
      f_X5_waitAfter_10 σ
def f_J6_bitCount_0f7a4 (v0 : Int32) (σ : sm_M) : Option (Int32 × sm_M) :=
  some (((((((((v0 - ((v0.toUInt32 >>> ((1 : Int32).toUInt32 &&& Int32.toUInt32 31)).toInt32 &&& (1431655765 : Int32))) &&& (858993459 : Int32)) + (((v0 - ((v0.toUInt32 >>> ((1 : Int32).toUInt32 &&& Int32.toUInt32 31)).toInt32 &&& (1431655765 : Int32))).toUInt32 >>> ((2 : Int32).toUInt32 &&& Int32.toUInt32 31)).toInt32 &&& (858993459 : Int32))) + ((((v0 - ((v0.toUInt32 >>> ((1 : Int32).toUInt32 &&& Int32.toUInt32 31)).toInt32 &&& (1431655765 : Int32))) &&& (858993459 : Int32)) + (((v0 - ((v0.toUInt32 >>> ((1 : Int32).toUInt32 &&& Int32.toUInt32 31)).toInt32 &&& (1431655765 : Int32))).toUInt32 >>> ((2 : Int32).toUInt32 &&& Int32.toUInt32 31)).toInt32 &&& (858993459 : Int32))).toUInt32 >>> ((4 : Int32).toUInt32 &&& Int32.toUInt32 31)).toInt32) &&& (252645135 : Int32)) + ((((((v0 - ((v0.toUInt32 >>> ((1 : Int32).toUInt32 &&& Int32.toUInt32 31)).toInt32 &&& (1431655765 : Int32))) &&& (858993459 : Int32)) + (((v0 - ((v0.toUInt32 >>> ((1 : Int32).toUInt32 &&& Int32.toUInt32 31)).toInt32 &&& (1431655765 : Int32))).toUInt32 >>> ((2 : Int32).toUInt32 &&& Int32.toUInt32 31)).toInt32 &&& (858993459 : Int32))) + ((((v0 - ((v0.toUInt32 >>> ((1 : Int32).toUInt32 &&& Int32.toUInt32 31)).toInt32 &&& (1431655765 : Int32))) &&& (858993459 : Int32)) + (((v0 - ((v0.toUInt32 >>> ((1 : Int32).toUInt32 &&& Int32.toUInt32 31)).toInt32 &&& (1431655765 : Int32))).toUInt32 >>> ((2 : Int32).toUInt32 &&& Int32.toUInt32 31)).toInt32 &&& (858993459 : Int32))).toUInt32 >>> ((4 : Int32).toUInt32 &&& Int32.toUInt32 31)).toInt32) &&& (252645135 : Int32)).toUInt32 >>> ((8 : Int32).toUInt32 &&& Int32.toUInt32 31)).toInt32) + (((((((v0 - ((v0.toUInt32 >>> ((1 : Int32).toUInt32 &&& Int32.toUInt32 31)).toInt32 &&& (1431655765 : Int32))) &&& (858993459 : Int32)) + (((v0 - ((v0.toUInt32 >>> ((1 : Int32).toUInt32 &&& Int32.toUInt32 31)).toInt32 &&& (1431655765 : Int32))).toUInt32 >>> ((2 : Int32).toUInt32 &&& Int32.toUInt32 31)).toInt32 &&& (858993459 : Int32))) + ((((v0 - ((v0.toUInt32 >>> ((1 : Int32).toUInt32 &&& Int32.toUInt32 31)).toInt32 &&& (1431655765 : Int32))) &&& (858993459 : Int32)) + (((v0 - ((v0.toUInt32 >>> ((1 : Int32).toUInt32 &&& Int32.toUInt32 31)).toInt32 &&& (1431655765 : Int32))).toUInt32 >>> ((2 : Int32).toUInt32 &&& Int32.toUInt32 31)).toInt32 &&& (858993459 : Int32))).toUInt32 >>> ((4 : Int32).toUInt32 &&& Int32.toUInt32 31)).toInt32) &&& (252645135 : Int32)) + ((((((v0 - ((v0.toUInt32 >>> ((1 : Int32).toUInt32 &&& Int32.toUInt32 31)).toInt32 &&& (1431655765 : Int32))) &&& (858993459 : Int32)) + (((v0 - ((v0.toUInt32 >>> ((1 : Int32).toUInt32 &&& Int32.toUInt32 31)).toInt32 &&& (1431655765 : Int32))).toUInt32 >>> ((2 : Int32).toUInt32 &&& Int32.toUInt32 31)).toInt32 &&& (858993459 : Int32))) + ((((v0 - ((v0.toUInt32 >>> ((1 : Int32).toUInt32 &&& Int32.toUInt32 31)).toInt32 &&& (1431655765 : Int32))) &&& (858993459 : Int32)) + (((v0 - ((v0.toUInt32 >>> ((1 : Int32).toUInt32 &&& Int32.toUInt32 31)).toInt32 &&& (1431655765 : Int32))).toUInt32 >>> ((2 : Int32).toUInt32 &&& Int32.toUInt32 31)).toInt32 &&& (858993459 : Int32))).toUInt32 >>> ((4 : Int32).toUInt32 &&& Int32.toUInt32 31)).toInt32) &&& (252645135 : Int32)).toUInt32 >>> ((8 : Int32).toUInt32 &&& Int32.toUInt32 31)).toInt32).toUInt32 >>> ((16 : Int32).toUInt32 &&& Int32.toUInt32 31)).toInt32) &&& (63 : Int32)), σ)
def f_X5_beginAgain (v1 : Int32) (v2 : Int32) (σ : sm_M) : Option (Int32 × sm_M) :=
  (f_X2_regionOf v1 σ).bind fun q1 =>
  (f_X5_waitAfter v2 q1.2).bind fun q2 =>
  (f_X2_rewind q1.1 ((q1.2.1 0 0 6) + q2.1) q2.2).bind fun q3 =>
  (f_J6_bitCount_0f7a4 q1.1 q3).bind fun q4 =>
  (sI 0 10 q4.2 0 ((q4.2.1 0 0 10) + q4.1)).bind fun σ5 =>
  some (q4.1, σ5)
def f_X5_failAlone_28 (s0 : Int32) (σ : sm_M) : Option (Int32 × sm_M) :=
  some (s0, σ)
def f_X5_failAlone (v1 : Int32) (v2 : Int32) (σ : sm_M) : Option (Int32 × sm_M) :=
  (f_X5_blameAll ((1 : Int32) <<< (v1 &&& 31)) v2 σ).bind fun q1 =>
  if (q1.2.1 0 0 12) = 0 then
    (f_X5_beginAgain ((1 : Int32) <<< (v1 &&& 31)) q1.1 q1.2).bind fun q2 =>
    f_X5_failAlone_28 q2.1 q2.2
  else
    f_X5_failAlone_28 (0 : Int32) q1.2
def f_X5_work_136 (v1 : Int32) (v2 : Int32) (a3 : Nat) (σ : sm_M) : Option (sm_M) :=
  (f_X4_givesFor a3 v2 σ).bind fun q1 =>
  if q1.1 = 0 then
    some q1.2
  else
    (f_X2_give v1 v2 q1.2).bind fun q2 =>
    some q2
def f_X5_work (v1 : Int32) (v2 : Int32) (σ : sm_M) : Option (sm_M) :=
  (aP 7 v1).bind fun x1 =>
  if (σ.1 4 x1 2) = 1 then
    (f_X2_give v1 (v2 + (σ.1 4 x1 3)) σ).bind fun q2 =>
    some q2
  else
    if (σ.1 4 x1 2) = 2 then
      f_X5_work_136 v1 v2 x1 σ
    else
      if (σ.1 4 x1 2) = 3 then
        (sI 4 12 σ x1 ((σ.1 4 x1 12) + v2)).bind fun σ3 =>
        (f_X2_give v1 (σ3.1 4 x1 12) σ3).bind fun q4 =>
        some q4
      else
        if (σ.1 4 x1 2) = 4 then
          if (2147483647 : Int64) = 0 then none else
          (sJ 0 7 σ 0 (((σ.2 0 0 7) * (16807 : Int64)) - ((σ.2 0 0 7) * (16807 : Int64)) / (2147483647 : Int64) * (2147483647 : Int64))).bind fun σ5 =>
          if (10 : Int64) = 0 then none else
          (f_X2_give v1 (v2 + ((σ5.2 0 0 7) - (σ5.2 0 0 7) / (10 : Int64) * (10 : Int64)).toInt32) σ5).bind fun q6 =>
          some q6
        else
          if (σ.1 4 x1 2) = 5 then
            (f_X4_putOut x1 v2 σ).bind fun q7 =>
            some q7
          else
            f_X5_work_136 v1 v2 x1 σ
def f_X5_carryOut_106 (k12 : Int32 → Nat → Int32 → sm_M → Option (sm_M)) (v1 : Int32) (a2 : Nat) (v3 : Int32) (σ : sm_M) : Option (sm_M) :=
  k12 v1 a2 (v3 + 1) σ
def f_X5_carryOut_75 (k12 : Int32 → Nat → Int32 → sm_M → Option (sm_M)) (v1 : Int32) (a2 : Nat) (v3 : Int32) (s0 : Int32) (σ : sm_M) : Option (sm_M) :=
  (sI 4 11 σ a2 ((σ.1 4 a2 11) + (1 : Int32))).bind fun σ1 =>
  if s0 = 0 then
    f_X5_carryOut_106 k12 v1 a2 v3 σ1
  else
    (aI 9 σ1 0 v3).bind fun x2 =>
    (f_X5_work v1 x2 σ1).bind fun q3 =>
    f_X5_carryOut_106 k12 v1 a2 v3 q3
def f_X5_carryOut_59 (k12 : Int32 → Nat → Int32 → sm_M → Option (sm_M)) (v1 : Int32) (a2 : Nat) (v3 : Int32) (σ : sm_M) : Option (sm_M) :=
  (f_X4_isAside a2 (σ.1 4 a2 11) σ).bind fun q1 =>
  if q1.1 = 0 then
    f_X5_carryOut_75 k12 v1 a2 v3 (1 : Int32) q1.2
  else
    f_X5_carryOut_75 k12 v1 a2 v3 (0 : Int32) q1.2
def f_X5_carryOut_12 : Nat → Int32 → Nat → Int32 → sm_M → Option (sm_M)
  | 0, _, _, _, _ => none
  | n + 1, v1, a2, v3, σ =>
    if (σ.1 2 0 2) ≤ v3 then
      some σ
    else
      (aI 10 σ 0 v3).bind fun x1 =>
      (f_X2_hasChannel x1 σ).bind fun q2 =>
      if q2.1 = 0 then
        f_X5_carryOut_59 (f_X5_carryOut_12 n) v1 a2 v3 q2.2
      else
        (aP 8 x1).bind fun x3 =>
        (f_X1_takeOne x3 q2.2).bind fun q4 =>
        f_X5_carryOut_59 (f_X5_carryOut_12 n) v1 a2 v3 q4
def f_X5_carryOut (v1 : Int32) (σ : sm_M) : Option (sm_M) :=
  (aP 7 v1).bind fun x1 =>
  f_X5_carryOut_12 1000 v1 x1 (0 : Int32) σ
def f_X5_step_39 (σ : sm_M) : Option (Int32 × sm_M) :=
  some ((-3 : Int32), σ)
def f_X5_step (v1 : Int32) (σ : sm_M) : Option (Int32 × sm_M) :=
  (f_X2_hasTask v1 σ).bind fun q1 =>
  if q1.1 = 0 then
    some ((-1 : Int32), q1.2)
  else
    if (q1.2.1 0 0 12) = 0 then
      (aP 7 v1).bind fun x2 =>
      (f_X4_waitsStill x2 (q1.2.1 0 0 6) q1.2).bind fun q3 =>
      if q3.1 ≤ 0 then
        (sZ 0 11 q3.2 0 (1 : Int32)).bind fun σ4 =>
        (f_X3_fill v1 σ4).bind fun q5 =>
        if (q5.1 2 0 3) = 0 then
          (sI 0 9 q5 0 ((q5.1 0 0 9) + (1 : Int32))).bind fun σ6 =>
          (f_X5_carryOut v1 σ6).bind fun q7 =>
          some ((q7.1 2 0 2), q7)
        else
          (aP 7 v1).bind fun x8 =>
          (f_X4_narrowAfterThrow x8 (q5.1 0 0 5) q5).bind fun q9 =>
          (f_X5_failAlone v1 (0 : Int32) q9).bind fun q10 =>
          some ((-5 : Int32), q10.2)
      else
        f_X5_step_39 q3.2
    else
      f_X5_step_39 q1.2
def f_X5_fail (v1 : Int32) (σ : sm_M) : Option (Int32 × sm_M) :=
  (f_X2_hasTask v1 σ).bind fun q1 =>
  if q1.1 = 0 then
    some ((-1 : Int32), q1.2)
  else
    if (q1.2.1 0 0 12) = 0 then
      (f_X5_failAlone v1 (1 : Int32) q1.2).bind fun q2 =>
      some (q2.1, q2.2)
    else
      some ((-3 : Int32), q1.2)
def f_X5_nodesThere_27 (v1 : Int32) (σ : sm_M) : Option (Int32 × sm_M) :=
  some (v1, σ)
def f_X5_nodesThere_21 (k4 : Int32 → Int32 → sm_M → Option (Int32 × sm_M)) (v1 : Int32) (v2 : Int32) (σ : sm_M) : Option (Int32 × sm_M) :=
  k4 v1 (v2 + 1) σ
def f_X5_nodesThere_4 : Nat → Int32 → Int32 → sm_M → Option (Int32 × sm_M)
  | 0, _, _, _ => none
  | n + 1, v1, v2, σ =>
    if (4 : Int32) ≤ v2 then
      f_X5_nodesThere_27 v1 σ
    else
      (aI 6 σ 0 v2).bind fun x1 =>
      if x1 = 0 then
        f_X5_nodesThere_21 (f_X5_nodesThere_4 n) v1 v2 σ
      else
        f_X5_nodesThere_21 (f_X5_nodesThere_4 n) (v1 + 1) v2 σ
def f_X5_nodesThere (σ : sm_M) : Option (Int32 × sm_M) :=
  f_X5_nodesThere_4 1000 (0 : Int32) (0 : Int32) σ
def f_X5_emptiestNode_56 (v2 : Int32) (σ : sm_M) : Option (Int32 × sm_M) :=
  some (v2, σ)
def f_X5_emptiestNode_50 (k8 : Int32 → Int32 → Int32 → sm_M → Option (Int32 × sm_M)) (v2 : Int32) (v3 : Int32) (v4 : Int32) (σ : sm_M) : Option (Int32 × sm_M) :=
  k8 v2 v3 (v4 + 1) σ
def f_X5_emptiestNode_8 : Nat → Int32 → Int32 → Int32 → sm_M → Option (Int32 × sm_M)
  | 0, _, _, _, _ => none
  | n + 1, v2, v3, v4, σ =>
    if (4 : Int32) ≤ v4 then
      f_X5_emptiestNode_56 v2 σ
    else
      (f_X2_tasksOn v4 σ).bind fun q1 =>
      (f_J6_bitCount_0f7a4 q1.1 q1.2).bind fun q2 =>
      (aI 6 q2.2 0 v4).bind fun x3 =>
      if x3 = 0 then
        f_X5_emptiestNode_50 (f_X5_emptiestNode_8 n) v2 v3 v4 q2.2
      else
        if v3 ≤ q2.1 then
          f_X5_emptiestNode_50 (f_X5_emptiestNode_8 n) v2 v3 v4 q2.2
        else
          f_X5_emptiestNode_50 (f_X5_emptiestNode_8 n) v4 q2.1 v4 q2.2
def f_X5_emptiestNode (v1 : Int32) (σ : sm_M) : Option (Int32 × sm_M) :=
  f_X5_emptiestNode_8 1000 v1 (17 : Int32) (0 : Int32) σ
def f_X5_moveAway_49 (k2 : Int32 → Int32 → sm_M → Option (sm_M)) (v1 : Int32) (v2 : Int32) (σ : sm_M) : Option (sm_M) :=
  k2 v1 (v2 + 1) σ
def f_X5_moveAway_2 : Nat → Int32 → Int32 → sm_M → Option (sm_M)
  | 0, _, _, _ => none
  | n + 1, v1, v2, σ =>
    if (σ.1 1 0 2) ≤ v2 then
      some σ
    else
      (f_X5_isIn v1 v2 σ).bind fun q1 =>
      if q1.1 = 0 then
        f_X5_moveAway_49 (f_X5_moveAway_2 n) v1 v2 q1.2
      else
        (aP 7 v2).bind fun x2 =>
        (aP 7 v2).bind fun x3 =>
        (f_X5_emptiestNode (q1.2.1 4 x3 4) q1.2).bind fun q4 =>
        (sI 4 4 q4.2 x2 q4.1).bind fun σ5 =>
        f_X5_moveAway_49 (f_X5_moveAway_2 n) v1 v2 σ5
def f_X5_moveAway (v1 : Int32) (σ : sm_M) : Option (sm_M) :=
  f_X5_moveAway_2 1000 v1 (0 : Int32) σ
def f_X5_gone_33 (σ : sm_M) : Option (Int32 × sm_M) :=
  some ((-3 : Int32), σ)
def f_X5_gone (v1 : Int32) (σ : sm_M) : Option (Int32 × sm_M) :=
  (f_X5_isNode v1 σ).bind fun q1 =>
  if q1.1 = 0 then
    some ((-1 : Int32), q1.2)
  else
    (aI 6 q1.2 0 v1).bind fun x2 =>
    if x2 = 0 then
      f_X5_gone_33 q1.2
    else
      (f_X5_nodesThere q1.2).bind fun q3 =>
      if q3.1 ≤ (1 : Int32) then
        f_X5_gone_33 q3.2
      else
        if (q3.2.1 0 0 12) = 0 then
          (uZ 6 q3.2 0 v1 (0 : Int32)).bind fun σ4 =>
          (f_X2_tasksOn v1 σ4).bind fun q5 =>
          (f_X5_blameAll q5.1 (2 : Int32) q5.2).bind fun q6 =>
          if (q6.2.1 0 0 12) = 0 then
            (f_X5_moveAway q5.1 q6.2).bind fun q7 =>
            (f_X2_loseAllFrom q5.1 q7).bind fun q8 =>
            (f_X5_beginAgain q5.1 q6.1 q8).bind fun q9 =>
            some (q9.1, q9.2)
          else
            some ((0 : Int32), q6.2)
        else
          f_X5_gone_33 q3.2
def f_X5_lose_37 (σ : sm_M) : Option (Int32 × sm_M) :=
  some ((-3 : Int32), σ)
def f_X5_lose (v1 : Int32) (σ : sm_M) : Option (Int32 × sm_M) :=
  (f_X2_hasChannel v1 σ).bind fun q1 =>
  if q1.1 = 0 then
    some ((-1 : Int32), q1.2)
  else
    (aP 8 v1).bind fun x2 =>
    if (q1.2.1 5 x2 3) = 0 then
      f_X5_lose_37 q1.2
    else
      if (q1.2.1 0 0 12) = 0 then
        (f_X1_loseBehindMark x2 q1.2).bind fun q3 =>
        if (q3.1 5 x2 8) = 0 then
          some ((0 : Int32), q3)
        else
          if (q3.1 5 x2 6) < (q3.1 5 x2 4) then
            (f_X5_failAlone (q3.1 5 x2 1) (3 : Int32) q3).bind fun q4 =>
            some (q4.1, q4.2)
          else
            some ((0 : Int32), q3)
      else
        f_X5_lose_37 q1.2
def f_X5_tick_11 (σ : sm_M) : Option (Int32 × sm_M) :=
  some ((-2 : Int32), σ)
def f_X5_tick (v1 : Int32) (σ : sm_M) : Option (Int32 × sm_M) :=
  if v1 < (1 : Int32) then
    f_X5_tick_11 σ
  else
    if v1 ≤ (100 : Int32) then
      (sI 0 6 σ 0 (if ((σ.1 0 0 6) + v1) < (1000000 : Int32) then ((σ.1 0 0 6) + v1) else (1000000 : Int32))).bind fun σ1 =>
      some ((σ1.1 0 0 6), σ1)
    else
      f_X5_tick_11 σ
def f_X5_mark_21 (σ : sm_M) : Option (Int32 × sm_M) :=
  some ((-3 : Int32), σ)
def f_X5_mark (σ : sm_M) : Option (Int32 × sm_M) :=
  if (σ.1 0 0 12) = 0 then
    (f_X2_countWaiting (σ.1 0 0 6) σ).bind fun q1 =>
    if q1.1 ≤ 0 then
      (f_X2_keepAsMark q1.2).bind fun q2 =>
      (sI 0 8 q2 0 ((q2.1 0 0 8) + (1 : Int32))).bind fun σ3 =>
      some ((σ3.1 0 0 8), σ3)
    else
      f_X5_mark_21 q1.2
  else
    f_X5_mark_21 σ
def f_X5_region (v1 : Int32) (σ : sm_M) : Option (Int32 × sm_M) :=
  (f_X2_hasTask v1 σ).bind fun q1 =>
  if q1.1 = 0 then
    some ((-1 : Int32), q1.2)
  else
    (f_X2_regionOf ((1 : Int32) <<< (v1 &&& 31)) q1.2).bind fun q2 =>
    some (q2.1, q2.2)
def f_X5_asNumber_9 (s0 : Int32) (σ : sm_M) : Option (Int32 × sm_M) :=
  some (s0, σ)
def f_X5_asNumber (v0 : Int32) (σ : sm_M) : Option (Int32 × sm_M) :=
  if v0 = 0 then
    f_X5_asNumber_9 (0 : Int32) σ
  else
    f_X5_asNumber_9 (1 : Int32) σ
def f_X5_taskAt (v1 : Int32) (v2 : Int32) (σ : sm_M) : Option (Int32 × sm_M) :=
  (f_X2_hasTask v1 σ).bind fun q1 =>
  if q1.1 = 0 then
    some ((-1 : Int32), q1.2)
  else
    (aP 7 v1).bind fun x2 =>
    if v2 = 0 then
      some ((q1.2.1 4 x2 2), q1.2)
    else
      if v2 = 1 then
        some ((q1.2.1 4 x2 4), q1.2)
      else
        if v2 = 2 then
          some ((q1.2.1 4 x2 11), q1.2)
        else
          if v2 = 3 then
            some ((q1.2.1 4 x2 12), q1.2)
          else
            if v2 = 4 then
              some ((q1.2.1 4 x2 7), q1.2)
            else
              if v2 = 5 then
                some ((q1.2.1 4 x2 8), q1.2)
              else
                if v2 = 6 then
                  (f_X4_waitsStill x2 (q1.2.1 0 0 6) q1.2).bind fun q3 =>
                  some (q3.1, q3.2)
                else
                  if v2 = 7 then
                    (f_X2_doneTasks q1.2).bind fun q4 =>
                    (f_X5_isIn q4.1 v1 q4.2).bind fun q5 =>
                    (f_X5_asNumber q5.1 q5.2).bind fun q6 =>
                    some (q6.1, q6.2)
                  else
                    if v2 = 8 then
                      some ((q1.2.1 4 x2 13), q1.2)
                    else
                      if v2 = 9 then
                        some ((q1.2.1 4 x2 10), q1.2)
                      else
                        some ((-2 : Int32), q1.2)
def f_X5_channelAt (v1 : Int32) (v2 : Int32) (σ : sm_M) : Option (Int32 × sm_M) :=
  (f_X2_hasChannel v1 σ).bind fun q1 =>
  if q1.1 = 0 then
    some ((-1 : Int32), q1.2)
  else
    (aP 8 v1).bind fun x2 =>
    if v2 = 0 then
      some ((q1.2.1 5 x2 1), q1.2)
    else
      if v2 = 1 then
        some ((q1.2.1 5 x2 2), q1.2)
      else
        if v2 = 2 then
          (f_X5_asNumber (q1.2.1 5 x2 3) q1.2).bind fun q3 =>
          some (q3.1, q3.2)
        else
          if v2 = 3 then
            some ((q1.2.1 5 x2 4), q1.2)
          else
            if v2 = 4 then
              some ((q1.2.1 5 x2 5), q1.2)
            else
              if v2 = 5 then
                some ((q1.2.1 5 x2 6), q1.2)
              else
                if v2 = 6 then
                  some ((q1.2.1 5 x2 8), q1.2)
                else
                  if v2 = 7 then
                    (f_X2_doneTasks q1.2).bind fun q4 =>
                    (f_X1_isOverAt x2 (q1.2.1 5 x2 6) q4.1 q4.2).bind fun q5 =>
                    (f_X5_asNumber q5.1 q5.2).bind fun q6 =>
                    some (q6.1, q6.2)
                  else
                    if v2 = 8 then
                      some ((q1.2.1 5 x2 7), q1.2)
                    else
                      some ((-2 : Int32), q1.2)
def f_X5_row_46 (s0 : Int32) (σ : sm_M) : Option (Int32 × sm_M) :=
  some (s0, σ)
def f_X5_row_44 (σ : sm_M) : Option (Int32 × sm_M) :=
  f_X5_row_46 (-9 : Int32) σ
def f_X5_row (v1 : Int32) (v2 : Int32) (σ : sm_M) : Option (Int32 × sm_M) :=
  (f_X2_hasChannel v1 σ).bind fun q1 =>
  if q1.1 = 0 then
    some ((-1 : Int32), q1.2)
  else
    (aP 8 v1).bind fun x2 =>
    if v2 < 0 then
      f_X5_row_44 q1.2
    else
      if (q1.2.1 5 x2 4) ≤ v2 then
        f_X5_row_44 q1.2
      else
        (aI 16 q1.2 x2 v2).bind fun x3 =>
        f_X5_row_46 x3 q1.2
def f_X5_out_46 (s0 : Int32) (σ : sm_M) : Option (Int32 × sm_M) :=
  some (s0, σ)
def f_X5_out_44 (σ : sm_M) : Option (Int32 × sm_M) :=
  f_X5_out_46 (-9 : Int32) σ
def f_X5_out (v1 : Int32) (v2 : Int32) (σ : sm_M) : Option (Int32 × sm_M) :=
  (f_X2_hasTask v1 σ).bind fun q1 =>
  if q1.1 = 0 then
    some ((-1 : Int32), q1.2)
  else
    (aP 7 v1).bind fun x2 =>
    if v2 < 0 then
      f_X5_out_44 q1.2
    else
      if (q1.2.1 4 x2 13) ≤ v2 then
        f_X5_out_44 q1.2
      else
        (aI 14 q1.2 x2 v2).bind fun x3 =>
        f_X5_out_46 x3 q1.2
def f_X5_aside_46 (s0 : Int32) (σ : sm_M) : Option (Int32 × sm_M) :=
  some (s0, σ)
def f_X5_aside_44 (σ : sm_M) : Option (Int32 × sm_M) :=
  f_X5_aside_46 (-9 : Int32) σ
def f_X5_aside (v1 : Int32) (v2 : Int32) (σ : sm_M) : Option (Int32 × sm_M) :=
  (f_X2_hasTask v1 σ).bind fun q1 =>
  if q1.1 = 0 then
    some ((-1 : Int32), q1.2)
  else
    (aP 7 v1).bind fun x2 =>
    if v2 < 0 then
      f_X5_aside_44 q1.2
    else
      if (q1.2.1 4 x2 10) ≤ v2 then
        f_X5_aside_44 q1.2
      else
        (aI 15 q1.2 x2 v2).bind fun x3 =>
        f_X5_aside_46 x3 q1.2
def f_X5_cause_27 (σ : sm_M) : Option (Int32 × sm_M) :=
  some ((-9 : Int32), σ)
def f_X5_cause_9 (σ : sm_M) : Option (Int32 × sm_M) :=
  some ((-2 : Int32), σ)
def f_X5_cause (v1 : Int32) (v2 : Int32) (σ : sm_M) : Option (Int32 × sm_M) :=
  if v2 < 0 then
    f_X5_cause_9 σ
  else
    if v2 ≤ (2 : Int32) then
      if v1 < 0 then
        f_X5_cause_27 σ
      else
        if v1 < (σ.1 3 0 3) then
          if v2 = 0 then
            (aI 11 σ 0 v1).bind fun x1 =>
            some (x1, σ)
          else
            if v2 = 1 then
              (aI 12 σ 0 v1).bind fun x2 =>
              some (x2, σ)
            else
              (aI 13 σ 0 v1).bind fun x3 =>
              some (x3, σ)
        else
          f_X5_cause_27 σ
    else
      f_X5_cause_9 σ
def f_X5_told (v1 : Int32) (σ : sm_M) : Option (Int32 × sm_M) :=
  if v1 = 0 then
    some ((σ.1 1 0 2), σ)
  else
    if v1 = 1 then
      some ((σ.1 1 0 3), σ)
    else
      if v1 = 2 then
        some ((σ.1 0 0 9), σ)
      else
        if v1 = 3 then
          some ((σ.1 0 0 6), σ)
        else
          if v1 = 4 then
            some ((σ.1 0 0 8), σ)
          else
            if v1 = 5 then
              some ((σ.1 3 0 3), σ)
            else
              if v1 = 6 then
                (f_X5_asNumber (σ.1 0 0 12) σ).bind fun q1 =>
                some (q1.1, q1.2)
              else
                if v1 = 7 then
                  (f_X2_countWaiting (σ.1 0 0 6) σ).bind fun q2 =>
                  some (q2.1, q2.2)
                else
                  if v1 = 8 then
                    (f_X2_doneTasks σ).bind fun q3 =>
                    (f_J6_bitCount_0f7a4 q3.1 q3.2).bind fun q4 =>
                    some (q4.1, q4.2)
                  else
                    if v1 = 9 then
                      (f_X5_nodesThere σ).bind fun q5 =>
                      some (q5.1, q5.2)
                    else
                      if v1 = 10 then
                        some ((σ.1 0 0 10), σ)
                      else
                        some ((-2 : Int32), σ)
def f_X5_startAnew_44 (σ : sm_M) : Option (sm_M) :=
  (sI 0 4 σ 0 (3 : Int32)).bind fun σ1 =>
  (sZ 0 5 σ1 0 (0 : Int32)).bind fun σ2 =>
  (sI 0 6 σ2 0 (0 : Int32)).bind fun σ3 =>
  (sJ 0 7 σ3 0 (1 : Int64)).bind fun σ4 =>
  (sI 0 8 σ4 0 (0 : Int32)).bind fun σ5 =>
  (sI 0 9 σ5 0 (0 : Int32)).bind fun σ6 =>
  (sI 0 10 σ6 0 (0 : Int32)).bind fun σ7 =>
  (sZ 0 11 σ7 0 (0 : Int32)).bind fun σ8 =>
  (sZ 0 12 σ8 0 (0 : Int32)).bind fun σ9 =>
  some σ9
def f_X5_startAnew_26 : Nat → Int32 → sm_M → Option (sm_M)
  | 0, _, _ => none
  | n + 1, v1, σ =>
    if (4 : Int32) ≤ v1 then
      f_X5_startAnew_44 σ
    else
      (uZ 6 σ 0 v1 (1 : Int32)).bind fun σ1 =>
      (f_X5_startAnew_26 n) (v1 + 1) σ1
def f_X5_startAnew (σ : sm_M) : Option (sm_M) :=
  (sI 1 2 σ 0 (0 : Int32)).bind fun σ1 =>
  (sI 1 3 σ1 0 (0 : Int32)).bind fun σ2 =>
  (sI 3 3 σ2 0 (0 : Int32)).bind fun σ3 =>
  f_X5_startAnew_26 1000 (0 : Int32) σ3
def f_X5_clear (σ : sm_M) : Option (Int32 × sm_M) :=
  (f_X5_startAnew σ).bind fun q1 =>
  some ((σ.1 1 0 2), q1)
