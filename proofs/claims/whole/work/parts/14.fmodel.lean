def f_X6_in_15 (s0 : Int32) (σ : sm_M) : Option (Int32 × sm_M) :=
  if s0 = 0 ∨ s0 = 1 then some (s0, σ) else none
def f_X6_in_14 (σ : sm_M) : Option (Int32 × sm_M) :=
  f_X6_in_15 (0 : Int32) σ
def f_X6_in (v0 : Int32) (v1 : Int32) (v2 : Int32) (σ : sm_M) : Option (Int32 × sm_M) :=
  if v0 < v1 then
    f_X6_in_14 σ
  else
    if v2 < v0 then
      f_X6_in_14 σ
    else
      f_X6_in_15 (1 : Int32) σ
def f_X6_begin_30 (σ : sm_M) : Option (sm_M) :=
  (sI 20 32 σ 0 (3 : Int32)).bind fun σ1 =>
  (sZ 20 33 σ1 0 (0 : Int32)).bind fun σ2 =>
  (sI 20 34 σ2 0 (1 : Int32)).bind fun σ3 =>
  (sI 20 35 σ3 0 (0 : Int32)).bind fun σ4 =>
  (sI 20 36 σ4 0 (0 : Int32)).bind fun σ5 =>
  (sZ 20 37 σ5 0 (0 : Int32)).bind fun σ6 =>
  (sI 20 38 σ6 0 (0 : Int32)).bind fun σ7 =>
  (sI 20 39 σ7 0 (0 : Int32)).bind fun σ8 =>
  (sZ 20 43 σ8 0 (0 : Int32)).bind fun σ9 =>
  (sI 20 44 σ9 0 (0 : Int32)).bind fun σ10 =>
  some σ10
def f_X6_begin_12 : Nat → Int32 → sm_M → Option (sm_M)
  | 0, _, _ => none
  | n + 1, v1, σ =>
    if (4 : Int32) ≤ v1 then
      f_X6_begin_30 σ
    else
      (uZ 50 σ 0 v1 (0 : Int32)).bind fun σ1 =>
      (f_X6_begin_12 n) (v1 + 1) σ1
def f_X6_begin (σ : sm_M) : Option (sm_M) :=
  (sI 20 0 σ 0 (0 : Int32)).bind fun σ1 =>
  (sI 20 14 σ1 0 (0 : Int32)).bind fun σ2 =>
  f_X6_begin_12 1000 (0 : Int32) σ2
def f_X6_noTask_19 (s0 : Int32) (σ : sm_M) : Option (Int32 × sm_M) :=
  if s0 = 0 ∨ s0 = 1 then some (s0, σ) else none
def f_X6_noTask (v1 : Int32) (σ : sm_M) : Option (Int32 × sm_M) :=
  (f_X6_in v1 (0 : Int32) ((σ.1 20 0 0) - (1 : Int32)) σ).bind fun q1 =>
  if q1.1 = 0 then
    f_X6_noTask_19 (1 : Int32) q1.2
  else
    f_X6_noTask_19 (0 : Int32) q1.2
def f_X6_noChannel_19 (s0 : Int32) (σ : sm_M) : Option (Int32 × sm_M) :=
  if s0 = 0 ∨ s0 = 1 then some (s0, σ) else none
def f_X6_noChannel (v1 : Int32) (σ : sm_M) : Option (Int32 × sm_M) :=
  (f_X6_in v1 (0 : Int32) ((σ.1 20 0 14) - (1 : Int32)) σ).bind fun q1 =>
  if q1.1 = 0 then
    f_X6_noChannel_19 (1 : Int32) q1.2
  else
    f_X6_noChannel_19 (0 : Int32) q1.2
def f_X6_noNode_14 (s0 : Int32) (σ : sm_M) : Option (Int32 × sm_M) :=
  if s0 = 0 ∨ s0 = 1 then some (s0, σ) else none
def f_X6_noNode (v1 : Int32) (σ : sm_M) : Option (Int32 × sm_M) :=
  (f_X6_in v1 (0 : Int32) (3 : Int32) σ).bind fun q1 =>
  if q1.1 = 0 then
    f_X6_noNode_14 (1 : Int32) q1.2
  else
    f_X6_noNode_14 (0 : Int32) q1.2
def f_X6_task_81 (v1 : Int32) (v2 : Int32) (v3 : Int32) (s0 : Int32) (σ : sm_M) : Option (Int32 × sm_M) :=
  if s0 = 0 then
    some ((-2 : Int32), σ)
  else
    if (σ.1 20 0 37) = 0 then
      if (σ.1 20 0 0) = (16 : Int32) then
        some ((-4 : Int32), σ)
      else
        (uI 21 σ 0 (σ.1 20 0 0) v1).bind fun σ1 =>
        (uI 22 σ1 0 (σ.1 20 0 0) v2).bind fun σ2 =>
        (uI 23 σ2 0 (σ.1 20 0 0) v3).bind fun σ3 =>
        (uI 24 σ3 0 (σ.1 20 0 0) (0 : Int32)).bind fun σ4 =>
        (uI 25 σ4 0 (σ.1 20 0 0) (0 : Int32)).bind fun σ5 =>
        (uI 26 σ5 0 (σ.1 20 0 0) (0 : Int32)).bind fun σ6 =>
        (uI 28 σ6 0 (σ.1 20 0 0) (1001 : Int32)).bind fun σ7 =>
        (uI 29 σ7 0 (σ.1 20 0 0) (8 : Int32)).bind fun σ8 =>
        (uI 30 σ8 0 (σ.1 20 0 0) (0 : Int32)).bind fun σ9 =>
        (uI 31 σ9 0 (σ.1 20 0 0) (0 : Int32)).bind fun σ10 =>
        (uI 32 σ10 0 (σ.1 20 0 0) (0 : Int32)).bind fun σ11 =>
        (uI 44 σ11 0 (σ.1 20 0 0) (0 : Int32)).bind fun σ12 =>
        (uI 45 σ12 0 (σ.1 20 0 0) (0 : Int32)).bind fun σ13 =>
        (uI 46 σ13 0 (σ.1 20 0 0) (0 : Int32)).bind fun σ14 =>
        (sI 20 0 σ14 0 ((σ14.1 20 0 0) + (1 : Int32))).bind fun σ15 =>
        some ((σ.1 20 0 0), σ15)
    else
      some ((-3 : Int32), σ)
def f_X6_task_80 (v1 : Int32) (v2 : Int32) (v3 : Int32) (σ : sm_M) : Option (Int32 × sm_M) :=
  f_X6_task_81 v1 v2 v3 (0 : Int32) σ
def f_X6_task_76 (v1 : Int32) (v2 : Int32) (v3 : Int32) (σ : sm_M) : Option (Int32 × sm_M) :=
  f_X6_task_81 v1 v2 v3 (1 : Int32) σ
def f_X6_task_62 (v1 : Int32) (v2 : Int32) (v3 : Int32) (σ : sm_M) : Option (Int32 × sm_M) :=
  if v1 = (2 : Int32) then
    (f_X6_in v2 (1 : Int32) (5 : Int32) σ).bind fun q1 =>
    if q1.1 = 0 then
      f_X6_task_80 v1 v2 v3 q1.2
    else
      f_X6_task_76 v1 v2 v3 q1.2
  else
    f_X6_task_76 v1 v2 v3 σ
def f_X6_task_46 (v1 : Int32) (v2 : Int32) (v3 : Int32) (σ : sm_M) : Option (Int32 × sm_M) :=
  if v1 = (1 : Int32) then
    (f_X6_in v2 (-20 : Int32) (20 : Int32) σ).bind fun q1 =>
    if q1.1 = 0 then
      f_X6_task_80 v1 v2 v3 q1.2
    else
      f_X6_task_62 v1 v2 v3 q1.2
  else
    f_X6_task_62 v1 v2 v3 σ
def f_X6_task (v1 : Int32) (v2 : Int32) (v3 : Int32) (σ : sm_M) : Option (Int32 × sm_M) :=
  (f_X6_noNode v3 σ).bind fun q1 =>
  if q1.1 = 0 then
    (aI 50 q1.2 0 v3).bind fun x2 =>
    if x2 = 0 then
      (f_X6_in v1 (0 : Int32) (5 : Int32) q1.2).bind fun q3 =>
      if q3.1 = 0 then
        f_X6_task_80 v1 v2 v3 q3.2
      else
        if v1 = 0 then
          (f_X6_in v2 (0 : Int32) (20 : Int32) q3.2).bind fun q4 =>
          if q4.1 = 0 then
            f_X6_task_80 v1 v2 v3 q4.2
          else
            f_X6_task_46 v1 v2 v3 q4.2
        else
          f_X6_task_46 v1 v2 v3 q3.2
    else
      some ((-1 : Int32), q1.2)
  else
    some ((-1 : Int32), q1.2)
def f_X6_channel_42 (σ : sm_M) : Option (Int32 × sm_M) :=
  some ((-2 : Int32), σ)
def f_X6_channel (v1 : Int32) (v2 : Int32) (v3 : Int32) (σ : sm_M) : Option (Int32 × sm_M) :=
  (f_X6_noTask v1 σ).bind fun q1 =>
  if q1.1 = 0 then
    (f_X6_noTask v2 q1.2).bind fun q2 =>
    if q2.1 = 0 then
      if v2 ≤ v1 then
        f_X6_channel_42 q2.2
      else
        (aI 21 q2.2 0 v1).bind fun x3 =>
        if x3 = (5 : Int32) then
          f_X6_channel_42 q2.2
        else
          (aI 21 q2.2 0 v2).bind fun x4 =>
          if x4 = 0 then
            f_X6_channel_42 q2.2
          else
            if (q2.2.1 20 0 37) = 0 then
              if (q2.2.1 20 0 14) = (40 : Int32) then
                some ((-4 : Int32), q2.2)
              else
                (uI 34 q2.2 0 (q2.2.1 20 0 14) v1).bind fun σ5 =>
                (uI 35 σ5 0 (q2.2.1 20 0 14) v2).bind fun σ6 =>
                (uZ 36 σ6 0 (q2.2.1 20 0 14) v3).bind fun σ7 =>
                (uI 38 σ7 0 (q2.2.1 20 0 14) (0 : Int32)).bind fun σ8 =>
                (uI 39 σ8 0 (q2.2.1 20 0 14) (0 : Int32)).bind fun σ9 =>
                (uI 40 σ9 0 (q2.2.1 20 0 14) (0 : Int32)).bind fun σ10 =>
                (uI 41 σ10 0 (q2.2.1 20 0 14) (0 : Int32)).bind fun σ11 =>
                (uZ 42 σ11 0 (q2.2.1 20 0 14) (0 : Int32)).bind fun σ12 =>
                (uI 47 σ12 0 (q2.2.1 20 0 14) (0 : Int32)).bind fun σ13 =>
                (uI 48 σ13 0 (q2.2.1 20 0 14) (0 : Int32)).bind fun σ14 =>
                (uI 49 σ14 0 (q2.2.1 20 0 14) (0 : Int32)).bind fun σ15 =>
                (sI 20 14 σ15 0 ((σ15.1 20 0 14) + (1 : Int32))).bind fun σ16 =>
                some ((q2.2.1 20 0 14), σ16)
            else
              some ((-3 : Int32), q2.2)
    else
      some ((-1 : Int32), q2.2)
  else
    some ((-1 : Int32), q1.2)
def f_X6_poison (v1 : Int32) (v2 : Int32) (σ : sm_M) : Option (Int32 × sm_M) :=
  (f_X6_noTask v1 σ).bind fun q1 =>
  if q1.1 = 0 then
    (f_X6_in v2 (-1000 : Int32) (1000 : Int32) q1.2).bind fun q2 =>
    if q2.1 = 0 then
      some ((-2 : Int32), q2.2)
    else
      if (q2.2.1 20 0 37) = 0 then
        (aI 28 q2.2 0 v1).bind fun x3 =>
        (uI 28 q2.2 0 v1 v2).bind fun σ4 =>
        some (x3, σ4)
      else
        some ((-3 : Int32), q2.2)
  else
    some ((-1 : Int32), q1.2)
def f_X6_rule (v1 : Int32) (v2 : Int32) (σ : sm_M) : Option (Int32 × sm_M) :=
  (f_X6_in v1 (1 : Int32) (9 : Int32) σ).bind fun q1 =>
  if q1.1 = 0 then
    some ((-2 : Int32), q1.2)
  else
    (sI 20 32 q1.2 0 v1).bind fun σ2 =>
    (sZ 20 33 σ2 0 v2).bind fun σ3 =>
    some ((q1.2.1 20 0 32), σ3)
def f_X6_findDone_105 (k2 : Int32 → sm_M → Option (sm_M)) (v1 : Int32) (v2 : Int32) (σ : sm_M) : Option (sm_M) :=
  (uZ 54 σ 0 v1 v2).bind fun σ1 =>
  k2 (v1 + 1) σ1
def f_X6_findDone_98 (k2 : Int32 → sm_M → Option (sm_M)) (k42 : Int32 → Int32 → Int32 → sm_M → Option (sm_M)) (v1 : Int32) (v3 : Int32) (s0 : Int32) (σ : sm_M) : Option (sm_M) :=
  k42 v1 s0 (v3 + 1) σ
def f_X6_findDone_97 (k2 : Int32 → sm_M → Option (sm_M)) (k42 : Int32 → Int32 → Int32 → sm_M → Option (sm_M)) (v1 : Int32) (v3 : Int32) (σ : sm_M) : Option (sm_M) :=
  f_X6_findDone_98 k2 k42 v1 v3 (0 : Int32) σ
def f_X6_findDone_93 (k2 : Int32 → sm_M → Option (sm_M)) (k42 : Int32 → Int32 → Int32 → sm_M → Option (sm_M)) (v1 : Int32) (v3 : Int32) (σ : sm_M) : Option (sm_M) :=
  f_X6_findDone_98 k2 k42 v1 v3 (1 : Int32) σ
def f_X6_findDone_42 (k2 : Int32 → sm_M → Option (sm_M)) : Nat → Int32 → Int32 → Int32 → sm_M → Option (sm_M)
  | 0, _, _, _, _ => none
  | n + 1, v1, v2, v3, σ =>
    if (σ.1 20 0 14) ≤ v3 then
      f_X6_findDone_105 k2 v1 v2 σ
    else
      if v2 = 0 then
        f_X6_findDone_97 k2 (f_X6_findDone_42 k2 n) v1 v3 σ
      else
        (aI 35 σ 0 v3).bind fun x1 =>
        if x1 = v1 then
          (aI 34 σ 0 v3).bind fun x2 =>
          (aI 54 σ 0 x2).bind fun x3 =>
          if x3 = 0 then
            f_X6_findDone_97 k2 (f_X6_findDone_42 k2 n) v1 v3 σ
          else
            (aI 40 σ 0 v3).bind fun x4 =>
            (aI 39 σ 0 v3).bind fun x5 =>
            if x4 < x5 then
              f_X6_findDone_97 k2 (f_X6_findDone_42 k2 n) v1 v3 σ
            else
              f_X6_findDone_93 k2 (f_X6_findDone_42 k2 n) v1 v3 σ
        else
          f_X6_findDone_93 k2 (f_X6_findDone_42 k2 n) v1 v3 σ
def f_X6_findDone_39 (k2 : Int32 → sm_M → Option (sm_M)) (v1 : Int32) (s0 : Int32) (σ : sm_M) : Option (sm_M) :=
  f_X6_findDone_42 k2 1000 v1 s0 (0 : Int32) σ
def f_X6_findDone_34 (k2 : Int32 → sm_M → Option (sm_M)) (v1 : Int32) (σ : sm_M) : Option (sm_M) :=
  f_X6_findDone_39 k2 v1 (1 : Int32) σ
def f_X6_findDone_2 : Nat → Int32 → sm_M → Option (sm_M)
  | 0, _, _ => none
  | n + 1, v1, σ =>
    if (σ.1 20 0 0) ≤ v1 then
      some σ
    else
      (aI 21 σ 0 v1).bind fun x1 =>
      if x1 = 0 then
        (aI 24 σ 0 v1).bind fun x2 =>
        (aI 22 σ 0 v1).bind fun x3 =>
        if x2 = x3 then
          f_X6_findDone_34 (f_X6_findDone_2 n) v1 σ
        else
          f_X6_findDone_39 (f_X6_findDone_2 n) v1 (0 : Int32) σ
      else
        f_X6_findDone_34 (f_X6_findDone_2 n) v1 σ
def f_X6_findDone (σ : sm_M) : Option (sm_M) :=
  f_X6_findDone_2 1000 (0 : Int32) σ
def f_X6_isOver_34 (s0 : Int32) (σ : sm_M) : Option (Int32 × sm_M) :=
  if s0 = 0 ∨ s0 = 1 then some (s0, σ) else none
def f_X6_isOver_33 (σ : sm_M) : Option (Int32 × sm_M) :=
  f_X6_isOver_34 (0 : Int32) σ
def f_X6_isOver (v1 : Int32) (σ : sm_M) : Option (Int32 × sm_M) :=
  (aI 34 σ 0 v1).bind fun x1 =>
  (aI 54 σ 0 x1).bind fun x2 =>
  if x2 = 0 then
    f_X6_isOver_33 σ
  else
    (aI 40 σ 0 v1).bind fun x3 =>
    (aI 39 σ 0 v1).bind fun x4 =>
    if x3 < x4 then
      f_X6_isOver_33 σ
    else
      f_X6_isOver_34 (1 : Int32) σ
def f_X6_ready_39 (s0 : Int32) (σ : sm_M) : Option (Int32 × sm_M) :=
  some (s0, σ)
def f_X6_ready_33 (v1 : Int32) (σ : sm_M) : Option (Int32 × sm_M) :=
  (aI 38 σ 0 v1).bind fun x1 =>
  f_X6_ready_39 x1 σ
def f_X6_ready (v1 : Int32) (σ : sm_M) : Option (Int32 × sm_M) :=
  (aI 42 σ 0 v1).bind fun x1 =>
  if x1 = 0 then
    f_X6_ready_33 v1 σ
  else
    (aI 40 σ 0 v1).bind fun x2 =>
    (aI 43 σ 0 v1).bind fun x3 =>
    if x3 ≤ x2 then
      f_X6_ready_33 v1 σ
    else
      (aI 47 σ 0 v1).bind fun x4 =>
      f_X6_ready_39 x4 σ
def f_X6_isAside_48 (v3 : Int32) (σ : sm_M) : Option (Int32 × sm_M) :=
  if v3 = 0 ∨ v3 = 1 then some (v3, σ) else none
def f_X6_isAside_41 (k5 : Int32 → Int32 → Int32 → Int32 → sm_M → Option (Int32 × sm_M)) (v1 : Int32) (v2 : Int32) (v4 : Int32) (s0 : Int32) (σ : sm_M) : Option (Int32 × sm_M) :=
  k5 v1 v2 s0 (v4 + 1) σ
def f_X6_isAside_36 (k5 : Int32 → Int32 → Int32 → Int32 → sm_M → Option (Int32 × sm_M)) (v1 : Int32) (v2 : Int32) (v4 : Int32) (σ : sm_M) : Option (Int32 × sm_M) :=
  f_X6_isAside_41 k5 v1 v2 v4 (1 : Int32) σ
def f_X6_isAside_5 : Nat → Int32 → Int32 → Int32 → Int32 → sm_M → Option (Int32 × sm_M)
  | 0, _, _, _, _, _ => none
  | n + 1, v1, v2, v3, v4, σ =>
    (aI 32 σ 0 v1).bind fun x1 =>
    if x1 ≤ v4 then
      f_X6_isAside_48 v3 σ
    else
      if v3 = 0 then
        (aI 33 σ 0 (((8 : Int32) * v1) + v4)).bind fun x2 =>
        if x2 = v2 then
          f_X6_isAside_36 (f_X6_isAside_5 n) v1 v2 v4 σ
        else
          f_X6_isAside_41 (f_X6_isAside_5 n) v1 v2 v4 (0 : Int32) σ
      else
        f_X6_isAside_36 (f_X6_isAside_5 n) v1 v2 v4 σ
def f_X6_isAside (v1 : Int32) (v2 : Int32) (σ : sm_M) : Option (Int32 × sm_M) :=
  f_X6_isAside_5 1000 v1 v2 (0 : Int32) (0 : Int32) σ
def f_X6_canGive_75 (v2 : Int32) (σ : sm_M) : Option (Int32 × sm_M) :=
  if v2 = 0 ∨ v2 = 1 then some (v2, σ) else none
def f_X6_canGive_68 (k30 : Int32 → Int32 → Int32 → sm_M → Option (Int32 × sm_M)) (v1 : Int32) (v3 : Int32) (s0 : Int32) (σ : sm_M) : Option (Int32 × sm_M) :=
  k30 v1 s0 (v3 + 1) σ
def f_X6_canGive_67 (k30 : Int32 → Int32 → Int32 → sm_M → Option (Int32 × sm_M)) (v1 : Int32) (v3 : Int32) (σ : sm_M) : Option (Int32 × sm_M) :=
  f_X6_canGive_68 k30 v1 v3 (0 : Int32) σ
def f_X6_canGive_63 (k30 : Int32 → Int32 → Int32 → sm_M → Option (Int32 × sm_M)) (v1 : Int32) (v3 : Int32) (σ : sm_M) : Option (Int32 × sm_M) :=
  f_X6_canGive_68 k30 v1 v3 (1 : Int32) σ
def f_X6_canGive_30 : Nat → Int32 → Int32 → Int32 → sm_M → Option (Int32 × sm_M)
  | 0, _, _, _, _ => none
  | n + 1, v1, v2, v3, σ =>
    if (σ.1 20 0 14) ≤ v3 then
      f_X6_canGive_75 v2 σ
    else
      if v2 = 0 then
        f_X6_canGive_67 (f_X6_canGive_30 n) v1 v3 σ
      else
        (aI 34 σ 0 v3).bind fun x1 =>
        if x1 = v1 then
          (aI 39 σ 0 v3).bind fun x2 =>
          if (64 : Int32) ≤ x2 then
            f_X6_canGive_67 (f_X6_canGive_30 n) v1 v3 σ
          else
            f_X6_canGive_63 (f_X6_canGive_30 n) v1 v3 σ
        else
          f_X6_canGive_63 (f_X6_canGive_30 n) v1 v3 σ
def f_X6_canGive_27 (v1 : Int32) (s0 : Int32) (σ : sm_M) : Option (Int32 × sm_M) :=
  f_X6_canGive_30 1000 v1 s0 (0 : Int32) σ
def f_X6_canGive_22 (v1 : Int32) (σ : sm_M) : Option (Int32 × sm_M) :=
  f_X6_canGive_27 v1 (1 : Int32) σ
def f_X6_canGive (v1 : Int32) (σ : sm_M) : Option (Int32 × sm_M) :=
  (aI 21 σ 0 v1).bind fun x1 =>
  if x1 = (5 : Int32) then
    (aI 26 σ 0 v1).bind fun x2 =>
    if (200 : Int32) ≤ x2 then
      f_X6_canGive_27 v1 (0 : Int32) σ
    else
      f_X6_canGive_22 v1 σ
  else
    f_X6_canGive_22 v1 σ
def f_X6_nextOf_101 (s0 : Int32) (σ : sm_M) : Option (Int32 × sm_M) :=
  some (s0, σ)
def f_X6_nextOf_99 (σ : sm_M) : Option (Int32 × sm_M) :=
  f_X6_nextOf_101 (-9 : Int32) σ
def f_X6_nextOf_75 (v2 : Int32) (σ : sm_M) : Option (Int32 × sm_M) :=
  if v2 = (-9 : Int32) then
    f_X6_nextOf_99 σ
  else
    (aI 40 σ 0 v2).bind fun x1 =>
    (f_X6_ready v2 σ).bind fun q2 =>
    if q2.1 ≤ x1 then
      f_X6_nextOf_99 q2.2
    else
      f_X6_nextOf_101 v2 q2.2
def f_X6_nextOf_68 (k41 : Int32 → Int32 → Int32 → sm_M → Option (Int32 × sm_M)) (v1 : Int32) (v3 : Int32) (s0 : Int32) (σ : sm_M) : Option (Int32 × sm_M) :=
  k41 v1 s0 (v3 + (-1)) σ
def f_X6_nextOf_67 (k41 : Int32 → Int32 → Int32 → sm_M → Option (Int32 × sm_M)) (v1 : Int32) (v2 : Int32) (v3 : Int32) (σ : sm_M) : Option (Int32 × sm_M) :=
  f_X6_nextOf_68 k41 v1 v3 v2 σ
def f_X6_nextOf_41 : Nat → Int32 → Int32 → Int32 → sm_M → Option (Int32 × sm_M)
  | 0, _, _, _, _ => none
  | n + 1, v1, v2, v3, σ =>
    if v3 < 0 then
      f_X6_nextOf_75 v2 σ
    else
      (aI 35 σ 0 v3).bind fun x1 =>
      if x1 = v1 then
        (f_X6_isOver v3 σ).bind fun q2 =>
        if q2.1 = 0 then
          f_X6_nextOf_68 (f_X6_nextOf_41 n) v1 v3 v3 q2.2
        else
          f_X6_nextOf_67 (f_X6_nextOf_41 n) v1 v2 v3 q2.2
      else
        f_X6_nextOf_67 (f_X6_nextOf_41 n) v1 v2 v3 σ
def f_X6_nextOf_30 (s0 : Int32) (σ : sm_M) : Option (Int32 × sm_M) :=
  some (s0, σ)
def f_X6_nextOf (v1 : Int32) (σ : sm_M) : Option (Int32 × sm_M) :=
  (aI 21 σ 0 v1).bind fun x1 =>
  if x1 = 0 then
    (aI 24 σ 0 v1).bind fun x2 =>
    (aI 22 σ 0 v1).bind fun x3 =>
    if x3 ≤ x2 then
      f_X6_nextOf_30 (-9 : Int32) σ
    else
      f_X6_nextOf_30 (-1 : Int32) σ
  else
    f_X6_nextOf_41 1000 v1 (-9 : Int32) ((σ.1 20 0 14) - (1 : Int32)) σ
def f_X6_valueOf_39 (s0 : Int32) (σ : sm_M) : Option (Int32 × sm_M) :=
  some (s0, σ)
def f_X6_valueOf (v1 : Int32) (v2 : Int32) (σ : sm_M) : Option (Int32 × sm_M) :=
  if v2 = (-1 : Int32) then
    (aI 24 σ 0 v1).bind fun x3 =>
    if (20 : Int32) = 0 then none else
    f_X6_valueOf_39 ((((5 : Int32) * v1) + ((3 : Int32) * x3)) - (((5 : Int32) * v1) + ((3 : Int32) * x3)) / (20 : Int32) * (20 : Int32)) σ
  else
    (aI 40 σ 0 v2).bind fun x1 =>
    (aI 37 σ 0 (((64 : Int32) * v2) + x1)).bind fun x2 =>
    f_X6_valueOf_39 x2 σ
def f_X6_give_72 (k2 : Int32 → Int32 → Int32 → sm_M → Option (sm_M)) (v1 : Int32) (v2 : Int32) (v3 : Int32) (σ : sm_M) : Option (sm_M) :=
  k2 v1 v2 (v3 + 1) σ
def f_X6_give_62 (k2 : Int32 → Int32 → Int32 → sm_M → Option (sm_M)) (v1 : Int32) (v2 : Int32) (v3 : Int32) (σ : sm_M) : Option (sm_M) :=
  (aI 39 σ 0 v3).bind fun x1 =>
  (uI 39 σ 0 v3 (x1 + (1 : Int32))).bind fun σ2 =>
  f_X6_give_72 k2 v1 v2 v3 σ2
def f_X6_give_2 : Nat → Int32 → Int32 → Int32 → sm_M → Option (sm_M)
  | 0, _, _, _, _ => none
  | n + 1, v1, v2, v3, σ =>
    if (σ.1 20 0 14) ≤ v3 then
      some σ
    else
      (aI 34 σ 0 v3).bind fun x1 =>
      if x1 = v1 then
        (aI 39 σ 0 v3).bind fun x2 =>
        (aI 38 σ 0 v3).bind fun x3 =>
        if x2 < x3 then
          f_X6_give_62 (f_X6_give_2 n) v1 v2 v3 σ
        else
          (aI 38 σ 0 v3).bind fun x4 =>
          (uI 37 σ 0 (((64 : Int32) * v3) + x4) v2).bind fun σ5 =>
          (aI 38 σ5 0 v3).bind fun x6 =>
          (uI 38 σ5 0 v3 (x6 + (1 : Int32))).bind fun σ7 =>
          f_X6_give_62 (f_X6_give_2 n) v1 v2 v3 σ7
      else
        f_X6_give_72 (f_X6_give_2 n) v1 v2 v3 σ
def f_X6_give (v1 : Int32) (v2 : Int32) (σ : sm_M) : Option (sm_M) :=
  f_X6_give_2 1000 v1 v2 (0 : Int32) σ
def f_X6_work (v1 : Int32) (v2 : Int32) (σ : sm_M) : Option (sm_M) :=
  (aI 21 σ 0 v1).bind fun x1 =>
  if x1 = 1 then
    (aI 22 σ 0 v1).bind fun x2 =>
    (f_X6_give v1 (v2 + x2) σ).bind fun q3 =>
    some q3
  else
    if x1 = 2 then
      (aI 22 σ 0 v1).bind fun x4 =>
      if x4 = 0 then none else
      if (v2 - v2 / x4 * x4) = 0 then
        (f_X6_give v1 v2 σ).bind fun q5 =>
        some q5
      else
        some σ
    else
      if x1 = 3 then
        (aI 25 σ 0 v1).bind fun x6 =>
        (uI 25 σ 0 v1 (x6 + v2)).bind fun σ7 =>
        (aI 25 σ7 0 v1).bind fun x8 =>
        (f_X6_give v1 x8 σ7).bind fun q9 =>
        some q9
      else
        if x1 = 4 then
          if (2147483647 : Int64) = 0 then none else
          (sI 20 34 σ 0 (((16807 : Int64) * (σ.1 20 0 34).toInt64) - ((16807 : Int64) * (σ.1 20 0 34).toInt64) / (2147483647 : Int64) * (2147483647 : Int64)).toInt32).bind fun σ10 =>
          if (10 : Int32) = 0 then none else
          (f_X6_give v1 (v2 + ((σ10.1 20 0 34) - (σ10.1 20 0 34) / (10 : Int32) * (10 : Int32))) σ10).bind fun q11 =>
          some q11
        else
          if x1 = 5 then
            (aI 26 σ 0 v1).bind fun x12 =>
            (uI 27 σ 0 (((200 : Int32) * v1) + x12) v2).bind fun σ13 =>
            (aI 26 σ13 0 v1).bind fun x14 =>
            (uI 26 σ13 0 v1 (x14 + (1 : Int32))).bind fun σ15 =>
            some σ15
          else
            (f_X6_give v1 v2 σ).bind fun q16 =>
            some q16
def f_X6_holdAll_2 : Nat → Int32 → sm_M → Option (sm_M)
  | 0, _, _ => none
  | n + 1, v1, σ =>
    if (σ.1 20 0 14) ≤ v1 then
      some σ
    else
      (aI 38 σ 0 v1).bind fun x1 =>
      (uI 55 σ 0 v1 x1).bind fun σ2 =>
      (aI 39 σ2 0 v1).bind fun x3 =>
      (uI 56 σ2 0 v1 x3).bind fun σ4 =>
      (aI 40 σ4 0 v1).bind fun x5 =>
      (uI 57 σ4 0 v1 x5).bind fun σ6 =>
      (f_X6_holdAll_2 n) (v1 + 1) σ6
def f_X6_holdAll (σ : sm_M) : Option (sm_M) :=
  f_X6_holdAll_2 1000 (0 : Int32) σ
def f_X6_undoAll_2 : Nat → Int32 → sm_M → Option (sm_M)
  | 0, _, _ => none
  | n + 1, v1, σ =>
    if (σ.1 20 0 14) ≤ v1 then
      some σ
    else
      (aI 55 σ 0 v1).bind fun x1 =>
      (uI 38 σ 0 v1 x1).bind fun σ2 =>
      (aI 56 σ2 0 v1).bind fun x3 =>
      (uI 39 σ2 0 v1 x3).bind fun σ4 =>
      (aI 57 σ4 0 v1).bind fun x5 =>
      (uI 40 σ4 0 v1 x5).bind fun σ6 =>
      (f_X6_undoAll_2 n) (v1 + 1) σ6
def f_X6_undoAll (σ : sm_M) : Option (sm_M) :=
  f_X6_undoAll_2 1000 (0 : Int32) σ
def f_X6_takeRows_254 (s0 : Int32) (σ : sm_M) : Option (Int32 × sm_M) :=
  some (s0, σ)
def f_X6_takeRows_240 (v7 : Int32) (v8 : Int32) (σ : sm_M) : Option (Int32 × sm_M) :=
  if v7 = 0 then
    f_X6_takeRows_254 v8 σ
  else
    f_X6_takeRows_254 ((-1 : Int32) - v8) σ
def f_X6_takeRows_193 (v1 : Int32) (v2 : Int32) (v3 : Int32) (v4 : Int32) (v5 : Int32) (v7 : Int32) (σ : sm_M) : Option (Int32 × sm_M) :=
  (aI 24 σ 0 v1).bind fun x1 =>
  if v7 = 0 then
    f_X6_takeRows_240 v7 (x1 - v2) σ
  else
    (uI 24 σ 0 v1 v2).bind fun σ2 =>
    (uI 25 σ2 0 v1 v3).bind fun σ3 =>
    (uI 26 σ3 0 v1 v4).bind fun σ4 =>
    (sI 20 34 σ4 0 v5).bind fun σ5 =>
    (f_X6_undoAll σ5).bind fun q6 =>
    f_X6_takeRows_240 v7 (x1 - v2) q6
def f_X6_takeRows_190 (k46 : Int32 → Int32 → Int32 → Int32 → Int32 → Int32 → Int32 → sm_M → Option (Int32 × sm_M)) (v1 : Int32) (v2 : Int32) (v3 : Int32) (v4 : Int32) (v5 : Int32) (v6 : Int32) (v7 : Int32) (σ : sm_M) : Option (Int32 × sm_M) :=
  k46 v1 v2 v3 v4 v5 v6 v7 σ
def f_X6_takeRows_179 (k46 : Int32 → Int32 → Int32 → Int32 → Int32 → Int32 → Int32 → sm_M → Option (Int32 × sm_M)) (v1 : Int32) (v2 : Int32) (v3 : Int32) (v4 : Int32) (v5 : Int32) (v7 : Int32) (σ : sm_M) : Option (Int32 × sm_M) :=
  (f_X6_findDone σ).bind fun q1 =>
  (f_X6_nextOf v1 q1).bind fun q2 =>
  f_X6_takeRows_190 k46 v1 v2 v3 v4 v5 q2.1 v7 q2.2
def f_X6_takeRows_153 (k46 : Int32 → Int32 → Int32 → Int32 → Int32 → Int32 → Int32 → sm_M → Option (Int32 × sm_M)) (v1 : Int32) (v2 : Int32) (v3 : Int32) (v4 : Int32) (v5 : Int32) (v6 : Int32) (v7 : Int32) (σ : sm_M) : Option (Int32 × sm_M) :=
  (aI 24 σ 0 v1).bind fun x1 =>
  (uI 24 σ 0 v1 (x1 + (1 : Int32))).bind fun σ2 =>
  if v6 < 0 then
    f_X6_takeRows_179 k46 v1 v2 v3 v4 v5 v7 σ2
  else
    (aI 40 σ2 0 v6).bind fun x3 =>
    (uI 40 σ2 0 v6 (x3 + (1 : Int32))).bind fun σ4 =>
    f_X6_takeRows_179 k46 v1 v2 v3 v4 v5 v7 σ4
def f_X6_takeRows_134 (k46 : Int32 → Int32 → Int32 → Int32 → Int32 → Int32 → Int32 → sm_M → Option (Int32 × sm_M)) (v1 : Int32) (v2 : Int32) (v3 : Int32) (v4 : Int32) (v5 : Int32) (v6 : Int32) (v8 : Int32) (v9 : Int32) (s0 : Int32) (σ : sm_M) : Option (Int32 × sm_M) :=
  if s0 = 0 then
    if v9 = 0 then
      (f_X6_work v1 v8 σ).bind fun q1 =>
      f_X6_takeRows_153 k46 v1 v2 v3 v4 v5 v6 s0 q1
    else
      f_X6_takeRows_153 k46 v1 v2 v3 v4 v5 v6 s0 σ
  else
    f_X6_takeRows_190 k46 v1 v2 v3 v4 v5 v6 s0 σ
def f_X6_takeRows_133 (k46 : Int32 → Int32 → Int32 → Int32 → Int32 → Int32 → Int32 → sm_M → Option (Int32 × sm_M)) (v1 : Int32) (v2 : Int32) (v3 : Int32) (v4 : Int32) (v5 : Int32) (v6 : Int32) (v8 : Int32) (v9 : Int32) (σ : sm_M) : Option (Int32 × sm_M) :=
  f_X6_takeRows_134 k46 v1 v2 v3 v4 v5 v6 v8 v9 (0 : Int32) σ
def f_X6_takeRows_46 : Nat → Int32 → Int32 → Int32 → Int32 → Int32 → Int32 → Int32 → sm_M → Option (Int32 × sm_M)
  | 0, _, _, _, _, _, _, _, _ => none
  | n + 1, v1, v2, v3, v4, v5, v6, v7, σ =>
    if v6 = (-9 : Int32) then
      f_X6_takeRows_193 v1 v2 v3 v4 v5 v7 σ
    else
      (aI 24 σ 0 v1).bind fun x1 =>
      (aI 29 σ 0 v1).bind fun x2 =>
      if x2 ≤ (x1 - v2) then
        f_X6_takeRows_193 v1 v2 v3 v4 v5 v7 σ
      else
        (f_X6_canGive v1 σ).bind fun q3 =>
        if q3.1 = 0 then
          f_X6_takeRows_193 v1 v2 v3 v4 v5 v7 q3.2
        else
          if v7 = 0 then
            (f_X6_valueOf v1 v6 q3.2).bind fun q4 =>
            (aI 24 q4.2 0 v1).bind fun x5 =>
            (f_X6_isAside v1 x5 q4.2).bind fun q6 =>
            (aI 28 q6.2 0 v1).bind fun x7 =>
            if q4.1 = x7 then
              if q4.1 = (1001 : Int32) then
                f_X6_takeRows_133 (f_X6_takeRows_46 n) v1 v2 v3 v4 v5 v6 q4.1 q6.1 q6.2
              else
                if q6.1 = 0 then
                  f_X6_takeRows_134 (f_X6_takeRows_46 n) v1 v2 v3 v4 v5 v6 q4.1 q6.1 (1 : Int32) q6.2
                else
                  f_X6_takeRows_133 (f_X6_takeRows_46 n) v1 v2 v3 v4 v5 v6 q4.1 q6.1 q6.2
            else
              f_X6_takeRows_133 (f_X6_takeRows_46 n) v1 v2 v3 v4 v5 v6 q4.1 q6.1 q6.2
          else
            f_X6_takeRows_193 v1 v2 v3 v4 v5 v7 q3.2
def f_X6_takeRows (v1 : Int32) (σ : sm_M) : Option (Int32 × sm_M) :=
  (aI 24 σ 0 v1).bind fun x1 =>
  (aI 25 σ 0 v1).bind fun x2 =>
  (aI 26 σ 0 v1).bind fun x3 =>
  (f_X6_holdAll σ).bind fun q4 =>
  (f_X6_findDone q4).bind fun q5 =>
  (f_X6_nextOf v1 q5).bind fun q6 =>
  f_X6_takeRows_46 1000 v1 x1 x2 x3 (σ.1 20 0 34) q6.1 (0 : Int32) q6.2
def f_X6_blame (v1 : Int32) (v2 : Int32) (σ : sm_M) : Option (sm_M) :=
  (aI 30 σ 0 v1).bind fun x1 =>
  (uI 30 σ 0 v1 (x1 + (1 : Int32))).bind fun σ2 =>
  if (64 : Int32) ≤ (σ2.1 20 0 39) then
    some σ2
  else
    (uI 51 σ2 0 (σ2.1 20 0 39) v1).bind fun σ3 =>
    (uI 52 σ3 0 (σ3.1 20 0 39) (σ3.1 20 0 35)).bind fun σ4 =>
    (uI 53 σ4 0 (σ4.1 20 0 39) v2).bind fun σ5 =>
    (sI 20 39 σ5 0 ((σ5.1 20 0 39) + (1 : Int32))).bind fun σ6 =>
    some σ6
def f_X6_noRegion_2 : Nat → Int32 → sm_M → Option (sm_M)
  | 0, _, _ => none
  | n + 1, v1, σ =>
    if (16 : Int32) ≤ v1 then
      some σ
    else
      (uZ 58 σ 0 v1 (0 : Int32)).bind fun σ1 =>
      (uZ 59 σ1 0 v1 (0 : Int32)).bind fun σ2 =>
      (f_X6_noRegion_2 n) (v1 + 1) σ2
def f_X6_noRegion (σ : sm_M) : Option (sm_M) :=
  f_X6_noRegion_2 1000 (0 : Int32) σ
def f_X6_isUnsteady_66 (v2 : Int32) (σ : sm_M) : Option (Int32 × sm_M) :=
  if v2 = 0 ∨ v2 = 1 then some (v2, σ) else none
def f_X6_isUnsteady_59 (k18 : Int32 → Int32 → Int32 → sm_M → Option (Int32 × sm_M)) (v1 : Int32) (v3 : Int32) (s0 : Int32) (σ : sm_M) : Option (Int32 × sm_M) :=
  k18 v1 s0 (v3 + 1) σ
def f_X6_isUnsteady_58 (k18 : Int32 → Int32 → Int32 → sm_M → Option (Int32 × sm_M)) (v1 : Int32) (v3 : Int32) (σ : sm_M) : Option (Int32 × sm_M) :=
  f_X6_isUnsteady_59 k18 v1 v3 (0 : Int32) σ
def f_X6_isUnsteady_54 (k18 : Int32 → Int32 → Int32 → sm_M → Option (Int32 × sm_M)) (v1 : Int32) (v3 : Int32) (σ : sm_M) : Option (Int32 × sm_M) :=
  f_X6_isUnsteady_59 k18 v1 v3 (1 : Int32) σ
def f_X6_isUnsteady_18 : Nat → Int32 → Int32 → Int32 → sm_M → Option (Int32 × sm_M)
  | 0, _, _, _, _ => none
  | n + 1, v1, v2, v3, σ =>
    if (σ.1 20 0 14) ≤ v3 then
      f_X6_isUnsteady_66 v2 σ
    else
      if v2 = 0 then
        (aI 35 σ 0 v3).bind fun x1 =>
        if x1 = v1 then
          (aI 34 σ 0 v3).bind fun x2 =>
          (aI 59 σ 0 x2).bind fun x3 =>
          if x3 = 0 then
            f_X6_isUnsteady_58 (f_X6_isUnsteady_18 n) v1 v3 σ
          else
            f_X6_isUnsteady_54 (f_X6_isUnsteady_18 n) v1 v3 σ
        else
          f_X6_isUnsteady_58 (f_X6_isUnsteady_18 n) v1 v3 σ
      else
        f_X6_isUnsteady_54 (f_X6_isUnsteady_18 n) v1 v3 σ
def f_X6_isUnsteady_15 (v1 : Int32) (s0 : Int32) (σ : sm_M) : Option (Int32 × sm_M) :=
  f_X6_isUnsteady_18 1000 v1 s0 (0 : Int32) σ
def f_X6_isUnsteady (v1 : Int32) (σ : sm_M) : Option (Int32 × sm_M) :=
  (aI 21 σ 0 v1).bind fun x1 =>
  if x1 = (4 : Int32) then
    f_X6_isUnsteady_15 v1 (1 : Int32) σ
  else
    f_X6_isUnsteady_15 v1 (0 : Int32) σ
def f_X6_grow_261 (k2 : Int32 → sm_M → Option (sm_M)) (v1 : Int32) (σ : sm_M) : Option (sm_M) :=
  k2 v1 σ
def f_X6_grow_255 (k2 : Int32 → sm_M → Option (sm_M)) (k61 : Int32 → Int32 → sm_M → Option (sm_M)) (v1 : Int32) (v2 : Int32) (σ : sm_M) : Option (sm_M) :=
  k61 v1 (v2 + 1) σ
def f_X6_grow_222 (k2 : Int32 → sm_M → Option (sm_M)) (k61 : Int32 → Int32 → sm_M → Option (sm_M)) (v1 : Int32) (v2 : Int32) (v4 : Int32) (σ : sm_M) : Option (sm_M) :=
  if v4 = 0 then
    f_X6_grow_255 k2 k61 v1 v2 σ
  else
    (aI 35 σ 0 v2).bind fun x1 =>
    (aI 58 σ 0 x1).bind fun x2 =>
    if x2 = 0 then
      (aI 35 σ 0 v2).bind fun x3 =>
      (uZ 58 σ 0 x3 (1 : Int32)).bind fun σ4 =>
      f_X6_grow_255 k2 k61 (1 : Int32) v2 σ4
    else
      f_X6_grow_255 k2 k61 v1 v2 σ
def f_X6_grow_188 (k2 : Int32 → sm_M → Option (sm_M)) (k61 : Int32 → Int32 → sm_M → Option (sm_M)) (v1 : Int32) (v2 : Int32) (v3 : Int32) (s0 : Int32) (σ : sm_M) : Option (sm_M) :=
  if v3 = 0 then
    f_X6_grow_222 k2 k61 v1 v2 s0 σ
  else
    (aI 34 σ 0 v2).bind fun x1 =>
    (aI 58 σ 0 x1).bind fun x2 =>
    if x2 = 0 then
      (aI 34 σ 0 v2).bind fun x3 =>
      (uZ 58 σ 0 x3 (1 : Int32)).bind fun σ4 =>
      f_X6_grow_222 k2 k61 (1 : Int32) v2 s0 σ4
    else
      f_X6_grow_222 k2 k61 v1 v2 s0 σ
def f_X6_grow_187 (k2 : Int32 → sm_M → Option (sm_M)) (k61 : Int32 → Int32 → sm_M → Option (sm_M)) (v1 : Int32) (v2 : Int32) (v3 : Int32) (σ : sm_M) : Option (sm_M) :=
  f_X6_grow_188 k2 k61 v1 v2 v3 (0 : Int32) σ
def f_X6_grow_183 (k2 : Int32 → sm_M → Option (sm_M)) (k61 : Int32 → Int32 → sm_M → Option (sm_M)) (v1 : Int32) (v2 : Int32) (v3 : Int32) (σ : sm_M) : Option (sm_M) :=
  f_X6_grow_188 k2 k61 v1 v2 v3 (1 : Int32) σ
def f_X6_grow_180 (k2 : Int32 → sm_M → Option (sm_M)) (k61 : Int32 → Int32 → sm_M → Option (sm_M)) (v1 : Int32) (v2 : Int32) (v3 : Int32) (s0 : Int32) (s1 : Int32) (σ : sm_M) : Option (sm_M) :=
  if s0 ≤ s1 then
    f_X6_grow_187 k2 k61 v1 v2 v3 σ
  else
    f_X6_grow_183 k2 k61 v1 v2 v3 σ
def f_X6_grow_106 (k2 : Int32 → sm_M → Option (sm_M)) (k61 : Int32 → Int32 → sm_M → Option (sm_M)) (v1 : Int32) (v2 : Int32) (s0 : Int32) (σ : sm_M) : Option (sm_M) :=
  (aI 34 σ 0 v2).bind fun x1 =>
  (aI 58 σ 0 x1).bind fun x2 =>
  if x2 = 0 then
    f_X6_grow_187 k2 k61 v1 v2 s0 σ
  else
    (aI 36 σ 0 v2).bind fun x3 =>
    if x3 = 0 then
      f_X6_grow_183 k2 k61 v1 v2 s0 σ
    else
      (aI 34 σ 0 v2).bind fun x4 =>
      (aI 59 σ 0 x4).bind fun x5 =>
      if x5 = 0 then
        f_X6_grow_187 k2 k61 v1 v2 s0 σ
      else
        (aI 41 σ 0 v2).bind fun x6 =>
        (aI 47 σ 0 v2).bind fun x7 =>
        (aI 49 σ 0 v2).bind fun x8 =>
        if x7 ≤ x8 then
          (aI 49 σ 0 v2).bind fun x9 =>
          f_X6_grow_180 k2 k61 v1 v2 s0 x6 x9 σ
        else
          (aI 47 σ 0 v2).bind fun x10 =>
          f_X6_grow_180 k2 k61 v1 v2 s0 x6 x10 σ
def f_X6_grow_105 (k2 : Int32 → sm_M → Option (sm_M)) (k61 : Int32 → Int32 → sm_M → Option (sm_M)) (v1 : Int32) (v2 : Int32) (σ : sm_M) : Option (sm_M) :=
  f_X6_grow_106 k2 k61 v1 v2 (0 : Int32) σ
def f_X6_grow_101 (k2 : Int32 → sm_M → Option (sm_M)) (k61 : Int32 → Int32 → sm_M → Option (sm_M)) (v1 : Int32) (v2 : Int32) (σ : sm_M) : Option (sm_M) :=
  f_X6_grow_106 k2 k61 v1 v2 (1 : Int32) σ
def f_X6_grow_61 (k2 : Int32 → sm_M → Option (sm_M)) : Nat → Int32 → Int32 → sm_M → Option (sm_M)
  | 0, _, _, _ => none
  | n + 1, v1, v2, σ =>
    if (σ.1 20 0 14) ≤ v2 then
      f_X6_grow_261 k2 v1 σ
    else
      (aI 35 σ 0 v2).bind fun x1 =>
      (aI 58 σ 0 x1).bind fun x2 =>
      if x2 = 0 then
        f_X6_grow_105 k2 (f_X6_grow_61 k2 n) v1 v2 σ
      else
        (aI 36 σ 0 v2).bind fun x3 =>
        if x3 = 0 then
          f_X6_grow_101 k2 (f_X6_grow_61 k2 n) v1 v2 σ
        else
          (aI 42 σ 0 v2).bind fun x4 =>
          if x4 = 0 then
            f_X6_grow_105 k2 (f_X6_grow_61 k2 n) v1 v2 σ
          else
            f_X6_grow_101 k2 (f_X6_grow_61 k2 n) v1 v2 σ
def f_X6_grow_59 (k2 : Int32 → sm_M → Option (sm_M)) (v1 : Int32) (σ : sm_M) : Option (sm_M) :=
  f_X6_grow_61 k2 1000 v1 (0 : Int32) σ
def f_X6_grow_53 (k2 : Int32 → sm_M → Option (sm_M)) (k10 : Int32 → Int32 → sm_M → Option (sm_M)) (v1 : Int32) (v2 : Int32) (σ : sm_M) : Option (sm_M) :=
  k10 v1 (v2 + 1) σ
def f_X6_grow_10 (k2 : Int32 → sm_M → Option (sm_M)) : Nat → Int32 → Int32 → sm_M → Option (sm_M)
  | 0, _, _, _ => none
  | n + 1, v1, v2, σ =>
    if (σ.1 20 0 0) ≤ v2 then
      f_X6_grow_59 k2 v1 σ
    else
      (aI 58 σ 0 v2).bind fun x1 =>
      if x1 = 0 then
        f_X6_grow_53 k2 (f_X6_grow_10 k2 n) v1 v2 σ
      else
        (aI 59 σ 0 v2).bind fun x2 =>
        if x2 = 0 then
          (f_X6_isUnsteady v2 σ).bind fun q3 =>
          if q3.1 = 0 then
            f_X6_grow_53 k2 (f_X6_grow_10 k2 n) v1 v2 q3.2
          else
            (uZ 59 q3.2 0 v2 (1 : Int32)).bind fun σ4 =>
            f_X6_grow_53 k2 (f_X6_grow_10 k2 n) (1 : Int32) v2 σ4
        else
          f_X6_grow_53 k2 (f_X6_grow_10 k2 n) v1 v2 σ
def f_X6_grow_2 : Nat → Int32 → sm_M → Option (sm_M)
  | 0, _, _ => none
  | n + 1, v1, σ =>
    if v1 = 0 then
      some σ
    else
      f_X6_grow_10 (f_X6_grow_2 n) 1000 (0 : Int32) (0 : Int32) σ
def f_X6_grow (σ : sm_M) : Option (sm_M) :=
  f_X6_grow_2 1000 (1 : Int32) σ
def f_X6_beginAgain_345 (v3 : Int32) (σ : sm_M) : Option (Int32 × sm_M) :=
  (sI 20 44 σ 0 ((σ.1 20 0 44) + v3)).bind fun σ1 =>
  some (v3, σ1)
def f_X6_beginAgain_339 (k133 : Int32 → Int32 → sm_M → Option (Int32 × sm_M)) (v3 : Int32) (v4 : Int32) (σ : sm_M) : Option (Int32 × sm_M) :=
  k133 v3 (v4 + 1) σ
def f_X6_beginAgain_338 (k133 : Int32 → Int32 → sm_M → Option (Int32 × sm_M)) (v3 : Int32) (v4 : Int32) (s1 : Int32) (s2 : Int32) (σ : sm_M) : Option (Int32 × sm_M) :=
  (uI 41 σ 0 s1 s2).bind fun σ1 =>
  f_X6_beginAgain_339 k133 v3 v4 σ1
def f_X6_beginAgain_306 (k133 : Int32 → Int32 → sm_M → Option (Int32 × sm_M)) (v3 : Int32) (v4 : Int32) (s0 : Int32) (σ : sm_M) : Option (Int32 × sm_M) :=
  (aI 41 σ 0 v4).bind fun x1 =>
  if s0 ≤ x1 then
    f_X6_beginAgain_338 k133 v3 v4 v4 s0 σ
  else
    (aI 41 σ 0 v4).bind fun x2 =>
    f_X6_beginAgain_338 k133 v3 v4 v4 x2 σ
def f_X6_beginAgain_257 (k133 : Int32 → Int32 → sm_M → Option (Int32 × sm_M)) (v3 : Int32) (v4 : Int32) (σ : sm_M) : Option (Int32 × sm_M) :=
  (aI 34 σ 0 v4).bind fun x1 =>
  (aI 59 σ 0 x1).bind fun x2 =>
  if x2 = 0 then
    f_X6_beginAgain_339 k133 v3 v4 σ
  else
    (aI 47 σ 0 v4).bind fun x3 =>
    (aI 49 σ 0 v4).bind fun x4 =>
    if x3 ≤ x4 then
      (aI 49 σ 0 v4).bind fun x5 =>
      f_X6_beginAgain_306 k133 v3 v4 x5 σ
    else
      (aI 47 σ 0 v4).bind fun x6 =>
      f_X6_beginAgain_306 k133 v3 v4 x6 σ
def f_X6_beginAgain_235 (k133 : Int32 → Int32 → sm_M → Option (Int32 × sm_M)) (v3 : Int32) (v4 : Int32) (σ : sm_M) : Option (Int32 × sm_M) :=
  (aI 47 σ 0 v4).bind fun x1 =>
  (uI 38 σ 0 v4 x1).bind fun σ2 =>
  (uZ 42 σ2 0 v4 (0 : Int32)).bind fun σ3 =>
  f_X6_beginAgain_257 k133 v3 v4 σ3
def f_X6_beginAgain_171 (k133 : Int32 → Int32 → sm_M → Option (Int32 × sm_M)) (v3 : Int32) (v4 : Int32) (σ : sm_M) : Option (Int32 × sm_M) :=
  (aI 34 σ 0 v4).bind fun x1 =>
  (aI 58 σ 0 x1).bind fun x2 =>
  if x2 = 0 then
    f_X6_beginAgain_339 k133 v3 v4 σ
  else
    (aI 48 σ 0 v4).bind fun x3 =>
    (uI 39 σ 0 v4 x3).bind fun σ4 =>
    (aI 36 σ4 0 v4).bind fun x5 =>
    if x5 = 0 then
      f_X6_beginAgain_235 k133 v3 v4 σ4
    else
      (aI 34 σ4 0 v4).bind fun x6 =>
      (aI 59 σ4 0 x6).bind fun x7 =>
      if x7 = 0 then
        (aI 42 σ4 0 v4).bind fun x8 =>
        if x8 = 0 then
          f_X6_beginAgain_257 k133 v3 v4 σ4
        else
          f_X6_beginAgain_235 k133 v3 v4 σ4
      else
        f_X6_beginAgain_235 k133 v3 v4 σ4
def f_X6_beginAgain_133 : Nat → Int32 → Int32 → sm_M → Option (Int32 × sm_M)
  | 0, _, _, _ => none
  | n + 1, v3, v4, σ =>
    if (σ.1 20 0 14) ≤ v4 then
      f_X6_beginAgain_345 v3 σ
    else
      (aI 35 σ 0 v4).bind fun x1 =>
      (aI 58 σ 0 x1).bind fun x2 =>
      if x2 = 0 then
        f_X6_beginAgain_171 (f_X6_beginAgain_133 n) v3 v4 σ
      else
        (aI 49 σ 0 v4).bind fun x3 =>
        (uI 40 σ 0 v4 x3).bind fun σ4 =>
        f_X6_beginAgain_171 (f_X6_beginAgain_133 n) v3 v4 σ4
def f_X6_beginAgain_130 (v3 : Int32) (σ : sm_M) : Option (Int32 × sm_M) :=
  f_X6_beginAgain_133 1000 v3 (0 : Int32) σ
def f_X6_beginAgain_124 (k21 : Int32 → Int32 → Int32 → sm_M → Option (Int32 × sm_M)) (v2 : Int32) (v3 : Int32) (v4 : Int32) (σ : sm_M) : Option (Int32 × sm_M) :=
  k21 v2 v3 (v4 + 1) σ
def f_X6_beginAgain_120 (k21 : Int32 → Int32 → Int32 → sm_M → Option (Int32 × sm_M)) (v2 : Int32) (v3 : Int32) (v4 : Int32) (s1 : Int32) (s2 : Int32) (σ : sm_M) : Option (Int32 × sm_M) :=
  (uI 31 σ 0 s1 s2).bind fun σ1 =>
  f_X6_beginAgain_124 k21 v2 (v3 + 1) v4 σ1
def f_X6_beginAgain_21 : Nat → Int32 → Int32 → Int32 → sm_M → Option (Int32 × sm_M)
  | 0, _, _, _, _ => none
  | n + 1, v2, v3, v4, σ =>
    if (σ.1 20 0 0) ≤ v4 then
      f_X6_beginAgain_130 v3 σ
    else
      (aI 58 σ 0 v4).bind fun x1 =>
      if x1 = 0 then
        f_X6_beginAgain_124 (f_X6_beginAgain_21 n) v2 v3 v4 σ
      else
        (aI 44 σ 0 v4).bind fun x2 =>
        (uI 24 σ 0 v4 x2).bind fun σ3 =>
        (aI 45 σ3 0 v4).bind fun x4 =>
        (uI 25 σ3 0 v4 x4).bind fun σ5 =>
        (aI 46 σ5 0 v4).bind fun x6 =>
        (uI 26 σ5 0 v4 x6).bind fun σ7 =>
        (aI 31 σ7 0 v4).bind fun x8 =>
        if x8 ≤ ((σ7.1 20 0 35) + v2) then
          f_X6_beginAgain_120 (f_X6_beginAgain_21 n) v2 v3 v4 v4 ((σ7.1 20 0 35) + v2) σ7
        else
          (aI 31 σ7 0 v4).bind fun x9 =>
          f_X6_beginAgain_120 (f_X6_beginAgain_21 n) v2 v3 v4 v4 x9 σ7
def f_X6_beginAgain_15 (s0 : Int32) (σ : sm_M) : Option (Int32 × sm_M) :=
  f_X6_beginAgain_21 1000 s0 (0 : Int32) (0 : Int32) σ
def f_X6_beginAgain (v1 : Int32) (σ : sm_M) : Option (Int32 × sm_M) :=
  if v1 ≤ (4 : Int32) then
    f_X6_beginAgain_15 ((1 : Int32) <<< ((v1 - (1 : Int32)) &&& 31)) σ
  else
    f_X6_beginAgain_15 (16 : Int32) σ
def f_X6_failOne (v1 : Int32) (v2 : Int32) (σ : sm_M) : Option (Int32 × sm_M) :=
  (f_X6_blame v1 v2 σ).bind fun q1 =>
  (aI 30 q1 0 v1).bind fun x2 =>
  if x2 ≤ (q1.1 20 0 32) then
    (f_X6_noRegion q1).bind fun q3 =>
    (uZ 58 q3 0 v1 (1 : Int32)).bind fun σ4 =>
    (f_X6_grow σ4).bind fun q5 =>
    (aI 30 q5 0 v1).bind fun x6 =>
    (f_X6_beginAgain x6 q5).bind fun q7 =>
    some (q7.1, q7.2)
  else
    (sZ 20 43 q1 0 (1 : Int32)).bind fun σ8 =>
    some ((0 : Int32), σ8)
def f_X6_step_212 (v1 : Int32) (σ : sm_M) : Option (Int32 × sm_M) :=
  (f_X6_failOne v1 (0 : Int32) σ).bind fun q1 =>
  some ((-5 : Int32), q1.2)
def f_X6_step_125 (v2 : Int32) (σ : sm_M) : Option (Int32 × sm_M) :=
  some (v2, σ)
def f_X6_step_118 (k60 : Int32 → Int32 → sm_M → Option (Int32 × sm_M)) (v2 : Int32) (v3 : Int32) (s1 : Int32) (s2 : Int32) (σ : sm_M) : Option (Int32 × sm_M) :=
  (uI 41 σ 0 s1 s2).bind fun σ1 =>
  k60 v2 (v3 + 1) σ1
def f_X6_step_112 (k60 : Int32 → Int32 → sm_M → Option (Int32 × sm_M)) (v2 : Int32) (v3 : Int32) (s1 : Int32) (σ : sm_M) : Option (Int32 × sm_M) :=
  (aI 41 σ 0 v3).bind fun x1 =>
  f_X6_step_118 k60 v2 v3 s1 x1 σ
def f_X6_step_60 : Nat → Int32 → Int32 → sm_M → Option (Int32 × sm_M)
  | 0, _, _, _ => none
  | n + 1, v2, v3, σ =>
    if (σ.1 20 0 14) ≤ v3 then
      f_X6_step_125 v2 σ
    else
      (aI 40 σ 0 v3).bind fun x1 =>
      (aI 57 σ 0 v3).bind fun x2 =>
      if x1 ≤ x2 then
        f_X6_step_112 (f_X6_step_60 n) v2 v3 v3 σ
      else
        (aI 40 σ 0 v3).bind fun x3 =>
        (aI 41 σ 0 v3).bind fun x4 =>
        if x3 ≤ x4 then
          f_X6_step_112 (f_X6_step_60 n) v2 v3 v3 σ
        else
          (aI 40 σ 0 v3).bind fun x5 =>
          f_X6_step_118 (f_X6_step_60 n) v2 v3 v3 x5 σ
def f_X6_step_30 (σ : sm_M) : Option (Int32 × sm_M) :=
  some ((-3 : Int32), σ)
def f_X6_step (v1 : Int32) (σ : sm_M) : Option (Int32 × sm_M) :=
  (f_X6_noTask v1 σ).bind fun q1 =>
  if q1.1 = 0 then
    if (q1.2.1 20 0 43) = 0 then
      (aI 31 q1.2 0 v1).bind fun x2 =>
      if x2 ≤ (q1.2.1 20 0 35) then
        (sZ 20 37 q1.2 0 (1 : Int32)).bind fun σ3 =>
        (f_X6_takeRows v1 σ3).bind fun q4 =>
        if q4.1 < 0 then
          (aI 29 q4.2 0 v1).bind fun x5 =>
          if x5 ≤ (1 : Int32) then
            if (q4.2.1 20 0 33) = 0 then
              f_X6_step_212 v1 q4.2
            else
              (aI 32 q4.2 0 v1).bind fun x6 =>
              if (8 : Int32) ≤ x6 then
                f_X6_step_212 v1 q4.2
              else
                (aI 32 q4.2 0 v1).bind fun x7 =>
                (aI 24 q4.2 0 v1).bind fun x8 =>
                (uI 33 q4.2 0 (((8 : Int32) * v1) + x7) x8).bind fun σ9 =>
                (aI 32 σ9 0 v1).bind fun x10 =>
                (uI 32 σ9 0 v1 (x10 + (1 : Int32))).bind fun σ11 =>
                (uI 29 σ11 0 v1 (8 : Int32)).bind fun σ12 =>
                f_X6_step_212 v1 σ12
          else
            (aI 29 q4.2 0 v1).bind fun x13 =>
            if (2 : Int32) = 0 then none else
            (uI 29 q4.2 0 v1 (x13 / (2 : Int32))).bind fun σ14 =>
            f_X6_step_212 v1 σ14
        else
          (sI 20 36 q4.2 0 ((q4.2.1 20 0 36) + (1 : Int32))).bind fun σ15 =>
          f_X6_step_60 1000 q4.1 (0 : Int32) σ15
      else
        f_X6_step_30 q1.2
    else
      f_X6_step_30 q1.2
  else
    some ((-1 : Int32), q1.2)
def f_X6_fail_28 (s0 : Int32) (σ : sm_M) : Option (Int32 × sm_M) :=
  some (s0, σ)
def f_X6_fail (v1 : Int32) (σ : sm_M) : Option (Int32 × sm_M) :=
  (f_X6_noTask v1 σ).bind fun q1 =>
  if q1.1 = 0 then
    if (q1.2.1 20 0 43) = 0 then
      (f_X6_failOne v1 (1 : Int32) q1.2).bind fun q2 =>
      f_X6_fail_28 q2.1 q2.2
    else
      f_X6_fail_28 (-3 : Int32) q1.2
  else
    some ((-1 : Int32), q1.2)
def f_X6_nodesThere_32 (v1 : Int32) (σ : sm_M) : Option (Int32 × sm_M) :=
  some (v1, σ)
def f_X6_nodesThere_24 (k4 : Int32 → Int32 → sm_M → Option (Int32 × sm_M)) (v2 : Int32) (s0 : Int32) (s1 : Int32) (σ : sm_M) : Option (Int32 × sm_M) :=
  k4 (s0 + s1) (v2 + 1) σ
def f_X6_nodesThere_4 : Nat → Int32 → Int32 → sm_M → Option (Int32 × sm_M)
  | 0, _, _, _ => none
  | n + 1, v1, v2, σ =>
    if (4 : Int32) ≤ v2 then
      f_X6_nodesThere_32 v1 σ
    else
      (aI 50 σ 0 v2).bind fun x1 =>
      if x1 = 0 then
        f_X6_nodesThere_24 (f_X6_nodesThere_4 n) v2 v1 (1 : Int32) σ
      else
        f_X6_nodesThere_24 (f_X6_nodesThere_4 n) v2 v1 (0 : Int32) σ
def f_X6_nodesThere (σ : sm_M) : Option (Int32 × sm_M) :=
  f_X6_nodesThere_4 1000 (0 : Int32) (0 : Int32) σ
def f_X6_emptiest_81 (v1 : Int32) (σ : sm_M) : Option (Int32 × sm_M) :=
  some (v1, σ)
def f_X6_emptiest_75 (k8 : Int32 → Int32 → Int32 → sm_M → Option (Int32 × sm_M)) (v1 : Int32) (v2 : Int32) (v3 : Int32) (σ : sm_M) : Option (Int32 × sm_M) :=
  k8 v1 v2 (v3 + 1) σ
def f_X6_emptiest_55 (k8 : Int32 → Int32 → Int32 → sm_M → Option (Int32 × sm_M)) (v1 : Int32) (v2 : Int32) (v3 : Int32) (v4 : Int32) (σ : sm_M) : Option (Int32 × sm_M) :=
  (aI 50 σ 0 v3).bind fun x1 =>
  if x1 = 0 then
    if v2 ≤ v4 then
      f_X6_emptiest_75 k8 v1 v2 v3 σ
    else
      f_X6_emptiest_75 k8 v3 v4 v3 σ
  else
    f_X6_emptiest_75 k8 v1 v2 v3 σ
def f_X6_emptiest_46 (k8 : Int32 → Int32 → Int32 → sm_M → Option (Int32 × sm_M)) (k19 : Int32 → Int32 → Int32 → Int32 → Int32 → sm_M → Option (Int32 × sm_M)) (v1 : Int32) (v2 : Int32) (v3 : Int32) (v5 : Int32) (s0 : Int32) (s1 : Int32) (σ : sm_M) : Option (Int32 × sm_M) :=
  k19 v1 v2 v3 (s0 + s1) (v5 + 1) σ
def f_X6_emptiest_19 (k8 : Int32 → Int32 → Int32 → sm_M → Option (Int32 × sm_M)) : Nat → Int32 → Int32 → Int32 → Int32 → Int32 → sm_M → Option (Int32 × sm_M)
  | 0, _, _, _, _, _, _ => none
  | n + 1, v1, v2, v3, v4, v5, σ =>
    if (σ.1 20 0 0) ≤ v5 then
      f_X6_emptiest_55 k8 v1 v2 v3 v4 σ
    else
      (aI 23 σ 0 v5).bind fun x1 =>
      if x1 = v3 then
        f_X6_emptiest_46 k8 (f_X6_emptiest_19 k8 n) v1 v2 v3 v5 v4 (1 : Int32) σ
      else
        f_X6_emptiest_46 k8 (f_X6_emptiest_19 k8 n) v1 v2 v3 v5 v4 (0 : Int32) σ
def f_X6_emptiest_8 : Nat → Int32 → Int32 → Int32 → sm_M → Option (Int32 × sm_M)
  | 0, _, _, _, _ => none
  | n + 1, v1, v2, v3, σ =>
    if (4 : Int32) ≤ v3 then
      f_X6_emptiest_81 v1 σ
    else
      f_X6_emptiest_19 (f_X6_emptiest_8 n) 1000 v1 v2 v3 (0 : Int32) (0 : Int32) σ
def f_X6_emptiest (σ : sm_M) : Option (Int32 × sm_M) :=
  f_X6_emptiest_8 1000 (-9 : Int32) (17 : Int32) (0 : Int32) σ
def f_X6_gone_248 (v2 : Int32) (σ : sm_M) : Option (Int32 × sm_M) :=
  (f_X6_grow σ).bind fun q1 =>
  (f_X6_beginAgain v2 q1).bind fun q2 =>
  some (q2.1, q2.2)
def f_X6_gone_242 (k177 : Int32 → Int32 → sm_M → Option (Int32 × sm_M)) (v2 : Int32) (v3 : Int32) (σ : sm_M) : Option (Int32 × sm_M) :=
  k177 v2 (v3 + 1) σ
def f_X6_gone_177 : Nat → Int32 → Int32 → sm_M → Option (Int32 × sm_M)
  | 0, _, _, _ => none
  | n + 1, v2, v3, σ =>
    if (σ.1 20 0 14) ≤ v3 then
      f_X6_gone_248 v2 σ
    else
      (aI 36 σ 0 v3).bind fun x1 =>
      if x1 = 0 then
        f_X6_gone_242 (f_X6_gone_177 n) v2 v3 σ
      else
        (aI 34 σ 0 v3).bind fun x2 =>
        (aI 58 σ 0 x2).bind fun x3 =>
        if x3 = 0 then
          f_X6_gone_242 (f_X6_gone_177 n) v2 v3 σ
        else
          (aI 38 σ 0 v3).bind fun x4 =>
          (aI 47 σ 0 v3).bind fun x5 =>
          if x4 ≤ x5 then
            f_X6_gone_242 (f_X6_gone_177 n) v2 v3 σ
          else
            (uZ 42 σ 0 v3 (1 : Int32)).bind fun σ6 =>
            (aI 38 σ6 0 v3).bind fun x7 =>
            (uI 43 σ6 0 v3 x7).bind fun σ8 =>
            f_X6_gone_242 (f_X6_gone_177 n) v2 v3 σ8
def f_X6_gone_175 (v2 : Int32) (σ : sm_M) : Option (Int32 × sm_M) :=
  f_X6_gone_177 1000 v2 (0 : Int32) σ
def f_X6_gone_168 (k133 : Int32 → Int32 → sm_M → Option (Int32 × sm_M)) (v2 : Int32) (v3 : Int32) (s1 : Int32) (s2 : Int32) (σ : sm_M) : Option (Int32 × sm_M) :=
  (uI 23 σ 0 s1 s2).bind fun σ1 =>
  k133 v2 (v3 + 1) σ1
def f_X6_gone_133 : Nat → Int32 → Int32 → sm_M → Option (Int32 × sm_M)
  | 0, _, _, _ => none
  | n + 1, v2, v3, σ =>
    if (σ.1 20 0 0) ≤ v3 then
      f_X6_gone_175 v2 σ
    else
      (aI 58 σ 0 v3).bind fun x1 =>
      if x1 = 0 then
        (aI 23 σ 0 v3).bind fun x2 =>
        f_X6_gone_168 (f_X6_gone_133 n) v2 v3 v3 x2 σ
      else
        (f_X6_emptiest σ).bind fun q3 =>
        f_X6_gone_168 (f_X6_gone_133 n) v2 v3 v3 q3.1 q3.2
def f_X6_gone_110 (v2 : Int32) (σ : sm_M) : Option (Int32 × sm_M) :=
  if v2 = 0 then
    some ((0 : Int32), σ)
  else
    if v2 ≤ (σ.1 20 0 32) then
      f_X6_gone_133 1000 v2 (0 : Int32) σ
    else
      (sZ 20 43 σ 0 (1 : Int32)).bind fun σ1 =>
      some ((0 : Int32), σ1)
def f_X6_gone_104 (k52 : Int32 → Int32 → Int32 → sm_M → Option (Int32 × sm_M)) (v1 : Int32) (v2 : Int32) (v3 : Int32) (σ : sm_M) : Option (Int32 × sm_M) :=
  k52 v1 v2 (v3 + 1) σ
def f_X6_gone_96 (k52 : Int32 → Int32 → Int32 → sm_M → Option (Int32 × sm_M)) (v1 : Int32) (v3 : Int32) (s0 : Int32) (σ : sm_M) : Option (Int32 × sm_M) :=
  (uZ 58 σ 0 v3 (1 : Int32)).bind fun σ1 =>
  f_X6_gone_104 k52 v1 s0 v3 σ1
def f_X6_gone_52 : Nat → Int32 → Int32 → Int32 → sm_M → Option (Int32 × sm_M)
  | 0, _, _, _, _ => none
  | n + 1, v1, v2, v3, σ =>
    if (σ.1 20 0 0) ≤ v3 then
      f_X6_gone_110 v2 σ
    else
      (aI 23 σ 0 v3).bind fun x1 =>
      if x1 = v1 then
        (f_X6_blame v3 (2 : Int32) σ).bind fun q2 =>
        (aI 30 q2 0 v3).bind fun x3 =>
        if x3 ≤ v2 then
          f_X6_gone_96 (f_X6_gone_52 n) v1 v3 v2 q2
        else
          (aI 30 q2 0 v3).bind fun x4 =>
          f_X6_gone_96 (f_X6_gone_52 n) v1 v3 x4 q2
      else
        f_X6_gone_104 (f_X6_gone_52 n) v1 v2 v3 σ
def f_X6_gone_34 (σ : sm_M) : Option (Int32 × sm_M) :=
  some ((-3 : Int32), σ)
def f_X6_gone (v1 : Int32) (σ : sm_M) : Option (Int32 × sm_M) :=
  (f_X6_noNode v1 σ).bind fun q1 =>
  if q1.1 = 0 then
    (aI 50 q1.2 0 v1).bind fun x2 =>
    if x2 = 0 then
      (f_X6_nodesThere q1.2).bind fun q3 =>
      if q3.1 = (1 : Int32) then
        f_X6_gone_34 q3.2
      else
        if (q3.2.1 20 0 43) = 0 then
          (uZ 50 q3.2 0 v1 (1 : Int32)).bind fun σ4 =>
          (f_X6_noRegion σ4).bind fun q5 =>
          f_X6_gone_52 1000 v1 (0 : Int32) (0 : Int32) q5
        else
          f_X6_gone_34 q3.2
    else
      f_X6_gone_34 q1.2
  else
    some ((-1 : Int32), q1.2)
def f_X6_lose_95 (s0 : Int32) (σ : sm_M) : Option (Int32 × sm_M) :=
  some (s0, σ)
def f_X6_lose_26 (σ : sm_M) : Option (Int32 × sm_M) :=
  some ((-3 : Int32), σ)
def f_X6_lose (v1 : Int32) (σ : sm_M) : Option (Int32 × sm_M) :=
  (f_X6_noChannel v1 σ).bind fun q1 =>
  if q1.1 = 0 then
    (aI 36 q1.2 0 v1).bind fun x2 =>
    if x2 = 0 then
      f_X6_lose_26 q1.2
    else
      if (q1.2.1 20 0 43) = 0 then
        (aI 38 q1.2 0 v1).bind fun x3 =>
        (aI 47 q1.2 0 v1).bind fun x4 =>
        if x4 < x3 then
          (uZ 42 q1.2 0 v1 (1 : Int32)).bind fun σ5 =>
          (aI 38 σ5 0 v1).bind fun x6 =>
          (uI 43 σ5 0 v1 x6).bind fun σ7 =>
          (aI 40 σ7 0 v1).bind fun x8 =>
          (aI 38 σ7 0 v1).bind fun x9 =>
          if x9 ≤ x8 then
            f_X6_lose_95 (0 : Int32) σ7
          else
            (aI 34 σ7 0 v1).bind fun x10 =>
            (f_X6_failOne x10 (3 : Int32) σ7).bind fun q11 =>
            f_X6_lose_95 q11.1 q11.2
        else
          some ((0 : Int32), q1.2)
      else
        f_X6_lose_26 q1.2
  else
    some ((-1 : Int32), q1.2)
def f_X6_tick_36 (s1 : Int32) (σ : sm_M) : Option (Int32 × sm_M) :=
  (sI 20 35 σ 0 s1).bind fun σ1 =>
  some ((σ1.1 20 0 35), σ1)
def f_X6_tick (v1 : Int32) (σ : sm_M) : Option (Int32 × sm_M) :=
  (f_X6_in v1 (1 : Int32) (100 : Int32) σ).bind fun q1 =>
  if q1.1 = 0 then
    some ((-2 : Int32), q1.2)
  else
    if ((q1.2.1 20 0 35) + v1) ≤ (1000000 : Int32) then
      f_X6_tick_36 ((q1.2.1 20 0 35) + v1) q1.2
    else
      f_X6_tick_36 (1000000 : Int32) q1.2
def f_X6_waiting_39 (v1 : Int32) (σ : sm_M) : Option (Int32 × sm_M) :=
  some (v1, σ)
def f_X6_waiting_31 (k4 : Int32 → Int32 → sm_M → Option (Int32 × sm_M)) (v2 : Int32) (s0 : Int32) (s1 : Int32) (σ : sm_M) : Option (Int32 × sm_M) :=
  k4 (s0 + s1) (v2 + 1) σ
def f_X6_waiting_4 : Nat → Int32 → Int32 → sm_M → Option (Int32 × sm_M)
  | 0, _, _, _ => none
  | n + 1, v1, v2, σ =>
    if (σ.1 20 0 0) ≤ v2 then
      f_X6_waiting_39 v1 σ
    else
      (aI 31 σ 0 v2).bind fun x1 =>
      if x1 ≤ (σ.1 20 0 35) then
        f_X6_waiting_31 (f_X6_waiting_4 n) v2 v1 (0 : Int32) σ
      else
        f_X6_waiting_31 (f_X6_waiting_4 n) v2 v1 (1 : Int32) σ
def f_X6_waiting (σ : sm_M) : Option (Int32 × sm_M) :=
  f_X6_waiting_4 1000 (0 : Int32) (0 : Int32) σ
def f_X6_mark_128 (σ : sm_M) : Option (Int32 × sm_M) :=
  (sI 20 38 σ 0 ((σ.1 20 0 38) + (1 : Int32))).bind fun σ1 =>
  some ((σ1.1 20 0 38), σ1)
def f_X6_mark_71 : Nat → Int32 → sm_M → Option (Int32 × sm_M)
  | 0, _, _ => none
  | n + 1, v1, σ =>
    if (σ.1 20 0 14) ≤ v1 then
      f_X6_mark_128 σ
    else
      (aI 38 σ 0 v1).bind fun x1 =>
      (uI 47 σ 0 v1 x1).bind fun σ2 =>
      (aI 39 σ2 0 v1).bind fun x3 =>
      (uI 48 σ2 0 v1 x3).bind fun σ4 =>
      (aI 40 σ4 0 v1).bind fun x5 =>
      (uI 49 σ4 0 v1 x5).bind fun σ6 =>
      (uZ 42 σ6 0 v1 (0 : Int32)).bind fun σ7 =>
      (f_X6_mark_71 n) (v1 + 1) σ7
def f_X6_mark_69 (σ : sm_M) : Option (Int32 × sm_M) :=
  f_X6_mark_71 1000 (0 : Int32) σ
def f_X6_mark_19 : Nat → Int32 → sm_M → Option (Int32 × sm_M)
  | 0, _, _ => none
  | n + 1, v1, σ =>
    if (σ.1 20 0 0) ≤ v1 then
      f_X6_mark_69 σ
    else
      (aI 24 σ 0 v1).bind fun x1 =>
      (uI 44 σ 0 v1 x1).bind fun σ2 =>
      (aI 25 σ2 0 v1).bind fun x3 =>
      (uI 45 σ2 0 v1 x3).bind fun σ4 =>
      (aI 26 σ4 0 v1).bind fun x5 =>
      (uI 46 σ4 0 v1 x5).bind fun σ6 =>
      (f_X6_mark_19 n) (v1 + 1) σ6
def f_X6_mark_14 (σ : sm_M) : Option (Int32 × sm_M) :=
  some ((-3 : Int32), σ)
def f_X6_mark (σ : sm_M) : Option (Int32 × sm_M) :=
  (f_X6_waiting σ).bind fun q1 =>
  if 0 < q1.1 then
    f_X6_mark_14 q1.2
  else
    if (q1.2.1 20 0 43) = 0 then
      f_X6_mark_19 1000 (0 : Int32) q1.2
    else
      f_X6_mark_14 q1.2
def f_X6_region_62 (v2 : Int32) (σ : sm_M) : Option (Int32 × sm_M) :=
  some (v2, σ)
def f_X6_region_54 (k29 : Int32 → Int32 → sm_M → Option (Int32 × sm_M)) (v3 : Int32) (s0 : Int32) (s1 : Int32) (σ : sm_M) : Option (Int32 × sm_M) :=
  k29 (s0 ||| s1) (v3 + 1) σ
def f_X6_region_29 : Nat → Int32 → Int32 → sm_M → Option (Int32 × sm_M)
  | 0, _, _, _ => none
  | n + 1, v2, v3, σ =>
    if (σ.1 20 0 0) ≤ v3 then
      f_X6_region_62 v2 σ
    else
      (aI 58 σ 0 v3).bind fun x1 =>
      if x1 = 0 then
        f_X6_region_54 (f_X6_region_29 n) v3 v2 (0 : Int32) σ
      else
        f_X6_region_54 (f_X6_region_29 n) v3 v2 ((1 : Int32) <<< (v3 &&& 31)) σ
def f_X6_region (v1 : Int32) (σ : sm_M) : Option (Int32 × sm_M) :=
  (f_X6_noTask v1 σ).bind fun q1 =>
  if q1.1 = 0 then
    (f_X6_noRegion q1.2).bind fun q2 =>
    (uZ 58 q2 0 v1 (1 : Int32)).bind fun σ3 =>
    (f_X6_grow σ3).bind fun q4 =>
    f_X6_region_29 1000 (0 : Int32) (0 : Int32) q4
  else
    some ((-1 : Int32), q1.2)
def f_X6_taskAt_153 (s0 : Int32) (σ : sm_M) : Option (Int32 × sm_M) :=
  some (s0, σ)
def f_X6_taskAt_134 (s0 : Int32) (σ : sm_M) : Option (Int32 × sm_M) :=
  some (s0, σ)
def f_X6_taskAt (v1 : Int32) (v2 : Int32) (σ : sm_M) : Option (Int32 × sm_M) :=
  (f_X6_noTask v1 σ).bind fun q1 =>
  if q1.1 = 0 then
    if v2 = 0 then
      (aI 21 q1.2 0 v1).bind fun x2 =>
      some (x2, q1.2)
    else
      if v2 = 1 then
        (aI 23 q1.2 0 v1).bind fun x3 =>
        some (x3, q1.2)
      else
        if v2 = 2 then
          (aI 24 q1.2 0 v1).bind fun x4 =>
          some (x4, q1.2)
        else
          if v2 = 3 then
            (aI 25 q1.2 0 v1).bind fun x5 =>
            some (x5, q1.2)
          else
            if v2 = 4 then
              (aI 29 q1.2 0 v1).bind fun x6 =>
              some (x6, q1.2)
            else
              if v2 = 5 then
                (aI 30 q1.2 0 v1).bind fun x7 =>
                some (x7, q1.2)
              else
                if v2 = 6 then
                  (aI 31 q1.2 0 v1).bind fun x8 =>
                  if x8 ≤ (q1.2.1 20 0 35) then
                    f_X6_taskAt_134 (0 : Int32) q1.2
                  else
                    (aI 31 q1.2 0 v1).bind fun x9 =>
                    f_X6_taskAt_134 (x9 - (q1.2.1 20 0 35)) q1.2
                else
                  if v2 = 7 then
                    (f_X6_findDone q1.2).bind fun q10 =>
                    (aI 54 q10 0 v1).bind fun x11 =>
                    if x11 = 0 then
                      f_X6_taskAt_153 (0 : Int32) q10
                    else
                      f_X6_taskAt_153 (1 : Int32) q10
                  else
                    if v2 = 8 then
                      (aI 26 q1.2 0 v1).bind fun x12 =>
                      some (x12, q1.2)
                    else
                      if v2 = 9 then
                        (aI 32 q1.2 0 v1).bind fun x13 =>
                        some (x13, q1.2)
                      else
                        some ((-2 : Int32), q1.2)
  else
    some ((-1 : Int32), q1.2)
def f_X6_channelAt_154 (s0 : Int32) (σ : sm_M) : Option (Int32 × sm_M) :=
  some (s0, σ)
def f_X6_channelAt_136 (s0 : Int32) (σ : sm_M) : Option (Int32 × sm_M) :=
  some (s0, σ)
def f_X6_channelAt_88 (s0 : Int32) (σ : sm_M) : Option (Int32 × sm_M) :=
  some (s0, σ)
def f_X6_channelAt (v1 : Int32) (v2 : Int32) (σ : sm_M) : Option (Int32 × sm_M) :=
  (f_X6_noChannel v1 σ).bind fun q1 =>
  if q1.1 = 0 then
    if v2 = 0 then
      (aI 34 q1.2 0 v1).bind fun x2 =>
      some (x2, q1.2)
    else
      if v2 = 1 then
        (aI 35 q1.2 0 v1).bind fun x3 =>
        some (x3, q1.2)
      else
        if v2 = 2 then
          (aI 36 q1.2 0 v1).bind fun x4 =>
          if x4 = 0 then
            f_X6_channelAt_88 (0 : Int32) q1.2
          else
            f_X6_channelAt_88 (1 : Int32) q1.2
        else
          if v2 = 3 then
            (aI 38 q1.2 0 v1).bind fun x5 =>
            some (x5, q1.2)
          else
            if v2 = 4 then
              (aI 39 q1.2 0 v1).bind fun x6 =>
              some (x6, q1.2)
            else
              if v2 = 5 then
                (aI 40 q1.2 0 v1).bind fun x7 =>
                some (x7, q1.2)
              else
                if v2 = 6 then
                  (aI 42 q1.2 0 v1).bind fun x8 =>
                  if x8 = 0 then
                    f_X6_channelAt_136 (0 : Int32) q1.2
                  else
                    (aI 43 q1.2 0 v1).bind fun x9 =>
                    (aI 47 q1.2 0 v1).bind fun x10 =>
                    f_X6_channelAt_136 (x9 - x10) q1.2
                else
                  if v2 = 7 then
                    (f_X6_findDone q1.2).bind fun q11 =>
                    (f_X6_isOver v1 q11).bind fun q12 =>
                    if q12.1 = 0 then
                      f_X6_channelAt_154 (0 : Int32) q12.2
                    else
                      f_X6_channelAt_154 (1 : Int32) q12.2
                  else
                    if v2 = 8 then
                      (aI 41 q1.2 0 v1).bind fun x13 =>
                      some (x13, q1.2)
                    else
                      some ((-2 : Int32), q1.2)
  else
    some ((-1 : Int32), q1.2)
def f_X6_row_42 (s0 : Int32) (σ : sm_M) : Option (Int32 × sm_M) :=
  some (s0, σ)
def f_X6_row (v1 : Int32) (v2 : Int32) (σ : sm_M) : Option (Int32 × sm_M) :=
  (f_X6_noChannel v1 σ).bind fun q1 =>
  if q1.1 = 0 then
    (aI 38 q1.2 0 v1).bind fun x2 =>
    (f_X6_in v2 (0 : Int32) (x2 - (1 : Int32)) q1.2).bind fun q3 =>
    if q3.1 = 0 then
      f_X6_row_42 (-9 : Int32) q3.2
    else
      (aI 37 q3.2 0 (((64 : Int32) * v1) + v2)).bind fun x4 =>
      f_X6_row_42 x4 q3.2
  else
    some ((-1 : Int32), q1.2)
def f_X6_out_43 (s0 : Int32) (σ : sm_M) : Option (Int32 × sm_M) :=
  some (s0, σ)
def f_X6_out (v1 : Int32) (v2 : Int32) (σ : sm_M) : Option (Int32 × sm_M) :=
  (f_X6_noTask v1 σ).bind fun q1 =>
  if q1.1 = 0 then
    (aI 26 q1.2 0 v1).bind fun x2 =>
    (f_X6_in v2 (0 : Int32) (x2 - (1 : Int32)) q1.2).bind fun q3 =>
    if q3.1 = 0 then
      f_X6_out_43 (-9 : Int32) q3.2
    else
      (aI 27 q3.2 0 (((200 : Int32) * v1) + v2)).bind fun x4 =>
      f_X6_out_43 x4 q3.2
  else
    some ((-1 : Int32), q1.2)
def f_X6_aside_42 (s0 : Int32) (σ : sm_M) : Option (Int32 × sm_M) :=
  some (s0, σ)
def f_X6_aside (v1 : Int32) (v2 : Int32) (σ : sm_M) : Option (Int32 × sm_M) :=
  (f_X6_noTask v1 σ).bind fun q1 =>
  if q1.1 = 0 then
    (aI 32 q1.2 0 v1).bind fun x2 =>
    (f_X6_in v2 (0 : Int32) (x2 - (1 : Int32)) q1.2).bind fun q3 =>
    if q3.1 = 0 then
      f_X6_aside_42 (-9 : Int32) q3.2
    else
      (aI 33 q3.2 0 (((8 : Int32) * v1) + v2)).bind fun x4 =>
      f_X6_aside_42 x4 q3.2
  else
    some ((-1 : Int32), q1.2)
def f_X6_cause_62 (s0 : Int32) (σ : sm_M) : Option (Int32 × sm_M) :=
  some (s0, σ)
def f_X6_cause (v1 : Int32) (v2 : Int32) (σ : sm_M) : Option (Int32 × sm_M) :=
  (f_X6_in v2 (0 : Int32) (2 : Int32) σ).bind fun q1 =>
  if q1.1 = 0 then
    some ((-2 : Int32), q1.2)
  else
    (f_X6_in v1 (0 : Int32) ((q1.2.1 20 0 39) - (1 : Int32)) q1.2).bind fun q2 =>
    if q2.1 = 0 then
      some ((-9 : Int32), q2.2)
    else
      if v2 = 0 then
        (aI 51 q2.2 0 v1).bind fun x5 =>
        f_X6_cause_62 x5 q2.2
      else
        if v2 = (1 : Int32) then
          (aI 52 q2.2 0 v1).bind fun x4 =>
          f_X6_cause_62 x4 q2.2
        else
          (aI 53 q2.2 0 v1).bind fun x3 =>
          f_X6_cause_62 x3 q2.2
def f_X6_doneMany_39 (v1 : Int32) (σ : sm_M) : Option (Int32 × sm_M) :=
  some (v1, σ)
def f_X6_doneMany_31 (k8 : Int32 → Int32 → sm_M → Option (Int32 × sm_M)) (v2 : Int32) (s0 : Int32) (s1 : Int32) (σ : sm_M) : Option (Int32 × sm_M) :=
  k8 (s0 + s1) (v2 + 1) σ
def f_X6_doneMany_8 : Nat → Int32 → Int32 → sm_M → Option (Int32 × sm_M)
  | 0, _, _, _ => none
  | n + 1, v1, v2, σ =>
    if (σ.1 20 0 0) ≤ v2 then
      f_X6_doneMany_39 v1 σ
    else
      (aI 54 σ 0 v2).bind fun x1 =>
      if x1 = 0 then
        f_X6_doneMany_31 (f_X6_doneMany_8 n) v2 v1 (0 : Int32) σ
      else
        f_X6_doneMany_31 (f_X6_doneMany_8 n) v2 v1 (1 : Int32) σ
def f_X6_doneMany (σ : sm_M) : Option (Int32 × sm_M) :=
  (f_X6_findDone σ).bind fun q1 =>
  f_X6_doneMany_8 1000 (0 : Int32) (0 : Int32) q1
def f_X6_told_102 (s0 : Int32) (σ : sm_M) : Option (Int32 × sm_M) :=
  some (s0, σ)
def f_X6_told (v1 : Int32) (σ : sm_M) : Option (Int32 × sm_M) :=
  if v1 = 0 then
    some ((σ.1 20 0 0), σ)
  else
    if v1 = 1 then
      some ((σ.1 20 0 14), σ)
    else
      if v1 = 2 then
        some ((σ.1 20 0 36), σ)
      else
        if v1 = 3 then
          some ((σ.1 20 0 35), σ)
        else
          if v1 = 4 then
            some ((σ.1 20 0 38), σ)
          else
            if v1 = 5 then
              some ((σ.1 20 0 39), σ)
            else
              if v1 = 6 then
                if (σ.1 20 0 43) = 0 then
                  f_X6_told_102 (0 : Int32) σ
                else
                  f_X6_told_102 (1 : Int32) σ
              else
                if v1 = 7 then
                  (f_X6_waiting σ).bind fun q1 =>
                  some (q1.1, q1.2)
                else
                  if v1 = 8 then
                    (f_X6_doneMany σ).bind fun q2 =>
                    some (q2.1, q2.2)
                  else
                    if v1 = 9 then
                      (f_X6_nodesThere σ).bind fun q3 =>
                      some (q3.1, q3.2)
                    else
                      if v1 = 10 then
                        some ((σ.1 20 0 44), σ)
                      else
                        some ((-2 : Int32), σ)
def f_X6_clear (σ : sm_M) : Option (Int32 × sm_M) :=
  (f_X6_begin σ).bind fun q1 =>
  some ((σ.1 20 0 0), q1)
