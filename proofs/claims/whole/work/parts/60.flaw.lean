def scA (L : Nat) (xs : Nat → Int32) (x : Int32) : Option Int32 := if ¬ x < 0 ∧ x.toNatClampNeg < L then some (xs x.toNatClampNeg) else none
def f_L_law_693 (L : Nat) (xs : Nat → Int32) (k18 : Int32 → sm_M → sm_M → Option Int32) (v3 : Int32) (σ τ : sm_M) : Option Int32 :=
  k18 (v3 + 4) σ τ
def f_L_law_300 (L : Nat) (xs : Nat → Int32) (k18 : Int32 → sm_M → sm_M → Option Int32) (v3 : Int32) (s0 : Int32) (s2 : Int32) (s3 : Int32) (σ τ : sm_M) : Option Int32 :=
  (f_X6_rule s2 s3 τ).bind fun q1 =>
  if s0 = q1.1 then
    f_L_law_693 L xs k18 v3 σ q1.2
  else
    some (0 : Int32)
def f_L_law_278 (L : Nat) (xs : Nat → Int32) (k18 : Int32 → sm_M → sm_M → Option Int32) (v3 : Int32) (s1 : Int32) (s2 : Int32) (σ τ : sm_M) : Option Int32 :=
  (f_X5_rule s1 s2 σ).bind fun q1 =>
  (scA L xs (v3 + (1 : Int32))).bind fun x2 =>
  (scA L xs (v3 + (2 : Int32))).bind fun x3 =>
  if x3 = 0 then
    f_L_law_300 L xs k18 v3 q1.1 x2 (0 : Int32) q1.2 τ
  else
    f_L_law_300 L xs k18 v3 q1.1 x2 (1 : Int32) q1.2 τ
def f_L_law_218 (L : Nat) (xs : Nat → Int32) (k18 : Int32 → sm_M → sm_M → Option Int32) (v3 : Int32) (s0 : Int32) (s2 : Int32) (s3 : Int32) (s4 : Int32) (σ τ : sm_M) : Option Int32 :=
  (f_X6_channel s2 s3 s4 τ).bind fun q1 =>
  if s0 = q1.1 then
    f_L_law_693 L xs k18 v3 σ q1.2
  else
    some (0 : Int32)
def f_L_law_191 (L : Nat) (xs : Nat → Int32) (k18 : Int32 → sm_M → sm_M → Option Int32) (v3 : Int32) (s1 : Int32) (s2 : Int32) (s3 : Int32) (σ τ : sm_M) : Option Int32 :=
  (f_X5_channel s1 s2 s3 σ).bind fun q1 =>
  (scA L xs (v3 + (1 : Int32))).bind fun x2 =>
  (scA L xs (v3 + (2 : Int32))).bind fun x3 =>
  (scA L xs (v3 + (3 : Int32))).bind fun x4 =>
  if x4 = 0 then
    f_L_law_218 L xs k18 v3 q1.1 x2 x3 (0 : Int32) q1.2 τ
  else
    f_L_law_218 L xs k18 v3 q1.1 x2 x3 (1 : Int32) q1.2 τ
def f_L_law_18 (L : Nat) (xs : Nat → Int32) : Nat → Int32 → sm_M → sm_M → Option Int32
  | 0, _, _, _ => none
  | n + 1, v3, σ, τ =>
    if ((Int32.ofNat L) - (4 : Int32)) < v3 then
      some (1 : Int32)
    else
      (scA L xs v3).bind fun x1 =>
      if (x1 &&& (31 : Int32)) = 0 then
        (scA L xs (v3 + (1 : Int32))).bind fun x2 =>
        (scA L xs (v3 + (2 : Int32))).bind fun x3 =>
        (scA L xs (v3 + (3 : Int32))).bind fun x4 =>
        (f_X5_task x2 x3 x4 σ).bind fun q5 =>
        (scA L xs (v3 + (1 : Int32))).bind fun x6 =>
        (scA L xs (v3 + (2 : Int32))).bind fun x7 =>
        (scA L xs (v3 + (3 : Int32))).bind fun x8 =>
        (f_X6_task x6 x7 x8 τ).bind fun q9 =>
        if q5.1 = q9.1 then
          f_L_law_693 L xs (f_L_law_18 L xs n) v3 q5.2 q9.2
        else
          some (0 : Int32)
      else
        if (x1 &&& (31 : Int32)) = 1 then
          (scA L xs (v3 + (1 : Int32))).bind fun x10 =>
          (scA L xs (v3 + (2 : Int32))).bind fun x11 =>
          (scA L xs (v3 + (3 : Int32))).bind fun x12 =>
          if x12 = 0 then
            f_L_law_191 L xs (f_L_law_18 L xs n) v3 x10 x11 (0 : Int32) σ τ
          else
            f_L_law_191 L xs (f_L_law_18 L xs n) v3 x10 x11 (1 : Int32) σ τ
        else
          if (x1 &&& (31 : Int32)) = 2 then
            (scA L xs (v3 + (1 : Int32))).bind fun x13 =>
            (scA L xs (v3 + (2 : Int32))).bind fun x14 =>
            (f_X5_poison x13 x14 σ).bind fun q15 =>
            (scA L xs (v3 + (1 : Int32))).bind fun x16 =>
            (scA L xs (v3 + (2 : Int32))).bind fun x17 =>
            (f_X6_poison x16 x17 τ).bind fun q18 =>
            if q15.1 = q18.1 then
              f_L_law_693 L xs (f_L_law_18 L xs n) v3 q15.2 q18.2
            else
              some (0 : Int32)
          else
            if (x1 &&& (31 : Int32)) = 3 then
              (scA L xs (v3 + (1 : Int32))).bind fun x19 =>
              (scA L xs (v3 + (2 : Int32))).bind fun x20 =>
              if x20 = 0 then
                f_L_law_278 L xs (f_L_law_18 L xs n) v3 x19 (0 : Int32) σ τ
              else
                f_L_law_278 L xs (f_L_law_18 L xs n) v3 x19 (1 : Int32) σ τ
            else
              if (x1 &&& (31 : Int32)) = 4 then
                (scA L xs (v3 + (1 : Int32))).bind fun x21 =>
                (f_X5_step x21 σ).bind fun q22 =>
                (scA L xs (v3 + (1 : Int32))).bind fun x23 =>
                (f_X6_step x23 τ).bind fun q24 =>
                if q22.1 = q24.1 then
                  f_L_law_693 L xs (f_L_law_18 L xs n) v3 q22.2 q24.2
                else
                  some (0 : Int32)
              else
                if (x1 &&& (31 : Int32)) = 5 then
                  (scA L xs (v3 + (1 : Int32))).bind fun x25 =>
                  (f_X5_fail x25 σ).bind fun q26 =>
                  (scA L xs (v3 + (1 : Int32))).bind fun x27 =>
                  (f_X6_fail x27 τ).bind fun q28 =>
                  if q26.1 = q28.1 then
                    f_L_law_693 L xs (f_L_law_18 L xs n) v3 q26.2 q28.2
                  else
                    some (0 : Int32)
                else
                  if (x1 &&& (31 : Int32)) = 6 then
                    (scA L xs (v3 + (1 : Int32))).bind fun x29 =>
                    (f_X5_gone x29 σ).bind fun q30 =>
                    (scA L xs (v3 + (1 : Int32))).bind fun x31 =>
                    (f_X6_gone x31 τ).bind fun q32 =>
                    if q30.1 = q32.1 then
                      f_L_law_693 L xs (f_L_law_18 L xs n) v3 q30.2 q32.2
                    else
                      some (0 : Int32)
                  else
                    if (x1 &&& (31 : Int32)) = 7 then
                      (scA L xs (v3 + (1 : Int32))).bind fun x33 =>
                      (f_X5_lose x33 σ).bind fun q34 =>
                      (scA L xs (v3 + (1 : Int32))).bind fun x35 =>
                      (f_X6_lose x35 τ).bind fun q36 =>
                      if q34.1 = q36.1 then
                        f_L_law_693 L xs (f_L_law_18 L xs n) v3 q34.2 q36.2
                      else
                        some (0 : Int32)
                    else
                      if (x1 &&& (31 : Int32)) = 8 then
                        (scA L xs (v3 + (1 : Int32))).bind fun x37 =>
                        (f_X5_tick x37 σ).bind fun q38 =>
                        (scA L xs (v3 + (1 : Int32))).bind fun x39 =>
                        (f_X6_tick x39 τ).bind fun q40 =>
                        if q38.1 = q40.1 then
                          f_L_law_693 L xs (f_L_law_18 L xs n) v3 q38.2 q40.2
                        else
                          some (0 : Int32)
                      else
                        if (x1 &&& (31 : Int32)) = 9 then
                          (f_X5_mark σ).bind fun q41 =>
                          (f_X6_mark τ).bind fun q42 =>
                          if q41.1 = q42.1 then
                            f_L_law_693 L xs (f_L_law_18 L xs n) v3 q41.2 q42.2
                          else
                            some (0 : Int32)
                        else
                          if (x1 &&& (31 : Int32)) = 10 then
                            (scA L xs (v3 + (1 : Int32))).bind fun x43 =>
                            (f_X5_region x43 σ).bind fun q44 =>
                            (scA L xs (v3 + (1 : Int32))).bind fun x45 =>
                            (f_X6_region x45 τ).bind fun q46 =>
                            if q44.1 = q46.1 then
                              f_L_law_693 L xs (f_L_law_18 L xs n) v3 q44.2 q46.2
                            else
                              some (0 : Int32)
                          else
                            if (x1 &&& (31 : Int32)) = 11 then
                              (scA L xs (v3 + (1 : Int32))).bind fun x47 =>
                              (scA L xs (v3 + (2 : Int32))).bind fun x48 =>
                              (f_X5_taskAt x47 x48 σ).bind fun q49 =>
                              (scA L xs (v3 + (1 : Int32))).bind fun x50 =>
                              (scA L xs (v3 + (2 : Int32))).bind fun x51 =>
                              (f_X6_taskAt x50 x51 τ).bind fun q52 =>
                              if q49.1 = q52.1 then
                                f_L_law_693 L xs (f_L_law_18 L xs n) v3 q49.2 q52.2
                              else
                                some (0 : Int32)
                            else
                              if (x1 &&& (31 : Int32)) = 12 then
                                (scA L xs (v3 + (1 : Int32))).bind fun x53 =>
                                (scA L xs (v3 + (2 : Int32))).bind fun x54 =>
                                (f_X5_channelAt x53 x54 σ).bind fun q55 =>
                                (scA L xs (v3 + (1 : Int32))).bind fun x56 =>
                                (scA L xs (v3 + (2 : Int32))).bind fun x57 =>
                                (f_X6_channelAt x56 x57 τ).bind fun q58 =>
                                if q55.1 = q58.1 then
                                  f_L_law_693 L xs (f_L_law_18 L xs n) v3 q55.2 q58.2
                                else
                                  some (0 : Int32)
                              else
                                if (x1 &&& (31 : Int32)) = 13 then
                                  (scA L xs (v3 + (1 : Int32))).bind fun x59 =>
                                  (scA L xs (v3 + (2 : Int32))).bind fun x60 =>
                                  (f_X5_row x59 x60 σ).bind fun q61 =>
                                  (scA L xs (v3 + (1 : Int32))).bind fun x62 =>
                                  (scA L xs (v3 + (2 : Int32))).bind fun x63 =>
                                  (f_X6_row x62 x63 τ).bind fun q64 =>
                                  if q61.1 = q64.1 then
                                    f_L_law_693 L xs (f_L_law_18 L xs n) v3 q61.2 q64.2
                                  else
                                    some (0 : Int32)
                                else
                                  if (x1 &&& (31 : Int32)) = 14 then
                                    (scA L xs (v3 + (1 : Int32))).bind fun x65 =>
                                    (scA L xs (v3 + (2 : Int32))).bind fun x66 =>
                                    (f_X5_out x65 x66 σ).bind fun q67 =>
                                    (scA L xs (v3 + (1 : Int32))).bind fun x68 =>
                                    (scA L xs (v3 + (2 : Int32))).bind fun x69 =>
                                    (f_X6_out x68 x69 τ).bind fun q70 =>
                                    if q67.1 = q70.1 then
                                      f_L_law_693 L xs (f_L_law_18 L xs n) v3 q67.2 q70.2
                                    else
                                      some (0 : Int32)
                                  else
                                    if (x1 &&& (31 : Int32)) = 15 then
                                      (scA L xs (v3 + (1 : Int32))).bind fun x71 =>
                                      (scA L xs (v3 + (2 : Int32))).bind fun x72 =>
                                      (f_X5_aside x71 x72 σ).bind fun q73 =>
                                      (scA L xs (v3 + (1 : Int32))).bind fun x74 =>
                                      (scA L xs (v3 + (2 : Int32))).bind fun x75 =>
                                      (f_X6_aside x74 x75 τ).bind fun q76 =>
                                      if q73.1 = q76.1 then
                                        f_L_law_693 L xs (f_L_law_18 L xs n) v3 q73.2 q76.2
                                      else
                                        some (0 : Int32)
                                    else
                                      if (x1 &&& (31 : Int32)) = 16 then
                                        (scA L xs (v3 + (1 : Int32))).bind fun x77 =>
                                        (scA L xs (v3 + (2 : Int32))).bind fun x78 =>
                                        (f_X5_cause x77 x78 σ).bind fun q79 =>
                                        (scA L xs (v3 + (1 : Int32))).bind fun x80 =>
                                        (scA L xs (v3 + (2 : Int32))).bind fun x81 =>
                                        (f_X6_cause x80 x81 τ).bind fun q82 =>
                                        if q79.1 = q82.1 then
                                          f_L_law_693 L xs (f_L_law_18 L xs n) v3 q79.2 q82.2
                                        else
                                          some (0 : Int32)
                                      else
                                        if (x1 &&& (31 : Int32)) = 17 then
                                          (scA L xs (v3 + (1 : Int32))).bind fun x83 =>
                                          (f_X5_told x83 σ).bind fun q84 =>
                                          (scA L xs (v3 + (1 : Int32))).bind fun x85 =>
                                          (f_X6_told x85 τ).bind fun q86 =>
                                          if q84.1 = q86.1 then
                                            f_L_law_693 L xs (f_L_law_18 L xs n) v3 q84.2 q86.2
                                          else
                                            some (0 : Int32)
                                        else
                                          if (x1 &&& (31 : Int32)) = 18 then
                                            (f_X5_clear σ).bind fun q87 =>
                                            (f_X6_clear τ).bind fun q88 =>
                                            if q87.1 = q88.1 then
                                              f_L_law_693 L xs (f_L_law_18 L xs n) v3 q87.2 q88.2
                                            else
                                              some (0 : Int32)
                                          else
                                            f_L_law_693 L xs (f_L_law_18 L xs n) v3 σ τ
