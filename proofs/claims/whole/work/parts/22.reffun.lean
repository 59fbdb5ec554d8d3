def L_Mod_added_65 (x5 : Int32) (x10 : Int32) : Nat → Int32 → Option (Int32)
  | 0, _ => none
  | n + 1, x13 =>
    if (jrem (x13 * x10) 43) = (jrem x5 43) then
      some x13
    else
      jlet (x13 + 1) fun x15 =>
      L_Mod_added_65 x5 x10 n x15

def f_Mod_added (p0 : Int32) : Option (Int32) :=
  jlet (p0 / 64) fun x1 =>
  jlet (jrem p0 64) fun x2 =>
  Option.bind (α := Int32) (
    if ¬ x1 = 2 then
      some ((x2 - 12) + 43)
    else
      if ¬ x2 = 12 then
        some ((x2 - 12) + 43)
      else
        some ((3 * x1) * x1)) fun x5 =>
  Option.bind (α := Int32) (
    if ¬ x1 = 2 then
      some ((x1 - 2) + 43)
    else
      if ¬ x2 = 12 then
        some ((x1 - 2) + 43)
      else
        some (2 * x2)) fun x10 =>
  Option.bind (L_Mod_added_65 x5 x10 jF 0) fun x17 =>
  jlet (jrem ((((x17 * x17) - x1) - 2) + 86) 43) fun x19 =>
  jlet (jrem (((x17 * ((x1 - x19) + 43)) - x2) + 43) 43) fun x20 =>
  some ((64 * x19) + x20)

def f_Mod_thrown (s : jS) : Option (Int32) :=
  some (s 0 0)

def f_Mod_field (p0 : Int32) (s : jS) : Option (jS) :=
  Option.bind (α := Int32) (
    if p0 < 0 then
      some 1
    else
      if p0 ≤ 2 then
        some 0
      else
        some 1) fun x3 =>
  jlet (va_up s 0 (fun _ => x3)) fun s6 =>
  if (s6 0 0) ≤ 0 then
    jlet (va_up s6 1 (fun _ => p0)) fun s9 =>
    jlet (va_up s9 2 (fun _ => 0)) fun s11 =>
    some s11
  else
    some s6

def f_Mod_order (p0 : Int32) : Option (Int32) :=
  Option.bind (α := Int32) (
    if ¬ p0 = 0 then
      if ¬ p0 = 1 then
        some 31
      else
        some 1019
    else
      some 256) fun x3 =>
  some x3

def f_Mod_isElement (p0 : Int32) (p1 : Int32) : Option (Int32) :=
  Option.bind (α := Int32) (
    if p1 < 0 then
      some 0
    else
      Option.bind (f_Mod_order p0) fun x2 =>
      if x2 ≤ p1 then
        some 0
      else
        some 1) fun x5 =>
  if jbo x5 then
  some x5
  else none

def L_Mod_point_51 (p0 : Int32) : Nat → Int32 → jS → Option (Int32 × jS)
  | 0, _, _ => none
  | n + 1, x14, s15 =>
    if (s15 2 0) ≤ x14 then
      some (x14, s15)
    else
      if ¬ (s15 0 0) = 0 then
        some (x14, s15)
      else
        if jin x14 12 then
        Option.bind (α := Int32) (
          if ¬ (s15 3 x14.toNatClampNeg) = p0 then
            some 0
          else
            some 2) fun x20 =>
        jlet (va_up s15 0 (fun _ => x20)) fun s23 =>
        jlet (x14 + 1) fun x25 =>
        L_Mod_point_51 p0 n x25 s23
        else none

def f_Mod_point (p0 : Int32) (p1 : Int32) (s : jS) : Option (Int32 × jS) :=
  Option.bind (α := Int32) (
    if p0 < 1 then
      some 1
    else
      Option.bind (f_Mod_isElement (s 1 0) p0) fun x2 =>
      if x2 = 0 then
        some 1
      else
        Option.bind (f_Mod_isElement (s 1 0) p1) fun x5 =>
        if ¬ x5 = 0 then
          if ¬ (s 2 0) = 12 then
            some 0
          else
            some 2
        else
          some 1) fun x9 =>
  jlet (va_up s 0 (fun _ => x9)) fun s12 =>
  Option.bind (L_Mod_point_51 p0 jF 0 s12) fun (x27, s28) =>
  if (s28 0 0) ≤ 0 then
    if jin (s28 2 0) 12 then
    jlet (va_up s28 3 (upd (s28 3) (s28 2 0).toNatClampNeg p0)) fun s31 =>
    if jin (s31 2 0) 12 then
    jlet (va_up s31 4 (upd (s31 4) (s31 2 0).toNatClampNeg p1)) fun s34 =>
    jlet (va_up s34 2 (fun _ => (s34 2 0) + 1)) fun s37 =>
    some (s37 2 0, s37)
    else none
    else none
  else
    some (0, s28)

def f_Mod_less (p0 : Int32) (p1 : Int32) (p2 : Int32) : Option (Int32) :=
  Option.bind (α := Int32) (
    if ¬ p0 = 0 then
      Option.bind (f_Mod_order p0) fun x2 =>
      Option.bind (f_Mod_order p0) fun x4 =>
      if ¬ x4 = 0 then
      some (jrem ((p1 - p2) + x2) x4)
      else none
    else
      some (p1 ^^^ p2)) fun x7 =>
  some x7

def L_Mod_times_19 (p1 : Int32) (p2 : Int32) : Nat → Int32 → Int32 → Option (Int32 × Int32)
  | 0, _, _ => none
  | n + 1, x2, x3 =>
    if x3 < 0 then
      some (x2, x3)
    else
      Option.bind (α := Int32) (
        if (x2 &&& 128) = 0 then
          some (x2 <<< (1 &&& 31))
        else
          some ((x2 <<< (1 &&& 31)) ^^^ 283)) fun x6 =>
      Option.bind (α := Int32) (
        if ¬ ((p2 >>> (x3 &&& 31)) &&& 1) = 1 then
          some x6
        else
          some (x6 ^^^ p1)) fun x10 =>
      jlet (x3 + (-1)) fun x13 =>
      L_Mod_times_19 p1 p2 n x10 x13

def f_Mod_times (p0 : Int32) (p1 : Int32) (p2 : Int32) : Option (Int32) :=
  if p0 ≤ 0 then
    Option.bind (L_Mod_times_19 p1 p2 jF 0 7) fun (x15, x16) =>
    some x15
  else
    Option.bind (f_Mod_order p0) fun x18 =>
    if ¬ x18 = 0 then
    some (jrem (p1 * p2) x18)
    else none

def L_Mod_over_2 (p0 : Int32) (p1 : Int32) (p2 : Int32) : Nat → Int32 → Option (Int32)
  | 0, _ => none
  | n + 1, x1 =>
    Option.bind (f_Mod_times p0 x1 p2) fun x2 =>
    if x2 = p1 then
      some x1
    else
      jlet (x1 + 1) fun x5 =>
      L_Mod_over_2 p0 p1 p2 n x5

def f_Mod_over (p0 : Int32) (p1 : Int32) (p2 : Int32) : Option (Int32) :=
  Option.bind (L_Mod_over_2 p0 p1 p2 jF 0) fun x7 =>
  some x7

def L_Mod_divide_45 (x13 : Int32) : Nat → Int32 → jS → Option (Int32 × jS)
  | 0, _, _ => none
  | n + 1, x17, s18 =>
    if x17 < x13 then
      some (x17, s18)
    else
      if jin x17 12 then
      if jin (x17 - 1) 12 then
      Option.bind (f_Mod_less (s18 1 0) (s18 5 x17.toNatClampNeg) (s18 5 (x17 - 1).toNatClampNeg)) fun x22 =>
      if jin x17 12 then
      if jin (x17 - x13) 12 then
      Option.bind (f_Mod_less (s18 1 0) (s18 3 x17.toNatClampNeg) (s18 3 (x17 - x13).toNatClampNeg)) fun x26 =>
      Option.bind (f_Mod_over (s18 1 0) x22 x26) fun x28 =>
      if jin x17 12 then
      jlet (va_up s18 5 (upd (s18 5) x17.toNatClampNeg x28)) fun s30 =>
      jlet (x17 + (-1)) fun x33 =>
      L_Mod_divide_45 x13 n x33 s30
      else none
      else none
      else none
      else none
      else none

def L_Mod_divide_30 : Nat → Int32 → jS → Option (Int32 × jS)
  | 0, _, _ => none
  | n + 1, x13, s14 =>
    if (s14 2 0) ≤ x13 then
      some (x13, s14)
    else
      jlet ((s14 2 0) - 1) fun x16 =>
      Option.bind (L_Mod_divide_45 x13 jF x16 s14) fun (x35, s36) =>
      jlet (x13 + 1) fun x38 =>
      L_Mod_divide_30 n x38 s36

def L_Mod_divide_2 : Nat → Int32 → jS → Option (Int32 × jS)
  | 0, _, _ => none
  | n + 1, x1, s2 =>
    if (s2 2 0) ≤ x1 then
      some (x1, s2)
    else
      if jin x1 12 then
      if jin x1 12 then
      jlet (va_up s2 5 (upd (s2 5) x1.toNatClampNeg (s2 4 x1.toNatClampNeg))) fun s5 =>
      jlet (x1 + 1) fun x8 =>
      L_Mod_divide_2 n x8 s5
      else none
      else none

def f_Mod_divide (s : jS) : Option (jS) :=
  Option.bind (L_Mod_divide_2 jF 0 s) fun (x10, s11) =>
  Option.bind (L_Mod_divide_30 jF 1 s11) fun (x41, s42) =>
  some s42

def f_Mod_plus (p0 : Int32) (p1 : Int32) (p2 : Int32) : Option (Int32) :=
  Option.bind (α := Int32) (
    if ¬ p0 = 0 then
      Option.bind (f_Mod_order p0) fun x2 =>
      if ¬ x2 = 0 then
      some (jrem (p1 + p2) x2)
      else none
    else
      some (p1 ^^^ p2)) fun x5 =>
  some x5

def L_Mod_combine_53 (p0 : Int32) (s11 : jS) : Nat → Int32 → Int32 → Option (Int32 × Int32)
  | 0, _, _ => none
  | n + 1, x14, x15 =>
    if x15 < 0 then
      some (x14, x15)
    else
      if jin x15 12 then
      Option.bind (f_Mod_less (s11 1 0) p0 (s11 3 x15.toNatClampNeg)) fun x18 =>
      Option.bind (f_Mod_times (s11 1 0) x14 x18) fun x20 =>
      if jin x15 12 then
      Option.bind (f_Mod_plus (s11 1 0) x20 (s11 5 x15.toNatClampNeg)) fun x23 =>
      jlet (x15 + (-1)) fun x25 =>
      L_Mod_combine_53 p0 s11 n x23 x25
      else none
      else none

def f_Mod_combine (p0 : Int32) (s : jS) : Option (Int32 × jS) :=
  Option.bind (f_Mod_isElement (s 1 0) p0) fun x1 =>
  Option.bind (α := Int32) (
    if ¬ x1 = 0 then
      if ¬ (s 2 0) = 0 then
        some 0
      else
        some 2
    else
      some 1) fun x5 =>
  jlet (va_up s 0 (fun _ => x5)) fun s8 =>
  if (s8 0 0) ≤ 0 then
    Option.bind (f_Mod_divide s8) fun s11 =>
    jlet ((s11 2 0) - 1) fun x13 =>
    Option.bind (L_Mod_combine_53 p0 s11 jF 0 x13) fun (x27, x28) =>
    some (x27, s11)
  else
    some (0, s8)

def L_Mod_degree_14 (s3 : jS) : Nat → Int32 → Option (Int32)
  | 0, _ => none
  | n + 1, x6 =>
    if x6 ≤ 0 then
      some x6
    else
      if jin (x6 - 1) 12 then
      if ¬ (s3 5 (x6 - 1).toNatClampNeg) = 0 then
        some x6
      else
        jlet (x6 + (-1)) fun x10 =>
        L_Mod_degree_14 s3 n x10
      else none

def f_Mod_degree (s : jS) : Option (Int32 × jS) :=
  jlet (va_up s 0 (fun _ => 0)) fun s1 =>
  Option.bind (f_Mod_divide s1) fun s3 =>
  jlet (s3 2 0) fun x5 =>
  Option.bind (L_Mod_degree_14 s3 jF x5) fun x12 =>
  some (x12, s3)

def L_Mod_forget_37 : Nat → Int32 → jS → Option (Int32 × jS)
  | 0, _, _ => none
  | n + 1, x18, s19 =>
    if 7 ≤ x18 then
      some (x18, s19)
    else
      if jin x18 7 then
      jlet (va_up s19 22 (upd (s19 22) x18.toNatClampNeg 8)) fun s21 =>
      jlet (x18 + 1) fun x24 =>
      L_Mod_forget_37 n x24 s21
      else none

def L_Mod_forget_2 : Nat → Int32 → jS → Option (Int32 × jS)
  | 0, _, _ => none
  | n + 1, x1, s2 =>
    if 49 ≤ x1 then
      some (x1, s2)
    else
      if jin x1 49 then
      jlet (va_up s2 19 (upd (s2 19) x1.toNatClampNeg 0)) fun s4 =>
      if jin x1 49 then
      jlet (va_up s4 20 (upd (s4 20) x1.toNatClampNeg 0)) fun s7 =>
      if jin x1 49 then
      jlet (va_up s7 21 (upd (s7 21) x1.toNatClampNeg 0)) fun s10 =>
      jlet (x1 + 1) fun x13 =>
      L_Mod_forget_2 n x13 s10
      else none
      else none
      else none

def f_Mod_forget (s : jS) : Option (jS) :=
  Option.bind (L_Mod_forget_2 jF 0 s) fun (x15, s16) =>
  Option.bind (L_Mod_forget_37 jF 0 s16) fun (x26, s27) =>
  some s27

def L_Mod_begin_150 : Nat → Int32 → jS → Option (Int32 × jS)
  | 0, _, _ => none
  | n + 1, x49, s50 =>
    if 7 ≤ x49 then
      some (x49, s50)
    else
      if jin x49 7 then
      jlet (va_up s50 28 (upd (s50 28) x49.toNatClampNeg 0)) fun s52 =>
      if jin x49 7 then
      jlet (va_up s52 29 (upd (s52 29) x49.toNatClampNeg 0)) fun s55 =>
      jlet (x49 + 1) fun x58 =>
      L_Mod_begin_150 n x58 s55
      else none
      else none

def f_Mod_begin (p0 : Int32) (p1 : Int32) (p2 : Int32) (s : jS) : Option (jS) :=
  Option.bind (α := Int32) (
    if p0 < 0 then
      some 1
    else
      if 1 < p0 then
        some 1
      else
        if p1 < 1 then
          some 1
        else
          if 7 < p1 then
            some 1
          else
            if p2 < 1 then
              some 1
            else
              if p2 ≤ p1 then
                some 0
              else
                some 1) fun x7 =>
  jlet (va_up s 0 (fun _ => x7)) fun s10 =>
  if (s10 0 0) ≤ 0 then
    jlet (va_up s10 9 (fun _ => p0)) fun s13 =>
    Option.bind (α := Int32) (
      if ¬ (s13 9 0) = 0 then
        some 31
      else
        some 1019) fun x16 =>
    jlet (va_up s13 10 (fun _ => x16)) fun s19 =>
    jlet (va_up s19 11 (fun _ => p1)) fun s21 =>
    jlet (va_up s21 12 (fun _ => p2)) fun s23 =>
    jlet (va_up s23 13 (fun _ => s23 11 0)) fun s25 =>
    jlet (va_up s25 14 (fun _ => s25 12 0)) fun s27 =>
    jlet (va_up s27 15 (fun _ => 1)) fun s29 =>
    jlet (va_up s29 16 (fun _ => 0)) fun s31 =>
    jlet (va_up s31 17 (fun _ => 0)) fun s33 =>
    jlet (va_up s33 18 (fun _ => 0)) fun s35 =>
    jlet (va_up s35 40 (fun _ => 0)) fun s37 =>
    jlet (va_up s37 23 (fun _ => 0)) fun s39 =>
    jlet (va_up s39 24 (fun _ => 0)) fun s41 =>
    jlet (va_up s41 25 (fun _ => 0)) fun s43 =>
    jlet (va_up s43 26 (fun _ => 0)) fun s45 =>
    jlet (va_up s45 27 (fun _ => 0)) fun s47 =>
    Option.bind (L_Mod_begin_150 jF 0 s47) fun (x60, s61) =>
    Option.bind (f_Mod_forget s61) fun s63 =>
    some s63
  else
    some s10

def f_Mod_isParty (p0 : Int32) (s : jS) : Option (Int32) :=
  Option.bind (α := Int32) (
    if (s 15 0) = 0 then
      some 0
    else
      if p0 < 1 then
        some 0
      else
        if (s 11 0) < p0 then
          some 0
        else
          some 1) fun x4 =>
  if jbo x4 then
  some x4
  else none

def f_Mod_give (p0 : Int32) (p1 : Int32) (p2 : Int32) (p3 : Int32) (s : jS) : Option (jS) :=
  Option.bind (α := Int32) (
    if (s 15 0) = 0 then
      some 1
    else
      if (s 18 0) ≤ 0 then
        Option.bind (f_Mod_isParty p0 s) fun x3 =>
        if x3 = 0 then
          some 2
        else
          if p1 < 0 then
            some 2
          else
            if (s 12 0) ≤ p1 then
              some 2
            else
              if p2 < 0 then
                some 2
              else
                if p2 ≤ 1 then
                  some 0
                else
                  some 2
      else
        if ¬ (s 16 0) = 0 then
          Option.bind (f_Mod_isParty p0 s) fun x11 =>
          if x11 = 0 then
            some 2
          else
            if p1 < 0 then
              some 2
            else
              if (s 12 0) ≤ p1 then
                some 2
              else
                if p2 < 0 then
                  some 2
                else
                  if p2 ≤ 1 then
                    some 0
                  else
                    some 2
        else
          if ¬ (s 17 0) = 0 then
            Option.bind (f_Mod_isParty p0 s) fun x19 =>
            if x19 = 0 then
              some 2
            else
              if p1 < 0 then
                some 2
              else
                if (s 12 0) ≤ p1 then
                  some 2
                else
                  if p2 < 0 then
                    some 2
                  else
                    if p2 ≤ 1 then
                      some 0
                    else
                      some 2
          else
            some 1) fun x26 =>
  jlet (va_up s 0 (fun _ => x26)) fun s29 =>
  if (s29 0 0) ≤ 0 then
    if ¬ (s29 10 0) = 0 then
    jlet (jrem p3 (s29 10 0)) fun x33 =>
    Option.bind (α := Int32) (
      if 0 ≤ x33 then
        some x33
      else
        some (x33 + (s29 10 0))) fun x35 =>
    Option.bind (α := jS) (
      if ¬ p2 = 0 then
        if jin (((7 * p0) - 7) + p1) 49 then
        jlet (va_up s29 20 (upd (s29 20) (((7 * p0) - 7) + p1).toNatClampNeg x35)) fun s39 =>
        some s39
        else none
      else
        if jin (((7 * p0) - 7) + p1) 49 then
        jlet (va_up s29 19 (upd (s29 19) (((7 * p0) - 7) + p1).toNatClampNeg x35)) fun s42 =>
        some s42
        else none) fun s45 =>
    some s45
    else none
  else
    some s29

def f_Mod_fault (p0 : Int32) (p1 : Int32) (p2 : Int32) (s : jS) : Option (jS) :=
  Option.bind (α := Int32) (
    if p1 = 1 then
      some 1
    else
      if ¬ p1 = 2 then
        some 0
      else
        some 1) fun x3 =>
  Option.bind (α := Int32) (
    if (s 15 0) = 0 then
      some 1
    else
      if (s 18 0) ≤ 0 then
        if p1 < 0 then
          some 2
        else
          if 6 < p1 then
            some 2
          else
            Option.bind (f_Mod_isParty p0 s) fun x10 =>
            if x10 = 0 then
              some 2
            else
              if x3 = 0 then
                some 0
              else
                Option.bind (f_Mod_isParty p2 s) fun x14 =>
                if x14 = 0 then
                  some 2
                else
                  if ¬ p2 = p0 then
                    some 0
                  else
                    some 2
      else
        some 1) fun x18 =>
  jlet (va_up s 0 (fun _ => x18)) fun s21 =>
  Option.bind (α := jS) (
    if ¬ (s21 0 0) = 0 then
      some s21
    else
      Option.bind (α := Int32) (
        if x3 = 0 then
          some 1
        else
          some p2) fun x25 =>
      if jin (((7 * p1) + p0) - 1) 49 then
      jlet (va_up s21 21 (upd (s21 21) (((7 * p1) + p0) - 1).toNatClampNeg x25)) fun s28 =>
      some s28
      else none) fun s31 =>
  some s31

def f_Mod_crash (p0 : Int32) (p1 : Int32) (s : jS) : Option (jS) :=
  Option.bind (α := Int32) (
    if (s 15 0) = 0 then
      some 1
    else
      if (s 18 0) ≤ 0 then
        Option.bind (f_Mod_isParty p0 s) fun x3 =>
        if x3 = 0 then
          some 2
        else
          if p1 < 1 then
            some 2
          else
            if p1 ≤ 8 then
              some 0
            else
              some 2
      else
        some 1) fun x8 =>
  jlet (va_up s 0 (fun _ => x8)) fun s11 =>
  Option.bind (α := jS) (
    if ¬ (s11 0 0) = 0 then
      some s11
    else
      if jin (p0 - 1) 7 then
      jlet (va_up s11 22 (upd (s11 22) (p0 - 1).toNatClampNeg p1)) fun s14 =>
      some s14
      else none) fun s17 =>
  some s17

def f_Mod_works (p0 : Int32) (p1 : Int32) (s : jS) : Option (Int32) :=
  if jin (p0 - 1) 7 then
  Option.bind (α := Int32) (
    if (s 22 (p0 - 1).toNatClampNeg) = 8 then
      some 1
    else
      if jin (p0 - 1) 7 then
      if (s 22 (p0 - 1).toNatClampNeg) ≤ p1 then
        some 0
      else
        some 1
      else none) fun x5 =>
  if jbo x5 then
  some x5
  else none
  else none

def f_Mod_is (p0 : Int32) (p1 : Int32) (s : jS) : Option (Int32) :=
  if jin (((7 * p1) + p0) - 1) 49 then
  Option.bind (α := Int32) (
    if (s 21 (((7 * p1) + p0) - 1).toNatClampNeg) ≤ 0 then
      some 0
    else
      some 1) fun x3 =>
  if jbo x3 then
  some x3
  else none
  else none

def f_Mod_show (p0 : Int32) (s : jS) : Option (jS) :=
  if jin (s 40 0) 1100 then
  jlet (va_up s 41 (upd (s 41) (s 40 0).toNatClampNeg p0)) fun s1 =>
  jlet (va_up s1 40 (fun _ => (s1 40 0) + 1)) fun s4 =>
  some s4
  else none

def f_Mod_element (p0 : Int32) (s : jS) : Option (Int32) :=
  Option.bind (α := Int32) (
    if ¬ (s 9 0) = 0 then
      if jin p0 31 then
      some (s 7 p0.toNatClampNeg)
      else none
    else
      if jin p0 1019 then
      some (s 6 p0.toNatClampNeg)
      else none) fun x4 =>
  some x4

def f_Mod_showTwo (p0 : Int32) (s : jS) : Option (jS) :=
  Option.bind (f_Mod_show (p0 >>> (8 &&& 31)) s) fun s1 =>
  Option.bind (f_Mod_show (p0 &&& 255) s1) fun s3 =>
  some s3

def f_Mod_at (p0 : Int32) (p1 : Int32) (s : jS) : Option (Int32) :=
  some ((((7 * p0) - 7) + p1) - 1)

def L_Mod_power_5 (p0 : Int32) (p1 : Int32) (s : jS) : Nat → Int32 → Int32 → Option (Int32 × Int32)
  | 0, _, _ => none
  | n + 1, x1, x2 =>
    if p1 ≤ x2 then
      some (x1, x2)
    else
      if ¬ (s 10 0) = 0 then
      jlet (jrem (x1 * p0) (s 10 0)) fun x5 =>
      jlet (x2 + 1) fun x6 =>
      L_Mod_power_5 p0 p1 s n x5 x6
      else none

def f_Mod_power (p0 : Int32) (p1 : Int32) (s : jS) : Option (Int32) :=
  Option.bind (L_Mod_power_5 p0 p1 s jF 1 0) fun (x9, x10) =>
  some x9

def L_Mod_f_5 (p0 : Int32) (p1 : Int32) (s : jS) : Nat → Int32 → Int32 → Option (Int32 × Int32)
  | 0, _, _ => none
  | n + 1, x1, x2 =>
    if (s 12 0) ≤ x2 then
      some (x1, x2)
    else
      if jin (((7 * p0) - 7) + x2) 49 then
      Option.bind (f_Mod_power p1 x2 s) fun x5 =>
      if ¬ (s 10 0) = 0 then
      jlet (jrem (x1 + ((s 19 (((7 * p0) - 7) + x2).toNatClampNeg) * x5)) (s 10 0)) fun x8 =>
      jlet (x2 + 1) fun x9 =>
      L_Mod_f_5 p0 p1 s n x8 x9
      else none
      else none

def f_Mod_f (p0 : Int32) (p1 : Int32) (s : jS) : Option (Int32) :=
  Option.bind (L_Mod_f_5 p0 p1 s jF 0 0) fun (x12, x13) =>
  some x12

def L_Mod_blind_5 (p0 : Int32) (p1 : Int32) (s : jS) : Nat → Int32 → Int32 → Option (Int32 × Int32)
  | 0, _, _ => none
  | n + 1, x1, x2 =>
    if (s 12 0) ≤ x2 then
      some (x1, x2)
    else
      if jin (((7 * p0) - 7) + x2) 49 then
      Option.bind (f_Mod_power p1 x2 s) fun x5 =>
      if ¬ (s 10 0) = 0 then
      jlet (jrem (x1 + ((s 20 (((7 * p0) - 7) + x2).toNatClampNeg) * x5)) (s 10 0)) fun x8 =>
      jlet (x2 + 1) fun x9 =>
      L_Mod_blind_5 p0 p1 s n x8 x9
      else none
      else none

def f_Mod_blind (p0 : Int32) (p1 : Int32) (s : jS) : Option (Int32) :=
  Option.bind (L_Mod_blind_5 p0 p1 s jF 0 0) fun (x12, x13) =>
  some x12

def L_Mod_deal_131 (x1 : Int32) : Nat → Int32 → jS → Option (Int32 × jS)
  | 0, _, _ => none
  | n + 1, x38, s39 =>
    if (s39 11 0) < x38 then
      some (x38, s39)
    else
      Option.bind (f_Mod_at x1 x38 s39) fun x41 =>
      Option.bind (f_Mod_f x1 x38 s39) fun x43 =>
      if jin ((7 + x1) - 1) 49 then
      Option.bind (α := Int32) (
        if ¬ (s39 21 ((7 + x1) - 1).toNatClampNeg) = x38 then
          some 0
        else
          some 1) fun x47 =>
      if ¬ (s39 10 0) = 0 then
      if jin x41 49 then
      jlet (va_up s39 30 (upd (s39 30) x41.toNatClampNeg (jrem (x43 + x47) (s39 10 0)))) fun s51 =>
      Option.bind (f_Mod_at x1 x38 s51) fun x54 =>
      Option.bind (f_Mod_blind x1 x38 s51) fun x56 =>
      if jin x54 49 then
      jlet (va_up s51 31 (upd (s51 31) x54.toNatClampNeg x56)) fun s58 =>
      jlet (x38 + 1) fun x61 =>
      L_Mod_deal_131 x1 n x61 s58
      else none
      else none
      else none
      else none

def L_Mod_deal_57 (x1 : Int32) : Nat → Int32 → jS → Option (Int32 × jS)
  | 0, _, _ => none
  | n + 1, x16, s17 =>
    if (s17 12 0) ≤ x16 then
      some (x16, s17)
    else
      jlet (((7 * x1) - 7) + x16) fun x19 =>
      if jin x19 49 then
      if jin (s17 9 0) 2 then
      if jin x19 49 then
      if ¬ (s17 10 0) = 0 then
      if jin x19 49 then
      jlet (va_up s17 34 (upd (s17 34) x19.toNatClampNeg (jrem ((s17 19 x19.toNatClampNeg) + ((s17 8 (s17 9 0).toNatClampNeg) * (s17 20 x19.toNatClampNeg))) (s17 10 0)))) fun s24 =>
      if jin x19 49 then
      Option.bind (f_Mod_element (s24 34 x19.toNatClampNeg) s24) fun x28 =>
      Option.bind (f_Mod_showTwo x28 s24) fun s30 =>
      jlet (x16 + 1) fun x32 =>
      L_Mod_deal_57 x1 n x32 s30
      else none
      else none
      else none
      else none
      else none
      else none

def L_Mod_deal_2 : Nat → Int32 → jS → Option (Int32 × jS)
  | 0, _, _ => none
  | n + 1, x1, s2 =>
    if (s2 11 0) < x1 then
      some (x1, s2)
    else
      Option.bind (f_Mod_works x1 1 s2) fun x4 =>
      Option.bind (α := jS) (
        if x4 = 0 then
          some s2
        else
          Option.bind (f_Mod_is x1 0 s2) fun x7 =>
          if x7 = 0 then
            jlet (va_up s2 23 (fun _ => (s2 23 0) ||| (1 <<< ((x1 - 1) &&& 31)))) fun s10 =>
            Option.bind (f_Mod_show 1 s10) fun s12 =>
            Option.bind (f_Mod_show x1 s12) fun s14 =>
            Option.bind (L_Mod_deal_57 x1 jF 0 s14) fun (x35, s36) =>
            Option.bind (L_Mod_deal_131 x1 jF 1 s36) fun (x63, s64) =>
            some s64
          else
            some s2) fun s66 =>
      jlet (x1 + 1) fun x69 =>
      L_Mod_deal_2 n x69 s66

def f_Mod_deal (s : jS) : Option (jS) :=
  Option.bind (L_Mod_deal_2 jF 1 s) fun (x71, s72) =>
  some s72

def f_Mod_in (p0 : Int32) (p1 : Int32) : Option (Int32) :=
  Option.bind (α := Int32) (
    if ¬ ((p0 >>> ((p1 - 1) &&& 31)) &&& 1) = 1 then
      some 0
    else
      some 1) fun x2 =>
  if jbo x2 then
  some x2
  else none

def L_Mod_fits_6 (p0 : Int32) (p1 : Int32) (s : jS) : Nat → Int32 → Int32 → Option (Int32 × Int32)
  | 0, _, _ => none
  | n + 1, x1, x2 =>
    if (s 12 0) ≤ x2 then
      some (x1, x2)
    else
      if jin (((7 * p0) - 7) + x2) 49 then
      Option.bind (f_Mod_power p1 x2 s) fun x5 =>
      if ¬ (s 10 0) = 0 then
      jlet (jrem (x1 + ((s 34 (((7 * p0) - 7) + x2).toNatClampNeg) * x5)) (s 10 0)) fun x8 =>
      jlet (x2 + 1) fun x9 =>
      L_Mod_fits_6 p0 p1 s n x8 x9
      else none
      else none

def f_Mod_fits (p0 : Int32) (p1 : Int32) (p2 : Int32) (p3 : Int32) (s : jS) : Option (Int32) :=
  Option.bind (L_Mod_fits_6 p0 p1 s jF 0 0) fun (x12, x13) =>
  if jin (s 9 0) 2 then
  if ¬ (s 10 0) = 0 then
  Option.bind (α := Int32) (
    if ¬ (jrem (p2 + ((s 8 (s 9 0).toNatClampNeg) * p3)) (s 10 0)) = x12 then
      some 0
    else
      some 1) fun x18 =>
  if jbo x18 then
  some x18
  else none
  else none
  else none

def L_Mod_complain_12 (x1 : Int32) : Nat → Int32 → jS → Option (Int32 × jS)
  | 0, _, _ => none
  | n + 1, x4, s5 =>
    if (s5 11 0) < x4 then
      some (x4, s5)
    else
      Option.bind (f_Mod_works x1 2 s5) fun x7 =>
      if x7 = 0 then
        some (x4, s5)
      else
        Option.bind (f_Mod_in (s5 23 0) x4) fun x10 =>
        Option.bind (α := jS) (
          if x10 = 0 then
            some s5
          else
            Option.bind (f_Mod_at x4 x1 s5) fun x13 =>
            if jin x13 49 then
            Option.bind (f_Mod_at x4 x1 s5) fun x16 =>
            if jin x16 49 then
            Option.bind (f_Mod_fits x4 x1 (s5 30 x13.toNatClampNeg) (s5 31 x16.toNatClampNeg) s5) fun x19 =>
            if x19 = 0 then
              if jin (x4 - 1) 7 then
              if jin (x4 - 1) 7 then
              jlet (va_up s5 28 (upd (s5 28) (x4 - 1).toNatClampNeg ((s5 28 (x4 - 1).toNatClampNeg) ||| (1 <<< ((x1 - 1) &&& 31))))) fun s23 =>
              Option.bind (f_Mod_show 2 s23) fun s26 =>
              Option.bind (f_Mod_show x1 s26) fun s28 =>
              Option.bind (f_Mod_show x4 s28) fun s30 =>
              some s30
              else none
              else none
            else
              if jin ((14 + x1) - 1) 49 then
              if (s5 21 ((14 + x1) - 1).toNatClampNeg) = x4 then
                if jin (x4 - 1) 7 then
                if jin (x4 - 1) 7 then
                jlet (va_up s5 28 (upd (s5 28) (x4 - 1).toNatClampNeg ((s5 28 (x4 - 1).toNatClampNeg) ||| (1 <<< ((x1 - 1) &&& 31))))) fun s35 =>
                Option.bind (f_Mod_show 2 s35) fun s38 =>
                Option.bind (f_Mod_show x1 s38) fun s40 =>
                Option.bind (f_Mod_show x4 s40) fun s42 =>
                some s42
                else none
                else none
              else
                some s5
              else none
            else none
            else none) fun s44 =>
        jlet (x4 + 1) fun x47 =>
        L_Mod_complain_12 x1 n x47 s44

def L_Mod_complain_2 : Nat → Int32 → jS → Option (Int32 × jS)
  | 0, _, _ => none
  | n + 1, x1, s2 =>
    if (s2 11 0) < x1 then
      some (x1, s2)
    else
      Option.bind (L_Mod_complain_12 x1 jF 1 s2) fun (x49, s50) =>
      jlet (x1 + 1) fun x52 =>
      L_Mod_complain_2 n x52 s50

def f_Mod_complain (s : jS) : Option (jS) :=
  Option.bind (L_Mod_complain_2 jF 1 s) fun (x54, s55) =>
  some s55

def f_Mod_showNumbers (p0 : Int32) (p1 : Int32) (p2 : Int32) (p3 : Int32) (p4 : Int32) (s : jS) : Option (jS) :=
  Option.bind (f_Mod_show p0 s) fun s1 =>
  Option.bind (f_Mod_show p1 s1) fun s3 =>
  Option.bind (f_Mod_show p2 s3) fun s5 =>
  Option.bind (f_Mod_showTwo p3 s5) fun s7 =>
  Option.bind (f_Mod_showTwo p4 s7) fun s9 =>
  some s9

def L_Mod_answer_12 (x1 : Int32) : Nat → Int32 → jS → Option (Int32 × jS)
  | 0, _, _ => none
  | n + 1, x4, s5 =>
    if (s5 11 0) < x4 then
      some (x4, s5)
    else
      Option.bind (f_Mod_works x1 3 s5) fun x7 =>
      if x7 = 0 then
        some (x4, s5)
      else
        Option.bind (f_Mod_is x1 3 s5) fun x10 =>
        if ¬ x10 = 0 then
          some (x4, s5)
        else
          if jin (x1 - 1) 7 then
          Option.bind (f_Mod_in (s5 28 (x1 - 1).toNatClampNeg) x4) fun x14 =>
          Option.bind (α := jS) (
            if ¬ x14 = 0 then
              if jin (x1 - 1) 7 then
              if jin (x1 - 1) 7 then
              jlet (va_up s5 29 (upd (s5 29) (x1 - 1).toNatClampNeg ((s5 29 (x1 - 1).toNatClampNeg) ||| (1 <<< ((x4 - 1) &&& 31))))) fun s18 =>
              Option.bind (f_Mod_at x1 x4 s18) fun x21 =>
              Option.bind (f_Mod_f x1 x4 s18) fun x23 =>
              Option.bind (f_Mod_is x1 4 s18) fun x25 =>
              Option.bind (α := Int32) (
                if x25 = 0 then
                  some 0
                else
                  some 1) fun x28 =>
              if ¬ (s18 10 0) = 0 then
              if jin x21 49 then
              jlet (va_up s18 32 (upd (s18 32) x21.toNatClampNeg (jrem (x23 + x28) (s18 10 0)))) fun s32 =>
              Option.bind (f_Mod_at x1 x4 s32) fun x35 =>
              Option.bind (f_Mod_blind x1 x4 s32) fun x37 =>
              if jin x35 49 then
              jlet (va_up s32 33 (upd (s32 33) x35.toNatClampNeg x37)) fun s39 =>
              Option.bind (f_Mod_at x1 x4 s39) fun x42 =>
              if jin x42 49 then
              Option.bind (f_Mod_at x1 x4 s39) fun x45 =>
              if jin x45 49 then
              Option.bind (f_Mod_showNumbers 3 x1 x4 (s39 32 x42.toNatClampNeg) (s39 33 x45.toNatClampNeg) s39) fun s48 =>
              some s48
              else none
              else none
              else none
              else none
              else none
              else none
              else none
            else
              some s5) fun s50 =>
          jlet (x4 + 1) fun x53 =>
          L_Mod_answer_12 x1 n x53 s50
          else none

def L_Mod_answer_2 : Nat → Int32 → jS → Option (Int32 × jS)
  | 0, _, _ => none
  | n + 1, x1, s2 =>
    if (s2 11 0) < x1 then
      some (x1, s2)
    else
      Option.bind (L_Mod_answer_12 x1 jF 1 s2) fun (x55, s56) =>
      jlet (x1 + 1) fun x58 =>
      L_Mod_answer_2 n x58 s56

def f_Mod_answer (s : jS) : Option (jS) :=
  Option.bind (L_Mod_answer_2 jF 1 s) fun (x60, s61) =>
  some s61

def L_Mod_bits_4 (p0 : Int32) : Nat → Int32 → Int32 → Option (Int32 × Int32)
  | 0, _, _ => none
  | n + 1, x1, x2 =>
    if 8 ≤ x2 then
      some (x1, x2)
    else
      Option.bind (f_Mod_in p0 x2) fun x4 =>
      Option.bind (α := Int32) (
        if x4 = 0 then
          some 0
        else
          some 1) fun x7 =>
      jlet (x1 + x7) fun x10 =>
      jlet (x2 + 1) fun x11 =>
      L_Mod_bits_4 p0 n x10 x11

def f_Mod_bits (p0 : Int32) : Option (Int32) :=
  Option.bind (L_Mod_bits_4 p0 jF 0 1) fun (x14, x15) =>
  some x14

def L_Mod_judge_241 (x75 : Int32) : Nat → Int32 → jS → Option (Int32 × jS)
  | 0, _, _ => none
  | n + 1, x84, s85 =>
    if (s85 11 0) < x84 then
      some (x84, s85)
    else
      Option.bind (f_Mod_in (s85 25 0) x84) fun x87 =>
      Option.bind (α := jS) (
        if ¬ x87 = 0 then
          if jin (x75 - 1) 7 then
          Option.bind (f_Mod_at x84 x75 s85) fun x91 =>
          if jin x91 49 then
          if ¬ (s85 10 0) = 0 then
          if jin (x75 - 1) 7 then
          jlet (va_up s85 36 (upd (s85 36) (x75 - 1).toNatClampNeg (jrem ((s85 36 (x75 - 1).toNatClampNeg) + (s85 30 x91.toNatClampNeg)) (s85 10 0)))) fun s95 =>
          if jin (x75 - 1) 7 then
          Option.bind (f_Mod_at x84 x75 s95) fun x99 =>
          if jin x99 49 then
          if ¬ (s95 10 0) = 0 then
          if jin (x75 - 1) 7 then
          jlet (va_up s95 37 (upd (s95 37) (x75 - 1).toNatClampNeg (jrem ((s95 37 (x75 - 1).toNatClampNeg) + (s95 31 x99.toNatClampNeg)) (s95 10 0)))) fun s103 =>
          some s103
          else none
          else none
          else none
          else none
          else none
          else none
          else none
          else none
        else
          some s85) fun s106 =>
      jlet (x84 + 1) fun x109 =>
      L_Mod_judge_241 x75 n x109 s106

def L_Mod_judge_213 : Nat → Int32 → jS → Option (Int32 × jS)
  | 0, _, _ => none
  | n + 1, x75, s76 =>
    if (s76 11 0) < x75 then
      some (x75, s76)
    else
      if jin (x75 - 1) 7 then
      jlet (va_up s76 36 (upd (s76 36) (x75 - 1).toNatClampNeg 0)) fun s78 =>
      if jin (x75 - 1) 7 then
      jlet (va_up s78 37 (upd (s78 37) (x75 - 1).toNatClampNeg 0)) fun s81 =>
      Option.bind (L_Mod_judge_241 x75 jF 1 s81) fun (x111, s112) =>
      jlet (x75 + 1) fun x114 =>
      L_Mod_judge_213 n x114 s112
      else none
      else none

def L_Mod_judge_66 (x1 : Int32) : Nat → Int32 → Int32 → jS → Option (Int32 × Int32 × jS)
  | 0, _, _, _ => none
  | n + 1, x17, x18, s19 =>
    if (s19 11 0) < x18 then
      some (x17, x18, s19)
    else
      if jin (x1 - 1) 7 then
      Option.bind (f_Mod_in (s19 29 (x1 - 1).toNatClampNeg) x18) fun x22 =>
      Option.bind (α := Int32 × jS) (
        if ¬ x22 = 0 then
          Option.bind (α := Int32) (
            if x17 = 0 then
              some 0
            else
              Option.bind (f_Mod_at x1 x18 s19) fun x26 =>
              if jin x26 49 then
              Option.bind (f_Mod_at x1 x18 s19) fun x29 =>
              if jin x29 49 then
              Option.bind (f_Mod_fits x1 x18 (s19 32 x26.toNatClampNeg) (s19 33 x29.toNatClampNeg) s19) fun x32 =>
              if x32 = 0 then
                some 0
              else
                some 1
              else none
              else none) fun x35 =>
          Option.bind (f_Mod_at x1 x18 s19) fun x38 =>
          Option.bind (f_Mod_at x1 x18 s19) fun x40 =>
          if jin x40 49 then
          if jin x38 49 then
          jlet (va_up s19 30 (upd (s19 30) x38.toNatClampNeg (s19 32 x40.toNatClampNeg))) fun s43 =>
          Option.bind (f_Mod_at x1 x18 s43) fun x46 =>
          Option.bind (f_Mod_at x1 x18 s43) fun x48 =>
          if jin x48 49 then
          if jin x46 49 then
          jlet (va_up s43 31 (upd (s43 31) x46.toNatClampNeg (s43 33 x48.toNatClampNeg))) fun s51 =>
          some (x35, s51)
          else none
          else none
          else none
          else none
        else
          some (x17, s19)) fun (x54, s55) =>
      jlet (x18 + 1) fun x58 =>
      L_Mod_judge_66 x1 n x54 x58 s55
      else none

def L_Mod_judge_2 : Nat → Int32 → jS → Option (Int32 × jS)
  | 0, _, _ => none
  | n + 1, x1, s2 =>
    if (s2 11 0) < x1 then
      some (x1, s2)
    else
      Option.bind (f_Mod_in (s2 23 0) x1) fun x4 =>
      Option.bind (α := Int32) (
        if x4 = 0 then
          some 0
        else
          if jin (x1 - 1) 7 then
          Option.bind (f_Mod_bits (s2 28 (x1 - 1).toNatClampNeg)) fun x8 =>
          if (s2 12 0) ≤ x8 then
            some 0
          else
            if jin (x1 - 1) 7 then
            if jin (x1 - 1) 7 then
            if ¬ (s2 29 (x1 - 1).toNatClampNeg) = (s2 28 (x1 - 1).toNatClampNeg) then
              some 0
            else
              some 1
            else none
            else none
          else none) fun x14 =>
      Option.bind (L_Mod_judge_66 x1 jF x14 1 s2) fun (x60, x61, s62) =>
      Option.bind (α := Int32) (
        if x60 = 0 then
          some 0
        else
          some (1 <<< ((x1 - 1) &&& 31))) fun x65 =>
      jlet (va_up s62 25 (fun _ => (s62 25 0) ||| x65)) fun s68 =>
      jlet (x1 + 1) fun x70 =>
      L_Mod_judge_2 n x70 s68

def f_Mod_judge (s : jS) : Option (jS) :=
  Option.bind (L_Mod_judge_2 jF 1 s) fun (x72, s73) =>
  Option.bind (L_Mod_judge_213 jF 1 s73) fun (x116, s117) =>
  Option.bind (α := Int32) (
    if ¬ (s117 25 0) = 0 then
      some 0
    else
      some 1) fun x120 =>
  if jbo x120 then
  jlet (va_up s117 17 (fun _ => x120)) fun s123 =>
  some s123
  else none

def L_Mod_extract_59 (x1 : Int32) : Nat → Int32 → jS → Option (Int32 × jS)
  | 0, _, _ => none
  | n + 1, x16, s17 =>
    if (s17 12 0) ≤ x16 then
      some (x16, s17)
    else
      jlet (((7 * x1) - 7) + x16) fun x19 =>
      if jin x19 49 then
      Option.bind (α := Int32) (
        if ¬ x16 = 0 then
          some 0
        else
          Option.bind (f_Mod_is x1 5 s17) fun x22 =>
          if x22 = 0 then
            some 0
          else
            some 1) fun x25 =>
      if ¬ (s17 10 0) = 0 then
      if jin x19 49 then
      jlet (va_up s17 35 (upd (s17 35) x19.toNatClampNeg (jrem ((s17 19 x19.toNatClampNeg) + x25) (s17 10 0)))) fun s29 =>
      if jin x19 49 then
      Option.bind (f_Mod_element (s29 35 x19.toNatClampNeg) s29) fun x33 =>
      Option.bind (f_Mod_showTwo x33 s29) fun s35 =>
      jlet (x16 + 1) fun x37 =>
      L_Mod_extract_59 x1 n x37 s35
      else none
      else none
      else none
      else none

def L_Mod_extract_2 : Nat → Int32 → jS → Option (Int32 × jS)
  | 0, _, _ => none
  | n + 1, x1, s2 =>
    if (s2 11 0) < x1 then
      some (x1, s2)
    else
      Option.bind (f_Mod_works x1 5 s2) fun x4 =>
      Option.bind (α := jS) (
        if x4 = 0 then
          some s2
        else
          Option.bind (f_Mod_in (s2 25 0) x1) fun x7 =>
          if ¬ x7 = 0 then
            jlet (va_up s2 24 (fun _ => (s2 24 0) ||| (1 <<< ((x1 - 1) &&& 31)))) fun s10 =>
            Option.bind (f_Mod_show 5 s10) fun s12 =>
            Option.bind (f_Mod_show x1 s12) fun s14 =>
            Option.bind (L_Mod_extract_59 x1 jF 0 s14) fun (x40, s41) =>
            some s41
          else
            some s2) fun s43 =>
      jlet (x1 + 1) fun x46 =>
      L_Mod_extract_2 n x46 s43

def f_Mod_extract (s : jS) : Option (jS) :=
  Option.bind (L_Mod_extract_2 jF 1 s) fun (x48, s49) =>
  some s49

def L_Mod_accuse_80 (x1 : Int32) (x4 : Int32) (s5 : jS) : Nat → Int32 → Int32 → Option (Int32 × Int32)
  | 0, _, _ => none
  | n + 1, x21, x22 =>
    if (s5 12 0) ≤ x22 then
      some (x21, x22)
    else
      if jin (((7 * x4) - 7) + x22) 49 then
      Option.bind (f_Mod_power x1 x22 s5) fun x25 =>
      if ¬ (s5 10 0) = 0 then
      jlet (jrem (x21 + ((s5 35 (((7 * x4) - 7) + x22).toNatClampNeg) * x25)) (s5 10 0)) fun x28 =>
      jlet (x22 + 1) fun x29 =>
      L_Mod_accuse_80 x1 x4 s5 n x28 x29
      else none
      else none

def L_Mod_accuse_12 (x1 : Int32) : Nat → Int32 → jS → Option (Int32 × jS)
  | 0, _, _ => none
  | n + 1, x4, s5 =>
    if (s5 11 0) < x4 then
      some (x4, s5)
    else
      Option.bind (f_Mod_works x1 6 s5) fun x7 =>
      if x7 = 0 then
        some (x4, s5)
      else
        Option.bind (f_Mod_in ((s5 25 0) &&& (s5 24 0)) x4) fun x10 =>
        Option.bind (α := jS) (
          if ¬ x10 = 0 then
            Option.bind (f_Mod_at x4 x1 s5) fun x13 =>
            if jin x13 49 then
            jlet (s5 30 x13.toNatClampNeg) fun x16 =>
            Option.bind (f_Mod_at x4 x1 s5) fun x17 =>
            if jin x17 49 then
            jlet (s5 31 x17.toNatClampNeg) fun x20 =>
            Option.bind (L_Mod_accuse_80 x1 x4 s5 jF 0 0) fun (x32, x33) =>
            if x16 = x32 then
              some s5
            else
              Option.bind (f_Mod_fits x4 x1 x16 x20 s5) fun x36 =>
              if ¬ x36 = 0 then
                jlet (va_up s5 26 (fun _ => (s5 26 0) ||| (1 <<< ((x4 - 1) &&& 31)))) fun s39 =>
                Option.bind (f_Mod_showNumbers 6 x1 x4 x16 x20 s39) fun s41 =>
                some s41
              else
                some s5
            else none
            else none
          else
            some s5) fun s45 =>
        jlet (x4 + 1) fun x48 =>
        L_Mod_accuse_12 x1 n x48 s45

def L_Mod_accuse_2 : Nat → Int32 → jS → Option (Int32 × jS)
  | 0, _, _ => none
  | n + 1, x1, s2 =>
    if (s2 11 0) < x1 then
      some (x1, s2)
    else
      Option.bind (L_Mod_accuse_12 x1 jF 1 s2) fun (x50, s51) =>
      jlet (x1 + 1) fun x53 =>
      L_Mod_accuse_2 n x53 s51

def f_Mod_accuse (s : jS) : Option (jS) :=
  Option.bind (L_Mod_accuse_2 jF 1 s) fun (x55, s56) =>
  some s56

def L_Mod_weight_49 (s : jS) (x2 : Int32) (x9 : Int32) : Nat → Int32 → Option (Int32)
  | 0, _ => none
  | n + 1, x10 =>
    if ¬ (s 10 0) = 0 then
    if ¬ (s 10 0) = 0 then
    if (jrem (x10 * x9) (s 10 0)) = (jrem x2 (s 10 0)) then
      some x10
    else
      jlet (x10 + 1) fun x14 =>
      L_Mod_weight_49 s x2 x9 n x14
    else none
    else none

def L_Mod_weight_5 (p0 : Int32) (p1 : Int32) (s : jS) : Nat → Int32 → Int32 → Option (Int32 × Int32)
  | 0, _, _ => none
  | n + 1, x1, x2 =>
    if 8 ≤ x2 then
      some (x1, x2)
    else
      Option.bind (f_Mod_in p0 x2) fun x4 =>
      Option.bind (α := Int32) (
        if x4 = 0 then
          some x1
        else
          if ¬ x2 = p1 then
            if ¬ (s 10 0) = 0 then
            jlet (jrem ((x2 - p1) + (s 10 0)) (s 10 0)) fun x9 =>
            Option.bind (L_Mod_weight_49 s x2 x9 jF 0) fun x16 =>
            if ¬ (s 10 0) = 0 then
            jlet (jrem (x1 * x16) (s 10 0)) fun x19 =>
            some x19
            else none
            else none
          else
            some x1) fun x22 =>
      jlet (x2 + 1) fun x25 =>
      L_Mod_weight_5 p0 p1 s n x22 x25

def f_Mod_weight (p0 : Int32) (p1 : Int32) (s : jS) : Option (Int32) :=
  Option.bind (L_Mod_weight_5 p0 p1 s jF 1 1) fun (x27, x28) =>
  some x27

def L_Mod_atZero_4 (p0 : Int32) (s : jS) : Nat → Int32 → Int32 → Option (Int32 × Int32)
  | 0, _, _ => none
  | n + 1, x1, x2 =>
    if 8 ≤ x2 then
      some (x1, x2)
    else
      Option.bind (f_Mod_in p0 x2) fun x4 =>
      Option.bind (α := Int32) (
        if x4 = 0 then
          some x1
        else
          Option.bind (f_Mod_weight p0 x2 s) fun x7 =>
          if jin (x2 - 1) 7 then
          if ¬ (s 10 0) = 0 then
          some (jrem (x1 + (x7 * (s 38 (x2 - 1).toNatClampNeg))) (s 10 0))
          else none
          else none) fun x11 =>
      jlet (x2 + 1) fun x14 =>
      L_Mod_atZero_4 p0 s n x11 x14

def f_Mod_atZero (p0 : Int32) (s : jS) : Option (Int32) :=
  Option.bind (L_Mod_atZero_4 p0 s jF 0 1) fun (x16, x17) =>
  some x16

def L_Mod_open_76_2 (x2 : Int32) : Nat → Int32 → Int32 → jS → Option (Int32 × Int32 × jS)
  | 0, _, _, _ => none
  | n + 1, x85, x86, s87 =>
    if (s87 11 0) < x86 then
      some (x85, x86, s87)
    else
      Option.bind (f_Mod_works x86 7 s87) fun x89 =>
      Option.bind (α := Int32 × jS) (
        if ¬ x89 = 0 then
          Option.bind (f_Mod_at x2 x86 s87) fun x92 =>
          if jin x92 49 then
          Option.bind (f_Mod_is x86 6 s87) fun x95 =>
          Option.bind (α := Int32) (
            if x95 = 0 then
              some 0
            else
              some 1) fun x98 =>
          if ¬ (s87 10 0) = 0 then
          jlet (jrem ((s87 30 x92.toNatClampNeg) + x98) (s87 10 0)) fun x102 =>
          Option.bind (f_Mod_at x2 x86 s87) fun x103 =>
          if jin x103 49 then
          Option.bind (f_Mod_showNumbers 7 x86 x2 x102 (s87 31 x103.toNatClampNeg) s87) fun s106 =>
          Option.bind (f_Mod_at x2 x86 s106) fun x108 =>
          if jin x108 49 then
          Option.bind (f_Mod_fits x2 x86 x102 (s106 31 x108.toNatClampNeg) s106) fun x111 =>
          if x111 = 0 then
            some (x85, s106)
          else
            Option.bind (f_Mod_bits x85) fun x114 =>
            if (s106 12 0) ≤ x114 then
              some (x85, s106)
            else
              jlet (x85 ||| (1 <<< ((x86 - 1) &&& 31))) fun x117 =>
              if jin (x86 - 1) 7 then
              jlet (va_up s106 38 (upd (s106 38) (x86 - 1).toNatClampNeg x102)) fun s118 =>
              some (x117, s118)
              else none
          else none
          else none
          else none
          else none
        else
          some (x85, s87)) fun (x123, s124) =>
      jlet (x86 + 1) fun x127 =>
      L_Mod_open_76_2 x2 n x123 x127 s124

def L_Mod_open_76 (x2 : Int32) : Nat → Int32 → Int32 → jS → Option (Int32 × Int32 × jS)
  | 0, _, _, _ => none
  | n + 1, x11, x12, s13 =>
    if (s13 11 0) < x12 then
      some (x11, x12, s13)
    else
      Option.bind (f_Mod_works x12 7 s13) fun x15 =>
      Option.bind (α := Int32 × jS) (
        if ¬ x15 = 0 then
          Option.bind (f_Mod_at x2 x12 s13) fun x18 =>
          if jin x18 49 then
          Option.bind (f_Mod_is x12 6 s13) fun x21 =>
          Option.bind (α := Int32) (
            if x21 = 0 then
              some 0
            else
              some 1) fun x24 =>
          if ¬ (s13 10 0) = 0 then
          jlet (jrem ((s13 30 x18.toNatClampNeg) + x24) (s13 10 0)) fun x28 =>
          Option.bind (f_Mod_at x2 x12 s13) fun x29 =>
          if jin x29 49 then
          Option.bind (f_Mod_showNumbers 7 x12 x2 x28 (s13 31 x29.toNatClampNeg) s13) fun s32 =>
          Option.bind (f_Mod_at x2 x12 s32) fun x34 =>
          if jin x34 49 then
          Option.bind (f_Mod_fits x2 x12 x28 (s32 31 x34.toNatClampNeg) s32) fun x37 =>
          if x37 = 0 then
            some (x11, s32)
          else
            Option.bind (f_Mod_bits x11) fun x40 =>
            if (s32 12 0) ≤ x40 then
              some (x11, s32)
            else
              jlet (x11 ||| (1 <<< ((x12 - 1) &&& 31))) fun x43 =>
              if jin (x12 - 1) 7 then
              jlet (va_up s32 38 (upd (s32 38) (x12 - 1).toNatClampNeg x28)) fun s44 =>
              some (x43, s44)
              else none
          else none
          else none
          else none
          else none
        else
          some (x11, s13)) fun (x49, s50) =>
      jlet (x12 + 1) fun x53 =>
      L_Mod_open_76 x2 n x49 x53 s50

def L_Mod_open_4 : Nat → Int32 → Int32 → jS → Option (Int32 × Int32 × jS)
  | 0, _, _, _ => none
  | n + 1, x1, x2, s3 =>
    if (s3 11 0) < x2 then
      some (x1, x2, s3)
    else
      Option.bind (f_Mod_in (s3 25 0) x2) fun x5 =>
      Option.bind (α := Int32 × jS) (
        if ¬ x5 = 0 then
          Option.bind (f_Mod_in (s3 26 0) x2) fun x8 =>
          if ¬ x8 = 0 then
            Option.bind (L_Mod_open_76 x2 jF 0 1 s3) fun (x55, x56, s57) =>
            Option.bind (α := Int32) (
              if ¬ (s57 17 0) = 0 then
                some 1
              else
                Option.bind (f_Mod_bits x55) fun x60 =>
                if (s57 12 0) ≤ x60 then
                  some 0
                else
                  some 1) fun x63 =>
            if jbo x63 then
            jlet (va_up s57 17 (fun _ => x63)) fun s66 =>
            Option.bind (f_Mod_bits x55) fun x69 =>
            Option.bind (α := Int32) (
              if (s66 12 0) ≤ x69 then
                some (1 <<< ((x2 - 1) &&& 31))
              else
                some 0) fun x72 =>
            jlet (va_up s66 27 (fun _ => (s66 27 0) ||| x72)) fun s75 =>
            Option.bind (f_Mod_atZero x55 s75) fun x77 =>
            if ¬ (s75 10 0) = 0 then
            jlet (jrem (x1 + x77) (s75 10 0)) fun x80 =>
            some (x80, s75)
            else none
            else none
          else
            Option.bind (f_Mod_in (s3 24 0) x2) fun x82 =>
            if x82 = 0 then
              Option.bind (L_Mod_open_76_2 x2 jF 0 1 s3) fun (x129, x130, s131) =>
              Option.bind (α := Int32) (
                if ¬ (s131 17 0) = 0 then
                  some 1
                else
                  Option.bind (f_Mod_bits x129) fun x134 =>
                  if (s131 12 0) ≤ x134 then
                    some 0
                  else
                    some 1) fun x137 =>
              if jbo x137 then
              jlet (va_up s131 17 (fun _ => x137)) fun s140 =>
              Option.bind (f_Mod_bits x129) fun x143 =>
              Option.bind (α := Int32) (
                if (s140 12 0) ≤ x143 then
                  some (1 <<< ((x2 - 1) &&& 31))
                else
                  some 0) fun x146 =>
              jlet (va_up s140 27 (fun _ => (s140 27 0) ||| x146)) fun s149 =>
              Option.bind (f_Mod_atZero x129 s149) fun x151 =>
              if ¬ (s149 10 0) = 0 then
              jlet (jrem (x1 + x151) (s149 10 0)) fun x154 =>
              some (x154, s149)
              else none
              else none
            else
              if jin ((7 * x2) - 7) 49 then
              if ¬ (s3 10 0) = 0 then
              jlet (jrem (x1 + (s3 35 ((7 * x2) - 7).toNatClampNeg)) (s3 10 0)) fun x158 =>
              some (x158, s3)
              else none
              else none
        else
          some (x1, s3)) fun (x160, s161) =>
      jlet (x2 + 1) fun x164 =>
      L_Mod_open_4 n x160 x164 s161

def f_Mod_open (s : jS) : Option (jS) :=
  Option.bind (L_Mod_open_4 jF 0 1 s) fun (x166, x167, s168) =>
  jlet (va_up s168 39 (fun _ => x166)) fun s170 =>
  Option.bind (α := Int32) (
    if ¬ (s170 17 0) = 0 then
      some 0
    else
      some 1) fun x173 =>
  if jbo x173 then
  jlet (va_up s170 16 (fun _ => x173)) fun s176 =>
  some s176
  else none

def f_Mod_next (s : jS) : Option (Int32 × jS) :=
  Option.bind (α := Int32) (
    if (s 15 0) = 0 then
      some 1
    else
      if ¬ (s 16 0) = 0 then
        some 1
      else
        if (s 17 0) = 0 then
          some 0
        else
          some 1) fun x4 =>
  jlet (va_up s 0 (fun _ => x4)) fun s7 =>
  if (s7 0 0) ≤ 0 then
    jlet (va_up s7 18 (fun _ => (s7 18 0) + 1)) fun s10 =>
    Option.bind (α := jS) (
      if ¬ (s10 18 0) = 1 then
        if ¬ (s10 18 0) = 2 then
          if ¬ (s10 18 0) = 3 then
            if ¬ (s10 18 0) = 4 then
              if ¬ (s10 18 0) = 5 then
                if ¬ (s10 18 0) = 6 then
                  Option.bind (f_Mod_open s10) fun s18 =>
                  some s18
                else
                  Option.bind (f_Mod_accuse s10) fun s20 =>
                  some s20
              else
                Option.bind (f_Mod_extract s10) fun s22 =>
                some s22
            else
              Option.bind (f_Mod_judge s10) fun s24 =>
              some s24
          else
            Option.bind (f_Mod_answer s10) fun s26 =>
            some s26
        else
          Option.bind (f_Mod_complain s10) fun s28 =>
          some s28
      else
        Option.bind (f_Mod_deal s10) fun s30 =>
        some s30) fun s32 =>
    some (s32 18 0, s32)
  else
    some (0, s7)

def f_Mod_state (s : jS) : Option (Int32 × jS) :=
  jlet (va_up s 0 (fun _ => 0)) fun s1 =>
  Option.bind (α := Int32) (
    if ¬ (s1 15 0) = 0 then
      if (s1 16 0) = 0 then
        if (s1 17 0) = 0 then
          some 1
        else
          some 3
      else
        some 2
    else
      some 0) fun x6 =>
  some (x6, s1)

def f_Mod_mask (s : jS) : Option (Int32) :=
  some ((1 <<< ((s 11 0) &&& 31)) - 1)

def L_Mod_parties_111 (s1 : jS) : Nat → Int32 → Int32 → Option (Int32 × Int32)
  | 0, _, _ => none
  | n + 1, x9, x10 =>
    if (s1 11 0) < x10 then
      some (x9, x10)
    else
      Option.bind (α := Int32) (
        if ¬ (s1 16 0) = 0 then
          some 8
        else
          if (s1 17 0) = 0 then
            some ((s1 18 0) + 1)
          else
            some 8) fun x14 =>
      Option.bind (f_Mod_works x10 x14 s1) fun x17 =>
      Option.bind (α := Int32) (
        if x17 = 0 then
          some 0
        else
          some (1 <<< ((x10 - 1) &&& 31))) fun x20 =>
      jlet (x9 ||| x20) fun x23 =>
      jlet (x10 + 1) fun x24 =>
      L_Mod_parties_111 s1 n x23 x24

def f_Mod_parties (p0 : Int32) (s : jS) : Option (Int32 × jS) :=
  jlet (va_up s 0 (fun _ => 0)) fun s1 =>
  if p0 < 0 then
    some ((-1), s1)
  else
    if p0 ≤ 3 then
      if ¬ (s1 15 0) = 0 then
        if ¬ p0 = 0 then
          if ¬ p0 = 1 then
            if ¬ p0 = 2 then
              Option.bind (L_Mod_parties_111 s1 jF 0 1) fun (x27, x28) =>
              some (x27, s1)
            else
              Option.bind (α := Int32) (
                if (s1 18 0) < 7 then
                  some 0
                else
                  Option.bind (f_Mod_mask s1) fun x31 =>
                  some ((s1 27 0) &&& x31)) fun x33 =>
              some (x33, s1)
          else
            Option.bind (α := Int32) (
              if (s1 18 0) < 6 then
                some 0
              else
                Option.bind (f_Mod_mask s1) fun x37 =>
                some ((s1 26 0) &&& x37)) fun x39 =>
            some (x39, s1)
        else
          Option.bind (α := Int32) (
            if (s1 18 0) < 4 then
              some 0
            else
              Option.bind (f_Mod_mask s1) fun x43 =>
              some ((s1 25 0) &&& x43)) fun x45 =>
          some (x45, s1)
      else
        some (0, s1)
    else
      some ((-1), s1)

def f_Mod_complaints (p0 : Int32) (s : jS) : Option (Int32 × jS) :=
  Option.bind (f_Mod_isParty p0 s) fun x1 =>
  Option.bind (α := Int32) (
    if x1 = 0 then
      some 1
    else
      some 0) fun x4 =>
  jlet (va_up s 0 (fun _ => x4)) fun s7 =>
  Option.bind (α := Int32) (
    if (s7 0 0) ≤ 0 then
      if jin (p0 - 1) 7 then
      Option.bind (f_Mod_mask s7) fun x11 =>
      some ((s7 28 (p0 - 1).toNatClampNeg) &&& x11)
      else none
    else
      some 0) fun x13 =>
  some (x13, s7)

def f_Mod_received (p0 : Int32) (p1 : Int32) (p2 : Int32) (s : jS) : Option (Int32 × jS) :=
  Option.bind (f_Mod_isParty p0 s) fun x1 =>
  Option.bind (α := Int32) (
    if x1 = 0 then
      some 1
    else
      Option.bind (f_Mod_isParty p1 s) fun x4 =>
      if x4 = 0 then
        some 1
      else
        if p2 < 0 then
          some 1
        else
          if p2 ≤ 1 then
            some 0
          else
            some 1) fun x9 =>
  jlet (va_up s 0 (fun _ => x9)) fun s12 =>
  if (s12 0 0) ≤ 0 then
    Option.bind (f_Mod_in (s12 23 0) p0) fun x15 =>
    if x15 = 0 then
      some ((-1), s12)
    else
      if p1 ≤ (s12 13 0) then
        Option.bind (α := Int32) (
          if ¬ p2 = 0 then
            Option.bind (f_Mod_at p0 p1 s12) fun x20 =>
            if jin x20 49 then
            some (s12 31 x20.toNatClampNeg)
            else none
          else
            Option.bind (f_Mod_at p0 p1 s12) fun x23 =>
            if jin x23 49 then
            some (s12 30 x23.toNatClampNeg)
            else none) fun x26 =>
        some (x26, s12)
      else
        some ((-1), s12)
  else
    some (0, s12)

def f_Mod_commitment (p0 : Int32) (p1 : Int32) (p2 : Int32) (s : jS) : Option (Int32 × jS) :=
  Option.bind (f_Mod_isParty p0 s) fun x1 =>
  Option.bind (α := Int32) (
    if x1 = 0 then
      some 1
    else
      if p1 < 0 then
        some 1
      else
        if (s 12 0) ≤ p1 then
          some 1
        else
          if p2 < 0 then
            some 1
          else
            if p2 ≤ 1 then
              some 0
            else
              some 1) fun x8 =>
  jlet (va_up s 0 (fun _ => x8)) fun s11 =>
  if (s11 0 0) ≤ 0 then
    Option.bind (α := Int32) (
      if ¬ p2 = 0 then
        some (s11 24 0)
      else
        some (s11 23 0)) fun x15 =>
    Option.bind (f_Mod_in x15 p0) fun x18 =>
    if x18 = 0 then
      some ((-1), s11)
    else
      if p1 < (s11 14 0) then
        Option.bind (α := Int32) (
          if ¬ p2 = 0 then
            if jin (((7 * p0) - 7) + p1) 49 then
            some (s11 35 (((7 * p0) - 7) + p1).toNatClampNeg)
            else none
          else
            if jin (((7 * p0) - 7) + p1) 49 then
            some (s11 34 (((7 * p0) - 7) + p1).toNatClampNeg)
            else none) fun x25 =>
        Option.bind (f_Mod_element x25 s11) fun x28 =>
        some (x28, s11)
      else
        some ((-1), s11)
  else
    some (0, s11)

def f_Mod_share (p0 : Int32) (p1 : Int32) (s : jS) : Option (Int32 × jS) :=
  Option.bind (f_Mod_isParty p0 s) fun x1 =>
  Option.bind (α := Int32) (
    if x1 = 0 then
      some 1
    else
      if p1 < 0 then
        some 1
      else
        if p1 ≤ 1 then
          some 0
        else
          some 1) fun x6 =>
  jlet (va_up s 0 (fun _ => x6)) fun s9 =>
  if (s9 0 0) ≤ 0 then
    if (s9 18 0) < 4 then
      some ((-1), s9)
    else
      if (s9 17 0) = 0 then
        Option.bind (α := Int32) (
          if ¬ p1 = 0 then
            if jin (p0 - 1) 7 then
            some (s9 37 (p0 - 1).toNatClampNeg)
            else none
          else
            if jin (p0 - 1) 7 then
            some (s9 36 (p0 - 1).toNatClampNeg)
            else none) fun x17 =>
        some (x17, s9)
      else
        if ¬ (s9 18 0) = 4 then
          Option.bind (α := Int32) (
            if ¬ p1 = 0 then
              if jin (p0 - 1) 7 then
              some (s9 37 (p0 - 1).toNatClampNeg)
              else none
            else
              if jin (p0 - 1) 7 then
              some (s9 36 (p0 - 1).toNatClampNeg)
              else none) fun x24 =>
          some (x24, s9)
        else
          some ((-1), s9)
  else
    some (0, s9)

def f_Mod_board (s : jS) : Option (Int32 × jS) :=
  jlet (va_up s 0 (fun _ => 0)) fun s1 =>
  some (s1 40 0, s1)

def f_Mod_told (p0 : Int32) (s : jS) : Option (Int32 × jS) :=
  Option.bind (α := Int32) (
    if p0 < 0 then
      some 1
    else
      if p0 < (s 40 0) then
        some 0
      else
        some 1) fun x3 =>
  jlet (va_up s 0 (fun _ => x3)) fun s6 =>
  Option.bind (α := Int32) (
    if (s6 0 0) ≤ 0 then
      if jin p0 1100 then
      some (s6 41 p0.toNatClampNeg)
      else none
    else
      some 0) fun x10 =>
  some (x10, s6)

def f_Mod_key (s : jS) : Option (Int32 × jS) :=
  jlet (va_up s 0 (fun _ => 0)) fun s1 =>
  Option.bind (α := Int32) (
    if (s1 15 0) = 0 then
      some (-1)
    else
      if (s1 16 0) = 0 then
        some (-1)
      else
        Option.bind (f_Mod_element (s1 39 0) s1) fun x5 =>
        some x5) fun x7 =>
  some (x7, s1)

def f_Mod_padded (p0 : Int32) (p1 : Int32) (s : jS) : Option (Int32) :=
  if (s 40 0) ≤ p0 then
    if ¬ p0 = (s 40 0) then
      Option.bind (α := Int32) (
        if (p1 - 4) ≤ p0 then
          some ((jushr ((s 40 0) * 8) (8 * ((p1 - 1) - p0))) &&& 255)
        else
          some 0) fun x4 =>
      some x4
    else
      some 128
  else
    if jin p0 1100 then
    some (s 41 p0.toNatClampNeg)
    else none

def f_Mod_right (p0 : Int32) (p1 : Int32) : Option (Int32) :=
  some ((jushr p0 p1) ||| (p0 <<< ((32 - p1) &&& 31)))

def L_Mod_mix_154 : Nat → Int32 → jS → Option (Int32 × jS)
  | 0, _, _ => none
  | n + 1, x33, s34 =>
    if x33 ≤ 0 then
      some (x33, s34)
    else
      if jin (x33 - 1) 8 then
      if jin x33 8 then
      jlet (va_up s34 47 (upd (s34 47) x33.toNatClampNeg (s34 47 (x33 - 1).toNatClampNeg))) fun s37 =>
      jlet (x33 + (-1)) fun x40 =>
      L_Mod_mix_154 n x40 s37
      else none
      else none

def f_Mod_mix (p0 : Int32) (s : jS) : Option (jS) :=
  if jin 4 8 then
  jlet (s 47 (4 : Int32).toNatClampNeg) fun x2 =>
  if jin 0 8 then
  jlet (s 47 (0 : Int32).toNatClampNeg) fun x4 =>
  if jin 7 8 then
  Option.bind (f_Mod_right x2 6) fun x6 =>
  Option.bind (f_Mod_right x2 11) fun x8 =>
  Option.bind (f_Mod_right x2 25) fun x10 =>
  if jin 5 8 then
  if jin 6 8 then
  Option.bind (α := Int32) (
    if 32 ≤ p0 then
      if jin (p0 - 32) 32 then
      some (s 43 (p0 - 32).toNatClampNeg)
      else none
    else
      if jin p0 32 then
      some (s 42 p0.toNatClampNeg)
      else none) fun x17 =>
  if jin p0 64 then
  jlet (((((s 47 (7 : Int32).toNatClampNeg) + ((x6 ^^^ x8) ^^^ x10)) + ((x2 &&& (s 47 (5 : Int32).toNatClampNeg)) ^^^ ((x2 ^^^ (-1)) &&& (s 47 (6 : Int32).toNatClampNeg)))) + x17) + (s 46 p0.toNatClampNeg)) fun x21 =>
  Option.bind (f_Mod_right x4 2) fun x22 =>
  Option.bind (f_Mod_right x4 13) fun x24 =>
  Option.bind (f_Mod_right x4 22) fun x26 =>
  if jin 1 8 then
  if jin 2 8 then
  if jin 1 8 then
  if jin 2 8 then
  jlet (((x22 ^^^ x24) ^^^ x26) + (((x4 &&& (s 47 (1 : Int32).toNatClampNeg)) ^^^ (x4 &&& (s 47 (2 : Int32).toNatClampNeg))) ^^^ ((s 47 (1 : Int32).toNatClampNeg) &&& (s 47 (2 : Int32).toNatClampNeg)))) fun x32 =>
  Option.bind (L_Mod_mix_154 jF 7 s) fun (x42, s43) =>
  if jin 4 8 then
  if jin 4 8 then
  jlet (va_up s43 47 (upd (s43 47) (4 : Int32).toNatClampNeg ((s43 47 (4 : Int32).toNatClampNeg) + x21))) fun s46 =>
  if jin 0 8 then
  jlet (va_up s46 47 (upd (s46 47) (0 : Int32).toNatClampNeg (x21 + x32))) fun s49 =>
  some s49
  else none
  else none
  else none
  else none
  else none
  else none
  else none
  else none
  else none
  else none
  else none
  else none
  else none

def L_Mod_block_224 : Nat → Int32 → jS → Option (Int32 × jS)
  | 0, _, _ => none
  | n + 1, x71, s72 =>
    if 8 ≤ x71 then
      some (x71, s72)
    else
      if jin x71 8 then
      if jin x71 8 then
      if jin x71 8 then
      jlet (va_up s72 44 (upd (s72 44) x71.toNatClampNeg ((s72 44 x71.toNatClampNeg) + (s72 47 x71.toNatClampNeg)))) fun s76 =>
      jlet (x71 + 1) fun x79 =>
      L_Mod_block_224 n x79 s76
      else none
      else none
      else none

def L_Mod_block_205 : Nat → Int32 → jS → Option (Int32 × jS)
  | 0, _, _ => none
  | n + 1, x61, s62 =>
    if 64 ≤ x61 then
      some (x61, s62)
    else
      Option.bind (f_Mod_mix x61 s62) fun s64 =>
      jlet (x61 + 1) fun x66 =>
      L_Mod_block_205 n x66 s64

def L_Mod_block_179 : Nat → Int32 → jS → Option (Int32 × jS)
  | 0, _, _ => none
  | n + 1, x49, s50 =>
    if 8 ≤ x49 then
      some (x49, s50)
    else
      if jin x49 8 then
      if jin x49 8 then
      jlet (va_up s50 47 (upd (s50 47) x49.toNatClampNeg (s50 44 x49.toNatClampNeg))) fun s53 =>
      jlet (x49 + 1) fun x56 =>
      L_Mod_block_179 n x56 s53
      else none
      else none

def L_Mod_block_76 : Nat → Int32 → jS → Option (Int32 × jS)
  | 0, _, _ => none
  | n + 1, x22, s23 =>
    if 64 ≤ x22 then
      some (x22, s23)
    else
      if jin (x22 - 15) 64 then
      jlet (s23 46 (x22 - 15).toNatClampNeg) fun x26 =>
      if jin (x22 - 2) 64 then
      jlet (s23 46 (x22 - 2).toNatClampNeg) fun x28 =>
      if jin (x22 - 16) 64 then
      Option.bind (f_Mod_right x26 7) fun x30 =>
      Option.bind (f_Mod_right x26 18) fun x32 =>
      if jin (x22 - 7) 64 then
      Option.bind (f_Mod_right x28 17) fun x35 =>
      Option.bind (f_Mod_right x28 19) fun x37 =>
      if jin x22 64 then
      jlet (va_up s23 46 (upd (s23 46) x22.toNatClampNeg ((((s23 46 (x22 - 16).toNatClampNeg) + ((x30 ^^^ x32) ^^^ (jushr x26 3))) + (s23 46 (x22 - 7).toNatClampNeg)) + ((x35 ^^^ x37) ^^^ (jushr x28 10))))) fun s39 =>
      jlet (x22 + 1) fun x42 =>
      L_Mod_block_76 n x42 s39
      else none
      else none
      else none
      else none
      else none

def L_Mod_block_2 (p0 : Int32) (p1 : Int32) : Nat → Int32 → jS → Option (Int32 × jS)
  | 0, _, _ => none
  | n + 1, x1, s2 =>
    if 16 ≤ x1 then
      some (x1, s2)
    else
      jlet (p0 + (4 * x1)) fun x4 =>
      Option.bind (f_Mod_padded x4 p1 s2) fun x5 =>
      Option.bind (f_Mod_padded (x4 + 1) p1 s2) fun x7 =>
      Option.bind (f_Mod_padded (x4 + 2) p1 s2) fun x9 =>
      Option.bind (f_Mod_padded (x4 + 3) p1 s2) fun x11 =>
      if jin x1 64 then
      jlet (va_up s2 46 (upd (s2 46) x1.toNatClampNeg ((((x5 <<< (24 &&& 31)) ||| (x7 <<< (16 &&& 31))) ||| (x9 <<< (8 &&& 31))) ||| x11))) fun s13 =>
      jlet (x1 + 1) fun x16 =>
      L_Mod_block_2 p0 p1 n x16 s13
      else none

def f_Mod_block (p0 : Int32) (p1 : Int32) (s : jS) : Option (jS) :=
  Option.bind (L_Mod_block_2 p0 p1 jF 0 s) fun (x19, s20) =>
  Option.bind (L_Mod_block_76 jF 16 s20) fun (x46, s47) =>
  Option.bind (L_Mod_block_179 jF 0 s47) fun (x58, s59) =>
  Option.bind (L_Mod_block_205 jF 0 s59) fun (x68, s69) =>
  Option.bind (L_Mod_block_224 jF 0 s69) fun (x81, s82) =>
  some s82

def L_Mod_digest_73 (x9 : Int32) : Nat → Int32 → jS → Option (Int32 × jS)
  | 0, _, _ => none
  | n + 1, x22, s23 =>
    if x9 ≤ x22 then
      some (x22, s23)
    else
      Option.bind (f_Mod_block x22 x9 s23) fun s25 =>
      jlet (x22 + 64) fun x27 =>
      L_Mod_digest_73 x9 n x27 s25

def L_Mod_digest_47 : Nat → Int32 → jS → Option (Int32 × jS)
  | 0, _, _ => none
  | n + 1, x10, s11 =>
    if 8 ≤ x10 then
      some (x10, s11)
    else
      if jin x10 8 then
      if jin x10 8 then
      jlet (va_up s11 44 (upd (s11 44) x10.toNatClampNeg (s11 45 x10.toNatClampNeg))) fun s14 =>
      jlet (x10 + 1) fun x17 =>
      L_Mod_digest_47 n x17 s14
      else none
      else none

def f_Mod_digest (p0 : Int32) (s : jS) : Option (Int32 × jS) :=
  Option.bind (α := Int32) (
    if p0 < 0 then
      some 1
    else
      if p0 ≤ 7 then
        some 0
      else
        some 1) fun x3 =>
  jlet (va_up s 0 (fun _ => x3)) fun s6 =>
  if (s6 0 0) ≤ 0 then
    jlet (((((s6 40 0) + 9) + 63) / 64) * 64) fun x9 =>
    Option.bind (L_Mod_digest_47 jF 0 s6) fun (x19, s20) =>
    Option.bind (L_Mod_digest_73 x9 jF 0 s20) fun (x29, s30) =>
    if jin p0 8 then
    some (s30 44 p0.toNatClampNeg, s30)
    else none
  else
    some (0, s6)

def f_Mod_enough (p0 : Int32) (s : jS) : Option (Int32) :=
  Option.bind (α := Int32) (
    if p0 < 0 then
      some 0
    else
      Option.bind (f_Mod_mask s) fun x2 =>
      if x2 < p0 then
        some 0
      else
        Option.bind (f_Mod_bits p0) fun x5 =>
        if x5 < (s 12 0) then
          some 0
        else
          some 1) fun x8 =>
  if jbo x8 then
  some x8
  else none

def L_Mod_recover_46 : Nat → Int32 → jS → Option (Int32 × jS)
  | 0, _, _ => none
  | n + 1, x12, s13 =>
    if 7 ≤ x12 then
      some (x12, s13)
    else
      if jin x12 7 then
      if jin x12 7 then
      jlet (va_up s13 38 (upd (s13 38) x12.toNatClampNeg (s13 36 x12.toNatClampNeg))) fun s16 =>
      jlet (x12 + 1) fun x19 =>
      L_Mod_recover_46 n x19 s16
      else none
      else none

def f_Mod_recover (p0 : Int32) (s : jS) : Option (Int32 × jS) :=
  Option.bind (α := Int32) (
    if (s 15 0) = 0 then
      some 1
    else
      if ¬ (s 16 0) = 0 then
        Option.bind (f_Mod_enough p0 s) fun x3 =>
        if ¬ x3 = 0 then
          some 0
        else
          some 2
      else
        some 1) fun x6 =>
  jlet (va_up s 0 (fun _ => x6)) fun s9 =>
  if (s9 0 0) ≤ 0 then
    Option.bind (L_Mod_recover_46 jF 0 s9) fun (x21, s22) =>
    Option.bind (f_Mod_atZero p0 s22) fun x24 =>
    some (x24, s22)
  else
    some (0, s9)

def L_Mod_refresh_43 (x9 : Int32) : Nat → Int32 → jS → Option (Int32 × jS)
  | 0, _, _ => none
  | n + 1, x12, s13 =>
    if (s13 11 0) < x12 then
      some (x12, s13)
    else
      Option.bind (f_Mod_works x12 8 s13) fun x15 =>
      Option.bind (α := jS) (
        if ¬ x15 = 0 then
          Option.bind (f_Mod_f x12 x9 s13) fun x18 =>
          if jin ((7 * x12) - 7) 49 then
          if ¬ (s13 10 0) = 0 then
          jlet (jrem ((x18 - (s13 19 ((7 * x12) - 7).toNatClampNeg)) + (s13 10 0)) (s13 10 0)) fun x22 =>
          if jin (x9 - 1) 7 then
          if ¬ (s13 10 0) = 0 then
          if jin (x9 - 1) 7 then
          jlet (va_up s13 36 (upd (s13 36) (x9 - 1).toNatClampNeg (jrem ((s13 36 (x9 - 1).toNatClampNeg) + x22) (s13 10 0)))) fun s25 =>
          some s25
          else none
          else none
          else none
          else none
          else none
        else
          some s13) fun s29 =>
      jlet (x12 + 1) fun x32 =>
      L_Mod_refresh_43 x9 n x32 s29

def L_Mod_refresh_33 : Nat → Int32 → jS → Option (Int32 × jS)
  | 0, _, _ => none
  | n + 1, x9, s10 =>
    if (s10 11 0) < x9 then
      some (x9, s10)
    else
      Option.bind (L_Mod_refresh_43 x9 jF 1 s10) fun (x34, s35) =>
      if jin (x9 - 1) 7 then
      jlet (va_up s35 37 (upd (s35 37) (x9 - 1).toNatClampNeg 0)) fun s37 =>
      jlet (x9 + 1) fun x40 =>
      L_Mod_refresh_33 n x40 s37
      else none

def f_Mod_refresh (s : jS) : Option (jS) :=
  Option.bind (α := Int32) (
    if (s 15 0) = 0 then
      some 1
    else
      if ¬ (s 16 0) = 0 then
        some 0
      else
        some 1) fun x3 =>
  jlet (va_up s 0 (fun _ => x3)) fun s6 =>
  if (s6 0 0) ≤ 0 then
    Option.bind (L_Mod_refresh_33 jF 1 s6) fun (x42, s43) =>
    Option.bind (f_Mod_forget s43) fun s45 =>
    some s45
  else
    some s6

def L_Mod_handOn_230 : Nat → Int32 → jS → Option (Int32 × jS)
  | 0, _, _ => none
  | n + 1, x70, s71 =>
    if 7 ≤ x70 then
      some (x70, s71)
    else
      Option.bind (α := Int32) (
        if (s71 11 0) ≤ x70 then
          some 0
        else
          if jin x70 7 then
          some (s71 38 x70.toNatClampNeg)
          else none) fun x75 =>
      if jin x70 7 then
      jlet (va_up s71 36 (upd (s71 36) x70.toNatClampNeg x75)) fun s78 =>
      if jin x70 7 then
      jlet (va_up s78 37 (upd (s78 37) x70.toNatClampNeg 0)) fun s81 =>
      jlet (x70 + 1) fun x84 =>
      L_Mod_handOn_230 n x84 s81
      else none
      else none

def L_Mod_handOn_114 (p1 : Int32) (x16 : Int32) (s17 : jS) (x20 : Int32) : Nat → Int32 → Int32 → Option (Int32 × Int32)
  | 0, _, _ => none
  | n + 1, x27, x28 =>
    if p1 ≤ x28 then
      some (x27, x28)
    else
      if (s17 12 0) ≤ x28 then
        some (x27, x28)
      else
        if jin (((7 * x20) - 7) + x28) 49 then
        Option.bind (f_Mod_power x16 x28 s17) fun x32 =>
        if ¬ (s17 10 0) = 0 then
        jlet (jrem (x27 + ((s17 19 (((7 * x20) - 7) + x28).toNatClampNeg) * x32)) (s17 10 0)) fun x35 =>
        jlet (x28 + 1) fun x36 =>
        L_Mod_handOn_114 p1 x16 s17 x20 n x35 x36
        else none
        else none

def L_Mod_handOn_79 (p0 : Int32) (p1 : Int32) (x16 : Int32) (s17 : jS) : Nat → Int32 → Int32 → Option (Int32 × Int32)
  | 0, _, _ => none
  | n + 1, x19, x20 =>
    if (s17 11 0) < x20 then
      some (x19, x20)
    else
      Option.bind (f_Mod_in p0 x20) fun x22 =>
      Option.bind (α := Int32) (
        if ¬ x22 = 0 then
          if jin (x20 - 1) 7 then
          jlet (s17 36 (x20 - 1).toNatClampNeg) fun x26 =>
          Option.bind (L_Mod_handOn_114 p1 x16 s17 x20 jF x26 1) fun (x39, x40) =>
          Option.bind (f_Mod_weight p0 x20 s17) fun x42 =>
          if ¬ (s17 10 0) = 0 then
          jlet (jrem (x19 + (x42 * x39)) (s17 10 0)) fun x45 =>
          some x45
          else none
          else none
        else
          some x19) fun x48 =>
      jlet (x20 + 1) fun x51 =>
      L_Mod_handOn_79 p0 p1 x16 s17 n x48 x51

def L_Mod_handOn_67 (p0 : Int32) (p1 : Int32) (p2 : Int32) : Nat → Int32 → jS → Option (Int32 × jS)
  | 0, _, _ => none
  | n + 1, x16, s17 =>
    if p2 < x16 then
      some (x16, s17)
    else
      Option.bind (L_Mod_handOn_79 p0 p1 x16 s17 jF 0 1) fun (x53, x54) =>
      if jin (x16 - 1) 7 then
      jlet (va_up s17 38 (upd (s17 38) (x16 - 1).toNatClampNeg x53)) fun s56 =>
      jlet (x16 + 1) fun x59 =>
      L_Mod_handOn_67 p0 p1 p2 n x59 s56
      else none

def f_Mod_handOn (p0 : Int32) (p1 : Int32) (p2 : Int32) (s : jS) : Option (jS) :=
  Option.bind (α := Int32) (
    if (s 15 0) = 0 then
      some 1
    else
      if ¬ (s 16 0) = 0 then
        Option.bind (f_Mod_enough p0 s) fun x3 =>
        if x3 = 0 then
          some 2
        else
          if p2 < 1 then
            some 2
          else
            if 7 < p2 then
              some 2
            else
              if p1 < 1 then
                some 2
              else
                if p1 ≤ p2 then
                  some 0
                else
                  some 2
      else
        some 1) fun x10 =>
  jlet (va_up s 0 (fun _ => x10)) fun s13 =>
  if (s13 0 0) ≤ 0 then
    Option.bind (L_Mod_handOn_67 p0 p1 p2 jF 1 s13) fun (x61, s62) =>
    jlet (va_up s62 11 (fun _ => p2)) fun s64 =>
    jlet (va_up s64 12 (fun _ => p1)) fun s66 =>
    Option.bind (f_Mod_forget s66) fun s68 =>
    Option.bind (L_Mod_handOn_230 jF 0 s68) fun (x86, s87) =>
    some s87
  else
    some s13

