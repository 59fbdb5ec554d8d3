def f_Byte_minus (p0 : Int32) (p1 : Int32) : Option (Int32) :=
  some (p0 ^^^ p1)

def f_Prime_minus (k0 : Nat) (p0 : Int32) (p1 : Int32) : Option (Int32) :=
  if ¬ (fsz k0) = 0 then
  some (jrem ((p0 - p1) + (fsz k0)) (fsz k0))
  else none

def F_minus (f : Nat) (p0 : Int32) (p1 : Int32) : Option Int32 := if f = 0 then f_Byte_minus p0 p1 else f_Prime_minus f p0 p1
def L_Byte_times_8 (p1 : Int32) : Nat → Int32 → Int32 → Int32 → Option (Int32 × Int32 × Int32)
  | 0, _, _, _ => none
  | n + 1, x10, x11, x12 =>
    if 8 ≤ x12 then
      some (x10, x11, x12)
    else
      Option.bind (α := Int32) (
        if ¬ ((p1 >>> (x12 &&& 31)) &&& 1) = 1 then
          some x10
        else
          jlet (x10 ^^^ x11) fun x15 =>
          some x15) fun x17 =>
      jlet (x11 <<< (1 &&& 31)) fun x20 =>
      Option.bind (α := Int32) (
        if x20 ≤ 255 then
          some x20
        else
          jlet (x20 ^^^ 283) fun x22 =>
          some x22) fun x24 =>
      jlet (x12 + 1) fun x27 =>
      L_Byte_times_8 p1 n x17 x24 x27

def f_Byte_times (p0 : Int32) (p1 : Int32) : Option (Int32) :=
  Option.bind (L_Byte_times_8 p1 jF 0 p0 0) fun (x30, x31, x32) =>
  some x30

def f_Prime_times (k0 : Nat) (p0 : Int32) (p1 : Int32) : Option (Int32) :=
  if ¬ (fsz k0) = 0 then
  some (jrem (p0 * p1) (fsz k0))
  else none

def F_times (f : Nat) (p0 : Int32) (p1 : Int32) : Option Int32 := if f = 0 then f_Byte_times p0 p1 else f_Prime_times f p0 p1
def L_Field_inverse_12 (k0 : Nat) : Nat → Int32 → Int32 → Int32 → Option (Int32 × Int32 × Int32)
  | 0, _, _, _ => none
  | n + 1, x11, x12, x13 =>
    if x13 ≤ 0 then
      some (x11, x12, x13)
    else
      Option.bind (α := Int32) (
        if ¬ (x13 &&& 1) = 1 then
          some x11
        else
          Option.bind (F_times k0 x11 x12) fun x17 =>
          some x17) fun x18 =>
      Option.bind (F_times k0 x12 x12) fun x22 =>
      jlet (x13 >>> (1 &&& 31)) fun x23 =>
      L_Field_inverse_12 k0 n x18 x22 x23

def f_Field_inverse (k0 : Nat) (p0 : Int32) : Option (Int32) :=
  jlet ((fsz k0) - 2) fun x10 =>
  Option.bind (L_Field_inverse_12 k0 jF 1 p0 x10) fun (x25, x26, x27) =>
  some x25

def L_Points_countCoefficients_124 (k0 : Nat) (s44 : jU) : Nat → Int32 → Option (Int32)
  | 0, _ => none
  | n + 1, x47 =>
    if x47 ≤ 0 then
      some x47
    else
      if jin (x47 - 1) 12 then
      if ¬ (s44 (32 + 4 * k0) 0 (x47 - 1).toNatClampNeg) = 0 then
        some x47
      else
        jlet (x47 + (-1)) fun x51 =>
        L_Points_countCoefficients_124 k0 s44 n x51
      else none

def L_Points_countCoefficients_34 (k0 : Nat) (x13 : Int32) : Nat → Int32 → jU → Option (Int32 × jU)
  | 0, _, _ => none
  | n + 1, x17, s18 =>
    if x17 < x13 then
      some (x17, s18)
    else
      if jin x17 12 then
      if jin (x17 - 1) 12 then
      Option.bind (F_minus (fnum (s18 (51 + k0) 0 0)) (s18 (32 + 4 * k0) 0 x17.toNatClampNeg) (s18 (32 + 4 * k0) 0 (x17 - 1).toNatClampNeg)) fun x23 =>
      if jin x17 12 then
      if jin (x17 - x13) 12 then
      Option.bind (F_minus (fnum (s18 (51 + k0) 0 0)) (s18 (30 + 4 * k0) 0 x17.toNatClampNeg) (s18 (30 + 4 * k0) 0 (x17 - x13).toNatClampNeg)) fun x27 =>
      Option.bind (f_Field_inverse (fnum (s18 (51 + k0) 0 0)) x27) fun x29 =>
      Option.bind (F_times (fnum (s18 (51 + k0) 0 0)) x23 x29) fun x31 =>
      if jin x17 12 then
      jlet (ups s18 (32 + 4 * k0) 0 (upd (s18 (32 + 4 * k0) 0) x17.toNatClampNeg x31)) fun s32 =>
      jlet (x17 + (-1)) fun x35 =>
      L_Points_countCoefficients_34 k0 x13 n x35 s32
      else none
      else none
      else none
      else none
      else none

def L_Points_countCoefficients_19 (k0 : Nat) : Nat → Int32 → jU → Option (Int32 × jU)
  | 0, _, _ => none
  | n + 1, x13, s14 =>
    if (s14 (33 + 4 * k0) 0 0) ≤ x13 then
      some (x13, s14)
    else
      jlet ((s14 (33 + 4 * k0) 0 0) - 1) fun x16 =>
      Option.bind (L_Points_countCoefficients_34 k0 x13 jF x16 s14) fun (x37, s38) =>
      jlet (x13 + 1) fun x40 =>
      L_Points_countCoefficients_19 k0 n x40 s38

def f_Points_countCoefficients (k0 : Nat) (s : jU) : Option (Int32 × jU) :=
  if jin (s (33 + 4 * k0) 0 0) 13 then
  jlet (ups s (32 + 4 * k0) 0 (va_cpy (s (31 + 4 * k0) 0) (s (32 + 4 * k0) 0) (0 : Int32).toNatClampNeg (0 : Int32).toNatClampNeg (s (33 + 4 * k0) 0 0).toNatClampNeg)) fun s10 =>
  Option.bind (L_Points_countCoefficients_19 k0 jF 1 s10) fun (x43, s44) =>
  jlet (s44 (33 + 4 * k0) 0 0) fun x46 =>
  Option.bind (L_Points_countCoefficients_124 k0 s44 jF x46) fun x53 =>
  some (x53, s44)
  else none

def f_SR_degree (s : jU) : Option (Int32 × jU) :=
  Option.bind (f_Points_countCoefficients 0 s) fun (x11, s12) =>
  some (x11, s12)

def f_Room_stage (s : jU) : Option (Int32) :=
  some (s 22 0 0)

def f_SR_state (s : jU) : Option (Int32) :=
  Option.bind (f_Room_stage s) fun x11 =>
  some x11

def f_Room_everybody (s : jU) : Option (Int32) :=
  some ((1 <<< ((s 20 0 0) &&& 31)) - 1)

def f_Room_qualifiedBits (s : jU) : Option (Int32) :=
  Option.bind (f_Room_everybody s) fun x11 =>
  some ((s 24 0 0) &&& x11)

def f_Room_accusedBits (s : jU) : Option (Int32) :=
  Option.bind (f_Room_everybody s) fun x11 =>
  some ((s 25 0 0) &&& x11)

def f_Room_openedBits (s : jU) : Option (Int32) :=
  Option.bind (f_Room_everybody s) fun x11 =>
  some ((s 26 0 0) &&& x11)

def f_Party_worksIn (k0 : Nat) (p0 : Int32) (s : jU) : Option (Int32) :=
  Option.bind (α := Int32) (
    if (s 10 k0 0) ≤ p0 then
      some 0
    else
      some 1) fun x11 =>
  if jbo x11 then
  some x11
  else none

def f_Party_neverCrashes (k0 : Nat) (s : jU) : Option (Int32) :=
  Option.bind (α := Int32) (
    if ¬ (s 10 k0 0) = 8 then
      some 0
    else
      some 1) fun x11 =>
  if jbo x11 then
  some x11
  else none

def f_SR_bit (p0 : Int32) : Option (Int32) :=
  some (1 <<< ((p0 - 1) &&& 31))

def L_Room_workingBits_4 (s : jU) : Nat → Int32 → Int32 → Option (Int32 × Int32)
  | 0, _, _ => none
  | n + 1, x10, x11 =>
    if (s 20 0 0) < x11 then
      some (x10, x11)
    else
      Option.bind (α := Int32) (
        if ¬ (s 22 0 0) = 1 then
          Option.bind (jidx (x11 - 1) 7) fun k14 =>
          Option.bind (f_Party_neverCrashes k14 s) fun x17 =>
          some x17
        else
          Option.bind (jidx (x11 - 1) 7) fun k18 =>
          Option.bind (f_Party_worksIn k18 ((s 23 0 0) + 1) s) fun x21 =>
          some x21) fun x22 =>
      Option.bind (α := Int32) (
        if x22 = 0 then
          some x10
        else
          Option.bind (f_SR_bit x11) fun x27 =>
          jlet (x10 ||| x27) fun x28 =>
          some x28) fun x30 =>
      jlet (x11 + 1) fun x33 =>
      L_Room_workingBits_4 s n x30 x33

def f_Room_workingBits (s : jU) : Option (Int32) :=
  Option.bind (L_Room_workingBits_4 s jF 0 1) fun (x35, x36) =>
  some x35

def f_SR_parties (p0 : Int32) (s : jU) : Option (Int32) :=
  if p0 = 0 then
    Option.bind (f_Room_qualifiedBits s) fun x15 =>
    some x15
  else
    if p0 = 1 then
      Option.bind (f_Room_accusedBits s) fun x17 =>
      some x17
    else
      if p0 = 2 then
        Option.bind (f_Room_openedBits s) fun x19 =>
        some x19
      else
        if p0 = 3 then
          Option.bind (f_Room_workingBits s) fun x21 =>
          some x21
        else
          some (-1)

def f_Board_size (s : jU) : Option (Int32) :=
  some (s 41 0 0)

def f_SR_board (s : jU) : Option (Int32) :=
  Option.bind (f_Board_size s) fun x11 =>
  some x11

def f_Room_commonKey (s : jU) : Option (Int32) :=
  some (s 27 0 0)

def f_SR_key (s : jU) : Option (Int32) :=
  Option.bind (f_Room_stage s) fun x11 =>
  Option.bind (α := Int32) (
    if ¬ x11 = 2 then
      some (-1)
    else
      Option.bind (f_Room_commonKey s) fun x14 =>
      some x14) fun x15 =>
  some x15

def f_Points_clear (k0 : Nat) (k1 : Nat) (s : jU) : Option (jU) :=
  jlet (ups s (51 + k0) 0 (fun _ => Int32.ofNat k1)) fun s10 =>
  jlet (ups s10 (33 + 4 * k0) 0 (fun _ => 0)) fun s12 =>
  some s12

def f_SR_field (p0 : Int32) (s : jU) : Option (String ⊕ (jU)) :=
  if p0 < 0 then
    some (.inl "java/lang/IllegalArgumentException")
  else
    if p0 < 3 then
      Option.bind (jidx p0 3) fun k12 =>
      Option.bind (f_Points_clear 0 k12 s) fun s15 =>
      some (.inr s15)
    else
      some (.inl "java/lang/IllegalArgumentException")

def f_Field_has (k0 : Nat) (p0 : Int32) : Option (Int32) :=
  Option.bind (α := Int32) (
    if p0 < 0 then
      some 0
    else
      if (fsz k0) ≤ p0 then
        some 0
      else
        some 1) fun x12 =>
  if jbo x12 then
  some x12
  else none

def f_Points_inField (k0 : Nat) (p0 : Int32) (s : jU) : Option (Int32) :=
  Option.bind (f_Field_has (fnum (s (51 + k0) 0 0)) p0) fun x11 =>
  if jbo x11 then
  some x11
  else none

def L_Points_hasAt_2 (k0 : Nat) (p0 : Int32) (s : jU) : Nat → Int32 → Option (Int32 ⊕ (Int32))
  | 0, _ => none
  | n + 1, x10 =>
    if (s (33 + 4 * k0) 0 0) ≤ x10 then
      some (.inr x10)
    else
      if jin x10 12 then
      if ¬ (s (30 + 4 * k0) 0 x10.toNatClampNeg) = p0 then
        jlet (x10 + 1) fun x14 =>
        L_Points_hasAt_2 k0 p0 s n x14
      else
        some (.inl 1)
      else none

def f_Points_hasAt (k0 : Nat) (p0 : Int32) (s : jU) : Option (Int32) :=
  jend (L_Points_hasAt_2 k0 p0 s jF 0) fun x16 =>
  some 0

def f_Points_isFull (k0 : Nat) (s : jU) : Option (Int32) :=
  Option.bind (α := Int32) (
    if ¬ (s (33 + 4 * k0) 0 0) = 12 then
      some 0
    else
      some 1) fun x11 =>
  if jbo x11 then
  some x11
  else none

def f_Points_add (k0 : Nat) (p0 : Int32) (p1 : Int32) (s : jU) : Option (jU) :=
  Option.bind (α := jU) (
    if 12 ≤ (s (33 + 4 * k0) 0 0) then
      some s
    else
      if jin (s (33 + 4 * k0) 0 0) 12 then
      jlet (ups s (30 + 4 * k0) 0 (upd (s (30 + 4 * k0) 0) (s (33 + 4 * k0) 0 0).toNatClampNeg p0)) fun s11 =>
      if jin (s11 (33 + 4 * k0) 0 0) 12 then
      jlet (ups s11 (31 + 4 * k0) 0 (upd (s11 (31 + 4 * k0) 0) (s11 (33 + 4 * k0) 0 0).toNatClampNeg p1)) fun s14 =>
      jlet (ups s14 (33 + 4 * k0) 0 (fun _ => (s14 (33 + 4 * k0) 0 0) + 1)) fun s17 =>
      some s17
      else none
      else none) fun s19 =>
  some s19

def f_Points_size (k0 : Nat) (s : jU) : Option (Int32) :=
  some (s (33 + 4 * k0) 0 0)

def f_SR_point (p0 : Int32) (p1 : Int32) (s : jU) : Option (String ⊕ (Int32 × jU)) :=
  if p0 < 1 then
    some (.inl "java/lang/IllegalArgumentException")
  else
    Option.bind (f_Points_inField 0 p0 s) fun x12 =>
    if x12 = 0 then
      some (.inl "java/lang/IllegalArgumentException")
    else
      Option.bind (f_Points_inField 0 p1 s) fun x15 =>
      if ¬ x15 = 0 then
        Option.bind (f_Points_hasAt 0 p0 s) fun x18 =>
        if ¬ x18 = 0 then
          some (.inl "java/lang/IllegalStateException")
        else
          Option.bind (f_Points_isFull 0 s) fun x21 =>
          if x21 = 0 then
            Option.bind (f_Points_add 0 p0 p1 s) fun s24 =>
            Option.bind (f_Points_size 0 s24) fun x26 =>
            some (.inr (x26, s24))
          else
            some (.inl "java/lang/IllegalStateException")
      else
        some (.inl "java/lang/IllegalArgumentException")

def L_Points_weight_8 (k0 : Nat) (p0 : Int32) (p1 : Int32) (s : jU) : Nat → Int32 → Int32 → Int32 → Option (Int32 × Int32 × Int32)
  | 0, _, _, _ => none
  | n + 1, x10, x11, x12 =>
    if (s (33 + 4 * k0) 0 0) ≤ x12 then
      some (x10, x11, x12)
    else
      Option.bind (α := Int32 × Int32) (
        if x12 = p0 then
          some (x10, x11)
        else
          if jin x12 12 then
          Option.bind (F_minus (fnum (s (51 + k0) 0 0)) p1 (s (30 + 4 * k0) 0 x12.toNatClampNeg)) fun x17 =>
          Option.bind (F_times (fnum (s (51 + k0) 0 0)) x10 x17) fun x19 =>
          if jin p0 12 then
          if jin x12 12 then
          Option.bind (F_minus (fnum (s (51 + k0) 0 0)) (s (30 + 4 * k0) 0 p0.toNatClampNeg) (s (30 + 4 * k0) 0 x12.toNatClampNeg)) fun x23 =>
          Option.bind (F_times (fnum (s (51 + k0) 0 0)) x11 x23) fun x25 =>
          some (x19, x25)
          else none
          else none
          else none) fun (x26, x27) =>
      jlet (x12 + 1) fun x30 =>
      L_Points_weight_8 k0 p0 p1 s n x26 x27 x30

def f_Points_weight (k0 : Nat) (p0 : Int32) (p1 : Int32) (s : jU) : Option (Int32) :=
  Option.bind (L_Points_weight_8 k0 p0 p1 s jF 1 1 0) fun (x32, x33, x34) =>
  Option.bind (f_Field_inverse (fnum (s (51 + k0) 0 0)) x33) fun x37 =>
  Option.bind (F_times (fnum (s (51 + k0) 0 0)) x32 x37) fun x39 =>
  some x39

def f_Byte_plus (p0 : Int32) (p1 : Int32) : Option (Int32) :=
  some (p0 ^^^ p1)

def f_Prime_plus (k0 : Nat) (p0 : Int32) (p1 : Int32) : Option (Int32) :=
  if ¬ (fsz k0) = 0 then
  some (jrem (p0 + p1) (fsz k0))
  else none

def F_plus (f : Nat) (p0 : Int32) (p1 : Int32) : Option Int32 := if f = 0 then f_Byte_plus p0 p1 else f_Prime_plus f p0 p1
def L_Points_valueAt_4 (k0 : Nat) (p0 : Int32) (s : jU) : Nat → Int32 → Int32 → Option (Int32 × Int32)
  | 0, _, _ => none
  | n + 1, x10, x11 =>
    if (s (33 + 4 * k0) 0 0) ≤ x11 then
      some (x10, x11)
    else
      Option.bind (f_Points_weight k0 x11 p0 s) fun x14 =>
      if jin x11 12 then
      Option.bind (F_times (fnum (s (51 + k0) 0 0)) x14 (s (31 + 4 * k0) 0 x11.toNatClampNeg)) fun x17 =>
      Option.bind (F_plus (fnum (s (51 + k0) 0 0)) x10 x17) fun x19 =>
      jlet (x11 + 1) fun x20 =>
      L_Points_valueAt_4 k0 p0 s n x19 x20
      else none

def f_Points_valueAt (k0 : Nat) (p0 : Int32) (s : jU) : Option (Int32) :=
  Option.bind (L_Points_valueAt_4 k0 p0 s jF 0 0) fun (x22, x23) =>
  some x22

def f_SR_combine (p0 : Int32) (s : jU) : Option (String ⊕ (Int32)) :=
  Option.bind (f_Points_inField 0 p0 s) fun x11 =>
  if ¬ x11 = 0 then
    Option.bind (f_Points_size 0 s) fun x14 =>
    if ¬ x14 = 0 then
      Option.bind (f_Points_valueAt 0 p0 s) fun x17 =>
      some (.inr x17)
    else
      some (.inl "java/lang/IllegalStateException")
  else
    some (.inl "java/lang/IllegalArgumentException")

def f_Room_hasGroup (p0 : Int32) : Option (Int32) :=
  Option.bind (α := Int32) (
    if p0 < 0 then
      some 0
    else
      if 2 ≤ p0 then
        some 0
      else
        some 1) fun x12 =>
  if jbo x12 then
  some x12
  else none

def f_Room_isCommittee (p0 : Int32) (p1 : Int32) : Option (Int32) :=
  Option.bind (α := Int32) (
    if p0 < 1 then
      some 0
    else
      if 7 < p0 then
        some 0
      else
        if p1 < 1 then
          some 0
        else
          if p0 < p1 then
            some 0
          else
            some 1) fun x14 =>
  if jbo x14 then
  some x14
  else none

def f_Board_clear (s : jU) : Option (jU) :=
  jlet (ups s 41 0 (fun _ => 0)) fun s10 =>
  some s10

def f_Party_forget (k0 : Nat) (s : jU) : Option (jU) :=
  jlet (ups s 0 k0 (afl 7 0 (s 0 k0))) fun s10 =>
  jlet (ups s10 1 k0 (afl 7 0 (s10 1 k0))) fun s12 =>
  jlet (ups s12 2 k0 (afl 7 0 (s12 2 k0))) fun s14 =>
  jlet (ups s14 10 k0 (fun _ => 8)) fun s16 =>
  some s16

def L_Party_clear_6 (k0 : Nat) : Nat → Int32 → jU → Option (Int32 × jU)
  | 0, _, _ => none
  | n + 1, x12, s13 =>
    if 2 ≤ x12 then
      some (x12, s13)
    else
      Option.bind (jidx x12 2) fun k15 =>
      jlet (ups s13 (3 + k15) k0 (afl 7 (-1) (s13 (3 + k15) k0))) fun s17 =>
      Option.bind (jidx x12 2) fun k19 =>
      jlet (ups s17 (5 + k19) k0 (afl 8 (-1) (s17 (5 + k19) k0))) fun s21 =>
      Option.bind (jidx x12 2) fun k23 =>
      jlet (ups s21 (7 + k23) k0 (afl 8 (-1) (s21 (7 + k23) k0))) fun s25 =>
      if jin x12 2 then
      jlet (ups s25 9 k0 (upd (s25 9 k0) x12.toNatClampNeg (-1))) fun s27 =>
      jlet (x12 + 1) fun x30 =>
      L_Party_clear_6 k0 n x30 s27
      else none

def f_Party_clear (k0 : Nat) (s : jU) : Option (jU) :=
  Option.bind (f_Party_forget k0 s) fun s11 =>
  Option.bind (L_Party_clear_6 k0 jF 0 s11) fun (x32, s33) =>
  jlet (ups s33 11 k0 (fun _ => 0)) fun s35 =>
  jlet (ups s35 12 k0 (fun _ => 0)) fun s37 =>
  jlet (ups s37 13 k0 (fun _ => 0)) fun s39 =>
  some s39

def L_Room_start_77 : Nat → Int32 → jU → Option (Int32 × jU)
  | 0, _, _ => none
  | n + 1, x34, s35 =>
    if 7 < x34 then
      some (x34, s35)
    else
      Option.bind (jidx (x34 - 1) 7) fun k37 =>
      Option.bind (f_Party_clear k37 s35) fun s40 =>
      jlet (x34 + 1) fun x41 =>
      L_Room_start_77 n x41 s40

def f_Room_start (p0 : Int32) (p1 : Int32) (p2 : Int32) (s : jU) : Option (jU) :=
  Option.bind (jidx p0 2) fun k10 =>
  jlet (ups s 50 0 (fun _ => Int32.ofNat k10)) fun s12 =>
  jlet (ups s12 53 0 (fun _ => Int32.ofNat (1 + (gnum (s12 50 0 0))))) fun s14 =>
  jlet (ups s14 20 0 (fun _ => p1)) fun s16 =>
  jlet (ups s16 21 0 (fun _ => p2)) fun s18 =>
  jlet (ups s18 22 0 (fun _ => 1)) fun s20 =>
  jlet (ups s20 23 0 (fun _ => 0)) fun s22 =>
  jlet (ups s22 24 0 (fun _ => 0)) fun s24 =>
  jlet (ups s24 25 0 (fun _ => 0)) fun s26 =>
  jlet (ups s26 26 0 (fun _ => 0)) fun s28 =>
  jlet (ups s28 27 0 (fun _ => gneu (gnum (s28 50 0 0)))) fun s30 =>
  Option.bind (f_Board_clear s30) fun s33 =>
  Option.bind (L_Room_start_77 jF 1 s33) fun (x43, s44) =>
  some s44

def f_SR_begin (p0 : Int32) (p1 : Int32) (p2 : Int32) (s : jU) : Option (String ⊕ (jU)) :=
  Option.bind (f_Room_hasGroup p0) fun x11 =>
  if x11 = 0 then
    some (.inl "java/lang/IllegalArgumentException")
  else
    Option.bind (f_Room_isCommittee p1 p2) fun x14 =>
    if ¬ x14 = 0 then
      Option.bind (f_Room_start p0 p1 p2 s) fun s17 =>
      some (.inr s17)
    else
      some (.inl "java/lang/IllegalArgumentException")

def f_Room_takesCoefficients (s : jU) : Option (Int32) :=
  Option.bind (α := Int32) (
    if (s 22 0 0) = 0 then
      some 0
    else
      if (s 23 0 0) = 0 then
        some 1
      else
        if (s 22 0 0) = 1 then
          some 0
        else
          some 1) fun x13 =>
  if jbo x13 then
  some x13
  else none

def f_Room_hasParty (p0 : Int32) (s : jU) : Option (Int32) :=
  Option.bind (α := Int32) (
    if p0 < 1 then
      some 0
    else
      if (s 20 0 0) < p0 then
        some 0
      else
        some 1) fun x12 =>
  if jbo x12 then
  some x12
  else none

def f_SR_needParty (p0 : Int32) (s : jU) : Option (String ⊕ (Unit)) :=
  Option.bind (f_Room_hasParty p0 s) fun x11 =>
  if ¬ x11 = 0 then
    some (.inr ())
  else
    some (.inl "java/lang/IllegalArgumentException")

def f_Room_hasCoefficient (p0 : Int32) (s : jU) : Option (Int32) :=
  Option.bind (α := Int32) (
    if p0 < 0 then
      some 0
    else
      if (s 21 0 0) ≤ p0 then
        some 0
      else
        some 1) fun x12 =>
  if jbo x12 then
  some x12
  else none

def f_SR_needCoefficient (p0 : Int32) (s : jU) : Option (String ⊕ (Unit)) :=
  Option.bind (f_Room_hasCoefficient p0 s) fun x11 =>
  if ¬ x11 = 0 then
    some (.inr ())
  else
    some (.inl "java/lang/IllegalArgumentException")

def f_SR_needWhich (p0 : Int32) : Option (String ⊕ (Unit)) :=
  if p0 = 0 then
    some (.inr ())
  else
    if p0 = 1 then
      some (.inr ())
    else
      some (.inl "java/lang/IllegalArgumentException")

def f_Math_floorMod (p0 : Int32) (p1 : Int32) : Option (Int32) :=
  if ¬ p1 = 0 then
  jlet (jrem p0 p1) fun x11 =>
  if 0 ≤ (p0 ^^^ p1) then
    some x11
  else
    if x11 = 0 then
      some x11
    else
      some (x11 + p1)
  else none

def f_Room_setCoefficient (p0 : Int32) (p1 : Int32) (p2 : Int32) (p3 : Int32) (s : jU) : Option (jU) :=
  Option.bind (jidx (p0 - 1) 7) fun k10 =>
  Option.bind (jidx p2 2) fun k12 =>
  Option.bind (f_Math_floorMod p3 (fsz (fnum (s 53 0 0)))) fun x15 =>
  if jin p1 7 then
  jlet (ups s (0 + k12) k10 (upd (s (0 + k12) k10) p1.toNatClampNeg x15)) fun s16 =>
  some s16
  else none

def f_SR_give (p0 : Int32) (p1 : Int32) (p2 : Int32) (p3 : Int32) (s : jU) : Option (String ⊕ (jU)) :=
  Option.bind (f_Room_takesCoefficients s) fun x11 =>
  if ¬ x11 = 0 then
    jtry (f_SR_needParty p0 s) fun _ =>
    jtry (f_SR_needCoefficient p1 s) fun _ =>
    jtry (f_SR_needWhich p2) fun _ =>
    Option.bind (f_Room_setCoefficient p0 p1 p2 p3 s) fun s17 =>
    some (.inr s17)
  else
    some (.inl "java/lang/IllegalStateException")

def f_Room_isBeforeRounds (s : jU) : Option (Int32) :=
  Option.bind (α := Int32) (
    if (s 22 0 0) = 0 then
      some 0
    else
      if ¬ (s 23 0 0) = 0 then
        some 0
      else
        some 1) fun x12 =>
  if jbo x12 then
  some x12
  else none

def f_SR_needBeforeRounds (s : jU) : Option (String ⊕ (Unit)) :=
  Option.bind (f_Room_isBeforeRounds s) fun x11 =>
  if ¬ x11 = 0 then
    some (.inr ())
  else
    some (.inl "java/lang/IllegalStateException")

def f_Party_concernsAnother (p0 : Int32) : Option (Int32) :=
  Option.bind (α := Int32) (
    if p0 = 1 then
      some 1
    else
      if ¬ p0 = 2 then
        some 0
      else
        some 1) fun x12 =>
  if jbo x12 then
  some x12
  else none

def f_Room_setFault (p0 : Int32) (p1 : Int32) (p2 : Int32) (s : jU) : Option (jU) :=
  Option.bind (jidx (p0 - 1) 7) fun k10 =>
  if jin p1 7 then
  jlet (ups s 2 k10 (upd (s 2 k10) p1.toNatClampNeg p2)) fun s12 =>
  some s12
  else none

def f_SR_fault (p0 : Int32) (p1 : Int32) (p2 : Int32) (s : jU) : Option (String ⊕ (jU)) :=
  jtry (f_SR_needBeforeRounds s) fun _ =>
  jtry (f_SR_needParty p0 s) fun _ =>
  if p1 < 0 then
    some (.inl "java/lang/IllegalArgumentException")
  else
    if p1 < 7 then
      Option.bind (f_Party_concernsAnother p1) fun x15 =>
      if ¬ x15 = 0 then
        jtry (f_SR_needParty p2 s) fun _ =>
        if ¬ p0 = p2 then
          Option.bind (f_Room_setFault p0 p1 p2 s) fun s20 =>
          some (.inr s20)
        else
          some (.inl "java/lang/IllegalArgumentException")
      else
        Option.bind (f_Room_setFault p0 p1 p0 s) fun s22 =>
        some (.inr s22)
    else
      some (.inl "java/lang/IllegalArgumentException")

def f_Room_setCrash (p0 : Int32) (p1 : Int32) (s : jU) : Option (jU) :=
  Option.bind (jidx (p0 - 1) 7) fun k10 =>
  jlet (ups s 10 k10 (fun _ => p1)) fun s12 =>
  some s12

def f_SR_crash (p0 : Int32) (p1 : Int32) (s : jU) : Option (String ⊕ (jU)) :=
  jtry (f_SR_needBeforeRounds s) fun _ =>
  jtry (f_SR_needParty p0 s) fun _ =>
  if p1 < 1 then
    some (.inl "java/lang/IllegalArgumentException")
  else
    if p1 ≤ 8 then
      Option.bind (f_Room_setCrash p0 p1 s) fun s15 =>
      some (.inr s15)
    else
      some (.inl "java/lang/IllegalArgumentException")

def f_Party_has (k0 : Nat) (p0 : Int32) (s : jU) : Option (Int32) :=
  if jin p0 7 then
  Option.bind (α := Int32) (
    if (s 2 k0 p0.toNatClampNeg) = 0 then
      some 0
    else
      some 1) fun x12 =>
  if jbo x12 then
  some x12
  else none
  else none

def f_Board_writeByte (p0 : Int32) (s : jU) : Option (jU) :=
  Option.bind (α := jU) (
    if 1050 ≤ (s 41 0 0) then
      some s
    else
      if jin (s 41 0 0) 1050 then
      jlet (ups s 40 0 (upd (s 40 0) (s 41 0 0).toNatClampNeg p0.toInt8.toInt32.toInt8.toInt32)) fun s11 =>
      jlet (ups s11 41 0 (fun _ => (s11 41 0 0) + 1)) fun s14 =>
      some s14
      else none) fun s16 =>
  some s16

def f_Board_write (p0 : Int32) (p1 : Int32) (s : jU) : Option (jU) :=
  Option.bind (f_Board_writeByte p0 s) fun s11 =>
  Option.bind (f_Board_writeByte p1 s11) fun s13 =>
  some s13

def f_Square_product (p0 : Int32) (p1 : Int32) : Option (Int32) :=
  some (jrem (p0 * p1) 2039)

def f_Curve_product (p0 : Int32) (p1 : Int32) : Option (Int32) :=
  if ¬ p0 = 4000 then
    if ¬ p1 = 4000 then
      jlet (p0 >>> (6 &&& 31)) fun x12 =>
      jlet (p0 &&& 63) fun x13 =>
      jlet (p1 >>> (6 &&& 31)) fun x14 =>
      jlet (p1 &&& 63) fun x15 =>
      if ¬ x12 = x14 then
        Option.bind (α := Int32) (
          if ¬ x12 = x14 then
            some ((x15 - x13) + 43)
          else
            some ((3 * x12) * x12)) fun x18 =>
        Option.bind (α := Int32) (
          if ¬ x12 = x14 then
            some ((x14 - x12) + 43)
          else
            some (2 * x13)) fun x22 =>
        jlet (jrem x22 43) fun x25 =>
        if jin x25 43 then
        jlet (jrem (x18 * (invT x25.toNatClampNeg)) 43) fun x27 =>
        jlet (jrem ((((x27 * x27) + 86) - x12) - x14) 43) fun x28 =>
        jlet (jrem (((x27 * ((x12 - x28) + 43)) + 43) - x13) 43) fun x29 =>
        some ((x28 <<< (6 &&& 31)) ||| x29)
        else none
      else
        if ¬ (x13 + x15) = 43 then
          Option.bind (α := Int32) (
            if ¬ x12 = x14 then
              some ((x15 - x13) + 43)
            else
              some ((3 * x12) * x12)) fun x36 =>
          Option.bind (α := Int32) (
            if ¬ x12 = x14 then
              some ((x14 - x12) + 43)
            else
              some (2 * x13)) fun x40 =>
          jlet (jrem x40 43) fun x43 =>
          if jin x43 43 then
          jlet (jrem (x36 * (invT x43.toNatClampNeg)) 43) fun x45 =>
          jlet (jrem ((((x45 * x45) + 86) - x12) - x14) 43) fun x46 =>
          jlet (jrem (((x45 * ((x12 - x46) + 43)) + 43) - x13) 43) fun x47 =>
          some ((x46 <<< (6 &&& 31)) ||| x47)
          else none
        else
          some 4000
    else
      some p0
  else
    some p1

def G_product (f : Nat) (p0 : Int32) (p1 : Int32) : Option Int32 := if f = 0 then f_Square_product p0 p1 else f_Curve_product p0 p1
def L_Group_power_11 (k0 : Nat) : Nat → Int32 → Int32 → Int32 → Option (Int32 × Int32 × Int32)
  | 0, _, _, _ => none
  | n + 1, x11, x12, x13 =>
    if x13 ≤ 0 then
      some (x11, x12, x13)
    else
      Option.bind (α := Int32) (
        if ¬ (x13 &&& 1) = 1 then
          some x11
        else
          Option.bind (G_product k0 x11 x12) fun x17 =>
          some x17) fun x18 =>
      Option.bind (G_product k0 x12 x12) fun x22 =>
      jlet (x13 >>> (1 &&& 31)) fun x23 =>
      L_Group_power_11 k0 n x18 x22 x23

def f_Group_power (k0 : Nat) (p0 : Int32) (p1 : Int32) : Option (Int32) :=
  jlet (gneu k0) fun x10 =>
  Option.bind (L_Group_power_11 k0 jF x10 p0 p1) fun (x25, x26, x27) =>
  some x25

def f_Group_commit (k0 : Nat) (p0 : Int32) (p1 : Int32) : Option (Int32) :=
  Option.bind (f_Group_power k0 (ggen k0) p0) fun x11 =>
  Option.bind (f_Group_power k0 (ghei k0) p1) fun x13 =>
  Option.bind (G_product k0 x11 x13) fun x15 =>
  some x15

def f_Board_writePair (p0 : Int32) (s : jU) : Option (jU) :=
  Option.bind (f_Board_writeByte (p0 >>> (8 &&& 31)) s) fun s11 =>
  Option.bind (f_Board_writeByte p0 s11) fun s13 =>
  some s13

def L_Field_polynomialAt_8 (k0 : Nat) (N1 : Nat) (g1 : Nat → Int32) (p3 : Int32) : Nat → Int32 → Int32 → Option (Int32 × Int32)
  | 0, _, _ => none
  | n + 1, x11, x12 =>
    if x12 ≤ 0 then
      some (x11, x12)
    else
      if jin x12 N1 then
      Option.bind (F_plus k0 x11 (g1 x12.toNatClampNeg)) fun x16 =>
      Option.bind (F_times k0 x16 p3) fun x18 =>
      jlet (x12 + (-1)) fun x19 =>
      L_Field_polynomialAt_8 k0 N1 g1 p3 n x18 x19
      else none

def f_Field_polynomialAt (k0 : Nat) (p0 : Int32) (N1 : Nat) (g1 : Nat → Int32) (p2 : Int32) (p3 : Int32) : Option (Int32) :=
  jlet (p2 - 1) fun x10 =>
  Option.bind (L_Field_polynomialAt_8 k0 N1 g1 p3 jF 0 x10) fun (x21, x22) =>
  Option.bind (F_plus k0 x21 p0) fun x25 =>
  some x25

def f_Room_dealtNumber (p0 : Int32) (p1 : Int32) (p2 : Int32) (s : jU) : Option (Int32) :=
  Option.bind (jidx (p0 - 1) 7) fun k10 =>
  Option.bind (jidx p2 2) fun k12 =>
  if jin 0 7 then
  Option.bind (f_Field_polynomialAt (fnum (s 53 0 0)) (s (0 + k12) k10 (0 : Int32).toNatClampNeg) 7 (s (0 + k12) k10) (s 21 0 0) p1) fun x16 =>
  some x16
  else none

def L_Room_deal_82 (p0 : Int32) (k10 : Nat) : Nat → Int32 → jU → Option (Int32 × jU)
  | 0, _, _ => none
  | n + 1, x33, s34 =>
    if (s34 20 0 0) < x33 then
      some (x33, s34)
    else
      Option.bind (f_Room_dealtNumber p0 x33 0 s34) fun x37 =>
      if jin 1 7 then
      Option.bind (α := Int32) (
        if ¬ (s34 2 k10 (1 : Int32).toNatClampNeg) = x33 then
          some 0
        else
          some 1) fun x40 =>
      Option.bind (jidx (x33 - 1) 7) fun k43 =>
      Option.bind (α := Int32) (
        if x40 = 0 then
          some x37
        else
          Option.bind (F_plus (fnum (s34 53 0 0)) x37 1) fun x47 =>
          some x47) fun x48 =>
      if jin p0 8 then
      jlet (ups s34 5 k43 (upd (s34 5 k43) p0.toNatClampNeg x48)) fun s51 =>
      Option.bind (jidx (x33 - 1) 7) fun k54 =>
      Option.bind (f_Room_dealtNumber p0 x33 1 s51) fun x57 =>
      if jin p0 8 then
      jlet (ups s51 6 k54 (upd (s51 6 k54) p0.toNatClampNeg x57)) fun s58 =>
      jlet (x33 + 1) fun x61 =>
      L_Room_deal_82 p0 k10 n x61 s58
      else none
      else none
      else none

def L_Room_deal_22 (k10 : Nat) : Nat → Int32 → jU → Option (Int32 × jU)
  | 0, _, _ => none
  | n + 1, x16, s17 =>
    if (s17 21 0 0) ≤ x16 then
      some (x16, s17)
    else
      if jin x16 7 then
      if jin x16 7 then
      Option.bind (f_Group_commit (gnum (s17 50 0 0)) (s17 0 k10 x16.toNatClampNeg) (s17 1 k10 x16.toNatClampNeg)) fun x22 =>
      if jin x16 7 then
      jlet (ups s17 3 k10 (upd (s17 3 k10) x16.toNatClampNeg x22)) fun s23 =>
      Option.bind (f_Board_writePair x22 s23) fun s27 =>
      jlet (x16 + 1) fun x28 =>
      L_Room_deal_22 k10 n x28 s27
      else none
      else none
      else none

def f_Room_deal (p0 : Int32) (s : jU) : Option (jU) :=
  Option.bind (jidx (p0 - 1) 7) fun k10 =>
  jlet (ups s 12 k10 (fun _ => 1)) fun s12 =>
  Option.bind (f_Board_write 1 p0 s12) fun s15 =>
  Option.bind (L_Room_deal_22 k10 jF 0 s15) fun (x30, s31) =>
  Option.bind (L_Room_deal_82 p0 k10 jF 1 s31) fun (x63, s64) =>
  some s64

def L_Room_dealAll_2 : Nat → Int32 → jU → Option (Int32 × jU)
  | 0, _, _ => none
  | n + 1, x10, s11 =>
    if (s11 20 0 0) < x10 then
      some (x10, s11)
    else
      Option.bind (jidx (x10 - 1) 7) fun k13 =>
      Option.bind (f_Party_worksIn k13 1 s11) fun x16 =>
      Option.bind (α := jU) (
        if x16 = 0 then
          some s11
        else
          Option.bind (jidx (x10 - 1) 7) fun k18 =>
          Option.bind (f_Party_has k18 0 s11) fun x21 =>
          if ¬ x21 = 0 then
            some s11
          else
            Option.bind (f_Room_deal x10 s11) fun s24 =>
            some s24) fun s25 =>
      jlet (x10 + 1) fun x28 =>
      L_Room_dealAll_2 n x28 s25

def f_Room_dealAll (s : jU) : Option (jU) :=
  Option.bind (L_Room_dealAll_2 jF 1 s) fun (x30, s31) =>
  some s31

def L_Group_polynomialInExponents_11 (k0 : Nat) (N0 : Nat) (g0 : Nat → Int32) (p2 : Int32) : Nat → Int32 → Int32 → Option (Int32 × Int32)
  | 0, _, _ => none
  | n + 1, x12, x13 =>
    if x13 < 0 then
      some (x12, x13)
    else
      Option.bind (f_Group_power k0 x12 p2) fun x16 =>
      if jin x13 N0 then
      Option.bind (G_product k0 x16 (g0 x13.toNatClampNeg)) fun x19 =>
      jlet (x13 + (-1)) fun x20 =>
      L_Group_polynomialInExponents_11 k0 N0 g0 p2 n x19 x20
      else none

def f_Group_polynomialInExponents (k0 : Nat) (N0 : Nat) (g0 : Nat → Int32) (p1 : Int32) (p2 : Int32) : Option (Int32) :=
  jlet (gneu k0) fun x10 =>
  jlet (p1 - 1) fun x11 =>
  Option.bind (L_Group_polynomialInExponents_11 k0 N0 g0 p2 jF x10 x11) fun (x22, x23) =>
  some x22

def f_Room_fits (p0 : Int32) (p1 : Int32) (p2 : Int32) (p3 : Int32) (s : jU) : Option (Int32) :=
  Option.bind (jidx (p0 - 1) 7) fun k10 =>
  Option.bind (f_Group_polynomialInExponents (gnum (s 50 0 0)) 7 (s 3 k10) (s 21 0 0) p1) fun x13 =>
  Option.bind (f_Group_commit (gnum (s 50 0 0)) p2 p3) fun x15 =>
  Option.bind (α := Int32) (
    if ¬ x15 = x13 then
      some 0
    else
      some 1) fun x17 =>
  if jbo x17 then
  some x17
  else none

def L_Room_complain_8 (p0 : Int32) (k10 : Nat) : Nat → Int32 → jU → Option (Int32 × jU)
  | 0, _, _ => none
  | n + 1, x12, s13 =>
    if (s13 20 0 0) < x12 then
      some (x12, s13)
    else
      Option.bind (jidx (x12 - 1) 7) fun k15 =>
      Option.bind (α := jU) (
        if ¬ (s13 12 k15 0) = 0 then
          if jin 2 7 then
          Option.bind (α := Int32) (
            if ¬ (s13 2 k10 (2 : Int32).toNatClampNeg) = x12 then
              some 0
            else
              some 1) fun x20 =>
          if ¬ x20 = 0 then
            Option.bind (jidx (x12 - 1) 7) fun k24 =>
            Option.bind (f_SR_bit p0) fun x27 =>
            jlet (ups s13 11 k24 (fun _ => (s13 11 k24 0) ||| x27)) fun s28 =>
            Option.bind (f_Board_write 2 p0 s28) fun s31 =>
            Option.bind (f_Board_writeByte x12 s31) fun s33 =>
            some s33
          else
            if jin x12 8 then
            if jin x12 8 then
            Option.bind (f_Room_fits x12 p0 (s13 5 k10 x12.toNatClampNeg) (s13 6 k10 x12.toNatClampNeg) s13) fun x37 =>
            if ¬ x37 = 0 then
              some s13
            else
              Option.bind (jidx (x12 - 1) 7) fun k39 =>
              Option.bind (f_SR_bit p0) fun x42 =>
              jlet (ups s13 11 k39 (fun _ => (s13 11 k39 0) ||| x42)) fun s43 =>
              Option.bind (f_Board_write 2 p0 s43) fun s46 =>
              Option.bind (f_Board_writeByte x12 s46) fun s48 =>
              some s48
            else none
            else none
          else none
        else
          some s13) fun s49 =>
      jlet (x12 + 1) fun x52 =>
      L_Room_complain_8 p0 k10 n x52 s49

def f_Room_complain (p0 : Int32) (s : jU) : Option (jU) :=
  Option.bind (jidx (p0 - 1) 7) fun k10 =>
  Option.bind (L_Room_complain_8 p0 k10 jF 1 s) fun (x54, s55) =>
  some s55

def L_Room_complainAll_2 : Nat → Int32 → jU → Option (Int32 × jU)
  | 0, _, _ => none
  | n + 1, x10, s11 =>
    if (s11 20 0 0) < x10 then
      some (x10, s11)
    else
      Option.bind (jidx (x10 - 1) 7) fun k13 =>
      Option.bind (f_Party_worksIn k13 2 s11) fun x16 =>
      Option.bind (α := jU) (
        if x16 = 0 then
          some s11
        else
          Option.bind (f_Room_complain x10 s11) fun s19 =>
          some s19) fun s20 =>
      jlet (x10 + 1) fun x23 =>
      L_Room_complainAll_2 n x23 s20

def f_Room_complainAll (s : jU) : Option (jU) :=
  Option.bind (L_Room_complainAll_2 jF 1 s) fun (x25, s26) =>
  some s26

def f_Party_isComplainedOf (k0 : Nat) (p0 : Int32) (s : jU) : Option (Int32) :=
  Option.bind (f_SR_bit p0) fun x11 =>
  Option.bind (α := Int32) (
    if ((s 11 k0 0) &&& x11) = 0 then
      some 0
    else
      some 1) fun x13 =>
  if jbo x13 then
  some x13
  else none

def f_Room_writeNumbers (p0 : Int32) (p1 : Int32) (p2 : Int32) (s : jU) : Option (jU) :=
  Option.bind (f_Board_writeByte p0 s) fun s11 =>
  Option.bind (f_Board_writePair p1 s11) fun s13 =>
  Option.bind (f_Board_writePair p2 s13) fun s15 =>
  some s15

def L_Room_answer_8 (p0 : Int32) (k10 : Nat) : Nat → Int32 → jU → Option (Int32 × jU)
  | 0, _, _ => none
  | n + 1, x12, s13 =>
    if (s13 20 0 0) < x12 then
      some (x12, s13)
    else
      Option.bind (f_Party_isComplainedOf k10 x12 s13) fun x16 =>
      Option.bind (α := jU) (
        if ¬ x16 = 0 then
          Option.bind (f_Room_dealtNumber p0 x12 0 s13) fun x19 =>
          Option.bind (f_Room_dealtNumber p0 x12 1 s13) fun x21 =>
          Option.bind (f_Party_has k10 4 s13) fun x23 =>
          Option.bind (α := Int32) (
            if x23 = 0 then
              some x19
            else
              Option.bind (F_plus (fnum (s13 53 0 0)) x19 1) fun x26 =>
              some x26) fun x27 =>
          if jin x12 8 then
          jlet (ups s13 7 k10 (upd (s13 7 k10) x12.toNatClampNeg x27)) fun s30 =>
          if jin x12 8 then
          jlet (ups s30 8 k10 (upd (s30 8 k10) x12.toNatClampNeg x21)) fun s33 =>
          Option.bind (f_Board_write 3 p0 s33) fun s37 =>
          if jin x12 8 then
          Option.bind (f_Room_writeNumbers x12 (s37 7 k10 x12.toNatClampNeg) x21 s37) fun s40 =>
          some s40
          else none
          else none
          else none
        else
          some s13) fun s41 =>
      jlet (x12 + 1) fun x44 =>
      L_Room_answer_8 p0 k10 n x44 s41

def f_Room_answer (p0 : Int32) (s : jU) : Option (jU) :=
  Option.bind (jidx (p0 - 1) 7) fun k10 =>
  Option.bind (L_Room_answer_8 p0 k10 jF 1 s) fun (x46, s47) =>
  some s47

def L_Room_answerAll_2 : Nat → Int32 → jU → Option (Int32 × jU)
  | 0, _, _ => none
  | n + 1, x10, s11 =>
    if (s11 20 0 0) < x10 then
      some (x10, s11)
    else
      Option.bind (jidx (x10 - 1) 7) fun k13 =>
      Option.bind (f_Party_worksIn k13 3 s11) fun x16 =>
      Option.bind (α := jU) (
        if x16 = 0 then
          some s11
        else
          Option.bind (jidx (x10 - 1) 7) fun k18 =>
          Option.bind (f_Party_has k18 3 s11) fun x21 =>
          if ¬ x21 = 0 then
            some s11
          else
            Option.bind (f_Room_answer x10 s11) fun s24 =>
            some s24) fun s25 =>
      jlet (x10 + 1) fun x28 =>
      L_Room_answerAll_2 n x28 s25

def f_Room_answerAll (s : jU) : Option (jU) :=
  Option.bind (L_Room_answerAll_2 jF 1 s) fun (x30, s31) =>
  some s31

def f_Integer_bitCount (p0 : Int32) : Option (Int32) :=
  jlet (p0 - ((jushr p0 1) &&& 1431655765)) fun x10 =>
  jlet ((x10 &&& 858993459) + ((jushr x10 2) &&& 858993459)) fun x11 =>
  jlet ((x11 + (jushr x11 4)) &&& 252645135) fun x12 =>
  jlet (x12 + (jushr x12 8)) fun x13 =>
  jlet (x13 + (jushr x13 16)) fun x14 =>
  some (x14 &&& 63)

def f_Party_hasAnswered (k0 : Nat) (p0 : Int32) (s : jU) : Option (Int32) :=
  if jin p0 8 then
  Option.bind (α := Int32) (
    if (s 7 k0 p0.toNatClampNeg) = (-1) then
      some 0
    else
      some 1) fun x12 =>
  if jbo x12 then
  some x12
  else none
  else none

def L_Room_isOut_31 (p0 : Int32) (s : jU) (k10 : Nat) : Nat → Int32 → Option (Int32 ⊕ (Int32))
  | 0, _ => none
  | n + 1, x16 =>
    if (s 20 0 0) < x16 then
      some (.inr x16)
    else
      Option.bind (f_Party_isComplainedOf k10 x16 s) fun x19 =>
      if x19 = 0 then
        jlet (x16 + 1) fun x21 =>
        L_Room_isOut_31 p0 s k10 n x21
      else
        Option.bind (f_Party_hasAnswered k10 x16 s) fun x24 =>
        if x24 = 0 then
          some (.inl 1)
        else
          if jin x16 8 then
          if jin x16 8 then
          Option.bind (f_Room_fits p0 x16 (s 7 k10 x16.toNatClampNeg) (s 8 k10 x16.toNatClampNeg) s) fun x29 =>
          if ¬ x29 = 0 then
            jlet (x16 + 1) fun x31 =>
            L_Room_isOut_31 p0 s k10 n x31
          else
            some (.inl 1)
          else none
          else none

def f_Room_isOut (p0 : Int32) (s : jU) : Option (Int32) :=
  Option.bind (jidx (p0 - 1) 7) fun k10 =>
  if (s 12 k10 0) = 0 then
    some 1
  else
    Option.bind (f_Integer_bitCount (s 11 k10 0)) fun x14 =>
    if x14 < (s 21 0 0) then
      jend (L_Room_isOut_31 p0 s k10 jF 1) fun x33 =>
      some 0
    else
      some 1

def L_Room_takeAnswers_8 (p0 : Int32) (k10 : Nat) : Nat → Int32 → jU → Option (Int32 × jU)
  | 0, _, _ => none
  | n + 1, x12, s13 =>
    if (s13 20 0 0) < x12 then
      some (x12, s13)
    else
      Option.bind (f_Party_hasAnswered k10 x12 s13) fun x16 =>
      Option.bind (α := jU) (
        if x16 = 0 then
          some s13
        else
          Option.bind (jidx (x12 - 1) 7) fun k18 =>
          if jin x12 8 then
          if jin p0 8 then
          jlet (ups s13 5 k18 (upd (s13 5 k18) p0.toNatClampNeg (s13 7 k10 x12.toNatClampNeg))) fun s21 =>
          Option.bind (jidx (x12 - 1) 7) fun k24 =>
          if jin x12 8 then
          if jin p0 8 then
          jlet (ups s21 6 k24 (upd (s21 6 k24) p0.toNatClampNeg (s21 8 k10 x12.toNatClampNeg))) fun s27 =>
          some s27
          else none
          else none
          else none
          else none) fun s30 =>
      jlet (x12 + 1) fun x33 =>
      L_Room_takeAnswers_8 p0 k10 n x33 s30

def f_Room_takeAnswers (p0 : Int32) (s : jU) : Option (jU) :=
  Option.bind (jidx (p0 - 1) 7) fun k10 =>
  Option.bind (L_Room_takeAnswers_8 p0 k10 jF 1 s) fun (x35, s36) =>
  some s36

def f_Room_isQualified (p0 : Int32) (s : jU) : Option (Int32) :=
  Option.bind (f_SR_bit p0) fun x11 =>
  Option.bind (α := Int32) (
    if ((s 24 0 0) &&& x11) = 0 then
      some 0
    else
      some 1) fun x13 =>
  if jbo x13 then
  some x13
  else none

def L_Room_sumUp_5 (p0 : Int32) (p1 : Int32) (s : jU) : Nat → Int32 → Int32 → Option (Int32 × Int32)
  | 0, _, _ => none
  | n + 1, x10, x11 =>
    if (s 20 0 0) < x11 then
      some (x10, x11)
    else
      Option.bind (f_Room_isQualified x11 s) fun x14 =>
      Option.bind (α := Int32) (
        if x14 = 0 then
          some x10
        else
          Option.bind (jidx (p0 - 1) 7) fun k16 =>
          Option.bind (jidx p1 2) fun k18 =>
          if jin x11 8 then
          Option.bind (F_plus (fnum (s 53 0 0)) x10 (s (5 + k18) k16 x11.toNatClampNeg)) fun x22 =>
          some x22
          else none) fun x23 =>
      jlet (x11 + 1) fun x26 =>
      L_Room_sumUp_5 p0 p1 s n x23 x26

def f_Room_sumUp (p0 : Int32) (p1 : Int32) (s : jU) : Option (jU) :=
  Option.bind (L_Room_sumUp_5 p0 p1 s jF 0 1) fun (x28, x29) =>
  Option.bind (jidx (p0 - 1) 7) fun k31 =>
  if jin p1 2 then
  jlet (ups s 9 k31 (upd (s 9 k31) p1.toNatClampNeg x28)) fun s33 =>
  some s33
  else none

def L_Room_judgeAll_57 : Nat → Int32 → jU → Option (Int32 × jU)
  | 0, _, _ => none
  | n + 1, x31, s32 =>
    if (s32 20 0 0) < x31 then
      some (x31, s32)
    else
      Option.bind (f_Room_sumUp x31 0 s32) fun s35 =>
      Option.bind (f_Room_sumUp x31 1 s35) fun s37 =>
      jlet (x31 + 1) fun x38 =>
      L_Room_judgeAll_57 n x38 s37

def L_Room_judgeAll_2 : Nat → Int32 → jU → Option (Int32 × jU)
  | 0, _, _ => none
  | n + 1, x10, s11 =>
    if (s11 20 0 0) < x10 then
      some (x10, s11)
    else
      Option.bind (f_Room_isOut x10 s11) fun x14 =>
      Option.bind (α := jU) (
        if ¬ x14 = 0 then
          some s11
        else
          Option.bind (f_SR_bit x10) fun x17 =>
          jlet (ups s11 24 0 (fun _ => (s11 24 0 0) ||| x17)) fun s18 =>
          some s18) fun s20 =>
      Option.bind (f_Room_takeAnswers x10 s20) fun s24 =>
      jlet (x10 + 1) fun x25 =>
      L_Room_judgeAll_2 n x25 s24

def f_Room_judgeAll (s : jU) : Option (jU) :=
  Option.bind (L_Room_judgeAll_2 jF 1 s) fun (x27, s28) =>
  if ¬ (s28 24 0 0) = 0 then
    Option.bind (L_Room_judgeAll_57 jF 1 s28) fun (x40, s41) =>
    some s41
  else
    jlet (ups s28 22 0 (fun _ => 3)) fun s43 =>
    some s43

def L_Room_extract_22 (k10 : Nat) : Nat → Int32 → jU → Option (Int32 × jU)
  | 0, _, _ => none
  | n + 1, x16, s17 =>
    if (s17 21 0 0) ≤ x16 then
      some (x16, s17)
    else
      if jin x16 7 then
      jlet (s17 0 k10 x16.toNatClampNeg) fun x20 =>
      Option.bind (α := Int32) (
        if ¬ x16 = 0 then
          some x20
        else
          Option.bind (f_Party_has k10 5 s17) fun x23 =>
          if x23 = 0 then
            some x20
          else
            Option.bind (F_plus (fnum (s17 53 0 0)) x20 1) fun x26 =>
            some x26) fun x27 =>
      Option.bind (f_Group_power (gnum (s17 50 0 0)) (ggen (gnum (s17 50 0 0))) x27) fun x31 =>
      if jin x16 7 then
      jlet (ups s17 4 k10 (upd (s17 4 k10) x16.toNatClampNeg x31)) fun s32 =>
      if jin x16 7 then
      Option.bind (f_Board_writePair (s32 4 k10 x16.toNatClampNeg) s32) fun s37 =>
      jlet (x16 + 1) fun x38 =>
      L_Room_extract_22 k10 n x38 s37
      else none
      else none
      else none

def f_Room_extract (p0 : Int32) (s : jU) : Option (jU) :=
  Option.bind (jidx (p0 - 1) 7) fun k10 =>
  jlet (ups s 13 k10 (fun _ => 1)) fun s12 =>
  Option.bind (f_Board_write 5 p0 s12) fun s15 =>
  Option.bind (L_Room_extract_22 k10 jF 0 s15) fun (x41, s42) =>
  some s42

def L_Room_extractAll_2 : Nat → Int32 → jU → Option (Int32 × jU)
  | 0, _, _ => none
  | n + 1, x10, s11 =>
    if (s11 20 0 0) < x10 then
      some (x10, s11)
    else
      Option.bind (f_Room_isQualified x10 s11) fun x14 =>
      Option.bind (α := jU) (
        if x14 = 0 then
          some s11
        else
          Option.bind (jidx (x10 - 1) 7) fun k16 =>
          Option.bind (f_Party_worksIn k16 5 s11) fun x19 =>
          if x19 = 0 then
            some s11
          else
            Option.bind (f_Room_extract x10 s11) fun s22 =>
            some s22) fun s23 =>
      jlet (x10 + 1) fun x26 =>
      L_Room_extractAll_2 n x26 s23

def f_Room_extractAll (s : jU) : Option (jU) :=
  Option.bind (L_Room_extractAll_2 jF 1 s) fun (x28, s29) =>
  some s29

def L_Room_accuse_2 (p0 : Int32) : Nat → Int32 → jU → Option (Int32 × jU)
  | 0, _, _ => none
  | n + 1, x10, s11 =>
    if (s11 20 0 0) < x10 then
      some (x10, s11)
    else
      Option.bind (f_Room_isQualified x10 s11) fun x14 =>
      Option.bind (α := jU) (
        if x14 = 0 then
          some s11
        else
          Option.bind (jidx (x10 - 1) 7) fun k16 =>
          if ¬ (s11 13 k16 0) = 0 then
            Option.bind (jidx (p0 - 1) 7) fun k19 =>
            if jin x10 8 then
            jlet (s11 5 k19 x10.toNatClampNeg) fun x22 =>
            Option.bind (jidx (p0 - 1) 7) fun k23 =>
            if jin x10 8 then
            jlet (s11 6 k23 x10.toNatClampNeg) fun x26 =>
            Option.bind (jidx (x10 - 1) 7) fun k27 =>
            Option.bind (f_Group_polynomialInExponents (gnum (s11 50 0 0)) 7 (s11 4 k27) (s11 21 0 0) p0) fun x30 =>
            Option.bind (f_Group_power (gnum (s11 50 0 0)) (ggen (gnum (s11 50 0 0))) x22) fun x32 =>
            if x32 = x30 then
              some s11
            else
              Option.bind (f_Room_fits x10 p0 x22 x26 s11) fun x35 =>
              if x35 = 0 then
                some s11
              else
                Option.bind (f_SR_bit x10) fun x38 =>
                jlet (ups s11 25 0 (fun _ => (s11 25 0 0) ||| x38)) fun s39 =>
                Option.bind (f_Board_write 6 p0 s39) fun s42 =>
                Option.bind (f_Room_writeNumbers x10 x22 x26 s42) fun s44 =>
                some s44
            else none
            else none
          else
            some s11) fun s47 =>
      jlet (x10 + 1) fun x50 =>
      L_Room_accuse_2 p0 n x50 s47

def f_Room_accuse (p0 : Int32) (s : jU) : Option (jU) :=
  Option.bind (L_Room_accuse_2 p0 jF 1 s) fun (x52, s53) =>
  some s53

def L_Room_accuseAll_2 : Nat → Int32 → jU → Option (Int32 × jU)
  | 0, _, _ => none
  | n + 1, x10, s11 =>
    if (s11 20 0 0) < x10 then
      some (x10, s11)
    else
      Option.bind (jidx (x10 - 1) 7) fun k13 =>
      Option.bind (f_Party_worksIn k13 6 s11) fun x16 =>
      Option.bind (α := jU) (
        if x16 = 0 then
          some s11
        else
          Option.bind (f_Room_accuse x10 s11) fun s19 =>
          some s19) fun s20 =>
      jlet (x10 + 1) fun x23 =>
      L_Room_accuseAll_2 n x23 s20

def f_Room_accuseAll (s : jU) : Option (jU) :=
  Option.bind (L_Room_accuseAll_2 jF 1 s) fun (x25, s26) =>
  some s26

def L_Room_collectNumbers_13 (p0 : Int32) : Nat → Int32 → jU → Option (Int32 × jU)
  | 0, _, _ => none
  | n + 1, x12, s13 =>
    if (s13 20 0 0) < x12 then
      some (x12, s13)
    else
      Option.bind (jidx (x12 - 1) 7) fun k15 =>
      Option.bind (f_Party_worksIn k15 7 s13) fun x18 =>
      Option.bind (α := jU) (
        if ¬ x18 = 0 then
          if jin p0 8 then
          jlet (s13 5 k15 p0.toNatClampNeg) fun x21 =>
          Option.bind (f_Party_has k15 6 s13) fun x23 =>
          Option.bind (α := Int32) (
            if x23 = 0 then
              some x21
            else
              Option.bind (F_plus (fnum (s13 53 0 0)) x21 1) fun x26 =>
              some x26) fun x27 =>
          if jin p0 8 then
          jlet (s13 6 k15 p0.toNatClampNeg) fun x31 =>
          Option.bind (f_Board_write 7 x12 s13) fun s33 =>
          Option.bind (f_Room_writeNumbers p0 x27 x31 s33) fun s35 =>
          Option.bind (f_Points_size 1 s35) fun x37 =>
          if (s35 21 0 0) ≤ x37 then
            some s35
          else
            Option.bind (f_Room_fits p0 x12 x27 x31 s35) fun x40 =>
            if x40 = 0 then
              some s35
            else
              Option.bind (f_Points_add 1 x12 x27 s35) fun s43 =>
              some s43
          else none
          else none
        else
          some s13) fun s46 =>
      jlet (x12 + 1) fun x49 =>
      L_Room_collectNumbers_13 p0 n x49 s46

def f_Room_collectNumbers (p0 : Int32) (s : jU) : Option (jU) :=
  Option.bind (f_Points_clear 1 (fnum (s 53 0 0)) s) fun s11 =>
  Option.bind (L_Room_collectNumbers_13 p0 jF 1 s11) fun (x51, s52) =>
  some s52

def L_Room_openAll_4 : Nat → Int32 → Int32 → jU → Option (Int32 × Int32 × jU)
  | 0, _, _, _ => none
  | n + 1, x10, x11, s12 =>
    if (s12 20 0 0) < x11 then
      some (x10, x11, s12)
    else
      Option.bind (f_Room_isQualified x11 s12) fun x15 =>
      Option.bind (α := Int32 × jU) (
        if ¬ x15 = 0 then
          Option.bind (jidx (x11 - 1) 7) fun k17 =>
          if (s12 13 k17 0) = 0 then
            Option.bind (f_Room_collectNumbers x11 s12) fun s21 =>
            Option.bind (f_Points_size 1 s21) fun x23 =>
            if (s21 21 0 0) ≤ x23 then
              Option.bind (f_SR_bit x11) fun x26 =>
              jlet (ups s21 26 0 (fun _ => (s21 26 0 0) ||| x26)) fun s27 =>
              Option.bind (f_Points_valueAt 1 0 s27) fun x30 =>
              Option.bind (f_Group_power (gnum (s27 50 0 0)) (ggen (gnum (s27 50 0 0))) x30) fun x32 =>
              Option.bind (G_product (gnum (s27 50 0 0)) (s27 27 0 0) x32) fun x34 =>
              jlet (ups s27 27 0 (fun _ => x34)) fun s35 =>
              some (x10, s35)
            else
              some (1, s21)
          else
            Option.bind (f_SR_bit x11) fun x38 =>
            if ¬ ((s12 25 0 0) &&& x38) = 0 then
              Option.bind (f_Room_collectNumbers x11 s12) fun s41 =>
              Option.bind (f_Points_size 1 s41) fun x43 =>
              if (s41 21 0 0) ≤ x43 then
                Option.bind (f_SR_bit x11) fun x46 =>
                jlet (ups s41 26 0 (fun _ => (s41 26 0 0) ||| x46)) fun s47 =>
                Option.bind (f_Points_valueAt 1 0 s47) fun x50 =>
                Option.bind (f_Group_power (gnum (s47 50 0 0)) (ggen (gnum (s47 50 0 0))) x50) fun x52 =>
                Option.bind (G_product (gnum (s47 50 0 0)) (s47 27 0 0) x52) fun x54 =>
                jlet (ups s47 27 0 (fun _ => x54)) fun s55 =>
                some (x10, s55)
              else
                some (1, s41)
            else
              Option.bind (jidx (x11 - 1) 7) fun k57 =>
              if jin 0 7 then
              Option.bind (G_product (gnum (s12 50 0 0)) (s12 27 0 0) (s12 4 k57 (0 : Int32).toNatClampNeg)) fun x61 =>
              jlet (ups s12 27 0 (fun _ => x61)) fun s62 =>
              some (x10, s62)
              else none
        else
          some (x10, s12)) fun (x64, s65) =>
      jlet (x11 + 1) fun x68 =>
      L_Room_openAll_4 n x64 x68 s65

def f_Room_openAll (s : jU) : Option (jU) :=
  Option.bind (L_Room_openAll_4 jF 0 1 s) fun (x70, x71, s72) =>
  Option.bind (α := Int32) (
    if x70 = 0 then
      some 2
    else
      some 3) fun x75 =>
  jlet (ups s72 22 0 (fun _ => x75)) fun s78 =>
  some s78

def f_Room_advance (s : jU) : Option (Int32 × jU) :=
  jlet (ups s 23 0 (fun _ => (s 23 0 0) + 1)) fun s10 =>
  Option.bind (α := jU) (
    if (s10 23 0 0) = 1 then
      Option.bind (f_Room_dealAll s10) fun s19 =>
      some s19
    else
      if (s10 23 0 0) = 2 then
        Option.bind (f_Room_complainAll s10) fun s21 =>
        some s21
      else
        if (s10 23 0 0) = 3 then
          Option.bind (f_Room_answerAll s10) fun s23 =>
          some s23
        else
          if (s10 23 0 0) = 4 then
            Option.bind (f_Room_judgeAll s10) fun s25 =>
            some s25
          else
            if (s10 23 0 0) = 5 then
              Option.bind (f_Room_extractAll s10) fun s27 =>
              some s27
            else
              if (s10 23 0 0) = 6 then
                Option.bind (f_Room_accuseAll s10) fun s29 =>
                some s29
              else
                Option.bind (f_Room_openAll s10) fun s31 =>
                some s31) fun s32 =>
  some (s32 23 0 0, s32)

def f_SR_next (s : jU) : Option (String ⊕ (Int32 × jU)) :=
  Option.bind (f_Room_stage s) fun x11 =>
  if x11 = 1 then
    Option.bind (f_Room_advance s) fun (x14, s15) =>
    some (.inr (x14, s15))
  else
    some (.inl "java/lang/IllegalStateException")

def f_Room_complaintBits (p0 : Int32) (s : jU) : Option (Int32) :=
  Option.bind (jidx (p0 - 1) 7) fun k10 =>
  Option.bind (f_Room_everybody s) fun x13 =>
  some ((s 11 k10 0) &&& x13)

def f_SR_complaints (p0 : Int32) (s : jU) : Option (String ⊕ (Int32)) :=
  jtry (f_SR_needParty p0 s) fun _ =>
  Option.bind (f_Room_complaintBits p0 s) fun x12 =>
  some (.inr x12)

def f_Room_numberOf (p0 : Int32) (p1 : Int32) (p2 : Int32) (s : jU) : Option (Int32) :=
  Option.bind (jidx (p1 - 1) 7) fun k10 =>
  Option.bind (jidx p2 2) fun k12 =>
  if jin p0 8 then
  some (s (5 + k12) k10 p0.toNatClampNeg)
  else none

def f_SR_received (p0 : Int32) (p1 : Int32) (p2 : Int32) (s : jU) : Option (String ⊕ (Int32)) :=
  jtry (f_SR_needParty p0 s) fun _ =>
  jtry (f_SR_needParty p1 s) fun _ =>
  jtry (f_SR_needWhich p2) fun _ =>
  Option.bind (f_Room_numberOf p0 p1 p2 s) fun x14 =>
  some (.inr x14)

def f_Room_elementOf (p0 : Int32) (p1 : Int32) (p2 : Int32) (s : jU) : Option (Int32) :=
  Option.bind (jidx (p0 - 1) 7) fun k10 =>
  Option.bind (jidx p2 2) fun k12 =>
  if jin p1 7 then
  some (s (3 + k12) k10 p1.toNatClampNeg)
  else none

def f_SR_commitment (p0 : Int32) (p1 : Int32) (p2 : Int32) (s : jU) : Option (String ⊕ (Int32)) :=
  jtry (f_SR_needParty p0 s) fun _ =>
  jtry (f_SR_needCoefficient p1 s) fun _ =>
  jtry (f_SR_needWhich p2) fun _ =>
  Option.bind (f_Room_elementOf p0 p1 p2 s) fun x14 =>
  some (.inr x14)

def f_Room_shareOf (p0 : Int32) (p1 : Int32) (s : jU) : Option (Int32) :=
  Option.bind (jidx (p0 - 1) 7) fun k10 =>
  if jin p1 2 then
  some (s 9 k10 p1.toNatClampNeg)
  else none

def f_SR_share (p0 : Int32) (p1 : Int32) (s : jU) : Option (String ⊕ (Int32)) :=
  jtry (f_SR_needParty p0 s) fun _ =>
  jtry (f_SR_needWhich p1) fun _ =>
  Option.bind (f_Room_shareOf p0 p1 s) fun x13 =>
  some (.inr x13)

def f_Board_byteAt (p0 : Int32) (s : jU) : Option (Int32) :=
  if jin p0 1050 then
  some ((s 40 0 p0.toNatClampNeg) &&& 255)
  else none

def f_SR_told (p0 : Int32) (s : jU) : Option (String ⊕ (Int32)) :=
  if p0 < 0 then
    some (.inl "java/lang/IndexOutOfBoundsException")
  else
    Option.bind (f_Board_size s) fun x12 =>
    if p0 < x12 then
      Option.bind (f_Board_byteAt p0 s) fun x15 =>
      some (.inr x15)
    else
      some (.inl "java/lang/IndexOutOfBoundsException")

def f_Sha_padded (p1 : Int32) (p2 : Int32) (s : jU) : Option (Int32) :=
  if p1 ≤ p2 then
    Option.bind (α := Int32) (
      if ¬ p2 = p1 then
        some 0
      else
        some 128) fun x12 =>
    some x12
  else
    if 1050 ≤ p2 then
      Option.bind (α := Int32) (
        if ¬ p2 = p1 then
          some 0
        else
          some 128) fun x17 =>
      some x17
    else
      if jin p2 1050 then
      some ((s 40 0 p2.toNatClampNeg) &&& 255)
      else none

def f_Sha_turn (p0 : Int32) (p1 : Int32) : Option (Int32) :=
  some ((jushr p0 p1) ||| (p0 <<< ((32 - p1) &&& 31)))

def L_Sha_fillSchedule_103 : Nat → Int32 → jU → Option (Int32 × jU)
  | 0, _, _ => none
  | n + 1, x38, s39 =>
    if 64 ≤ x38 then
      some (x38, s39)
    else
      if jin (x38 - 15) 64 then
      jlet (s39 42 0 (x38 - 15).toNatClampNeg) fun x42 =>
      if jin (x38 - 2) 64 then
      jlet (s39 42 0 (x38 - 2).toNatClampNeg) fun x44 =>
      Option.bind (f_Sha_turn x42 7) fun x46 =>
      Option.bind (f_Sha_turn x42 18) fun x48 =>
      jlet ((x46 ^^^ x48) ^^^ (jushr x42 3)) fun x49 =>
      Option.bind (f_Sha_turn x44 17) fun x51 =>
      Option.bind (f_Sha_turn x44 19) fun x53 =>
      jlet ((x51 ^^^ x53) ^^^ (jushr x44 10)) fun x54 =>
      if jin (x38 - 16) 64 then
      if jin (x38 - 7) 64 then
      if jin x38 64 then
      jlet (ups s39 42 0 (upd (s39 42 0) x38.toNatClampNeg ((((s39 42 0 (x38 - 16).toNatClampNeg) + x49) + (s39 42 0 (x38 - 7).toNatClampNeg)) + x54))) fun s57 =>
      jlet (x38 + 1) fun x60 =>
      L_Sha_fillSchedule_103 n x60 s57
      else none
      else none
      else none
      else none
      else none

def L_Sha_fillSchedule_3 (p1 : Int32) (p2 : Int32) : Nat → Int32 → jU → Option (Int32 × jU)
  | 0, _, _ => none
  | n + 1, x10, s11 =>
    if 16 ≤ x10 then
      some (x10, s11)
    else
      jlet ((p2 * 64) + (4 * x10)) fun x13 =>
      Option.bind (f_Sha_padded p1 x13 s11) fun x15 =>
      Option.bind (f_Sha_padded p1 (x13 + 1) s11) fun x17 =>
      Option.bind (f_Sha_padded p1 (x13 + 2) s11) fun x19 =>
      Option.bind (f_Sha_padded p1 (x13 + 3) s11) fun x21 =>
      if jin x10 64 then
      jlet (ups s11 42 0 (upd (s11 42 0) x10.toNatClampNeg ((((x15 <<< (24 &&& 31)) ||| (x17 <<< (16 &&& 31))) ||| (x19 <<< (8 &&& 31))) ||| x21))) fun s22 =>
      jlet (x10 + 1) fun x25 =>
      L_Sha_fillSchedule_3 p1 p2 n x25 s22
      else none

def f_Sha_fillSchedule (p1 : Int32) (p2 : Int32) (p3 : Int32) (s : jU) : Option (jU) :=
  Option.bind (L_Sha_fillSchedule_3 p1 p2 jF 0 s) fun (x28, s29) =>
  Option.bind (α := jU) (
    if ¬ p2 = (p3 - 1) then
      some s29
    else
      if jin 15 64 then
      jlet (ups s29 42 0 (upd (s29 42 0) (15 : Int32).toNatClampNeg (p1 * 8))) fun s32 =>
      some s32
      else none) fun s35 =>
  Option.bind (L_Sha_fillSchedule_103 jF 16 s35) fun (x66, s67) =>
  some s67

def L_Sha_mix_227 : Nat → Int32 → jU → Option (Int32 × jU)
  | 0, _, _ => none
  | n + 1, x77, s78 =>
    if 8 ≤ x77 then
      some (x77, s78)
    else
      if jin x77 8 then
      if jin x77 8 then
      if jin x77 8 then
      jlet (ups s78 43 0 (upd (s78 43 0) x77.toNatClampNeg ((s78 43 0 x77.toNatClampNeg) + (s78 44 0 x77.toNatClampNeg)))) fun s82 =>
      jlet (x77 + 1) fun x85 =>
      L_Sha_mix_227 n x85 s82
      else none
      else none
      else none

def L_Sha_mix_167 : Nat → Int32 → jU → Option (Int32 × jU)
  | 0, _, _ => none
  | n + 1, x46, s47 =>
    if x46 ≤ 0 then
      some (x46, s47)
    else
      if jin (x46 - 1) 8 then
      if jin x46 8 then
      jlet (ups s47 44 0 (upd (s47 44 0) x46.toNatClampNeg (s47 44 0 (x46 - 1).toNatClampNeg))) fun s50 =>
      jlet (x46 + (-1)) fun x53 =>
      L_Sha_mix_167 n x53 s50
      else none
      else none

def L_Sha_mix_17 : Nat → Int32 → jU → Option (Int32 × jU)
  | 0, _, _ => none
  | n + 1, x13, s14 =>
    if 64 ≤ x13 then
      some (x13, s14)
    else
      if jin 0 8 then
      jlet (s14 44 0 (0 : Int32).toNatClampNeg) fun x17 =>
      if jin 4 8 then
      jlet (s14 44 0 (4 : Int32).toNatClampNeg) fun x19 =>
      if jin 5 8 then
      if jin 6 8 then
      jlet ((x19 &&& (s14 44 0 (5 : Int32).toNatClampNeg)) ^^^ ((x19 ^^^ (-1)) &&& (s14 44 0 (6 : Int32).toNatClampNeg))) fun x22 =>
      if jin 1 8 then
      if jin 2 8 then
      if jin 1 8 then
      if jin 2 8 then
      jlet (((x17 &&& (s14 44 0 (1 : Int32).toNatClampNeg)) ^^^ (x17 &&& (s14 44 0 (2 : Int32).toNatClampNeg))) ^^^ ((s14 44 0 (1 : Int32).toNatClampNeg) &&& (s14 44 0 (2 : Int32).toNatClampNeg))) fun x27 =>
      Option.bind (f_Sha_turn x17 2) fun x29 =>
      Option.bind (f_Sha_turn x17 13) fun x31 =>
      Option.bind (f_Sha_turn x17 22) fun x33 =>
      jlet ((x29 ^^^ x31) ^^^ x33) fun x34 =>
      Option.bind (f_Sha_turn x19 6) fun x36 =>
      Option.bind (f_Sha_turn x19 11) fun x38 =>
      Option.bind (f_Sha_turn x19 25) fun x40 =>
      jlet ((x36 ^^^ x38) ^^^ x40) fun x41 =>
      if jin 7 8 then
      if jin x13 64 then
      if jin x13 64 then
      jlet (((((s14 44 0 (7 : Int32).toNatClampNeg) + x41) + x22) + (jTabK x13.toNatClampNeg)) + (s14 42 0 x13.toNatClampNeg)) fun x45 =>
      Option.bind (L_Sha_mix_167 jF 7 s14) fun (x55, s56) =>
      if jin 4 8 then
      if jin 4 8 then
      jlet (ups s56 44 0 (upd (s56 44 0) (4 : Int32).toNatClampNeg ((s56 44 0 (4 : Int32).toNatClampNeg) + x45))) fun s59 =>
      if jin 0 8 then
      jlet (ups s59 44 0 (upd (s59 44 0) (0 : Int32).toNatClampNeg ((x45 + x34) + x27))) fun s62 =>
      jlet (x13 + 1) fun x65 =>
      L_Sha_mix_17 n x65 s62
      else none
      else none
      else none
      else none
      else none
      else none
      else none
      else none
      else none
      else none
      else none
      else none
      else none
      else none

def f_Sha_mix (s : jU) : Option (jU) :=
  if jin 8 9 then
  jlet (ups s 44 0 (va_cpy (s 43 0) (s 44 0) (0 : Int32).toNatClampNeg (0 : Int32).toNatClampNeg (8 : Int32).toNatClampNeg)) fun s10 =>
  Option.bind (L_Sha_mix_17 jF 0 s10) fun (x74, s75) =>
  Option.bind (L_Sha_mix_227 jF 0 s75) fun (x87, s88) =>
  some s88
  else none

def L_Sha_wordOf_31 (p1 : Int32) (x13 : Int32) : Nat → Int32 → jU → Option (Int32 × jU)
  | 0, _, _ => none
  | n + 1, x14, s15 =>
    if x13 ≤ x14 then
      some (x14, s15)
    else
      Option.bind (f_Sha_fillSchedule p1 x14 x13 s15) fun s18 =>
      Option.bind (f_Sha_mix s18) fun s20 =>
      jlet (x14 + 1) fun x21 =>
      L_Sha_wordOf_31 p1 x13 n x21 s20

def f_Sha_wordOf (p1 : Int32) (p2 : Int32) (s : jU) : Option (Int32 × jU) :=
  if jin 8 9 then
  jlet (ups s 43 0 (va_cpy (jTabS) (s 43 0) (0 : Int32).toNatClampNeg (0 : Int32).toNatClampNeg (8 : Int32).toNatClampNeg)) fun s10 =>
  jlet ((((p1 + 9) + 64) - 1) / 64) fun x13 =>
  Option.bind (L_Sha_wordOf_31 p1 x13 jF 0 s10) fun (x23, s24) =>
  if jin p2 8 then
  some (s24 43 0 p2.toNatClampNeg, s24)
  else none
  else none

def f_Board_digestWord (p0 : Int32) (s : jU) : Option (Int32 × jU) :=
  Option.bind (f_Sha_wordOf (s 41 0 0) p0 s) fun (x11, s12) =>
  some (x11, s12)

def f_SR_digest (p0 : Int32) (s : jU) : Option (String ⊕ (Int32 × jU)) :=
  if p0 < 0 then
    some (.inl "java/lang/IndexOutOfBoundsException")
  else
    if p0 < 8 then
      Option.bind (f_Board_digestWord p0 s) fun (x13, s14) =>
      some (.inr (x13, s14))
    else
      some (.inl "java/lang/IndexOutOfBoundsException")

def f_SR_needDone (s : jU) : Option (String ⊕ (Unit)) :=
  Option.bind (f_Room_stage s) fun x11 =>
  if x11 = 2 then
    some (.inr ())
  else
    some (.inl "java/lang/IllegalStateException")

def f_Room_isEnough (p0 : Int32) (s : jU) : Option (Int32) :=
  Option.bind (f_Room_everybody s) fun x11 =>
  Option.bind (α := Int32) (
    if ¬ (p0 &&& (x11 ^^^ (-1))) = 0 then
      some 0
    else
      Option.bind (f_Integer_bitCount p0) fun x14 =>
      if x14 < (s 21 0 0) then
        some 0
      else
        some 1) fun x16 =>
  if jbo x16 then
  some x16
  else none

def f_SR_needEnough (p0 : Int32) (s : jU) : Option (String ⊕ (Unit)) :=
  Option.bind (f_Room_isEnough p0 s) fun x11 =>
  if ¬ x11 = 0 then
    some (.inr ())
  else
    some (.inl "java/lang/IllegalArgumentException")

def L_Room_collectShares_13 (p0 : Int32) : Nat → Int32 → jU → Option (Int32 × jU)
  | 0, _, _ => none
  | n + 1, x12, s13 =>
    if (s13 20 0 0) < x12 then
      some (x12, s13)
    else
      Option.bind (f_SR_bit x12) fun x16 =>
      Option.bind (α := jU) (
        if (p0 &&& x16) = 0 then
          some s13
        else
          Option.bind (jidx (x12 - 1) 7) fun k18 =>
          if jin 0 2 then
          Option.bind (f_Points_add 1 x12 (s13 9 k18 (0 : Int32).toNatClampNeg) s13) fun s22 =>
          some s22
          else none) fun s23 =>
      jlet (x12 + 1) fun x26 =>
      L_Room_collectShares_13 p0 n x26 s23

def f_Room_collectShares (p0 : Int32) (s : jU) : Option (jU) :=
  Option.bind (f_Points_clear 1 (fnum (s 53 0 0)) s) fun s11 =>
  Option.bind (L_Room_collectShares_13 p0 jF 1 s11) fun (x28, s29) =>
  some s29

def f_Room_secretOf (p0 : Int32) (s : jU) : Option (Int32 × jU) :=
  Option.bind (f_Room_collectShares p0 s) fun s11 =>
  Option.bind (f_Points_valueAt 1 0 s11) fun x13 =>
  some (x13, s11)

def f_SR_recover (p0 : Int32) (s : jU) : Option (String ⊕ (Int32 × jU)) :=
  jtry (f_SR_needDone s) fun _ =>
  jtry (f_SR_needEnough p0 s) fun _ =>
  Option.bind (f_Room_secretOf p0 s) fun (x13, s14) =>
  some (.inr (x13, s14))

def f_Room_dealtFrom (p0 : Int32) (p1 : Int32) (p2 : Int32) (p3 : Int32) (s : jU) : Option (Int32) :=
  Option.bind (jidx (p1 - 1) 7) fun k10 =>
  Option.bind (f_Field_polynomialAt (fnum (s 53 0 0)) p0 7 (s 0 k10) p2 p3) fun x13 =>
  some x13

def L_Room_takeNewShares_2 : Nat → Int32 → jU → Option (Int32 × jU)
  | 0, _, _ => none
  | n + 1, x10, s11 =>
    if 7 < x10 then
      some (x10, s11)
    else
      Option.bind (jidx (x10 - 1) 7) fun k13 =>
      Option.bind (f_Party_forget k13 s11) fun s16 =>
      Option.bind (jidx (x10 - 1) 7) fun k17 =>
      if jin x10 8 then
      if jin 0 2 then
      jlet (ups s16 9 k17 (upd (s16 9 k17) (0 : Int32).toNatClampNeg (s16 28 0 x10.toNatClampNeg))) fun s20 =>
      Option.bind (jidx (x10 - 1) 7) fun k23 =>
      if jin 1 2 then
      jlet (ups s20 9 k23 (upd (s20 9 k23) (1 : Int32).toNatClampNeg 0)) fun s25 =>
      jlet (x10 + 1) fun x28 =>
      L_Room_takeNewShares_2 n x28 s25
      else none
      else none
      else none

def f_Room_takeNewShares (s : jU) : Option (jU) :=
  Option.bind (L_Room_takeNewShares_2 jF 1 s) fun (x30, s31) =>
  some s31

def L_Room_renewShares_23 (x10 : Int32) (s11 : jU) : Nat → Int32 → Int32 → Option (Int32 × Int32)
  | 0, _, _ => none
  | n + 1, x17, x18 =>
    if (s11 20 0 0) < x18 then
      some (x17, x18)
    else
      Option.bind (jidx (x18 - 1) 7) fun k20 =>
      Option.bind (f_Party_neverCrashes k20 s11) fun x23 =>
      Option.bind (α := Int32) (
        if x23 = 0 then
          some x17
        else
          Option.bind (f_Room_dealtFrom 0 x18 (s11 21 0 0) x10 s11) fun x26 =>
          Option.bind (F_plus (fnum (s11 53 0 0)) x17 x26) fun x28 =>
          some x28) fun x29 =>
      jlet (x18 + 1) fun x32 =>
      L_Room_renewShares_23 x10 s11 n x29 x32

def L_Room_renewShares_2 : Nat → Int32 → jU → Option (Int32 × jU)
  | 0, _, _ => none
  | n + 1, x10, s11 =>
    if (s11 20 0 0) < x10 then
      some (x10, s11)
    else
      Option.bind (jidx (x10 - 1) 7) fun k13 =>
      if jin 0 2 then
      jlet (s11 9 k13 (0 : Int32).toNatClampNeg) fun x16 =>
      Option.bind (L_Room_renewShares_23 x10 s11 jF x16 1) fun (x34, x35) =>
      if jin x10 8 then
      jlet (ups s11 28 0 (upd (s11 28 0) x10.toNatClampNeg x34)) fun s37 =>
      jlet (x10 + 1) fun x40 =>
      L_Room_renewShares_2 n x40 s37
      else none
      else none

def f_Room_renewShares (s : jU) : Option (jU) :=
  Option.bind (L_Room_renewShares_2 jF 1 s) fun (x43, s44) =>
  Option.bind (f_Room_takeNewShares s44) fun s47 =>
  some s47

def f_SR_refresh (s : jU) : Option (String ⊕ (jU)) :=
  jtry (f_SR_needDone s) fun _ =>
  Option.bind (f_Room_renewShares s) fun s12 =>
  some (.inr s12)

def L_Room_addDealt_3 (p0 : Int32) (p1 : Int32) (p2 : Int32) (p3 : Int32) : Nat → Int32 → jU → Option (Int32 × jU)
  | 0, _, _ => none
  | n + 1, x10, s11 =>
    if p3 < x10 then
      some (x10, s11)
    else
      Option.bind (jidx (p0 - 1) 7) fun k13 =>
      if jin 0 2 then
      Option.bind (f_Room_dealtFrom (s11 9 k13 (0 : Int32).toNatClampNeg) p0 p2 x10 s11) fun x17 =>
      if jin x10 8 then
      Option.bind (F_times (fnum (s11 53 0 0)) p1 x17) fun x20 =>
      Option.bind (F_plus (fnum (s11 53 0 0)) (s11 28 0 x10.toNatClampNeg) x20) fun x22 =>
      if jin x10 8 then
      jlet (ups s11 28 0 (upd (s11 28 0) x10.toNatClampNeg x22)) fun s23 =>
      jlet (x10 + 1) fun x26 =>
      L_Room_addDealt_3 p0 p1 p2 p3 n x26 s23
      else none
      else none
      else none

def f_Room_addDealt (p0 : Int32) (p1 : Int32) (p2 : Int32) (p3 : Int32) (s : jU) : Option (jU) :=
  Option.bind (L_Room_addDealt_3 p0 p1 p2 p3 jF 1 s) fun (x28, s29) =>
  some s29

def L_Room_handTo_19 (p0 : Int32) (p1 : Int32) (p2 : Int32) : Nat → Int32 → Int32 → jU → Option (Int32 × Int32 × jU)
  | 0, _, _, _ => none
  | n + 1, x14, x15, s16 =>
    if (s16 20 0 0) < x15 then
      some (x14, x15, s16)
    else
      Option.bind (f_SR_bit x15) fun x19 =>
      Option.bind (α := Int32 × jU) (
        if (p0 &&& x19) = 0 then
          some (x14, s16)
        else
          Option.bind (f_Points_weight 1 x14 0 s16) fun x22 =>
          jlet (x14 + 1) fun x23 =>
          Option.bind (f_Room_addDealt x15 x22 p1 p2 s16) fun s26 =>
          some (x23, s26)) fun (x27, s28) =>
      jlet (x15 + 1) fun x31 =>
      L_Room_handTo_19 p0 p1 p2 n x27 x31 s28

def f_Room_handTo (p0 : Int32) (p1 : Int32) (p2 : Int32) (s : jU) : Option (jU) :=
  Option.bind (f_Room_collectShares p0 s) fun s11 =>
  jlet (ups s11 28 0 (afl 8 0 (s11 28 0))) fun s12 =>
  Option.bind (L_Room_handTo_19 p0 p1 p2 jF 0 1 s12) fun (x33, x34, s35) =>
  jlet (ups s35 20 0 (fun _ => p2)) fun s37 =>
  jlet (ups s37 21 0 (fun _ => p1)) fun s39 =>
  Option.bind (f_Room_takeNewShares s39) fun s42 =>
  some s42

def f_SR_handOn (p0 : Int32) (p1 : Int32) (p2 : Int32) (s : jU) : Option (String ⊕ (jU)) :=
  jtry (f_SR_needDone s) fun _ =>
  jtry (f_SR_needEnough p0 s) fun _ =>
  Option.bind (f_Room_isCommittee p2 p1) fun x13 =>
  if ¬ x13 = 0 then
    Option.bind (f_Room_handTo p0 p1 p2 s) fun s16 =>
    some (.inr s16)
  else
    some (.inl "java/lang/IllegalArgumentException")

