/-! twin functions, by program -/
def f_X8_isWithin (x0 : Int32) (x1 : Int32) : Int32 := 
  if x0 < 0 then (0 : Int32)
  else 
   if x1 ≤ x0 then (0 : Int32)
   else (1 : Int32)
def f_X6_append (p0_0 : Fn) (p0_1 : Int32) (x1 : Int32) : Fn × Int32 := 
  if (160 : Int32) ≤ p0_1 then (p0_0, p0_1)
  else ((upd p0_0 p0_1.toNatClampNeg x1), (p0_1 + (1 : Int32)))
def f_X1_valueOf (p0_0 : Fn) (p1_0 : Blk) (x2 : Int32) : Int32 := (((p0_0 ((p1_0 4) x2.toNatClampNeg).toNatClampNeg) &&& ((p1_0 8) x2.toNatClampNeg)) >>> (((p1_0 6) x2.toNatClampNeg) &&& 31))
def f_X1_isLocked (p0_0 : Fn) (p1_0 : Blk) (x2 : Int32) : Int32 := 
  if (f_X8_isWithin ((p1_0 2) x2.toNatClampNeg) (p1_0 0 1)) = 0 then (0 : Int32)
  else 
   if (f_X1_valueOf p0_0 p1_0 ((p1_0 2) x2.toNatClampNeg)) = 0 then (0 : Int32)
   else (1 : Int32)
def f_X0_registerAt_L2 (p0_0 : Blk) (x1 : Int32) : Nat → Int32 → Int32
  | 0, _ => 0
  | n + 1, x2 => 
    if (p0_0 0 0) ≤ x2 then (-9 : Int32)
    else 
     if ((p0_0 1) x2.toNatClampNeg) = x1 then x2
     else ((f_X0_registerAt_L2 p0_0 x1 n) (x2 + (1 : Int32)))
def f_X0_registerAt (p0_0 : Blk) (x1 : Int32) : Int32 := (f_X0_registerAt_L2 p0_0 x1 4000 (0 : Int32))
def f_X0_aliasAt_L15 (p0_0 : Blk) (x1 : Int32) : Nat → Int32 → Int32
  | 0, _ => 0
  | n + 1, x2 => 
    if (p0_0 0 2) ≤ x2 then (-9 : Int32)
    else 
     if ((p0_0 10) x2.toNatClampNeg) = x1 then x2
     else ((f_X0_aliasAt_L15 p0_0 x1 n) (x2 + (1 : Int32)))
def f_X0_aliasAt (p0_0 : Blk) (x1 : Int32) : Int32 := 
  if (f_X0_registerAt p0_0 x1) = (-9 : Int32) then (f_X0_aliasAt_L15 p0_0 x1 4000 (0 : Int32))
  else (-9 : Int32)
def f_X0_registerBehind (p0_0 : Blk) (x1 : Int32) : Int32 := 
  if (f_X0_aliasAt p0_0 x1) = (-9 : Int32) then (f_X0_registerAt p0_0 x1)
  else ((p0_0 11) (f_X0_aliasAt p0_0 x1).toNatClampNeg)
def f_X1_shown_L10 (p0_3 : Fn) (p1_0 : Blk) (x2 : Int32) : Nat → Int32 → Int32 → Int32
  | 0, _, _ => 0
  | n + 1, x3, x4 => 
    if (p1_0 0 1) ≤ x4 then x3
    else 
     if ((p1_0 4) x4.toNatClampNeg) = x2 then 
      if (p0_3 x4.toNatClampNeg) = (2 : Int32) then ((f_X1_shown_L10 p0_3 p1_0 x2 n) (x3 &&& (((p1_0 8) x4.toNatClampNeg) ^^^ (-1 : Int32))) (x4 + (1 : Int32)))
      else ((f_X1_shown_L10 p0_3 p1_0 x2 n) x3 (x4 + (1 : Int32)))
     else ((f_X1_shown_L10 p0_3 p1_0 x2 n) x3 (x4 + (1 : Int32)))
def f_X1_shown (p0_0 : Fn) (p0_3 : Fn) (p1_0 : Blk) (x2 : Int32) : Int32 := (f_X1_shown_L10 p0_3 p1_0 x2 4000 (p0_0 x2.toNatClampNeg) (0 : Int32))
def f_X1_look (p0_0 : Fn) (p0_3 : Fn) (p1_0 : Blk) (x2 : Int32) : Int32 := 
  if (f_X0_registerBehind p1_0 x2) = (-9 : Int32) then (0 : Int32)
  else (f_X1_shown p0_0 p0_3 p1_0 (f_X0_registerBehind p1_0 x2))
def f_X1_mend (p0_3 : Fn) (p1_0 : Blk) : Fn := (va_cpy (p1_0 5) p0_3 0 0 12)
def f_X1_putBits (p0_0 : Fn) (p1_0 : Blk) (x2 : Int32) (x3 : Int32) : Fn := (upd p0_0 ((p1_0 4) x2.toNatClampNeg).toNatClampNeg (((p0_0 ((p1_0 4) x2.toNatClampNeg).toNatClampNeg) &&& (((p1_0 8) x2.toNatClampNeg) ^^^ (-1 : Int32))) ||| (x3 &&& ((p1_0 8) x2.toNatClampNeg))))
def f_X1_putValue (p0_0 : Fn) (p1_0 : Blk) (x2 : Int32) (x3 : Int32) : Fn := (f_X1_putBits p0_0 p1_0 x2 (x3 <<< (((p1_0 6) x2.toNatClampNeg) &&& 31)))
def f_X1_restart_L38 (p0_1 : Fn) (p0_2 : Fn) (p1_0 : Blk) : Nat → Int32 → Fn → Fn × Fn × Fn
  | 0, _, _ => ((fun _ => 0), (fun _ => 0), (fun _ => 0))
  | n + 1, x2, p0_0 => 
    if (p1_0 0 1) ≤ x2 then (p0_0, p0_1, p0_2)
    else ((f_X1_restart_L38 p0_1 p0_2 p1_0 n) (x2 + (1 : Int32)) (f_X1_putValue p0_0 p1_0 x2 ((p1_0 9) x2.toNatClampNeg)))
def f_X1_restart_L2 (p1_0 : Blk) : Nat → Int32 → Fn → Fn → Fn → Fn × Fn × Fn
  | 0, _, _, _, _ => ((fun _ => 0), (fun _ => 0), (fun _ => 0))
  | n + 1, x2, p0_0, p0_1, p0_2 => 
    if (6 : Int32) ≤ x2 then (f_X1_restart_L38 p0_1 p0_2 p1_0 4000 (0 : Int32) p0_0)
    else ((f_X1_restart_L2 p1_0 n) (x2 + (1 : Int32)) (upd p0_0 x2.toNatClampNeg (0 : Int32)) (upd p0_1 x2.toNatClampNeg (-9 : Int32)) (upd p0_2 x2.toNatClampNeg (vp_nar .boolean (0 : Int32))))
def f_X1_restart (p0_0 : Fn) (p0_1 : Fn) (p0_2 : Fn) (p1_0 : Blk) : Fn × Fn × Fn := (f_X1_restart_L2 p1_0 4000 (0 : Int32) p0_0 p0_1 p0_2)
def f_X1_bitsAfter (p0_0 : Fn) (p0_2 : Fn) (x1 : Int32) (x2 : Int32) (x3 : Int32) : Int32 := 
  if x3 = (0 : Int32) then x2
  else 
   if x3 = (1 : Int32) then (p0_0 x1.toNatClampNeg)
   else 
    if x3 = (2 : Int32) then x2
    else 
     if x3 = (3 : Int32) then ((p0_0 x1.toNatClampNeg) &&& (x2 ^^^ (-1 : Int32)))
     else 
      if x3 = (4 : Int32) then ((p0_0 x1.toNatClampNeg) ||| x2)
      else 
       if x3 = (5 : Int32) then ((p0_0 x1.toNatClampNeg) ^^^ x2)
       else 
        if x3 = (6 : Int32) then (p0_0 x1.toNatClampNeg)
        else 
         if x3 = (7 : Int32) then 
          if (p0_2 x1.toNatClampNeg) = 0 then x2
          else (p0_0 x1.toNatClampNeg)
         else (p0_0 x1.toNatClampNeg)
def f_X1_letInByAlias_L3 (p0_2 : Fn) (p0_3 : Fn) (p1_0 : Blk) (x2 : Int32) (x3 : Int32) (x4 : Int32) : Nat → Int32 → Fn → Fn
  | 0, _, _ => (fun _ => 0)
  | n + 1, x5, p0_0 => 
    if (p1_0 0 1) ≤ x5 then p0_0
    else 
     if ((p1_0 4) x5.toNatClampNeg) = x2 then 
      if (p0_3 x5.toNatClampNeg) = (1 : Int32) then ((f_X1_letInByAlias_L3 p0_2 p0_3 p1_0 x2 x3 x4 n) (x5 + (1 : Int32)) p0_0)
      else 
       if (p0_3 x5.toNatClampNeg) = (6 : Int32) then ((f_X1_letInByAlias_L3 p0_2 p0_3 p1_0 x2 x3 x4 n) (x5 + (1 : Int32)) p0_0)
       else ((f_X1_letInByAlias_L3 p0_2 p0_3 p1_0 x2 x3 x4 n) (x5 + (1 : Int32)) (f_X1_putBits p0_0 p1_0 x5 (f_X1_bitsAfter p0_0 p0_2 x2 x3 x4)))
     else ((f_X1_letInByAlias_L3 p0_2 p0_3 p1_0 x2 x3 x4 n) (x5 + (1 : Int32)) p0_0)
def f_X1_letInByAlias (p0_0 : Fn) (p0_2 : Fn) (p0_3 : Fn) (p1_0 : Blk) (x2 : Int32) (x3 : Int32) (x4 : Int32) : Fn := (f_X1_letInByAlias_L3 p0_2 p0_3 p1_0 x2 x3 x4 4000 (0 : Int32) p0_0)
def f_X0_isOpenedBy (p0_0 : Blk) (x1 : Int32) (x2 : Int32) : Int32 := 
  if (f_X8_isWithin ((p0_0 3) x1.toNatClampNeg) (p0_0 0 1)) = 0 then (0 : Int32)
  else 
   if ((p0_0 4) ((p0_0 3) x1.toNatClampNeg).toNatClampNeg) = x2 then (1 : Int32)
   else (0 : Int32)
def f_X1_letIn_L3 (p0_2 : Fn) (p0_3 : Fn) (p1_0 : Blk) (x2 : Int32) (x3 : Int32) : Nat → Int32 → Fn → Fn × Fn
  | 0, _, _ => ((fun _ => 0), (fun _ => 0))
  | n + 1, x4, p0_0 => 
    if (p1_0 0 1) ≤ x4 then (p0_0, (upd p0_2 x2.toNatClampNeg (vp_nar .boolean (1 : Int32))))
    else 
     if ((p1_0 4) x4.toNatClampNeg) = x2 then ((f_X1_letIn_L3 p0_2 p0_3 p1_0 x2 x3 n) (x4 + (1 : Int32)) (f_X1_putBits p0_0 p1_0 x4 (f_X1_bitsAfter p0_0 p0_2 x2 x3 (p0_3 x4.toNatClampNeg))))
     else ((f_X1_letIn_L3 p0_2 p0_3 p1_0 x2 x3 n) (x4 + (1 : Int32)) p0_0)
def f_X1_letIn (p0_0 : Fn) (p0_2 : Fn) (p0_3 : Fn) (p1_0 : Blk) (x2 : Int32) (x3 : Int32) : Fn × Fn := (f_X1_letIn_L3 p0_2 p0_3 p1_0 x2 x3 4000 (0 : Int32) p0_0)
def f_X1_openGates_J80 (p0_1 : Fn) (x4 : Int32) (k3 : Int32 → Fn → Fn → Fn → (Fn × Fn × Fn)) (p0_0 : Fn) (p0_2 : Fn) : Fn × Fn × Fn := (k3 (x4 + (1 : Int32)) p0_0 (upd p0_1 x4.toNatClampNeg (-9 : Int32)) p0_2)
def f_X1_openGates_L3 (p0_3 : Fn) (p1_0 : Blk) (x2 : Int32) (x3 : Int32) : Nat → Int32 → Fn → Fn → Fn → Fn × Fn × Fn
  | 0, _, _, _, _ => ((fun _ => 0), (fun _ => 0), (fun _ => 0))
  | n + 1, x4, p0_0, p0_1, p0_2 => 
    if (p1_0 0 0) ≤ x4 then (p0_0, p0_1, p0_2)
    else 
     if (p0_1 x4.toNatClampNeg) = (-9 : Int32) then ((f_X1_openGates_L3 p0_3 p1_0 x2 x3 n) (x4 + (1 : Int32)) p0_0 p0_1 p0_2)
     else 
      if (f_X0_isOpenedBy p1_0 x4 x2) = 0 then ((f_X1_openGates_L3 p0_3 p1_0 x2 x3 n) (x4 + (1 : Int32)) p0_0 p0_1 p0_2)
      else 
       if ((x3 >>> (((p1_0 6) ((p1_0 3) x4.toNatClampNeg).toNatClampNeg) &&& 31)) &&& (1 : Int32)) = 0 then ((f_X1_openGates_L3 p0_3 p1_0 x2 x3 n) (x4 + (1 : Int32)) p0_0 p0_1 p0_2)
       else 
        if (f_X1_isLocked p0_0 p1_0 x4) = 0 then (f_X1_openGates_J80 p0_1 x4 (f_X1_openGates_L3 p0_3 p1_0 x2 x3 n) ((f_X1_letIn p0_0 p0_2 p0_3 p1_0 x4 (p0_1 x4.toNatClampNeg)).1) ((f_X1_letIn p0_0 p0_2 p0_3 p1_0 x4 (p0_1 x4.toNatClampNeg)).2))
        else (f_X1_openGates_J80 p0_1 x4 (f_X1_openGates_L3 p0_3 p1_0 x2 x3 n) p0_0 p0_2)
def f_X1_openGates (p0_0 : Fn) (p0_1 : Fn) (p0_2 : Fn) (p0_3 : Fn) (p1_0 : Blk) (x2 : Int32) (x3 : Int32) : Fn × Fn × Fn := (f_X1_openGates_L3 p0_3 p1_0 x2 x3 4000 (0 : Int32) p0_0 p0_1 p0_2)
def f_X1_write_C97 (p0_0 : Fn) (p0_1 : Fn) (p0_2 : Fn) : Fn × Fn × Fn := (p0_0, p0_1, p0_2)
def f_X1_write_J89 (p0_1 : Fn) (p0_3 : Fn) (p1_0 : Blk) (x3 : Int32) (x4 : Int32) (p0_0 : Fn) (p0_2 : Fn) : Fn × Fn × Fn := (f_X1_write_C97 ((f_X1_openGates p0_0 p0_1 p0_2 p0_3 p1_0 x4 x3).1) ((f_X1_openGates p0_0 p0_1 p0_2 p0_3 p1_0 x4 x3).2.1) ((f_X1_openGates p0_0 p0_1 p0_2 p0_3 p1_0 x4 x3).2.2))
def f_X1_write_C77 (p0_1 : Fn) (p0_3 : Fn) (p1_0 : Blk) (x3 : Int32) (x4 : Int32) (p0_0 : Fn) (p0_2 : Fn) : Fn × Fn × Fn := (f_X1_write_J89 p0_1 p0_3 p1_0 x3 x4 p0_0 p0_2)
def f_X1_write (p0_0 : Fn) (p0_1 : Fn) (p0_2 : Fn) (p0_3 : Fn) (p1_0 : Blk) (x2 : Int32) (x3 : Int32) : Fn × Fn × Fn := 
  if (f_X0_registerBehind p1_0 x2) = (-9 : Int32) then (p0_0, p0_1, p0_2)
  else 
   if (f_X1_isLocked p0_0 p1_0 (f_X0_registerBehind p1_0 x2)) = 0 then 
    if (f_X0_aliasAt p1_0 x2) = (-9 : Int32) then 
     if ((p1_0 3) (f_X0_registerBehind p1_0 x2).toNatClampNeg) = (-9 : Int32) then (f_X1_write_C77 p0_1 p0_3 p1_0 x3 (f_X0_registerBehind p1_0 x2) ((f_X1_letIn p0_0 p0_2 p0_3 p1_0 (f_X0_registerBehind p1_0 x2) x3).1) ((f_X1_letIn p0_0 p0_2 p0_3 p1_0 (f_X0_registerBehind p1_0 x2) x3).2))
     else (p0_0, (upd p0_1 (f_X0_registerBehind p1_0 x2).toNatClampNeg x3), p0_2)
    else (f_X1_write_J89 p0_1 p0_3 p1_0 x3 (f_X0_registerBehind p1_0 x2) (f_X1_letInByAlias p0_0 p0_2 p0_3 p1_0 (f_X0_registerBehind p1_0 x2) x3 ((p1_0 12) (f_X0_aliasAt p1_0 x2).toNatClampNeg)) p0_2)
   else (p0_0, p0_1, p0_2)
def f_X1_read_L17 (p0_3 : Fn) (p1_0 : Blk) (x3 : Int32) (x4 : Int32) : Nat → Int32 → Fn → Int32 × Fn
  | 0, _, _ => (0, (fun _ => 0))
  | n + 1, x5, p0_0 => 
    if (p1_0 0 1) ≤ x5 then (x3, p0_0)
    else 
     if ((p1_0 4) x5.toNatClampNeg) = x4 then 
      if (p0_3 x5.toNatClampNeg) = (6 : Int32) then ((f_X1_read_L17 p0_3 p1_0 x3 x4 n) (x5 + (1 : Int32)) (f_X1_putBits p0_0 p1_0 x5 (0 : Int32)))
      else ((f_X1_read_L17 p0_3 p1_0 x3 x4 n) (x5 + (1 : Int32)) p0_0)
     else ((f_X1_read_L17 p0_3 p1_0 x3 x4 n) (x5 + (1 : Int32)) p0_0)
def f_X1_read (p0_0 : Fn) (p0_3 : Fn) (p1_0 : Blk) (x2 : Int32) : Int32 × Fn := (f_X1_read_L17 p0_3 p1_0 (f_X1_look p0_0 p0_3 p1_0 x2) (f_X0_registerAt p1_0 x2) 4000 (0 : Int32) p0_0)
def f_X3_agreesWith_C36 (x3 : Int32) (k2 : Int32 → Fn → Fn → Fn → (Int32 × Fn × Fn × Fn)) (p1_0 : Fn) (p1_1 : Fn) (p1_2 : Fn) : Int32 × Fn × Fn × Fn := (k2 (x3 + (1 : Int32)) p1_0 p1_1 p1_2)
def f_X3_agreesWith_C50 (p0_3 : Fn) (p1_1 : Fn) (p1_2 : Fn) (x3 : Int32) (k2 : Int32 → Fn → Fn → Fn → (Int32 × Fn × Fn × Fn)) (s0 : Int32) (p1_0 : Fn) : Int32 × Fn × Fn × Fn := 
    if s0 = (p0_3 x3.toNatClampNeg) then (k2 (x3 + (1 : Int32)) p1_0 p1_1 p1_2)
    else ((0 : Int32), p1_0, p1_1, p1_2)
def f_X3_agreesWith_L2 (p0_0 : Int32) (p0_1 : Fn) (p0_2 : Fn) (p0_3 : Fn) (p1_3 : Fn) (p2_0 : Blk) : Nat → Int32 → Fn → Fn → Fn → Int32 × Fn × Fn × Fn
  | 0, _, _, _, _ => (0, (fun _ => 0), (fun _ => 0), (fun _ => 0))
  | n + 1, x3, p1_0, p1_1, p1_2 => 
    if p0_0 ≤ x3 then ((1 : Int32), p1_0, p1_1, p1_2)
    else 
     if (p0_2 x3.toNatClampNeg) = 0 then (f_X3_agreesWith_C50 p0_3 p1_1 p1_2 x3 (f_X3_agreesWith_L2 p0_0 p0_1 p0_2 p0_3 p1_3 p2_0 n) (f_X1_read p1_0 p1_3 p2_0 (p0_1 x3.toNatClampNeg)).1 ((f_X1_read p1_0 p1_3 p2_0 (p0_1 x3.toNatClampNeg)).2))
     else (f_X3_agreesWith_C36 x3 (f_X3_agreesWith_L2 p0_0 p0_1 p0_2 p0_3 p1_3 p2_0 n) ((f_X1_write p1_0 p1_1 p1_2 p1_3 p2_0 (p0_1 x3.toNatClampNeg) (p0_3 x3.toNatClampNeg)).1) ((f_X1_write p1_0 p1_1 p1_2 p1_3 p2_0 (p0_1 x3.toNatClampNeg) (p0_3 x3.toNatClampNeg)).2.1) ((f_X1_write p1_0 p1_1 p1_2 p1_3 p2_0 (p0_1 x3.toNatClampNeg) (p0_3 x3.toNatClampNeg)).2.2))
def f_X3_agreesWith (p0_0 : Int32) (p0_1 : Fn) (p0_2 : Fn) (p0_3 : Fn) (p1_0 : Fn) (p1_1 : Fn) (p1_2 : Fn) (p1_3 : Fn) (p2_0 : Blk) : Int32 × Fn × Fn × Fn := (f_X3_agreesWith_L2 p0_0 p0_1 p0_2 p0_3 p1_3 p2_0 4000 (0 : Int32) p1_0 p1_1 p1_2)
def f_X0_holdersOf_L33 (p0_0 : Blk) (x1 : Int32) : Nat → Int32 → Int32 → Int32
  | 0, _, _ => 0
  | n + 1, x2, x3 => 
    if (p0_0 0 2) ≤ x3 then x2
    else 
     if ((p0_0 10) x3.toNatClampNeg) = x1 then ((f_X0_holdersOf_L33 p0_0 x1 n) (x2 + (1 : Int32)) (x3 + (1 : Int32)))
     else ((f_X0_holdersOf_L33 p0_0 x1 n) x2 (x3 + (1 : Int32)))
def f_X0_holdersOf_L4 (p0_0 : Blk) (x1 : Int32) : Nat → Int32 → Int32 → Int32
  | 0, _, _ => 0
  | n + 1, x2, x3 => 
    if (p0_0 0 0) ≤ x3 then (f_X0_holdersOf_L33 p0_0 x1 4000 x2 (0 : Int32))
    else 
     if ((p0_0 1) x3.toNatClampNeg) = x1 then ((f_X0_holdersOf_L4 p0_0 x1 n) (x2 + (1 : Int32)) (x3 + (1 : Int32)))
     else ((f_X0_holdersOf_L4 p0_0 x1 n) x2 (x3 + (1 : Int32)))
def f_X0_holdersOf (p0_0 : Blk) (x1 : Int32) : Int32 := (f_X0_holdersOf_L4 p0_0 x1 4000 (0 : Int32) (0 : Int32))
def f_X1_copyFrom_L2 (p0_3 : Fn) (p1_0 : Fn) (p1_1 : Fn) (p1_2 : Fn) (p1_3 : Fn) : Nat → Int32 → Fn → Fn → Fn → Fn × Fn × Fn × Fn
  | 0, _, _, _, _ => ((fun _ => 0), (fun _ => 0), (fun _ => 0), (fun _ => 0))
  | n + 1, x2, p0_0, p0_1, p0_2 => 
    if (6 : Int32) ≤ x2 then (p0_0, p0_1, p0_2, (va_cpy p1_3 p0_3 0 0 12))
    else ((f_X1_copyFrom_L2 p0_3 p1_0 p1_1 p1_2 p1_3 n) (x2 + (1 : Int32)) (upd p0_0 x2.toNatClampNeg (p1_0 x2.toNatClampNeg)) (upd p0_1 x2.toNatClampNeg (p1_1 x2.toNatClampNeg)) (upd p0_2 x2.toNatClampNeg (vp_nar .boolean (p1_2 x2.toNatClampNeg))))
def f_X1_copyFrom (p0_0 : Fn) (p0_1 : Fn) (p0_2 : Fn) (p0_3 : Fn) (p1_0 : Fn) (p1_1 : Fn) (p1_2 : Fn) (p1_3 : Fn) : Fn × Fn × Fn × Fn := (f_X1_copyFrom_L2 p0_3 p1_0 p1_1 p1_2 p1_3 4000 (0 : Int32) p0_0 p0_1 p0_2)
def f_X0_greatestValue (p0_0 : Blk) (x1 : Int32) : Int32 := (((p0_0 8) x1.toNatClampNeg) >>> (((p0_0 6) x1.toNatClampNeg) &&& 31))
def f_X0_canHold (p0_0 : Blk) (x1 : Int32) (x2 : Int32) : Int32 := 
  if (f_X8_isWithin x1 (p0_0 0 1)) = 0 then (0 : Int32)
  else 
   if x2 < 0 then (0 : Int32)
   else 
    if (f_X0_greatestValue p0_0 x1) < x2 then (0 : Int32)
    else (1 : Int32)
def f_X0_canReach (p0_0 : Blk) (x1 : Int32) (x2 : Int32) : Int32 := 
  if (f_X0_registerBehind p0_0 x1) = (-9 : Int32) then (0 : Int32)
  else 
   if (f_X0_registerBehind p0_0 x1) = ((p0_0 4) x2.toNatClampNeg) then (1 : Int32)
   else 
    if (f_X0_isOpenedBy p0_0 ((p0_0 4) x2.toNatClampNeg) (f_X0_registerBehind p0_0 x1)) = 0 then (0 : Int32)
    else (1 : Int32)
def f_X0_isGate_L2 (p0_0 : Blk) (x1 : Int32) : Nat → Int32 → Int32
  | 0, _ => 0
  | n + 1, x2 => 
    if (p0_0 0 0) ≤ x2 then (0 : Int32)
    else 
     if ((p0_0 3) x2.toNatClampNeg) = x1 then (1 : Int32)
     else ((f_X0_isGate_L2 p0_0 x1 n) (x2 + (1 : Int32)))
def f_X0_isGate (p0_0 : Blk) (x1 : Int32) : Int32 := (f_X0_isGate_L2 p0_0 x1 4000 (0 : Int32))
def f_X0_isLock_L2 (p0_0 : Blk) (x1 : Int32) : Nat → Int32 → Int32
  | 0, _ => 0
  | n + 1, x2 => 
    if (p0_0 0 0) ≤ x2 then (0 : Int32)
    else 
     if ((p0_0 2) x2.toNatClampNeg) = x1 then (1 : Int32)
     else ((f_X0_isLock_L2 p0_0 x1 n) (x2 + (1 : Int32)))
def f_X0_isLock (p0_0 : Blk) (x1 : Int32) : Int32 := (f_X0_isLock_L2 p0_0 x1 4000 (0 : Int32))
def f_X0_plainBits_L4 (p0_0 : Blk) (x1 : Int32) : Nat → Int32 → Int32 → Int32
  | 0, _, _ => 0
  | n + 1, x2, x3 => 
    if (p0_0 0 1) ≤ x3 then x2
    else 
     if ((p0_0 4) x3.toNatClampNeg) = x1 then 
      if ((p0_0 5) x3.toNatClampNeg) = 0 then ((f_X0_plainBits_L4 p0_0 x1 n) (x2 ||| ((p0_0 8) x3.toNatClampNeg)) (x3 + (1 : Int32)))
      else ((f_X0_plainBits_L4 p0_0 x1 n) x2 (x3 + (1 : Int32)))
     else ((f_X0_plainBits_L4 p0_0 x1 n) x2 (x3 + (1 : Int32)))
def f_X0_plainBits (p0_0 : Blk) (x1 : Int32) : Int32 := (f_X0_plainBits_L4 p0_0 x1 4000 (0 : Int32) (0 : Int32))
def f_X0_empty (p0_0 : Blk) : Blk := (bs (bs (bs p0_0 0 (upd (p0_0 0) 0 (0 : Int32))) 0 (upd ((bs p0_0 0 (upd (p0_0 0) 0 (0 : Int32))) 0) 1 (0 : Int32))) 0 (upd ((bs (bs p0_0 0 (upd (p0_0 0) 0 (0 : Int32))) 0 (upd ((bs p0_0 0 (upd (p0_0 0) 0 (0 : Int32))) 0) 1 (0 : Int32))) 0) 2 (0 : Int32)))
def f_X0_usedBits_L4 (p0_0 : Blk) (x1 : Int32) : Nat → Int32 → Int32 → Int32
  | 0, _, _ => 0
  | n + 1, x2, x3 => 
    if (p0_0 0 1) ≤ x3 then x2
    else 
     if ((p0_0 4) x3.toNatClampNeg) = x1 then ((f_X0_usedBits_L4 p0_0 x1 n) (x2 ||| ((p0_0 8) x3.toNatClampNeg)) (x3 + (1 : Int32)))
     else ((f_X0_usedBits_L4 p0_0 x1 n) x2 (x3 + (1 : Int32)))
def f_X0_usedBits (p0_0 : Blk) (x1 : Int32) : Int32 := (f_X0_usedBits_L4 p0_0 x1 4000 (0 : Int32) (0 : Int32))
def f_X1_brokenFields_L4 (p0_3 : Fn) (p1_0 : Blk) : Nat → Int32 → Int32 → Int32
  | 0, _, _ => 0
  | n + 1, x2, x3 => 
    if (p1_0 0 1) ≤ x3 then x2
    else 
     if (p0_3 x3.toNatClampNeg) = ((p1_0 5) x3.toNatClampNeg) then ((f_X1_brokenFields_L4 p0_3 p1_0 n) x2 (x3 + (1 : Int32)))
     else ((f_X1_brokenFields_L4 p0_3 p1_0 n) (x2 + (1 : Int32)) (x3 + (1 : Int32)))
def f_X1_brokenFields (p0_3 : Fn) (p1_0 : Blk) : Int32 := (f_X1_brokenFields_L4 p0_3 p1_0 4000 (0 : Int32) (0 : Int32))
def f_X1_learn_L10 (p0_3 : Fn) (p1_0 : Blk) (x3 : Int32) (x4 : Int32) : Nat → Int32 → Fn → Fn
  | 0, _, _ => (fun _ => 0)
  | n + 1, x5, p0_0 => 
    if (p1_0 0 1) ≤ x5 then p0_0
    else 
     if ((p1_0 4) x5.toNatClampNeg) = x4 then 
      if (p0_3 x5.toNatClampNeg) = (2 : Int32) then ((f_X1_learn_L10 p0_3 p1_0 x3 x4 n) (x5 + (1 : Int32)) p0_0)
      else ((f_X1_learn_L10 p0_3 p1_0 x3 x4 n) (x5 + (1 : Int32)) (f_X1_putBits p0_0 p1_0 x5 x3))
     else ((f_X1_learn_L10 p0_3 p1_0 x3 x4 n) (x5 + (1 : Int32)) p0_0)
def f_X1_learn (p0_0 : Fn) (p0_3 : Fn) (p1_0 : Blk) (x2 : Int32) (x3 : Int32) : Fn := (f_X1_learn_L10 p0_3 p1_0 x3 (f_X0_registerBehind p1_0 x2) 4000 (0 : Int32) p0_0)
def f_X3_copyFrom_L10 (p0_0 : Int32) (p1_1 : Fn) (p1_2 : Fn) (p1_3 : Fn) : Nat → Int32 → Fn → Fn → Fn → Int32 × Fn × Fn × Fn
  | 0, _, _, _, _ => (0, (fun _ => 0), (fun _ => 0), (fun _ => 0))
  | n + 1, x2, p0_1, p0_2, p0_3 => 
    if (20 : Int32) ≤ x2 then (p0_0, p0_1, p0_2, p0_3)
    else ((f_X3_copyFrom_L10 p0_0 p1_1 p1_2 p1_3 n) (x2 + (1 : Int32)) (upd p0_1 x2.toNatClampNeg (p1_1 x2.toNatClampNeg)) (upd p0_2 x2.toNatClampNeg (vp_nar .boolean (p1_2 x2.toNatClampNeg))) (upd p0_3 x2.toNatClampNeg (p1_3 x2.toNatClampNeg)))
def f_X3_copyFrom (p0_1 : Fn) (p0_2 : Fn) (p0_3 : Fn) (p1_0 : Int32) (p1_1 : Fn) (p1_2 : Fn) (p1_3 : Fn) : Int32 × Fn × Fn × Fn := (f_X3_copyFrom_L10 p1_0 p1_1 p1_2 p1_3 4000 (0 : Int32) p0_1 p0_2 p0_3)
def f_X3_append (p0_0 : Int32) (p0_1 : Fn) (p0_2 : Fn) (p0_3 : Fn) (x1 : Int32) (x2 : Int32) (x3 : Int32) : Int32 × Fn × Fn × Fn := 
  if p0_0 < (20 : Int32) then ((p0_0 + (1 : Int32)), (upd p0_1 p0_0.toNatClampNeg x1), (upd p0_2 p0_0.toNatClampNeg (vp_nar .boolean x2)), (upd p0_3 p0_0.toNatClampNeg x3))
  else (p0_0, p0_1, p0_2, p0_3)
def f_X6_isLetter (p0_0 : Fn) (x1 : Int32) : Int32 := 
  if (p0_0 x1.toNatClampNeg) < (97 : Int32) then (0 : Int32)
  else 
   if (122 : Int32) < (p0_0 x1.toNatClampNeg) then (0 : Int32)
   else (1 : Int32)
def f_X6_isDigit (p0_0 : Fn) (x1 : Int32) : Int32 := 
  if (p0_0 x1.toNatClampNeg) < (48 : Int32) then (0 : Int32)
  else 
   if (57 : Int32) < (p0_0 x1.toNatClampNeg) then (0 : Int32)
   else (1 : Int32)
def f_X5_copyFrom_C33 (p0d_0 : Fn) (p0d_1 : Fn) (p0d_2 : Fn) (p0d_3 : Fn) (p0m_0 : Fn) (p0m_1 : Fn) (p0m_2 : Fn) (p0m_3 : Fn) (p1_0 : Int32) (p1_1 : Int32) (p0j_0 : Int32) (p0j_1 : Fn) (p0j_2 : Fn) (p0j_3 : Fn) : Int32 × Int32 × Fn × Fn × Fn × Fn × Fn × Fn × Fn × Fn × Int32 × Fn × Fn × Fn := (p1_0, p1_1, p0d_0, p0d_1, p0d_2, p0d_3, p0m_0, p0m_1, p0m_2, p0m_3, p0j_0, p0j_1, p0j_2, p0j_3)
def f_X5_copyFrom_C22 (p0d_0 : Fn) (p0d_1 : Fn) (p0d_2 : Fn) (p0d_3 : Fn) (p0j_1 : Fn) (p0j_2 : Fn) (p0j_3 : Fn) (p1_0 : Int32) (p1_1 : Int32) (p1j_0 : Int32) (p1j_1 : Fn) (p1j_2 : Fn) (p1j_3 : Fn) (p0m_0 : Fn) (p0m_1 : Fn) (p0m_2 : Fn) (p0m_3 : Fn) : Int32 × Int32 × Fn × Fn × Fn × Fn × Fn × Fn × Fn × Fn × Int32 × Fn × Fn × Fn := (f_X5_copyFrom_C33 p0d_0 p0d_1 p0d_2 p0d_3 p0m_0 p0m_1 p0m_2 p0m_3 p1_0 p1_1 ((f_X3_copyFrom p0j_1 p0j_2 p0j_3 p1j_0 p1j_1 p1j_2 p1j_3).1) ((f_X3_copyFrom p0j_1 p0j_2 p0j_3 p1j_0 p1j_1 p1j_2 p1j_3).2.1) ((f_X3_copyFrom p0j_1 p0j_2 p0j_3 p1j_0 p1j_1 p1j_2 p1j_3).2.2.1) ((f_X3_copyFrom p0j_1 p0j_2 p0j_3 p1j_0 p1j_1 p1j_2 p1j_3).2.2.2))
def f_X5_copyFrom_C11 (p0m_0 : Fn) (p0m_1 : Fn) (p0m_2 : Fn) (p0m_3 : Fn) (p0j_1 : Fn) (p0j_2 : Fn) (p0j_3 : Fn) (p1_0 : Int32) (p1_1 : Int32) (p1m_0 : Fn) (p1m_1 : Fn) (p1m_2 : Fn) (p1m_3 : Fn) (p1j_0 : Int32) (p1j_1 : Fn) (p1j_2 : Fn) (p1j_3 : Fn) (p0d_0 : Fn) (p0d_1 : Fn) (p0d_2 : Fn) (p0d_3 : Fn) : Int32 × Int32 × Fn × Fn × Fn × Fn × Fn × Fn × Fn × Fn × Int32 × Fn × Fn × Fn := (f_X5_copyFrom_C22 p0d_0 p0d_1 p0d_2 p0d_3 p0j_1 p0j_2 p0j_3 p1_0 p1_1 p1j_0 p1j_1 p1j_2 p1j_3 ((f_X1_copyFrom p0m_0 p0m_1 p0m_2 p0m_3 p1m_0 p1m_1 p1m_2 p1m_3).1) ((f_X1_copyFrom p0m_0 p0m_1 p0m_2 p0m_3 p1m_0 p1m_1 p1m_2 p1m_3).2.1) ((f_X1_copyFrom p0m_0 p0m_1 p0m_2 p0m_3 p1m_0 p1m_1 p1m_2 p1m_3).2.2.1) ((f_X1_copyFrom p0m_0 p0m_1 p0m_2 p0m_3 p1m_0 p1m_1 p1m_2 p1m_3).2.2.2))
def f_X5_copyFrom (p0d_0 : Fn) (p0d_1 : Fn) (p0d_2 : Fn) (p0d_3 : Fn) (p0m_0 : Fn) (p0m_1 : Fn) (p0m_2 : Fn) (p0m_3 : Fn) (p0j_1 : Fn) (p0j_2 : Fn) (p0j_3 : Fn) (p1_0 : Int32) (p1_1 : Int32) (p1d_0 : Fn) (p1d_1 : Fn) (p1d_2 : Fn) (p1d_3 : Fn) (p1m_0 : Fn) (p1m_1 : Fn) (p1m_2 : Fn) (p1m_3 : Fn) (p1j_0 : Int32) (p1j_1 : Fn) (p1j_2 : Fn) (p1j_3 : Fn) : Int32 × Int32 × Fn × Fn × Fn × Fn × Fn × Fn × Fn × Fn × Int32 × Fn × Fn × Fn := (f_X5_copyFrom_C11 p0m_0 p0m_1 p0m_2 p0m_3 p0j_1 p0j_2 p0j_3 p1_0 p1_1 p1m_0 p1m_1 p1m_2 p1m_3 p1j_0 p1j_1 p1j_2 p1j_3 ((f_X1_copyFrom p0d_0 p0d_1 p0d_2 p0d_3 p1d_0 p1d_1 p1d_2 p1d_3).1) ((f_X1_copyFrom p0d_0 p0d_1 p0d_2 p0d_3 p1d_0 p1d_1 p1d_2 p1d_3).2.1) ((f_X1_copyFrom p0d_0 p0d_1 p0d_2 p0d_3 p1d_0 p1d_1 p1d_2 p1d_3).2.2.1) ((f_X1_copyFrom p0d_0 p0d_1 p0d_2 p0d_3 p1d_0 p1d_1 p1d_2 p1d_3).2.2.2))
def f_X5_restart_C16 (p0d_0 : Fn) (p0d_1 : Fn) (p0d_2 : Fn) (p0m_0 : Fn) (p0m_1 : Fn) (p0m_2 : Fn) : Int32 × Int32 × Fn × Fn × Fn × Fn × Fn × Fn × Int32 := ((0 : Int32), (-9 : Int32), p0d_0, p0d_1, p0d_2, p0m_0, p0m_1, p0m_2, (0 : Int32))
def f_X5_restart_C8 (p0m_0 : Fn) (p0m_1 : Fn) (p0m_2 : Fn) (p1_0 : Blk) (p0d_0 : Fn) (p0d_1 : Fn) (p0d_2 : Fn) : Int32 × Int32 × Fn × Fn × Fn × Fn × Fn × Fn × Int32 := (f_X5_restart_C16 p0d_0 p0d_1 p0d_2 ((f_X1_restart p0m_0 p0m_1 p0m_2 p1_0).1) ((f_X1_restart p0m_0 p0m_1 p0m_2 p1_0).2.1) ((f_X1_restart p0m_0 p0m_1 p0m_2 p1_0).2.2))
def f_X5_restart (p0d_0 : Fn) (p0d_1 : Fn) (p0d_2 : Fn) (p0m_0 : Fn) (p0m_1 : Fn) (p0m_2 : Fn) (p1_0 : Blk) : Int32 × Int32 × Fn × Fn × Fn × Fn × Fn × Fn × Int32 := (f_X5_restart_C8 p0m_0 p0m_1 p0m_2 p1_0 ((f_X1_restart p0d_0 p0d_1 p0d_2 p1_0).1) ((f_X1_restart p0d_0 p0d_1 p0d_2 p1_0).2.1) ((f_X1_restart p0d_0 p0d_1 p0d_2 p1_0).2.2))
def f_X5_startWith_C21 (p0d_3 : Fn) (p0m_3 : Fn) (p0_0 : Int32) (p0_1 : Int32) (p0d_0 : Fn) (p0d_1 : Fn) (p0d_2 : Fn) (p0m_0 : Fn) (p0m_1 : Fn) (p0m_2 : Fn) (p0j_0 : Int32) : Int32 × Int32 × Fn × Fn × Fn × Fn × Fn × Fn × Fn × Fn × Int32 := (p0_0, p0_1, p0d_0, p0d_1, p0d_2, p0d_3, p0m_0, p0m_1, p0m_2, p0m_3, p0j_0)
def f_X5_startWith (p0d_0 : Fn) (p0d_1 : Fn) (p0d_2 : Fn) (p0d_3 : Fn) (p0m_0 : Fn) (p0m_1 : Fn) (p0m_2 : Fn) (p0m_3 : Fn) (p1_0 : Blk) : Int32 × Int32 × Fn × Fn × Fn × Fn × Fn × Fn × Fn × Fn × Int32 := (f_X5_startWith_C21 (f_X1_mend p0d_3 p1_0) (f_X1_mend p0m_3 p1_0) ((f_X5_restart p0d_0 p0d_1 p0d_2 p0m_0 p0m_1 p0m_2 p1_0).1) ((f_X5_restart p0d_0 p0d_1 p0d_2 p0m_0 p0m_1 p0m_2 p1_0).2.1) ((f_X5_restart p0d_0 p0d_1 p0d_2 p0m_0 p0m_1 p0m_2 p1_0).2.2.1) ((f_X5_restart p0d_0 p0d_1 p0d_2 p0m_0 p0m_1 p0m_2 p1_0).2.2.2.1) ((f_X5_restart p0d_0 p0d_1 p0d_2 p0m_0 p0m_1 p0m_2 p1_0).2.2.2.2.1) ((f_X5_restart p0d_0 p0d_1 p0d_2 p0m_0 p0m_1 p0m_2 p1_0).2.2.2.2.2.1) ((f_X5_restart p0d_0 p0d_1 p0d_2 p0m_0 p0m_1 p0m_2 p1_0).2.2.2.2.2.2.1) ((f_X5_restart p0d_0 p0d_1 p0d_2 p0m_0 p0m_1 p0m_2 p1_0).2.2.2.2.2.2.2.1) ((f_X5_restart p0d_0 p0d_1 p0d_2 p0m_0 p0m_1 p0m_2 p1_0).2.2.2.2.2.2.2.2))
def f_X5_performRead_C72 (p0_0 : Int32) (p0_1 : Int32) (p0d_0 : Fn) (p0m_0 : Fn) (x3 : Int32) (p0j_0 : Int32) (p0j_1 : Fn) (p0j_2 : Fn) (p0j_3 : Fn) : Int32 × Int32 × Int32 × Fn × Fn × Int32 × Fn × Fn × Fn := (x3, p0_0, p0_1, p0d_0, p0m_0, p0j_0, p0j_1, p0j_2, p0j_3)
def f_X5_performRead_C61 (p0_0 : Int32) (p0_1 : Int32) (p0d_0 : Fn) (p0j_0 : Int32) (p0j_1 : Fn) (p0j_2 : Fn) (p0j_3 : Fn) (x2 : Int32) (x3 : Int32) (s0 : Int32) (p0m_0 : Fn) : Int32 × Int32 × Int32 × Fn × Fn × Int32 × Fn × Fn × Fn := (f_X5_performRead_C72 p0_0 p0_1 p0d_0 p0m_0 x3 ((f_X3_append p0j_0 p0j_1 p0j_2 p0j_3 x2 (0 : Int32) x3).1) ((f_X3_append p0j_0 p0j_1 p0j_2 p0j_3 x2 (0 : Int32) x3).2.1) ((f_X3_append p0j_0 p0j_1 p0j_2 p0j_3 x2 (0 : Int32) x3).2.2.1) ((f_X3_append p0j_0 p0j_1 p0j_2 p0j_3 x2 (0 : Int32) x3).2.2.2))
def f_X5_performRead_J42 (p0_1 : Int32) (p0d_0 : Fn) (p0m_0 : Fn) (p0m_3 : Fn) (p0j_0 : Int32) (p0j_1 : Fn) (p0j_2 : Fn) (p0j_3 : Fn) (p1_0 : Blk) (x2 : Int32) (x3 : Int32) (p0_0 : Int32) : Int32 × Int32 × Int32 × Fn × Fn × Int32 × Fn × Fn × Fn := (f_X5_performRead_C61 p0_0 p0_1 p0d_0 p0j_0 p0j_1 p0j_2 p0j_3 x2 x3 (f_X1_read (f_X1_learn p0m_0 p0m_3 p1_0 x2 x3) p0m_3 p1_0 x2).1 ((f_X1_read (f_X1_learn p0m_0 p0m_3 p1_0 x2 x3) p0m_3 p1_0 x2).2))
def f_X5_performRead_C9 (p0_0 : Int32) (p0m_0 : Fn) (p0m_3 : Fn) (p0j_0 : Int32) (p0j_1 : Fn) (p0j_2 : Fn) (p0j_3 : Fn) (p1_0 : Blk) (x2 : Int32) (s0 : Int32) (p0d_0 : Fn) : Int32 × Int32 × Int32 × Fn × Fn × Int32 × Fn × Fn × Fn := 
    if (s0 ^^^ (f_X1_look p0m_0 p0m_3 p1_0 x2)) = 0 then (f_X5_performRead_J42 (s0 ^^^ (f_X1_look p0m_0 p0m_3 p1_0 x2)) p0d_0 p0m_0 p0m_3 p0j_0 p0j_1 p0j_2 p0j_3 p1_0 x2 s0 p0_0)
    else (f_X5_performRead_J42 (s0 ^^^ (f_X1_look p0m_0 p0m_3 p1_0 x2)) p0d_0 p0m_0 p0m_3 p0j_0 p0j_1 p0j_2 p0j_3 p1_0 x2 s0 (p0_0 + (1 : Int32)))
def f_X5_performRead (p0_0 : Int32) (p0d_0 : Fn) (p0d_3 : Fn) (p0m_0 : Fn) (p0m_3 : Fn) (p0j_0 : Int32) (p0j_1 : Fn) (p0j_2 : Fn) (p0j_3 : Fn) (p1_0 : Blk) (x2 : Int32) : Int32 × Int32 × Int32 × Fn × Fn × Int32 × Fn × Fn × Fn := (f_X5_performRead_C9 p0_0 p0m_0 p0m_3 p0j_0 p0j_1 p0j_2 p0j_3 p1_0 x2 (f_X1_read p0d_0 p0d_3 p1_0 x2).1 ((f_X1_read p0d_0 p0d_3 p1_0 x2).2))
def f_X5_performWrite_C30 (p0d_0 : Fn) (p0d_1 : Fn) (p0d_2 : Fn) (p0m_0 : Fn) (p0m_1 : Fn) (p0m_2 : Fn) (p0j_0 : Int32) (p0j_1 : Fn) (p0j_2 : Fn) (p0j_3 : Fn) : Fn × Fn × Fn × Fn × Fn × Fn × Int32 × Fn × Fn × Fn := (p0d_0, p0d_1, p0d_2, p0m_0, p0m_1, p0m_2, p0j_0, p0j_1, p0j_2, p0j_3)
def f_X5_performWrite_C20 (p0d_0 : Fn) (p0d_1 : Fn) (p0d_2 : Fn) (p0j_0 : Int32) (p0j_1 : Fn) (p0j_2 : Fn) (p0j_3 : Fn) (x2 : Int32) (x3 : Int32) (p0m_0 : Fn) (p0m_1 : Fn) (p0m_2 : Fn) : Fn × Fn × Fn × Fn × Fn × Fn × Int32 × Fn × Fn × Fn := (f_X5_performWrite_C30 p0d_0 p0d_1 p0d_2 p0m_0 p0m_1 p0m_2 ((f_X3_append p0j_0 p0j_1 p0j_2 p0j_3 x2 (1 : Int32) x3).1) ((f_X3_append p0j_0 p0j_1 p0j_2 p0j_3 x2 (1 : Int32) x3).2.1) ((f_X3_append p0j_0 p0j_1 p0j_2 p0j_3 x2 (1 : Int32) x3).2.2.1) ((f_X3_append p0j_0 p0j_1 p0j_2 p0j_3 x2 (1 : Int32) x3).2.2.2))
def f_X5_performWrite_C10 (p0m_0 : Fn) (p0m_1 : Fn) (p0m_2 : Fn) (p0m_3 : Fn) (p0j_0 : Int32) (p0j_1 : Fn) (p0j_2 : Fn) (p0j_3 : Fn) (p1_0 : Blk) (x2 : Int32) (x3 : Int32) (p0d_0 : Fn) (p0d_1 : Fn) (p0d_2 : Fn) : Fn × Fn × Fn × Fn × Fn × Fn × Int32 × Fn × Fn × Fn := (f_X5_performWrite_C20 p0d_0 p0d_1 p0d_2 p0j_0 p0j_1 p0j_2 p0j_3 x2 x3 ((f_X1_write p0m_0 p0m_1 p0m_2 p0m_3 p1_0 x2 x3).1) ((f_X1_write p0m_0 p0m_1 p0m_2 p0m_3 p1_0 x2 x3).2.1) ((f_X1_write p0m_0 p0m_1 p0m_2 p0m_3 p1_0 x2 x3).2.2))
def f_X5_performWrite (p0d_0 : Fn) (p0d_1 : Fn) (p0d_2 : Fn) (p0d_3 : Fn) (p0m_0 : Fn) (p0m_1 : Fn) (p0m_2 : Fn) (p0m_3 : Fn) (p0j_0 : Int32) (p0j_1 : Fn) (p0j_2 : Fn) (p0j_3 : Fn) (p1_0 : Blk) (x2 : Int32) (x3 : Int32) : Fn × Fn × Fn × Fn × Fn × Fn × Int32 × Fn × Fn × Fn := (f_X5_performWrite_C10 p0m_0 p0m_1 p0m_2 p0m_3 p0j_0 p0j_1 p0j_2 p0j_3 p1_0 x2 x3 ((f_X1_write p0d_0 p0d_1 p0d_2 p0d_3 p1_0 x2 x3).1) ((f_X1_write p0d_0 p0d_1 p0d_2 p0d_3 p1_0 x2 x3).2.1) ((f_X1_write p0d_0 p0d_1 p0d_2 p0d_3 p1_0 x2 x3).2.2))
