/-! twin functions, by program -/
def f_X8_isWithin (x0 : Int32) (x1 : Int32) : Int32 := 
  if x0 < 0 then (0 : Int32)
  else 
   if x1 ≤ x0 then (0 : Int32)
   else (1 : Int32)
def f_X6_append (p0_0 : Fn) (p0_1 : Int32) (x1 : Int32) : Fn × Int32 := 
  if (160 : Int32) ≤ p0_1 then (p0_0, p0_1)
  else ((upd p0_0 p0_1.toNatClampNeg x1), (p0_1 + (1 : Int32)))
def f_X1_putBits (p0_0 : Fn) (p1_0 : Blk) (x2 : Int32) (x3 : Int32) : Fn := (upd p0_0 ((p1_0 4) x2.toNatClampNeg).toNatClampNeg (((p0_0 ((p1_0 4) x2.toNatClampNeg).toNatClampNeg) &&& (((p1_0 8) x2.toNatClampNeg) ^^^ (-1 : Int32))) ||| (x3 &&& ((p1_0 8) x2.toNatClampNeg))))
def f_X1_putValue (p0_0 : Fn) (p1_0 : Blk) (x2 : Int32) (x3 : Int32) : Fn := (f_X1_putBits p0_0 p1_0 x2 (x3 <<< (((p1_0 6) x2.toNatClampNeg) &&& 31)))
def f_X1_restart_L38 (p0_1 : Fn) (p0_2 : Fn) (p1_0 : Blk) : Nat → Int32 → Fn → Fn × Fn × Fn
  | 0, _, p0_0 => (p0_0, p0_1, p0_2)
  | n + 1, x2, p0_0 => 
    if (p1_0 0 1) ≤ x2 then (p0_0, p0_1, p0_2)
    else ((f_X1_restart_L38 p0_1 p0_2 p1_0 n) (x2 + (1 : Int32)) (f_X1_putValue p0_0 p1_0 x2 ((p1_0 9) x2.toNatClampNeg)))
def f_X1_restart_L2 (p1_0 : Blk) : Nat → Int32 → Fn → Fn → Fn → Fn × Fn × Fn
  | 0, _, p0_0, p0_1, p0_2 => (p0_0, p0_1, p0_2)
  | n + 1, x2, p0_0, p0_1, p0_2 => 
    if (6 : Int32) ≤ x2 then (f_X1_restart_L38 p0_1 p0_2 p1_0 4000 (0 : Int32) p0_0)
    else ((f_X1_restart_L2 p1_0 n) (x2 + (1 : Int32)) (upd p0_0 x2.toNatClampNeg (0 : Int32)) (upd p0_1 x2.toNatClampNeg (-9 : Int32)) (upd p0_2 x2.toNatClampNeg (vp_nar .boolean (0 : Int32))))
def f_X1_restart (p0_0 : Fn) (p0_1 : Fn) (p0_2 : Fn) (p1_0 : Blk) : Fn × Fn × Fn := (f_X1_restart_L2 p1_0 4000 (0 : Int32) p0_0 p0_1 p0_2)
def f_X5_restart_C16 (p0d_0 : Fn) (p0d_1 : Fn) (p0d_2 : Fn) (p0m_0 : Fn) (p0m_1 : Fn) (p0m_2 : Fn) : Int32 × Int32 × Fn × Fn × Fn × Fn × Fn × Fn × Int32 := ((0 : Int32), (-9 : Int32), p0d_0, p0d_1, p0d_2, p0m_0, p0m_1, p0m_2, (0 : Int32))
def f_X5_restart_C8 (p0m_0 : Fn) (p0m_1 : Fn) (p0m_2 : Fn) (p1_0 : Blk) (p0d_0 : Fn) (p0d_1 : Fn) (p0d_2 : Fn) : Int32 × Int32 × Fn × Fn × Fn × Fn × Fn × Fn × Int32 := (f_X5_restart_C16 p0d_0 p0d_1 p0d_2 ((f_X1_restart p0m_0 p0m_1 p0m_2 p1_0).1) ((f_X1_restart p0m_0 p0m_1 p0m_2 p1_0).2.1) ((f_X1_restart p0m_0 p0m_1 p0m_2 p1_0).2.2))
def f_X5_restart (p0d_0 : Fn) (p0d_1 : Fn) (p0d_2 : Fn) (p0m_0 : Fn) (p0m_1 : Fn) (p0m_2 : Fn) (p1_0 : Blk) : Int32 × Int32 × Fn × Fn × Fn × Fn × Fn × Fn × Int32 := (f_X5_restart_C8 p0m_0 p0m_1 p0m_2 p1_0 ((f_X1_restart p0d_0 p0d_1 p0d_2 p1_0).1) ((f_X1_restart p0d_0 p0d_1 p0d_2 p1_0).2.1) ((f_X1_restart p0d_0 p0d_1 p0d_2 p1_0).2.2))
def f_X0_registerAt_L2 (p0_0 : Blk) (x1 : Int32) : Nat → Int32 → Int32
  | 0, _ => 0
  | n + 1, x2 => 
    if (p0_0 0 0) ≤ x2 then (-9 : Int32)
    else 
     if ((p0_0 1) x2.toNatClampNeg) = x1 then x2
     else ((f_X0_registerAt_L2 p0_0 x1 n) (x2 + (1 : Int32)))
def f_X0_registerAt (p0_0 : Blk) (x1 : Int32) : Int32 := (f_X0_registerAt_L2 p0_0 x1 4000 (0 : Int32))
def f_X0_aliasAt_L15 (p0_0 : Blk) (x1 : Int32) : Nat → Int32 → Int32
  | 0, _ => 0
  | n + 1, x2 => 
    if (p0_0 0 2) ≤ x2 then (-9 : Int32)
    else 
     if ((p0_0 10) x2.toNatClampNeg) = x1 then x2
     else ((f_X0_aliasAt_L15 p0_0 x1 n) (x2 + (1 : Int32)))
def f_X0_aliasAt (p0_0 : Blk) (x1 : Int32) : Int32 := 
  if (f_X0_registerAt p0_0 x1) = (-9 : Int32) then (f_X0_aliasAt_L15 p0_0 x1 4000 (0 : Int32))
  else (-9 : Int32)
def f_X0_registerBehind (p0_0 : Blk) (x1 : Int32) : Int32 := 
  if (f_X0_aliasAt p0_0 x1) = (-9 : Int32) then (f_X0_registerAt p0_0 x1)
  else ((p0_0 11) (f_X0_aliasAt p0_0 x1).toNatClampNeg)
def f_X1_shown_L10 (p0_3 : Fn) (p1_0 : Blk) (x2 : Int32) : Nat → Int32 → Int32 → Int32
  | 0, _, _ => 0
  | n + 1, x3, x4 => 
    if (p1_0 0 1) ≤ x4 then x3
    else 
     if ((p1_0 4) x4.toNatClampNeg) = x2 then 
      if (p0_3 x4.toNatClampNeg) = (2 : Int32) then ((f_X1_shown_L10 p0_3 p1_0 x2 n) (x3 &&& (((p1_0 8) x4.toNatClampNeg) ^^^ (-1 : Int32))) (x4 + (1 : Int32)))
      else ((f_X1_shown_L10 p0_3 p1_0 x2 n) x3 (x4 + (1 : Int32)))
     else ((f_X1_shown_L10 p0_3 p1_0 x2 n) x3 (x4 + (1 : Int32)))
def f_X1_shown (p0_0 : Fn) (p0_3 : Fn) (p1_0 : Blk) (x2 : Int32) : Int32 := (f_X1_shown_L10 p0_3 p1_0 x2 4000 (p0_0 x2.toNatClampNeg) (0 : Int32))
def f_X1_look (p0_0 : Fn) (p0_3 : Fn) (p1_0 : Blk) (x2 : Int32) : Int32 := 
  if (f_X0_registerBehind p1_0 x2) = (-9 : Int32) then (0 : Int32)
  else (f_X1_shown p0_0 p0_3 p1_0 (f_X0_registerBehind p1_0 x2))
def f_X1_read_L17 (p0_3 : Fn) (p1_0 : Blk) (x3 : Int32) (x4 : Int32) : Nat → Int32 → Fn → Int32 × Fn
  | 0, _, p0_0 => (0, p0_0)
  | n + 1, x5, p0_0 => 
    if (p1_0 0 1) ≤ x5 then (x3, p0_0)
    else 
     if ((p1_0 4) x5.toNatClampNeg) = x4 then 
      if (p0_3 x5.toNatClampNeg) = (6 : Int32) then ((f_X1_read_L17 p0_3 p1_0 x3 x4 n) (x5 + (1 : Int32)) (f_X1_putBits p0_0 p1_0 x5 (0 : Int32)))
      else ((f_X1_read_L17 p0_3 p1_0 x3 x4 n) (x5 + (1 : Int32)) p0_0)
     else ((f_X1_read_L17 p0_3 p1_0 x3 x4 n) (x5 + (1 : Int32)) p0_0)
def f_X1_read (p0_0 : Fn) (p0_3 : Fn) (p1_0 : Blk) (x2 : Int32) : Int32 × Fn := (f_X1_read_L17 p0_3 p1_0 (f_X1_look p0_0 p0_3 p1_0 x2) (f_X0_registerAt p1_0 x2) 4000 (0 : Int32) p0_0)
def f_X1_learn_L10 (p0_3 : Fn) (p1_0 : Blk) (x3 : Int32) (x4 : Int32) : Nat → Int32 → Fn → Fn
  | 0, _, p0_0 => p0_0
  | n + 1, x5, p0_0 => 
    if (p1_0 0 1) ≤ x5 then p0_0
    else 
     if ((p1_0 4) x5.toNatClampNeg) = x4 then 
      if (p0_3 x5.toNatClampNeg) = (2 : Int32) then ((f_X1_learn_L10 p0_3 p1_0 x3 x4 n) (x5 + (1 : Int32)) p0_0)
      else ((f_X1_learn_L10 p0_3 p1_0 x3 x4 n) (x5 + (1 : Int32)) (f_X1_putBits p0_0 p1_0 x5 x3))
     else ((f_X1_learn_L10 p0_3 p1_0 x3 x4 n) (x5 + (1 : Int32)) p0_0)
def f_X1_learn (p0_0 : Fn) (p0_3 : Fn) (p1_0 : Blk) (x2 : Int32) (x3 : Int32) : Fn := (f_X1_learn_L10 p0_3 p1_0 x3 (f_X0_registerBehind p1_0 x2) 4000 (0 : Int32) p0_0)
def f_X3_append (p0_0 : Int32) (p0_1 : Fn) (p0_2 : Fn) (p0_3 : Fn) (x1 : Int32) (x2 : Int32) (x3 : Int32) : Int32 × Fn × Fn × Fn := 
  if p0_0 < (20 : Int32) then ((p0_0 + (1 : Int32)), (upd p0_1 p0_0.toNatClampNeg x1), (upd p0_2 p0_0.toNatClampNeg (vp_nar .boolean x2)), (upd p0_3 p0_0.toNatClampNeg x3))
  else (p0_0, p0_1, p0_2, p0_3)
def f_X5_performRead_C72 (p0_0 : Int32) (p0_1 : Int32) (p0d_0 : Fn) (p0m_0 : Fn) (x3 : Int32) (p0j_0 : Int32) (p0j_1 : Fn) (p0j_2 : Fn) (p0j_3 : Fn) : Int32 × Int32 × Int32 × Fn × Fn × Int32 × Fn × Fn × Fn := (x3, p0_0, p0_1, p0d_0, p0m_0, p0j_0, p0j_1, p0j_2, p0j_3)
def f_X5_performRead_C61 (p0_0 : Int32) (p0_1 : Int32) (p0d_0 : Fn) (p0j_0 : Int32) (p0j_1 : Fn) (p0j_2 : Fn) (p0j_3 : Fn) (x2 : Int32) (x3 : Int32) (s0 : Int32) (p0m_0 : Fn) : Int32 × Int32 × Int32 × Fn × Fn × Int32 × Fn × Fn × Fn := (f_X5_performRead_C72 p0_0 p0_1 p0d_0 p0m_0 x3 ((f_X3_append p0j_0 p0j_1 p0j_2 p0j_3 x2 (0 : Int32) x3).1) ((f_X3_append p0j_0 p0j_1 p0j_2 p0j_3 x2 (0 : Int32) x3).2.1) ((f_X3_append p0j_0 p0j_1 p0j_2 p0j_3 x2 (0 : Int32) x3).2.2.1) ((f_X3_append p0j_0 p0j_1 p0j_2 p0j_3 x2 (0 : Int32) x3).2.2.2))
def f_X5_performRead_J42 (p0_1 : Int32) (p0d_0 : Fn) (p0m_0 : Fn) (p0m_3 : Fn) (p0j_0 : Int32) (p0j_1 : Fn) (p0j_2 : Fn) (p0j_3 : Fn) (p1_0 : Blk) (x2 : Int32) (x3 : Int32) (p0_0 : Int32) : Int32 × Int32 × Int32 × Fn × Fn × Int32 × Fn × Fn × Fn := (f_X5_performRead_C61 p0_0 p0_1 p0d_0 p0j_0 p0j_1 p0j_2 p0j_3 x2 x3 (f_X1_read (f_X1_learn p0m_0 p0m_3 p1_0 x2 x3) p0m_3 p1_0 x2).1 ((f_X1_read (f_X1_learn p0m_0 p0m_3 p1_0 x2 x3) p0m_3 p1_0 x2).2))
def f_X5_performRead_C9 (p0_0 : Int32) (p0m_0 : Fn) (p0m_3 : Fn) (p0j_0 : Int32) (p0j_1 : Fn) (p0j_2 : Fn) (p0j_3 : Fn) (p1_0 : Blk) (x2 : Int32) (s0 : Int32) (p0d_0 : Fn) : Int32 × Int32 × Int32 × Fn × Fn × Int32 × Fn × Fn × Fn := 
    if (s0 ^^^ (f_X1_look p0m_0 p0m_3 p1_0 x2)) = 0 then (f_X5_performRead_J42 (s0 ^^^ (f_X1_look p0m_0 p0m_3 p1_0 x2)) p0d_0 p0m_0 p0m_3 p0j_0 p0j_1 p0j_2 p0j_3 p1_0 x2 s0 p0_0)
    else (f_X5_performRead_J42 (s0 ^^^ (f_X1_look p0m_0 p0m_3 p1_0 x2)) p0d_0 p0m_0 p0m_3 p0j_0 p0j_1 p0j_2 p0j_3 p1_0 x2 s0 (p0_0 + (1 : Int32)))
def f_X5_performRead (p0_0 : Int32) (p0d_0 : Fn) (p0d_3 : Fn) (p0m_0 : Fn) (p0m_3 : Fn) (p0j_0 : Int32) (p0j_1 : Fn) (p0j_2 : Fn) (p0j_3 : Fn) (p1_0 : Blk) (x2 : Int32) : Int32 × Int32 × Int32 × Fn × Fn × Int32 × Fn × Fn × Fn := (f_X5_performRead_C9 p0_0 p0m_0 p0m_3 p0j_0 p0j_1 p0j_2 p0j_3 p1_0 x2 (f_X1_read p0d_0 p0d_3 p1_0 x2).1 ((f_X1_read p0d_0 p0d_3 p1_0 x2).2))
def f_X1_copyFrom_L2 (p0_3 : Fn) (p1_0 : Fn) (p1_1 : Fn) (p1_2 : Fn) (p1_3 : Fn) : Nat → Int32 → Fn → Fn → Fn → Fn × Fn × Fn × Fn
  | 0, _, p0_0, p0_1, p0_2 => (p0_0, p0_1, p0_2, p0_3)
  | n + 1, x2, p0_0, p0_1, p0_2 => 
    if (6 : Int32) ≤ x2 then (p0_0, p0_1, p0_2, (va_cpy p1_3 p0_3 0 0 12))
    else ((f_X1_copyFrom_L2 p0_3 p1_0 p1_1 p1_2 p1_3 n) (x2 + (1 : Int32)) (upd p0_0 x2.toNatClampNeg (p1_0 x2.toNatClampNeg)) (upd p0_1 x2.toNatClampNeg (p1_1 x2.toNatClampNeg)) (upd p0_2 x2.toNatClampNeg (vp_nar .boolean (p1_2 x2.toNatClampNeg))))
def f_X1_copyFrom (p0_0 : Fn) (p0_1 : Fn) (p0_2 : Fn) (p0_3 : Fn) (p1_0 : Fn) (p1_1 : Fn) (p1_2 : Fn) (p1_3 : Fn) : Fn × Fn × Fn × Fn := (f_X1_copyFrom_L2 p0_3 p1_0 p1_1 p1_2 p1_3 4000 (0 : Int32) p0_0 p0_1 p0_2)
def f_X1_valueOf (p0_0 : Fn) (p1_0 : Blk) (x2 : Int32) : Int32 := (((p0_0 ((p1_0 4) x2.toNatClampNeg).toNatClampNeg) &&& ((p1_0 8) x2.toNatClampNeg)) >>> (((p1_0 6) x2.toNatClampNeg) &&& 31))
def f_X1_isLocked (p0_0 : Fn) (p1_0 : Blk) (x2 : Int32) : Int32 := 
  if (f_X8_isWithin ((p1_0 2) x2.toNatClampNeg) (p1_0 0 1)) = 0 then (0 : Int32)
  else 
   if (f_X1_valueOf p0_0 p1_0 ((p1_0 2) x2.toNatClampNeg)) = 0 then (0 : Int32)
   else (1 : Int32)
def f_X1_bitsAfter (p0_0 : Fn) (p0_2 : Fn) (x1 : Int32) (x2 : Int32) (x3 : Int32) : Int32 := 
  if x3 = (0 : Int32) then x2
  else 
   if x3 = (1 : Int32) then (p0_0 x1.toNatClampNeg)
   else 
    if x3 = (2 : Int32) then x2
    else 
     if x3 = (3 : Int32) then ((p0_0 x1.toNatClampNeg) &&& (x2 ^^^ (-1 : Int32)))
     else 
      if x3 = (4 : Int32) then ((p0_0 x1.toNatClampNeg) ||| x2)
      else 
       if x3 = (5 : Int32) then ((p0_0 x1.toNatClampNeg) ^^^ x2)
       else 
        if x3 = (6 : Int32) then (p0_0 x1.toNatClampNeg)
        else 
         if x3 = (7 : Int32) then 
          if (p0_2 x1.toNatClampNeg) = 0 then x2
          else (p0_0 x1.toNatClampNeg)
         else (p0_0 x1.toNatClampNeg)
def f_X1_letInByAlias_L3 (p0_2 : Fn) (p0_3 : Fn) (p1_0 : Blk) (x2 : Int32) (x3 : Int32) (x4 : Int32) : Nat → Int32 → Fn → Fn
  | 0, _, p0_0 => p0_0
  | n + 1, x5, p0_0 => 
    if (p1_0 0 1) ≤ x5 then p0_0
    else 
     if ((p1_0 4) x5.toNatClampNeg) = x2 then 
      if (p0_3 x5.toNatClampNeg) = (1 : Int32) then ((f_X1_letInByAlias_L3 p0_2 p0_3 p1_0 x2 x3 x4 n) (x5 + (1 : Int32)) p0_0)
      else 
       if (p0_3 x5.toNatClampNeg) = (6 : Int32) then ((f_X1_letInByAlias_L3 p0_2 p0_3 p1_0 x2 x3 x4 n) (x5 + (1 : Int32)) p0_0)
       else ((f_X1_letInByAlias_L3 p0_2 p0_3 p1_0 x2 x3 x4 n) (x5 + (1 : Int32)) (f_X1_putBits p0_0 p1_0 x5 (f_X1_bitsAfter p0_0 p0_2 x2 x3 x4)))
     else ((f_X1_letInByAlias_L3 p0_2 p0_3 p1_0 x2 x3 x4 n) (x5 + (1 : Int32)) p0_0)
def f_X1_letInByAlias (p0_0 : Fn) (p0_2 : Fn) (p0_3 : Fn) (p1_0 : Blk) (x2 : Int32) (x3 : Int32) (x4 : Int32) : Fn := (f_X1_letInByAlias_L3 p0_2 p0_3 p1_0 x2 x3 x4 4000 (0 : Int32) p0_0)
def f_X0_isOpenedBy (p0_0 : Blk) (x1 : Int32) (x2 : Int32) : Int32 := 
  if (f_X8_isWithin ((p0_0 3) x1.toNatClampNeg) (p0_0 0 1)) = 0 then (0 : Int32)
  else 
   if ((p0_0 4) ((p0_0 3) x1.toNatClampNeg).toNatClampNeg) = x2 then (1 : Int32)
   else (0 : Int32)
def f_X1_letIn_L3 (p0_2 : Fn) (p0_3 : Fn) (p1_0 : Blk) (x2 : Int32) (x3 : Int32) : Nat → Int32 → Fn → Fn × Fn
  | 0, _, p0_0 => (p0_0, p0_2)
  | n + 1, x4, p0_0 => 
    if (p1_0 0 1) ≤ x4 then (p0_0, (upd p0_2 x2.toNatClampNeg (vp_nar .boolean (1 : Int32))))
    else 
     if ((p1_0 4) x4.toNatClampNeg) = x2 then ((f_X1_letIn_L3 p0_2 p0_3 p1_0 x2 x3 n) (x4 + (1 : Int32)) (f_X1_putBits p0_0 p1_0 x4 (f_X1_bitsAfter p0_0 p0_2 x2 x3 (p0_3 x4.toNatClampNeg))))
     else ((f_X1_letIn_L3 p0_2 p0_3 p1_0 x2 x3 n) (x4 + (1 : Int32)) p0_0)
def f_X1_letIn (p0_0 : Fn) (p0_2 : Fn) (p0_3 : Fn) (p1_0 : Blk) (x2 : Int32) (x3 : Int32) : Fn × Fn := (f_X1_letIn_L3 p0_2 p0_3 p1_0 x2 x3 4000 (0 : Int32) p0_0)
def f_X1_openGates_J80 (p0_1 : Fn) (x4 : Int32) (k3 : Int32 → Fn → Fn → Fn → (Fn × Fn × Fn)) (p0_0 : Fn) (p0_2 : Fn) : Fn × Fn × Fn := (k3 (x4 + (1 : Int32)) p0_0 (upd p0_1 x4.toNatClampNeg (-9 : Int32)) p0_2)
def f_X1_openGates_L3 (p0_3 : Fn) (p1_0 : Blk) (x2 : Int32) (x3 : Int32) : Nat → Int32 → Fn → Fn → Fn → Fn × Fn × Fn
  | 0, _, p0_0, p0_1, p0_2 => (p0_0, p0_1, p0_2)
  | n + 1, x4, p0_0, p0_1, p0_2 => 
    if (p1_0 0 0) ≤ x4 then (p0_0, p0_1, p0_2)
    else 
     if (p0_1 x4.toNatClampNeg) = (-9 : Int32) then ((f_X1_openGates_L3 p0_3 p1_0 x2 x3 n) (x4 + (1 : Int32)) p0_0 p0_1 p0_2)
     else 
      if (f_X0_isOpenedBy p1_0 x4 x2) = 0 then ((f_X1_openGates_L3 p0_3 p1_0 x2 x3 n) (x4 + (1 : Int32)) p0_0 p0_1 p0_2)
      else 
       if ((x3 >>> (((p1_0 6) ((p1_0 3) x4.toNatClampNeg).toNatClampNeg) &&& 31)) &&& (1 : Int32)) = 0 then ((f_X1_openGates_L3 p0_3 p1_0 x2 x3 n) (x4 + (1 : Int32)) p0_0 p0_1 p0_2)
       else 
        if (f_X1_isLocked p0_0 p1_0 x4) = 0 then (f_X1_openGates_J80 p0_1 x4 (f_X1_openGates_L3 p0_3 p1_0 x2 x3 n) ((f_X1_letIn p0_0 p0_2 p0_3 p1_0 x4 (p0_1 x4.toNatClampNeg)).1) ((f_X1_letIn p0_0 p0_2 p0_3 p1_0 x4 (p0_1 x4.toNatClampNeg)).2))
        else (f_X1_openGates_J80 p0_1 x4 (f_X1_openGates_L3 p0_3 p1_0 x2 x3 n) p0_0 p0_2)
def f_X1_openGates (p0_0 : Fn) (p0_1 : Fn) (p0_2 : Fn) (p0_3 : Fn) (p1_0 : Blk) (x2 : Int32) (x3 : Int32) : Fn × Fn × Fn := (f_X1_openGates_L3 p0_3 p1_0 x2 x3 4000 (0 : Int32) p0_0 p0_1 p0_2)
def f_X1_write_C97 (p0_0 : Fn) (p0_1 : Fn) (p0_2 : Fn) : Fn × Fn × Fn := (p0_0, p0_1, p0_2)
def f_X1_write_J89 (p0_1 : Fn) (p0_3 : Fn) (p1_0 : Blk) (x3 : Int32) (x4 : Int32) (p0_0 : Fn) (p0_2 : Fn) : Fn × Fn × Fn := (f_X1_write_C97 ((f_X1_openGates p0_0 p0_1 p0_2 p0_3 p1_0 x4 x3).1) ((f_X1_openGates p0_0 p0_1 p0_2 p0_3 p1_0 x4 x3).2.1) ((f_X1_openGates p0_0 p0_1 p0_2 p0_3 p1_0 x4 x3).2.2))
def f_X1_write_C77 (p0_1 : Fn) (p0_3 : Fn) (p1_0 : Blk) (x3 : Int32) (x4 : Int32) (p0_0 : Fn) (p0_2 : Fn) : Fn × Fn × Fn := (f_X1_write_J89 p0_1 p0_3 p1_0 x3 x4 p0_0 p0_2)
def f_X1_write (p0_0 : Fn) (p0_1 : Fn) (p0_2 : Fn) (p0_3 : Fn) (p1_0 : Blk) (x2 : Int32) (x3 : Int32) : Fn × Fn × Fn := 
  if (f_X0_registerBehind p1_0 x2) = (-9 : Int32) then (p0_0, p0_1, p0_2)
  else 
   if (f_X1_isLocked p0_0 p1_0 (f_X0_registerBehind p1_0 x2)) = 0 then 
    if (f_X0_aliasAt p1_0 x2) = (-9 : Int32) then 
     if ((p1_0 3) (f_X0_registerBehind p1_0 x2).toNatClampNeg) = (-9 : Int32) then (f_X1_write_C77 p0_1 p0_3 p1_0 x3 (f_X0_registerBehind p1_0 x2) ((f_X1_letIn p0_0 p0_2 p0_3 p1_0 (f_X0_registerBehind p1_0 x2) x3).1) ((f_X1_letIn p0_0 p0_2 p0_3 p1_0 (f_X0_registerBehind p1_0 x2) x3).2))
     else (p0_0, (upd p0_1 (f_X0_registerBehind p1_0 x2).toNatClampNeg x3), p0_2)
    else (f_X1_write_J89 p0_1 p0_3 p1_0 x3 (f_X0_registerBehind p1_0 x2) (f_X1_letInByAlias p0_0 p0_2 p0_3 p1_0 (f_X0_registerBehind p1_0 x2) x3 ((p1_0 12) (f_X0_aliasAt p1_0 x2).toNatClampNeg)) p0_2)
   else (p0_0, p0_1, p0_2)
def f_X5_performWrite_C30 (p0d_0 : Fn) (p0d_1 : Fn) (p0d_2 : Fn) (p0m_0 : Fn) (p0m_1 : Fn) (p0m_2 : Fn) (p0j_0 : Int32) (p0j_1 : Fn) (p0j_2 : Fn) (p0j_3 : Fn) : Fn × Fn × Fn × Fn × Fn × Fn × Int32 × Fn × Fn × Fn := (p0d_0, p0d_1, p0d_2, p0m_0, p0m_1, p0m_2, p0j_0, p0j_1, p0j_2, p0j_3)
def f_X5_performWrite_C20 (p0d_0 : Fn) (p0d_1 : Fn) (p0d_2 : Fn) (p0j_0 : Int32) (p0j_1 : Fn) (p0j_2 : Fn) (p0j_3 : Fn) (x2 : Int32) (x3 : Int32) (p0m_0 : Fn) (p0m_1 : Fn) (p0m_2 : Fn) : Fn × Fn × Fn × Fn × Fn × Fn × Int32 × Fn × Fn × Fn := (f_X5_performWrite_C30 p0d_0 p0d_1 p0d_2 p0m_0 p0m_1 p0m_2 ((f_X3_append p0j_0 p0j_1 p0j_2 p0j_3 x2 (1 : Int32) x3).1) ((f_X3_append p0j_0 p0j_1 p0j_2 p0j_3 x2 (1 : Int32) x3).2.1) ((f_X3_append p0j_0 p0j_1 p0j_2 p0j_3 x2 (1 : Int32) x3).2.2.1) ((f_X3_append p0j_0 p0j_1 p0j_2 p0j_3 x2 (1 : Int32) x3).2.2.2))
def f_X5_performWrite_C10 (p0m_0 : Fn) (p0m_1 : Fn) (p0m_2 : Fn) (p0m_3 : Fn) (p0j_0 : Int32) (p0j_1 : Fn) (p0j_2 : Fn) (p0j_3 : Fn) (p1_0 : Blk) (x2 : Int32) (x3 : Int32) (p0d_0 : Fn) (p0d_1 : Fn) (p0d_2 : Fn) : Fn × Fn × Fn × Fn × Fn × Fn × Int32 × Fn × Fn × Fn := (f_X5_performWrite_C20 p0d_0 p0d_1 p0d_2 p0j_0 p0j_1 p0j_2 p0j_3 x2 x3 ((f_X1_write p0m_0 p0m_1 p0m_2 p0m_3 p1_0 x2 x3).1) ((f_X1_write p0m_0 p0m_1 p0m_2 p0m_3 p1_0 x2 x3).2.1) ((f_X1_write p0m_0 p0m_1 p0m_2 p0m_3 p1_0 x2 x3).2.2))
def f_X5_performWrite (p0d_0 : Fn) (p0d_1 : Fn) (p0d_2 : Fn) (p0d_3 : Fn) (p0m_0 : Fn) (p0m_1 : Fn) (p0m_2 : Fn) (p0m_3 : Fn) (p0j_0 : Int32) (p0j_1 : Fn) (p0j_2 : Fn) (p0j_3 : Fn) (p1_0 : Blk) (x2 : Int32) (x3 : Int32) : Fn × Fn × Fn × Fn × Fn × Fn × Int32 × Fn × Fn × Fn := (f_X5_performWrite_C10 p0m_0 p0m_1 p0m_2 p0m_3 p0j_0 p0j_1 p0j_2 p0j_3 p1_0 x2 x3 ((f_X1_write p0d_0 p0d_1 p0d_2 p0d_3 p1_0 x2 x3).1) ((f_X1_write p0d_0 p0d_1 p0d_2 p0d_3 p1_0 x2 x3).2.1) ((f_X1_write p0d_0 p0d_1 p0d_2 p0d_3 p1_0 x2 x3).2.2))
def f_X0_greatestValue (p0_0 : Blk) (x1 : Int32) : Int32 := (((p0_0 8) x1.toNatClampNeg) >>> (((p0_0 6) x1.toNatClampNeg) &&& 31))
def f_X0_canHold (p0_0 : Blk) (x1 : Int32) (x2 : Int32) : Int32 := 
  if (f_X8_isWithin x1 (p0_0 0 1)) = 0 then (0 : Int32)
  else 
   if x2 < 0 then (0 : Int32)
   else 
    if (f_X0_greatestValue p0_0 x1) < x2 then (0 : Int32)
    else (1 : Int32)
def f_X1_mend (p0_3 : Fn) (p1_0 : Blk) : Fn := (va_cpy (p1_0 5) p0_3 0 0 12)
def f_X3_agreesWith_C36 (x3 : Int32) (k2 : Int32 → Fn → Fn → Fn → (Int32 × Fn × Fn × Fn)) (p1_0 : Fn) (p1_1 : Fn) (p1_2 : Fn) : Int32 × Fn × Fn × Fn := (k2 (x3 + (1 : Int32)) p1_0 p1_1 p1_2)
def f_X3_agreesWith_C50 (p0_3 : Fn) (p1_1 : Fn) (p1_2 : Fn) (x3 : Int32) (k2 : Int32 → Fn → Fn → Fn → (Int32 × Fn × Fn × Fn)) (s0 : Int32) (p1_0 : Fn) : Int32 × Fn × Fn × Fn := 
    if s0 = (p0_3 x3.toNatClampNeg) then (k2 (x3 + (1 : Int32)) p1_0 p1_1 p1_2)
    else ((0 : Int32), p1_0, p1_1, p1_2)
def f_X3_agreesWith_L2 (p0_0 : Int32) (p0_1 : Fn) (p0_2 : Fn) (p0_3 : Fn) (p1_3 : Fn) (p2_0 : Blk) : Nat → Int32 → Fn → Fn → Fn → Int32 × Fn × Fn × Fn
  | 0, _, p1_0, p1_1, p1_2 => (0, p1_0, p1_1, p1_2)
  | n + 1, x3, p1_0, p1_1, p1_2 => 
    if p0_0 ≤ x3 then ((1 : Int32), p1_0, p1_1, p1_2)
    else 
     if (p0_2 x3.toNatClampNeg) = 0 then (f_X3_agreesWith_C50 p0_3 p1_1 p1_2 x3 (f_X3_agreesWith_L2 p0_0 p0_1 p0_2 p0_3 p1_3 p2_0 n) (f_X1_read p1_0 p1_3 p2_0 (p0_1 x3.toNatClampNeg)).1 ((f_X1_read p1_0 p1_3 p2_0 (p0_1 x3.toNatClampNeg)).2))
     else (f_X3_agreesWith_C36 x3 (f_X3_agreesWith_L2 p0_0 p0_1 p0_2 p0_3 p1_3 p2_0 n) ((f_X1_write p1_0 p1_1 p1_2 p1_3 p2_0 (p0_1 x3.toNatClampNeg) (p0_3 x3.toNatClampNeg)).1) ((f_X1_write p1_0 p1_1 p1_2 p1_3 p2_0 (p0_1 x3.toNatClampNeg) (p0_3 x3.toNatClampNeg)).2.1) ((f_X1_write p1_0 p1_1 p1_2 p1_3 p2_0 (p0_1 x3.toNatClampNeg) (p0_3 x3.toNatClampNeg)).2.2))
def f_X3_agreesWith (p0_0 : Int32) (p0_1 : Fn) (p0_2 : Fn) (p0_3 : Fn) (p1_0 : Fn) (p1_1 : Fn) (p1_2 : Fn) (p1_3 : Fn) (p2_0 : Blk) : Int32 × Fn × Fn × Fn := (f_X3_agreesWith_L2 p0_0 p0_1 p0_2 p0_3 p1_3 p2_0 4000 (0 : Int32) p1_0 p1_1 p1_2)
def f_X0_holdersOf_L33 (p0_0 : Blk) (x1 : Int32) : Nat → Int32 → Int32 → Int32
  | 0, _, _ => 0
  | n + 1, x2, x3 => 
    if (p0_0 0 2) ≤ x3 then x2
    else 
     if ((p0_0 10) x3.toNatClampNeg) = x1 then ((f_X0_holdersOf_L33 p0_0 x1 n) (x2 + (1 : Int32)) (x3 + (1 : Int32)))
     else ((f_X0_holdersOf_L33 p0_0 x1 n) x2 (x3 + (1 : Int32)))
def f_X0_holdersOf_L4 (p0_0 : Blk) (x1 : Int32) : Nat → Int32 → Int32 → Int32
  | 0, _, _ => 0
  | n + 1, x2, x3 => 
    if (p0_0 0 0) ≤ x3 then (f_X0_holdersOf_L33 p0_0 x1 4000 x2 (0 : Int32))
    else 
     if ((p0_0 1) x3.toNatClampNeg) = x1 then ((f_X0_holdersOf_L4 p0_0 x1 n) (x2 + (1 : Int32)) (x3 + (1 : Int32)))
     else ((f_X0_holdersOf_L4 p0_0 x1 n) x2 (x3 + (1 : Int32)))
def f_X0_holdersOf (p0_0 : Blk) (x1 : Int32) : Int32 := (f_X0_holdersOf_L4 p0_0 x1 4000 (0 : Int32) (0 : Int32))
def f_X0_canReach (p0_0 : Blk) (x1 : Int32) (x2 : Int32) : Int32 := 
  if (f_X0_registerBehind p0_0 x1) = (-9 : Int32) then (0 : Int32)
  else 
   if (f_X0_registerBehind p0_0 x1) = ((p0_0 4) x2.toNatClampNeg) then (1 : Int32)
   else 
    if (f_X0_isOpenedBy p0_0 ((p0_0 4) x2.toNatClampNeg) (f_X0_registerBehind p0_0 x1)) = 0 then (0 : Int32)
    else (1 : Int32)
def f_X0_isGate_L2 (p0_0 : Blk) (x1 : Int32) : Nat → Int32 → Int32
  | 0, _ => 0
  | n + 1, x2 => 
    if (p0_0 0 0) ≤ x2 then (0 : Int32)
    else 
     if ((p0_0 3) x2.toNatClampNeg) = x1 then (1 : Int32)
     else ((f_X0_isGate_L2 p0_0 x1 n) (x2 + (1 : Int32)))
def f_X0_isGate (p0_0 : Blk) (x1 : Int32) : Int32 := (f_X0_isGate_L2 p0_0 x1 4000 (0 : Int32))
def f_X0_isLock_L2 (p0_0 : Blk) (x1 : Int32) : Nat → Int32 → Int32
  | 0, _ => 0
  | n + 1, x2 => 
    if (p0_0 0 0) ≤ x2 then (0 : Int32)
    else 
     if ((p0_0 2) x2.toNatClampNeg) = x1 then (1 : Int32)
     else ((f_X0_isLock_L2 p0_0 x1 n) (x2 + (1 : Int32)))
def f_X0_isLock (p0_0 : Blk) (x1 : Int32) : Int32 := (f_X0_isLock_L2 p0_0 x1 4000 (0 : Int32))
def f_X0_plainBits_L4 (p0_0 : Blk) (x1 : Int32) : Nat → Int32 → Int32 → Int32
  | 0, _, _ => 0
  | n + 1, x2, x3 => 
    if (p0_0 0 1) ≤ x3 then x2
    else 
     if ((p0_0 4) x3.toNatClampNeg) = x1 then 
      if ((p0_0 5) x3.toNatClampNeg) = 0 then ((f_X0_plainBits_L4 p0_0 x1 n) (x2 ||| ((p0_0 8) x3.toNatClampNeg)) (x3 + (1 : Int32)))
      else ((f_X0_plainBits_L4 p0_0 x1 n) x2 (x3 + (1 : Int32)))
     else ((f_X0_plainBits_L4 p0_0 x1 n) x2 (x3 + (1 : Int32)))
def f_X0_plainBits (p0_0 : Blk) (x1 : Int32) : Int32 := (f_X0_plainBits_L4 p0_0 x1 4000 (0 : Int32) (0 : Int32))
def f_X1_brokenFields_L4 (p0_3 : Fn) (p1_0 : Blk) : Nat → Int32 → Int32 → Int32
  | 0, _, _ => 0
  | n + 1, x2, x3 => 
    if (p1_0 0 1) ≤ x3 then x2
    else 
     if (p0_3 x3.toNatClampNeg) = ((p1_0 5) x3.toNatClampNeg) then ((f_X1_brokenFields_L4 p0_3 p1_0 n) x2 (x3 + (1 : Int32)))
     else ((f_X1_brokenFields_L4 p0_3 p1_0 n) (x2 + (1 : Int32)) (x3 + (1 : Int32)))
def f_X1_brokenFields (p0_3 : Fn) (p1_0 : Blk) : Int32 := (f_X1_brokenFields_L4 p0_3 p1_0 4000 (0 : Int32) (0 : Int32))
def f_J6_bitCount_0f7a4 (x0 : Int32) : Int32 := ((((((((x0 - ((x0.toUInt32 >>> ((1 : Int32).toUInt32 &&& Int32.toUInt32 31)).toInt32 &&& (1431655765 : Int32))) &&& (858993459 : Int32)) + (((x0 - ((x0.toUInt32 >>> ((1 : Int32).toUInt32 &&& Int32.toUInt32 31)).toInt32 &&& (1431655765 : Int32))).toUInt32 >>> ((2 : Int32).toUInt32 &&& Int32.toUInt32 31)).toInt32 &&& (858993459 : Int32))) + ((((x0 - ((x0.toUInt32 >>> ((1 : Int32).toUInt32 &&& Int32.toUInt32 31)).toInt32 &&& (1431655765 : Int32))) &&& (858993459 : Int32)) + (((x0 - ((x0.toUInt32 >>> ((1 : Int32).toUInt32 &&& Int32.toUInt32 31)).toInt32 &&& (1431655765 : Int32))).toUInt32 >>> ((2 : Int32).toUInt32 &&& Int32.toUInt32 31)).toInt32 &&& (858993459 : Int32))).toUInt32 >>> ((4 : Int32).toUInt32 &&& Int32.toUInt32 31)).toInt32) &&& (252645135 : Int32)) + ((((((x0 - ((x0.toUInt32 >>> ((1 : Int32).toUInt32 &&& Int32.toUInt32 31)).toInt32 &&& (1431655765 : Int32))) &&& (858993459 : Int32)) + (((x0 - ((x0.toUInt32 >>> ((1 : Int32).toUInt32 &&& Int32.toUInt32 31)).toInt32 &&& (1431655765 : Int32))).toUInt32 >>> ((2 : Int32).toUInt32 &&& Int32.toUInt32 31)).toInt32 &&& (858993459 : Int32))) + ((((x0 - ((x0.toUInt32 >>> ((1 : Int32).toUInt32 &&& Int32.toUInt32 31)).toInt32 &&& (1431655765 : Int32))) &&& (858993459 : Int32)) + (((x0 - ((x0.toUInt32 >>> ((1 : Int32).toUInt32 &&& Int32.toUInt32 31)).toInt32 &&& (1431655765 : Int32))).toUInt32 >>> ((2 : Int32).toUInt32 &&& Int32.toUInt32 31)).toInt32 &&& (858993459 : Int32))).toUInt32 >>> ((4 : Int32).toUInt32 &&& Int32.toUInt32 31)).toInt32) &&& (252645135 : Int32)).toUInt32 >>> ((8 : Int32).toUInt32 &&& Int32.toUInt32 31)).toInt32) + (((((((x0 - ((x0.toUInt32 >>> ((1 : Int32).toUInt32 &&& Int32.toUInt32 31)).toInt32 &&& (1431655765 : Int32))) &&& (858993459 : Int32)) + (((x0 - ((x0.toUInt32 >>> ((1 : Int32).toUInt32 &&& Int32.toUInt32 31)).toInt32 &&& (1431655765 : Int32))).toUInt32 >>> ((2 : Int32).toUInt32 &&& Int32.toUInt32 31)).toInt32 &&& (858993459 : Int32))) + ((((x0 - ((x0.toUInt32 >>> ((1 : Int32).toUInt32 &&& Int32.toUInt32 31)).toInt32 &&& (1431655765 : Int32))) &&& (858993459 : Int32)) + (((x0 - ((x0.toUInt32 >>> ((1 : Int32).toUInt32 &&& Int32.toUInt32 31)).toInt32 &&& (1431655765 : Int32))).toUInt32 >>> ((2 : Int32).toUInt32 &&& Int32.toUInt32 31)).toInt32 &&& (858993459 : Int32))).toUInt32 >>> ((4 : Int32).toUInt32 &&& Int32.toUInt32 31)).toInt32) &&& (252645135 : Int32)) + ((((((x0 - ((x0.toUInt32 >>> ((1 : Int32).toUInt32 &&& Int32.toUInt32 31)).toInt32 &&& (1431655765 : Int32))) &&& (858993459 : Int32)) + (((x0 - ((x0.toUInt32 >>> ((1 : Int32).toUInt32 &&& Int32.toUInt32 31)).toInt32 &&& (1431655765 : Int32))).toUInt32 >>> ((2 : Int32).toUInt32 &&& Int32.toUInt32 31)).toInt32 &&& (858993459 : Int32))) + ((((x0 - ((x0.toUInt32 >>> ((1 : Int32).toUInt32 &&& Int32.toUInt32 31)).toInt32 &&& (1431655765 : Int32))) &&& (858993459 : Int32)) + (((x0 - ((x0.toUInt32 >>> ((1 : Int32).toUInt32 &&& Int32.toUInt32 31)).toInt32 &&& (1431655765 : Int32))).toUInt32 >>> ((2 : Int32).toUInt32 &&& Int32.toUInt32 31)).toInt32 &&& (858993459 : Int32))).toUInt32 >>> ((4 : Int32).toUInt32 &&& Int32.toUInt32 31)).toInt32) &&& (252645135 : Int32)).toUInt32 >>> ((8 : Int32).toUInt32 &&& Int32.toUInt32 31)).toInt32).toUInt32 >>> ((16 : Int32).toUInt32 &&& Int32.toUInt32 31)).toInt32) &&& (63 : Int32))
def f_X0_bitsOfFields_L4 (p0_0 : Blk) : Nat → Int32 → Int32 → Int32
  | 0, _, _ => 0
  | n + 1, x1, x2 => 
    if (p0_0 0 1) ≤ x2 then x1
    else ((f_X0_bitsOfFields_L4 p0_0 n) (x1 + (f_J6_bitCount_0f7a4 ((p0_0 8) x2.toNatClampNeg))) (x2 + (1 : Int32)))
def f_X0_bitsOfFields (p0_0 : Blk) : Int32 := (f_X0_bitsOfFields_L4 p0_0 4000 (0 : Int32) (0 : Int32))
def f_X9_in (x0 : Int32) (x1 : Int32) (x2 : Int32) : Int32 := 
  if x0 < x1 then (0 : Int32)
  else 
   if x2 < x0 then (0 : Int32)
   else (1 : Int32)
def f_X9_fields (p0_0 : Fn) : Int32 := (p0_0 (91 : Int32).toNatClampNeg)
def f_X9_registers (p0_0 : Fn) : Int32 := (p0_0 (90 : Int32).toNatClampNeg)
def f_X9_isField (p0_0 : Fn) (x1 : Int32) : Int32 := (f_X9_in x1 (0 : Int32) ((f_X9_fields p0_0) - (1 : Int32)))
def f_X9_isRegister (p0_0 : Fn) (x1 : Int32) : Int32 := (f_X9_in x1 (0 : Int32) ((f_X9_registers p0_0) - (1 : Int32)))
def f_X9_most (p0_0 : Fn) (x1 : Int32) : Int32 := (((1 : Int32) <<< ((((p0_0 ((42 : Int32) + x1).toNatClampNeg) - (p0_0 ((30 : Int32) + x1).toNatClampNeg)) + (1 : Int32)) &&& 31)) - (1 : Int32))
def f_X9_bitsOf (p0_0 : Fn) (x1 : Int32) : Int32 := ((f_X9_most p0_0 x1) <<< ((p0_0 ((30 : Int32) + x1).toNatClampNeg) &&& 31))
def f_X9_reset_L45 (x1 : Int32) : Nat → Int32 → Fn → Fn
  | 0, _, p0_2 => p0_2
  | n + 1, x2, p0_2 => 
    if (6 : Int32) ≤ x2 then p0_2
    else ((f_X9_reset_L45 x1 n) (x2 + (1 : Int32)) (upd (upd p0_2 ((x1 + (24 : Int32)) + x2).toNatClampNeg (-9 : Int32)) ((x1 + (30 : Int32)) + x2).toNatClampNeg (0 : Int32)))
def f_X9_reset_L2 (p0_0 : Fn) (x1 : Int32) : Nat → Int32 → Fn → Fn
  | 0, _, p0_2 => p0_2
  | n + 1, x2, p0_2 => 
    if (12 : Int32) ≤ x2 then (f_X9_reset_L45 x1 4000 (0 : Int32) p0_2)
    else 
     if (f_X9_fields p0_0) ≤ x2 then ((f_X9_reset_L2 p0_0 x1 n) (x2 + (1 : Int32)) (upd p0_2 (x1 + x2).toNatClampNeg (0 : Int32)))
     else ((f_X9_reset_L2 p0_0 x1 n) (x2 + (1 : Int32)) (upd p0_2 (x1 + x2).toNatClampNeg (p0_0 ((66 : Int32) + x2).toNatClampNeg)))
def f_X9_reset (p0_0 : Fn) (p0_2 : Fn) (x1 : Int32) : Fn := (f_X9_reset_L2 p0_0 x1 4000 (0 : Int32) p0_2)
def f_X9_repair_L2 (p0_0 : Fn) (x1 : Int32) : Nat → Int32 → Fn → Fn
  | 0, _, p0_2 => p0_2
  | n + 1, x2, p0_2 => 
    if (12 : Int32) ≤ x2 then p0_2
    else 
     if (f_X9_fields p0_0) ≤ x2 then ((f_X9_repair_L2 p0_0 x1 n) (x2 + (1 : Int32)) (upd p0_2 ((x1 + (12 : Int32)) + x2).toNatClampNeg (0 : Int32)))
     else ((f_X9_repair_L2 p0_0 x1 n) (x2 + (1 : Int32)) (upd p0_2 ((x1 + (12 : Int32)) + x2).toNatClampNeg (p0_0 ((54 : Int32) + x2).toNatClampNeg)))
def f_X9_repair (p0_0 : Fn) (p0_2 : Fn) (x1 : Int32) : Fn := (f_X9_repair_L2 p0_0 x1 4000 (0 : Int32) p0_2)
def f_X9_emptyLog (p0_2 : Fn) : Fn := (upd (upd (upd p0_2 (72 : Int32).toNatClampNeg (0 : Int32)) (133 : Int32).toNatClampNeg (0 : Int32)) (134 : Int32).toNatClampNeg (-9 : Int32))
def f_X9_begin (p0_0 : Fn) (p0_2 : Fn) (p0_6 : Fn) : Fn × Int32 × Fn := ((f_X9_emptyLog (f_X9_reset p0_0 (f_X9_reset p0_0 (f_X9_repair p0_0 (f_X9_repair p0_0 p0_2 (0 : Int32)) (36 : Int32)) (0 : Int32)) (36 : Int32))), (0 : Int32), (upd (upd p0_6 (0 : Int32).toNatClampNeg (vp_nar .boolean (0 : Int32))) (1 : Int32).toNatClampNeg (vp_nar .boolean (0 : Int32))))
def f_X9_isLocked (p0_0 : Fn) (p0_2 : Fn) (x1 : Int32) (x2 : Int32) : Int32 := 
  if (p0_0 ((6 : Int32) + x2).toNatClampNeg) = (-9 : Int32) then (0 : Int32)
  else 
   if (p0_2 (x1 + (p0_0 ((6 : Int32) + x2).toNatClampNeg)).toNatClampNeg) = 0 then (0 : Int32)
   else (1 : Int32)
def f_X9_goesTo_L32 (p0_0 : Fn) (x1 : Int32) : Nat → Int32 → Int32
  | 0, _ => 0
  | n + 1, x2 => 
    if (p0_0 (92 : Int32).toNatClampNeg) ≤ x2 then (-9 : Int32)
    else 
     if (p0_0 ((78 : Int32) + x2).toNatClampNeg) = x1 then ((100 : Int32) + x2)
     else ((f_X9_goesTo_L32 p0_0 x1 n) (x2 + (1 : Int32)))
def f_X9_goesTo_L2 (p0_0 : Fn) (x1 : Int32) : Nat → Int32 → Int32
  | 0, _ => 0
  | n + 1, x2 => 
    if (f_X9_registers p0_0) ≤ x2 then (f_X9_goesTo_L32 p0_0 x1 4000 (0 : Int32))
    else 
     if (p0_0 ((0 : Int32) + x2).toNatClampNeg) = x1 then x2
     else ((f_X9_goesTo_L2 p0_0 x1 n) (x2 + (1 : Int32)))
def f_X9_goesTo (p0_0 : Fn) (x1 : Int32) : Int32 := (f_X9_goesTo_L2 p0_0 x1 4000 (0 : Int32))
def f_X9_registerOf (p0_0 : Fn) (x1 : Int32) : Int32 := 
  if (100 : Int32) ≤ x1 then (p0_0 (((82 : Int32) + x1) - (100 : Int32)).toNatClampNeg)
  else x1
def f_X9_tellsOf_L5 (p0_0 : Fn) (p0_2 : Fn) (x1 : Int32) (x2 : Int32) : Nat → Int32 → Int32 → Int32
  | 0, _, _ => 0
  | n + 1, x3, x4 => 
    if (f_X9_fields p0_0) ≤ x4 then x3
    else 
     if (p0_0 ((18 : Int32) + x4).toNatClampNeg) = x2 then 
      if (p0_2 ((x1 + (12 : Int32)) + x4).toNatClampNeg) = (2 : Int32) then ((f_X9_tellsOf_L5 p0_0 p0_2 x1 x2 n) x3 (x4 + (1 : Int32)))
      else ((f_X9_tellsOf_L5 p0_0 p0_2 x1 x2 n) (x3 ||| ((p0_2 (x1 + x4).toNatClampNeg) <<< ((p0_0 ((30 : Int32) + x4).toNatClampNeg) &&& 31))) (x4 + (1 : Int32)))
     else ((f_X9_tellsOf_L5 p0_0 p0_2 x1 x2 n) x3 (x4 + (1 : Int32)))
def f_X9_tellsOf (p0_0 : Fn) (p0_2 : Fn) (x1 : Int32) (x2 : Int32) : Int32 := (f_X9_tellsOf_L5 p0_0 p0_2 x1 x2 4000 (0 : Int32) (0 : Int32))
def f_X9_peekAt (p0_0 : Fn) (p0_2 : Fn) (x1 : Int32) (x2 : Int32) : Int32 := 
  if (f_X9_goesTo p0_0 x2) = (-9 : Int32) then (0 : Int32)
  else (f_X9_tellsOf p0_0 p0_2 x1 (f_X9_registerOf p0_0 (f_X9_goesTo p0_0 x2)))
def f_X9_clearRead_L2 (p0_0 : Fn) (x1 : Int32) (x2 : Int32) : Nat → Int32 → Fn → Fn
  | 0, _, p0_2 => p0_2
  | n + 1, x3, p0_2 => 
    if (f_X9_fields p0_0) ≤ x3 then p0_2
    else 
     if (100 : Int32) ≤ x2 then p0_2
     else 
      if (p0_0 ((18 : Int32) + x3).toNatClampNeg) = x2 then 
       if (p0_2 ((x1 + (12 : Int32)) + x3).toNatClampNeg) = (6 : Int32) then ((f_X9_clearRead_L2 p0_0 x1 x2 n) (x3 + (1 : Int32)) (upd p0_2 (x1 + x3).toNatClampNeg (0 : Int32)))
       else ((f_X9_clearRead_L2 p0_0 x1 x2 n) (x3 + (1 : Int32)) p0_2)
      else ((f_X9_clearRead_L2 p0_0 x1 x2 n) (x3 + (1 : Int32)) p0_2)
def f_X9_clearRead (p0_0 : Fn) (p0_2 : Fn) (x1 : Int32) (x2 : Int32) : Fn := (f_X9_clearRead_L2 p0_0 x1 x2 4000 (0 : Int32) p0_2)
def f_X9_readOf (p0_0 : Fn) (p0_2 : Fn) (x1 : Int32) (x2 : Int32) : Int32 × Fn := 
  if (f_X9_goesTo p0_0 x2) = (-9 : Int32) then ((f_X9_peekAt p0_0 p0_2 x1 x2), p0_2)
  else ((f_X9_peekAt p0_0 p0_2 x1 x2), (f_X9_clearRead p0_0 p0_2 x1 (f_X9_goesTo p0_0 x2)))
def f_X9_by (x0 : Int32) (x1 : Int32) (x2 : Int32) (x3 : Int32) : Int32 := 
  if x0 = (0 : Int32) then x2
  else 
   if x0 = (1 : Int32) then x1
   else 
    if x0 = (2 : Int32) then x2
    else 
     if x0 = (3 : Int32) then (x1 &&& (x2 ^^^ (-1 : Int32)))
     else 
      if x0 = (4 : Int32) then (x1 ||| x2)
      else 
       if x0 = (5 : Int32) then (x1 ^^^ x2)
       else 
        if x0 = (6 : Int32) then x1
        else 
         if x0 = (7 : Int32) then 
          if x3 = 0 then x1
          else x2
         else x1
def f_X9_letIn_J138 (p0_2 : Fn) (s1 : Int32) (s2 : Int32) (s3 : Int32) (s4 : Int32) (x5 : Int32) (k3 : Int32 → Fn → Fn) (s5 : Int32) : Fn := (k3 (x5 + (1 : Int32)) (upd p0_2 s1.toNatClampNeg (f_X9_by s2 s3 s4 s5)))
def f_X9_letIn_J108 (p0_2 : Fn) (s1 : Int32) (x1 : Int32) (x2 : Int32) (x5 : Int32) (x7 : Int32) (k3 : Int32 → Fn → Fn) (s2 : Int32) : Fn := 
    if (p0_2 ((x1 + (30 : Int32)) + x2).toNatClampNeg) = 0 then (f_X9_letIn_J138 p0_2 s1 s2 (p0_2 (x1 + x5).toNatClampNeg) x7 x5 k3 (1 : Int32))
    else (f_X9_letIn_J138 p0_2 s1 s2 (p0_2 (x1 + x5).toNatClampNeg) x7 x5 k3 (0 : Int32))
def f_X9_letIn_J86 (p0_2 : Fn) (x1 : Int32) (x2 : Int32) (x4 : Int32) (x5 : Int32) (x6 : Int32) (x7 : Int32) (k3 : Int32 → Fn → Fn) (s0 : Int32) : Fn := 
    if s0 = 0 then (f_X9_letIn_J108 p0_2 (x1 + x5) x1 x2 x5 x7 k3 x4)
    else (f_X9_letIn_J108 p0_2 (x1 + x5) x1 x2 x5 x7 k3 x6)
def f_X9_letIn_J81 (p0_2 : Fn) (x1 : Int32) (x2 : Int32) (x4 : Int32) (x5 : Int32) (x6 : Int32) (x7 : Int32) (k3 : Int32 → Fn → Fn) : Fn := (f_X9_letIn_J86 p0_2 x1 x2 x4 x5 x6 x7 k3 (1 : Int32))
def f_X9_letIn_L3 (p0_0 : Fn) (x1 : Int32) (x2 : Int32) (x3 : Int32) (x4 : Int32) : Nat → Int32 → Fn → Fn
  | 0, _, p0_2 => p0_2
  | n + 1, x5, p0_2 => 
    if (f_X9_fields p0_0) ≤ x5 then 
     if x4 = (-9 : Int32) then (upd p0_2 ((x1 + (30 : Int32)) + x2).toNatClampNeg (1 : Int32))
     else p0_2
    else 
     if (p0_0 ((18 : Int32) + x5).toNatClampNeg) = x2 then 
      if x4 = (-9 : Int32) then (f_X9_letIn_J81 p0_2 x1 x2 x4 x5 (p0_2 ((x1 + (12 : Int32)) + x5).toNatClampNeg) ((x3 >>> ((p0_0 ((30 : Int32) + x5).toNatClampNeg) &&& 31)) &&& (f_X9_most p0_0 x5)) (f_X9_letIn_L3 p0_0 x1 x2 x3 x4 n))
      else 
       if (p0_2 ((x1 + (12 : Int32)) + x5).toNatClampNeg) = (1 : Int32) then (f_X9_letIn_J81 p0_2 x1 x2 x4 x5 (p0_2 ((x1 + (12 : Int32)) + x5).toNatClampNeg) ((x3 >>> ((p0_0 ((30 : Int32) + x5).toNatClampNeg) &&& 31)) &&& (f_X9_most p0_0 x5)) (f_X9_letIn_L3 p0_0 x1 x2 x3 x4 n))
       else 
        if (p0_2 ((x1 + (12 : Int32)) + x5).toNatClampNeg) = (6 : Int32) then (f_X9_letIn_J81 p0_2 x1 x2 x4 x5 (p0_2 ((x1 + (12 : Int32)) + x5).toNatClampNeg) ((x3 >>> ((p0_0 ((30 : Int32) + x5).toNatClampNeg) &&& 31)) &&& (f_X9_most p0_0 x5)) (f_X9_letIn_L3 p0_0 x1 x2 x3 x4 n))
        else (f_X9_letIn_J86 p0_2 x1 x2 x4 x5 (p0_2 ((x1 + (12 : Int32)) + x5).toNatClampNeg) ((x3 >>> ((p0_0 ((30 : Int32) + x5).toNatClampNeg) &&& 31)) &&& (f_X9_most p0_0 x5)) (f_X9_letIn_L3 p0_0 x1 x2 x3 x4 n) (0 : Int32))
     else ((f_X9_letIn_L3 p0_0 x1 x2 x3 x4 n) (x5 + (1 : Int32)) p0_2)
def f_X9_letIn (p0_0 : Fn) (p0_2 : Fn) (x1 : Int32) (x2 : Int32) (x3 : Int32) (x4 : Int32) : Fn := (f_X9_letIn_L3 p0_0 x1 x2 x3 x4 4000 (0 : Int32) p0_2)
def f_X9_openGates_J105 (x1 : Int32) (x4 : Int32) (k3 : Int32 → Fn → Fn) (p0_2 : Fn) : Fn := (k3 (x4 + (1 : Int32)) (upd p0_2 ((x1 + (24 : Int32)) + x4).toNatClampNeg (-9 : Int32)))
def f_X9_openGates_L3 (p0_0 : Fn) (x1 : Int32) (x2 : Int32) (x3 : Int32) : Nat → Int32 → Fn → Fn
  | 0, _, p0_2 => p0_2
  | n + 1, x4, p0_2 => 
    if (f_X9_registers p0_0) ≤ x4 then p0_2
    else 
     if (p0_0 ((12 : Int32) + x4).toNatClampNeg) = (-9 : Int32) then ((f_X9_openGates_L3 p0_0 x1 x2 x3 n) (x4 + (1 : Int32)) p0_2)
     else 
      if (p0_0 ((18 : Int32) + (p0_0 ((12 : Int32) + x4).toNatClampNeg)).toNatClampNeg) = x2 then 
       if (p0_2 ((x1 + (24 : Int32)) + x4).toNatClampNeg) = (-9 : Int32) then ((f_X9_openGates_L3 p0_0 x1 x2 x3 n) (x4 + (1 : Int32)) p0_2)
       else 
        if ((x3 >>> ((p0_0 ((30 : Int32) + (p0_0 ((12 : Int32) + x4).toNatClampNeg)).toNatClampNeg) &&& 31)) &&& (1 : Int32)) = (1 : Int32) then 
         if (f_X9_isLocked p0_0 p0_2 x1 x4) = 0 then (f_X9_openGates_J105 x1 x4 (f_X9_openGates_L3 p0_0 x1 x2 x3 n) (f_X9_letIn p0_0 p0_2 x1 x4 (p0_2 ((x1 + (24 : Int32)) + x4).toNatClampNeg) (-9 : Int32)))
         else (f_X9_openGates_J105 x1 x4 (f_X9_openGates_L3 p0_0 x1 x2 x3 n) p0_2)
        else ((f_X9_openGates_L3 p0_0 x1 x2 x3 n) (x4 + (1 : Int32)) p0_2)
      else ((f_X9_openGates_L3 p0_0 x1 x2 x3 n) (x4 + (1 : Int32)) p0_2)
def f_X9_openGates (p0_0 : Fn) (p0_2 : Fn) (x1 : Int32) (x2 : Int32) (x3 : Int32) : Fn := (f_X9_openGates_L3 p0_0 x1 x2 x3 4000 (0 : Int32) p0_2)
def f_X9_writeTo_J103 (p0_0 : Fn) (p0_2 : Fn) (s1 : Int32) (s2 : Int32) (s3 : Int32) (x1 : Int32) (x3 : Int32) (x5 : Int32) (s4 : Int32) : Fn := (f_X9_openGates p0_0 (f_X9_letIn p0_0 p0_2 s1 s2 s3 s4) x1 x5 x3)
def f_X9_writeTo_J73 (p0_0 : Fn) (p0_2 : Fn) (x1 : Int32) (x3 : Int32) (x4 : Int32) (x5 : Int32) : Fn := 
    if (100 : Int32) ≤ x4 then (f_X9_writeTo_J103 p0_0 p0_2 x1 x5 x3 x1 x3 x5 (p0_0 (((86 : Int32) + x4) - (100 : Int32)).toNatClampNeg))
    else (f_X9_writeTo_J103 p0_0 p0_2 x1 x5 x3 x1 x3 x5 (-9 : Int32))
def f_X9_writeTo (p0_0 : Fn) (p0_2 : Fn) (x1 : Int32) (x2 : Int32) (x3 : Int32) : Fn := 
  if (f_X9_goesTo p0_0 x2) = (-9 : Int32) then p0_2
  else 
   if (f_X9_isLocked p0_0 p0_2 x1 (f_X9_registerOf p0_0 (f_X9_goesTo p0_0 x2))) = 0 then 
    if (100 : Int32) ≤ (f_X9_goesTo p0_0 x2) then (f_X9_writeTo_J73 p0_0 p0_2 x1 x3 (f_X9_goesTo p0_0 x2) (f_X9_registerOf p0_0 (f_X9_goesTo p0_0 x2)))
    else 
     if (p0_0 ((12 : Int32) + (f_X9_registerOf p0_0 (f_X9_goesTo p0_0 x2))).toNatClampNeg) = (-9 : Int32) then (f_X9_writeTo_J73 p0_0 p0_2 x1 x3 (f_X9_goesTo p0_0 x2) (f_X9_registerOf p0_0 (f_X9_goesTo p0_0 x2)))
     else (upd p0_2 ((x1 + (24 : Int32)) + (f_X9_registerOf p0_0 (f_X9_goesTo p0_0 x2))).toNatClampNeg x3)
   else p0_2
def f_X9_copyMachine_L2 (x1 : Int32) (x2 : Int32) : Nat → Int32 → Fn → Fn
  | 0, _, p0_2 => p0_2
  | n + 1, x3, p0_2 => 
    if (36 : Int32) ≤ x3 then p0_2
    else ((f_X9_copyMachine_L2 x1 x2 n) (x3 + (1 : Int32)) (upd p0_2 (x2 + x3).toNatClampNeg (p0_2 (x1 + x3).toNatClampNeg)))
def f_X9_copyMachine (p0_2 : Fn) (x1 : Int32) (x2 : Int32) : Fn := (f_X9_copyMachine_L2 x1 x2 4000 (0 : Int32) p0_2)
def f_X9_otherFields_L5 (p0_0 : Fn) (p0_2 : Fn) (x1 : Int32) (x2 : Int32) : Nat → Int32 → Int32 → Int32
  | 0, _, _ => 0
  | n + 1, x3, x4 => 
    if (f_X9_fields p0_0) ≤ x4 then x3
    else 
     if (p0_2 (x1 + x4).toNatClampNeg) = (p0_2 (x2 + x4).toNatClampNeg) then ((f_X9_otherFields_L5 p0_0 p0_2 x1 x2 n) (x3 ||| (0 : Int32)) (x4 + (1 : Int32)))
     else ((f_X9_otherFields_L5 p0_0 p0_2 x1 x2 n) (x3 ||| ((1 : Int32) <<< (x4 &&& 31))) (x4 + (1 : Int32)))
def f_X9_otherFields (p0_0 : Fn) (p0_2 : Fn) (x1 : Int32) (x2 : Int32) : Int32 := (f_X9_otherFields_L5 p0_0 p0_2 x1 x2 4000 (0 : Int32) (0 : Int32))
def f_X9_note_L52 (p0_2 : Fn) (p0_4 : Int32) : Nat → Int32 → Fn → Fn × Int32
  | 0, _, p0_3 => (p0_3, p0_4)
  | n + 1, x1, p0_3 => 
    if (135 : Int32) ≤ x1 then (p0_3, (p0_4 + (1 : Int32)))
    else ((f_X9_note_L52 p0_2 p0_4 n) (x1 + (1 : Int32)) (upd p0_3 (((135 : Int32) * p0_4) + x1).toNatClampNeg (p0_2 x1.toNatClampNeg)))
def f_X9_note_J50 (p0_2 : Fn) (p0_3 : Fn) (p0_4 : Int32) : Fn × Int32 := (f_X9_note_L52 p0_2 p0_4 4000 (0 : Int32) p0_3)
def f_X9_note_L11 (p0_2 : Fn) (p0_4 : Int32) : Nat → Int32 → Fn → Fn × Int32
  | 0, _, p0_3 => (p0_3, p0_4)
  | n + 1, x1, p0_3 => 
    if (675 : Int32) ≤ x1 then (f_X9_note_J50 p0_2 p0_3 (p0_4 - (1 : Int32)))
    else ((f_X9_note_L11 p0_2 p0_4 n) (x1 + (1 : Int32)) (upd p0_3 x1.toNatClampNeg (p0_3 (x1 + (135 : Int32)).toNatClampNeg)))
def f_X9_note (p0_2 : Fn) (p0_3 : Fn) (p0_4 : Int32) : Fn × Int32 := 
  if p0_4 = (6 : Int32) then (f_X9_note_L11 p0_2 p0_4 4000 (0 : Int32) p0_3)
  else (f_X9_note_J50 p0_2 p0_3 p0_4)
def f_X9_resets_C4 (p0_0 : Fn) (p0_2 : Fn) (p0_3 : Fn) (p0_4 : Int32) : Int32 × Fn × Fn × Int32 := ((p0_2 (72 : Int32).toNatClampNeg), (f_X9_emptyLog (f_X9_reset p0_0 (f_X9_reset p0_0 p0_2 (0 : Int32)) (36 : Int32))), p0_3, p0_4)
def f_X9_resets (p0_0 : Fn) (p0_2 : Fn) (p0_3 : Fn) (p0_4 : Int32) : Int32 × Fn × Fn × Int32 := (f_X9_resets_C4 p0_0 p0_2 ((f_X9_note p0_2 p0_3 p0_4).1) ((f_X9_note p0_2 p0_3 p0_4).2))
def f_X9_logs (p0_2 : Fn) (x1 : Int32) (x2 : Int32) (x3 : Int32) : Fn := (upd (upd (upd (upd p0_2 ((73 : Int32) + ((3 : Int32) * (p0_2 (72 : Int32).toNatClampNeg))).toNatClampNeg x1) (((73 : Int32) + ((3 : Int32) * (p0_2 (72 : Int32).toNatClampNeg))) + (1 : Int32)).toNatClampNeg x2) (((73 : Int32) + ((3 : Int32) * (p0_2 (72 : Int32).toNatClampNeg))) + (2 : Int32)).toNatClampNeg x3) (72 : Int32).toNatClampNeg (((upd (upd (upd p0_2 ((73 : Int32) + ((3 : Int32) * (p0_2 (72 : Int32).toNatClampNeg))).toNatClampNeg x1) (((73 : Int32) + ((3 : Int32) * (p0_2 (72 : Int32).toNatClampNeg))) + (1 : Int32)).toNatClampNeg x2) (((73 : Int32) + ((3 : Int32) * (p0_2 (72 : Int32).toNatClampNeg))) + (2 : Int32)).toNatClampNeg x3) (72 : Int32).toNatClampNeg) + (1 : Int32)))
def f_X9_reads_J189 (p0_2 : Fn) (p0_3 : Fn) (p0_4 : Int32) (s1 : Int32) (s2 : Int32) (x1 : Int32) (x4 : Int32) (s3 : Int32) : Int32 × Fn × Fn × Int32 := (x4, (f_X9_logs (upd p0_2 s1.toNatClampNeg (s2 + s3)) x1 (0 : Int32) x4), p0_3, p0_4)
def f_X9_reads_J152 (p0_3 : Fn) (p0_4 : Int32) (x1 : Int32) (x3 : Int32) (x4 : Int32) (p0_2 : Fn) : Int32 × Fn × Fn × Int32 := 
    if ((upd p0_2 (134 : Int32).toNatClampNeg (x3 ^^^ x4)) (134 : Int32).toNatClampNeg) = 0 then (f_X9_reads_J189 (upd p0_2 (134 : Int32).toNatClampNeg (x3 ^^^ x4)) p0_3 p0_4 (133 : Int32) ((upd p0_2 (134 : Int32).toNatClampNeg (x3 ^^^ x4)) (133 : Int32).toNatClampNeg) x1 x4 (0 : Int32))
    else (f_X9_reads_J189 (upd p0_2 (134 : Int32).toNatClampNeg (x3 ^^^ x4)) p0_3 p0_4 (133 : Int32) ((upd p0_2 (134 : Int32).toNatClampNeg (x3 ^^^ x4)) (133 : Int32).toNatClampNeg) x1 x4 (1 : Int32))
def f_X9_reads_J139 (p0_0 : Fn) (p0_2 : Fn) (p0_3 : Fn) (p0_4 : Int32) (x1 : Int32) (x2 : Int32) (x3 : Int32) (x4 : Int32) : Int32 × Fn × Fn × Int32 := 
    if x2 = (-9 : Int32) then (f_X9_reads_J152 p0_3 p0_4 x1 x3 x4 p0_2)
    else (f_X9_reads_J152 p0_3 p0_4 x1 x3 x4 (f_X9_clearRead p0_0 p0_2 (36 : Int32) x2))
def f_X9_reads_L56 (p0_0 : Fn) (p0_3 : Fn) (p0_4 : Int32) (x1 : Int32) (x2 : Int32) (x3 : Int32) (x4 : Int32) : Nat → Int32 → Fn → Int32 × Fn × Fn × Int32
  | 0, _, p0_2 => (0, p0_2, p0_3, p0_4)
  | n + 1, x5, p0_2 => 
    if (f_X9_fields p0_0) ≤ x5 then (f_X9_reads_J139 p0_0 p0_2 p0_3 p0_4 x1 x2 x3 x4)
    else 
     if x2 = (-9 : Int32) then (f_X9_reads_J139 p0_0 p0_2 p0_3 p0_4 x1 x2 x3 x4)
     else 
      if (p0_0 ((18 : Int32) + x5).toNatClampNeg) = (f_X9_registerOf p0_0 x2) then 
       if (p0_2 ((48 : Int32) + x5).toNatClampNeg) = (2 : Int32) then ((f_X9_reads_L56 p0_0 p0_3 p0_4 x1 x2 x3 x4 n) (x5 + (1 : Int32)) p0_2)
       else ((f_X9_reads_L56 p0_0 p0_3 p0_4 x1 x2 x3 x4 n) (x5 + (1 : Int32)) (upd p0_2 ((36 : Int32) + x5).toNatClampNeg ((x4 >>> ((p0_0 ((30 : Int32) + x5).toNatClampNeg) &&& 31)) &&& (f_X9_most p0_0 x5))))
      else ((f_X9_reads_L56 p0_0 p0_3 p0_4 x1 x2 x3 x4 n) (x5 + (1 : Int32)) p0_2)
def f_X9_reads_C51 (p0_0 : Fn) (p0_3 : Fn) (p0_4 : Int32) (x1 : Int32) (x2 : Int32) (x3 : Int32) (s0 : Int32) (p0_2 : Fn) : Int32 × Fn × Fn × Int32 := (f_X9_reads_L56 p0_0 p0_3 p0_4 x1 x2 x3 s0 4000 (0 : Int32) p0_2)
def f_X9_reads_C31 (p0_0 : Fn) (p0_2 : Fn) (x1 : Int32) (p0_3 : Fn) (p0_4 : Int32) : Int32 × Fn × Fn × Int32 := (f_X9_reads_C51 p0_0 p0_3 p0_4 x1 (f_X9_goesTo p0_0 x1) (f_X9_peekAt p0_0 p0_2 (36 : Int32) x1) (f_X9_readOf p0_0 p0_2 (0 : Int32) x1).1 ((f_X9_readOf p0_0 p0_2 (0 : Int32) x1).2))
def f_X9_reads (p0_0 : Fn) (p0_2 : Fn) (p0_3 : Fn) (p0_4 : Int32) (x1 : Int32) : Int32 × Fn × Fn × Int32 := 
  if (f_X9_in x1 (0 : Int32) (15 : Int32)) = 0 then ((-1 : Int32), p0_2, p0_3, p0_4)
  else 
   if (p0_2 (72 : Int32).toNatClampNeg) = (20 : Int32) then ((-3 : Int32), p0_2, p0_3, p0_4)
   else (f_X9_reads_C31 p0_0 p0_2 x1 ((f_X9_note p0_2 p0_3 p0_4).1) ((f_X9_note p0_2 p0_3 p0_4).2))
def f_X9_writes_C42 (p0_0 : Fn) (p0_2 : Fn) (x1 : Int32) (x2 : Int32) (p0_3 : Fn) (p0_4 : Int32) : Int32 × Fn × Fn × Int32 := ((f_X9_otherFields p0_0 (f_X9_logs (f_X9_writeTo p0_0 (f_X9_writeTo p0_0 (f_X9_copyMachine p0_2 (0 : Int32) (135 : Int32)) (0 : Int32) x1 x2) (36 : Int32) x1 x2) x1 (1 : Int32) x2) (0 : Int32) (135 : Int32)), (f_X9_logs (f_X9_writeTo p0_0 (f_X9_writeTo p0_0 (f_X9_copyMachine p0_2 (0 : Int32) (135 : Int32)) (0 : Int32) x1 x2) (36 : Int32) x1 x2) x1 (1 : Int32) x2), p0_3, p0_4)
def f_X9_writes (p0_0 : Fn) (p0_2 : Fn) (p0_3 : Fn) (p0_4 : Int32) (x1 : Int32) (x2 : Int32) : Int32 × Fn × Fn × Int32 := 
  if (f_X9_in x1 (0 : Int32) (15 : Int32)) = 0 then ((-1 : Int32), p0_2, p0_3, p0_4)
  else 
   if (f_X9_in x2 (0 : Int32) (255 : Int32)) = 0 then ((-1 : Int32), p0_2, p0_3, p0_4)
   else 
    if (p0_2 (72 : Int32).toNatClampNeg) = (20 : Int32) then ((-3 : Int32), p0_2, p0_3, p0_4)
    else (f_X9_writes_C42 p0_0 p0_2 x1 x2 ((f_X9_note p0_2 p0_3 p0_4).1) ((f_X9_note p0_2 p0_3 p0_4).2))
def f_X9_sets_C44 (p0_2 : Fn) (x1 : Int32) (x2 : Int32) (x3 : Int32) (p0_3 : Fn) (p0_4 : Int32) : Int32 × Fn × Fn × Int32 := (x3, (upd p0_2 ((0 : Int32) + x1).toNatClampNeg x2), p0_3, p0_4)
def f_X9_sets (p0_0 : Fn) (p0_2 : Fn) (p0_3 : Fn) (p0_4 : Int32) (x1 : Int32) (x2 : Int32) : Int32 × Fn × Fn × Int32 := 
  if (f_X9_isField p0_0 x1) = 0 then ((-1 : Int32), p0_2, p0_3, p0_4)
  else 
   if (f_X9_in x2 (0 : Int32) (f_X9_most p0_0 x1)) = 0 then ((-1 : Int32), p0_2, p0_3, p0_4)
   else 
    if (p0_2 ((0 : Int32) + x1).toNatClampNeg) = x2 then ((-2 : Int32), p0_2, p0_3, p0_4)
    else (f_X9_sets_C44 p0_2 x1 x2 (p0_2 ((0 : Int32) + x1).toNatClampNeg) ((f_X9_note p0_2 p0_3 p0_4).1) ((f_X9_note p0_2 p0_3 p0_4).2))
def f_X9_breaks_C42 (p0_2 : Fn) (x1 : Int32) (x2 : Int32) (x3 : Int32) (p0_3 : Fn) (p0_4 : Int32) : Int32 × Fn × Fn × Int32 := (x3, (upd p0_2 ((12 : Int32) + x1).toNatClampNeg x2), p0_3, p0_4)
def f_X9_breaks (p0_0 : Fn) (p0_2 : Fn) (p0_3 : Fn) (p0_4 : Int32) (x1 : Int32) (x2 : Int32) : Int32 × Fn × Fn × Int32 := 
  if (f_X9_isField p0_0 x1) = 0 then ((-1 : Int32), p0_2, p0_3, p0_4)
  else 
   if (f_X9_in x2 (0 : Int32) (7 : Int32)) = 0 then ((-1 : Int32), p0_2, p0_3, p0_4)
   else 
    if (p0_2 ((12 : Int32) + x1).toNatClampNeg) = x2 then ((-2 : Int32), p0_2, p0_3, p0_4)
    else (f_X9_breaks_C42 p0_2 x1 x2 (p0_2 ((12 : Int32) + x1).toNatClampNeg) ((f_X9_note p0_2 p0_3 p0_4).1) ((f_X9_note p0_2 p0_3 p0_4).2))
def f_X9_undo_L22 (p0_3 : Fn) (p0_4 : Int32) : Nat → Int32 → Fn → Int32 × Fn × Int32
  | 0, _, p0_2 => (0, p0_2, p0_4)
  | n + 1, x1, p0_2 => 
    if (135 : Int32) ≤ x1 then (p0_4, p0_2, p0_4)
    else ((f_X9_undo_L22 p0_3 p0_4 n) (x1 + (1 : Int32)) (upd p0_2 x1.toNatClampNeg (p0_3 (((135 : Int32) * p0_4) + x1).toNatClampNeg)))
def f_X9_undo (p0_2 : Fn) (p0_3 : Fn) (p0_4 : Int32) : Int32 × Fn × Int32 := 
  if p0_4 = 0 then ((-2 : Int32), p0_2, p0_4)
  else (f_X9_undo_L22 p0_3 (p0_4 - (1 : Int32)) 4000 (0 : Int32) p0_2)
def f_X9_field (p0_0 : Fn) (p0_2 : Fn) (x1 : Int32) (x2 : Int32) : Int32 := 
  if (f_X9_isField p0_0 x1) = 0 then (-1 : Int32)
  else 
   if x2 = (0 : Int32) then (p0_0 ((18 : Int32) + x1).toNatClampNeg)
   else 
    if x2 = (1 : Int32) then (p0_0 ((30 : Int32) + x1).toNatClampNeg)
    else 
     if x2 = (2 : Int32) then (p0_0 ((42 : Int32) + x1).toNatClampNeg)
     else 
      if x2 = (3 : Int32) then (p0_0 ((54 : Int32) + x1).toNatClampNeg)
      else 
       if x2 = (4 : Int32) then (p0_0 ((66 : Int32) + x1).toNatClampNeg)
       else 
        if x2 = (5 : Int32) then (p0_2 ((0 : Int32) + x1).toNatClampNeg)
        else 
         if x2 = (6 : Int32) then (p0_2 ((36 : Int32) + x1).toNatClampNeg)
         else 
          if x2 = (7 : Int32) then (p0_2 ((12 : Int32) + x1).toNatClampNeg)
          else (-1 : Int32)
def f_X9_register (p0_0 : Fn) (p0_2 : Fn) (x1 : Int32) (x2 : Int32) : Int32 := 
  if (f_X9_isRegister p0_0 x1) = 0 then (-1 : Int32)
  else 
   if x2 = (0 : Int32) then (p0_0 ((0 : Int32) + x1).toNatClampNeg)
   else 
    if x2 = (1 : Int32) then (p0_0 ((6 : Int32) + x1).toNatClampNeg)
    else 
     if x2 = (2 : Int32) then (p0_0 ((12 : Int32) + x1).toNatClampNeg)
     else 
      if x2 = (3 : Int32) then 
       if (f_X9_isLocked p0_0 p0_2 (0 : Int32) x1) = 0 then (0 : Int32)
       else (1 : Int32)
      else 
       if x2 = (4 : Int32) then (p0_2 ((24 : Int32) + x1).toNatClampNeg)
       else (-1 : Int32)
def f_X9_alias (p0_0 : Fn) (x1 : Int32) (x2 : Int32) : Int32 := 
  if (f_X9_in x1 (0 : Int32) ((p0_0 (92 : Int32).toNatClampNeg) - (1 : Int32))) = 0 then (-1 : Int32)
  else 
   if (f_X9_in x2 (0 : Int32) (2 : Int32)) = 0 then (-1 : Int32)
   else (p0_0 (((78 : Int32) + ((4 : Int32) * x2)) + x1).toNatClampNeg)
def f_X9_at (p0_0 : Fn) (x1 : Int32) : Int32 := 
  if (f_X9_in x1 (0 : Int32) (15 : Int32)) = 0 then (-1 : Int32)
  else (f_X9_goesTo p0_0 x1)
def f_X9_peek_J30 (p0_0 : Fn) (p0_2 : Fn) (x1 : Int32) (s1 : Int32) : Int32 := (f_X9_peekAt p0_0 p0_2 s1 x1)
def f_X9_peek (p0_0 : Fn) (p0_2 : Fn) (x1 : Int32) (x2 : Int32) : Int32 := 
  if (f_X9_in x1 (0 : Int32) (15 : Int32)) = 0 then (-1 : Int32)
  else 
   if (f_X9_in x2 (0 : Int32) (1 : Int32)) = 0 then (-1 : Int32)
   else 
    if x2 = 0 then (f_X9_peek_J30 p0_0 p0_2 x1 (0 : Int32))
    else (f_X9_peek_J30 p0_0 p0_2 x1 (36 : Int32))
def f_X9_differed (p0_2 : Fn) (x1 : Int32) : Int32 := 
  if (f_X9_in x1 (0 : Int32) (1 : Int32)) = 0 then (-1 : Int32)
  else (p0_2 ((133 : Int32) + x1).toNatClampNeg)
def f_X9_log (p0_2 : Fn) (x1 : Int32) (x2 : Int32) : Int32 := 
  if x1 < 0 then (-1 : Int32)
  else 
   if (f_X9_in x2 (0 : Int32) (2 : Int32)) = 0 then (-1 : Int32)
   else 
    if (p0_2 (72 : Int32).toNatClampNeg) ≤ x1 then (-9 : Int32)
    else (p0_2 (((73 : Int32) + ((3 : Int32) * x1)) + x2).toNatClampNeg)
def f_X9_wouldTell_C114 (x4 : Int32) (x5 : Int32) (k36 : Int32 → Int32 → Fn → (Int32 × Fn)) (s0 : Int32) (p0_2 : Fn) : Int32 × Fn := 
    if s0 = (p0_2 (x5 + (2 : Int32)).toNatClampNeg) then (k36 (1 : Int32) (x4 + (1 : Int32)) p0_2)
    else (k36 (0 : Int32) (x4 + (1 : Int32)) p0_2)
def f_X9_wouldTell_L36 (p0_0 : Fn) : Nat → Int32 → Int32 → Fn → Int32 × Fn
  | 0, _, _, p0_2 => (0, p0_2)
  | n + 1, x3, x4, p0_2 => 
    if (p0_2 (72 : Int32).toNatClampNeg) ≤ x4 then (x3, p0_2)
    else 
     if x3 = 0 then (x3, p0_2)
     else 
      if (p0_2 (((73 : Int32) + ((3 : Int32) * x4)) + (1 : Int32)).toNatClampNeg) = (1 : Int32) then ((f_X9_wouldTell_L36 p0_0 n) x3 (x4 + (1 : Int32)) (f_X9_writeTo p0_0 p0_2 (135 : Int32) (p0_2 ((73 : Int32) + ((3 : Int32) * x4)).toNatClampNeg) (p0_2 (((73 : Int32) + ((3 : Int32) * x4)) + (2 : Int32)).toNatClampNeg)))
      else (f_X9_wouldTell_C114 x4 ((73 : Int32) + ((3 : Int32) * x4)) (f_X9_wouldTell_L36 p0_0 n) (f_X9_readOf p0_0 p0_2 (135 : Int32) (p0_2 ((73 : Int32) + ((3 : Int32) * x4)).toNatClampNeg)).1 ((f_X9_readOf p0_0 p0_2 (135 : Int32) (p0_2 ((73 : Int32) + ((3 : Int32) * x4)).toNatClampNeg)).2))
def f_X9_wouldTell_J24 (p0_0 : Fn) (p0_2 : Fn) : Int32 × Fn := (f_X9_wouldTell_L36 p0_0 4000 (1 : Int32) (0 : Int32) (f_X9_reset p0_0 p0_2 (135 : Int32)))
def f_X9_wouldTell (p0_0 : Fn) (p0_2 : Fn) (x1 : Int32) (x2 : Int32) : Int32 × Fn := 
  if x1 = (-9 : Int32) then (f_X9_wouldTell_J24 p0_0 (f_X9_repair p0_0 p0_2 (135 : Int32)))
  else (f_X9_wouldTell_J24 p0_0 (upd (f_X9_repair p0_0 p0_2 (135 : Int32)) ((147 : Int32) + x1).toNatClampNeg x2))
def f_X9_suspects_C23 (s0 : Int32) (p0_2 : Fn) : Int32 × Fn := 
    if s0 = 0 then ((0 : Int32), p0_2)
    else ((1 : Int32), p0_2)
def f_X9_suspects_C87 (x2 : Int32) (x3 : Int32) (x4 : Int32) (k40 : Int32 → Int32 → Int32 → Fn → (Int32 × Fn)) (s0 : Int32) (p0_2 : Fn) : Int32 × Fn := 
    if s0 = 0 then (k40 x2 x3 (x4 + (1 : Int32)) p0_2)
    else 
     if x2 = 0 then (k40 (x2 + (1 : Int32)) x4 (x4 + (1 : Int32)) p0_2)
     else (k40 (x2 + (1 : Int32)) x3 (x4 + (1 : Int32)) p0_2)
def f_X9_suspects_L40 (p0_0 : Fn) (x1 : Int32) : Nat → Int32 → Int32 → Int32 → Fn → Int32 × Fn
  | 0, _, _, _, p0_2 => (0, p0_2)
  | n + 1, x2, x3, x4, p0_2 => 
    if ((8 : Int32) * (f_X9_fields p0_0)) ≤ x4 then 
     if x1 = 0 then (x2, p0_2)
     else (x3, p0_2)
    else 
     if (x4 - x4 / (8 : Int32) * (8 : Int32)) = (p0_0 ((54 : Int32) + (x4 / (8 : Int32))).toNatClampNeg) then ((f_X9_suspects_L40 p0_0 x1 n) x2 x3 (x4 + (1 : Int32)) p0_2)
     else (f_X9_suspects_C87 x2 x3 x4 (f_X9_suspects_L40 p0_0 x1 n) (f_X9_wouldTell p0_0 p0_2 (x4 / (8 : Int32)) (x4 - x4 / (8 : Int32) * (8 : Int32))).1 ((f_X9_wouldTell p0_0 p0_2 (x4 / (8 : Int32)) (x4 - x4 / (8 : Int32) * (8 : Int32))).2))
def f_X9_suspects (p0_0 : Fn) (p0_2 : Fn) (x1 : Int32) : Int32 × Fn := 
  if (f_X9_in x1 (0 : Int32) (2 : Int32)) = 0 then ((-1 : Int32), p0_2)
  else 
   if x1 = (2 : Int32) then (f_X9_suspects_C23 (f_X9_wouldTell p0_0 p0_2 (-9 : Int32) (0 : Int32)).1 ((f_X9_wouldTell p0_0 p0_2 (-9 : Int32) (0 : Int32)).2))
   else (f_X9_suspects_L40 p0_0 x1 4000 (0 : Int32) (-9 : Int32) (0 : Int32) p0_2)
def f_X9_clashes_L74 (p0_0 : Fn) (x2 : Int32) (x3 : Int32) (x4 : Int32) (k19 : Int32 → Int32 → Int32 → Int32) : Nat → Int32 → Int32 → Int32
  | 0, _, _ => 0
  | n + 1, x5, x6 => 
    if (p0_0 (92 : Int32).toNatClampNeg) ≤ x6 then 
     if x5 ≤ (1 : Int32) then (k19 x2 x3 (x4 + (1 : Int32)))
     else 
      if x2 = 0 then (k19 (x2 + (1 : Int32)) x4 (x4 + (1 : Int32)))
      else (k19 (x2 + (1 : Int32)) x3 (x4 + (1 : Int32)))
    else 
     if (p0_0 ((78 : Int32) + x6).toNatClampNeg) = x4 then ((f_X9_clashes_L74 p0_0 x2 x3 x4 k19 n) (x5 + (1 : Int32)) (x6 + (1 : Int32)))
     else ((f_X9_clashes_L74 p0_0 x2 x3 x4 k19 n) (x5 + (0 : Int32)) (x6 + (1 : Int32)))
def f_X9_clashes_L32 (p0_0 : Fn) (x2 : Int32) (x3 : Int32) (x4 : Int32) (k19 : Int32 → Int32 → Int32 → Int32) : Nat → Int32 → Int32 → Int32
  | 0, _, _ => 0
  | n + 1, x5, x6 => 
    if (f_X9_registers p0_0) ≤ x6 then (f_X9_clashes_L74 p0_0 x2 x3 x4 k19 4000 x5 (0 : Int32))
    else 
     if (p0_0 ((0 : Int32) + x6).toNatClampNeg) = x4 then ((f_X9_clashes_L32 p0_0 x2 x3 x4 k19 n) (x5 + (1 : Int32)) (x6 + (1 : Int32)))
     else ((f_X9_clashes_L32 p0_0 x2 x3 x4 k19 n) (x5 + (0 : Int32)) (x6 + (1 : Int32)))
def f_X9_clashes_L19 (p0_0 : Fn) (x1 : Int32) : Nat → Int32 → Int32 → Int32 → Int32
  | 0, _, _, _ => 0
  | n + 1, x2, x3, x4 => 
    if (16 : Int32) ≤ x4 then 
     if x1 = 0 then x2
     else x3
    else (f_X9_clashes_L32 p0_0 x2 x3 x4 (f_X9_clashes_L19 p0_0 x1 n) 4000 (0 : Int32) (0 : Int32))
def f_X9_clashes (p0_0 : Fn) (x1 : Int32) : Int32 := 
  if (f_X9_in x1 (0 : Int32) (1 : Int32)) = 0 then (-1 : Int32)
  else (f_X9_clashes_L19 p0_0 x1 4000 (0 : Int32) (-9 : Int32) (0 : Int32))
def f_X9_tryWrite (p0_0 : Fn) (p0_2 : Fn) (x1 : Int32) (x2 : Int32) : Fn := (f_X9_writeTo p0_0 (f_X9_copyMachine p0_2 (0 : Int32) (135 : Int32)) (135 : Int32) x1 x2)
def f_X9_touched (p0_0 : Fn) (p0_2 : Fn) (x1 : Int32) (x2 : Int32) : Int32 × Fn := 
  if (f_X9_in x1 (0 : Int32) (15 : Int32)) = 0 then ((-1 : Int32), p0_2)
  else 
   if (f_X9_in x2 (0 : Int32) (255 : Int32)) = 0 then ((-1 : Int32), p0_2)
   else ((f_X9_otherFields p0_0 (f_X9_tryWrite p0_0 p0_2 x1 x2) (0 : Int32) (135 : Int32)), (f_X9_tryWrite p0_0 p0_2 x1 x2))
def f_X9_way_L25 (p0_0 : Fn) (x1 : Int32) (x2 : Int32) : Nat → Int32 → Fn → Int32 × Fn
  | 0, _, p0_2 => (0, p0_2)
  | n + 1, x3, p0_2 => 
    if (4096 : Int32) ≤ x3 then ((-9 : Int32), p0_2)
    else 
     if ((f_X9_tryWrite p0_0 p0_2 (x3 / (256 : Int32)) (x3 - x3 / (256 : Int32) * (256 : Int32))) ((135 : Int32) + x1).toNatClampNeg) = x2 then (x3, (f_X9_tryWrite p0_0 p0_2 (x3 / (256 : Int32)) (x3 - x3 / (256 : Int32) * (256 : Int32))))
     else ((f_X9_way_L25 p0_0 x1 x2 n) (x3 + (1 : Int32)) (f_X9_tryWrite p0_0 p0_2 (x3 / (256 : Int32)) (x3 - x3 / (256 : Int32) * (256 : Int32))))
def f_X9_way (p0_0 : Fn) (p0_2 : Fn) (x1 : Int32) (x2 : Int32) : Int32 × Fn := 
  if (f_X9_isField p0_0 x1) = 0 then ((-1 : Int32), p0_2)
  else 
   if (f_X9_in x2 (0 : Int32) (f_X9_most p0_0 x1)) = 0 then ((-1 : Int32), p0_2)
   else (f_X9_way_L25 p0_0 x1 x2 5000 (0 : Int32) p0_2)
def f_X9_isLockOrGate_L5 (p0_0 : Fn) (x1 : Int32) (x2 : Int32) : Nat → Int32 → Int32 → Int32
  | 0, _, _ => 0
  | n + 1, x3, x4 => 
    if (f_X9_registers p0_0) ≤ x4 then x3
    else 
     if x3 = 0 then 
      if (p0_0 (x2 + x4).toNatClampNeg) = x1 then ((f_X9_isLockOrGate_L5 p0_0 x1 x2 n) (1 : Int32) (x4 + (1 : Int32)))
      else ((f_X9_isLockOrGate_L5 p0_0 x1 x2 n) (0 : Int32) (x4 + (1 : Int32)))
     else ((f_X9_isLockOrGate_L5 p0_0 x1 x2 n) (1 : Int32) (x4 + (1 : Int32)))
def f_X9_isLockOrGate (p0_0 : Fn) (x1 : Int32) (x2 : Int32) : Int32 := (f_X9_isLockOrGate_L5 p0_0 x1 x2 4000 (0 : Int32) (0 : Int32))
def f_X9_isWalked_L48 (p0_0 : Fn) (x1 : Int32) : Nat → Int32 → Int32 → Int32
  | 0, _, _ => 0
  | n + 1, x2, x3 => 
    if (f_X9_fields p0_0) ≤ x3 then x2
    else 
     if x2 = 0 then ((f_X9_isWalked_L48 p0_0 x1 n) (0 : Int32) (x3 + (1 : Int32)))
     else 
      if (p0_0 ((18 : Int32) + x3).toNatClampNeg) = x1 then 
       if (p0_0 ((54 : Int32) + x3).toNatClampNeg) = (2 : Int32) then ((f_X9_isWalked_L48 p0_0 x1 n) (0 : Int32) (x3 + (1 : Int32)))
       else 
        if (p0_0 ((54 : Int32) + x3).toNatClampNeg) = (6 : Int32) then ((f_X9_isWalked_L48 p0_0 x1 n) (0 : Int32) (x3 + (1 : Int32)))
        else 
         if (p0_0 ((54 : Int32) + x3).toNatClampNeg) = (7 : Int32) then ((f_X9_isWalked_L48 p0_0 x1 n) (0 : Int32) (x3 + (1 : Int32)))
         else 
          if (f_X9_isLockOrGate p0_0 x3 (12 : Int32)) = 0 then ((f_X9_isWalked_L48 p0_0 x1 n) (1 : Int32) (x3 + (1 : Int32)))
          else ((f_X9_isWalked_L48 p0_0 x1 n) (0 : Int32) (x3 + (1 : Int32)))
      else ((f_X9_isWalked_L48 p0_0 x1 n) (1 : Int32) (x3 + (1 : Int32)))
def f_X9_isWalked_J45 (p0_0 : Fn) (x1 : Int32) (s0 : Int32) : Int32 := (f_X9_isWalked_L48 p0_0 x1 4000 s0 (0 : Int32))
def f_X9_isWalked_J44 (p0_0 : Fn) (x1 : Int32) : Int32 := (f_X9_isWalked_J45 p0_0 x1 (0 : Int32))
def f_X9_isWalked (p0_0 : Fn) (p0_2 : Fn) (x1 : Int32) : Int32 := 
  if (f_X9_goesTo p0_0 (p0_0 ((0 : Int32) + x1).toNatClampNeg)) = x1 then 
   if (f_X9_isLocked p0_0 p0_2 (36 : Int32) x1) = 0 then 
    if (p0_0 ((12 : Int32) + x1).toNatClampNeg) = (-9 : Int32) then (f_X9_isWalked_J45 p0_0 x1 (1 : Int32))
    else (f_X9_isWalked_J44 p0_0 x1)
   else (f_X9_isWalked_J44 p0_0 x1)
  else (f_X9_isWalked_J44 p0_0 x1)
def f_X9_bitsBy_J56 (p0_0 : Fn) (x3 : Int32) (x4 : Int32) (k5 : Int32 → Int32 → Int32) : Int32 := (k5 (x3 ||| (f_X9_bitsOf p0_0 x4)) (x4 + (1 : Int32)))
def f_X9_bitsBy_L5 (p0_0 : Fn) (x1 : Int32) (x2 : Int32) : Nat → Int32 → Int32 → Int32
  | 0, _, _ => 0
  | n + 1, x3, x4 => 
    if (f_X9_fields p0_0) ≤ x4 then x3
    else 
     if (p0_0 ((18 : Int32) + x4).toNatClampNeg) = x1 then 
      if (p0_0 ((54 : Int32) + x4).toNatClampNeg) = 0 then 
       if x2 = 0 then (f_X9_bitsBy_J56 p0_0 x3 x4 (f_X9_bitsBy_L5 p0_0 x1 x2 n))
       else 
        if (f_X9_isLockOrGate p0_0 x4 (6 : Int32)) = 0 then (f_X9_bitsBy_J56 p0_0 x3 x4 (f_X9_bitsBy_L5 p0_0 x1 x2 n))
        else ((f_X9_bitsBy_L5 p0_0 x1 x2 n) x3 (x4 + (1 : Int32)))
      else ((f_X9_bitsBy_L5 p0_0 x1 x2 n) x3 (x4 + (1 : Int32)))
     else ((f_X9_bitsBy_L5 p0_0 x1 x2 n) x3 (x4 + (1 : Int32)))
def f_X9_bitsBy (p0_0 : Fn) (x1 : Int32) (x2 : Int32) : Int32 := (f_X9_bitsBy_L5 p0_0 x1 x2 4000 (0 : Int32) (0 : Int32))
def f_X9_walk_L55 (p0_0 : Fn) (p0_2 : Fn) (x1 : Int32) (x2 : Int32) (x4 : Int32) (x5 : Int32) (k21 : Int32 → Int32 → Int32) : Nat → Int32 → Int32 → Int32
  | 0, _, _ => 0
  | n + 1, x3, x6 => 
    if (8 : Int32) ≤ x6 then (k21 x3 (x4 + (1 : Int32)))
    else 
     if ((x5 >>> (x6 &&& 31)) &&& (1 : Int32)) = (1 : Int32) then 
      if x3 = x1 then 
       if x2 = 0 then (p0_0 ((0 : Int32) + x4).toNatClampNeg)
       else 
        if x2 = (1 : Int32) then (((f_X9_tellsOf p0_0 p0_2 (36 : Int32) x4) &&& (f_X9_bitsBy p0_0 x4 (0 : Int32))) ^^^ ((1 : Int32) <<< (x6 &&& 31)))
        else ((f_X9_tellsOf p0_0 p0_2 (36 : Int32) x4) ^^^ ((1 : Int32) <<< (x6 &&& 31)))
      else ((f_X9_walk_L55 p0_0 p0_2 x1 x2 x4 x5 k21 n) (x3 + (1 : Int32)) (x6 + (1 : Int32)))
     else ((f_X9_walk_L55 p0_0 p0_2 x1 x2 x4 x5 k21 n) x3 (x6 + (1 : Int32)))
def f_X9_walk_J50 (p0_0 : Fn) (p0_2 : Fn) (x1 : Int32) (x2 : Int32) (x3 : Int32) (x4 : Int32) (k21 : Int32 → Int32 → Int32) (s0 : Int32) : Int32 := (f_X9_walk_L55 p0_0 p0_2 x1 x2 x4 s0 k21 4000 x3 (0 : Int32))
def f_X9_walk_L21 (p0_0 : Fn) (p0_2 : Fn) (x1 : Int32) (x2 : Int32) : Nat → Int32 → Int32 → Int32
  | 0, _, _ => 0
  | n + 1, x3, x4 => 
    if (f_X9_registers p0_0) ≤ x4 then 
     if 0 ≤ x1 then (-9 : Int32)
     else x3
    else 
     if (f_X9_isWalked p0_0 p0_2 x4) = 0 then (f_X9_walk_J50 p0_0 p0_2 x1 x2 x3 x4 (f_X9_walk_L21 p0_0 p0_2 x1 x2 n) (0 : Int32))
     else (f_X9_walk_J50 p0_0 p0_2 x1 x2 x3 x4 (f_X9_walk_L21 p0_0 p0_2 x1 x2 n) (f_X9_bitsBy p0_0 x4 (1 : Int32)))
def f_X9_walk (p0_0 : Fn) (p0_2 : Fn) (x1 : Int32) (x2 : Int32) : Int32 := 
  if x1 < (-1 : Int32) then (-1 : Int32)
  else 
   if (f_X9_in x2 (0 : Int32) (2 : Int32)) = 0 then (-1 : Int32)
   else (f_X9_walk_L21 p0_0 p0_2 x1 x2 4000 (0 : Int32) (0 : Int32))
def f_X9_keep_L13 (p0_2 : Fn) (p0_6 : Fn) (x1 : Int32) : Nat → Int32 → Fn → Int32 × Fn × Fn
  | 0, _, p0_5 => (0, p0_5, p0_6)
  | n + 1, x2, p0_5 => 
    if (135 : Int32) ≤ x2 then ((p0_2 (72 : Int32).toNatClampNeg), p0_5, (upd p0_6 x1.toNatClampNeg (vp_nar .boolean (1 : Int32))))
    else ((f_X9_keep_L13 p0_2 p0_6 x1 n) (x2 + (1 : Int32)) (upd p0_5 (((135 : Int32) * x1) + x2).toNatClampNeg (p0_2 x2.toNatClampNeg)))
def f_X9_keep (p0_2 : Fn) (p0_5 : Fn) (p0_6 : Fn) (x1 : Int32) : Int32 × Fn × Fn := 
  if (f_X9_in x1 (0 : Int32) (1 : Int32)) = 0 then ((-1 : Int32), p0_5, p0_6)
  else (f_X9_keep_L13 p0_2 p0_6 x1 4000 (0 : Int32) p0_5)
def f_X9_back_L25 (p0_5 : Fn) (x1 : Int32) : Nat → Int32 → Fn → Int32 × Fn × Int32
  | 0, _, p0_2 => (0, p0_2, 0)
  | n + 1, x2, p0_2 => 
    if (135 : Int32) ≤ x2 then ((p0_2 (72 : Int32).toNatClampNeg), p0_2, (0 : Int32))
    else ((f_X9_back_L25 p0_5 x1 n) (x2 + (1 : Int32)) (upd p0_2 x2.toNatClampNeg (p0_5 (((135 : Int32) * x1) + x2).toNatClampNeg)))
def f_X9_back (p0_2 : Fn) (p0_4 : Int32) (p0_5 : Fn) (p0_6 : Fn) (x1 : Int32) : Int32 × Fn × Int32 := 
  if (f_X9_in x1 (0 : Int32) (1 : Int32)) = 0 then ((-1 : Int32), p0_2, p0_4)
  else 
   if (p0_6 x1.toNatClampNeg) = 0 then ((-2 : Int32), p0_2, p0_4)
   else (f_X9_back_L25 p0_5 x1 4000 (0 : Int32) p0_2)
def f_X9_fieldBits_L4 (p0_0 : Fn) : Nat → Int32 → Int32 → Int32
  | 0, _, _ => 0
  | n + 1, x1, x2 => 
    if (f_X9_fields p0_0) ≤ x2 then x1
    else ((f_X9_fieldBits_L4 p0_0 n) (x1 + (((p0_0 ((42 : Int32) + x2).toNatClampNeg) - (p0_0 ((30 : Int32) + x2).toNatClampNeg)) + (1 : Int32))) (x2 + (1 : Int32)))
def f_X9_fieldBits (p0_0 : Fn) : Int32 := (f_X9_fieldBits_L4 p0_0 4000 (0 : Int32) (0 : Int32))
def f_X9_brokenMany_L4 (p0_0 : Fn) (p0_2 : Fn) : Nat → Int32 → Int32 → Int32
  | 0, _, _ => 0
  | n + 1, x1, x2 => 
    if (f_X9_fields p0_0) ≤ x2 then x1
    else 
     if (p0_2 ((12 : Int32) + x2).toNatClampNeg) = (p0_0 ((54 : Int32) + x2).toNatClampNeg) then ((f_X9_brokenMany_L4 p0_0 p0_2 n) (x1 + (0 : Int32)) (x2 + (1 : Int32)))
     else ((f_X9_brokenMany_L4 p0_0 p0_2 n) (x1 + (1 : Int32)) (x2 + (1 : Int32)))
def f_X9_brokenMany (p0_0 : Fn) (p0_2 : Fn) : Int32 := (f_X9_brokenMany_L4 p0_0 p0_2 4000 (0 : Int32) (0 : Int32))
def f_X9_count (p0_0 : Fn) (p0_2 : Fn) (p0_4 : Int32) (p0_8 : Int32) (x1 : Int32) : Int32 := 
  if x1 = (0 : Int32) then (f_X9_registers p0_0)
  else 
   if x1 = (1 : Int32) then (f_X9_fields p0_0)
   else 
    if x1 = (2 : Int32) then (p0_0 (92 : Int32).toNatClampNeg)
    else 
     if x1 = (3 : Int32) then (f_X9_fieldBits p0_0)
     else 
      if x1 = (4 : Int32) then (p0_2 (72 : Int32).toNatClampNeg)
      else 
       if x1 = (5 : Int32) then (f_X9_brokenMany p0_0 p0_2)
       else 
        if x1 = (6 : Int32) then p0_8
        else 
         if x1 = (7 : Int32) then p0_4
         else (-1 : Int32)
def f_X9_type (p0_7 : Fn) (p0_8 : Int32) (x1 : Int32) : Int32 × Fn × Int32 := 
  if (f_X9_in x1 (0 : Int32) (255 : Int32)) = 0 then ((-1 : Int32), p0_7, p0_8)
  else 
   if p0_8 = (160 : Int32) then ((-3 : Int32), p0_7, p0_8)
   else ((p0_8 + (1 : Int32)), (upd p0_7 p0_8.toNatClampNeg x1), (p0_8 + (1 : Int32)))
def f_X9_clear (p0_8 : Int32) : Int32 × Int32 := (p0_8, (0 : Int32))
def f_X9_isHere (p0_7 : Fn) (p0_8 : Int32) (p0_9 : Int32) (x1 : Int32) (x2 : Int32) : Int32 := 
  if p0_8 ≤ p0_9 then (0 : Int32)
  else 
   if (f_X9_in (p0_7 p0_9.toNatClampNeg) x1 x2) = 0 then (0 : Int32)
   else (1 : Int32)
def f_X9_kindOf (x0 : Int32) : Int32 := 
  if x0 = (28526 : Int32) then (7 : Int32)
  else 
   if x0 = (29283 : Int32) then (6 : Int32)
   else 
    if x0 = (29295 : Int32) then (1 : Int32)
    else 
     if x0 = (29303 : Int32) then (0 : Int32)
     else 
      if x0 = (30563 : Int32) then (3 : Int32)
      else 
       if x0 = (30575 : Int32) then (2 : Int32)
       else 
        if x0 = (30579 : Int32) then (4 : Int32)
        else 
         if x0 = (30580 : Int32) then (5 : Int32)
         else (-9 : Int32)
def f_X9_next_J116 (p0_9 : Int32) (k67 : Int32 → Int32 → (Int32 × Int32 × Int32 × Int32)) (s1 : Int32) : Int32 × Int32 × Int32 × Int32 := (k67 (p0_9 + (1 : Int32)) s1)
def f_X9_next_L67 (p0_7 : Fn) (p0_8 : Int32) (p0_10 : Int32) : Nat → Int32 → Int32 → Int32 × Int32 × Int32 × Int32
  | 0, p0_9, p0_12 => (p0_9, p0_10, 0, p0_12)
  | n + 1, p0_9, p0_12 => 
    if (f_X9_isHere p0_7 p0_8 p0_9 (48 : Int32) (57 : Int32)) = 0 then 
     if (255 : Int32) < p0_12 then (p0_9, p0_10, (2 : Int32), p0_12)
     else 
      if (p0_7 p0_10.toNatClampNeg) = (48 : Int32) then 
       if (p0_9 - p0_10) ≤ (1 : Int32) then (p0_9, p0_10, (1 : Int32), p0_12)
       else (p0_9, p0_10, (2 : Int32), p0_12)
      else (p0_9, p0_10, (1 : Int32), p0_12)
    else 
     if p0_12 ≤ (255 : Int32) then (f_X9_next_J116 p0_9 (f_X9_next_L67 p0_7 p0_8 p0_10 n) ((((10 : Int32) * p0_12) + (p0_7 p0_9.toNatClampNeg)) - (48 : Int32)))
     else (f_X9_next_J116 p0_9 (f_X9_next_L67 p0_7 p0_8 p0_10 n) p0_12)
def f_X9_next_J238 (p0_9 : Int32) (k192 : Int32 → Int32 → (Int32 × Int32 × Int32 × Int32)) (s1 : Int32) : Int32 × Int32 × Int32 × Int32 := (k192 (p0_9 + (1 : Int32)) s1)
def f_X9_next_J304 (p0_9 : Int32) (p0_10 : Int32) (p0_12 : Int32) (s0 : Int32) : Int32 × Int32 × Int32 × Int32 := 
    if s0 = 0 then 
     if (f_X9_kindOf p0_12) = (-9 : Int32) then (p0_9, p0_10, (2 : Int32), p0_12)
     else (p0_9, p0_10, (4 : Int32), p0_12)
    else (p0_9, p0_10, (4 : Int32), p0_12)
def f_X9_next_J299 (p0_9 : Int32) (p0_10 : Int32) (p0_12 : Int32) : Int32 × Int32 × Int32 × Int32 := (f_X9_next_J304 p0_9 p0_10 p0_12 (1 : Int32))
def f_X9_next_L192 (p0_7 : Fn) (p0_8 : Int32) (p0_10 : Int32) : Nat → Int32 → Int32 → Int32 × Int32 × Int32 × Int32
  | 0, p0_9, p0_12 => (p0_9, p0_10, 0, p0_12)
  | n + 1, p0_9, p0_12 => 
    if (f_X9_isHere p0_7 p0_8 p0_9 (97 : Int32) (122 : Int32)) = 0 then 
     if p0_12 = (114 : Int32) then (f_X9_next_J299 p0_9 p0_10 p0_12)
     else 
      if p0_12 = (102 : Int32) then (f_X9_next_J299 p0_9 p0_10 p0_12)
      else 
       if p0_12 = (97 : Int32) then (f_X9_next_J299 p0_9 p0_10 p0_12)
       else 
        if p0_12 = (107 : Int32) then (f_X9_next_J299 p0_9 p0_10 p0_12)
        else 
         if p0_12 = (115 : Int32) then (f_X9_next_J299 p0_9 p0_10 p0_12)
         else (f_X9_next_J304 p0_9 p0_10 p0_12 (0 : Int32))
    else 
     if p0_12 ≤ (65535 : Int32) then (f_X9_next_J238 p0_9 (f_X9_next_L192 p0_7 p0_8 p0_10 n) (((256 : Int32) * p0_12) + (p0_7 p0_9.toNatClampNeg)))
     else (f_X9_next_J238 p0_9 (f_X9_next_L192 p0_7 p0_8 p0_10 n) p0_12)
def f_X9_next_J353 (p0_9 : Int32) (p0_10 : Int32) (p0_12 : Int32) (s1 : Int32) : Int32 × Int32 × Int32 × Int32 := ((p0_9 + (1 : Int32)), p0_10, s1, p0_12)
def f_X9_next_L0 (p0_7 : Fn) (p0_8 : Int32) : Nat → Int32 → Int32 × Int32 × Int32 × Int32
  | 0, p0_9 => (p0_9, 0, 0, 0)
  | n + 1, p0_9 => 
    if (f_X9_isHere p0_7 p0_8 p0_9 (32 : Int32) (32 : Int32)) = 0 then 
     if p0_9 = p0_8 then (p0_9, p0_9, (0 : Int32), (0 : Int32))
     else 
      if (f_X9_isHere p0_7 p0_8 p0_9 (48 : Int32) (57 : Int32)) = 0 then 
       if (f_X9_isHere p0_7 p0_8 p0_9 (97 : Int32) (122 : Int32)) = 0 then 
        if (p0_7 p0_9.toNatClampNeg) = (59 : Int32) then (f_X9_next_J353 p0_9 p0_9 (0 : Int32) (3 : Int32))
        else (f_X9_next_J353 p0_9 p0_9 (0 : Int32) (2 : Int32))
       else (f_X9_next_L192 p0_7 p0_8 p0_9 4000 p0_9 (0 : Int32))
      else (f_X9_next_L67 p0_7 p0_8 p0_9 4000 p0_9 (0 : Int32))
    else ((f_X9_next_L0 p0_7 p0_8 n) (p0_9 + (1 : Int32)))
def f_X9_next (p0_7 : Fn) (p0_8 : Int32) (p0_9 : Int32) : Int32 × Int32 × Int32 × Int32 := (f_X9_next_L0 p0_7 p0_8 4000 p0_9)
def f_X9_must_C22 (p0_13 : Int32) (x2 : Int32) (p0_9 : Int32) (p0_10 : Int32) (p0_11 : Int32) (p0_12 : Int32) : Int32 × Int32 × Int32 × Int32 × Int32 × Int32 := (x2, p0_9, p0_10, p0_11, p0_12, p0_13)
def f_X9_must (p0_7 : Fn) (p0_8 : Int32) (p0_9 : Int32) (p0_10 : Int32) (p0_11 : Int32) (p0_12 : Int32) (p0_13 : Int32) (x1 : Int32) : Int32 × Int32 × Int32 × Int32 × Int32 × Int32 := 
  if p0_13 = (-9 : Int32) then 
   if x1 = 0 then (p0_12, p0_9, p0_10, p0_11, p0_12, p0_10)
   else (f_X9_must_C22 p0_13 p0_12 ((f_X9_next p0_7 p0_8 p0_9).1) ((f_X9_next p0_7 p0_8 p0_9).2.1) ((f_X9_next p0_7 p0_8 p0_9).2.2.1) ((f_X9_next p0_7 p0_8 p0_9).2.2.2))
  else (p0_12, p0_9, p0_10, p0_11, p0_12, p0_13)
def f_X9_number_C29 (s0 : Int32) (p0_9 : Int32) (p0_10 : Int32) (p0_11 : Int32) (p0_12 : Int32) (p0_13 : Int32) : Int32 × Int32 × Int32 × Int32 × Int32 × Int32 := (s0, p0_9, p0_10, p0_11, p0_12, p0_13)
def f_X9_number_J26 (p0_7 : Fn) (p0_8 : Int32) (p0_9 : Int32) (p0_10 : Int32) (p0_11 : Int32) (p0_12 : Int32) (p0_13 : Int32) (s1 : Int32) : Int32 × Int32 × Int32 × Int32 × Int32 × Int32 := (f_X9_number_C29 (f_X9_must p0_7 p0_8 p0_9 p0_10 p0_11 p0_12 p0_13 s1).1 ((f_X9_must p0_7 p0_8 p0_9 p0_10 p0_11 p0_12 p0_13 s1).2.1) ((f_X9_must p0_7 p0_8 p0_9 p0_10 p0_11 p0_12 p0_13 s1).2.2.1) ((f_X9_must p0_7 p0_8 p0_9 p0_10 p0_11 p0_12 p0_13 s1).2.2.2.1) ((f_X9_must p0_7 p0_8 p0_9 p0_10 p0_11 p0_12 p0_13 s1).2.2.2.2.1) ((f_X9_must p0_7 p0_8 p0_9 p0_10 p0_11 p0_12 p0_13 s1).2.2.2.2.2))
def f_X9_number_J25 (p0_7 : Fn) (p0_8 : Int32) (p0_9 : Int32) (p0_10 : Int32) (p0_11 : Int32) (p0_12 : Int32) (p0_13 : Int32) : Int32 × Int32 × Int32 × Int32 × Int32 × Int32 := (f_X9_number_J26 p0_7 p0_8 p0_9 p0_10 p0_11 p0_12 p0_13 (0 : Int32))
def f_X9_number (p0_7 : Fn) (p0_8 : Int32) (p0_9 : Int32) (p0_10 : Int32) (p0_11 : Int32) (p0_12 : Int32) (p0_13 : Int32) (x1 : Int32) (x2 : Int32) : Int32 × Int32 × Int32 × Int32 × Int32 × Int32 := 
  if p0_11 = (1 : Int32) then 
   if (f_X9_in p0_12 x1 x2) = 0 then (f_X9_number_J25 p0_7 p0_8 p0_9 p0_10 p0_11 p0_12 p0_13)
   else (f_X9_number_J26 p0_7 p0_8 p0_9 p0_10 p0_11 p0_12 p0_13 (1 : Int32))
  else (f_X9_number_J25 p0_7 p0_8 p0_9 p0_10 p0_11 p0_12 p0_13)
def f_X9_usedBits_L26 (p0_1 : Fn) (x1 : Int32) (x3 : Int32) (k4 : Int32 → Int32 → Int32) : Nat → Int32 → Int32 → Int32
  | 0, _, _ => 0
  | n + 1, x2, x4 => 
    if (p0_1 ((18 : Int32) + x3).toNatClampNeg) = x1 then 
     if (p0_1 ((42 : Int32) + x3).toNatClampNeg) < x4 then (k4 x2 (x3 + (1 : Int32)))
     else ((f_X9_usedBits_L26 p0_1 x1 x3 k4 n) (x2 ||| ((1 : Int32) <<< (x4 &&& 31))) (x4 + (1 : Int32)))
    else (k4 x2 (x3 + (1 : Int32)))
def f_X9_usedBits_L4 (p0_1 : Fn) (x1 : Int32) : Nat → Int32 → Int32 → Int32
  | 0, _, _ => 0
  | n + 1, x2, x3 => 
    if (p0_1 (91 : Int32).toNatClampNeg) ≤ x3 then x2
    else (f_X9_usedBits_L26 p0_1 x1 x3 (f_X9_usedBits_L4 p0_1 x1 n) 4000 x2 (p0_1 ((30 : Int32) + x3).toNatClampNeg))
def f_X9_usedBits (p0_1 : Fn) (x1 : Int32) : Int32 := (f_X9_usedBits_L4 p0_1 x1 4000 (0 : Int32) (0 : Int32))
def f_X9_readRegister_C15 (p0_1 : Fn) (x1 : Int32) (s0 : Int32) (p0_9 : Int32) (p0_10 : Int32) (p0_11 : Int32) (p0_12 : Int32) (p0_13 : Int32) : Fn × Int32 × Int32 × Int32 × Int32 × Int32 := 
    if p0_13 = (-9 : Int32) then ((upd (upd (upd (upd p0_1 ((0 : Int32) + x1).toNatClampNeg s0) ((6 : Int32) + x1).toNatClampNeg (-9 : Int32)) ((12 : Int32) + x1).toNatClampNeg (-9 : Int32)) (90 : Int32).toNatClampNeg (((upd (upd (upd p0_1 ((0 : Int32) + x1).toNatClampNeg s0) ((6 : Int32) + x1).toNatClampNeg (-9 : Int32)) ((12 : Int32) + x1).toNatClampNeg (-9 : Int32)) (90 : Int32).toNatClampNeg) + (1 : Int32))), p0_9, p0_10, p0_11, p0_12, p0_13)
    else (p0_1, p0_9, p0_10, p0_11, p0_12, p0_13)
def f_X9_readRegister (p0_1 : Fn) (p0_7 : Fn) (p0_8 : Int32) (p0_9 : Int32) (p0_10 : Int32) (p0_11 : Int32) (p0_12 : Int32) (p0_13 : Int32) : Fn × Int32 × Int32 × Int32 × Int32 × Int32 := (f_X9_readRegister_C15 p0_1 (p0_1 (90 : Int32).toNatClampNeg) (f_X9_number p0_7 p0_8 p0_9 p0_10 p0_11 p0_12 p0_13 (0 : Int32) (15 : Int32)).1 ((f_X9_number p0_7 p0_8 p0_9 p0_10 p0_11 p0_12 p0_13 (0 : Int32) (15 : Int32)).2.1) ((f_X9_number p0_7 p0_8 p0_9 p0_10 p0_11 p0_12 p0_13 (0 : Int32) (15 : Int32)).2.2.1) ((f_X9_number p0_7 p0_8 p0_9 p0_10 p0_11 p0_12 p0_13 (0 : Int32) (15 : Int32)).2.2.2.1) ((f_X9_number p0_7 p0_8 p0_9 p0_10 p0_11 p0_12 p0_13 (0 : Int32) (15 : Int32)).2.2.2.2.1) ((f_X9_number p0_7 p0_8 p0_9 p0_10 p0_11 p0_12 p0_13 (0 : Int32) (15 : Int32)).2.2.2.2.2))
def f_X9_readField_J170 (p0_1 : Fn) (x1 : Int32) (x3 : Int32) (x4 : Int32) (x5 : Int32) (s0 : Int32) (p0_9 : Int32) (p0_10 : Int32) (p0_11 : Int32) (p0_12 : Int32) (p0_13 : Int32) : Fn × Int32 × Int32 × Int32 × Int32 × Int32 := 
    if p0_13 = (-9 : Int32) then ((upd (upd (upd (upd (upd (upd p0_1 ((18 : Int32) + (p0_1 (91 : Int32).toNatClampNeg)).toNatClampNeg x1) ((30 : Int32) + (p0_1 (91 : Int32).toNatClampNeg)).toNatClampNeg x4) ((42 : Int32) + (p0_1 (91 : Int32).toNatClampNeg)).toNatClampNeg x5) ((54 : Int32) + (p0_1 (91 : Int32).toNatClampNeg)).toNatClampNeg x3) ((66 : Int32) + (p0_1 (91 : Int32).toNatClampNeg)).toNatClampNeg s0) (91 : Int32).toNatClampNeg (((upd (upd (upd (upd (upd p0_1 ((18 : Int32) + (p0_1 (91 : Int32).toNatClampNeg)).toNatClampNeg x1) ((30 : Int32) + (p0_1 (91 : Int32).toNatClampNeg)).toNatClampNeg x4) ((42 : Int32) + (p0_1 (91 : Int32).toNatClampNeg)).toNatClampNeg x5) ((54 : Int32) + (p0_1 (91 : Int32).toNatClampNeg)).toNatClampNeg x3) ((66 : Int32) + (p0_1 (91 : Int32).toNatClampNeg)).toNatClampNeg s0) (91 : Int32).toNatClampNeg) + (1 : Int32))), p0_9, p0_10, p0_11, p0_12, p0_13)
    else (p0_1, p0_9, p0_10, p0_11, p0_12, p0_13)
def f_X9_readField_C166 (p0_1 : Fn) (x1 : Int32) (x3 : Int32) (x4 : Int32) (x5 : Int32) (s0 : Int32) (p0_9 : Int32) (p0_10 : Int32) (p0_11 : Int32) (p0_12 : Int32) (p0_13 : Int32) : Fn × Int32 × Int32 × Int32 × Int32 × Int32 := (f_X9_readField_J170 p0_1 x1 x3 x4 x5 s0 p0_9 p0_10 p0_11 p0_12 p0_13)
def f_X9_readField_C139 (p0_1 : Fn) (p0_7 : Fn) (p0_8 : Int32) (x1 : Int32) (x3 : Int32) (x4 : Int32) (s0 : Int32) (p0_9 : Int32) (p0_10 : Int32) (p0_11 : Int32) (p0_12 : Int32) (p0_13 : Int32) : Fn × Int32 × Int32 × Int32 × Int32 × Int32 := 
    if p0_13 = (-9 : Int32) then (f_X9_readField_C166 p0_1 x1 x3 x4 s0 (f_X9_number p0_7 p0_8 p0_9 p0_10 p0_11 p0_12 p0_13 (0 : Int32) (((1 : Int32) <<< (((s0 - x4) + (1 : Int32)) &&& 31)) - (1 : Int32))).1 ((f_X9_number p0_7 p0_8 p0_9 p0_10 p0_11 p0_12 p0_13 (0 : Int32) (((1 : Int32) <<< (((s0 - x4) + (1 : Int32)) &&& 31)) - (1 : Int32))).2.1) ((f_X9_number p0_7 p0_8 p0_9 p0_10 p0_11 p0_12 p0_13 (0 : Int32) (((1 : Int32) <<< (((s0 - x4) + (1 : Int32)) &&& 31)) - (1 : Int32))).2.2.1) ((f_X9_number p0_7 p0_8 p0_9 p0_10 p0_11 p0_12 p0_13 (0 : Int32) (((1 : Int32) <<< (((s0 - x4) + (1 : Int32)) &&& 31)) - (1 : Int32))).2.2.2.1) ((f_X9_number p0_7 p0_8 p0_9 p0_10 p0_11 p0_12 p0_13 (0 : Int32) (((1 : Int32) <<< (((s0 - x4) + (1 : Int32)) &&& 31)) - (1 : Int32))).2.2.2.2.1) ((f_X9_number p0_7 p0_8 p0_9 p0_10 p0_11 p0_12 p0_13 (0 : Int32) (((1 : Int32) <<< (((s0 - x4) + (1 : Int32)) &&& 31)) - (1 : Int32))).2.2.2.2.2))
    else (f_X9_readField_J170 p0_1 x1 x3 x4 s0 (0 : Int32) p0_9 p0_10 p0_11 p0_12 p0_13)
def f_X9_readField_J136 (p0_1 : Fn) (p0_7 : Fn) (p0_8 : Int32) (p0_9 : Int32) (p0_10 : Int32) (p0_11 : Int32) (p0_12 : Int32) (p0_13 : Int32) (x1 : Int32) (x3 : Int32) (x4 : Int32) (s1 : Int32) : Fn × Int32 × Int32 × Int32 × Int32 × Int32 := (f_X9_readField_C139 p0_1 p0_7 p0_8 x1 x3 x4 (f_X9_must p0_7 p0_8 p0_9 p0_10 p0_11 p0_12 p0_13 s1).1 ((f_X9_must p0_7 p0_8 p0_9 p0_10 p0_11 p0_12 p0_13 s1).2.1) ((f_X9_must p0_7 p0_8 p0_9 p0_10 p0_11 p0_12 p0_13 s1).2.2.1) ((f_X9_must p0_7 p0_8 p0_9 p0_10 p0_11 p0_12 p0_13 s1).2.2.2.1) ((f_X9_must p0_7 p0_8 p0_9 p0_10 p0_11 p0_12 p0_13 s1).2.2.2.2.1) ((f_X9_must p0_7 p0_8 p0_9 p0_10 p0_11 p0_12 p0_13 s1).2.2.2.2.2))
def f_X9_readField_J135 (p0_1 : Fn) (p0_7 : Fn) (p0_8 : Int32) (p0_9 : Int32) (p0_10 : Int32) (p0_11 : Int32) (p0_12 : Int32) (p0_13 : Int32) (x1 : Int32) (x3 : Int32) (x4 : Int32) : Fn × Int32 × Int32 × Int32 × Int32 × Int32 := (f_X9_readField_J136 p0_1 p0_7 p0_8 p0_9 p0_10 p0_11 p0_12 p0_13 x1 x3 x4 (0 : Int32))
def f_X9_readField_C90 (p0_1 : Fn) (p0_7 : Fn) (p0_8 : Int32) (x1 : Int32) (x2 : Int32) (x3 : Int32) (s0 : Int32) (p0_9 : Int32) (p0_10 : Int32) (p0_11 : Int32) (p0_12 : Int32) (p0_13 : Int32) : Fn × Int32 × Int32 × Int32 × Int32 × Int32 := 
    if p0_11 = (1 : Int32) then 
     if (f_X9_in p0_12 s0 (7 : Int32)) = 0 then (f_X9_readField_J135 p0_1 p0_7 p0_8 p0_9 p0_10 p0_11 p0_12 p0_13 x1 x3 s0)
     else 
      if (x2 &&& (((2 : Int32) <<< (p0_12 &&& 31)) - ((1 : Int32) <<< (s0 &&& 31)))) = 0 then (f_X9_readField_J136 p0_1 p0_7 p0_8 p0_9 p0_10 p0_11 p0_12 p0_13 x1 x3 s0 (1 : Int32))
      else (f_X9_readField_J135 p0_1 p0_7 p0_8 p0_9 p0_10 p0_11 p0_12 p0_13 x1 x3 s0)
    else (f_X9_readField_J135 p0_1 p0_7 p0_8 p0_9 p0_10 p0_11 p0_12 p0_13 x1 x3 s0)
def f_X9_readField_J87 (p0_1 : Fn) (p0_7 : Fn) (p0_8 : Int32) (p0_9 : Int32) (p0_10 : Int32) (p0_11 : Int32) (p0_12 : Int32) (p0_13 : Int32) (x1 : Int32) (x2 : Int32) (x3 : Int32) (s1 : Int32) : Fn × Int32 × Int32 × Int32 × Int32 × Int32 := (f_X9_readField_C90 p0_1 p0_7 p0_8 x1 x2 x3 (f_X9_must p0_7 p0_8 p0_9 p0_10 p0_11 p0_12 p0_13 s1).1 ((f_X9_must p0_7 p0_8 p0_9 p0_10 p0_11 p0_12 p0_13 s1).2.1) ((f_X9_must p0_7 p0_8 p0_9 p0_10 p0_11 p0_12 p0_13 s1).2.2.1) ((f_X9_must p0_7 p0_8 p0_9 p0_10 p0_11 p0_12 p0_13 s1).2.2.2.1) ((f_X9_must p0_7 p0_8 p0_9 p0_10 p0_11 p0_12 p0_13 s1).2.2.2.2.1) ((f_X9_must p0_7 p0_8 p0_9 p0_10 p0_11 p0_12 p0_13 s1).2.2.2.2.2))
def f_X9_readField_J86 (p0_1 : Fn) (p0_7 : Fn) (p0_8 : Int32) (p0_9 : Int32) (p0_10 : Int32) (p0_11 : Int32) (p0_12 : Int32) (p0_13 : Int32) (x1 : Int32) (x2 : Int32) (x3 : Int32) : Fn × Int32 × Int32 × Int32 × Int32 × Int32 := (f_X9_readField_J87 p0_1 p0_7 p0_8 p0_9 p0_10 p0_11 p0_12 p0_13 x1 x2 x3 (0 : Int32))
def f_X9_readField_C45 (p0_1 : Fn) (p0_7 : Fn) (p0_8 : Int32) (x1 : Int32) (x2 : Int32) (s0 : Int32) (p0_9 : Int32) (p0_10 : Int32) (p0_11 : Int32) (p0_12 : Int32) (p0_13 : Int32) : Fn × Int32 × Int32 × Int32 × Int32 × Int32 := 
    if p0_11 = (1 : Int32) then 
     if (f_X9_in p0_12 (0 : Int32) (7 : Int32)) = 0 then (f_X9_readField_J86 p0_1 p0_7 p0_8 p0_9 p0_10 p0_11 p0_12 p0_13 x1 x2 (f_X9_kindOf s0))
     else 
      if ((x2 >>> (p0_12 &&& 31)) &&& (1 : Int32)) = 0 then (f_X9_readField_J87 p0_1 p0_7 p0_8 p0_9 p0_10 p0_11 p0_12 p0_13 x1 x2 (f_X9_kindOf s0) (1 : Int32))
      else (f_X9_readField_J86 p0_1 p0_7 p0_8 p0_9 p0_10 p0_11 p0_12 p0_13 x1 x2 (f_X9_kindOf s0))
    else (f_X9_readField_J86 p0_1 p0_7 p0_8 p0_9 p0_10 p0_11 p0_12 p0_13 x1 x2 (f_X9_kindOf s0))
def f_X9_readField_J42 (p0_1 : Fn) (p0_7 : Fn) (p0_8 : Int32) (p0_9 : Int32) (p0_10 : Int32) (p0_11 : Int32) (p0_12 : Int32) (p0_13 : Int32) (x1 : Int32) (x2 : Int32) (s1 : Int32) : Fn × Int32 × Int32 × Int32 × Int32 × Int32 := (f_X9_readField_C45 p0_1 p0_7 p0_8 x1 x2 (f_X9_must p0_7 p0_8 p0_9 p0_10 p0_11 p0_12 p0_13 s1).1 ((f_X9_must p0_7 p0_8 p0_9 p0_10 p0_11 p0_12 p0_13 s1).2.1) ((f_X9_must p0_7 p0_8 p0_9 p0_10 p0_11 p0_12 p0_13 s1).2.2.1) ((f_X9_must p0_7 p0_8 p0_9 p0_10 p0_11 p0_12 p0_13 s1).2.2.2.1) ((f_X9_must p0_7 p0_8 p0_9 p0_10 p0_11 p0_12 p0_13 s1).2.2.2.2.1) ((f_X9_must p0_7 p0_8 p0_9 p0_10 p0_11 p0_12 p0_13 s1).2.2.2.2.2))
def f_X9_readField_J41 (p0_1 : Fn) (p0_7 : Fn) (p0_8 : Int32) (p0_9 : Int32) (p0_10 : Int32) (p0_11 : Int32) (p0_12 : Int32) (p0_13 : Int32) (x1 : Int32) (x2 : Int32) : Fn × Int32 × Int32 × Int32 × Int32 × Int32 := (f_X9_readField_J42 p0_1 p0_7 p0_8 p0_9 p0_10 p0_11 p0_12 p0_13 x1 x2 (0 : Int32))
def f_X9_readField (p0_1 : Fn) (p0_7 : Fn) (p0_8 : Int32) (p0_9 : Int32) (p0_10 : Int32) (p0_11 : Int32) (p0_12 : Int32) (p0_13 : Int32) : Fn × Int32 × Int32 × Int32 × Int32 × Int32 := 
  if p0_11 = (4 : Int32) then 
   if (f_X9_kindOf p0_12) = (-9 : Int32) then (f_X9_readField_J41 p0_1 p0_7 p0_8 p0_9 p0_10 p0_11 p0_12 p0_13 ((p0_1 (90 : Int32).toNatClampNeg) - (1 : Int32)) (f_X9_usedBits p0_1 ((p0_1 (90 : Int32).toNatClampNeg) - (1 : Int32))))
   else (f_X9_readField_J42 p0_1 p0_7 p0_8 p0_9 p0_10 p0_11 p0_12 p0_13 ((p0_1 (90 : Int32).toNatClampNeg) - (1 : Int32)) (f_X9_usedBits p0_1 ((p0_1 (90 : Int32).toNatClampNeg) - (1 : Int32))) (1 : Int32))
  else (f_X9_readField_J41 p0_1 p0_7 p0_8 p0_9 p0_10 p0_11 p0_12 p0_13 ((p0_1 (90 : Int32).toNatClampNeg) - (1 : Int32)) (f_X9_usedBits p0_1 ((p0_1 (90 : Int32).toNatClampNeg) - (1 : Int32))))
def f_X9_readAlias_C77 (p0_1 : Fn) (x1 : Int32) (x2 : Int32) (x3 : Int32) (s0 : Int32) (p0_9 : Int32) (p0_10 : Int32) (p0_11 : Int32) (p0_12 : Int32) (p0_13 : Int32) : Fn × Int32 × Int32 × Int32 × Int32 × Int32 := 
    if p0_13 = (-9 : Int32) then ((upd (upd (upd (upd p0_1 ((78 : Int32) + (p0_1 (92 : Int32).toNatClampNeg)).toNatClampNeg x1) ((82 : Int32) + (p0_1 (92 : Int32).toNatClampNeg)).toNatClampNeg x2) ((86 : Int32) + (p0_1 (92 : Int32).toNatClampNeg)).toNatClampNeg x3) (92 : Int32).toNatClampNeg (((upd (upd (upd p0_1 ((78 : Int32) + (p0_1 (92 : Int32).toNatClampNeg)).toNatClampNeg x1) ((82 : Int32) + (p0_1 (92 : Int32).toNatClampNeg)).toNatClampNeg x2) ((86 : Int32) + (p0_1 (92 : Int32).toNatClampNeg)).toNatClampNeg x3) (92 : Int32).toNatClampNeg) + (1 : Int32))), p0_9, p0_10, p0_11, p0_12, p0_13)
    else (p0_1, p0_9, p0_10, p0_11, p0_12, p0_13)
def f_X9_readAlias_J74 (p0_1 : Fn) (p0_7 : Fn) (p0_8 : Int32) (p0_9 : Int32) (p0_10 : Int32) (p0_11 : Int32) (p0_12 : Int32) (p0_13 : Int32) (x1 : Int32) (x2 : Int32) (x3 : Int32) (s1 : Int32) : Fn × Int32 × Int32 × Int32 × Int32 × Int32 := (f_X9_readAlias_C77 p0_1 x1 x2 x3 (f_X9_must p0_7 p0_8 p0_9 p0_10 p0_11 p0_12 p0_13 s1).1 ((f_X9_must p0_7 p0_8 p0_9 p0_10 p0_11 p0_12 p0_13 s1).2.1) ((f_X9_must p0_7 p0_8 p0_9 p0_10 p0_11 p0_12 p0_13 s1).2.2.1) ((f_X9_must p0_7 p0_8 p0_9 p0_10 p0_11 p0_12 p0_13 s1).2.2.2.1) ((f_X9_must p0_7 p0_8 p0_9 p0_10 p0_11 p0_12 p0_13 s1).2.2.2.2.1) ((f_X9_must p0_7 p0_8 p0_9 p0_10 p0_11 p0_12 p0_13 s1).2.2.2.2.2))
def f_X9_readAlias_J69 (p0_1 : Fn) (p0_7 : Fn) (p0_8 : Int32) (p0_9 : Int32) (p0_10 : Int32) (p0_11 : Int32) (p0_12 : Int32) (p0_13 : Int32) (x1 : Int32) (x2 : Int32) (x3 : Int32) : Fn × Int32 × Int32 × Int32 × Int32 × Int32 := (f_X9_readAlias_J74 p0_1 p0_7 p0_8 p0_9 p0_10 p0_11 p0_12 p0_13 x1 x2 x3 (1 : Int32))
def f_X9_readAlias_J43 (p0_1 : Fn) (p0_7 : Fn) (p0_8 : Int32) (p0_9 : Int32) (p0_10 : Int32) (p0_11 : Int32) (p0_12 : Int32) (p0_13 : Int32) (x1 : Int32) (x2 : Int32) (s0 : Int32) : Fn × Int32 × Int32 × Int32 × Int32 × Int32 := 
    if s0 = 0 then (f_X9_readAlias_J69 p0_1 p0_7 p0_8 p0_9 p0_10 p0_11 p0_12 p0_13 x1 x2 s0)
    else 
     if s0 = (1 : Int32) then (f_X9_readAlias_J69 p0_1 p0_7 p0_8 p0_9 p0_10 p0_11 p0_12 p0_13 x1 x2 s0)
     else 
      if s0 = (3 : Int32) then (f_X9_readAlias_J69 p0_1 p0_7 p0_8 p0_9 p0_10 p0_11 p0_12 p0_13 x1 x2 s0)
      else 
       if s0 = (4 : Int32) then (f_X9_readAlias_J69 p0_1 p0_7 p0_8 p0_9 p0_10 p0_11 p0_12 p0_13 x1 x2 s0)
       else 
        if s0 = (5 : Int32) then (f_X9_readAlias_J69 p0_1 p0_7 p0_8 p0_9 p0_10 p0_11 p0_12 p0_13 x1 x2 s0)
        else (f_X9_readAlias_J74 p0_1 p0_7 p0_8 p0_9 p0_10 p0_11 p0_12 p0_13 x1 x2 s0 (0 : Int32))
def f_X9_readAlias_C22 (p0_1 : Fn) (p0_7 : Fn) (p0_8 : Int32) (x1 : Int32) (s0 : Int32) (p0_9 : Int32) (p0_10 : Int32) (p0_11 : Int32) (p0_12 : Int32) (p0_13 : Int32) : Fn × Int32 × Int32 × Int32 × Int32 × Int32 := 
    if p0_11 = (4 : Int32) then (f_X9_readAlias_J43 p0_1 p0_7 p0_8 p0_9 p0_10 p0_11 p0_12 p0_13 x1 s0 (f_X9_kindOf p0_12))
    else (f_X9_readAlias_J43 p0_1 p0_7 p0_8 p0_9 p0_10 p0_11 p0_12 p0_13 x1 s0 (-9 : Int32))
def f_X9_readAlias_C7 (p0_1 : Fn) (p0_7 : Fn) (p0_8 : Int32) (s0 : Int32) (p0_9 : Int32) (p0_10 : Int32) (p0_11 : Int32) (p0_12 : Int32) (p0_13 : Int32) : Fn × Int32 × Int32 × Int32 × Int32 × Int32 := (f_X9_readAlias_C22 p0_1 p0_7 p0_8 s0 (f_X9_number p0_7 p0_8 p0_9 p0_10 p0_11 p0_12 p0_13 (0 : Int32) ((p0_1 (90 : Int32).toNatClampNeg) - (1 : Int32))).1 ((f_X9_number p0_7 p0_8 p0_9 p0_10 p0_11 p0_12 p0_13 (0 : Int32) ((p0_1 (90 : Int32).toNatClampNeg) - (1 : Int32))).2.1) ((f_X9_number p0_7 p0_8 p0_9 p0_10 p0_11 p0_12 p0_13 (0 : Int32) ((p0_1 (90 : Int32).toNatClampNeg) - (1 : Int32))).2.2.1) ((f_X9_number p0_7 p0_8 p0_9 p0_10 p0_11 p0_12 p0_13 (0 : Int32) ((p0_1 (90 : Int32).toNatClampNeg) - (1 : Int32))).2.2.2.1) ((f_X9_number p0_7 p0_8 p0_9 p0_10 p0_11 p0_12 p0_13 (0 : Int32) ((p0_1 (90 : Int32).toNatClampNeg) - (1 : Int32))).2.2.2.2.1) ((f_X9_number p0_7 p0_8 p0_9 p0_10 p0_11 p0_12 p0_13 (0 : Int32) ((p0_1 (90 : Int32).toNatClampNeg) - (1 : Int32))).2.2.2.2.2))
def f_X9_readAlias (p0_1 : Fn) (p0_7 : Fn) (p0_8 : Int32) (p0_9 : Int32) (p0_10 : Int32) (p0_11 : Int32) (p0_12 : Int32) (p0_13 : Int32) : Fn × Int32 × Int32 × Int32 × Int32 × Int32 := (f_X9_readAlias_C7 p0_1 p0_7 p0_8 (f_X9_number p0_7 p0_8 p0_9 p0_10 p0_11 p0_12 p0_13 (0 : Int32) (15 : Int32)).1 ((f_X9_number p0_7 p0_8 p0_9 p0_10 p0_11 p0_12 p0_13 (0 : Int32) (15 : Int32)).2.1) ((f_X9_number p0_7 p0_8 p0_9 p0_10 p0_11 p0_12 p0_13 (0 : Int32) (15 : Int32)).2.2.1) ((f_X9_number p0_7 p0_8 p0_9 p0_10 p0_11 p0_12 p0_13 (0 : Int32) (15 : Int32)).2.2.2.1) ((f_X9_number p0_7 p0_8 p0_9 p0_10 p0_11 p0_12 p0_13 (0 : Int32) (15 : Int32)).2.2.2.2.1) ((f_X9_number p0_7 p0_8 p0_9 p0_10 p0_11 p0_12 p0_13 (0 : Int32) (15 : Int32)).2.2.2.2.2))
def f_X9_readLink_C113 (p0_1 : Fn) (x1 : Int32) (x2 : Int32) (s0 : Int32) (p0_9 : Int32) (p0_10 : Int32) (p0_11 : Int32) (p0_12 : Int32) (p0_13 : Int32) : Fn × Int32 × Int32 × Int32 × Int32 × Int32 := 
    if p0_13 = (-9 : Int32) then ((upd p0_1 (x1 + x2).toNatClampNeg s0), p0_9, p0_10, p0_11, p0_12, p0_13)
    else (p0_1, p0_9, p0_10, p0_11, p0_12, p0_13)
def f_X9_readLink_J110 (p0_1 : Fn) (p0_7 : Fn) (p0_8 : Int32) (p0_9 : Int32) (p0_10 : Int32) (p0_11 : Int32) (p0_12 : Int32) (p0_13 : Int32) (x1 : Int32) (x2 : Int32) (s1 : Int32) : Fn × Int32 × Int32 × Int32 × Int32 × Int32 := (f_X9_readLink_C113 p0_1 x1 x2 (f_X9_must p0_7 p0_8 p0_9 p0_10 p0_11 p0_12 p0_13 s1).1 ((f_X9_must p0_7 p0_8 p0_9 p0_10 p0_11 p0_12 p0_13 s1).2.1) ((f_X9_must p0_7 p0_8 p0_9 p0_10 p0_11 p0_12 p0_13 s1).2.2.1) ((f_X9_must p0_7 p0_8 p0_9 p0_10 p0_11 p0_12 p0_13 s1).2.2.2.1) ((f_X9_must p0_7 p0_8 p0_9 p0_10 p0_11 p0_12 p0_13 s1).2.2.2.2.1) ((f_X9_must p0_7 p0_8 p0_9 p0_10 p0_11 p0_12 p0_13 s1).2.2.2.2.2))
def f_X9_readLink_J105 (p0_1 : Fn) (p0_7 : Fn) (p0_8 : Int32) (p0_9 : Int32) (p0_10 : Int32) (p0_11 : Int32) (p0_12 : Int32) (p0_13 : Int32) (x1 : Int32) (x2 : Int32) : Fn × Int32 × Int32 × Int32 × Int32 × Int32 := (f_X9_readLink_J110 p0_1 p0_7 p0_8 p0_9 p0_10 p0_11 p0_12 p0_13 x1 x2 (1 : Int32))
def f_X9_readLink_J109 (p0_1 : Fn) (p0_7 : Fn) (p0_8 : Int32) (p0_9 : Int32) (p0_10 : Int32) (p0_11 : Int32) (p0_12 : Int32) (p0_13 : Int32) (x1 : Int32) (x2 : Int32) : Fn × Int32 × Int32 × Int32 × Int32 × Int32 := (f_X9_readLink_J110 p0_1 p0_7 p0_8 p0_9 p0_10 p0_11 p0_12 p0_13 x1 x2 (0 : Int32))
def f_X9_readLink_C53 (p0_1 : Fn) (p0_7 : Fn) (p0_8 : Int32) (x1 : Int32) (s0 : Int32) (p0_9 : Int32) (p0_10 : Int32) (p0_11 : Int32) (p0_12 : Int32) (p0_13 : Int32) : Fn × Int32 × Int32 × Int32 × Int32 × Int32 := 
    if p0_11 = (1 : Int32) then 
     if (f_X9_in p0_12 (0 : Int32) ((p0_1 (91 : Int32).toNatClampNeg) - (1 : Int32))) = 0 then (f_X9_readLink_J109 p0_1 p0_7 p0_8 p0_9 p0_10 p0_11 p0_12 p0_13 x1 s0)
     else 
      if x1 = (6 : Int32) then (f_X9_readLink_J105 p0_1 p0_7 p0_8 p0_9 p0_10 p0_11 p0_12 p0_13 x1 s0)
      else 
       if (p0_1 ((18 : Int32) + p0_12).toNatClampNeg) = s0 then (f_X9_readLink_J109 p0_1 p0_7 p0_8 p0_9 p0_10 p0_11 p0_12 p0_13 x1 s0)
       else (f_X9_readLink_J105 p0_1 p0_7 p0_8 p0_9 p0_10 p0_11 p0_12 p0_13 x1 s0)
    else (f_X9_readLink_J109 p0_1 p0_7 p0_8 p0_9 p0_10 p0_11 p0_12 p0_13 x1 s0)
def f_X9_readLink_J50 (p0_1 : Fn) (p0_7 : Fn) (p0_8 : Int32) (p0_9 : Int32) (p0_10 : Int32) (p0_11 : Int32) (p0_12 : Int32) (p0_13 : Int32) (x1 : Int32) (s1 : Int32) : Fn × Int32 × Int32 × Int32 × Int32 × Int32 := (f_X9_readLink_C53 p0_1 p0_7 p0_8 x1 (f_X9_must p0_7 p0_8 p0_9 p0_10 p0_11 p0_12 p0_13 s1).1 ((f_X9_must p0_7 p0_8 p0_9 p0_10 p0_11 p0_12 p0_13 s1).2.1) ((f_X9_must p0_7 p0_8 p0_9 p0_10 p0_11 p0_12 p0_13 s1).2.2.1) ((f_X9_must p0_7 p0_8 p0_9 p0_10 p0_11 p0_12 p0_13 s1).2.2.2.1) ((f_X9_must p0_7 p0_8 p0_9 p0_10 p0_11 p0_12 p0_13 s1).2.2.2.2.1) ((f_X9_must p0_7 p0_8 p0_9 p0_10 p0_11 p0_12 p0_13 s1).2.2.2.2.2))
def f_X9_readLink_J49 (p0_1 : Fn) (p0_7 : Fn) (p0_8 : Int32) (p0_9 : Int32) (p0_10 : Int32) (p0_11 : Int32) (p0_12 : Int32) (p0_13 : Int32) (x1 : Int32) : Fn × Int32 × Int32 × Int32 × Int32 × Int32 := (f_X9_readLink_J50 p0_1 p0_7 p0_8 p0_9 p0_10 p0_11 p0_12 p0_13 x1 (0 : Int32))
def f_X9_readLink (p0_1 : Fn) (p0_7 : Fn) (p0_8 : Int32) (p0_9 : Int32) (p0_10 : Int32) (p0_11 : Int32) (p0_12 : Int32) (p0_13 : Int32) (x1 : Int32) : Fn × Int32 × Int32 × Int32 × Int32 × Int32 := 
  if p0_11 = (1 : Int32) then 
   if (f_X9_in p0_12 (0 : Int32) ((p0_1 (90 : Int32).toNatClampNeg) - (1 : Int32))) = 0 then (f_X9_readLink_J49 p0_1 p0_7 p0_8 p0_9 p0_10 p0_11 p0_12 p0_13 x1)
   else 
    if (p0_1 (x1 + p0_12).toNatClampNeg) = (-9 : Int32) then (f_X9_readLink_J50 p0_1 p0_7 p0_8 p0_9 p0_10 p0_11 p0_12 p0_13 x1 (1 : Int32))
    else (f_X9_readLink_J49 p0_1 p0_7 p0_8 p0_9 p0_10 p0_11 p0_12 p0_13 x1)
  else (f_X9_readLink_J49 p0_1 p0_7 p0_8 p0_9 p0_10 p0_11 p0_12 p0_13 x1)
def f_X9_readItem_C199 (p0_1 : Fn) (s0 : Int32) (p0_9 : Int32) (p0_10 : Int32) (p0_11 : Int32) (p0_12 : Int32) (p0_13 : Int32) : Fn × Int32 × Int32 × Int32 × Int32 × Int32 := (p0_1, p0_9, p0_10, p0_11, p0_12, p0_13)
def f_X9_readItem_J196 (p0_1 : Fn) (p0_7 : Fn) (p0_8 : Int32) (p0_9 : Int32) (p0_10 : Int32) (p0_11 : Int32) (p0_12 : Int32) (p0_13 : Int32) (s1 : Int32) : Fn × Int32 × Int32 × Int32 × Int32 × Int32 := (f_X9_readItem_C199 p0_1 (f_X9_must p0_7 p0_8 p0_9 p0_10 p0_11 p0_12 p0_13 s1).1 ((f_X9_must p0_7 p0_8 p0_9 p0_10 p0_11 p0_12 p0_13 s1).2.1) ((f_X9_must p0_7 p0_8 p0_9 p0_10 p0_11 p0_12 p0_13 s1).2.2.1) ((f_X9_must p0_7 p0_8 p0_9 p0_10 p0_11 p0_12 p0_13 s1).2.2.2.1) ((f_X9_must p0_7 p0_8 p0_9 p0_10 p0_11 p0_12 p0_13 s1).2.2.2.2.1) ((f_X9_must p0_7 p0_8 p0_9 p0_10 p0_11 p0_12 p0_13 s1).2.2.2.2.2))
def f_X9_readItem_J182 (p0_7 : Fn) (p0_8 : Int32) (p0_1 : Fn) (p0_9 : Int32) (p0_10 : Int32) (p0_11 : Int32) (p0_12 : Int32) (p0_13 : Int32) : Fn × Int32 × Int32 × Int32 × Int32 × Int32 := 
    if p0_11 = (3 : Int32) then (f_X9_readItem_J196 p0_1 p0_7 p0_8 p0_9 p0_10 p0_11 p0_12 p0_13 (1 : Int32))
    else (f_X9_readItem_J196 p0_1 p0_7 p0_8 p0_9 p0_10 p0_11 p0_12 p0_13 (0 : Int32))
def f_X9_readItem_C136 (p0_7 : Fn) (p0_8 : Int32) (p0_1 : Fn) (p0_9 : Int32) (p0_10 : Int32) (p0_11 : Int32) (p0_12 : Int32) (p0_13 : Int32) : Fn × Int32 × Int32 × Int32 × Int32 × Int32 := (f_X9_readItem_J182 p0_7 p0_8 p0_1 p0_9 p0_10 p0_11 p0_12 p0_13)
def f_X9_readItem_C149 (p0_7 : Fn) (p0_8 : Int32) (p0_1 : Fn) (p0_9 : Int32) (p0_10 : Int32) (p0_11 : Int32) (p0_12 : Int32) (p0_13 : Int32) : Fn × Int32 × Int32 × Int32 × Int32 × Int32 := (f_X9_readItem_J182 p0_7 p0_8 p0_1 p0_9 p0_10 p0_11 p0_12 p0_13)
def f_X9_readItem_C162 (p0_7 : Fn) (p0_8 : Int32) (p0_1 : Fn) (p0_9 : Int32) (p0_10 : Int32) (p0_11 : Int32) (p0_12 : Int32) (p0_13 : Int32) : Fn × Int32 × Int32 × Int32 × Int32 × Int32 := (f_X9_readItem_J182 p0_7 p0_8 p0_1 p0_9 p0_10 p0_11 p0_12 p0_13)
def f_X9_readItem_J179 (p0_1 : Fn) (p0_7 : Fn) (p0_8 : Int32) (p0_9 : Int32) (p0_10 : Int32) (p0_11 : Int32) (p0_12 : Int32) (p0_13 : Int32) (s1 : Int32) : Fn × Int32 × Int32 × Int32 × Int32 × Int32 := (f_X9_readItem_J182 p0_7 p0_8 ((f_X9_readLink p0_1 p0_7 p0_8 p0_9 p0_10 p0_11 p0_12 p0_13 s1).1) ((f_X9_readLink p0_1 p0_7 p0_8 p0_9 p0_10 p0_11 p0_12 p0_13 s1).2.1) ((f_X9_readLink p0_1 p0_7 p0_8 p0_9 p0_10 p0_11 p0_12 p0_13 s1).2.2.1) ((f_X9_readLink p0_1 p0_7 p0_8 p0_9 p0_10 p0_11 p0_12 p0_13 s1).2.2.2.1) ((f_X9_readLink p0_1 p0_7 p0_8 p0_9 p0_10 p0_11 p0_12 p0_13 s1).2.2.2.2.1) ((f_X9_readLink p0_1 p0_7 p0_8 p0_9 p0_10 p0_11 p0_12 p0_13 s1).2.2.2.2.2))
def f_X9_readItem_C115 (p0_1 : Fn) (p0_7 : Fn) (p0_8 : Int32) (x1 : Int32) (s0 : Int32) (p0_9 : Int32) (p0_10 : Int32) (p0_11 : Int32) (p0_12 : Int32) (p0_13 : Int32) : Fn × Int32 × Int32 × Int32 × Int32 × Int32 := 
    if p0_13 = (-9 : Int32) then 
     if x1 = (114 : Int32) then (f_X9_readItem_C136 p0_7 p0_8 ((f_X9_readRegister p0_1 p0_7 p0_8 p0_9 p0_10 p0_11 p0_12 p0_13).1) ((f_X9_readRegister p0_1 p0_7 p0_8 p0_9 p0_10 p0_11 p0_12 p0_13).2.1) ((f_X9_readRegister p0_1 p0_7 p0_8 p0_9 p0_10 p0_11 p0_12 p0_13).2.2.1) ((f_X9_readRegister p0_1 p0_7 p0_8 p0_9 p0_10 p0_11 p0_12 p0_13).2.2.2.1) ((f_X9_readRegister p0_1 p0_7 p0_8 p0_9 p0_10 p0_11 p0_12 p0_13).2.2.2.2.1) ((f_X9_readRegister p0_1 p0_7 p0_8 p0_9 p0_10 p0_11 p0_12 p0_13).2.2.2.2.2))
     else 
      if x1 = (102 : Int32) then (f_X9_readItem_C149 p0_7 p0_8 ((f_X9_readField p0_1 p0_7 p0_8 p0_9 p0_10 p0_11 p0_12 p0_13).1) ((f_X9_readField p0_1 p0_7 p0_8 p0_9 p0_10 p0_11 p0_12 p0_13).2.1) ((f_X9_readField p0_1 p0_7 p0_8 p0_9 p0_10 p0_11 p0_12 p0_13).2.2.1) ((f_X9_readField p0_1 p0_7 p0_8 p0_9 p0_10 p0_11 p0_12 p0_13).2.2.2.1) ((f_X9_readField p0_1 p0_7 p0_8 p0_9 p0_10 p0_11 p0_12 p0_13).2.2.2.2.1) ((f_X9_readField p0_1 p0_7 p0_8 p0_9 p0_10 p0_11 p0_12 p0_13).2.2.2.2.2))
      else 
       if x1 = (97 : Int32) then (f_X9_readItem_C162 p0_7 p0_8 ((f_X9_readAlias p0_1 p0_7 p0_8 p0_9 p0_10 p0_11 p0_12 p0_13).1) ((f_X9_readAlias p0_1 p0_7 p0_8 p0_9 p0_10 p0_11 p0_12 p0_13).2.1) ((f_X9_readAlias p0_1 p0_7 p0_8 p0_9 p0_10 p0_11 p0_12 p0_13).2.2.1) ((f_X9_readAlias p0_1 p0_7 p0_8 p0_9 p0_10 p0_11 p0_12 p0_13).2.2.2.1) ((f_X9_readAlias p0_1 p0_7 p0_8 p0_9 p0_10 p0_11 p0_12 p0_13).2.2.2.2.1) ((f_X9_readAlias p0_1 p0_7 p0_8 p0_9 p0_10 p0_11 p0_12 p0_13).2.2.2.2.2))
       else 
        if x1 = (107 : Int32) then (f_X9_readItem_J179 p0_1 p0_7 p0_8 p0_9 p0_10 p0_11 p0_12 p0_13 (6 : Int32))
        else (f_X9_readItem_J179 p0_1 p0_7 p0_8 p0_9 p0_10 p0_11 p0_12 p0_13 (12 : Int32))
    else (p0_1, p0_9, p0_10, p0_11, p0_12, p0_13)
def f_X9_readItem_J112 (p0_1 : Fn) (p0_7 : Fn) (p0_8 : Int32) (p0_9 : Int32) (p0_10 : Int32) (p0_11 : Int32) (p0_12 : Int32) (p0_13 : Int32) (x1 : Int32) (s1 : Int32) : Fn × Int32 × Int32 × Int32 × Int32 × Int32 := (f_X9_readItem_C115 p0_1 p0_7 p0_8 x1 (f_X9_must p0_7 p0_8 p0_9 p0_10 p0_11 p0_12 p0_13 s1).1 ((f_X9_must p0_7 p0_8 p0_9 p0_10 p0_11 p0_12 p0_13 s1).2.1) ((f_X9_must p0_7 p0_8 p0_9 p0_10 p0_11 p0_12 p0_13 s1).2.2.1) ((f_X9_must p0_7 p0_8 p0_9 p0_10 p0_11 p0_12 p0_13 s1).2.2.2.1) ((f_X9_must p0_7 p0_8 p0_9 p0_10 p0_11 p0_12 p0_13 s1).2.2.2.2.1) ((f_X9_must p0_7 p0_8 p0_9 p0_10 p0_11 p0_12 p0_13 s1).2.2.2.2.2))
def f_X9_readItem_J107 (p0_1 : Fn) (p0_7 : Fn) (p0_8 : Int32) (p0_9 : Int32) (p0_10 : Int32) (p0_11 : Int32) (p0_12 : Int32) (p0_13 : Int32) (x1 : Int32) : Fn × Int32 × Int32 × Int32 × Int32 × Int32 := (f_X9_readItem_J112 p0_1 p0_7 p0_8 p0_9 p0_10 p0_11 p0_12 p0_13 x1 (1 : Int32))
def f_X9_readItem_J111 (p0_1 : Fn) (p0_7 : Fn) (p0_8 : Int32) (p0_9 : Int32) (p0_10 : Int32) (p0_11 : Int32) (p0_12 : Int32) (p0_13 : Int32) (x1 : Int32) : Fn × Int32 × Int32 × Int32 × Int32 × Int32 := (f_X9_readItem_J112 p0_1 p0_7 p0_8 p0_9 p0_10 p0_11 p0_12 p0_13 x1 (0 : Int32))
def f_X9_readItem_J103 (p0_1 : Fn) (p0_7 : Fn) (p0_8 : Int32) (p0_9 : Int32) (p0_10 : Int32) (p0_11 : Int32) (p0_12 : Int32) (p0_13 : Int32) (x1 : Int32) (x2 : Int32) : Fn × Int32 × Int32 × Int32 × Int32 × Int32 := 
    if x2 = 0 then (f_X9_readItem_J111 p0_1 p0_7 p0_8 p0_9 p0_10 p0_11 p0_12 p0_13 x1)
    else (f_X9_readItem_J107 p0_1 p0_7 p0_8 p0_9 p0_10 p0_11 p0_12 p0_13 x1)
def f_X9_readItem_J91 (p0_1 : Fn) (p0_7 : Fn) (p0_8 : Int32) (p0_9 : Int32) (p0_10 : Int32) (p0_11 : Int32) (p0_12 : Int32) (p0_13 : Int32) (x1 : Int32) (x2 : Int32) : Fn × Int32 × Int32 × Int32 × Int32 × Int32 := 
    if x1 = (107 : Int32) then (f_X9_readItem_J103 p0_1 p0_7 p0_8 p0_9 p0_10 p0_11 p0_12 p0_13 x1 x2)
    else 
     if x1 = (115 : Int32) then (f_X9_readItem_J103 p0_1 p0_7 p0_8 p0_9 p0_10 p0_11 p0_12 p0_13 x1 x2)
     else (f_X9_readItem_J111 p0_1 p0_7 p0_8 p0_9 p0_10 p0_11 p0_12 p0_13 x1)
def f_X9_readItem_J74 (p0_1 : Fn) (p0_7 : Fn) (p0_8 : Int32) (p0_9 : Int32) (p0_10 : Int32) (p0_11 : Int32) (p0_12 : Int32) (p0_13 : Int32) (x1 : Int32) (x2 : Int32) : Fn × Int32 × Int32 × Int32 × Int32 × Int32 := 
    if x1 = (97 : Int32) then 
     if (p0_1 (92 : Int32).toNatClampNeg) < (4 : Int32) then (f_X9_readItem_J107 p0_1 p0_7 p0_8 p0_9 p0_10 p0_11 p0_12 p0_13 x1)
     else (f_X9_readItem_J91 p0_1 p0_7 p0_8 p0_9 p0_10 p0_11 p0_12 p0_13 x1 x2)
    else (f_X9_readItem_J91 p0_1 p0_7 p0_8 p0_9 p0_10 p0_11 p0_12 p0_13 x1 x2)
def f_X9_readItem_J52 (p0_1 : Fn) (p0_7 : Fn) (p0_8 : Int32) (p0_9 : Int32) (p0_10 : Int32) (p0_11 : Int32) (p0_12 : Int32) (p0_13 : Int32) (x1 : Int32) (x2 : Int32) : Fn × Int32 × Int32 × Int32 × Int32 × Int32 := 
    if x1 = (102 : Int32) then 
     if x2 = 0 then (f_X9_readItem_J74 p0_1 p0_7 p0_8 p0_9 p0_10 p0_11 p0_12 p0_13 x1 x2)
     else 
      if (p0_1 (91 : Int32).toNatClampNeg) < (12 : Int32) then (f_X9_readItem_J107 p0_1 p0_7 p0_8 p0_9 p0_10 p0_11 p0_12 p0_13 x1)
      else (f_X9_readItem_J74 p0_1 p0_7 p0_8 p0_9 p0_10 p0_11 p0_12 p0_13 x1 x2)
    else (f_X9_readItem_J74 p0_1 p0_7 p0_8 p0_9 p0_10 p0_11 p0_12 p0_13 x1 x2)
def f_X9_readItem_J32 (p0_1 : Fn) (p0_7 : Fn) (p0_8 : Int32) (p0_9 : Int32) (p0_10 : Int32) (p0_11 : Int32) (p0_12 : Int32) (p0_13 : Int32) (x1 : Int32) (s0 : Int32) : Fn × Int32 × Int32 × Int32 × Int32 × Int32 := 
    if x1 = (114 : Int32) then 
     if (p0_1 (90 : Int32).toNatClampNeg) < (6 : Int32) then (f_X9_readItem_J107 p0_1 p0_7 p0_8 p0_9 p0_10 p0_11 p0_12 p0_13 x1)
     else (f_X9_readItem_J52 p0_1 p0_7 p0_8 p0_9 p0_10 p0_11 p0_12 p0_13 x1 s0)
    else (f_X9_readItem_J52 p0_1 p0_7 p0_8 p0_9 p0_10 p0_11 p0_12 p0_13 x1 s0)
def f_X9_readItem_J16 (p0_1 : Fn) (p0_7 : Fn) (p0_8 : Int32) (p0_9 : Int32) (p0_10 : Int32) (p0_11 : Int32) (p0_12 : Int32) (p0_13 : Int32) (s0 : Int32) : Fn × Int32 × Int32 × Int32 × Int32 × Int32 := 
    if (p0_1 (90 : Int32).toNatClampNeg) ≤ 0 then (f_X9_readItem_J32 p0_1 p0_7 p0_8 p0_9 p0_10 p0_11 p0_12 p0_13 s0 (0 : Int32))
    else (f_X9_readItem_J32 p0_1 p0_7 p0_8 p0_9 p0_10 p0_11 p0_12 p0_13 s0 (1 : Int32))
def f_X9_readItem (p0_1 : Fn) (p0_7 : Fn) (p0_8 : Int32) (p0_9 : Int32) (p0_10 : Int32) (p0_11 : Int32) (p0_12 : Int32) (p0_13 : Int32) : Fn × Int32 × Int32 × Int32 × Int32 × Int32 := 
  if p0_11 = (4 : Int32) then (f_X9_readItem_J16 p0_1 p0_7 p0_8 p0_9 p0_10 p0_11 p0_12 p0_13 p0_12)
  else (f_X9_readItem_J16 p0_1 p0_7 p0_8 p0_9 p0_10 p0_11 p0_12 p0_13 (0 : Int32))
def f_X9_tells_C58 (x1 : Int32) (k38 : Int32 → Fn → Int32 → Int32 → Int32 → Int32 → Int32 → (Int32 × Fn × Fn × Fn × Int32 × Fn × Int32 × Int32 × Int32 × Int32 × Int32 × Int32)) (p0_1 : Fn) (p0_9 : Int32) (p0_10 : Int32) (p0_11 : Int32) (p0_12 : Int32) (p0_13 : Int32) : Int32 × Fn × Fn × Fn × Int32 × Fn × Int32 × Int32 × Int32 × Int32 × Int32 × Int32 := (k38 (x1 + (1 : Int32)) p0_1 p0_9 p0_10 p0_11 p0_12 p0_13)
def f_X9_tells_C116 (p0_0 : Fn) (p0_1 : Fn) (p0_8 : Int32) (p0_9 : Int32) (p0_10 : Int32) (p0_11 : Int32) (p0_12 : Int32) (p0_13 : Int32) (x1 : Int32) (p0_2 : Fn) (p0_4 : Int32) (p0_6 : Fn) : Int32 × Fn × Fn × Fn × Int32 × Fn × Int32 × Int32 × Int32 × Int32 × Int32 × Int32 := (x1, p0_0, p0_1, p0_2, p0_4, p0_6, p0_8, p0_9, p0_10, p0_11, p0_12, p0_13)
def f_X9_tells_L83 (p0_1 : Fn) (p0_2 : Fn) (p0_6 : Fn) (p0_9 : Int32) (p0_10 : Int32) (p0_11 : Int32) (p0_12 : Int32) (p0_13 : Int32) (x1 : Int32) : Nat → Int32 → Fn → Int32 × Fn × Fn × Fn × Int32 × Fn × Int32 × Int32 × Int32 × Int32 × Int32 × Int32
  | 0, _, p0_0 => (0, p0_0, p0_1, p0_2, 0, p0_6, 0, p0_9, p0_10, p0_11, p0_12, p0_13)
  | n + 1, x2, p0_0 => 
    if (93 : Int32) ≤ x2 then (f_X9_tells_C116 p0_0 p0_1 (0 : Int32) p0_9 p0_10 p0_11 p0_12 p0_13 x1 ((f_X9_begin p0_0 p0_2 p0_6).1) ((f_X9_begin p0_0 p0_2 p0_6).2.1) ((f_X9_begin p0_0 p0_2 p0_6).2.2))
    else ((f_X9_tells_L83 p0_1 p0_2 p0_6 p0_9 p0_10 p0_11 p0_12 p0_13 x1 n) (x2 + (1 : Int32)) (upd p0_0 x2.toNatClampNeg (p0_1 x2.toNatClampNeg)))
def f_X9_tells_J64 (p0_0 : Fn) (p0_1 : Fn) (p0_2 : Fn) (p0_4 : Int32) (p0_6 : Fn) (p0_8 : Int32) (p0_9 : Int32) (p0_10 : Int32) (p0_11 : Int32) (p0_12 : Int32) (p0_13 : Int32) (x1 : Int32) : Int32 × Fn × Fn × Fn × Int32 × Fn × Int32 × Int32 × Int32 × Int32 × Int32 × Int32 := 
    if p0_13 = (-9 : Int32) then (f_X9_tells_L83 p0_1 p0_2 p0_6 p0_9 p0_10 p0_11 p0_12 p0_13 x1 4000 (0 : Int32) p0_0)
    else (((-10 : Int32) - p0_13), p0_0, p0_1, p0_2, p0_4, p0_6, p0_8, p0_9, p0_10, p0_11, p0_12, p0_13)
def f_X9_tells_L38 (p0_0 : Fn) (p0_2 : Fn) (p0_4 : Int32) (p0_6 : Fn) (p0_7 : Fn) (p0_8 : Int32) : Nat → Int32 → Fn → Int32 → Int32 → Int32 → Int32 → Int32 → Int32 × Fn × Fn × Fn × Int32 × Fn × Int32 × Int32 × Int32 × Int32 × Int32 × Int32
  | 0, _, p0_1, p0_9, p0_10, p0_11, p0_12, p0_13 => (0, p0_0, p0_1, p0_2, p0_4, p0_6, p0_8, p0_9, p0_10, p0_11, p0_12, p0_13)
  | n + 1, x1, p0_1, p0_9, p0_10, p0_11, p0_12, p0_13 => 
    if p0_13 = (-9 : Int32) then 
     if p0_11 = 0 then (f_X9_tells_J64 p0_0 p0_1 p0_2 p0_4 p0_6 p0_8 p0_9 p0_10 p0_11 p0_12 p0_13 x1)
     else (f_X9_tells_C58 x1 (f_X9_tells_L38 p0_0 p0_2 p0_4 p0_6 p0_7 p0_8 n) ((f_X9_readItem p0_1 p0_7 p0_8 p0_9 p0_10 p0_11 p0_12 p0_13).1) ((f_X9_readItem p0_1 p0_7 p0_8 p0_9 p0_10 p0_11 p0_12 p0_13).2.1) ((f_X9_readItem p0_1 p0_7 p0_8 p0_9 p0_10 p0_11 p0_12 p0_13).2.2.1) ((f_X9_readItem p0_1 p0_7 p0_8 p0_9 p0_10 p0_11 p0_12 p0_13).2.2.2.1) ((f_X9_readItem p0_1 p0_7 p0_8 p0_9 p0_10 p0_11 p0_12 p0_13).2.2.2.2.1) ((f_X9_readItem p0_1 p0_7 p0_8 p0_9 p0_10 p0_11 p0_12 p0_13).2.2.2.2.2))
    else (f_X9_tells_J64 p0_0 p0_1 p0_2 p0_4 p0_6 p0_8 p0_9 p0_10 p0_11 p0_12 p0_13 x1)
def f_X9_tells_L2 (p0_0 : Fn) (p0_2 : Fn) (p0_4 : Int32) (p0_6 : Fn) (p0_7 : Fn) (p0_8 : Int32) : Nat → Int32 → Fn → Int32 × Fn × Fn × Fn × Int32 × Fn × Int32 × Int32 × Int32 × Int32 × Int32 × Int32
  | 0, _, p0_1 => (0, p0_0, p0_1, p0_2, p0_4, p0_6, p0_8, 0, 0, 0, 0, 0)
  | n + 1, x1, p0_1 => 
    if (93 : Int32) ≤ x1 then (f_X9_tells_L38 p0_0 p0_2 p0_4 p0_6 p0_7 p0_8 4000 (0 : Int32) p0_1 ((f_X9_next p0_7 p0_8 (0 : Int32)).1) ((f_X9_next p0_7 p0_8 (0 : Int32)).2.1) ((f_X9_next p0_7 p0_8 (0 : Int32)).2.2.1) ((f_X9_next p0_7 p0_8 (0 : Int32)).2.2.2) (-9 : Int32))
    else ((f_X9_tells_L2 p0_0 p0_2 p0_4 p0_6 p0_7 p0_8 n) (x1 + (1 : Int32)) (upd p0_1 x1.toNatClampNeg (0 : Int32)))
def f_X9_tells (p0_0 : Fn) (p0_1 : Fn) (p0_2 : Fn) (p0_4 : Int32) (p0_6 : Fn) (p0_7 : Fn) (p0_8 : Int32) : Int32 × Fn × Fn × Fn × Int32 × Fn × Int32 × Int32 × Int32 × Int32 × Int32 × Int32 := (f_X9_tells_L2 p0_0 p0_2 p0_4 p0_6 p0_7 p0_8 4000 (0 : Int32) p0_1)
def f_X0_empty (p0_0 : Blk) : Blk := (bw (bw (bw p0_0 0 0 (0 : Int32)) 0 1 (0 : Int32)) 0 2 (0 : Int32))
def f_X0_usedBits_L4 (p0_0 : Blk) (x1 : Int32) : Nat → Int32 → Int32 → Int32
  | 0, _, _ => 0
  | n + 1, x2, x3 => 
    if (p0_0 0 1) ≤ x3 then x2
    else 
     if ((p0_0 4) x3.toNatClampNeg) = x1 then ((f_X0_usedBits_L4 p0_0 x1 n) (x2 ||| ((p0_0 8) x3.toNatClampNeg)) (x3 + (1 : Int32)))
     else ((f_X0_usedBits_L4 p0_0 x1 n) x2 (x3 + (1 : Int32)))
def f_X0_usedBits (p0_0 : Blk) (x1 : Int32) : Int32 := (f_X0_usedBits_L4 p0_0 x1 4000 (0 : Int32) (0 : Int32))
def f_X2_forget : Int32 := (0 : Int32)
def f_X3_copyFrom_L10 (p0_0 : Int32) (p1_1 : Fn) (p1_2 : Fn) (p1_3 : Fn) : Nat → Int32 → Fn → Fn → Fn → Int32 × Fn × Fn × Fn
  | 0, _, p0_1, p0_2, p0_3 => (p0_0, p0_1, p0_2, p0_3)
  | n + 1, x2, p0_1, p0_2, p0_3 => 
    if (20 : Int32) ≤ x2 then (p0_0, p0_1, p0_2, p0_3)
    else ((f_X3_copyFrom_L10 p0_0 p1_1 p1_2 p1_3 n) (x2 + (1 : Int32)) (upd p0_1 x2.toNatClampNeg (p1_1 x2.toNatClampNeg)) (upd p0_2 x2.toNatClampNeg (vp_nar .boolean (p1_2 x2.toNatClampNeg))) (upd p0_3 x2.toNatClampNeg (p1_3 x2.toNatClampNeg)))
def f_X3_copyFrom (p0_1 : Fn) (p0_2 : Fn) (p0_3 : Fn) (p1_0 : Int32) (p1_1 : Fn) (p1_2 : Fn) (p1_3 : Fn) : Int32 × Fn × Fn × Fn := (f_X3_copyFrom_L10 p1_0 p1_1 p1_2 p1_3 4000 (0 : Int32) p0_1 p0_2 p0_3)
def f_X7_rewind : Int32 := (0 : Int32)
def f_X6_isLetter (p0_0 : Fn) (x1 : Int32) : Int32 := 
  if (p0_0 x1.toNatClampNeg) < (97 : Int32) then (0 : Int32)
  else 
   if (122 : Int32) < (p0_0 x1.toNatClampNeg) then (0 : Int32)
   else (1 : Int32)
def f_X6_isDigit (p0_0 : Fn) (x1 : Int32) : Int32 := 
  if (p0_0 x1.toNatClampNeg) < (48 : Int32) then (0 : Int32)
  else 
   if (57 : Int32) < (p0_0 x1.toNatClampNeg) then (0 : Int32)
   else (1 : Int32)
def f_X7_advance_L101 (p0_0 : Int32) (p0_2 : Int32) (p0t_0 : Fn) (p0t_1 : Int32) : Nat → Int32 → Int32 × Int32 × Int32
  | 0, p0_1 => (p0_0, p0_1, p0_2)
  | n + 1, p0_1 => 
    if p0t_1 ≤ p0_1 then (p0_0, p0_1, p0_2)
    else 
     if (f_X6_isLetter p0t_0 p0_1) = 0 then (p0_0, p0_1, p0_2)
     else ((f_X7_advance_L101 p0_0 p0_2 p0t_0 p0t_1 n) (p0_1 + (1 : Int32)))
def f_X7_advance_L161 (p0_0 : Int32) (p0_2 : Int32) (p0t_0 : Fn) (p0t_1 : Int32) : Nat → Int32 → Int32 × Int32 × Int32
  | 0, p0_1 => (p0_0, p0_1, p0_2)
  | n + 1, p0_1 => 
    if p0t_1 ≤ p0_1 then (p0_0, p0_1, p0_2)
    else 
     if (f_X6_isDigit p0t_0 p0_1) = 0 then (p0_0, p0_1, p0_2)
     else ((f_X7_advance_L161 p0_0 p0_2 p0t_0 p0t_1 n) (p0_1 + (1 : Int32)))
def f_X7_advance_J225 (p0_0 : Int32) (p0_1 : Int32) (s1 : Int32) : Int32 × Int32 × Int32 := (p0_0, (p0_1 + (1 : Int32)), s1)
def f_X7_advance_J52 (p0_0 : Int32) (p0t_0 : Fn) (p0t_1 : Int32) : Int32 × Int32 × Int32 := 
    if p0_0 < p0t_1 then 
     if (f_X6_isLetter p0t_0 p0_0) = 0 then 
      if (f_X6_isDigit p0t_0 p0_0) = 0 then 
       if (p0t_0 p0_0.toNatClampNeg) = (59 : Int32) then (f_X7_advance_J225 p0_0 p0_0 (3 : Int32))
       else (f_X7_advance_J225 p0_0 p0_0 (0 : Int32))
      else (f_X7_advance_L161 p0_0 (2 : Int32) p0t_0 p0t_1 4000 p0_0)
     else (f_X7_advance_L101 p0_0 (1 : Int32) p0t_0 p0t_1 4000 p0_0)
    else (p0_0, p0_0, (4 : Int32))
def f_X7_advance_L8 (p0t_0 : Fn) (p0t_1 : Int32) : Nat → Int32 → Int32 × Int32 × Int32
  | 0, p0_0 => (p0_0, 0, 0)
  | n + 1, p0_0 => 
    if p0t_1 ≤ p0_0 then (f_X7_advance_J52 p0_0 p0t_0 p0t_1)
    else 
     if (p0t_0 p0_0.toNatClampNeg) = (32 : Int32) then ((f_X7_advance_L8 p0t_0 p0t_1 n) (p0_0 + (1 : Int32)))
     else (f_X7_advance_J52 p0_0 p0t_0 p0t_1)
def f_X7_advance (p0_1 : Int32) (p0t_0 : Fn) (p0t_1 : Int32) : Int32 × Int32 × Int32 := (f_X7_advance_L8 p0t_0 p0t_1 4000 p0_1)
def f_X7_letter (p0_0 : Int32) (p0_1 : Int32) (p0_2 : Int32) (p0t_0 : Fn) : Int32 := 
  if p0_2 = (1 : Int32) then 
   if (p0_1 - p0_0) = (1 : Int32) then (p0t_0 p0_0.toNatClampNeg)
   else (-9 : Int32)
  else (-9 : Int32)
def f_X7_number_L55 (p0_1 : Int32) (p0t_0 : Fn) : Nat → Int32 → Int32 → Int32
  | 0, _, _ => 0
  | n + 1, x2, x3 => 
    if p0_1 ≤ x3 then x2
    else ((f_X7_number_L55 p0_1 p0t_0 n) ((((10 : Int32) * x2) + (p0t_0 x3.toNatClampNeg)) - (48 : Int32)) (x3 + (1 : Int32)))
def f_X7_number_J48 (p0_0 : Int32) (p0_1 : Int32) (p0t_0 : Fn) : Int32 := (f_X7_number_L55 p0_1 p0t_0 4000 (0 : Int32) p0_0)
def f_X7_number (p0_0 : Int32) (p0_1 : Int32) (p0_2 : Int32) (p0t_0 : Fn) : Int32 := 
  if p0_2 = (2 : Int32) then 
   if (3 : Int32) < (p0_1 - p0_0) then (-9 : Int32)
   else 
    if (p0_1 - p0_0) ≤ (1 : Int32) then (f_X7_number_J48 p0_0 p0_1 p0t_0)
    else 
     if (p0t_0 p0_0.toNatClampNeg) = (48 : Int32) then (-9 : Int32)
     else (f_X7_number_J48 p0_0 p0_1 p0t_0)
  else (-9 : Int32)
def f_X4_takeNumber_C7 (p0kt_0 : Fn) (x1 : Int32) (x2 : Int32) (p0k_0 : Int32) (p0k_1 : Int32) (p0k_2 : Int32) : Int32 × Int32 × Int32 × Int32 := 
    if (f_X7_number p0k_0 p0k_1 p0k_2 p0kt_0) = (-9 : Int32) then ((0 : Int32), p0k_0, p0k_1, p0k_2)
    else 
     if (f_X7_number p0k_0 p0k_1 p0k_2 p0kt_0) < x1 then ((0 : Int32), p0k_0, p0k_1, p0k_2)
     else 
      if x2 < (f_X7_number p0k_0 p0k_1 p0k_2 p0kt_0) then ((0 : Int32), p0k_0, p0k_1, p0k_2)
      else ((1 : Int32), p0k_0, p0k_1, p0k_2)
def f_X4_takeNumber (p0k_1 : Int32) (p0kt_0 : Fn) (p0kt_1 : Int32) (x1 : Int32) (x2 : Int32) : Int32 × Int32 × Int32 × Int32 := (f_X4_takeNumber_C7 p0kt_0 x1 x2 ((f_X7_advance p0k_1 p0kt_0 p0kt_1).1) ((f_X7_advance p0k_1 p0kt_0 p0kt_1).2.1) ((f_X7_advance p0k_1 p0kt_0 p0kt_1).2.2))
def f_X4_takeSemicolon_C7 (p0k_0 : Int32) (p0k_1 : Int32) (p0k_2 : Int32) : Int32 × Int32 × Int32 × Int32 := 
    if p0k_2 = (3 : Int32) then ((1 : Int32), p0k_0, p0k_1, p0k_2)
    else ((0 : Int32), p0k_0, p0k_1, p0k_2)
def f_X4_takeSemicolon (p0k_1 : Int32) (p0kt_0 : Fn) (p0kt_1 : Int32) : Int32 × Int32 × Int32 × Int32 := (f_X4_takeSemicolon_C7 ((f_X7_advance p0k_1 p0kt_0 p0kt_1).1) ((f_X7_advance p0k_1 p0kt_0 p0kt_1).2.1) ((f_X7_advance p0k_1 p0kt_0 p0kt_1).2.2))
def f_X4_readGate_C107 (p0b_0 : Blk) (s0 : Int32) (p0k_0 : Int32) (p0k_1 : Int32) (p0k_2 : Int32) : Int32 × Int32 × Int32 × Int32 × Blk := (s0, p0k_0, p0k_1, p0k_2, p0b_0)
def f_X4_readGate_C65 (p0kt_0 : Fn) (p0kt_1 : Int32) (p0b_0 : Blk) (x1 : Int32) (s0 : Int32) (p0k_0 : Int32) (p0k_1 : Int32) (p0k_2 : Int32) : Int32 × Int32 × Int32 × Int32 × Blk := 
    if s0 = 0 then ((0 : Int32), p0k_0, p0k_1, p0k_2, p0b_0)
    else 
     if ((p0b_0 4) (f_X7_number p0k_0 p0k_1 p0k_2 p0kt_0).toNatClampNeg) = x1 then ((0 : Int32), p0k_0, p0k_1, p0k_2, p0b_0)
     else (f_X4_readGate_C107 (bw p0b_0 3 x1.toNatClampNeg (f_X7_number p0k_0 p0k_1 p0k_2 p0kt_0)) (f_X4_takeSemicolon p0k_1 p0kt_0 p0kt_1).1 ((f_X4_takeSemicolon p0k_1 p0kt_0 p0kt_1).2.1) ((f_X4_takeSemicolon p0k_1 p0kt_0 p0kt_1).2.2.1) ((f_X4_takeSemicolon p0k_1 p0kt_0 p0kt_1).2.2.2))
def f_X4_readGate_C24 (p0kt_0 : Fn) (p0kt_1 : Int32) (p0b_0 : Blk) (s0 : Int32) (p0k_0 : Int32) (p0k_1 : Int32) (p0k_2 : Int32) : Int32 × Int32 × Int32 × Int32 × Blk := 
    if s0 = 0 then ((0 : Int32), p0k_0, p0k_1, p0k_2, p0b_0)
    else 
     if ((p0b_0 3) (f_X7_number p0k_0 p0k_1 p0k_2 p0kt_0).toNatClampNeg) = (-9 : Int32) then (f_X4_readGate_C65 p0kt_0 p0kt_1 p0b_0 (f_X7_number p0k_0 p0k_1 p0k_2 p0kt_0) (f_X4_takeNumber p0k_1 p0kt_0 p0kt_1 (0 : Int32) ((p0b_0 0 1) - (1 : Int32))).1 ((f_X4_takeNumber p0k_1 p0kt_0 p0kt_1 (0 : Int32) ((p0b_0 0 1) - (1 : Int32))).2.1) ((f_X4_takeNumber p0k_1 p0kt_0 p0kt_1 (0 : Int32) ((p0b_0 0 1) - (1 : Int32))).2.2.1) ((f_X4_takeNumber p0k_1 p0kt_0 p0kt_1 (0 : Int32) ((p0b_0 0 1) - (1 : Int32))).2.2.2))
     else ((0 : Int32), p0k_0, p0k_1, p0k_2, p0b_0)
def f_X4_readGate (p0k_0 : Int32) (p0k_1 : Int32) (p0k_2 : Int32) (p0kt_0 : Fn) (p0kt_1 : Int32) (p0b_0 : Blk) : Int32 × Int32 × Int32 × Int32 × Blk := 
  if (p0b_0 0 0) = 0 then ((0 : Int32), p0k_0, p0k_1, p0k_2, p0b_0)
  else (f_X4_readGate_C24 p0kt_0 p0kt_1 p0b_0 (f_X4_takeNumber p0k_1 p0kt_0 p0kt_1 (0 : Int32) ((p0b_0 0 0) - (1 : Int32))).1 ((f_X4_takeNumber p0k_1 p0kt_0 p0kt_1 (0 : Int32) ((p0b_0 0 0) - (1 : Int32))).2.1) ((f_X4_takeNumber p0k_1 p0kt_0 p0kt_1 (0 : Int32) ((p0b_0 0 0) - (1 : Int32))).2.2.1) ((f_X4_takeNumber p0k_1 p0kt_0 p0kt_1 (0 : Int32) ((p0b_0 0 0) - (1 : Int32))).2.2.2))
def f_X4_readRegister_C81 (p0b_0 : Blk) (s0 : Int32) (p0k_0 : Int32) (p0k_1 : Int32) (p0k_2 : Int32) : Int32 × Int32 × Int32 × Int32 × Blk := (s0, p0k_0, p0k_1, p0k_2, p0b_0)
def f_X4_readRegister_C21 (p0kt_0 : Fn) (p0kt_1 : Int32) (p0b_0 : Blk) (x1 : Int32) (s0 : Int32) (p0k_0 : Int32) (p0k_1 : Int32) (p0k_2 : Int32) : Int32 × Int32 × Int32 × Int32 × Blk := 
    if s0 = 0 then ((0 : Int32), p0k_0, p0k_1, p0k_2, p0b_0)
    else (f_X4_readRegister_C81 (bw (bw (bw (bw p0b_0 1 x1.toNatClampNeg (f_X7_number p0k_0 p0k_1 p0k_2 p0kt_0)) 2 x1.toNatClampNeg (-9 : Int32)) 3 x1.toNatClampNeg (-9 : Int32)) 0 0 (((bw (bw (bw p0b_0 1 x1.toNatClampNeg (f_X7_number p0k_0 p0k_1 p0k_2 p0kt_0)) 2 x1.toNatClampNeg (-9 : Int32)) 3 x1.toNatClampNeg (-9 : Int32)) 0 0) + (1 : Int32))) (f_X4_takeSemicolon p0k_1 p0kt_0 p0kt_1).1 ((f_X4_takeSemicolon p0k_1 p0kt_0 p0kt_1).2.1) ((f_X4_takeSemicolon p0k_1 p0kt_0 p0kt_1).2.2.1) ((f_X4_takeSemicolon p0k_1 p0kt_0 p0kt_1).2.2.2))
def f_X4_readRegister (p0k_0 : Int32) (p0k_1 : Int32) (p0k_2 : Int32) (p0kt_0 : Fn) (p0kt_1 : Int32) (p0b_0 : Blk) : Int32 × Int32 × Int32 × Int32 × Blk := 
  if (6 : Int32) ≤ (p0b_0 0 0) then ((0 : Int32), p0k_0, p0k_1, p0k_2, p0b_0)
  else (f_X4_readRegister_C21 p0kt_0 p0kt_1 p0b_0 (p0b_0 0 0) (f_X4_takeNumber p0k_1 p0kt_0 p0kt_1 (0 : Int32) (15 : Int32)).1 ((f_X4_takeNumber p0k_1 p0kt_0 p0kt_1 (0 : Int32) (15 : Int32)).2.1) ((f_X4_takeNumber p0k_1 p0kt_0 p0kt_1 (0 : Int32) (15 : Int32)).2.2.1) ((f_X4_takeNumber p0k_1 p0kt_0 p0kt_1 (0 : Int32) (15 : Int32)).2.2.2))
def f_X4_readLock_C90 (p0b_0 : Blk) (s0 : Int32) (p0k_0 : Int32) (p0k_1 : Int32) (p0k_2 : Int32) : Int32 × Int32 × Int32 × Int32 × Blk := (s0, p0k_0, p0k_1, p0k_2, p0b_0)
def f_X4_readLock_C65 (p0kt_0 : Fn) (p0kt_1 : Int32) (p0b_0 : Blk) (x1 : Int32) (s0 : Int32) (p0k_0 : Int32) (p0k_1 : Int32) (p0k_2 : Int32) : Int32 × Int32 × Int32 × Int32 × Blk := 
    if s0 = 0 then ((0 : Int32), p0k_0, p0k_1, p0k_2, p0b_0)
    else (f_X4_readLock_C90 (bw p0b_0 2 x1.toNatClampNeg (f_X7_number p0k_0 p0k_1 p0k_2 p0kt_0)) (f_X4_takeSemicolon p0k_1 p0kt_0 p0kt_1).1 ((f_X4_takeSemicolon p0k_1 p0kt_0 p0kt_1).2.1) ((f_X4_takeSemicolon p0k_1 p0kt_0 p0kt_1).2.2.1) ((f_X4_takeSemicolon p0k_1 p0kt_0 p0kt_1).2.2.2))
def f_X4_readLock_C24 (p0kt_0 : Fn) (p0kt_1 : Int32) (p0b_0 : Blk) (s0 : Int32) (p0k_0 : Int32) (p0k_1 : Int32) (p0k_2 : Int32) : Int32 × Int32 × Int32 × Int32 × Blk := 
    if s0 = 0 then ((0 : Int32), p0k_0, p0k_1, p0k_2, p0b_0)
    else 
     if ((p0b_0 2) (f_X7_number p0k_0 p0k_1 p0k_2 p0kt_0).toNatClampNeg) = (-9 : Int32) then (f_X4_readLock_C65 p0kt_0 p0kt_1 p0b_0 (f_X7_number p0k_0 p0k_1 p0k_2 p0kt_0) (f_X4_takeNumber p0k_1 p0kt_0 p0kt_1 (0 : Int32) ((p0b_0 0 1) - (1 : Int32))).1 ((f_X4_takeNumber p0k_1 p0kt_0 p0kt_1 (0 : Int32) ((p0b_0 0 1) - (1 : Int32))).2.1) ((f_X4_takeNumber p0k_1 p0kt_0 p0kt_1 (0 : Int32) ((p0b_0 0 1) - (1 : Int32))).2.2.1) ((f_X4_takeNumber p0k_1 p0kt_0 p0kt_1 (0 : Int32) ((p0b_0 0 1) - (1 : Int32))).2.2.2))
     else ((0 : Int32), p0k_0, p0k_1, p0k_2, p0b_0)
def f_X4_readLock (p0k_0 : Int32) (p0k_1 : Int32) (p0k_2 : Int32) (p0kt_0 : Fn) (p0kt_1 : Int32) (p0b_0 : Blk) : Int32 × Int32 × Int32 × Int32 × Blk := 
  if (p0b_0 0 0) = 0 then ((0 : Int32), p0k_0, p0k_1, p0k_2, p0b_0)
  else (f_X4_readLock_C24 p0kt_0 p0kt_1 p0b_0 (f_X4_takeNumber p0k_1 p0kt_0 p0kt_1 (0 : Int32) ((p0b_0 0 0) - (1 : Int32))).1 ((f_X4_takeNumber p0k_1 p0kt_0 p0kt_1 (0 : Int32) ((p0b_0 0 0) - (1 : Int32))).2.1) ((f_X4_takeNumber p0k_1 p0kt_0 p0kt_1 (0 : Int32) ((p0b_0 0 0) - (1 : Int32))).2.2.1) ((f_X4_takeNumber p0k_1 p0kt_0 p0kt_1 (0 : Int32) ((p0b_0 0 0) - (1 : Int32))).2.2.2))
def f_X7_kind_L26 (p0_0 : Int32) (p0t_0 : Fn) : Nat → Int32 → Int32
  | 0, _ => 0
  | n + 1, x1 => 
    if (8 : Int32) ≤ x1 then (-9 : Int32)
    else 
     if (p0t_0 p0_0.toNatClampNeg) = (kl ((2 : Int32) * x1).toNatClampNeg) then 
      if (p0t_0 (p0_0 + (1 : Int32)).toNatClampNeg) = (kl (((2 : Int32) * x1) + (1 : Int32)).toNatClampNeg) then x1
      else ((f_X7_kind_L26 p0_0 p0t_0 n) (x1 + (1 : Int32)))
     else ((f_X7_kind_L26 p0_0 p0t_0 n) (x1 + (1 : Int32)))
def f_X7_kind (p0_0 : Int32) (p0_1 : Int32) (p0_2 : Int32) (p0t_0 : Fn) : Int32 := 
  if p0_2 = (1 : Int32) then 
   if (p0_1 - p0_0) = (2 : Int32) then (f_X7_kind_L26 p0_0 p0t_0 4000 (0 : Int32))
   else (-9 : Int32)
  else (-9 : Int32)
def f_X4_takeKind_C7 (p0kt_0 : Fn) (p0k_0 : Int32) (p0k_1 : Int32) (p0k_2 : Int32) : Int32 × Int32 × Int32 × Int32 := 
    if (f_X7_kind p0k_0 p0k_1 p0k_2 p0kt_0) = (-9 : Int32) then ((0 : Int32), p0k_0, p0k_1, p0k_2)
    else ((1 : Int32), p0k_0, p0k_1, p0k_2)
def f_X4_takeKind (p0k_1 : Int32) (p0kt_0 : Fn) (p0kt_1 : Int32) : Int32 × Int32 × Int32 × Int32 := (f_X4_takeKind_C7 p0kt_0 ((f_X7_advance p0k_1 p0kt_0 p0kt_1).1) ((f_X7_advance p0k_1 p0kt_0 p0kt_1).2.1) ((f_X7_advance p0k_1 p0kt_0 p0kt_1).2.2))
def f_X4_readField_C223 (p0b_0 : Blk) (s0 : Int32) (p0k_0 : Int32) (p0k_1 : Int32) (p0k_2 : Int32) : Int32 × Int32 × Int32 × Int32 × Blk := (s0, p0k_0, p0k_1, p0k_2, p0b_0)
def f_X4_readField_C152 (p0kt_0 : Fn) (p0kt_1 : Int32) (p0b_0 : Blk) (x1 : Int32) (x4 : Int32) (x5 : Int32) (x6 : Int32) (s0 : Int32) (p0k_0 : Int32) (p0k_1 : Int32) (p0k_2 : Int32) : Int32 × Int32 × Int32 × Int32 × Blk := 
    if s0 = 0 then ((0 : Int32), p0k_0, p0k_1, p0k_2, p0b_0)
    else (f_X4_readField_C223 (bw (bw (bw (bw (bw p0b_0 6 x1.toNatClampNeg x4) 7 x1.toNatClampNeg x5) 8 x1.toNatClampNeg x6) 9 x1.toNatClampNeg (f_X7_number p0k_0 p0k_1 p0k_2 p0kt_0)) 0 1 (((bw (bw (bw (bw p0b_0 6 x1.toNatClampNeg x4) 7 x1.toNatClampNeg x5) 8 x1.toNatClampNeg x6) 9 x1.toNatClampNeg (f_X7_number p0k_0 p0k_1 p0k_2 p0kt_0)) 0 1) + (1 : Int32))) (f_X4_takeSemicolon p0k_1 p0kt_0 p0kt_1).1 ((f_X4_takeSemicolon p0k_1 p0kt_0 p0kt_1).2.1) ((f_X4_takeSemicolon p0k_1 p0kt_0 p0kt_1).2.2.1) ((f_X4_takeSemicolon p0k_1 p0kt_0 p0kt_1).2.2.2))
def f_X4_readField_C110 (p0kt_0 : Fn) (p0kt_1 : Int32) (p0b_0 : Blk) (x1 : Int32) (x3 : Int32) (x4 : Int32) (s0 : Int32) (p0k_0 : Int32) (p0k_1 : Int32) (p0k_2 : Int32) : Int32 × Int32 × Int32 × Int32 × Blk := 
    if s0 = 0 then ((0 : Int32), p0k_0, p0k_1, p0k_2, p0b_0)
    else 
     if (x3 &&& (((2 : Int32) <<< ((f_X7_number p0k_0 p0k_1 p0k_2 p0kt_0) &&& 31)) - ((1 : Int32) <<< (x4 &&& 31)))) = 0 then (f_X4_readField_C152 p0kt_0 p0kt_1 p0b_0 x1 x4 (f_X7_number p0k_0 p0k_1 p0k_2 p0kt_0) (((2 : Int32) <<< ((f_X7_number p0k_0 p0k_1 p0k_2 p0kt_0) &&& 31)) - ((1 : Int32) <<< (x4 &&& 31))) (f_X4_takeNumber p0k_1 p0kt_0 p0kt_1 (0 : Int32) ((((2 : Int32) <<< ((f_X7_number p0k_0 p0k_1 p0k_2 p0kt_0) &&& 31)) - ((1 : Int32) <<< (x4 &&& 31))) >>> (x4 &&& 31))).1 ((f_X4_takeNumber p0k_1 p0kt_0 p0kt_1 (0 : Int32) ((((2 : Int32) <<< ((f_X7_number p0k_0 p0k_1 p0k_2 p0kt_0) &&& 31)) - ((1 : Int32) <<< (x4 &&& 31))) >>> (x4 &&& 31))).2.1) ((f_X4_takeNumber p0k_1 p0kt_0 p0kt_1 (0 : Int32) ((((2 : Int32) <<< ((f_X7_number p0k_0 p0k_1 p0k_2 p0kt_0) &&& 31)) - ((1 : Int32) <<< (x4 &&& 31))) >>> (x4 &&& 31))).2.2.1) ((f_X4_takeNumber p0k_1 p0kt_0 p0kt_1 (0 : Int32) ((((2 : Int32) <<< ((f_X7_number p0k_0 p0k_1 p0k_2 p0kt_0) &&& 31)) - ((1 : Int32) <<< (x4 &&& 31))) >>> (x4 &&& 31))).2.2.2))
     else ((0 : Int32), p0k_0, p0k_1, p0k_2, p0b_0)
def f_X4_readField_C79 (p0kt_0 : Fn) (p0kt_1 : Int32) (p0b_0 : Blk) (x1 : Int32) (x3 : Int32) (s0 : Int32) (p0k_0 : Int32) (p0k_1 : Int32) (p0k_2 : Int32) : Int32 × Int32 × Int32 × Int32 × Blk := 
    if s0 = 0 then ((0 : Int32), p0k_0, p0k_1, p0k_2, p0b_0)
    else 
     if ((x3 >>> ((f_X7_number p0k_0 p0k_1 p0k_2 p0kt_0) &&& 31)) &&& (1 : Int32)) = 0 then (f_X4_readField_C110 p0kt_0 p0kt_1 p0b_0 x1 x3 (f_X7_number p0k_0 p0k_1 p0k_2 p0kt_0) (f_X4_takeNumber p0k_1 p0kt_0 p0kt_1 (f_X7_number p0k_0 p0k_1 p0k_2 p0kt_0) (7 : Int32)).1 ((f_X4_takeNumber p0k_1 p0kt_0 p0kt_1 (f_X7_number p0k_0 p0k_1 p0k_2 p0kt_0) (7 : Int32)).2.1) ((f_X4_takeNumber p0k_1 p0kt_0 p0kt_1 (f_X7_number p0k_0 p0k_1 p0k_2 p0kt_0) (7 : Int32)).2.2.1) ((f_X4_takeNumber p0k_1 p0kt_0 p0kt_1 (f_X7_number p0k_0 p0k_1 p0k_2 p0kt_0) (7 : Int32)).2.2.2))
     else ((0 : Int32), p0k_0, p0k_1, p0k_2, p0b_0)
def f_X4_readField_C32 (p0kt_0 : Fn) (p0kt_1 : Int32) (p0b_0 : Blk) (x1 : Int32) (x2 : Int32) (s0 : Int32) (p0k_0 : Int32) (p0k_1 : Int32) (p0k_2 : Int32) : Int32 × Int32 × Int32 × Int32 × Blk := 
    if s0 = 0 then ((0 : Int32), p0k_0, p0k_1, p0k_2, p0b_0)
    else (f_X4_readField_C79 p0kt_0 p0kt_1 (bw (bw p0b_0 4 x1.toNatClampNeg x2) 5 x1.toNatClampNeg (f_X7_kind p0k_0 p0k_1 p0k_2 p0kt_0)) x1 (f_X0_usedBits (bw (bw p0b_0 4 x1.toNatClampNeg x2) 5 x1.toNatClampNeg (f_X7_kind p0k_0 p0k_1 p0k_2 p0kt_0)) x2) (f_X4_takeNumber p0k_1 p0kt_0 p0kt_1 (0 : Int32) (7 : Int32)).1 ((f_X4_takeNumber p0k_1 p0kt_0 p0kt_1 (0 : Int32) (7 : Int32)).2.1) ((f_X4_takeNumber p0k_1 p0kt_0 p0kt_1 (0 : Int32) (7 : Int32)).2.2.1) ((f_X4_takeNumber p0k_1 p0kt_0 p0kt_1 (0 : Int32) (7 : Int32)).2.2.2))
def f_X4_readField (p0k_0 : Int32) (p0k_1 : Int32) (p0k_2 : Int32) (p0kt_0 : Fn) (p0kt_1 : Int32) (p0b_0 : Blk) : Int32 × Int32 × Int32 × Int32 × Blk := 
  if (12 : Int32) ≤ (p0b_0 0 1) then ((0 : Int32), p0k_0, p0k_1, p0k_2, p0b_0)
  else 
   if ((p0b_0 0 0) - (1 : Int32)) < 0 then ((0 : Int32), p0k_0, p0k_1, p0k_2, p0b_0)
   else (f_X4_readField_C32 p0kt_0 p0kt_1 p0b_0 (p0b_0 0 1) ((p0b_0 0 0) - (1 : Int32)) (f_X4_takeKind p0k_1 p0kt_0 p0kt_1).1 ((f_X4_takeKind p0k_1 p0kt_0 p0kt_1).2.1) ((f_X4_takeKind p0k_1 p0kt_0 p0kt_1).2.2.1) ((f_X4_takeKind p0k_1 p0kt_0 p0kt_1).2.2.2))
def f_X4_suitsAlias (x0 : Int32) : Int32 := 
  if x0 = 0 then (1 : Int32)
  else 
   if x0 = (1 : Int32) then (1 : Int32)
   else 
    if x0 = (3 : Int32) then (1 : Int32)
    else 
     if x0 = (4 : Int32) then (1 : Int32)
     else 
      if x0 = (5 : Int32) then (1 : Int32)
      else (0 : Int32)
def f_X4_readAlias_C131 (p0b_0 : Blk) (s0 : Int32) (p0k_0 : Int32) (p0k_1 : Int32) (p0k_2 : Int32) : Int32 × Int32 × Int32 × Int32 × Blk := (s0, p0k_0, p0k_1, p0k_2, p0b_0)
def f_X4_readAlias_C80 (p0kt_0 : Fn) (p0kt_1 : Int32) (p0b_0 : Blk) (x1 : Int32) (s0 : Int32) (p0k_0 : Int32) (p0k_1 : Int32) (p0k_2 : Int32) : Int32 × Int32 × Int32 × Int32 × Blk := 
    if s0 = 0 then ((0 : Int32), p0k_0, p0k_1, p0k_2, p0b_0)
    else 
     if (f_X4_suitsAlias (f_X7_kind p0k_0 p0k_1 p0k_2 p0kt_0)) = 0 then ((0 : Int32), p0k_0, p0k_1, p0k_2, p0b_0)
     else (f_X4_readAlias_C131 (bw (bw p0b_0 12 x1.toNatClampNeg (f_X7_kind p0k_0 p0k_1 p0k_2 p0kt_0)) 0 2 (((bw p0b_0 12 x1.toNatClampNeg (f_X7_kind p0k_0 p0k_1 p0k_2 p0kt_0)) 0 2) + (1 : Int32))) (f_X4_takeSemicolon p0k_1 p0kt_0 p0kt_1).1 ((f_X4_takeSemicolon p0k_1 p0kt_0 p0kt_1).2.1) ((f_X4_takeSemicolon p0k_1 p0kt_0 p0kt_1).2.2.1) ((f_X4_takeSemicolon p0k_1 p0kt_0 p0kt_1).2.2.2))
def f_X4_readAlias_C55 (p0kt_0 : Fn) (p0kt_1 : Int32) (p0b_0 : Blk) (x1 : Int32) (s0 : Int32) (p0k_0 : Int32) (p0k_1 : Int32) (p0k_2 : Int32) : Int32 × Int32 × Int32 × Int32 × Blk := 
    if s0 = 0 then ((0 : Int32), p0k_0, p0k_1, p0k_2, p0b_0)
    else (f_X4_readAlias_C80 p0kt_0 p0kt_1 (bw p0b_0 11 x1.toNatClampNeg (f_X7_number p0k_0 p0k_1 p0k_2 p0kt_0)) x1 (f_X4_takeKind p0k_1 p0kt_0 p0kt_1).1 ((f_X4_takeKind p0k_1 p0kt_0 p0kt_1).2.1) ((f_X4_takeKind p0k_1 p0kt_0 p0kt_1).2.2.1) ((f_X4_takeKind p0k_1 p0kt_0 p0kt_1).2.2.2))
def f_X4_readAlias_C20 (p0kt_0 : Fn) (p0kt_1 : Int32) (p0b_0 : Blk) (x1 : Int32) (s0 : Int32) (p0k_0 : Int32) (p0k_1 : Int32) (p0k_2 : Int32) : Int32 × Int32 × Int32 × Int32 × Blk := 
    if s0 = 0 then ((0 : Int32), p0k_0, p0k_1, p0k_2, p0b_0)
    else (f_X4_readAlias_C55 p0kt_0 p0kt_1 (bw p0b_0 10 x1.toNatClampNeg (f_X7_number p0k_0 p0k_1 p0k_2 p0kt_0)) x1 (f_X4_takeNumber p0k_1 p0kt_0 p0kt_1 (0 : Int32) (((bw p0b_0 10 x1.toNatClampNeg (f_X7_number p0k_0 p0k_1 p0k_2 p0kt_0)) 0 0) - (1 : Int32))).1 ((f_X4_takeNumber p0k_1 p0kt_0 p0kt_1 (0 : Int32) (((bw p0b_0 10 x1.toNatClampNeg (f_X7_number p0k_0 p0k_1 p0k_2 p0kt_0)) 0 0) - (1 : Int32))).2.1) ((f_X4_takeNumber p0k_1 p0kt_0 p0kt_1 (0 : Int32) (((bw p0b_0 10 x1.toNatClampNeg (f_X7_number p0k_0 p0k_1 p0k_2 p0kt_0)) 0 0) - (1 : Int32))).2.2.1) ((f_X4_takeNumber p0k_1 p0kt_0 p0kt_1 (0 : Int32) (((bw p0b_0 10 x1.toNatClampNeg (f_X7_number p0k_0 p0k_1 p0k_2 p0kt_0)) 0 0) - (1 : Int32))).2.2.2))
def f_X4_readAlias (p0k_0 : Int32) (p0k_1 : Int32) (p0k_2 : Int32) (p0kt_0 : Fn) (p0kt_1 : Int32) (p0b_0 : Blk) : Int32 × Int32 × Int32 × Int32 × Blk := 
  if (4 : Int32) ≤ (p0b_0 0 2) then ((0 : Int32), p0k_0, p0k_1, p0k_2, p0b_0)
  else (f_X4_readAlias_C20 p0kt_0 p0kt_1 p0b_0 (p0b_0 0 2) (f_X4_takeNumber p0k_1 p0kt_0 p0kt_1 (0 : Int32) (15 : Int32)).1 ((f_X4_takeNumber p0k_1 p0kt_0 p0kt_1 (0 : Int32) (15 : Int32)).2.1) ((f_X4_takeNumber p0k_1 p0kt_0 p0kt_1 (0 : Int32) (15 : Int32)).2.2.1) ((f_X4_takeNumber p0k_1 p0kt_0 p0kt_1 (0 : Int32) (15 : Int32)).2.2.2))
def f_X4_readItem_C60 (s0 : Int32) (p0k_0 : Int32) (p0k_1 : Int32) (p0k_2 : Int32) (p0b_0 : Blk) : Int32 × Int32 × Int32 × Int32 × Blk := (s0, p0k_0, p0k_1, p0k_2, p0b_0)
def f_X4_readItem_C65 (s0 : Int32) (p0k_0 : Int32) (p0k_1 : Int32) (p0k_2 : Int32) (p0b_0 : Blk) : Int32 × Int32 × Int32 × Int32 × Blk := (s0, p0k_0, p0k_1, p0k_2, p0b_0)
def f_X4_readItem_C70 (s0 : Int32) (p0k_0 : Int32) (p0k_1 : Int32) (p0k_2 : Int32) (p0b_0 : Blk) : Int32 × Int32 × Int32 × Int32 × Blk := (s0, p0k_0, p0k_1, p0k_2, p0b_0)
def f_X4_readItem_C75 (s0 : Int32) (p0k_0 : Int32) (p0k_1 : Int32) (p0k_2 : Int32) (p0b_0 : Blk) : Int32 × Int32 × Int32 × Int32 × Blk := (s0, p0k_0, p0k_1, p0k_2, p0b_0)
def f_X4_readItem_C80 (s0 : Int32) (p0k_0 : Int32) (p0k_1 : Int32) (p0k_2 : Int32) (p0b_0 : Blk) : Int32 × Int32 × Int32 × Int32 × Blk := (s0, p0k_0, p0k_1, p0k_2, p0b_0)
def f_X4_readItem (p0k_0 : Int32) (p0k_1 : Int32) (p0k_2 : Int32) (p0kt_0 : Fn) (p0kt_1 : Int32) (p0b_0 : Blk) : Int32 × Int32 × Int32 × Int32 × Blk := 
  if (f_X7_letter p0k_0 p0k_1 p0k_2 p0kt_0) = (97 : Int32) then (f_X4_readItem_C70 (f_X4_readAlias p0k_0 p0k_1 p0k_2 p0kt_0 p0kt_1 p0b_0).1 ((f_X4_readAlias p0k_0 p0k_1 p0k_2 p0kt_0 p0kt_1 p0b_0).2.1) ((f_X4_readAlias p0k_0 p0k_1 p0k_2 p0kt_0 p0kt_1 p0b_0).2.2.1) ((f_X4_readAlias p0k_0 p0k_1 p0k_2 p0kt_0 p0kt_1 p0b_0).2.2.2.1) ((f_X4_readAlias p0k_0 p0k_1 p0k_2 p0kt_0 p0kt_1 p0b_0).2.2.2.2))
  else 
   if (f_X7_letter p0k_0 p0k_1 p0k_2 p0kt_0) = (102 : Int32) then (f_X4_readItem_C65 (f_X4_readField p0k_0 p0k_1 p0k_2 p0kt_0 p0kt_1 p0b_0).1 ((f_X4_readField p0k_0 p0k_1 p0k_2 p0kt_0 p0kt_1 p0b_0).2.1) ((f_X4_readField p0k_0 p0k_1 p0k_2 p0kt_0 p0kt_1 p0b_0).2.2.1) ((f_X4_readField p0k_0 p0k_1 p0k_2 p0kt_0 p0kt_1 p0b_0).2.2.2.1) ((f_X4_readField p0k_0 p0k_1 p0k_2 p0kt_0 p0kt_1 p0b_0).2.2.2.2))
   else 
    if (f_X7_letter p0k_0 p0k_1 p0k_2 p0kt_0) = (107 : Int32) then (f_X4_readItem_C75 (f_X4_readLock p0k_0 p0k_1 p0k_2 p0kt_0 p0kt_1 p0b_0).1 ((f_X4_readLock p0k_0 p0k_1 p0k_2 p0kt_0 p0kt_1 p0b_0).2.1) ((f_X4_readLock p0k_0 p0k_1 p0k_2 p0kt_0 p0kt_1 p0b_0).2.2.1) ((f_X4_readLock p0k_0 p0k_1 p0k_2 p0kt_0 p0kt_1 p0b_0).2.2.2.1) ((f_X4_readLock p0k_0 p0k_1 p0k_2 p0kt_0 p0kt_1 p0b_0).2.2.2.2))
    else 
     if (f_X7_letter p0k_0 p0k_1 p0k_2 p0kt_0) = (114 : Int32) then (f_X4_readItem_C60 (f_X4_readRegister p0k_0 p0k_1 p0k_2 p0kt_0 p0kt_1 p0b_0).1 ((f_X4_readRegister p0k_0 p0k_1 p0k_2 p0kt_0 p0kt_1 p0b_0).2.1) ((f_X4_readRegister p0k_0 p0k_1 p0k_2 p0kt_0 p0kt_1 p0b_0).2.2.1) ((f_X4_readRegister p0k_0 p0k_1 p0k_2 p0kt_0 p0kt_1 p0b_0).2.2.2.1) ((f_X4_readRegister p0k_0 p0k_1 p0k_2 p0kt_0 p0kt_1 p0b_0).2.2.2.2))
     else 
      if (f_X7_letter p0k_0 p0k_1 p0k_2 p0kt_0) = (115 : Int32) then (f_X4_readItem_C80 (f_X4_readGate p0k_0 p0k_1 p0k_2 p0kt_0 p0kt_1 p0b_0).1 ((f_X4_readGate p0k_0 p0k_1 p0k_2 p0kt_0 p0kt_1 p0b_0).2.1) ((f_X4_readGate p0k_0 p0k_1 p0k_2 p0kt_0 p0kt_1 p0b_0).2.2.1) ((f_X4_readGate p0k_0 p0k_1 p0k_2 p0kt_0 p0kt_1 p0b_0).2.2.2.1) ((f_X4_readGate p0k_0 p0k_1 p0k_2 p0kt_0 p0kt_1 p0b_0).2.2.2.2))
      else ((0 : Int32), p0k_0, p0k_1, p0k_2, p0b_0)
def f_X4_parse_C47 (x1 : Int32) (k16 : Int32 → Int32 → Int32 → Int32 → Blk → (Int32 × Int32 × Int32 × Int32 × Blk)) (s0 : Int32) (p0k_0 : Int32) (p0k_1 : Int32) (p0k_2 : Int32) (p0b_0 : Blk) : Int32 × Int32 × Int32 × Int32 × Blk := 
    if s0 = 0 then (((-10 : Int32) - p0k_0), p0k_0, p0k_1, p0k_2, p0b_0)
    else (k16 (x1 + (1 : Int32)) p0k_0 p0k_1 p0k_2 p0b_0)
def f_X4_parse_C30 (p0kt_0 : Fn) (p0kt_1 : Int32) (p0b_0 : Blk) (x1 : Int32) (k16 : Int32 → Int32 → Int32 → Int32 → Blk → (Int32 × Int32 × Int32 × Int32 × Blk)) (p0k_0 : Int32) (p0k_1 : Int32) (p0k_2 : Int32) : Int32 × Int32 × Int32 × Int32 × Blk := 
    if p0k_2 = (4 : Int32) then (x1, p0k_0, p0k_1, p0k_2, p0b_0)
    else (f_X4_parse_C47 x1 k16 (f_X4_readItem p0k_0 p0k_1 p0k_2 p0kt_0 p0kt_1 p0b_0).1 ((f_X4_readItem p0k_0 p0k_1 p0k_2 p0kt_0 p0kt_1 p0b_0).2.1) ((f_X4_readItem p0k_0 p0k_1 p0k_2 p0kt_0 p0kt_1 p0b_0).2.2.1) ((f_X4_readItem p0k_0 p0k_1 p0k_2 p0kt_0 p0kt_1 p0b_0).2.2.2.1) ((f_X4_readItem p0k_0 p0k_1 p0k_2 p0kt_0 p0kt_1 p0b_0).2.2.2.2))
def f_X4_parse_L16 (p0kt_0 : Fn) (p0kt_1 : Int32) : Nat → Int32 → Int32 → Int32 → Int32 → Blk → Int32 × Int32 × Int32 × Int32 × Blk
  | 0, _, p0k_0, p0k_1, p0k_2, p0b_0 => (0, p0k_0, p0k_1, p0k_2, p0b_0)
  | n + 1, x1, p0k_0, p0k_1, p0k_2, p0b_0 => 
    if (160 : Int32) < x1 then (((-10 : Int32) - p0k_0), p0k_0, p0k_1, p0k_2, p0b_0)
    else (f_X4_parse_C30 p0kt_0 p0kt_1 p0b_0 x1 (f_X4_parse_L16 p0kt_0 p0kt_1 n) ((f_X7_advance p0k_1 p0kt_0 p0kt_1).1) ((f_X7_advance p0k_1 p0kt_0 p0kt_1).2.1) ((f_X7_advance p0k_1 p0kt_0 p0kt_1).2.2))
def f_X4_parse (p0k_0 : Int32) (p0k_2 : Int32) (p0kt_0 : Fn) (p0kt_1 : Int32) (p0b_0 : Blk) : Int32 × Int32 × Int32 × Int32 × Blk := (f_X4_parse_L16 p0kt_0 p0kt_1 4000 (0 : Int32) p0k_0 f_X7_rewind p0k_2 (f_X0_empty p0b_0))
def f_X5_copyFrom_C33 (p0d_0 : Fn) (p0d_1 : Fn) (p0d_2 : Fn) (p0d_3 : Fn) (p0m_0 : Fn) (p0m_1 : Fn) (p0m_2 : Fn) (p0m_3 : Fn) (p1_0 : Int32) (p1_1 : Int32) (p0j_0 : Int32) (p0j_1 : Fn) (p0j_2 : Fn) (p0j_3 : Fn) : Int32 × Int32 × Fn × Fn × Fn × Fn × Fn × Fn × Fn × Fn × Int32 × Fn × Fn × Fn := (p1_0, p1_1, p0d_0, p0d_1, p0d_2, p0d_3, p0m_0, p0m_1, p0m_2, p0m_3, p0j_0, p0j_1, p0j_2, p0j_3)
def f_X5_copyFrom_C22 (p0d_0 : Fn) (p0d_1 : Fn) (p0d_2 : Fn) (p0d_3 : Fn) (p0j_1 : Fn) (p0j_2 : Fn) (p0j_3 : Fn) (p1_0 : Int32) (p1_1 : Int32) (p1j_0 : Int32) (p1j_1 : Fn) (p1j_2 : Fn) (p1j_3 : Fn) (p0m_0 : Fn) (p0m_1 : Fn) (p0m_2 : Fn) (p0m_3 : Fn) : Int32 × Int32 × Fn × Fn × Fn × Fn × Fn × Fn × Fn × Fn × Int32 × Fn × Fn × Fn := (f_X5_copyFrom_C33 p0d_0 p0d_1 p0d_2 p0d_3 p0m_0 p0m_1 p0m_2 p0m_3 p1_0 p1_1 ((f_X3_copyFrom p0j_1 p0j_2 p0j_3 p1j_0 p1j_1 p1j_2 p1j_3).1) ((f_X3_copyFrom p0j_1 p0j_2 p0j_3 p1j_0 p1j_1 p1j_2 p1j_3).2.1) ((f_X3_copyFrom p0j_1 p0j_2 p0j_3 p1j_0 p1j_1 p1j_2 p1j_3).2.2.1) ((f_X3_copyFrom p0j_1 p0j_2 p0j_3 p1j_0 p1j_1 p1j_2 p1j_3).2.2.2))
def f_X5_copyFrom_C11 (p0m_0 : Fn) (p0m_1 : Fn) (p0m_2 : Fn) (p0m_3 : Fn) (p0j_1 : Fn) (p0j_2 : Fn) (p0j_3 : Fn) (p1_0 : Int32) (p1_1 : Int32) (p1m_0 : Fn) (p1m_1 : Fn) (p1m_2 : Fn) (p1m_3 : Fn) (p1j_0 : Int32) (p1j_1 : Fn) (p1j_2 : Fn) (p1j_3 : Fn) (p0d_0 : Fn) (p0d_1 : Fn) (p0d_2 : Fn) (p0d_3 : Fn) : Int32 × Int32 × Fn × Fn × Fn × Fn × Fn × Fn × Fn × Fn × Int32 × Fn × Fn × Fn := (f_X5_copyFrom_C22 p0d_0 p0d_1 p0d_2 p0d_3 p0j_1 p0j_2 p0j_3 p1_0 p1_1 p1j_0 p1j_1 p1j_2 p1j_3 ((f_X1_copyFrom p0m_0 p0m_1 p0m_2 p0m_3 p1m_0 p1m_1 p1m_2 p1m_3).1) ((f_X1_copyFrom p0m_0 p0m_1 p0m_2 p0m_3 p1m_0 p1m_1 p1m_2 p1m_3).2.1) ((f_X1_copyFrom p0m_0 p0m_1 p0m_2 p0m_3 p1m_0 p1m_1 p1m_2 p1m_3).2.2.1) ((f_X1_copyFrom p0m_0 p0m_1 p0m_2 p0m_3 p1m_0 p1m_1 p1m_2 p1m_3).2.2.2))
def f_X5_copyFrom (p0d_0 : Fn) (p0d_1 : Fn) (p0d_2 : Fn) (p0d_3 : Fn) (p0m_0 : Fn) (p0m_1 : Fn) (p0m_2 : Fn) (p0m_3 : Fn) (p0j_1 : Fn) (p0j_2 : Fn) (p0j_3 : Fn) (p1_0 : Int32) (p1_1 : Int32) (p1d_0 : Fn) (p1d_1 : Fn) (p1d_2 : Fn) (p1d_3 : Fn) (p1m_0 : Fn) (p1m_1 : Fn) (p1m_2 : Fn) (p1m_3 : Fn) (p1j_0 : Int32) (p1j_1 : Fn) (p1j_2 : Fn) (p1j_3 : Fn) : Int32 × Int32 × Fn × Fn × Fn × Fn × Fn × Fn × Fn × Fn × Int32 × Fn × Fn × Fn := (f_X5_copyFrom_C11 p0m_0 p0m_1 p0m_2 p0m_3 p0j_1 p0j_2 p0j_3 p1_0 p1_1 p1m_0 p1m_1 p1m_2 p1m_3 p1j_0 p1j_1 p1j_2 p1j_3 ((f_X1_copyFrom p0d_0 p0d_1 p0d_2 p0d_3 p1d_0 p1d_1 p1d_2 p1d_3).1) ((f_X1_copyFrom p0d_0 p0d_1 p0d_2 p0d_3 p1d_0 p1d_1 p1d_2 p1d_3).2.1) ((f_X1_copyFrom p0d_0 p0d_1 p0d_2 p0d_3 p1d_0 p1d_1 p1d_2 p1d_3).2.2.1) ((f_X1_copyFrom p0d_0 p0d_1 p0d_2 p0d_3 p1d_0 p1d_1 p1d_2 p1d_3).2.2.2))
def f_X5_startWith_C21 (p0d_3 : Fn) (p0m_3 : Fn) (p0_0 : Int32) (p0_1 : Int32) (p0d_0 : Fn) (p0d_1 : Fn) (p0d_2 : Fn) (p0m_0 : Fn) (p0m_1 : Fn) (p0m_2 : Fn) (p0j_0 : Int32) : Int32 × Int32 × Fn × Fn × Fn × Fn × Fn × Fn × Fn × Fn × Int32 := (p0_0, p0_1, p0d_0, p0d_1, p0d_2, p0d_3, p0m_0, p0m_1, p0m_2, p0m_3, p0j_0)
def f_X5_startWith (p0d_0 : Fn) (p0d_1 : Fn) (p0d_2 : Fn) (p0d_3 : Fn) (p0m_0 : Fn) (p0m_1 : Fn) (p0m_2 : Fn) (p0m_3 : Fn) (p1_0 : Blk) : Int32 × Int32 × Fn × Fn × Fn × Fn × Fn × Fn × Fn × Fn × Int32 := (f_X5_startWith_C21 (f_X1_mend p0d_3 p1_0) (f_X1_mend p0m_3 p1_0) ((f_X5_restart p0d_0 p0d_1 p0d_2 p0m_0 p0m_1 p0m_2 p1_0).1) ((f_X5_restart p0d_0 p0d_1 p0d_2 p0m_0 p0m_1 p0m_2 p1_0).2.1) ((f_X5_restart p0d_0 p0d_1 p0d_2 p0m_0 p0m_1 p0m_2 p1_0).2.2.1) ((f_X5_restart p0d_0 p0d_1 p0d_2 p0m_0 p0m_1 p0m_2 p1_0).2.2.2.1) ((f_X5_restart p0d_0 p0d_1 p0d_2 p0m_0 p0m_1 p0m_2 p1_0).2.2.2.2.1) ((f_X5_restart p0d_0 p0d_1 p0d_2 p0m_0 p0m_1 p0m_2 p1_0).2.2.2.2.2.1) ((f_X5_restart p0d_0 p0d_1 p0d_2 p0m_0 p0m_1 p0m_2 p1_0).2.2.2.2.2.2.1) ((f_X5_restart p0d_0 p0d_1 p0d_2 p0m_0 p0m_1 p0m_2 p1_0).2.2.2.2.2.2.2.1) ((f_X5_restart p0d_0 p0d_1 p0d_2 p0m_0 p0m_1 p0m_2 p1_0).2.2.2.2.2.2.2.2))
def f_X2_rememberV_C13 (p0_1 : Int32) (p0_2 : Int32) (p0e_0 : Int32) (p0e_1 : Int32) (p0ed_0 : Fn) (p0ed_1 : Fn) (p0ed_2 : Fn) (p0ed_3 : Fn) (p0em_0 : Fn) (p0em_1 : Fn) (p0em_2 : Fn) (p0em_3 : Fn) (p0ej_0 : Int32) (p0ej_1 : Fn) (p0ej_2 : Fn) (p0ej_3 : Fn) : Int32 × Int32 × Int32 × Int32 × Fn × Fn × Fn × Fn × Fn × Fn × Fn × Fn × Int32 × Fn × Fn × Fn := (((p0_1 + (1 : Int32)) - (p0_1 + (1 : Int32)) / (6 : Int32) * (6 : Int32)), (if (6 : Int32) < (p0_2 + (1 : Int32)) then (6 : Int32) else (p0_2 + (1 : Int32))), p0e_0, p0e_1, p0ed_0, p0ed_1, p0ed_2, p0ed_3, p0em_0, p0em_1, p0em_2, p0em_3, p0ej_0, p0ej_1, p0ej_2, p0ej_3)
def f_X2_rememberV (p0_1 : Int32) (p0_2 : Int32) (p0ed_0 : Fn) (p0ed_1 : Fn) (p0ed_2 : Fn) (p0ed_3 : Fn) (p0em_0 : Fn) (p0em_1 : Fn) (p0em_2 : Fn) (p0em_3 : Fn) (p0ej_1 : Fn) (p0ej_2 : Fn) (p0ej_3 : Fn) (p1_0 : Int32) (p1_1 : Int32) (p1d_0 : Fn) (p1d_1 : Fn) (p1d_2 : Fn) (p1d_3 : Fn) (p1m_0 : Fn) (p1m_1 : Fn) (p1m_2 : Fn) (p1m_3 : Fn) (p1j_0 : Int32) (p1j_1 : Fn) (p1j_2 : Fn) (p1j_3 : Fn) : Int32 × Int32 × Int32 × Int32 × Fn × Fn × Fn × Fn × Fn × Fn × Fn × Fn × Int32 × Fn × Fn × Fn := (f_X2_rememberV_C13 p0_1 p0_2 ((f_X5_copyFrom p0ed_0 p0ed_1 p0ed_2 p0ed_3 p0em_0 p0em_1 p0em_2 p0em_3 p0ej_1 p0ej_2 p0ej_3 p1_0 p1_1 p1d_0 p1d_1 p1d_2 p1d_3 p1m_0 p1m_1 p1m_2 p1m_3 p1j_0 p1j_1 p1j_2 p1j_3).1) ((f_X5_copyFrom p0ed_0 p0ed_1 p0ed_2 p0ed_3 p0em_0 p0em_1 p0em_2 p0em_3 p0ej_1 p0ej_2 p0ej_3 p1_0 p1_1 p1d_0 p1d_1 p1d_2 p1d_3 p1m_0 p1m_1 p1m_2 p1m_3 p1j_0 p1j_1 p1j_2 p1j_3).2.1) ((f_X5_copyFrom p0ed_0 p0ed_1 p0ed_2 p0ed_3 p0em_0 p0em_1 p0em_2 p0em_3 p0ej_1 p0ej_2 p0ej_3 p1_0 p1_1 p1d_0 p1d_1 p1d_2 p1d_3 p1m_0 p1m_1 p1m_2 p1m_3 p1j_0 p1j_1 p1j_2 p1j_3).2.2.1) ((f_X5_copyFrom p0ed_0 p0ed_1 p0ed_2 p0ed_3 p0em_0 p0em_1 p0em_2 p0em_3 p0ej_1 p0ej_2 p0ej_3 p1_0 p1_1 p1d_0 p1d_1 p1d_2 p1d_3 p1m_0 p1m_1 p1m_2 p1m_3 p1j_0 p1j_1 p1j_2 p1j_3).2.2.2.1) ((f_X5_copyFrom p0ed_0 p0ed_1 p0ed_2 p0ed_3 p0em_0 p0em_1 p0em_2 p0em_3 p0ej_1 p0ej_2 p0ej_3 p1_0 p1_1 p1d_0 p1d_1 p1d_2 p1d_3 p1m_0 p1m_1 p1m_2 p1m_3 p1j_0 p1j_1 p1j_2 p1j_3).2.2.2.2.1) ((f_X5_copyFrom p0ed_0 p0ed_1 p0ed_2 p0ed_3 p0em_0 p0em_1 p0em_2 p0em_3 p0ej_1 p0ej_2 p0ej_3 p1_0 p1_1 p1d_0 p1d_1 p1d_2 p1d_3 p1m_0 p1m_1 p1m_2 p1m_3 p1j_0 p1j_1 p1j_2 p1j_3).2.2.2.2.2.1) ((f_X5_copyFrom p0ed_0 p0ed_1 p0ed_2 p0ed_3 p0em_0 p0em_1 p0em_2 p0em_3 p0ej_1 p0ej_2 p0ej_3 p1_0 p1_1 p1d_0 p1d_1 p1d_2 p1d_3 p1m_0 p1m_1 p1m_2 p1m_3 p1j_0 p1j_1 p1j_2 p1j_3).2.2.2.2.2.2.1) ((f_X5_copyFrom p0ed_0 p0ed_1 p0ed_2 p0ed_3 p0em_0 p0em_1 p0em_2 p0em_3 p0ej_1 p0ej_2 p0ej_3 p1_0 p1_1 p1d_0 p1d_1 p1d_2 p1d_3 p1m_0 p1m_1 p1m_2 p1m_3 p1j_0 p1j_1 p1j_2 p1j_3).2.2.2.2.2.2.2.1) ((f_X5_copyFrom p0ed_0 p0ed_1 p0ed_2 p0ed_3 p0em_0 p0em_1 p0em_2 p0em_3 p0ej_1 p0ej_2 p0ej_3 p1_0 p1_1 p1d_0 p1d_1 p1d_2 p1d_3 p1m_0 p1m_1 p1m_2 p1m_3 p1j_0 p1j_1 p1j_2 p1j_3).2.2.2.2.2.2.2.2.1) ((f_X5_copyFrom p0ed_0 p0ed_1 p0ed_2 p0ed_3 p0em_0 p0em_1 p0em_2 p0em_3 p0ej_1 p0ej_2 p0ej_3 p1_0 p1_1 p1d_0 p1d_1 p1d_2 p1d_3 p1m_0 p1m_1 p1m_2 p1m_3 p1j_0 p1j_1 p1j_2 p1j_3).2.2.2.2.2.2.2.2.2.1) ((f_X5_copyFrom p0ed_0 p0ed_1 p0ed_2 p0ed_3 p0em_0 p0em_1 p0em_2 p0em_3 p0ej_1 p0ej_2 p0ej_3 p1_0 p1_1 p1d_0 p1d_1 p1d_2 p1d_3 p1m_0 p1m_1 p1m_2 p1m_3 p1j_0 p1j_1 p1j_2 p1j_3).2.2.2.2.2.2.2.2.2.2.1) ((f_X5_copyFrom p0ed_0 p0ed_1 p0ed_2 p0ed_3 p0em_0 p0em_1 p0em_2 p0em_3 p0ej_1 p0ej_2 p0ej_3 p1_0 p1_1 p1d_0 p1d_1 p1d_2 p1d_3 p1m_0 p1m_1 p1m_2 p1m_3 p1j_0 p1j_1 p1j_2 p1j_3).2.2.2.2.2.2.2.2.2.2.2.1) ((f_X5_copyFrom p0ed_0 p0ed_1 p0ed_2 p0ed_3 p0em_0 p0em_1 p0em_2 p0em_3 p0ej_1 p0ej_2 p0ej_3 p1_0 p1_1 p1d_0 p1d_1 p1d_2 p1d_3 p1m_0 p1m_1 p1m_2 p1m_3 p1j_0 p1j_1 p1j_2 p1j_3).2.2.2.2.2.2.2.2.2.2.2.2.1) ((f_X5_copyFrom p0ed_0 p0ed_1 p0ed_2 p0ed_3 p0em_0 p0em_1 p0em_2 p0em_3 p0ej_1 p0ej_2 p0ej_3 p1_0 p1_1 p1d_0 p1d_1 p1d_2 p1d_3 p1m_0 p1m_1 p1m_2 p1m_3 p1j_0 p1j_1 p1j_2 p1j_3).2.2.2.2.2.2.2.2.2.2.2.2.2))
def f_X2_recallV_C39 (p0_1 : Int32) (p0_2 : Int32) (p1_0 : Int32) (p1_1 : Int32) (p1d_0 : Fn) (p1d_1 : Fn) (p1d_2 : Fn) (p1d_3 : Fn) (p1m_0 : Fn) (p1m_1 : Fn) (p1m_2 : Fn) (p1m_3 : Fn) (p1j_0 : Int32) (p1j_1 : Fn) (p1j_2 : Fn) (p1j_3 : Fn) : Int32 × Int32 × Int32 × Int32 × Fn × Fn × Fn × Fn × Fn × Fn × Fn × Fn × Int32 × Fn × Fn × Fn := (p0_1, p0_2, p1_0, p1_1, p1d_0, p1d_1, p1d_2, p1d_3, p1m_0, p1m_1, p1m_2, p1m_3, p1j_0, p1j_1, p1j_2, p1j_3)
def f_X2_recallV (p0_1 : Int32) (p0_2 : Int32) (p0e_0 : Int32) (p0e_1 : Int32) (p0ed_0 : Fn) (p0ed_1 : Fn) (p0ed_2 : Fn) (p0ed_3 : Fn) (p0em_0 : Fn) (p0em_1 : Fn) (p0em_2 : Fn) (p0em_3 : Fn) (p0ej_0 : Int32) (p0ej_1 : Fn) (p0ej_2 : Fn) (p0ej_3 : Fn) (p1d_0 : Fn) (p1d_1 : Fn) (p1d_2 : Fn) (p1d_3 : Fn) (p1m_0 : Fn) (p1m_1 : Fn) (p1m_2 : Fn) (p1m_3 : Fn) (p1j_1 : Fn) (p1j_2 : Fn) (p1j_3 : Fn) : Int32 × Int32 × Int32 × Int32 × Fn × Fn × Fn × Fn × Fn × Fn × Fn × Fn × Int32 × Fn × Fn × Fn := (f_X2_recallV_C39 (((p0_1 + (6 : Int32)) - (1 : Int32)) - ((p0_1 + (6 : Int32)) - (1 : Int32)) / (6 : Int32) * (6 : Int32)) (p0_2 - (1 : Int32)) ((f_X5_copyFrom p1d_0 p1d_1 p1d_2 p1d_3 p1m_0 p1m_1 p1m_2 p1m_3 p1j_1 p1j_2 p1j_3 p0e_0 p0e_1 p0ed_0 p0ed_1 p0ed_2 p0ed_3 p0em_0 p0em_1 p0em_2 p0em_3 p0ej_0 p0ej_1 p0ej_2 p0ej_3).1) ((f_X5_copyFrom p1d_0 p1d_1 p1d_2 p1d_3 p1m_0 p1m_1 p1m_2 p1m_3 p1j_1 p1j_2 p1j_3 p0e_0 p0e_1 p0ed_0 p0ed_1 p0ed_2 p0ed_3 p0em_0 p0em_1 p0em_2 p0em_3 p0ej_0 p0ej_1 p0ej_2 p0ej_3).2.1) ((f_X5_copyFrom p1d_0 p1d_1 p1d_2 p1d_3 p1m_0 p1m_1 p1m_2 p1m_3 p1j_1 p1j_2 p1j_3 p0e_0 p0e_1 p0ed_0 p0ed_1 p0ed_2 p0ed_3 p0em_0 p0em_1 p0em_2 p0em_3 p0ej_0 p0ej_1 p0ej_2 p0ej_3).2.2.1) ((f_X5_copyFrom p1d_0 p1d_1 p1d_2 p1d_3 p1m_0 p1m_1 p1m_2 p1m_3 p1j_1 p1j_2 p1j_3 p0e_0 p0e_1 p0ed_0 p0ed_1 p0ed_2 p0ed_3 p0em_0 p0em_1 p0em_2 p0em_3 p0ej_0 p0ej_1 p0ej_2 p0ej_3).2.2.2.1) ((f_X5_copyFrom p1d_0 p1d_1 p1d_2 p1d_3 p1m_0 p1m_1 p1m_2 p1m_3 p1j_1 p1j_2 p1j_3 p0e_0 p0e_1 p0ed_0 p0ed_1 p0ed_2 p0ed_3 p0em_0 p0em_1 p0em_2 p0em_3 p0ej_0 p0ej_1 p0ej_2 p0ej_3).2.2.2.2.1) ((f_X5_copyFrom p1d_0 p1d_1 p1d_2 p1d_3 p1m_0 p1m_1 p1m_2 p1m_3 p1j_1 p1j_2 p1j_3 p0e_0 p0e_1 p0ed_0 p0ed_1 p0ed_2 p0ed_3 p0em_0 p0em_1 p0em_2 p0em_3 p0ej_0 p0ej_1 p0ej_2 p0ej_3).2.2.2.2.2.1) ((f_X5_copyFrom p1d_0 p1d_1 p1d_2 p1d_3 p1m_0 p1m_1 p1m_2 p1m_3 p1j_1 p1j_2 p1j_3 p0e_0 p0e_1 p0ed_0 p0ed_1 p0ed_2 p0ed_3 p0em_0 p0em_1 p0em_2 p0em_3 p0ej_0 p0ej_1 p0ej_2 p0ej_3).2.2.2.2.2.2.1) ((f_X5_copyFrom p1d_0 p1d_1 p1d_2 p1d_3 p1m_0 p1m_1 p1m_2 p1m_3 p1j_1 p1j_2 p1j_3 p0e_0 p0e_1 p0ed_0 p0ed_1 p0ed_2 p0ed_3 p0em_0 p0em_1 p0em_2 p0em_3 p0ej_0 p0ej_1 p0ej_2 p0ej_3).2.2.2.2.2.2.2.1) ((f_X5_copyFrom p1d_0 p1d_1 p1d_2 p1d_3 p1m_0 p1m_1 p1m_2 p1m_3 p1j_1 p1j_2 p1j_3 p0e_0 p0e_1 p0ed_0 p0ed_1 p0ed_2 p0ed_3 p0em_0 p0em_1 p0em_2 p0em_3 p0ej_0 p0ej_1 p0ej_2 p0ej_3).2.2.2.2.2.2.2.2.1) ((f_X5_copyFrom p1d_0 p1d_1 p1d_2 p1d_3 p1m_0 p1m_1 p1m_2 p1m_3 p1j_1 p1j_2 p1j_3 p0e_0 p0e_1 p0ed_0 p0ed_1 p0ed_2 p0ed_3 p0em_0 p0em_1 p0em_2 p0em_3 p0ej_0 p0ej_1 p0ej_2 p0ej_3).2.2.2.2.2.2.2.2.2.1) ((f_X5_copyFrom p1d_0 p1d_1 p1d_2 p1d_3 p1m_0 p1m_1 p1m_2 p1m_3 p1j_1 p1j_2 p1j_3 p0e_0 p0e_1 p0ed_0 p0ed_1 p0ed_2 p0ed_3 p0em_0 p0em_1 p0em_2 p0em_3 p0ej_0 p0ej_1 p0ej_2 p0ej_3).2.2.2.2.2.2.2.2.2.2.1) ((f_X5_copyFrom p1d_0 p1d_1 p1d_2 p1d_3 p1m_0 p1m_1 p1m_2 p1m_3 p1j_1 p1j_2 p1j_3 p0e_0 p0e_1 p0ed_0 p0ed_1 p0ed_2 p0ed_3 p0em_0 p0em_1 p0em_2 p0em_3 p0ej_0 p0ej_1 p0ej_2 p0ej_3).2.2.2.2.2.2.2.2.2.2.2.1) ((f_X5_copyFrom p1d_0 p1d_1 p1d_2 p1d_3 p1m_0 p1m_1 p1m_2 p1m_3 p1j_1 p1j_2 p1j_3 p0e_0 p0e_1 p0ed_0 p0ed_1 p0ed_2 p0ed_3 p0em_0 p0em_1 p0em_2 p0em_3 p0ej_0 p0ej_1 p0ej_2 p0ej_3).2.2.2.2.2.2.2.2.2.2.2.2.1) ((f_X5_copyFrom p1d_0 p1d_1 p1d_2 p1d_3 p1m_0 p1m_1 p1m_2 p1m_3 p1j_1 p1j_2 p1j_3 p0e_0 p0e_1 p0ed_0 p0ed_1 p0ed_2 p0ed_3 p0em_0 p0em_1 p0em_2 p0em_3 p0ej_0 p0ej_1 p0ej_2 p0ej_3).2.2.2.2.2.2.2.2.2.2.2.2.2))
def f_X2_rememberT (p0_0 : Nat → Sit) (p0_1 p0_2 : Int32) (p1_0 : Int32) (p1_1 : Int32) (p1d_0 : Fn) (p1d_1 : Fn) (p1d_2 : Fn) (p1d_3 : Fn) (p1m_0 : Fn) (p1m_1 : Fn) (p1m_2 : Fn) (p1m_3 : Fn) (p1j_0 : Int32) (p1j_1 : Fn) (p1j_2 : Fn) (p1j_3 : Fn) : Int32 × Int32 × Int32 × Int32 × Fn × Fn × Fn × Fn × Fn × Fn × Fn × Fn × Int32 × Fn × Fn × Fn := (f_X2_rememberV p0_1 p0_2 (p0_0 p0_1.toNatClampNeg).2.2.1.1 (p0_0 p0_1.toNatClampNeg).2.2.1.2.1 (p0_0 p0_1.toNatClampNeg).2.2.1.2.2.1 (p0_0 p0_1.toNatClampNeg).2.2.1.2.2.2 (p0_0 p0_1.toNatClampNeg).2.2.2.1.1 (p0_0 p0_1.toNatClampNeg).2.2.2.1.2.1 (p0_0 p0_1.toNatClampNeg).2.2.2.1.2.2.1 (p0_0 p0_1.toNatClampNeg).2.2.2.1.2.2.2 (p0_0 p0_1.toNatClampNeg).2.2.2.2.2.1 (p0_0 p0_1.toNatClampNeg).2.2.2.2.2.2.1 (p0_0 p0_1.toNatClampNeg).2.2.2.2.2.2.2 p1_0 p1_1 p1d_0 p1d_1 p1d_2 p1d_3 p1m_0 p1m_1 p1m_2 p1m_3 p1j_0 p1j_1 p1j_2 p1j_3)
def f_X2_rememberS (p0_0 : Nat → Sit) (p0_1 p0_2 : Int32) (p1_0 : Int32) (p1_1 : Int32) (p1d_0 : Fn) (p1d_1 : Fn) (p1d_2 : Fn) (p1d_3 : Fn) (p1m_0 : Fn) (p1m_1 : Fn) (p1m_2 : Fn) (p1m_3 : Fn) (p1j_0 : Int32) (p1j_1 : Fn) (p1j_2 : Fn) (p1j_3 : Fn) : Sit := ((f_X2_rememberT p0_0 p0_1 p0_2 p1_0 p1_1 p1d_0 p1d_1 p1d_2 p1d_3 p1m_0 p1m_1 p1m_2 p1m_3 p1j_0 p1j_1 p1j_2 p1j_3).2.2.1, (f_X2_rememberT p0_0 p0_1 p0_2 p1_0 p1_1 p1d_0 p1d_1 p1d_2 p1d_3 p1m_0 p1m_1 p1m_2 p1m_3 p1j_0 p1j_1 p1j_2 p1j_3).2.2.2.1, ((f_X2_rememberT p0_0 p0_1 p0_2 p1_0 p1_1 p1d_0 p1d_1 p1d_2 p1d_3 p1m_0 p1m_1 p1m_2 p1m_3 p1j_0 p1j_1 p1j_2 p1j_3).2.2.2.2.1, (f_X2_rememberT p0_0 p0_1 p0_2 p1_0 p1_1 p1d_0 p1d_1 p1d_2 p1d_3 p1m_0 p1m_1 p1m_2 p1m_3 p1j_0 p1j_1 p1j_2 p1j_3).2.2.2.2.2.1, (f_X2_rememberT p0_0 p0_1 p0_2 p1_0 p1_1 p1d_0 p1d_1 p1d_2 p1d_3 p1m_0 p1m_1 p1m_2 p1m_3 p1j_0 p1j_1 p1j_2 p1j_3).2.2.2.2.2.2.1, (f_X2_rememberT p0_0 p0_1 p0_2 p1_0 p1_1 p1d_0 p1d_1 p1d_2 p1d_3 p1m_0 p1m_1 p1m_2 p1m_3 p1j_0 p1j_1 p1j_2 p1j_3).2.2.2.2.2.2.2.1), ((f_X2_rememberT p0_0 p0_1 p0_2 p1_0 p1_1 p1d_0 p1d_1 p1d_2 p1d_3 p1m_0 p1m_1 p1m_2 p1m_3 p1j_0 p1j_1 p1j_2 p1j_3).2.2.2.2.2.2.2.2.1, (f_X2_rememberT p0_0 p0_1 p0_2 p1_0 p1_1 p1d_0 p1d_1 p1d_2 p1d_3 p1m_0 p1m_1 p1m_2 p1m_3 p1j_0 p1j_1 p1j_2 p1j_3).2.2.2.2.2.2.2.2.2.1, (f_X2_rememberT p0_0 p0_1 p0_2 p1_0 p1_1 p1d_0 p1d_1 p1d_2 p1d_3 p1m_0 p1m_1 p1m_2 p1m_3 p1j_0 p1j_1 p1j_2 p1j_3).2.2.2.2.2.2.2.2.2.2.1, (f_X2_rememberT p0_0 p0_1 p0_2 p1_0 p1_1 p1d_0 p1d_1 p1d_2 p1d_3 p1m_0 p1m_1 p1m_2 p1m_3 p1j_0 p1j_1 p1j_2 p1j_3).2.2.2.2.2.2.2.2.2.2.2.1), ((f_X2_rememberT p0_0 p0_1 p0_2 p1_0 p1_1 p1d_0 p1d_1 p1d_2 p1d_3 p1m_0 p1m_1 p1m_2 p1m_3 p1j_0 p1j_1 p1j_2 p1j_3).2.2.2.2.2.2.2.2.2.2.2.2.1, (f_X2_rememberT p0_0 p0_1 p0_2 p1_0 p1_1 p1d_0 p1d_1 p1d_2 p1d_3 p1m_0 p1m_1 p1m_2 p1m_3 p1j_0 p1j_1 p1j_2 p1j_3).2.2.2.2.2.2.2.2.2.2.2.2.2.1, (f_X2_rememberT p0_0 p0_1 p0_2 p1_0 p1_1 p1d_0 p1d_1 p1d_2 p1d_3 p1m_0 p1m_1 p1m_2 p1m_3 p1j_0 p1j_1 p1j_2 p1j_3).2.2.2.2.2.2.2.2.2.2.2.2.2.2.1, (f_X2_rememberT p0_0 p0_1 p0_2 p1_0 p1_1 p1d_0 p1d_1 p1d_2 p1d_3 p1m_0 p1m_1 p1m_2 p1m_3 p1j_0 p1j_1 p1j_2 p1j_3).2.2.2.2.2.2.2.2.2.2.2.2.2.2.2))
def f_X2_remember (p0_0 : Nat → Sit) (p0_1 p0_2 : Int32) (p1_0 : Int32) (p1_1 : Int32) (p1d_0 : Fn) (p1d_1 : Fn) (p1d_2 : Fn) (p1d_3 : Fn) (p1m_0 : Fn) (p1m_1 : Fn) (p1m_2 : Fn) (p1m_3 : Fn) (p1j_0 : Int32) (p1j_1 : Fn) (p1j_2 : Fn) (p1j_3 : Fn) : (Nat → Sit) × Int32 × Int32 := ((fun i => if i = p0_1.toNatClampNeg then (f_X2_rememberS p0_0 p0_1 p0_2 p1_0 p1_1 p1d_0 p1d_1 p1d_2 p1d_3 p1m_0 p1m_1 p1m_2 p1m_3 p1j_0 p1j_1 p1j_2 p1j_3) else p0_0 i), (f_X2_rememberT p0_0 p0_1 p0_2 p1_0 p1_1 p1d_0 p1d_1 p1d_2 p1d_3 p1m_0 p1m_1 p1m_2 p1m_3 p1j_0 p1j_1 p1j_2 p1j_3).1, (f_X2_rememberT p0_0 p0_1 p0_2 p1_0 p1_1 p1d_0 p1d_1 p1d_2 p1d_3 p1m_0 p1m_1 p1m_2 p1m_3 p1j_0 p1j_1 p1j_2 p1j_3).2.1)
def f_X2_recall (p0_0 : Nat → Sit) (p0_1 p0_2 : Int32) (p1_0 : Int32) (p1_1 : Int32) (p1d_0 : Fn) (p1d_1 : Fn) (p1d_2 : Fn) (p1d_3 : Fn) (p1m_0 : Fn) (p1m_1 : Fn) (p1m_2 : Fn) (p1m_3 : Fn) (p1j_0 : Int32) (p1j_1 : Fn) (p1j_2 : Fn) (p1j_3 : Fn) : Int32 × Int32 × Int32 × Int32 × Fn × Fn × Fn × Fn × Fn × Fn × Fn × Fn × Int32 × Fn × Fn × Fn := (f_X2_recallV p0_1 p0_2 (p0_0 (((p0_1 + (6 : Int32)) - (1 : Int32)) - ((p0_1 + (6 : Int32)) - (1 : Int32)) / (6 : Int32) * (6 : Int32)).toNatClampNeg).1 (p0_0 (((p0_1 + (6 : Int32)) - (1 : Int32)) - ((p0_1 + (6 : Int32)) - (1 : Int32)) / (6 : Int32) * (6 : Int32)).toNatClampNeg).2.1 (p0_0 (((p0_1 + (6 : Int32)) - (1 : Int32)) - ((p0_1 + (6 : Int32)) - (1 : Int32)) / (6 : Int32) * (6 : Int32)).toNatClampNeg).2.2.1.1 (p0_0 (((p0_1 + (6 : Int32)) - (1 : Int32)) - ((p0_1 + (6 : Int32)) - (1 : Int32)) / (6 : Int32) * (6 : Int32)).toNatClampNeg).2.2.1.2.1 (p0_0 (((p0_1 + (6 : Int32)) - (1 : Int32)) - ((p0_1 + (6 : Int32)) - (1 : Int32)) / (6 : Int32) * (6 : Int32)).toNatClampNeg).2.2.1.2.2.1 (p0_0 (((p0_1 + (6 : Int32)) - (1 : Int32)) - ((p0_1 + (6 : Int32)) - (1 : Int32)) / (6 : Int32) * (6 : Int32)).toNatClampNeg).2.2.1.2.2.2 (p0_0 (((p0_1 + (6 : Int32)) - (1 : Int32)) - ((p0_1 + (6 : Int32)) - (1 : Int32)) / (6 : Int32) * (6 : Int32)).toNatClampNeg).2.2.2.1.1 (p0_0 (((p0_1 + (6 : Int32)) - (1 : Int32)) - ((p0_1 + (6 : Int32)) - (1 : Int32)) / (6 : Int32) * (6 : Int32)).toNatClampNeg).2.2.2.1.2.1 (p0_0 (((p0_1 + (6 : Int32)) - (1 : Int32)) - ((p0_1 + (6 : Int32)) - (1 : Int32)) / (6 : Int32) * (6 : Int32)).toNatClampNeg).2.2.2.1.2.2.1 (p0_0 (((p0_1 + (6 : Int32)) - (1 : Int32)) - ((p0_1 + (6 : Int32)) - (1 : Int32)) / (6 : Int32) * (6 : Int32)).toNatClampNeg).2.2.2.1.2.2.2 (p0_0 (((p0_1 + (6 : Int32)) - (1 : Int32)) - ((p0_1 + (6 : Int32)) - (1 : Int32)) / (6 : Int32) * (6 : Int32)).toNatClampNeg).2.2.2.2.1 (p0_0 (((p0_1 + (6 : Int32)) - (1 : Int32)) - ((p0_1 + (6 : Int32)) - (1 : Int32)) / (6 : Int32) * (6 : Int32)).toNatClampNeg).2.2.2.2.2.1 (p0_0 (((p0_1 + (6 : Int32)) - (1 : Int32)) - ((p0_1 + (6 : Int32)) - (1 : Int32)) / (6 : Int32) * (6 : Int32)).toNatClampNeg).2.2.2.2.2.2.1 (p0_0 (((p0_1 + (6 : Int32)) - (1 : Int32)) - ((p0_1 + (6 : Int32)) - (1 : Int32)) / (6 : Int32) * (6 : Int32)).toNatClampNeg).2.2.2.2.2.2.2 p1d_0 p1d_1 p1d_2 p1d_3 p1m_0 p1m_1 p1m_2 p1m_3 p1j_1 p1j_2 p1j_3)
def f_X8_type_C36 (p0t_0 : Fn) (p0t_1 : Int32) : Int32 × Fn × Int32 := (p0t_1, p0t_0, p0t_1)
def f_X8_type (p0t_0 : Fn) (p0t_1 : Int32) (x1 : Int32) : Int32 × Fn × Int32 := 
  if (f_X8_isWithin x1 (256 : Int32)) = 0 then ((-1 : Int32), p0t_0, p0t_1)
  else 
   if p0t_1 < (160 : Int32) then (f_X8_type_C36 ((f_X6_append p0t_0 p0t_1 x1).1) ((f_X6_append p0t_0 p0t_1 x1).2))
   else ((-3 : Int32), p0t_0, p0t_1)
def f_X8_clear (p0t_1 : Int32) : Int32 × Int32 := (p0t_1, (0 : Int32))
def f_X8_resets_C33 (p0h_0 : Nat → Sit) (p0h_1 : Int32) (p0h_2 : Int32) (x1 : Int32) (p0n_0 : Int32) (p0n_1 : Int32) (p0nd_0 : Fn) (p0nd_1 : Fn) (p0nd_2 : Fn) (p0nm_0 : Fn) (p0nm_1 : Fn) (p0nm_2 : Fn) (p0nj_0 : Int32) : Int32 × Int32 × Int32 × Fn × Fn × Fn × Fn × Fn × Fn × Int32 × (Nat → Sit) × Int32 × Int32 := (x1, p0n_0, p0n_1, p0nd_0, p0nd_1, p0nd_2, p0nm_0, p0nm_1, p0nm_2, p0nj_0, p0h_0, p0h_1, p0h_2)
def f_X8_resets_C11 (p0nd_0 : Fn) (p0nd_1 : Fn) (p0nd_2 : Fn) (p0nm_0 : Fn) (p0nm_1 : Fn) (p0nm_2 : Fn) (p0nj_0 : Int32) (p0b_0 : Blk) (p0h_0 : Nat → Sit) (p0h_1 : Int32) (p0h_2 : Int32) : Int32 × Int32 × Int32 × Fn × Fn × Fn × Fn × Fn × Fn × Int32 × (Nat → Sit) × Int32 × Int32 := (f_X8_resets_C33 p0h_0 p0h_1 p0h_2 p0nj_0 ((f_X5_restart p0nd_0 p0nd_1 p0nd_2 p0nm_0 p0nm_1 p0nm_2 p0b_0).1) ((f_X5_restart p0nd_0 p0nd_1 p0nd_2 p0nm_0 p0nm_1 p0nm_2 p0b_0).2.1) ((f_X5_restart p0nd_0 p0nd_1 p0nd_2 p0nm_0 p0nm_1 p0nm_2 p0b_0).2.2.1) ((f_X5_restart p0nd_0 p0nd_1 p0nd_2 p0nm_0 p0nm_1 p0nm_2 p0b_0).2.2.2.1) ((f_X5_restart p0nd_0 p0nd_1 p0nd_2 p0nm_0 p0nm_1 p0nm_2 p0b_0).2.2.2.2.1) ((f_X5_restart p0nd_0 p0nd_1 p0nd_2 p0nm_0 p0nm_1 p0nm_2 p0b_0).2.2.2.2.2.1) ((f_X5_restart p0nd_0 p0nd_1 p0nd_2 p0nm_0 p0nm_1 p0nm_2 p0b_0).2.2.2.2.2.2.1) ((f_X5_restart p0nd_0 p0nd_1 p0nd_2 p0nm_0 p0nm_1 p0nm_2 p0b_0).2.2.2.2.2.2.2.1) ((f_X5_restart p0nd_0 p0nd_1 p0nd_2 p0nm_0 p0nm_1 p0nm_2 p0b_0).2.2.2.2.2.2.2.2))
def f_X8_resets (p0n_0 : Int32) (p0n_1 : Int32) (p0nd_0 : Fn) (p0nd_1 : Fn) (p0nd_2 : Fn) (p0nd_3 : Fn) (p0nm_0 : Fn) (p0nm_1 : Fn) (p0nm_2 : Fn) (p0nm_3 : Fn) (p0nj_0 : Int32) (p0nj_1 : Fn) (p0nj_2 : Fn) (p0nj_3 : Fn) (p0h_0 : Nat → Sit) (p0h_1 : Int32) (p0h_2 : Int32) (p0b_0 : Blk) : Int32 × Int32 × Int32 × Fn × Fn × Fn × Fn × Fn × Fn × Int32 × (Nat → Sit) × Int32 × Int32 := (f_X8_resets_C11 p0nd_0 p0nd_1 p0nd_2 p0nm_0 p0nm_1 p0nm_2 p0nj_0 p0b_0 ((f_X2_remember p0h_0 p0h_1 p0h_2 p0n_0 p0n_1 p0nd_0 p0nd_1 p0nd_2 p0nd_3 p0nm_0 p0nm_1 p0nm_2 p0nm_3 p0nj_0 p0nj_1 p0nj_2 p0nj_3).1) ((f_X2_remember p0h_0 p0h_1 p0h_2 p0n_0 p0n_1 p0nd_0 p0nd_1 p0nd_2 p0nd_3 p0nm_0 p0nm_1 p0nm_2 p0nm_3 p0nj_0 p0nj_1 p0nj_2 p0nj_3).2.1) ((f_X2_remember p0h_0 p0h_1 p0h_2 p0n_0 p0n_1 p0nd_0 p0nd_1 p0nd_2 p0nd_3 p0nm_0 p0nm_1 p0nm_2 p0nm_3 p0nj_0 p0nj_1 p0nj_2 p0nj_3).2.2))
def f_X8_reads_C52 (p0h_0 : Nat → Sit) (p0h_1 : Int32) (p0h_2 : Int32) (s0 : Int32) (p0n_0 : Int32) (p0n_1 : Int32) (p0nd_0 : Fn) (p0nm_0 : Fn) (p0nj_0 : Int32) (p0nj_1 : Fn) (p0nj_2 : Fn) (p0nj_3 : Fn) : Int32 × Int32 × Int32 × Fn × Fn × Int32 × Fn × Fn × Fn × (Nat → Sit) × Int32 × Int32 := (s0, p0n_0, p0n_1, p0nd_0, p0nm_0, p0nj_0, p0nj_1, p0nj_2, p0nj_3, p0h_0, p0h_1, p0h_2)
def f_X8_reads_C40 (p0n_0 : Int32) (p0nd_0 : Fn) (p0nd_3 : Fn) (p0nm_0 : Fn) (p0nm_3 : Fn) (p0nj_0 : Int32) (p0nj_1 : Fn) (p0nj_2 : Fn) (p0nj_3 : Fn) (p0b_0 : Blk) (x1 : Int32) (p0h_0 : Nat → Sit) (p0h_1 : Int32) (p0h_2 : Int32) : Int32 × Int32 × Int32 × Fn × Fn × Int32 × Fn × Fn × Fn × (Nat → Sit) × Int32 × Int32 := (f_X8_reads_C52 p0h_0 p0h_1 p0h_2 (f_X5_performRead p0n_0 p0nd_0 p0nd_3 p0nm_0 p0nm_3 p0nj_0 p0nj_1 p0nj_2 p0nj_3 p0b_0 x1).1 ((f_X5_performRead p0n_0 p0nd_0 p0nd_3 p0nm_0 p0nm_3 p0nj_0 p0nj_1 p0nj_2 p0nj_3 p0b_0 x1).2.1) ((f_X5_performRead p0n_0 p0nd_0 p0nd_3 p0nm_0 p0nm_3 p0nj_0 p0nj_1 p0nj_2 p0nj_3 p0b_0 x1).2.2.1) ((f_X5_performRead p0n_0 p0nd_0 p0nd_3 p0nm_0 p0nm_3 p0nj_0 p0nj_1 p0nj_2 p0nj_3 p0b_0 x1).2.2.2.1) ((f_X5_performRead p0n_0 p0nd_0 p0nd_3 p0nm_0 p0nm_3 p0nj_0 p0nj_1 p0nj_2 p0nj_3 p0b_0 x1).2.2.2.2.1) ((f_X5_performRead p0n_0 p0nd_0 p0nd_3 p0nm_0 p0nm_3 p0nj_0 p0nj_1 p0nj_2 p0nj_3 p0b_0 x1).2.2.2.2.2.1) ((f_X5_performRead p0n_0 p0nd_0 p0nd_3 p0nm_0 p0nm_3 p0nj_0 p0nj_1 p0nj_2 p0nj_3 p0b_0 x1).2.2.2.2.2.2.1) ((f_X5_performRead p0n_0 p0nd_0 p0nd_3 p0nm_0 p0nm_3 p0nj_0 p0nj_1 p0nj_2 p0nj_3 p0b_0 x1).2.2.2.2.2.2.2.1) ((f_X5_performRead p0n_0 p0nd_0 p0nd_3 p0nm_0 p0nm_3 p0nj_0 p0nj_1 p0nj_2 p0nj_3 p0b_0 x1).2.2.2.2.2.2.2.2))
def f_X8_reads (p0n_0 : Int32) (p0n_1 : Int32) (p0nd_0 : Fn) (p0nd_1 : Fn) (p0nd_2 : Fn) (p0nd_3 : Fn) (p0nm_0 : Fn) (p0nm_1 : Fn) (p0nm_2 : Fn) (p0nm_3 : Fn) (p0nj_0 : Int32) (p0nj_1 : Fn) (p0nj_2 : Fn) (p0nj_3 : Fn) (p0h_0 : Nat → Sit) (p0h_1 : Int32) (p0h_2 : Int32) (p0b_0 : Blk) (x1 : Int32) : Int32 × Int32 × Int32 × Fn × Fn × Int32 × Fn × Fn × Fn × (Nat → Sit) × Int32 × Int32 := 
  if (f_X8_isWithin x1 (16 : Int32)) = 0 then ((-1 : Int32), p0n_0, p0n_1, p0nd_0, p0nm_0, p0nj_0, p0nj_1, p0nj_2, p0nj_3, p0h_0, p0h_1, p0h_2)
  else 
   if p0nj_0 < (20 : Int32) then (f_X8_reads_C40 p0n_0 p0nd_0 p0nd_3 p0nm_0 p0nm_3 p0nj_0 p0nj_1 p0nj_2 p0nj_3 p0b_0 x1 ((f_X2_remember p0h_0 p0h_1 p0h_2 p0n_0 p0n_1 p0nd_0 p0nd_1 p0nd_2 p0nd_3 p0nm_0 p0nm_1 p0nm_2 p0nm_3 p0nj_0 p0nj_1 p0nj_2 p0nj_3).1) ((f_X2_remember p0h_0 p0h_1 p0h_2 p0n_0 p0n_1 p0nd_0 p0nd_1 p0nd_2 p0nd_3 p0nm_0 p0nm_1 p0nm_2 p0nm_3 p0nj_0 p0nj_1 p0nj_2 p0nj_3).2.1) ((f_X2_remember p0h_0 p0h_1 p0h_2 p0n_0 p0n_1 p0nd_0 p0nd_1 p0nd_2 p0nd_3 p0nm_0 p0nm_1 p0nm_2 p0nm_3 p0nj_0 p0nj_1 p0nj_2 p0nj_3).2.2))
   else ((-3 : Int32), p0n_0, p0n_1, p0nd_0, p0nm_0, p0nj_0, p0nj_1, p0nj_2, p0nj_3, p0h_0, p0h_1, p0h_2)
def f_X8_changedBy_L32 (p0nd_0 : Fn) (p0v_0 : Fn) (p0v_1 : Fn) (p0v_2 : Fn) (p0v_3 : Fn) (p0b_0 : Blk) : Nat → Int32 → Int32 → Int32 × Fn × Fn × Fn × Fn
  | 0, _, _ => (0, p0v_0, p0v_1, p0v_2, p0v_3)
  | n + 1, x3, x4 => 
    if (p0b_0 0 1) ≤ x4 then (x3, p0v_0, p0v_1, p0v_2, p0v_3)
    else 
     if (f_X1_valueOf p0v_0 p0b_0 x4) = (f_X1_valueOf p0nd_0 p0b_0 x4) then ((f_X8_changedBy_L32 p0nd_0 p0v_0 p0v_1 p0v_2 p0v_3 p0b_0 n) x3 (x4 + (1 : Int32)))
     else ((f_X8_changedBy_L32 p0nd_0 p0v_0 p0v_1 p0v_2 p0v_3 p0b_0 n) (x3 ||| ((1 : Int32) <<< (x4 &&& 31))) (x4 + (1 : Int32)))
def f_X8_changedBy_C27 (p0nd_0 : Fn) (p0v_3 : Fn) (p0b_0 : Blk) (p0v_0 : Fn) (p0v_1 : Fn) (p0v_2 : Fn) : Int32 × Fn × Fn × Fn × Fn := (f_X8_changedBy_L32 p0nd_0 p0v_0 p0v_1 p0v_2 p0v_3 p0b_0 4000 (0 : Int32) (0 : Int32))
def f_X8_changedBy_C14 (p0nd_0 : Fn) (p0b_0 : Blk) (x1 : Int32) (x2 : Int32) (p0v_0 : Fn) (p0v_1 : Fn) (p0v_2 : Fn) (p0v_3 : Fn) : Int32 × Fn × Fn × Fn × Fn := (f_X8_changedBy_C27 p0nd_0 p0v_3 p0b_0 ((f_X1_write p0v_0 p0v_1 p0v_2 p0v_3 p0b_0 x1 x2).1) ((f_X1_write p0v_0 p0v_1 p0v_2 p0v_3 p0b_0 x1 x2).2.1) ((f_X1_write p0v_0 p0v_1 p0v_2 p0v_3 p0b_0 x1 x2).2.2))
def f_X8_changedBy (p0nd_0 : Fn) (p0nd_1 : Fn) (p0nd_2 : Fn) (p0nd_3 : Fn) (p0v_0 : Fn) (p0v_1 : Fn) (p0v_2 : Fn) (p0v_3 : Fn) (p0b_0 : Blk) (x1 : Int32) (x2 : Int32) : Int32 × Fn × Fn × Fn × Fn := (f_X8_changedBy_C14 p0nd_0 p0b_0 x1 x2 ((f_X1_copyFrom p0v_0 p0v_1 p0v_2 p0v_3 p0nd_0 p0nd_1 p0nd_2 p0nd_3).1) ((f_X1_copyFrom p0v_0 p0v_1 p0v_2 p0v_3 p0nd_0 p0nd_1 p0nd_2 p0nd_3).2.1) ((f_X1_copyFrom p0v_0 p0v_1 p0v_2 p0v_3 p0nd_0 p0nd_1 p0nd_2 p0nd_3).2.2.1) ((f_X1_copyFrom p0v_0 p0v_1 p0v_2 p0v_3 p0nd_0 p0nd_1 p0nd_2 p0nd_3).2.2.2))
def f_X8_writes_C70 (p0h_0 : Nat → Sit) (p0h_1 : Int32) (p0h_2 : Int32) (p0v_0 : Fn) (p0v_1 : Fn) (p0v_2 : Fn) (p0v_3 : Fn) (x3 : Int32) (p0nd_0 : Fn) (p0nd_1 : Fn) (p0nd_2 : Fn) (p0nm_0 : Fn) (p0nm_1 : Fn) (p0nm_2 : Fn) (p0nj_0 : Int32) (p0nj_1 : Fn) (p0nj_2 : Fn) (p0nj_3 : Fn) : Int32 × Fn × Fn × Fn × Fn × Fn × Fn × Int32 × Fn × Fn × Fn × (Nat → Sit) × Int32 × Int32 × Fn × Fn × Fn × Fn := (x3, p0nd_0, p0nd_1, p0nd_2, p0nm_0, p0nm_1, p0nm_2, p0nj_0, p0nj_1, p0nj_2, p0nj_3, p0h_0, p0h_1, p0h_2, p0v_0, p0v_1, p0v_2, p0v_3)
def f_X8_writes_C56 (p0nd_0 : Fn) (p0nd_1 : Fn) (p0nd_2 : Fn) (p0nd_3 : Fn) (p0nm_0 : Fn) (p0nm_1 : Fn) (p0nm_2 : Fn) (p0nm_3 : Fn) (p0nj_0 : Int32) (p0nj_1 : Fn) (p0nj_2 : Fn) (p0nj_3 : Fn) (p0h_0 : Nat → Sit) (p0h_1 : Int32) (p0h_2 : Int32) (p0b_0 : Blk) (x1 : Int32) (x2 : Int32) (s0 : Int32) (p0v_0 : Fn) (p0v_1 : Fn) (p0v_2 : Fn) (p0v_3 : Fn) : Int32 × Fn × Fn × Fn × Fn × Fn × Fn × Int32 × Fn × Fn × Fn × (Nat → Sit) × Int32 × Int32 × Fn × Fn × Fn × Fn := (f_X8_writes_C70 p0h_0 p0h_1 p0h_2 p0v_0 p0v_1 p0v_2 p0v_3 s0 ((f_X5_performWrite p0nd_0 p0nd_1 p0nd_2 p0nd_3 p0nm_0 p0nm_1 p0nm_2 p0nm_3 p0nj_0 p0nj_1 p0nj_2 p0nj_3 p0b_0 x1 x2).1) ((f_X5_performWrite p0nd_0 p0nd_1 p0nd_2 p0nd_3 p0nm_0 p0nm_1 p0nm_2 p0nm_3 p0nj_0 p0nj_1 p0nj_2 p0nj_3 p0b_0 x1 x2).2.1) ((f_X5_performWrite p0nd_0 p0nd_1 p0nd_2 p0nd_3 p0nm_0 p0nm_1 p0nm_2 p0nm_3 p0nj_0 p0nj_1 p0nj_2 p0nj_3 p0b_0 x1 x2).2.2.1) ((f_X5_performWrite p0nd_0 p0nd_1 p0nd_2 p0nd_3 p0nm_0 p0nm_1 p0nm_2 p0nm_3 p0nj_0 p0nj_1 p0nj_2 p0nj_3 p0b_0 x1 x2).2.2.2.1) ((f_X5_performWrite p0nd_0 p0nd_1 p0nd_2 p0nd_3 p0nm_0 p0nm_1 p0nm_2 p0nm_3 p0nj_0 p0nj_1 p0nj_2 p0nj_3 p0b_0 x1 x2).2.2.2.2.1) ((f_X5_performWrite p0nd_0 p0nd_1 p0nd_2 p0nd_3 p0nm_0 p0nm_1 p0nm_2 p0nm_3 p0nj_0 p0nj_1 p0nj_2 p0nj_3 p0b_0 x1 x2).2.2.2.2.2.1) ((f_X5_performWrite p0nd_0 p0nd_1 p0nd_2 p0nd_3 p0nm_0 p0nm_1 p0nm_2 p0nm_3 p0nj_0 p0nj_1 p0nj_2 p0nj_3 p0b_0 x1 x2).2.2.2.2.2.2.1) ((f_X5_performWrite p0nd_0 p0nd_1 p0nd_2 p0nd_3 p0nm_0 p0nm_1 p0nm_2 p0nm_3 p0nj_0 p0nj_1 p0nj_2 p0nj_3 p0b_0 x1 x2).2.2.2.2.2.2.2.1) ((f_X5_performWrite p0nd_0 p0nd_1 p0nd_2 p0nd_3 p0nm_0 p0nm_1 p0nm_2 p0nm_3 p0nj_0 p0nj_1 p0nj_2 p0nj_3 p0b_0 x1 x2).2.2.2.2.2.2.2.2.1) ((f_X5_performWrite p0nd_0 p0nd_1 p0nd_2 p0nd_3 p0nm_0 p0nm_1 p0nm_2 p0nm_3 p0nj_0 p0nj_1 p0nj_2 p0nj_3 p0b_0 x1 x2).2.2.2.2.2.2.2.2.2))
def f_X8_writes_C50 (p0nd_0 : Fn) (p0nd_1 : Fn) (p0nd_2 : Fn) (p0nd_3 : Fn) (p0nm_0 : Fn) (p0nm_1 : Fn) (p0nm_2 : Fn) (p0nm_3 : Fn) (p0nj_0 : Int32) (p0nj_1 : Fn) (p0nj_2 : Fn) (p0nj_3 : Fn) (p0v_0 : Fn) (p0v_1 : Fn) (p0v_2 : Fn) (p0v_3 : Fn) (p0b_0 : Blk) (x1 : Int32) (x2 : Int32) (p0h_0 : Nat → Sit) (p0h_1 : Int32) (p0h_2 : Int32) : Int32 × Fn × Fn × Fn × Fn × Fn × Fn × Int32 × Fn × Fn × Fn × (Nat → Sit) × Int32 × Int32 × Fn × Fn × Fn × Fn := (f_X8_writes_C56 p0nd_0 p0nd_1 p0nd_2 p0nd_3 p0nm_0 p0nm_1 p0nm_2 p0nm_3 p0nj_0 p0nj_1 p0nj_2 p0nj_3 p0h_0 p0h_1 p0h_2 p0b_0 x1 x2 (f_X8_changedBy p0nd_0 p0nd_1 p0nd_2 p0nd_3 p0v_0 p0v_1 p0v_2 p0v_3 p0b_0 x1 x2).1 ((f_X8_changedBy p0nd_0 p0nd_1 p0nd_2 p0nd_3 p0v_0 p0v_1 p0v_2 p0v_3 p0b_0 x1 x2).2.1) ((f_X8_changedBy p0nd_0 p0nd_1 p0nd_2 p0nd_3 p0v_0 p0v_1 p0v_2 p0v_3 p0b_0 x1 x2).2.2.1) ((f_X8_changedBy p0nd_0 p0nd_1 p0nd_2 p0nd_3 p0v_0 p0v_1 p0v_2 p0v_3 p0b_0 x1 x2).2.2.2.1) ((f_X8_changedBy p0nd_0 p0nd_1 p0nd_2 p0nd_3 p0v_0 p0v_1 p0v_2 p0v_3 p0b_0 x1 x2).2.2.2.2))
def f_X8_writes (p0n_0 : Int32) (p0n_1 : Int32) (p0nd_0 : Fn) (p0nd_1 : Fn) (p0nd_2 : Fn) (p0nd_3 : Fn) (p0nm_0 : Fn) (p0nm_1 : Fn) (p0nm_2 : Fn) (p0nm_3 : Fn) (p0nj_0 : Int32) (p0nj_1 : Fn) (p0nj_2 : Fn) (p0nj_3 : Fn) (p0h_0 : Nat → Sit) (p0h_1 : Int32) (p0h_2 : Int32) (p0v_0 : Fn) (p0v_1 : Fn) (p0v_2 : Fn) (p0v_3 : Fn) (p0b_0 : Blk) (x1 : Int32) (x2 : Int32) : Int32 × Fn × Fn × Fn × Fn × Fn × Fn × Int32 × Fn × Fn × Fn × (Nat → Sit) × Int32 × Int32 × Fn × Fn × Fn × Fn := 
  if (f_X8_isWithin x1 (16 : Int32)) = 0 then ((-1 : Int32), p0nd_0, p0nd_1, p0nd_2, p0nm_0, p0nm_1, p0nm_2, p0nj_0, p0nj_1, p0nj_2, p0nj_3, p0h_0, p0h_1, p0h_2, p0v_0, p0v_1, p0v_2, p0v_3)
  else 
   if (f_X8_isWithin x2 (256 : Int32)) = 0 then ((-1 : Int32), p0nd_0, p0nd_1, p0nd_2, p0nm_0, p0nm_1, p0nm_2, p0nj_0, p0nj_1, p0nj_2, p0nj_3, p0h_0, p0h_1, p0h_2, p0v_0, p0v_1, p0v_2, p0v_3)
   else 
    if p0nj_0 < (20 : Int32) then (f_X8_writes_C50 p0nd_0 p0nd_1 p0nd_2 p0nd_3 p0nm_0 p0nm_1 p0nm_2 p0nm_3 p0nj_0 p0nj_1 p0nj_2 p0nj_3 p0v_0 p0v_1 p0v_2 p0v_3 p0b_0 x1 x2 ((f_X2_remember p0h_0 p0h_1 p0h_2 p0n_0 p0n_1 p0nd_0 p0nd_1 p0nd_2 p0nd_3 p0nm_0 p0nm_1 p0nm_2 p0nm_3 p0nj_0 p0nj_1 p0nj_2 p0nj_3).1) ((f_X2_remember p0h_0 p0h_1 p0h_2 p0n_0 p0n_1 p0nd_0 p0nd_1 p0nd_2 p0nd_3 p0nm_0 p0nm_1 p0nm_2 p0nm_3 p0nj_0 p0nj_1 p0nj_2 p0nj_3).2.1) ((f_X2_remember p0h_0 p0h_1 p0h_2 p0n_0 p0n_1 p0nd_0 p0nd_1 p0nd_2 p0nd_3 p0nm_0 p0nm_1 p0nm_2 p0nm_3 p0nj_0 p0nj_1 p0nj_2 p0nj_3).2.2))
    else ((-3 : Int32), p0nd_0, p0nd_1, p0nd_2, p0nm_0, p0nm_1, p0nm_2, p0nj_0, p0nj_1, p0nj_2, p0nj_3, p0h_0, p0h_1, p0h_2, p0v_0, p0v_1, p0v_2, p0v_3)
def f_X8_sets_C49 (p0nd_0 : Fn) (p0b_0 : Blk) (x1 : Int32) (x2 : Int32) (x3 : Int32) (p0h_0 : Nat → Sit) (p0h_1 : Int32) (p0h_2 : Int32) : Int32 × Fn × (Nat → Sit) × Int32 × Int32 := (x3, (f_X1_putValue p0nd_0 p0b_0 x1 x2), p0h_0, p0h_1, p0h_2)
def f_X8_sets (p0n_0 : Int32) (p0n_1 : Int32) (p0nd_0 : Fn) (p0nd_1 : Fn) (p0nd_2 : Fn) (p0nd_3 : Fn) (p0nm_0 : Fn) (p0nm_1 : Fn) (p0nm_2 : Fn) (p0nm_3 : Fn) (p0nj_0 : Int32) (p0nj_1 : Fn) (p0nj_2 : Fn) (p0nj_3 : Fn) (p0h_0 : Nat → Sit) (p0h_1 : Int32) (p0h_2 : Int32) (p0b_0 : Blk) (x1 : Int32) (x2 : Int32) : Int32 × Fn × (Nat → Sit) × Int32 × Int32 := 
  if (f_X0_canHold p0b_0 x1 x2) = 0 then ((-1 : Int32), p0nd_0, p0h_0, p0h_1, p0h_2)
  else 
   if (f_X1_valueOf p0nd_0 p0b_0 x1) = x2 then ((-2 : Int32), p0nd_0, p0h_0, p0h_1, p0h_2)
   else (f_X8_sets_C49 p0nd_0 p0b_0 x1 x2 (f_X1_valueOf p0nd_0 p0b_0 x1) ((f_X2_remember p0h_0 p0h_1 p0h_2 p0n_0 p0n_1 p0nd_0 p0nd_1 p0nd_2 p0nd_3 p0nm_0 p0nm_1 p0nm_2 p0nm_3 p0nj_0 p0nj_1 p0nj_2 p0nj_3).1) ((f_X2_remember p0h_0 p0h_1 p0h_2 p0n_0 p0n_1 p0nd_0 p0nd_1 p0nd_2 p0nd_3 p0nm_0 p0nm_1 p0nm_2 p0nm_3 p0nj_0 p0nj_1 p0nj_2 p0nj_3).2.1) ((f_X2_remember p0h_0 p0h_1 p0h_2 p0n_0 p0n_1 p0nd_0 p0nd_1 p0nd_2 p0nd_3 p0nm_0 p0nm_1 p0nm_2 p0nm_3 p0nj_0 p0nj_1 p0nj_2 p0nj_3).2.2))
def f_X8_breaks_C57 (p0nd_3 : Fn) (x1 : Int32) (x2 : Int32) (x3 : Int32) (p0h_0 : Nat → Sit) (p0h_1 : Int32) (p0h_2 : Int32) : Int32 × Fn × (Nat → Sit) × Int32 × Int32 := (x3, (upd p0nd_3 x1.toNatClampNeg x2), p0h_0, p0h_1, p0h_2)
def f_X8_breaks (p0n_0 : Int32) (p0n_1 : Int32) (p0nd_0 : Fn) (p0nd_1 : Fn) (p0nd_2 : Fn) (p0nd_3 : Fn) (p0nm_0 : Fn) (p0nm_1 : Fn) (p0nm_2 : Fn) (p0nm_3 : Fn) (p0nj_0 : Int32) (p0nj_1 : Fn) (p0nj_2 : Fn) (p0nj_3 : Fn) (p0h_0 : Nat → Sit) (p0h_1 : Int32) (p0h_2 : Int32) (p0b_0 : Blk) (x1 : Int32) (x2 : Int32) : Int32 × Fn × (Nat → Sit) × Int32 × Int32 := 
  if (f_X8_isWithin x1 (p0b_0 0 1)) = 0 then ((-1 : Int32), p0nd_3, p0h_0, p0h_1, p0h_2)
  else 
   if (f_X8_isWithin x2 (8 : Int32)) = 0 then ((-1 : Int32), p0nd_3, p0h_0, p0h_1, p0h_2)
   else 
    if (p0nd_3 x1.toNatClampNeg) = x2 then ((-2 : Int32), p0nd_3, p0h_0, p0h_1, p0h_2)
    else (f_X8_breaks_C57 p0nd_3 x1 x2 (p0nd_3 x1.toNatClampNeg) ((f_X2_remember p0h_0 p0h_1 p0h_2 p0n_0 p0n_1 p0nd_0 p0nd_1 p0nd_2 p0nd_3 p0nm_0 p0nm_1 p0nm_2 p0nm_3 p0nj_0 p0nj_1 p0nj_2 p0nj_3).1) ((f_X2_remember p0h_0 p0h_1 p0h_2 p0n_0 p0n_1 p0nd_0 p0nd_1 p0nd_2 p0nd_3 p0nm_0 p0nm_1 p0nm_2 p0nm_3 p0nj_0 p0nj_1 p0nj_2 p0nj_3).2.1) ((f_X2_remember p0h_0 p0h_1 p0h_2 p0n_0 p0n_1 p0nd_0 p0nd_1 p0nd_2 p0nd_3 p0nm_0 p0nm_1 p0nm_2 p0nm_3 p0nj_0 p0nj_1 p0nj_2 p0nj_3).2.2))
def f_X8_undo_C24 (p0n_0 : Int32) (p0n_1 : Int32) (p0nd_0 : Fn) (p0nd_1 : Fn) (p0nd_2 : Fn) (p0nd_3 : Fn) (p0nm_0 : Fn) (p0nm_1 : Fn) (p0nm_2 : Fn) (p0nm_3 : Fn) (p0nj_0 : Int32) (p0nj_1 : Fn) (p0nj_2 : Fn) (p0nj_3 : Fn) (p0h_1 : Int32) (p0h_2 : Int32) : Int32 × Int32 × Int32 × Fn × Fn × Fn × Fn × Fn × Fn × Fn × Fn × Int32 × Fn × Fn × Fn × Int32 × Int32 := (p0h_2, p0n_0, p0n_1, p0nd_0, p0nd_1, p0nd_2, p0nd_3, p0nm_0, p0nm_1, p0nm_2, p0nm_3, p0nj_0, p0nj_1, p0nj_2, p0nj_3, p0h_1, p0h_2)
def f_X8_undo (p0n_0 : Int32) (p0n_1 : Int32) (p0nd_0 : Fn) (p0nd_1 : Fn) (p0nd_2 : Fn) (p0nd_3 : Fn) (p0nm_0 : Fn) (p0nm_1 : Fn) (p0nm_2 : Fn) (p0nm_3 : Fn) (p0nj_0 : Int32) (p0nj_1 : Fn) (p0nj_2 : Fn) (p0nj_3 : Fn) (p0h_0 : Nat → Sit) (p0h_1 : Int32) (p0h_2 : Int32) : Int32 × Int32 × Int32 × Fn × Fn × Fn × Fn × Fn × Fn × Fn × Fn × Int32 × Fn × Fn × Fn × Int32 × Int32 := 
  if p0h_2 = 0 then ((-2 : Int32), p0n_0, p0n_1, p0nd_0, p0nd_1, p0nd_2, p0nd_3, p0nm_0, p0nm_1, p0nm_2, p0nm_3, p0nj_0, p0nj_1, p0nj_2, p0nj_3, p0h_1, p0h_2)
  else (f_X8_undo_C24 ((f_X2_recall p0h_0 p0h_1 p0h_2 p0n_0 p0n_1 p0nd_0 p0nd_1 p0nd_2 p0nd_3 p0nm_0 p0nm_1 p0nm_2 p0nm_3 p0nj_0 p0nj_1 p0nj_2 p0nj_3).2.2.1) ((f_X2_recall p0h_0 p0h_1 p0h_2 p0n_0 p0n_1 p0nd_0 p0nd_1 p0nd_2 p0nd_3 p0nm_0 p0nm_1 p0nm_2 p0nm_3 p0nj_0 p0nj_1 p0nj_2 p0nj_3).2.2.2.1) ((f_X2_recall p0h_0 p0h_1 p0h_2 p0n_0 p0n_1 p0nd_0 p0nd_1 p0nd_2 p0nd_3 p0nm_0 p0nm_1 p0nm_2 p0nm_3 p0nj_0 p0nj_1 p0nj_2 p0nj_3).2.2.2.2.1) ((f_X2_recall p0h_0 p0h_1 p0h_2 p0n_0 p0n_1 p0nd_0 p0nd_1 p0nd_2 p0nd_3 p0nm_0 p0nm_1 p0nm_2 p0nm_3 p0nj_0 p0nj_1 p0nj_2 p0nj_3).2.2.2.2.2.1) ((f_X2_recall p0h_0 p0h_1 p0h_2 p0n_0 p0n_1 p0nd_0 p0nd_1 p0nd_2 p0nd_3 p0nm_0 p0nm_1 p0nm_2 p0nm_3 p0nj_0 p0nj_1 p0nj_2 p0nj_3).2.2.2.2.2.2.1) ((f_X2_recall p0h_0 p0h_1 p0h_2 p0n_0 p0n_1 p0nd_0 p0nd_1 p0nd_2 p0nd_3 p0nm_0 p0nm_1 p0nm_2 p0nm_3 p0nj_0 p0nj_1 p0nj_2 p0nj_3).2.2.2.2.2.2.2.1) ((f_X2_recall p0h_0 p0h_1 p0h_2 p0n_0 p0n_1 p0nd_0 p0nd_1 p0nd_2 p0nd_3 p0nm_0 p0nm_1 p0nm_2 p0nm_3 p0nj_0 p0nj_1 p0nj_2 p0nj_3).2.2.2.2.2.2.2.2.1) ((f_X2_recall p0h_0 p0h_1 p0h_2 p0n_0 p0n_1 p0nd_0 p0nd_1 p0nd_2 p0nd_3 p0nm_0 p0nm_1 p0nm_2 p0nm_3 p0nj_0 p0nj_1 p0nj_2 p0nj_3).2.2.2.2.2.2.2.2.2.1) ((f_X2_recall p0h_0 p0h_1 p0h_2 p0n_0 p0n_1 p0nd_0 p0nd_1 p0nd_2 p0nd_3 p0nm_0 p0nm_1 p0nm_2 p0nm_3 p0nj_0 p0nj_1 p0nj_2 p0nj_3).2.2.2.2.2.2.2.2.2.2.1) ((f_X2_recall p0h_0 p0h_1 p0h_2 p0n_0 p0n_1 p0nd_0 p0nd_1 p0nd_2 p0nd_3 p0nm_0 p0nm_1 p0nm_2 p0nm_3 p0nj_0 p0nj_1 p0nj_2 p0nj_3).2.2.2.2.2.2.2.2.2.2.2.1) ((f_X2_recall p0h_0 p0h_1 p0h_2 p0n_0 p0n_1 p0nd_0 p0nd_1 p0nd_2 p0nd_3 p0nm_0 p0nm_1 p0nm_2 p0nm_3 p0nj_0 p0nj_1 p0nj_2 p0nj_3).2.2.2.2.2.2.2.2.2.2.2.2.1) ((f_X2_recall p0h_0 p0h_1 p0h_2 p0n_0 p0n_1 p0nd_0 p0nd_1 p0nd_2 p0nd_3 p0nm_0 p0nm_1 p0nm_2 p0nm_3 p0nj_0 p0nj_1 p0nj_2 p0nj_3).2.2.2.2.2.2.2.2.2.2.2.2.2.1) ((f_X2_recall p0h_0 p0h_1 p0h_2 p0n_0 p0n_1 p0nd_0 p0nd_1 p0nd_2 p0nd_3 p0nm_0 p0nm_1 p0nm_2 p0nm_3 p0nj_0 p0nj_1 p0nj_2 p0nj_3).2.2.2.2.2.2.2.2.2.2.2.2.2.2.1) ((f_X2_recall p0h_0 p0h_1 p0h_2 p0n_0 p0n_1 p0nd_0 p0nd_1 p0nd_2 p0nd_3 p0nm_0 p0nm_1 p0nm_2 p0nm_3 p0nj_0 p0nj_1 p0nj_2 p0nj_3).2.2.2.2.2.2.2.2.2.2.2.2.2.2.2) ((f_X2_recall p0h_0 p0h_1 p0h_2 p0n_0 p0n_1 p0nd_0 p0nd_1 p0nd_2 p0nd_3 p0nm_0 p0nm_1 p0nm_2 p0nm_3 p0nj_0 p0nj_1 p0nj_2 p0nj_3).1) ((f_X2_recall p0h_0 p0h_1 p0h_2 p0n_0 p0n_1 p0nd_0 p0nd_1 p0nd_2 p0nd_3 p0nm_0 p0nm_1 p0nm_2 p0nm_3 p0nj_0 p0nj_1 p0nj_2 p0nj_3).2.1))
def f_X8_field (p0nd_0 : Fn) (p0nd_3 : Fn) (p0nm_0 : Fn) (p0b_0 : Blk) (x1 : Int32) (x2 : Int32) : Int32 := 
  if (f_X8_isWithin x1 (p0b_0 0 1)) = 0 then (-1 : Int32)
  else 
   if x2 = (0 : Int32) then ((p0b_0 4) x1.toNatClampNeg)
   else 
    if x2 = (1 : Int32) then ((p0b_0 6) x1.toNatClampNeg)
    else 
     if x2 = (2 : Int32) then ((p0b_0 7) x1.toNatClampNeg)
     else 
      if x2 = (3 : Int32) then ((p0b_0 5) x1.toNatClampNeg)
      else 
       if x2 = (4 : Int32) then ((p0b_0 9) x1.toNatClampNeg)
       else 
        if x2 = (5 : Int32) then (f_X1_valueOf p0nd_0 p0b_0 x1)
        else 
         if x2 = (6 : Int32) then (f_X1_valueOf p0nm_0 p0b_0 x1)
         else 
          if x2 = (7 : Int32) then (p0nd_3 x1.toNatClampNeg)
          else (-1 : Int32)
def f_X8_register (p0nd_0 : Fn) (p0nd_1 : Fn) (p0b_0 : Blk) (x1 : Int32) (x2 : Int32) : Int32 := 
  if (f_X8_isWithin x1 (p0b_0 0 0)) = 0 then (-1 : Int32)
  else 
   if x2 = (0 : Int32) then ((p0b_0 1) x1.toNatClampNeg)
   else 
    if x2 = (1 : Int32) then ((p0b_0 2) x1.toNatClampNeg)
    else 
     if x2 = (2 : Int32) then ((p0b_0 3) x1.toNatClampNeg)
     else 
      if x2 = (3 : Int32) then 
       if (f_X1_isLocked p0nd_0 p0b_0 x1) = 0 then (0 : Int32)
       else (1 : Int32)
      else 
       if x2 = (4 : Int32) then (p0nd_1 x1.toNatClampNeg)
       else (-1 : Int32)
def f_X8_alias (p0b_0 : Blk) (x1 : Int32) (x2 : Int32) : Int32 := 
  if (f_X8_isWithin x1 (p0b_0 0 2)) = 0 then (-1 : Int32)
  else 
   if x2 = (0 : Int32) then ((p0b_0 10) x1.toNatClampNeg)
   else 
    if x2 = (1 : Int32) then ((p0b_0 11) x1.toNatClampNeg)
    else 
     if x2 = (2 : Int32) then ((p0b_0 12) x1.toNatClampNeg)
     else (-1 : Int32)
def f_X8_at (p0b_0 : Blk) (x1 : Int32) : Int32 := 
  if (f_X8_isWithin x1 (16 : Int32)) = 0 then (-1 : Int32)
  else 
   if (f_X0_aliasAt p0b_0 x1) = (-9 : Int32) then (f_X0_registerAt p0b_0 x1)
   else ((100 : Int32) + (f_X0_aliasAt p0b_0 x1))
def f_X8_peek (p0nd_0 : Fn) (p0nd_3 : Fn) (p0nm_0 : Fn) (p0nm_3 : Fn) (p0b_0 : Blk) (x1 : Int32) (x2 : Int32) : Int32 := 
  if (f_X8_isWithin x1 (16 : Int32)) = 0 then (-1 : Int32)
  else 
   if (f_X8_isWithin x2 (2 : Int32)) = 0 then (-1 : Int32)
   else 
    if x2 = 0 then (f_X1_look p0nd_0 p0nd_3 p0b_0 x1)
    else (f_X1_look p0nm_0 p0nm_3 p0b_0 x1)
def f_X8_differed (p0n_0 : Int32) (p0n_1 : Int32) (x1 : Int32) : Int32 := 
  if x1 = (0 : Int32) then p0n_0
  else 
   if x1 = (1 : Int32) then p0n_1
   else (-1 : Int32)
def f_X8_log (p0nj_0 : Int32) (p0nj_1 : Fn) (p0nj_2 : Fn) (p0nj_3 : Fn) (x1 : Int32) (x2 : Int32) : Int32 := 
  if x1 < 0 then (-1 : Int32)
  else 
   if (f_X8_isWithin x2 (3 : Int32)) = 0 then (-1 : Int32)
   else 
    if x1 < p0nj_0 then 
     if x2 = (0 : Int32) then (p0nj_1 x1.toNatClampNeg)
     else 
      if x2 = (1 : Int32) then 
       if (p0nj_2 x1.toNatClampNeg) = 0 then (0 : Int32)
       else (1 : Int32)
      else (p0nj_3 x1.toNatClampNeg)
    else (-9 : Int32)
def f_X8_wouldReadTheSame_C64 (p0v_3 : Fn) (s0 : Int32) (p0v_0 : Fn) (p0v_1 : Fn) (p0v_2 : Fn) : Int32 × Fn × Fn × Fn × Fn := (s0, p0v_0, p0v_1, p0v_2, p0v_3)
def f_X8_wouldReadTheSame_C46 (p0nj_0 : Int32) (p0nj_1 : Fn) (p0nj_2 : Fn) (p0nj_3 : Fn) (p0v_3 : Fn) (p0b_0 : Blk) (p0v_0 : Fn) (p0v_1 : Fn) (p0v_2 : Fn) : Int32 × Fn × Fn × Fn × Fn := (f_X8_wouldReadTheSame_C64 p0v_3 (f_X3_agreesWith p0nj_0 p0nj_1 p0nj_2 p0nj_3 p0v_0 p0v_1 p0v_2 p0v_3 p0b_0).1 ((f_X3_agreesWith p0nj_0 p0nj_1 p0nj_2 p0nj_3 p0v_0 p0v_1 p0v_2 p0v_3 p0b_0).2.1) ((f_X3_agreesWith p0nj_0 p0nj_1 p0nj_2 p0nj_3 p0v_0 p0v_1 p0v_2 p0v_3 p0b_0).2.2.1) ((f_X3_agreesWith p0nj_0 p0nj_1 p0nj_2 p0nj_3 p0v_0 p0v_1 p0v_2 p0v_3 p0b_0).2.2.2))
def f_X8_wouldReadTheSame_J35 (p0nj_0 : Int32) (p0nj_1 : Fn) (p0nj_2 : Fn) (p0nj_3 : Fn) (p0v_0 : Fn) (p0v_1 : Fn) (p0v_2 : Fn) (p0b_0 : Blk) (p0v_3 : Fn) : Int32 × Fn × Fn × Fn × Fn := (f_X8_wouldReadTheSame_C46 p0nj_0 p0nj_1 p0nj_2 p0nj_3 p0v_3 p0b_0 ((f_X1_restart p0v_0 p0v_1 p0v_2 p0b_0).1) ((f_X1_restart p0v_0 p0v_1 p0v_2 p0b_0).2.1) ((f_X1_restart p0v_0 p0v_1 p0v_2 p0b_0).2.2))
def f_X8_wouldReadTheSame (p0nj_0 : Int32) (p0nj_1 : Fn) (p0nj_2 : Fn) (p0nj_3 : Fn) (p0v_0 : Fn) (p0v_1 : Fn) (p0v_2 : Fn) (p0v_3 : Fn) (p0b_0 : Blk) (x1 : Int32) (x2 : Int32) : Int32 × Fn × Fn × Fn × Fn := 
  if (f_X8_isWithin x1 (p0b_0 0 1)) = 0 then (f_X8_wouldReadTheSame_J35 p0nj_0 p0nj_1 p0nj_2 p0nj_3 p0v_0 p0v_1 p0v_2 p0b_0 (f_X1_mend p0v_3 p0b_0))
  else (f_X8_wouldReadTheSame_J35 p0nj_0 p0nj_1 p0nj_2 p0nj_3 p0v_0 p0v_1 p0v_2 p0b_0 (upd (f_X1_mend p0v_3 p0b_0) x1.toNatClampNeg x2))
def f_X8_suspects_C23 (s0 : Int32) (p0v_0 : Fn) (p0v_1 : Fn) (p0v_2 : Fn) (p0v_3 : Fn) : Int32 × Fn × Fn × Fn × Fn := 
    if s0 = 0 then ((0 : Int32), p0v_0, p0v_1, p0v_2, p0v_3)
    else ((1 : Int32), p0v_0, p0v_1, p0v_2, p0v_3)
def f_X8_suspects_C78 (x1 : Int32) (x2 : Int32) (x3 : Int32) (x4 : Int32) (k50 : Int32 → Int32 → Fn → Fn → Fn → Fn → (Int32 × Fn × Fn × Fn × Fn)) (s0 : Int32) (p0v_0 : Fn) (p0v_1 : Fn) (p0v_2 : Fn) (p0v_3 : Fn) : Int32 × Fn × Fn × Fn × Fn := 
    if s0 = 0 then (k50 x2 (x4 + (1 : Int32)) p0v_0 p0v_1 p0v_2 p0v_3)
    else 
     if x1 = (1 : Int32) then ((((8 : Int32) * x3) + x4), p0v_0, p0v_1, p0v_2, p0v_3)
     else (k50 (x2 + (1 : Int32)) (x4 + (1 : Int32)) p0v_0 p0v_1 p0v_2 p0v_3)
def f_X8_suspects_L50 (p0nj_0 : Int32) (p0nj_1 : Fn) (p0nj_2 : Fn) (p0nj_3 : Fn) (p0b_0 : Blk) (x1 : Int32) (x3 : Int32) (k36 : Int32 → Int32 → Fn → Fn → Fn → Fn → (Int32 × Fn × Fn × Fn × Fn)) : Nat → Int32 → Int32 → Fn → Fn → Fn → Fn → Int32 × Fn × Fn × Fn × Fn
  | 0, _, _, p0v_0, p0v_1, p0v_2, p0v_3 => (0, p0v_0, p0v_1, p0v_2, p0v_3)
  | n + 1, x2, x4, p0v_0, p0v_1, p0v_2, p0v_3 => 
    if (8 : Int32) ≤ x4 then (k36 x2 (x3 + (1 : Int32)) p0v_0 p0v_1 p0v_2 p0v_3)
    else 
     if x4 = ((p0b_0 5) x3.toNatClampNeg) then ((f_X8_suspects_L50 p0nj_0 p0nj_1 p0nj_2 p0nj_3 p0b_0 x1 x3 k36 n) x2 (x4 + (1 : Int32)) p0v_0 p0v_1 p0v_2 p0v_3)
     else (f_X8_suspects_C78 x1 x2 x3 x4 (f_X8_suspects_L50 p0nj_0 p0nj_1 p0nj_2 p0nj_3 p0b_0 x1 x3 k36 n) (f_X8_wouldReadTheSame p0nj_0 p0nj_1 p0nj_2 p0nj_3 p0v_0 p0v_1 p0v_2 p0v_3 p0b_0 x3 x4).1 ((f_X8_wouldReadTheSame p0nj_0 p0nj_1 p0nj_2 p0nj_3 p0v_0 p0v_1 p0v_2 p0v_3 p0b_0 x3 x4).2.1) ((f_X8_wouldReadTheSame p0nj_0 p0nj_1 p0nj_2 p0nj_3 p0v_0 p0v_1 p0v_2 p0v_3 p0b_0 x3 x4).2.2.1) ((f_X8_wouldReadTheSame p0nj_0 p0nj_1 p0nj_2 p0nj_3 p0v_0 p0v_1 p0v_2 p0v_3 p0b_0 x3 x4).2.2.2.1) ((f_X8_wouldReadTheSame p0nj_0 p0nj_1 p0nj_2 p0nj_3 p0v_0 p0v_1 p0v_2 p0v_3 p0b_0 x3 x4).2.2.2.2))
def f_X8_suspects_L36 (p0nj_0 : Int32) (p0nj_1 : Fn) (p0nj_2 : Fn) (p0nj_3 : Fn) (p0b_0 : Blk) (x1 : Int32) : Nat → Int32 → Int32 → Fn → Fn → Fn → Fn → Int32 × Fn × Fn × Fn × Fn
  | 0, _, _, p0v_0, p0v_1, p0v_2, p0v_3 => (0, p0v_0, p0v_1, p0v_2, p0v_3)
  | n + 1, x2, x3, p0v_0, p0v_1, p0v_2, p0v_3 => 
    if (p0b_0 0 1) ≤ x3 then 
     if x1 = (1 : Int32) then ((-9 : Int32), p0v_0, p0v_1, p0v_2, p0v_3)
     else (x2, p0v_0, p0v_1, p0v_2, p0v_3)
    else (f_X8_suspects_L50 p0nj_0 p0nj_1 p0nj_2 p0nj_3 p0b_0 x1 x3 (f_X8_suspects_L36 p0nj_0 p0nj_1 p0nj_2 p0nj_3 p0b_0 x1 n) 4000 x2 (0 : Int32) p0v_0 p0v_1 p0v_2 p0v_3)
def f_X8_suspects (p0nj_0 : Int32) (p0nj_1 : Fn) (p0nj_2 : Fn) (p0nj_3 : Fn) (p0v_0 : Fn) (p0v_1 : Fn) (p0v_2 : Fn) (p0v_3 : Fn) (p0b_0 : Blk) (x1 : Int32) : Int32 × Fn × Fn × Fn × Fn := 
  if (f_X8_isWithin x1 (3 : Int32)) = 0 then ((-1 : Int32), p0v_0, p0v_1, p0v_2, p0v_3)
  else 
   if x1 = (2 : Int32) then (f_X8_suspects_C23 (f_X8_wouldReadTheSame p0nj_0 p0nj_1 p0nj_2 p0nj_3 p0v_0 p0v_1 p0v_2 p0v_3 p0b_0 (-9 : Int32) (-9 : Int32)).1 ((f_X8_wouldReadTheSame p0nj_0 p0nj_1 p0nj_2 p0nj_3 p0v_0 p0v_1 p0v_2 p0v_3 p0b_0 (-9 : Int32) (-9 : Int32)).2.1) ((f_X8_wouldReadTheSame p0nj_0 p0nj_1 p0nj_2 p0nj_3 p0v_0 p0v_1 p0v_2 p0v_3 p0b_0 (-9 : Int32) (-9 : Int32)).2.2.1) ((f_X8_wouldReadTheSame p0nj_0 p0nj_1 p0nj_2 p0nj_3 p0v_0 p0v_1 p0v_2 p0v_3 p0b_0 (-9 : Int32) (-9 : Int32)).2.2.2.1) ((f_X8_wouldReadTheSame p0nj_0 p0nj_1 p0nj_2 p0nj_3 p0v_0 p0v_1 p0v_2 p0v_3 p0b_0 (-9 : Int32) (-9 : Int32)).2.2.2.2))
   else (f_X8_suspects_L36 p0nj_0 p0nj_1 p0nj_2 p0nj_3 p0b_0 x1 4000 (0 : Int32) (0 : Int32) p0v_0 p0v_1 p0v_2 p0v_3)
def f_X8_clashes_L19 (p0b_0 : Blk) (x1 : Int32) : Nat → Int32 → Int32 → Int32 → Int32
  | 0, _, _, _ => 0
  | n + 1, x2, x3, x4 => 
    if x4 < 0 then 
     if x1 = 0 then x2
     else x3
    else 
     if (f_X0_holdersOf p0b_0 x4) ≤ (1 : Int32) then ((f_X8_clashes_L19 p0b_0 x1 n) x2 x3 (x4 + (-1 : Int32)))
     else ((f_X8_clashes_L19 p0b_0 x1 n) (x2 + (1 : Int32)) x4 (x4 + (-1 : Int32)))
def f_X8_clashes (p0b_0 : Blk) (x1 : Int32) : Int32 := 
  if (f_X8_isWithin x1 (2 : Int32)) = 0 then (-1 : Int32)
  else (f_X8_clashes_L19 p0b_0 x1 4000 (0 : Int32) (-9 : Int32) (15 : Int32))
def f_X8_touched_C27 (s0 : Int32) (p0v_0 : Fn) (p0v_1 : Fn) (p0v_2 : Fn) (p0v_3 : Fn) : Int32 × Fn × Fn × Fn × Fn := (s0, p0v_0, p0v_1, p0v_2, p0v_3)
def f_X8_touched (p0nd_0 : Fn) (p0nd_1 : Fn) (p0nd_2 : Fn) (p0nd_3 : Fn) (p0v_0 : Fn) (p0v_1 : Fn) (p0v_2 : Fn) (p0v_3 : Fn) (p0b_0 : Blk) (x1 : Int32) (x2 : Int32) : Int32 × Fn × Fn × Fn × Fn := 
  if (f_X8_isWithin x1 (16 : Int32)) = 0 then ((-1 : Int32), p0v_0, p0v_1, p0v_2, p0v_3)
  else 
   if (f_X8_isWithin x2 (256 : Int32)) = 0 then ((-1 : Int32), p0v_0, p0v_1, p0v_2, p0v_3)
   else (f_X8_touched_C27 (f_X8_changedBy p0nd_0 p0nd_1 p0nd_2 p0nd_3 p0v_0 p0v_1 p0v_2 p0v_3 p0b_0 x1 x2).1 ((f_X8_changedBy p0nd_0 p0nd_1 p0nd_2 p0nd_3 p0v_0 p0v_1 p0v_2 p0v_3 p0b_0 x1 x2).2.1) ((f_X8_changedBy p0nd_0 p0nd_1 p0nd_2 p0nd_3 p0v_0 p0v_1 p0v_2 p0v_3 p0b_0 x1 x2).2.2.1) ((f_X8_changedBy p0nd_0 p0nd_1 p0nd_2 p0nd_3 p0v_0 p0v_1 p0v_2 p0v_3 p0b_0 x1 x2).2.2.2.1) ((f_X8_changedBy p0nd_0 p0nd_1 p0nd_2 p0nd_3 p0v_0 p0v_1 p0v_2 p0v_3 p0b_0 x1 x2).2.2.2.2))
def f_X8_byteThatGives_C59 (p0v_3 : Fn) (p0b_0 : Blk) (x2 : Int32) (x3 : Int32) (x5 : Int32) (k24 : Int32 → Fn → Fn → Fn → Fn → (Int32 × Fn × Fn × Fn × Fn)) (p0v_0 : Fn) (p0v_1 : Fn) (p0v_2 : Fn) : Int32 × Fn × Fn × Fn × Fn := 
    if (f_X1_valueOf p0v_0 p0b_0 x2) = x3 then (x5, p0v_0, p0v_1, p0v_2, p0v_3)
    else (k24 (x5 + (1 : Int32)) p0v_0 p0v_1 p0v_2 p0v_3)
def f_X8_byteThatGives_C45 (p0b_0 : Blk) (x1 : Int32) (x2 : Int32) (x3 : Int32) (x5 : Int32) (k24 : Int32 → Fn → Fn → Fn → Fn → (Int32 × Fn × Fn × Fn × Fn)) (p0v_0 : Fn) (p0v_1 : Fn) (p0v_2 : Fn) (p0v_3 : Fn) : Int32 × Fn × Fn × Fn × Fn := (f_X8_byteThatGives_C59 p0v_3 p0b_0 x2 x3 x5 k24 ((f_X1_write p0v_0 p0v_1 p0v_2 p0v_3 p0b_0 x1 x5).1) ((f_X1_write p0v_0 p0v_1 p0v_2 p0v_3 p0b_0 x1 x5).2.1) ((f_X1_write p0v_0 p0v_1 p0v_2 p0v_3 p0b_0 x1 x5).2.2))
def f_X8_byteThatGives_L24 (p0nd_0 : Fn) (p0nd_1 : Fn) (p0nd_2 : Fn) (p0nd_3 : Fn) (p0b_0 : Blk) (x1 : Int32) (x2 : Int32) (x3 : Int32) (x4 : Int32) : Nat → Int32 → Fn → Fn → Fn → Fn → Int32 × Fn × Fn × Fn × Fn
  | 0, _, p0v_0, p0v_1, p0v_2, p0v_3 => (0, p0v_0, p0v_1, p0v_2, p0v_3)
  | n + 1, x5, p0v_0, p0v_1, p0v_2, p0v_3 => 
    if x4 ≤ x5 then ((-9 : Int32), p0v_0, p0v_1, p0v_2, p0v_3)
    else (f_X8_byteThatGives_C45 p0b_0 x1 x2 x3 x5 (f_X8_byteThatGives_L24 p0nd_0 p0nd_1 p0nd_2 p0nd_3 p0b_0 x1 x2 x3 x4 n) ((f_X1_copyFrom p0v_0 p0v_1 p0v_2 p0v_3 p0nd_0 p0nd_1 p0nd_2 p0nd_3).1) ((f_X1_copyFrom p0v_0 p0v_1 p0v_2 p0v_3 p0nd_0 p0nd_1 p0nd_2 p0nd_3).2.1) ((f_X1_copyFrom p0v_0 p0v_1 p0v_2 p0v_3 p0nd_0 p0nd_1 p0nd_2 p0nd_3).2.2.1) ((f_X1_copyFrom p0v_0 p0v_1 p0v_2 p0v_3 p0nd_0 p0nd_1 p0nd_2 p0nd_3).2.2.2))
def f_X8_byteThatGives_J19 (p0nd_0 : Fn) (p0nd_1 : Fn) (p0nd_2 : Fn) (p0nd_3 : Fn) (p0v_0 : Fn) (p0v_1 : Fn) (p0v_2 : Fn) (p0v_3 : Fn) (p0b_0 : Blk) (x1 : Int32) (x2 : Int32) (x3 : Int32) (s0 : Int32) : Int32 × Fn × Fn × Fn × Fn := (f_X8_byteThatGives_L24 p0nd_0 p0nd_1 p0nd_2 p0nd_3 p0b_0 x1 x2 x3 s0 4000 (0 : Int32) p0v_0 p0v_1 p0v_2 p0v_3)
def f_X8_byteThatGives (p0nd_0 : Fn) (p0nd_1 : Fn) (p0nd_2 : Fn) (p0nd_3 : Fn) (p0v_0 : Fn) (p0v_1 : Fn) (p0v_2 : Fn) (p0v_3 : Fn) (p0b_0 : Blk) (x1 : Int32) (x2 : Int32) (x3 : Int32) : Int32 × Fn × Fn × Fn × Fn := 
  if (f_X0_canReach p0b_0 x1 x2) = 0 then (f_X8_byteThatGives_J19 p0nd_0 p0nd_1 p0nd_2 p0nd_3 p0v_0 p0v_1 p0v_2 p0v_3 p0b_0 x1 x2 x3 (1 : Int32))
  else (f_X8_byteThatGives_J19 p0nd_0 p0nd_1 p0nd_2 p0nd_3 p0v_0 p0v_1 p0v_2 p0v_3 p0b_0 x1 x2 x3 (256 : Int32))
def f_X8_way_C29 (x3 : Int32) (k16 : Int32 → Fn → Fn → Fn → Fn → (Int32 × Fn × Fn × Fn × Fn)) (s0 : Int32) (p0v_0 : Fn) (p0v_1 : Fn) (p0v_2 : Fn) (p0v_3 : Fn) : Int32 × Fn × Fn × Fn × Fn := 
    if s0 = (-9 : Int32) then (k16 (x3 + (1 : Int32)) p0v_0 p0v_1 p0v_2 p0v_3)
    else ((((256 : Int32) * x3) + s0), p0v_0, p0v_1, p0v_2, p0v_3)
def f_X8_way_L16 (p0nd_0 : Fn) (p0nd_1 : Fn) (p0nd_2 : Fn) (p0nd_3 : Fn) (p0b_0 : Blk) (x1 : Int32) (x2 : Int32) : Nat → Int32 → Fn → Fn → Fn → Fn → Int32 × Fn × Fn × Fn × Fn
  | 0, _, p0v_0, p0v_1, p0v_2, p0v_3 => (0, p0v_0, p0v_1, p0v_2, p0v_3)
  | n + 1, x3, p0v_0, p0v_1, p0v_2, p0v_3 => 
    if (16 : Int32) ≤ x3 then ((-9 : Int32), p0v_0, p0v_1, p0v_2, p0v_3)
    else (f_X8_way_C29 x3 (f_X8_way_L16 p0nd_0 p0nd_1 p0nd_2 p0nd_3 p0b_0 x1 x2 n) (f_X8_byteThatGives p0nd_0 p0nd_1 p0nd_2 p0nd_3 p0v_0 p0v_1 p0v_2 p0v_3 p0b_0 x3 x1 x2).1 ((f_X8_byteThatGives p0nd_0 p0nd_1 p0nd_2 p0nd_3 p0v_0 p0v_1 p0v_2 p0v_3 p0b_0 x3 x1 x2).2.1) ((f_X8_byteThatGives p0nd_0 p0nd_1 p0nd_2 p0nd_3 p0v_0 p0v_1 p0v_2 p0v_3 p0b_0 x3 x1 x2).2.2.1) ((f_X8_byteThatGives p0nd_0 p0nd_1 p0nd_2 p0nd_3 p0v_0 p0v_1 p0v_2 p0v_3 p0b_0 x3 x1 x2).2.2.2.1) ((f_X8_byteThatGives p0nd_0 p0nd_1 p0nd_2 p0nd_3 p0v_0 p0v_1 p0v_2 p0v_3 p0b_0 x3 x1 x2).2.2.2.2))
def f_X8_way (p0nd_0 : Fn) (p0nd_1 : Fn) (p0nd_2 : Fn) (p0nd_3 : Fn) (p0v_0 : Fn) (p0v_1 : Fn) (p0v_2 : Fn) (p0v_3 : Fn) (p0b_0 : Blk) (x1 : Int32) (x2 : Int32) : Int32 × Fn × Fn × Fn × Fn := 
  if (f_X0_canHold p0b_0 x1 x2) = 0 then ((-1 : Int32), p0v_0, p0v_1, p0v_2, p0v_3)
  else (f_X8_way_L16 p0nd_0 p0nd_1 p0nd_2 p0nd_3 p0b_0 x1 x2 4000 (0 : Int32) p0v_0 p0v_1 p0v_2 p0v_3)
def f_X8_walkedBits_L58 (p0b_0 : Blk) (x1 : Int32) : Nat → Int32 → Int32 → Int32
  | 0, _, _ => 0
  | n + 1, x2, x3 => 
    if (p0b_0 0 1) ≤ x3 then x2
    else 
     if ((p0b_0 4) x3.toNatClampNeg) = x1 then 
      if ((p0b_0 5) x3.toNatClampNeg) = (2 : Int32) then (0 : Int32)
      else 
       if ((p0b_0 5) x3.toNatClampNeg) = (6 : Int32) then (0 : Int32)
       else 
        if ((p0b_0 5) x3.toNatClampNeg) = (7 : Int32) then (0 : Int32)
        else 
         if (f_X0_isGate p0b_0 x3) = 0 then 
          if ((p0b_0 5) x3.toNatClampNeg) = 0 then 
           if (f_X0_isLock p0b_0 x3) = 0 then ((f_X8_walkedBits_L58 p0b_0 x1 n) (x2 ||| ((p0b_0 8) x3.toNatClampNeg)) (x3 + (1 : Int32)))
           else ((f_X8_walkedBits_L58 p0b_0 x1 n) x2 (x3 + (1 : Int32)))
          else ((f_X8_walkedBits_L58 p0b_0 x1 n) x2 (x3 + (1 : Int32)))
         else (0 : Int32)
     else ((f_X8_walkedBits_L58 p0b_0 x1 n) x2 (x3 + (1 : Int32)))
def f_X8_walkedBits (p0nm_0 : Fn) (p0b_0 : Blk) (x1 : Int32) : Int32 := 
  if (f_X0_registerAt p0b_0 ((p0b_0 1) x1.toNatClampNeg)) = x1 then 
   if ((p0b_0 3) x1.toNatClampNeg) = (-9 : Int32) then 
    if (f_X1_isLocked p0nm_0 p0b_0 x1) = 0 then (f_X8_walkedBits_L58 p0b_0 x1 4000 (0 : Int32) (0 : Int32))
    else (0 : Int32)
   else (0 : Int32)
  else (0 : Int32)
def f_X8_stepOfWalk (p0nm_0 : Fn) (p0nm_3 : Fn) (p0b_0 : Blk) (x1 : Int32) (x2 : Int32) (x3 : Int32) : Int32 := 
  if x3 = (0 : Int32) then ((p0b_0 1) x1.toNatClampNeg)
  else 
   if x3 = (1 : Int32) then (((p0nm_0 x1.toNatClampNeg) &&& (f_X0_plainBits p0b_0 x1)) ^^^ x2)
   else ((f_X1_shown p0nm_0 p0nm_3 p0b_0 x1) ^^^ x2)
def f_X8_walk_L43 (p0nm_0 : Fn) (p0nm_3 : Fn) (p0b_0 : Blk) (x1 : Int32) (x2 : Int32) (x4 : Int32) (x5 : Int32) (k20 : Int32 → Int32 → Int32) : Nat → Int32 → Int32 → Int32
  | 0, _, _ => 0
  | n + 1, x3, x6 => 
    if (8 : Int32) ≤ x6 then (k20 x3 (x4 + (1 : Int32)))
    else 
     if (x5 &&& ((1 : Int32) <<< (x6 &&& 31))) = 0 then ((f_X8_walk_L43 p0nm_0 p0nm_3 p0b_0 x1 x2 x4 x5 k20 n) x3 (x6 + (1 : Int32)))
     else 
      if x3 = x1 then (f_X8_stepOfWalk p0nm_0 p0nm_3 p0b_0 x4 ((1 : Int32) <<< (x6 &&& 31)) x2)
      else ((f_X8_walk_L43 p0nm_0 p0nm_3 p0b_0 x1 x2 x4 x5 k20 n) (x3 + (1 : Int32)) (x6 + (1 : Int32)))
def f_X8_walk_L20 (p0nm_0 : Fn) (p0nm_3 : Fn) (p0b_0 : Blk) (x1 : Int32) (x2 : Int32) : Nat → Int32 → Int32 → Int32
  | 0, _, _ => 0
  | n + 1, x3, x4 => 
    if (p0b_0 0 0) ≤ x4 then 
     if x1 = (-1 : Int32) then x3
     else (-9 : Int32)
    else (f_X8_walk_L43 p0nm_0 p0nm_3 p0b_0 x1 x2 x4 (f_X8_walkedBits p0nm_0 p0b_0 x4) (f_X8_walk_L20 p0nm_0 p0nm_3 p0b_0 x1 x2 n) 4000 x3 (0 : Int32))
def f_X8_walk (p0nm_0 : Fn) (p0nm_3 : Fn) (p0b_0 : Blk) (x1 : Int32) (x2 : Int32) : Int32 := 
  if x1 < (-1 : Int32) then (-1 : Int32)
  else 
   if (f_X8_isWithin x2 (3 : Int32)) = 0 then (-1 : Int32)
   else (f_X8_walk_L20 p0nm_0 p0nm_3 p0b_0 x1 x2 4000 (0 : Int32) (0 : Int32))
def f_X8_count (p0t_1 : Int32) (p0nd_3 : Fn) (p0nj_0 : Int32) (p0h_2 : Int32) (p0b_0 : Blk) (x1 : Int32) : Int32 := 
  if x1 = (0 : Int32) then (p0b_0 0 0)
  else 
   if x1 = (1 : Int32) then (p0b_0 0 1)
   else 
    if x1 = (2 : Int32) then (p0b_0 0 2)
    else 
     if x1 = (3 : Int32) then (f_X0_bitsOfFields p0b_0)
     else 
      if x1 = (4 : Int32) then p0nj_0
      else 
       if x1 = (5 : Int32) then (f_X1_brokenFields p0nd_3 p0b_0)
       else 
        if x1 = (6 : Int32) then p0t_1
        else 
         if x1 = (7 : Int32) then p0h_2
         else (-1 : Int32)
def f_X8_keepV_C23 (p0nj_0 : Int32) (p0i_0 : Fn) (x1 : Int32) (p0e_0 : Int32) (p0e_1 : Int32) (p0ed_0 : Fn) (p0ed_1 : Fn) (p0ed_2 : Fn) (p0ed_3 : Fn) (p0em_0 : Fn) (p0em_1 : Fn) (p0em_2 : Fn) (p0em_3 : Fn) (p0ej_0 : Int32) (p0ej_1 : Fn) (p0ej_2 : Fn) (p0ej_3 : Fn) : Int32 × Fn × Int32 × Int32 × Fn × Fn × Fn × Fn × Fn × Fn × Fn × Fn × Int32 × Fn × Fn × Fn := (p0nj_0, (upd p0i_0 x1.toNatClampNeg (vp_nar .boolean (1 : Int32))), p0e_0, p0e_1, p0ed_0, p0ed_1, p0ed_2, p0ed_3, p0em_0, p0em_1, p0em_2, p0em_3, p0ej_0, p0ej_1, p0ej_2, p0ej_3)
def f_X8_keepV (p0n_0 : Int32) (p0n_1 : Int32) (p0nd_0 : Fn) (p0nd_1 : Fn) (p0nd_2 : Fn) (p0nd_3 : Fn) (p0nm_0 : Fn) (p0nm_1 : Fn) (p0nm_2 : Fn) (p0nm_3 : Fn) (p0nj_0 : Int32) (p0nj_1 : Fn) (p0nj_2 : Fn) (p0nj_3 : Fn) (p0i_0 : Fn) (p0e_0 : Int32) (p0e_1 : Int32) (p0ed_0 : Fn) (p0ed_1 : Fn) (p0ed_2 : Fn) (p0ed_3 : Fn) (p0em_0 : Fn) (p0em_1 : Fn) (p0em_2 : Fn) (p0em_3 : Fn) (p0ej_0 : Int32) (p0ej_1 : Fn) (p0ej_2 : Fn) (p0ej_3 : Fn) (x1 : Int32) : Int32 × Fn × Int32 × Int32 × Fn × Fn × Fn × Fn × Fn × Fn × Fn × Fn × Int32 × Fn × Fn × Fn := 
  if (f_X8_isWithin x1 (2 : Int32)) = 0 then ((-1 : Int32), p0i_0, p0e_0, p0e_1, p0ed_0, p0ed_1, p0ed_2, p0ed_3, p0em_0, p0em_1, p0em_2, p0em_3, p0ej_0, p0ej_1, p0ej_2, p0ej_3)
  else (f_X8_keepV_C23 p0nj_0 p0i_0 x1 ((f_X5_copyFrom p0ed_0 p0ed_1 p0ed_2 p0ed_3 p0em_0 p0em_1 p0em_2 p0em_3 p0ej_1 p0ej_2 p0ej_3 p0n_0 p0n_1 p0nd_0 p0nd_1 p0nd_2 p0nd_3 p0nm_0 p0nm_1 p0nm_2 p0nm_3 p0nj_0 p0nj_1 p0nj_2 p0nj_3).1) ((f_X5_copyFrom p0ed_0 p0ed_1 p0ed_2 p0ed_3 p0em_0 p0em_1 p0em_2 p0em_3 p0ej_1 p0ej_2 p0ej_3 p0n_0 p0n_1 p0nd_0 p0nd_1 p0nd_2 p0nd_3 p0nm_0 p0nm_1 p0nm_2 p0nm_3 p0nj_0 p0nj_1 p0nj_2 p0nj_3).2.1) ((f_X5_copyFrom p0ed_0 p0ed_1 p0ed_2 p0ed_3 p0em_0 p0em_1 p0em_2 p0em_3 p0ej_1 p0ej_2 p0ej_3 p0n_0 p0n_1 p0nd_0 p0nd_1 p0nd_2 p0nd_3 p0nm_0 p0nm_1 p0nm_2 p0nm_3 p0nj_0 p0nj_1 p0nj_2 p0nj_3).2.2.1) ((f_X5_copyFrom p0ed_0 p0ed_1 p0ed_2 p0ed_3 p0em_0 p0em_1 p0em_2 p0em_3 p0ej_1 p0ej_2 p0ej_3 p0n_0 p0n_1 p0nd_0 p0nd_1 p0nd_2 p0nd_3 p0nm_0 p0nm_1 p0nm_2 p0nm_3 p0nj_0 p0nj_1 p0nj_2 p0nj_3).2.2.2.1) ((f_X5_copyFrom p0ed_0 p0ed_1 p0ed_2 p0ed_3 p0em_0 p0em_1 p0em_2 p0em_3 p0ej_1 p0ej_2 p0ej_3 p0n_0 p0n_1 p0nd_0 p0nd_1 p0nd_2 p0nd_3 p0nm_0 p0nm_1 p0nm_2 p0nm_3 p0nj_0 p0nj_1 p0nj_2 p0nj_3).2.2.2.2.1) ((f_X5_copyFrom p0ed_0 p0ed_1 p0ed_2 p0ed_3 p0em_0 p0em_1 p0em_2 p0em_3 p0ej_1 p0ej_2 p0ej_3 p0n_0 p0n_1 p0nd_0 p0nd_1 p0nd_2 p0nd_3 p0nm_0 p0nm_1 p0nm_2 p0nm_3 p0nj_0 p0nj_1 p0nj_2 p0nj_3).2.2.2.2.2.1) ((f_X5_copyFrom p0ed_0 p0ed_1 p0ed_2 p0ed_3 p0em_0 p0em_1 p0em_2 p0em_3 p0ej_1 p0ej_2 p0ej_3 p0n_0 p0n_1 p0nd_0 p0nd_1 p0nd_2 p0nd_3 p0nm_0 p0nm_1 p0nm_2 p0nm_3 p0nj_0 p0nj_1 p0nj_2 p0nj_3).2.2.2.2.2.2.1) ((f_X5_copyFrom p0ed_0 p0ed_1 p0ed_2 p0ed_3 p0em_0 p0em_1 p0em_2 p0em_3 p0ej_1 p0ej_2 p0ej_3 p0n_0 p0n_1 p0nd_0 p0nd_1 p0nd_2 p0nd_3 p0nm_0 p0nm_1 p0nm_2 p0nm_3 p0nj_0 p0nj_1 p0nj_2 p0nj_3).2.2.2.2.2.2.2.1) ((f_X5_copyFrom p0ed_0 p0ed_1 p0ed_2 p0ed_3 p0em_0 p0em_1 p0em_2 p0em_3 p0ej_1 p0ej_2 p0ej_3 p0n_0 p0n_1 p0nd_0 p0nd_1 p0nd_2 p0nd_3 p0nm_0 p0nm_1 p0nm_2 p0nm_3 p0nj_0 p0nj_1 p0nj_2 p0nj_3).2.2.2.2.2.2.2.2.1) ((f_X5_copyFrom p0ed_0 p0ed_1 p0ed_2 p0ed_3 p0em_0 p0em_1 p0em_2 p0em_3 p0ej_1 p0ej_2 p0ej_3 p0n_0 p0n_1 p0nd_0 p0nd_1 p0nd_2 p0nd_3 p0nm_0 p0nm_1 p0nm_2 p0nm_3 p0nj_0 p0nj_1 p0nj_2 p0nj_3).2.2.2.2.2.2.2.2.2.1) ((f_X5_copyFrom p0ed_0 p0ed_1 p0ed_2 p0ed_3 p0em_0 p0em_1 p0em_2 p0em_3 p0ej_1 p0ej_2 p0ej_3 p0n_0 p0n_1 p0nd_0 p0nd_1 p0nd_2 p0nd_3 p0nm_0 p0nm_1 p0nm_2 p0nm_3 p0nj_0 p0nj_1 p0nj_2 p0nj_3).2.2.2.2.2.2.2.2.2.2.1) ((f_X5_copyFrom p0ed_0 p0ed_1 p0ed_2 p0ed_3 p0em_0 p0em_1 p0em_2 p0em_3 p0ej_1 p0ej_2 p0ej_3 p0n_0 p0n_1 p0nd_0 p0nd_1 p0nd_2 p0nd_3 p0nm_0 p0nm_1 p0nm_2 p0nm_3 p0nj_0 p0nj_1 p0nj_2 p0nj_3).2.2.2.2.2.2.2.2.2.2.2.1) ((f_X5_copyFrom p0ed_0 p0ed_1 p0ed_2 p0ed_3 p0em_0 p0em_1 p0em_2 p0em_3 p0ej_1 p0ej_2 p0ej_3 p0n_0 p0n_1 p0nd_0 p0nd_1 p0nd_2 p0nd_3 p0nm_0 p0nm_1 p0nm_2 p0nm_3 p0nj_0 p0nj_1 p0nj_2 p0nj_3).2.2.2.2.2.2.2.2.2.2.2.2.1) ((f_X5_copyFrom p0ed_0 p0ed_1 p0ed_2 p0ed_3 p0em_0 p0em_1 p0em_2 p0em_3 p0ej_1 p0ej_2 p0ej_3 p0n_0 p0n_1 p0nd_0 p0nd_1 p0nd_2 p0nd_3 p0nm_0 p0nm_1 p0nm_2 p0nm_3 p0nj_0 p0nj_1 p0nj_2 p0nj_3).2.2.2.2.2.2.2.2.2.2.2.2.2))
def f_X8_backV_C35 (p0n_0 : Int32) (p0n_1 : Int32) (p0nd_0 : Fn) (p0nd_1 : Fn) (p0nd_2 : Fn) (p0nd_3 : Fn) (p0nm_0 : Fn) (p0nm_1 : Fn) (p0nm_2 : Fn) (p0nm_3 : Fn) (p0nj_0 : Int32) (p0nj_1 : Fn) (p0nj_2 : Fn) (p0nj_3 : Fn) : Int32 × Int32 × Int32 × Fn × Fn × Fn × Fn × Fn × Fn × Fn × Fn × Int32 × Fn × Fn × Fn × Int32 := (p0nj_0, p0n_0, p0n_1, p0nd_0, p0nd_1, p0nd_2, p0nd_3, p0nm_0, p0nm_1, p0nm_2, p0nm_3, p0nj_0, p0nj_1, p0nj_2, p0nj_3, f_X2_forget)
def f_X8_backV (p0n_0 : Int32) (p0n_1 : Int32) (p0nd_0 : Fn) (p0nd_1 : Fn) (p0nd_2 : Fn) (p0nd_3 : Fn) (p0nm_0 : Fn) (p0nm_1 : Fn) (p0nm_2 : Fn) (p0nm_3 : Fn) (p0nj_0 : Int32) (p0nj_1 : Fn) (p0nj_2 : Fn) (p0nj_3 : Fn) (p0h_2 : Int32) (p0i_0 : Fn) (p0e_0 : Int32) (p0e_1 : Int32) (p0ed_0 : Fn) (p0ed_1 : Fn) (p0ed_2 : Fn) (p0ed_3 : Fn) (p0em_0 : Fn) (p0em_1 : Fn) (p0em_2 : Fn) (p0em_3 : Fn) (p0ej_0 : Int32) (p0ej_1 : Fn) (p0ej_2 : Fn) (p0ej_3 : Fn) (x1 : Int32) : Int32 × Int32 × Int32 × Fn × Fn × Fn × Fn × Fn × Fn × Fn × Fn × Int32 × Fn × Fn × Fn × Int32 := 
  if (f_X8_isWithin x1 (2 : Int32)) = 0 then ((-1 : Int32), p0n_0, p0n_1, p0nd_0, p0nd_1, p0nd_2, p0nd_3, p0nm_0, p0nm_1, p0nm_2, p0nm_3, p0nj_0, p0nj_1, p0nj_2, p0nj_3, p0h_2)
  else 
   if (p0i_0 x1.toNatClampNeg) = 0 then ((-2 : Int32), p0n_0, p0n_1, p0nd_0, p0nd_1, p0nd_2, p0nd_3, p0nm_0, p0nm_1, p0nm_2, p0nm_3, p0nj_0, p0nj_1, p0nj_2, p0nj_3, p0h_2)
   else (f_X8_backV_C35 ((f_X5_copyFrom p0nd_0 p0nd_1 p0nd_2 p0nd_3 p0nm_0 p0nm_1 p0nm_2 p0nm_3 p0nj_1 p0nj_2 p0nj_3 p0e_0 p0e_1 p0ed_0 p0ed_1 p0ed_2 p0ed_3 p0em_0 p0em_1 p0em_2 p0em_3 p0ej_0 p0ej_1 p0ej_2 p0ej_3).1) ((f_X5_copyFrom p0nd_0 p0nd_1 p0nd_2 p0nd_3 p0nm_0 p0nm_1 p0nm_2 p0nm_3 p0nj_1 p0nj_2 p0nj_3 p0e_0 p0e_1 p0ed_0 p0ed_1 p0ed_2 p0ed_3 p0em_0 p0em_1 p0em_2 p0em_3 p0ej_0 p0ej_1 p0ej_2 p0ej_3).2.1) ((f_X5_copyFrom p0nd_0 p0nd_1 p0nd_2 p0nd_3 p0nm_0 p0nm_1 p0nm_2 p0nm_3 p0nj_1 p0nj_2 p0nj_3 p0e_0 p0e_1 p0ed_0 p0ed_1 p0ed_2 p0ed_3 p0em_0 p0em_1 p0em_2 p0em_3 p0ej_0 p0ej_1 p0ej_2 p0ej_3).2.2.1) ((f_X5_copyFrom p0nd_0 p0nd_1 p0nd_2 p0nd_3 p0nm_0 p0nm_1 p0nm_2 p0nm_3 p0nj_1 p0nj_2 p0nj_3 p0e_0 p0e_1 p0ed_0 p0ed_1 p0ed_2 p0ed_3 p0em_0 p0em_1 p0em_2 p0em_3 p0ej_0 p0ej_1 p0ej_2 p0ej_3).2.2.2.1) ((f_X5_copyFrom p0nd_0 p0nd_1 p0nd_2 p0nd_3 p0nm_0 p0nm_1 p0nm_2 p0nm_3 p0nj_1 p0nj_2 p0nj_3 p0e_0 p0e_1 p0ed_0 p0ed_1 p0ed_2 p0ed_3 p0em_0 p0em_1 p0em_2 p0em_3 p0ej_0 p0ej_1 p0ej_2 p0ej_3).2.2.2.2.1) ((f_X5_copyFrom p0nd_0 p0nd_1 p0nd_2 p0nd_3 p0nm_0 p0nm_1 p0nm_2 p0nm_3 p0nj_1 p0nj_2 p0nj_3 p0e_0 p0e_1 p0ed_0 p0ed_1 p0ed_2 p0ed_3 p0em_0 p0em_1 p0em_2 p0em_3 p0ej_0 p0ej_1 p0ej_2 p0ej_3).2.2.2.2.2.1) ((f_X5_copyFrom p0nd_0 p0nd_1 p0nd_2 p0nd_3 p0nm_0 p0nm_1 p0nm_2 p0nm_3 p0nj_1 p0nj_2 p0nj_3 p0e_0 p0e_1 p0ed_0 p0ed_1 p0ed_2 p0ed_3 p0em_0 p0em_1 p0em_2 p0em_3 p0ej_0 p0ej_1 p0ej_2 p0ej_3).2.2.2.2.2.2.1) ((f_X5_copyFrom p0nd_0 p0nd_1 p0nd_2 p0nd_3 p0nm_0 p0nm_1 p0nm_2 p0nm_3 p0nj_1 p0nj_2 p0nj_3 p0e_0 p0e_1 p0ed_0 p0ed_1 p0ed_2 p0ed_3 p0em_0 p0em_1 p0em_2 p0em_3 p0ej_0 p0ej_1 p0ej_2 p0ej_3).2.2.2.2.2.2.2.1) ((f_X5_copyFrom p0nd_0 p0nd_1 p0nd_2 p0nd_3 p0nm_0 p0nm_1 p0nm_2 p0nm_3 p0nj_1 p0nj_2 p0nj_3 p0e_0 p0e_1 p0ed_0 p0ed_1 p0ed_2 p0ed_3 p0em_0 p0em_1 p0em_2 p0em_3 p0ej_0 p0ej_1 p0ej_2 p0ej_3).2.2.2.2.2.2.2.2.1) ((f_X5_copyFrom p0nd_0 p0nd_1 p0nd_2 p0nd_3 p0nm_0 p0nm_1 p0nm_2 p0nm_3 p0nj_1 p0nj_2 p0nj_3 p0e_0 p0e_1 p0ed_0 p0ed_1 p0ed_2 p0ed_3 p0em_0 p0em_1 p0em_2 p0em_3 p0ej_0 p0ej_1 p0ej_2 p0ej_3).2.2.2.2.2.2.2.2.2.1) ((f_X5_copyFrom p0nd_0 p0nd_1 p0nd_2 p0nd_3 p0nm_0 p0nm_1 p0nm_2 p0nm_3 p0nj_1 p0nj_2 p0nj_3 p0e_0 p0e_1 p0ed_0 p0ed_1 p0ed_2 p0ed_3 p0em_0 p0em_1 p0em_2 p0em_3 p0ej_0 p0ej_1 p0ej_2 p0ej_3).2.2.2.2.2.2.2.2.2.2.1) ((f_X5_copyFrom p0nd_0 p0nd_1 p0nd_2 p0nd_3 p0nm_0 p0nm_1 p0nm_2 p0nm_3 p0nj_1 p0nj_2 p0nj_3 p0e_0 p0e_1 p0ed_0 p0ed_1 p0ed_2 p0ed_3 p0em_0 p0em_1 p0em_2 p0em_3 p0ej_0 p0ej_1 p0ej_2 p0ej_3).2.2.2.2.2.2.2.2.2.2.2.1) ((f_X5_copyFrom p0nd_0 p0nd_1 p0nd_2 p0nd_3 p0nm_0 p0nm_1 p0nm_2 p0nm_3 p0nj_1 p0nj_2 p0nj_3 p0e_0 p0e_1 p0ed_0 p0ed_1 p0ed_2 p0ed_3 p0em_0 p0em_1 p0em_2 p0em_3 p0ej_0 p0ej_1 p0ej_2 p0ej_3).2.2.2.2.2.2.2.2.2.2.2.2.1) ((f_X5_copyFrom p0nd_0 p0nd_1 p0nd_2 p0nd_3 p0nm_0 p0nm_1 p0nm_2 p0nm_3 p0nj_1 p0nj_2 p0nj_3 p0e_0 p0e_1 p0ed_0 p0ed_1 p0ed_2 p0ed_3 p0em_0 p0em_1 p0em_2 p0em_3 p0ej_0 p0ej_1 p0ej_2 p0ej_3).2.2.2.2.2.2.2.2.2.2.2.2.2))
