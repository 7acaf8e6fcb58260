def m_X0_add (br_c : Int32) (br_o : Int32) (br_b : Nat → Int32) (p0 : Int32) : Option (Int32 × Int32 × (Nat → Int32)) :=
  if br_c < (4000 : Int32) then (o_in br_c 4000 (o_let (upd br_b br_c.toNatClampNeg (vp_nar .byte p0.toInt8.toInt32)) (fun f_3 =>
  o_let (br_c + (1 : Int32)) (fun t_4 =>
  some (t_4, br_o, f_3)))))
  else (some (br_c, (1 : Int32), br_b))
def m_X0_cutTo (br_c : Int32) (br_o : Int32) (p0 : Int32) : Option (Int32 × Int32) :=
  some (p0, (0 : Int32))
def m_X0_byteAt (br_c : Int32) (br_b : Nat → Int32) (p0 : Int32) : Option Int32 :=
  if p0 < 0 then (some (-1 : Int32))
  else (if p0 < br_c then (o_in p0 4000 (o_let (br_b p0.toNatClampNeg) (fun t_4 =>
  some (t_4 &&& (255 : Int32)))))
  else (some (-1 : Int32)))
def m_X0_copy (br_c : Int32) (br_o : Int32) (br_b : Nat → Int32) (ot_c : Int32) (ot_b : Nat → Int32) : Option (Int32 × Int32 × (Nat → Int32)) :=
  o_cpy ot_b (0 : Int32) (0 : Int32) ot_c 4000 4000 (o_let (va_cpy ot_b br_b (0 : Int32).toNatClampNeg (0 : Int32).toNatClampNeg ot_c.toNatClampNeg) (fun f_2 =>
  o_b (m_X0_cutTo br_c br_o ot_c) (fun r_3 =>
  some (r_3.1, r_3.2, f_2))))
def m_X1_clear (ln_c : Int32) (ln_m : Int32) : Option (Int32 × Int32) :=
  some ((0 : Int32), (0 : Int32))
def m_X1_has (ln_c : Int32) (p0 : Int32) : Option Int32 :=
  if p0 < 0 then (some (0 : Int32))
  else (if ln_c ≤ p0 then (some (0 : Int32))
  else (some (1 : Int32)))
def m_X1_sizeOf (ln_c : Int32) (ln_s : Nat → Int32) (p0 : Int32) : Option Int32 :=
  o_b (m_X1_has ln_c p0) (fun r_1 =>
  if r_1 = 0 then (some (0 : Int32))
  else (o_in p0 64 (o_let (ln_s p0.toNatClampNeg) (fun t_4 =>
  some t_4))))
def m_X1_kindOf (ln_c : Int32) (ln_k : Nat → Int32) (p0 : Int32) : Option Int32 :=
  o_b (m_X1_has ln_c p0) (fun r_1 =>
  if r_1 = 0 then (some (0 : Int32))
  else (o_in p0 64 (o_let (ln_k p0.toNatClampNeg) (fun t_4 =>
  some t_4))))
def m_X1_placeOf (ln_c : Int32) (ln_p : Nat → Int32) (p0 : Int32) : Option Int32 :=
  o_b (m_X1_has ln_c p0) (fun r_1 =>
  if r_1 = 0 then (some (-1 : Int32))
  else (o_in p0 64 (o_let (ln_p p0.toNatClampNeg) (fun t_4 =>
  some t_4))))
def m_X1_storedAt (ln_c : Int32) (ln_f : Nat → Int32) (ln_s : Nat → Int32) (ln_n : Nat → Int64) (p0 : Int32) (p1 : Int32) : Option Int64 :=
  if p1 < 0 then (some (0 : Int64))
  else (o_b (m_X1_sizeOf ln_c ln_s p0) (fun r_2 =>
  if p1 < r_2 then (o_in p0 64 (o_let (ln_f p0.toNatClampNeg) (fun t_5 =>
  o_let (t_5 + p1) (fun t_6 =>
  if (4000 : Int32) ≤ t_6 then (some (0 : Int64))
  else (o_in t_6 4000 (o_let (ln_n t_6.toNatClampNeg) (fun t_9 =>
  some t_9)))))))
  else (some (0 : Int64))))
def m_X2_begin_J19  (tk_e : Int32) (tk_s : Int32) (tk_p : Int32) (tk_h : Int32) (tk_v : Int64) (tk_f : Int32) (s0 : Int32) : Option (Int32 × Int32 × Int32 × Int32 × Int64 × Int32) :=
  some (s0, (0 : Int32), (0 : Int32), (0 : Int32), (0 : Int64), (0 : Int32))
def m_X2_begin_J18  (tk_e : Int32) (tk_s : Int32) (tk_p : Int32) (tk_h : Int32) (tk_v : Int64) (tk_f : Int32) : Option (Int32 × Int32 × Int32 × Int32 × Int64 × Int32) :=
  m_X2_begin_J19  tk_e tk_s tk_p tk_h tk_v tk_f (0 : Int32)
def m_X2_begin (tk_e : Int32) (tk_s : Int32) (tk_p : Int32) (tk_h : Int32) (tk_v : Int64) (tk_f : Int32) (p0 : Int32) : Option (Int32 × Int32 × Int32 × Int32 × Int64 × Int32) :=
  if p0 < 0 then (m_X2_begin_J18  tk_e tk_s tk_p tk_h tk_v tk_f)
  else (if (4000 : Int32) < p0 then (m_X2_begin_J18  tk_e tk_s tk_p tk_h tk_v tk_f)
  else (m_X2_begin_J19  tk_e tk_s tk_p tk_h tk_v tk_f p0))
def m_X2_isLineEnd (tk_s : Int32) : Option Int32 :=
  if tk_s = 0 then (some (1 : Int32))
  else (some (0 : Int32))
def m_X2_isTextEnd (tk_e : Int32) (tk_s : Int32) (tk_p : Int32) : Option Int32 :=
  if tk_s = 0 then (if tk_p < tk_e then (some (0 : Int32))
  else (some (1 : Int32)))
  else (some (0 : Int32))
def m_X3_begin (rd_f : Int32) (rd_p : Int32) (tk_e : Int32) (tk_s : Int32) (tk_p : Int32) (tk_h : Int32) (tk_v : Int64) (tk_f : Int32) (ln_c : Int32) (ln_m : Int32) (p0 : Int32) : Option (Int32 × Int32 × Int32 × Int32 × Int32 × Int32 × Int64 × Int32 × Int32 × Int32) :=
  o_b (m_X2_begin tk_e tk_s tk_p tk_h tk_v tk_f p0) (fun r_1 =>
  o_b (m_X1_clear ln_c ln_m) (fun r_2 =>
  some ((0 : Int32), (-1 : Int32), r_1.1, r_1.2.1, r_1.2.2.1, r_1.2.2.2.1, r_1.2.2.2.2.1, r_1.2.2.2.2.2, r_2.1, r_2.2)))
def m_X3_findLine_J52  (rd_f : Int32) (tk_e : Int32) (tk_s : Int32) (tk_p : Int32) : Option Int32 :=
  o_b (m_X2_isLineEnd tk_s) (fun r_1 =>
  if r_1 = 0 then (some (1 : Int32))
  else (some (0 : Int32)))
def m_X3_findLine_L11  : Nat → Int32 → Int32 → Int32 → Int32 → Int32 → Option Int32
  | 0, _, _, _, _, _ => none
  | n + 1, rd_f, tk_e, tk_s, tk_p, x1 =>
    if (4000 : Int32) < x1 then (m_X3_findLine_J52  rd_f tk_e tk_s tk_p)
    else (o_b (m_X2_isLineEnd tk_s) (fun r_4 =>
    if r_4 = 0 then (m_X3_findLine_J52  rd_f tk_e tk_s tk_p)
    else (o_b (m_X2_isTextEnd tk_e tk_s tk_p) (fun r_6 =>
    if r_6 = 0 then (none)
    else (m_X3_findLine_J52  rd_f tk_e tk_s tk_p)))))
def m_X3_findLine (rd_f : Int32) (tk_e : Int32) (tk_s : Int32) (tk_p : Int32) : Option Int32 :=
  if rd_f = 0 then (m_X3_findLine_L11  fu rd_f tk_e tk_s tk_p (0 : Int32))
  else (some (0 : Int32))
def m_X5_valueOf (p0 : Int64) : Option Int64 :=
  if (lg_cmp p0 (-1000000000000000000 : Int64)) = 0 then (some (0 : Int64))
  else (some p0)
def m_X5_feedFour_L3  : Nat → Int32 → Int32 → (Nat → Int32) → Int32 → Int32 → Option (Int32 × Int32 × (Nat → Int32))
  | 0, _, _, _, _, _ => none
  | n + 1, tp_c, tp_o, tp_b, x1, x2 =>
    if x2 < 0 then (some (tp_c, tp_o, tp_b))
    else (o_let (x1 >>> (x2 &&& 31)) (fun t_2 =>
    o_b (m_X0_add tp_c tp_o tp_b t_2) (fun r_3 =>
    o_let (x2 + (-8)) (fun t_4 =>
    m_X5_feedFour_L3  n r_3.1 r_3.2.1 r_3.2.2 x1 t_4))))
def m_X5_feedFour (tp_c : Int32) (tp_o : Int32) (tp_b : Nat → Int32) (p0 : Int32) : Option (Int32 × Int32 × (Nat → Int32)) :=
  m_X5_feedFour_L3  fu tp_c tp_o tp_b p0 (24 : Int32)
def m_X5_feed (tp_c : Int32) (tp_o : Int32) (tp_b : Nat → Int32) (p0 : Int32) (p1 : Int32) (p2 : Int32) (p3 : Int32) (p4 : Int32) : Option (Int32 × Int32 × Int32 × (Nat → Int32)) :=
  if tp_c ≤ (3980 : Int32) then (o_b (m_X5_feedFour tp_c tp_o tp_b p0) (fun r_2 =>
  o_b (m_X5_feedFour r_2.1 r_2.2.1 r_2.2.2 p1) (fun r_3 =>
  o_b (m_X5_feedFour r_3.1 r_3.2.1 r_3.2.2 p2) (fun r_4 =>
  o_b (m_X5_feedFour r_4.1 r_4.2.1 r_4.2.2 p3) (fun r_5 =>
  o_b (m_X5_feedFour r_5.1 r_5.2.1 r_5.2.2 p4) (fun r_6 =>
  some (r_6.1, r_6.1, r_6.2.1, r_6.2.2)))))))
  else (some ((-1 : Int32), tp_c, tp_o, tp_b))
def m_X5_read_J62  (xx_e : Int32) (tp_c : Int32) (tp_o : Int32) (ln_c : Int32) (ln_m : Int32) (rd_f : Int32) (rd_p : Int32) (tk_e : Int32) (tk_s : Int32) (tk_p : Int32) (tk_h : Int32) (tk_v : Int64) (tk_f : Int32) : Option (Int32 × Int32 × Int32 × Int32 × Int32 × Int32 × Int32 × Int32 × Int32 × Int32 × Int32 × Int32 × Int64 × Int32) :=
  o_b (m_X0_cutTo tp_c tp_o (0 : Int32)) (fun r_1 =>
  if rd_f = 0 then (some (ln_c, xx_e, r_1.1, r_1.2, ln_c, ln_m, rd_f, rd_p, tk_e, tk_s, tk_p, tk_h, tk_v, tk_f))
  else (o_b (m_X1_clear ln_c ln_m) (fun r_3 =>
  some ((-1 : Int32), xx_e, r_1.1, r_1.2, r_3.1, r_3.2, rd_f, rd_p, tk_e, tk_s, tk_p, tk_h, tk_v, tk_f))))
def m_X5_read_L33  : Nat → Int32 → Int32 → Int32 → Int32 → Int32 → Int32 → Int32 → Int32 → Int32 → Int32 → Int32 → Int64 → Int32 → Int32 → Option (Int32 × Int32 × Int32 × Int32 × Int32 × Int32 × Int32 × Int32 × Int32 × Int32 × Int32 × Int32 × Int64 × Int32)
  | 0, _, _, _, _, _, _, _, _, _, _, _, _, _, _ => none
  | n + 1, xx_e, tp_c, tp_o, ln_c, ln_m, rd_f, rd_p, tk_e, tk_s, tk_p, tk_h, tk_v, tk_f, x2 =>
    if (64 : Int32) < x2 then (m_X5_read_J62  xx_e tp_c tp_o ln_c ln_m rd_f rd_p tk_e tk_s tk_p tk_h tk_v tk_f)
    else (o_b (m_X3_findLine rd_f tk_e tk_s tk_p) (fun r_5 =>
    if r_5 = 0 then (m_X5_read_J62  xx_e tp_c tp_o ln_c ln_m rd_f rd_p tk_e tk_s tk_p tk_h tk_v tk_f)
    else (none)))
def m_X5_read (xx_e : Int32) (tp_c : Int32) (tp_o : Int32) (ln_c : Int32) (ln_m : Int32) (rd_f : Int32) (rd_p : Int32) (tk_e : Int32) (tk_s : Int32) (tk_p : Int32) (tk_h : Int32) (tk_v : Int64) (tk_f : Int32) (p0 : Int32) : Option (Int32 × Int32 × Int32 × Int32 × Int32 × Int32 × Int32 × Int32 × Int32 × Int32 × Int32 × Int32 × Int64 × Int32) :=
  if p0 < 0 then (some ((-2 : Int32), xx_e, tp_c, tp_o, ln_c, ln_m, rd_f, rd_p, tk_e, tk_s, tk_p, tk_h, tk_v, tk_f))
  else (if p0 ≤ tp_c then (o_b (m_X3_begin rd_f rd_p tk_e tk_s tk_p tk_h tk_v tk_f ln_c ln_m p0) (fun r_9 =>
  m_X5_read_L33  fu (1 : Int32) tp_c tp_o r_9.2.2.2.2.2.2.2.2.1 r_9.2.2.2.2.2.2.2.2.2 r_9.1 r_9.2.1 r_9.2.2.1 r_9.2.2.2.1 r_9.2.2.2.2.1 r_9.2.2.2.2.2.1 r_9.2.2.2.2.2.2.1 r_9.2.2.2.2.2.2.2.1 (0 : Int32)))
  else (some ((-2 : Int32), xx_e, tp_c, tp_o, ln_c, ln_m, rd_f, rd_p, tk_e, tk_s, tk_p, tk_h, tk_v, tk_f)))
def m_X5_fault (xx_e : Int32) (rd_f : Int32) (rd_p : Int32) (p0 : Int32) : Option Int32 :=
  if xx_e = 0 then (some (-1 : Int32))
  else (if p0 = (0 : Int32) then (some rd_f)
  else if p0 = (1 : Int32) then (some rd_p)
  else (some (-1 : Int32)))
def m_X5_line (ln_c : Int32) (ln_k : Nat → Int32) (ln_p : Nat → Int32) (ln_s : Nat → Int32) (p0 : Int32) (p1 : Int32) : Option Int32 :=
  o_b (m_X1_has ln_c p0) (fun r_1 =>
  if r_1 = 0 then (some (-1 : Int32))
  else (if p1 = (0 : Int32) then (o_b (m_X1_kindOf ln_c ln_k p0) (fun r_4 =>
  some r_4))
  else if p1 = (1 : Int32) then (o_b (m_X1_sizeOf ln_c ln_s p0) (fun r_6 =>
  some r_6))
  else if p1 = (2 : Int32) then (o_b (m_X1_placeOf ln_c ln_p p0) (fun r_8 =>
  some r_8))
  else (some (-1 : Int32))))
def m_X5_number (ln_c : Int32) (ln_f : Nat → Int32) (ln_s : Nat → Int32) (ln_n : Nat → Int64) (p0 : Int32) (p1 : Int32) : Option Int64 :=
  o_b (m_X1_storedAt ln_c ln_f ln_s ln_n p0 p1) (fun r_1 =>
  o_b (m_X5_valueOf r_1) (fun r_2 =>
  some r_2))
def m_X5_print (pp_c : Int32) (ln_c : Int32) (p0 : Int32) : Option Int32 :=
  o_b (m_X1_has ln_c p0) (fun r_1 =>
  if r_1 = 0 then (some (-1 : Int32))
  else (none))
def m_X5_printed (pp_c : Int32) (pp_b : Nat → Int32) (p0 : Int32) : Option Int32 :=
  o_b (m_X0_byteAt pp_c pp_b p0) (fun r_1 =>
  some r_1)
def m_X5_wipe_J23  (tp_c : Int32) (tp_o : Int32) (tp_b : Nat → Int32) (pp_c : Int32) (pp_o : Int32) (pp_b : Nat → Int32) (x2 : Int32) : Option (Int32 × Int32 × Int32 × (Nat → Int32) × Int32 × Int32) :=
  o_b (m_X0_cutTo pp_c pp_o (0 : Int32)) (fun r_1 =>
  some (x2, tp_c, tp_o, tp_b, r_1.1, r_1.2))
def m_X5_wipe (tp_c : Int32) (tp_o : Int32) (tp_b : Nat → Int32) (pp_c : Int32) (pp_o : Int32) (pp_b : Nat → Int32) (p0 : Int32) : Option (Int32 × Int32 × Int32 × (Nat → Int32) × Int32 × Int32) :=
  if p0 = 0 then (m_X5_wipe_J23  tp_c tp_o tp_b pp_c pp_o pp_b pp_c)
  else (o_b (m_X0_copy tp_c tp_o tp_b pp_c pp_b) (fun r_3 =>
  m_X5_wipe_J23  r_3.1 r_3.2.1 r_3.2.2 pp_c pp_o pp_b pp_c))
def m_X6_put_L3  : Nat → Int32 → (Nat → Int32) → Int32 → Int32 → Option (Int32 × (Nat → Int32))
  | 0, _, _, _, _ => none
  | n + 1, mo_taped, mo_tapeA, x1, x2 =>
    if x2 < 0 then (some (mo_taped, mo_tapeA))
    else (o_let (x1 >>> (x2 &&& 31)) (fun t_2 =>
    o_let (t_2 &&& (255 : Int32)) (fun t_3 =>
    o_in mo_taped 4000 (o_let (upd mo_tapeA mo_taped.toNatClampNeg t_3) (fun f_5 =>
    o_let (mo_taped + (1 : Int32)) (fun t_6 =>
    o_let (x2 + (-8)) (fun t_7 =>
    m_X6_put_L3  n t_6 f_5 x1 t_7)))))))
def m_X6_put (mo_taped : Int32) (mo_tapeA : Nat → Int32) (p0 : Int32) : Option (Int32 × (Nat → Int32)) :=
  m_X6_put_L3  fu mo_taped mo_tapeA p0 (24 : Int32)
def m_X6_feed (mo_taped : Int32) (mo_tapeA : Nat → Int32) (p0 : Int32) (p1 : Int32) (p2 : Int32) (p3 : Int32) (p4 : Int32) : Option (Int32 × Int32 × (Nat → Int32)) :=
  o_let (mo_taped + (20 : Int32)) (fun t_1 =>
  if t_1 ≤ (4000 : Int32) then (o_b (m_X6_put mo_taped mo_tapeA p0) (fun r_3 =>
  o_b (m_X6_put r_3.1 r_3.2 p1) (fun r_4 =>
  o_b (m_X6_put r_4.1 r_4.2 p2) (fun r_5 =>
  o_b (m_X6_put r_5.1 r_5.2 p3) (fun r_6 =>
  o_b (m_X6_put r_6.1 r_6.2 p4) (fun r_7 =>
  some (r_7.1, r_7.1, r_7.2)))))))
  else (some ((-1 : Int32), mo_taped, mo_tapeA)))
def m_X6_isLine (mo_lines : Int32) (p0 : Int32) : Option Int32 :=
  if p0 < 0 then (some (0 : Int32))
  else (if mo_lines ≤ p0 then (some (0 : Int32))
  else (some (1 : Int32)))
def m_X6_stop (mo_fault : Int32) (mo_place : Int32) (p0 : Int32) (p1 : Int32) : Option (Int32 × Int32) :=
  if mo_fault = 0 then (some (p0, p1))
  else (some (mo_fault, mo_place))
def m_X6_mayEnd (mo_state : Int32) : Option Int32 :=
  if mo_state = (1 : Int32) then (some (1 : Int32))
  else (if mo_state = (6 : Int32) then (some (1 : Int32))
  else (if mo_state = (8 : Int32) then (some (1 : Int32))
  else (if mo_state = (19 : Int32) then (some (1 : Int32))
  else (if mo_state = (22 : Int32) then (some (1 : Int32))
  else (if mo_state = (23 : Int32) then (some (1 : Int32))
  else (if mo_state = (26 : Int32) then (some (1 : Int32))
  else (some (0 : Int32))))))))
def m_X6_finish_J84  (mo_fault : Int32) (mo_place : Int32) (mo_lines : Int32) (mo_state : Int32) (mo_kindA : Nat → Int32) : Option (Int32 × Int32 × Int32 × Int32) :=
  o_let (mo_lines + (1 : Int32)) (fun t_1 =>
  some (mo_fault, mo_place, t_1, (0 : Int32)))
def m_X6_finish_J81  (mo_fault : Int32) (mo_place : Int32) (mo_lines : Int32) (mo_state : Int32) (mo_kindA : Nat → Int32) (s0 : Int32) : Option (Int32 × Int32 × Int32 × Int32) :=
  none
def m_X6_finish_J66  (mo_fault : Int32) (mo_place : Int32) (mo_lines : Int32) (mo_state : Int32) (mo_kindA : Nat → Int32) : Option (Int32 × Int32 × Int32 × Int32) :=
  if mo_state = (23 : Int32) then (m_X6_finish_J81  mo_fault mo_place mo_lines mo_state mo_kindA (1 : Int32))
  else (m_X6_finish_J81  mo_fault mo_place mo_lines mo_state mo_kindA (0 : Int32))
def m_X6_finish_J48  (mo_fault : Int32) (mo_place : Int32) (mo_lines : Int32) (mo_state : Int32) (mo_kindA : Nat → Int32) : Option (Int32 × Int32 × Int32 × Int32) :=
  if mo_state = (22 : Int32) then (m_X6_finish_J66  mo_fault mo_place mo_lines mo_state mo_kindA)
  else (if mo_state = (23 : Int32) then (m_X6_finish_J66  mo_fault mo_place mo_lines mo_state mo_kindA)
  else (m_X6_finish_J84  mo_fault mo_place mo_lines mo_state mo_kindA))
def m_X6_finish (mo_fault : Int32) (mo_place : Int32) (mo_lines : Int32) (mo_state : Int32) (mo_kindA : Nat → Int32) (p0 : Int32) : Option (Int32 × Int32 × Int32 × Int32) :=
  if mo_state = 0 then (some (mo_fault, mo_place, mo_lines, mo_state))
  else (o_b (m_X6_mayEnd mo_state) (fun r_6 =>
  if r_6 = 0 then (o_b (m_X6_stop mo_fault mo_place (4 : Int32) p0) (fun r_12 =>
  some (r_12.1, r_12.2, mo_lines, mo_state)))
  else (o_in mo_lines 64 (o_let (mo_kindA mo_lines.toNatClampNeg) (fun t_9 =>
  if t_9 = (1 : Int32) then (if mo_state = (1 : Int32) then (none)
  else (m_X6_finish_J48  mo_fault mo_place mo_lines mo_state mo_kindA))
  else (m_X6_finish_J48  mo_fault mo_place mo_lines mo_state mo_kindA))))))
def m_X6_read_J202  (mo_taped : Int32) (mo_fault : Int32) (mo_place : Int32) (mo_lines : Int32) (mo_used : Int32) (mo_state : Int32) (mo_at : Int32) (mo_from : Int32) (mo_tapeA : Nat → Int32) (mo_kindA : Nat → Int32) : Option (Int32 × Int32 × Int32 × Int32 × Int32 × Int32 × Int32 × Int32 × Int32) :=
  if mo_fault = 0 then (some (mo_lines, mo_taped, mo_fault, mo_place, mo_lines, mo_used, mo_state, mo_at, mo_from))
  else (some ((-1 : Int32), mo_taped, mo_fault, mo_place, mo_lines, mo_used, mo_state, mo_at, mo_from))
def m_X6_read_J185  (mo_taped : Int32) (mo_fault : Int32) (mo_place : Int32) (mo_lines : Int32) (mo_used : Int32) (mo_state : Int32) (mo_at : Int32) (mo_from : Int32) (mo_tapeA : Nat → Int32) (mo_kindA : Nat → Int32) : Option (Int32 × Int32 × Int32 × Int32 × Int32 × Int32 × Int32 × Int32 × Int32) :=
  if mo_fault = 0 then (m_X6_read_J202  (0 : Int32) mo_fault mo_place mo_lines mo_used mo_state mo_at mo_from mo_tapeA mo_kindA)
  else (m_X6_read_J202  (0 : Int32) mo_fault mo_place (0 : Int32) mo_used mo_state mo_at mo_from mo_tapeA mo_kindA)
def m_X6_read_J173  (mo_taped : Int32) (mo_fault : Int32) (mo_place : Int32) (mo_lines : Int32) (mo_used : Int32) (mo_state : Int32) (mo_at : Int32) (mo_from : Int32) (mo_tapeA : Nat → Int32) (mo_kindA : Nat → Int32) (x1 : Int32) : Option (Int32 × Int32 × Int32 × Int32 × Int32 × Int32 × Int32 × Int32 × Int32) :=
  if mo_fault = 0 then (o_b (m_X6_finish mo_fault mo_place mo_lines mo_state mo_kindA x1) (fun r_4 =>
  m_X6_read_J185  mo_taped r_4.1 r_4.2.1 r_4.2.2.1 mo_used r_4.2.2.2 mo_at mo_from mo_tapeA mo_kindA))
  else (m_X6_read_J185  mo_taped mo_fault mo_place mo_lines mo_used mo_state mo_at mo_from mo_tapeA mo_kindA)
def m_X6_read_J170 (b_47 : Int32 → Int32 → Int32 → Int32 → Int32 → Int32 → Int32 → Int32 → (Nat → Int32) → (Nat → Int32) → Int32 → Int32 → Option (Int32 × Int32 × Int32 × Int32 × Int32 × Int32 × Int32 × Int32 × Int32)) (mo_taped : Int32) (mo_fault : Int32) (mo_place : Int32) (mo_lines : Int32) (mo_used : Int32) (mo_state : Int32) (mo_at : Int32) (mo_from : Int32) (mo_tapeA : Nat → Int32) (mo_kindA : Nat → Int32) (x1 : Int32) (x2 : Int32) : Option (Int32 × Int32 × Int32 × Int32 × Int32 × Int32 × Int32 × Int32 × Int32) :=
  b_47 mo_taped mo_fault mo_place mo_lines mo_used mo_state mo_at mo_from mo_tapeA mo_kindA x1 x2
def m_X6_read_J154 (b_47 : Int32 → Int32 → Int32 → Int32 → Int32 → Int32 → Int32 → Int32 → (Nat → Int32) → (Nat → Int32) → Int32 → Int32 → Option (Int32 × Int32 × Int32 × Int32 × Int32 × Int32 × Int32 × Int32 × Int32)) (mo_taped : Int32) (mo_fault : Int32) (mo_place : Int32) (mo_lines : Int32) (mo_used : Int32) (mo_state : Int32) (mo_at : Int32) (mo_from : Int32) (mo_tapeA : Nat → Int32) (mo_kindA : Nat → Int32) (x1 : Int32) (x2 : Int32) (x3 : Int32) : Option (Int32 × Int32 × Int32 × Int32 × Int32 × Int32 × Int32 × Int32 × Int32) :=
  if x2 = 0 then (if x3 = (32 : Int32) then (m_X6_read_J170 b_47 mo_taped mo_fault mo_place mo_lines mo_used mo_state mo_at mo_from mo_tapeA mo_kindA x1 x2)
  else (none))
  else (m_X6_read_J170 b_47 mo_taped mo_fault mo_place mo_lines mo_used mo_state mo_at mo_from mo_tapeA mo_kindA x1 x2)
def m_X6_read_J120 (b_47 : Int32 → Int32 → Int32 → Int32 → Int32 → Int32 → Int32 → Int32 → (Nat → Int32) → (Nat → Int32) → Int32 → Int32 → Option (Int32 × Int32 × Int32 × Int32 × Int32 × Int32 × Int32 × Int32 × Int32)) (mo_taped : Int32) (mo_fault : Int32) (mo_place : Int32) (mo_lines : Int32) (mo_used : Int32) (mo_state : Int32) (mo_at : Int32) (mo_from : Int32) (mo_tapeA : Nat → Int32) (mo_kindA : Nat → Int32) (x1 : Int32) (x2 : Int32) (x3 : Int32) : Option (Int32 × Int32 × Int32 × Int32 × Int32 × Int32 × Int32 × Int32 × Int32) :=
  if x3 = (10 : Int32) then (o_b (m_X6_finish mo_fault mo_place mo_lines mo_state mo_kindA mo_from) (fun r_10 =>
  m_X6_read_J170 b_47 mo_taped r_10.1 r_10.2.1 r_10.2.2.1 mo_used r_10.2.2.2 mo_at mo_from mo_tapeA mo_kindA x1 (0 : Int32)))
  else (if x2 = 0 then (if x3 = (35 : Int32) then (m_X6_read_J170 b_47 mo_taped mo_fault mo_place mo_lines mo_used mo_state mo_at mo_from mo_tapeA mo_kindA x1 (1 : Int32))
  else (m_X6_read_J154 b_47 mo_taped mo_fault mo_place mo_lines mo_used mo_state mo_at mo_from mo_tapeA mo_kindA x1 x2 x3))
  else (m_X6_read_J154 b_47 mo_taped mo_fault mo_place mo_lines mo_used mo_state mo_at mo_from mo_tapeA mo_kindA x1 x2 x3))
def m_X6_read_J108 (b_47 : Int32 → Int32 → Int32 → Int32 → Int32 → Int32 → Int32 → Int32 → (Nat → Int32) → (Nat → Int32) → Int32 → Int32 → Option (Int32 × Int32 × Int32 × Int32 × Int32 × Int32 × Int32 × Int32 × Int32)) (mo_taped : Int32) (mo_fault : Int32) (mo_place : Int32) (mo_lines : Int32) (mo_used : Int32) (mo_state : Int32) (mo_at : Int32) (mo_from : Int32) (mo_tapeA : Nat → Int32) (mo_kindA : Nat → Int32) (x1 : Int32) (x2 : Int32) : Option (Int32 × Int32 × Int32 × Int32 × Int32 × Int32 × Int32 × Int32 × Int32) :=
  o_b (m_X6_stop mo_fault mo_place (1 : Int32) mo_from) (fun r_11 =>
  m_X6_read_J170 b_47 mo_taped r_11.1 r_11.2 mo_lines mo_used mo_state mo_at mo_from mo_tapeA mo_kindA x1 x2)
def m_X6_read_L47  : Nat → Int32 → Int32 → Int32 → Int32 → Int32 → Int32 → Int32 → Int32 → (Nat → Int32) → (Nat → Int32) → Int32 → Int32 → Option (Int32 × Int32 × Int32 × Int32 × Int32 × Int32 × Int32 × Int32 × Int32)
  | 0, _, _, _, _, _, _, _, _, _, _, _, _ => none
  | n + 1, mo_taped, mo_fault, mo_place, mo_lines, mo_used, mo_state, mo_at, mo_from, mo_tapeA, mo_kindA, x1, x2 =>
    if x1 ≤ mo_at then (m_X6_read_J173  mo_taped mo_fault mo_place mo_lines mo_used mo_state mo_at mo_from mo_tapeA mo_kindA x1)
    else (if mo_fault = 0 then (o_in mo_at 4000 (o_let (mo_tapeA mo_at.toNatClampNeg) (fun t_15 =>
    o_let (mo_at + (1 : Int32)) (fun t_16 =>
    if t_15 = (10 : Int32) then (m_X6_read_J120 (m_X6_read_L47 n) mo_taped mo_fault mo_place mo_lines mo_used mo_state t_16 mo_at mo_tapeA mo_kindA x1 x2 t_15)
    else (if t_15 < (32 : Int32) then (m_X6_read_J108 (m_X6_read_L47 n) mo_taped mo_fault mo_place mo_lines mo_used mo_state t_16 mo_at mo_tapeA mo_kindA x1 x2)
    else (if t_15 ≤ (126 : Int32) then (m_X6_read_J120 (m_X6_read_L47 n) mo_taped mo_fault mo_place mo_lines mo_used mo_state t_16 mo_at mo_tapeA mo_kindA x1 x2 t_15)
    else (m_X6_read_J108 (m_X6_read_L47 n) mo_taped mo_fault mo_place mo_lines mo_used mo_state t_16 mo_at mo_tapeA mo_kindA x1 x2)))))))
    else (m_X6_read_J173  mo_taped mo_fault mo_place mo_lines mo_used mo_state mo_at mo_from mo_tapeA mo_kindA x1))
def m_X6_read (mo_taped : Int32) (mo_fault : Int32) (mo_place : Int32) (mo_lines : Int32) (mo_used : Int32) (mo_state : Int32) (mo_at : Int32) (mo_from : Int32) (mo_tapeA : Nat → Int32) (mo_kindA : Nat → Int32) (p0 : Int32) : Option (Int32 × Int32 × Int32 × Int32 × Int32 × Int32 × Int32 × Int32 × Int32) :=
  if p0 < 0 then (some ((-2 : Int32), mo_taped, mo_fault, mo_place, mo_lines, mo_used, mo_state, mo_at, mo_from))
  else (if p0 ≤ mo_taped then (m_X6_read_L47  fu mo_taped (0 : Int32) (-1 : Int32) (0 : Int32) (0 : Int32) (0 : Int32) (0 : Int32) mo_from mo_tapeA mo_kindA p0 (0 : Int32))
  else (some ((-2 : Int32), mo_taped, mo_fault, mo_place, mo_lines, mo_used, mo_state, mo_at, mo_from)))
def m_X6_fault (mo_fault : Int32) (mo_place : Int32) (p0 : Int32) : Option Int32 :=
  if p0 = 0 then (some mo_fault)
  else (if p0 = (1 : Int32) then (if mo_fault ≤ 0 then (some (-1 : Int32))
  else (some mo_place))
  else (some (-1 : Int32)))
def m_X6_line (mo_lines : Int32) (mo_kindA : Nat → Int32) (mo_countA : Nat → Int32) (mo_beginsA : Nat → Int32) (p0 : Int32) (p1 : Int32) : Option Int32 :=
  o_b (m_X6_isLine mo_lines p0) (fun r_1 =>
  if r_1 = 0 then (some (-1 : Int32))
  else (if p1 = 0 then (o_in p0 64 (o_let (mo_kindA p0.toNatClampNeg) (fun t_11 =>
  some t_11)))
  else (if p1 = (1 : Int32) then (o_in p0 64 (o_let (mo_countA p0.toNatClampNeg) (fun t_9 =>
  some t_9)))
  else (if p1 = (2 : Int32) then (o_in p0 64 (o_let (mo_beginsA p0.toNatClampNeg) (fun t_7 =>
  some t_7)))
  else (some (-1 : Int32))))))
def m_X6_number1 (mo_lines : Int32) (mo_firstA : Nat → Int32) (mo_countA : Nat → Int32) (mo_numbersA : Nat → Int64) (p0 : Int32) (p1 : Int32) : Option Int64 :=
  o_b (m_X6_isLine mo_lines p0) (fun r_1 =>
  if r_1 = 0 then (some (0 : Int64))
  else (if p1 < 0 then (some (0 : Int64))
  else (o_in p0 64 (if p1 < (mo_countA p0.toNatClampNeg) then (o_in p0 64 (o_let (mo_firstA p0.toNatClampNeg) (fun t_7 =>
  o_let (t_7 + p1) (fun t_8 =>
  o_in t_8 4200 (some (mo_numbersA t_8.toNatClampNeg))))))
  else (some (0 : Int64))))))
def m_X6_print (mo_lines : Int32) (mo_written : Int32) (mo_over : Int32) (mo_kindA : Nat → Int32) (p0 : Int32) : Option (Int32 × Int32 × Int32) :=
  o_b (m_X6_isLine mo_lines p0) (fun r_1 =>
  if r_1 = 0 then (some ((-1 : Int32), mo_written, mo_over))
  else (o_in p0 64 (o_let (mo_kindA p0.toNatClampNeg) (fun t_4 =>
  none))))
def m_X6_printed (mo_printed : Int32) (mo_outA : Nat → Int32) (p0 : Int32) : Option Int32 :=
  if p0 < 0 then (some (-1 : Int32))
  else (if p0 < mo_printed then (o_in p0 4000 (some (mo_outA p0.toNatClampNeg)))
  else (some (-1 : Int32)))
def m_X6_wipe_J45  (mo_taped : Int32) (mo_printed : Int32) (mo_tapeA : Nat → Int32) (mo_outA : Nat → Int32) (x2 : Int32) : Option (Int32 × Int32 × Int32 × (Nat → Int32)) :=
  some (x2, mo_taped, (0 : Int32), mo_tapeA)
def m_X6_wipe_J37  (mo_taped : Int32) (mo_printed : Int32) (mo_tapeA : Nat → Int32) (mo_outA : Nat → Int32) (x2 : Int32) : Option (Int32 × Int32 × Int32 × (Nat → Int32)) :=
  m_X6_wipe_J45  mo_printed mo_printed mo_tapeA mo_outA x2
def m_X6_wipe_L11  : Nat → Int32 → Int32 → (Nat → Int32) → (Nat → Int32) → Int32 → Int32 → Option (Int32 × Int32 × Int32 × (Nat → Int32))
  | 0, _, _, _, _, _, _ => none
  | n + 1, mo_taped, mo_printed, mo_tapeA, mo_outA, x2, x3 =>
    if mo_printed ≤ x3 then (m_X6_wipe_J37  mo_taped mo_printed mo_tapeA mo_outA x2)
    else (o_in x3 4000 (o_let (mo_outA x3.toNatClampNeg) (fun t_3 =>
    o_in x3 4000 (o_let (upd mo_tapeA x3.toNatClampNeg t_3) (fun f_5 =>
    o_let (x3 + 1) (fun t_6 =>
    m_X6_wipe_L11  n mo_taped mo_printed f_5 mo_outA x2 t_6))))))
def m_X6_wipe (mo_taped : Int32) (mo_printed : Int32) (mo_tapeA : Nat → Int32) (mo_outA : Nat → Int32) (p0 : Int32) : Option (Int32 × Int32 × Int32 × (Nat → Int32)) :=
  if p0 = 0 then (m_X6_wipe_J45  mo_taped mo_printed mo_tapeA mo_outA mo_printed)
  else (m_X6_wipe_L11  fu mo_taped mo_printed mo_tapeA mo_outA mo_printed (0 : Int32))
