def R_law : String := "LinkTextLaw"
def lw_P (b : Addr) (xs : List Int32) (args : Array Value) (s : State) : Prop := args = #[.ref b] ∧ s.IntsAt b xs ∧ xs.length ≤ 6 ∧ (Jvm.Cond.and given_1 narrow_1).before args s = true
def lw_Q (_ : Array Value) (s : State) (o : Outcome) (t : State) : Prop := o = .returned (some (.int 1)) ∧ Framed s o t [] 24 28790
def lw_Z (below : List Frame) (a : Array Value) (s : State) : State → Prop := fun t => ∃ o, t.status = .running ∧ Ended t below o ∧ lw_Q a s o t
theorem lw_ret {p : Program} {l : Launch} {e : Env} {s : State} {m : MethodId} {below : List Frame} {meth : Method} {c : Code} {b : Nat} (hx : p.tables.exec = Jvm.exec) (hb : c.code = code) (hr : meth.sig.returnType = ret) (hlocks : meth.locks = false) {pc : Nat} {H : Heap} {ls : Array Slot} (hdg : decode code pc = .ok (.ireturn, 1)) : W p l e room_1 s m #[Value.ref b] below meth c H [] 24 28790 (lw_Z below #[Value.ref b] s) (F0 m pc ls [.int 1]) := by
  intro T hT X
  obtain ⟨fs, hret, hrun, hended, hW, hframe⟩ := X.leave (v := some (.int 1)) (hlocks := hlocks) (fun h => by rw [hr] at h; cases h)
  have hmeth' : T.vm.method? m = some meth := X.method'
  refine ⟨T.setFrames fs, ?_, .returned (some (.int 1)), hrun, hended, rfl, ⟨_, rfl⟩, hW, hframe⟩
  jvm_step X.here [X.here.top, hx, hb, hdg, hmeth', hr, ret, narrow_b1]
  (try refine ⟨rfl, ?_⟩); (try refine ⟨rfl, ?_⟩)
  first | (intro acts; rw [hret _ acts rfl rfl rfl]) | rw [hret _ _ rfl rfl rfl]
  exact Steps.refl _
def lw_At (p : Program) (s : State) (m : MethodId) (meth : Method) (c : Code) (b L : Nat) (xs : Nat → Int32) : Prop :=
  p.tables.exec = Jvm.exec ∧ c.code = code ∧ meth.sig.returnType = ret ∧ c.maxLocals = 4 ∧ s.vm.findClass R_law = some m.cls ∧ (∀ w ∈ lw_tbl, w.before #[Value.ref b] s = true) ∧ va_X b L xs s s.heap ∧ b < s.heap.size ∧ meth.locks = false ∧ (Jvm.Cond.and given_1 narrow_1).before #[Value.ref b] s = true
def m_L_law_J341 (xs : Nat → Int32) (L : Nat) (b_18 : Int32 → Int32 → Int32 → (Nat → Int32) → Int32 → Int32 → (Nat → Int32) → Int32 → Int32 → (Nat → Int32) → (Nat → Int32) → (Nat → Int32) → (Nat → Int32) → (Nat → Int64) → Int32 → Int32 → Int32 → Int32 → Int32 → Int32 → Int64 → Int32 → Int32 → Int32 → Int32 → Int32 → Int32 → Int32 → Int32 → Int32 → Int32 → Int32 → Int32 → (Nat → Int32) → (Nat → Int32) → (Nat → Int32) → (Nat → Int32) → (Nat → Int32) → (Nat → Int64) → (Nat → Int32) → Int32 → Option Int32) (xx_e : Int32) (tp_c : Int32) (tp_o : Int32) (tp_b : Nat → Int32) (pp_c : Int32) (pp_o : Int32) (pp_b : Nat → Int32) (ln_c : Int32) (ln_m : Int32) (ln_k : Nat → Int32) (ln_p : Nat → Int32) (ln_f : Nat → Int32) (ln_s : Nat → Int32) (ln_n : Nat → Int64) (rd_f : Int32) (rd_p : Int32) (tk_e : Int32) (tk_s : Int32) (tk_p : Int32) (tk_h : Int32) (tk_v : Int64) (tk_f : Int32) (mo_taped : Int32) (mo_fault : Int32) (mo_place : Int32) (mo_lines : Int32) (mo_used : Int32) (mo_state : Int32) (mo_at : Int32) (mo_from : Int32) (mo_printed : Int32) (mo_written : Int32) (mo_over : Int32) (mo_tapeA : Nat → Int32) (mo_kindA : Nat → Int32) (mo_firstA : Nat → Int32) (mo_countA : Nat → Int32) (mo_beginsA : Nat → Int32) (mo_numbersA : Nat → Int64) (mo_outA : Nat → Int32) (x3 : Int32) : Option Int32 :=
  o_let (x3 + 6) (fun t_1 =>
  b_18 xx_e tp_c tp_o tp_b pp_c pp_o pp_b ln_c ln_m ln_k ln_p ln_f ln_s ln_n rd_f rd_p tk_e tk_s tk_p tk_h tk_v tk_f mo_taped mo_fault mo_place mo_lines mo_used mo_state mo_at mo_from mo_printed mo_written mo_over mo_tapeA mo_kindA mo_firstA mo_countA mo_beginsA mo_numbersA mo_outA t_1)
def m_L_law_J333 (xs : Nat → Int32) (L : Nat) (b_18 : Int32 → Int32 → Int32 → (Nat → Int32) → Int32 → Int32 → (Nat → Int32) → Int32 → Int32 → (Nat → Int32) → (Nat → Int32) → (Nat → Int32) → (Nat → Int32) → (Nat → Int64) → Int32 → Int32 → Int32 → Int32 → Int32 → Int32 → Int64 → Int32 → Int32 → Int32 → Int32 → Int32 → Int32 → Int32 → Int32 → Int32 → Int32 → Int32 → Int32 → (Nat → Int32) → (Nat → Int32) → (Nat → Int32) → (Nat → Int32) → (Nat → Int32) → (Nat → Int64) → (Nat → Int32) → Int32 → Option Int32) (xx_e : Int32) (tp_c : Int32) (tp_o : Int32) (tp_b : Nat → Int32) (pp_c : Int32) (pp_o : Int32) (pp_b : Nat → Int32) (ln_c : Int32) (ln_m : Int32) (ln_k : Nat → Int32) (ln_p : Nat → Int32) (ln_f : Nat → Int32) (ln_s : Nat → Int32) (ln_n : Nat → Int64) (rd_f : Int32) (rd_p : Int32) (tk_e : Int32) (tk_s : Int32) (tk_p : Int32) (tk_h : Int32) (tk_v : Int64) (tk_f : Int32) (mo_taped : Int32) (mo_fault : Int32) (mo_place : Int32) (mo_lines : Int32) (mo_used : Int32) (mo_state : Int32) (mo_at : Int32) (mo_from : Int32) (mo_printed : Int32) (mo_written : Int32) (mo_over : Int32) (mo_tapeA : Nat → Int32) (mo_kindA : Nat → Int32) (mo_firstA : Nat → Int32) (mo_countA : Nat → Int32) (mo_beginsA : Nat → Int32) (mo_numbersA : Nat → Int64) (mo_outA : Nat → Int32) (x3 : Int32) (s0 : Int32) (s2 : Int32) : Option Int32 :=
  o_b (m_X6_wipe mo_taped mo_printed mo_tapeA mo_outA s0) (fun r_2 =>
  if s2 = r_2.1 then (m_L_law_J341 xs L b_18 xx_e tp_c tp_o tp_b pp_c pp_o pp_b ln_c ln_m ln_k ln_p ln_f ln_s ln_n rd_f rd_p tk_e tk_s tk_p tk_h tk_v tk_f r_2.2.1 mo_fault mo_place mo_lines mo_used mo_state mo_at mo_from r_2.2.2.1 mo_written mo_over r_2.2.2.2 mo_kindA mo_firstA mo_countA mo_beginsA mo_numbersA mo_outA x3)
  else (some (0 : Int32)))
def m_L_law_J316 (xs : Nat → Int32) (L : Nat) (b_18 : Int32 → Int32 → Int32 → (Nat → Int32) → Int32 → Int32 → (Nat → Int32) → Int32 → Int32 → (Nat → Int32) → (Nat → Int32) → (Nat → Int32) → (Nat → Int32) → (Nat → Int64) → Int32 → Int32 → Int32 → Int32 → Int32 → Int32 → Int64 → Int32 → Int32 → Int32 → Int32 → Int32 → Int32 → Int32 → Int32 → Int32 → Int32 → Int32 → Int32 → (Nat → Int32) → (Nat → Int32) → (Nat → Int32) → (Nat → Int32) → (Nat → Int32) → (Nat → Int64) → (Nat → Int32) → Int32 → Option Int32) (xx_e : Int32) (tp_c : Int32) (tp_o : Int32) (tp_b : Nat → Int32) (pp_c : Int32) (pp_o : Int32) (pp_b : Nat → Int32) (ln_c : Int32) (ln_m : Int32) (ln_k : Nat → Int32) (ln_p : Nat → Int32) (ln_f : Nat → Int32) (ln_s : Nat → Int32) (ln_n : Nat → Int64) (rd_f : Int32) (rd_p : Int32) (tk_e : Int32) (tk_s : Int32) (tk_p : Int32) (tk_h : Int32) (tk_v : Int64) (tk_f : Int32) (mo_taped : Int32) (mo_fault : Int32) (mo_place : Int32) (mo_lines : Int32) (mo_used : Int32) (mo_state : Int32) (mo_at : Int32) (mo_from : Int32) (mo_printed : Int32) (mo_written : Int32) (mo_over : Int32) (mo_tapeA : Nat → Int32) (mo_kindA : Nat → Int32) (mo_firstA : Nat → Int32) (mo_countA : Nat → Int32) (mo_beginsA : Nat → Int32) (mo_numbersA : Nat → Int64) (mo_outA : Nat → Int32) (x3 : Int32) (s0 : Int32) : Option Int32 :=
  o_b (m_X5_wipe tp_c tp_o tp_b pp_c pp_o pp_b s0) (fun r_4 =>
  o_let (x3 + (1 : Int32)) (fun t_5 =>
  o_in t_5 L (if (xs t_5.toNatClampNeg) = 0 then (m_L_law_J333 xs L b_18 xx_e r_4.2.1 r_4.2.2.1 r_4.2.2.2.1 r_4.2.2.2.2.1 r_4.2.2.2.2.2 pp_b ln_c ln_m ln_k ln_p ln_f ln_s ln_n rd_f rd_p tk_e tk_s tk_p tk_h tk_v tk_f mo_taped mo_fault mo_place mo_lines mo_used mo_state mo_at mo_from mo_printed mo_written mo_over mo_tapeA mo_kindA mo_firstA mo_countA mo_beginsA mo_numbersA mo_outA x3 (0 : Int32) r_4.1)
  else (m_L_law_J333 xs L b_18 xx_e r_4.2.1 r_4.2.2.1 r_4.2.2.2.1 r_4.2.2.2.2.1 r_4.2.2.2.2.2 pp_b ln_c ln_m ln_k ln_p ln_f ln_s ln_n rd_f rd_p tk_e tk_s tk_p tk_h tk_v tk_f mo_taped mo_fault mo_place mo_lines mo_used mo_state mo_at mo_from mo_printed mo_written mo_over mo_tapeA mo_kindA mo_firstA mo_countA mo_beginsA mo_numbersA mo_outA x3 (1 : Int32) r_4.1))))
def m_L_law_L18 (xs : Nat → Int32) (L : Nat)  : Nat → Int32 → Int32 → Int32 → (Nat → Int32) → Int32 → Int32 → (Nat → Int32) → Int32 → Int32 → (Nat → Int32) → (Nat → Int32) → (Nat → Int32) → (Nat → Int32) → (Nat → Int64) → Int32 → Int32 → Int32 → Int32 → Int32 → Int32 → Int64 → Int32 → Int32 → Int32 → Int32 → Int32 → Int32 → Int32 → Int32 → Int32 → Int32 → Int32 → Int32 → (Nat → Int32) → (Nat → Int32) → (Nat → Int32) → (Nat → Int32) → (Nat → Int32) → (Nat → Int64) → (Nat → Int32) → Int32 → Option Int32
  | 0, _, _, _, _, _, _, _, _, _, _, _, _, _, _, _, _, _, _, _, _, _, _, _, _, _, _, _, _, _, _, _, _, _, _, _, _, _, _, _, _, _ => none
  | n + 1, xx_e, tp_c, tp_o, tp_b, pp_c, pp_o, pp_b, ln_c, ln_m, ln_k, ln_p, ln_f, ln_s, ln_n, rd_f, rd_p, tk_e, tk_s, tk_p, tk_h, tk_v, tk_f, mo_taped, mo_fault, mo_place, mo_lines, mo_used, mo_state, mo_at, mo_from, mo_printed, mo_written, mo_over, mo_tapeA, mo_kindA, mo_firstA, mo_countA, mo_beginsA, mo_numbersA, mo_outA, x3 =>
    if ((Int32.ofNat L) - (6 : Int32)) < x3 then (some (1 : Int32))
    else (o_in x3 L (o_let (xs x3.toNatClampNeg) (fun t_10 =>
    o_let (t_10 &&& (7 : Int32)) (fun t_11 =>
    if t_11 = (0 : Int32) then (o_let (x3 + (1 : Int32)) (fun t_13 =>
    o_in t_13 L (o_let (xs t_13.toNatClampNeg) (fun t_15 =>
    o_let (x3 + (2 : Int32)) (fun t_16 =>
    o_in t_16 L (o_let (xs t_16.toNatClampNeg) (fun t_18 =>
    o_let (x3 + (3 : Int32)) (fun t_19 =>
    o_in t_19 L (o_let (xs t_19.toNatClampNeg) (fun t_21 =>
    o_let (x3 + (4 : Int32)) (fun t_22 =>
    o_in t_22 L (o_let (xs t_22.toNatClampNeg) (fun t_24 =>
    o_let (x3 + (5 : Int32)) (fun t_25 =>
    o_in t_25 L (o_let (xs t_25.toNatClampNeg) (fun t_27 =>
    o_b (m_X5_feed tp_c tp_o tp_b t_15 t_18 t_21 t_24 t_27) (fun r_28 =>
    o_let (x3 + (1 : Int32)) (fun t_29 =>
    o_in t_29 L (o_let (xs t_29.toNatClampNeg) (fun t_31 =>
    o_let (x3 + (2 : Int32)) (fun t_32 =>
    o_in t_32 L (o_let (xs t_32.toNatClampNeg) (fun t_34 =>
    o_let (x3 + (3 : Int32)) (fun t_35 =>
    o_in t_35 L (o_let (xs t_35.toNatClampNeg) (fun t_37 =>
    o_let (x3 + (4 : Int32)) (fun t_38 =>
    o_in t_38 L (o_let (xs t_38.toNatClampNeg) (fun t_40 =>
    o_let (x3 + (5 : Int32)) (fun t_41 =>
    o_in t_41 L (o_let (xs t_41.toNatClampNeg) (fun t_43 =>
    o_b (m_X6_feed mo_taped mo_tapeA t_31 t_34 t_37 t_40 t_43) (fun r_44 =>
    if r_28.1 = r_44.1 then (m_L_law_J341 xs L (m_L_law_L18 xs L n) xx_e r_28.2.1 r_28.2.2.1 r_28.2.2.2 pp_c pp_o pp_b ln_c ln_m ln_k ln_p ln_f ln_s ln_n rd_f rd_p tk_e tk_s tk_p tk_h tk_v tk_f r_44.2.1 mo_fault mo_place mo_lines mo_used mo_state mo_at mo_from mo_printed mo_written mo_over r_44.2.2 mo_kindA mo_firstA mo_countA mo_beginsA mo_numbersA mo_outA x3)
    else (some (0 : Int32)))))))))))))))))))))))))))))))))))
    else if t_11 = (1 : Int32) then (o_let (x3 + (1 : Int32)) (fun t_47 =>
    o_in t_47 L (o_let (xs t_47.toNatClampNeg) (fun t_49 =>
    o_b (m_X5_read xx_e tp_c tp_o ln_c ln_m rd_f rd_p tk_e tk_s tk_p tk_h tk_v tk_f t_49) (fun r_50 =>
    o_let (x3 + (1 : Int32)) (fun t_51 =>
    o_in t_51 L (o_let (xs t_51.toNatClampNeg) (fun t_53 =>
    o_b (m_X6_read mo_taped mo_fault mo_place mo_lines mo_used mo_state mo_at mo_from mo_tapeA mo_kindA t_53) (fun r_54 =>
    if r_50.1 = r_54.1 then (m_L_law_J341 xs L (m_L_law_L18 xs L n) r_50.2.1 r_50.2.2.1 r_50.2.2.2.1 tp_b pp_c pp_o pp_b r_50.2.2.2.2.1 r_50.2.2.2.2.2.1 ln_k ln_p ln_f ln_s ln_n r_50.2.2.2.2.2.2.1 r_50.2.2.2.2.2.2.2.1 r_50.2.2.2.2.2.2.2.2.1 r_50.2.2.2.2.2.2.2.2.2.1 r_50.2.2.2.2.2.2.2.2.2.2.1 r_50.2.2.2.2.2.2.2.2.2.2.2.1 r_50.2.2.2.2.2.2.2.2.2.2.2.2.1 r_50.2.2.2.2.2.2.2.2.2.2.2.2.2 r_54.2.1 r_54.2.2.1 r_54.2.2.2.1 r_54.2.2.2.2.1 r_54.2.2.2.2.2.1 r_54.2.2.2.2.2.2.1 r_54.2.2.2.2.2.2.2.1 r_54.2.2.2.2.2.2.2.2 mo_printed mo_written mo_over mo_tapeA mo_kindA mo_firstA mo_countA mo_beginsA mo_numbersA mo_outA x3)
    else (some (0 : Int32)))))))))))
    else if t_11 = (2 : Int32) then (o_let (x3 + (1 : Int32)) (fun t_57 =>
    o_in t_57 L (o_let (xs t_57.toNatClampNeg) (fun t_59 =>
    o_b (m_X5_fault xx_e rd_f rd_p t_59) (fun r_60 =>
    o_let (x3 + (1 : Int32)) (fun t_61 =>
    o_in t_61 L (o_let (xs t_61.toNatClampNeg) (fun t_63 =>
    o_b (m_X6_fault mo_fault mo_place t_63) (fun r_64 =>
    if r_60 = r_64 then (m_L_law_J341 xs L (m_L_law_L18 xs L n) xx_e tp_c tp_o tp_b pp_c pp_o pp_b ln_c ln_m ln_k ln_p ln_f ln_s ln_n rd_f rd_p tk_e tk_s tk_p tk_h tk_v tk_f mo_taped mo_fault mo_place mo_lines mo_used mo_state mo_at mo_from mo_printed mo_written mo_over mo_tapeA mo_kindA mo_firstA mo_countA mo_beginsA mo_numbersA mo_outA x3)
    else (some (0 : Int32)))))))))))
    else if t_11 = (3 : Int32) then (o_let (x3 + (1 : Int32)) (fun t_67 =>
    o_in t_67 L (o_let (xs t_67.toNatClampNeg) (fun t_69 =>
    o_let (x3 + (2 : Int32)) (fun t_70 =>
    o_in t_70 L (o_let (xs t_70.toNatClampNeg) (fun t_72 =>
    o_b (m_X5_line ln_c ln_k ln_p ln_s t_69 t_72) (fun r_73 =>
    o_let (x3 + (1 : Int32)) (fun t_74 =>
    o_in t_74 L (o_let (xs t_74.toNatClampNeg) (fun t_76 =>
    o_let (x3 + (2 : Int32)) (fun t_77 =>
    o_in t_77 L (o_let (xs t_77.toNatClampNeg) (fun t_79 =>
    o_b (m_X6_line mo_lines mo_kindA mo_countA mo_beginsA t_76 t_79) (fun r_80 =>
    if r_73 = r_80 then (m_L_law_J341 xs L (m_L_law_L18 xs L n) xx_e tp_c tp_o tp_b pp_c pp_o pp_b ln_c ln_m ln_k ln_p ln_f ln_s ln_n rd_f rd_p tk_e tk_s tk_p tk_h tk_v tk_f mo_taped mo_fault mo_place mo_lines mo_used mo_state mo_at mo_from mo_printed mo_written mo_over mo_tapeA mo_kindA mo_firstA mo_countA mo_beginsA mo_numbersA mo_outA x3)
    else (some (0 : Int32)))))))))))))))))
    else if t_11 = (4 : Int32) then (o_let (x3 + (1 : Int32)) (fun t_83 =>
    o_in t_83 L (o_let (xs t_83.toNatClampNeg) (fun t_85 =>
    o_let (x3 + (2 : Int32)) (fun t_86 =>
    o_in t_86 L (o_let (xs t_86.toNatClampNeg) (fun t_88 =>
    o_b (m_X5_number ln_c ln_f ln_s ln_n t_85 t_88) (fun r_89 =>
    o_let (x3 + (1 : Int32)) (fun t_90 =>
    o_in t_90 L (o_let (xs t_90.toNatClampNeg) (fun t_92 =>
    o_let (x3 + (2 : Int32)) (fun t_93 =>
    o_in t_93 L (o_let (xs t_93.toNatClampNeg) (fun t_95 =>
    o_b (m_X6_number1 mo_lines mo_firstA mo_countA mo_numbersA t_92 t_95) (fun r_96 =>
    if (lg_cmp r_89 r_96) = 0 then (m_L_law_J341 xs L (m_L_law_L18 xs L n) xx_e tp_c tp_o tp_b pp_c pp_o pp_b ln_c ln_m ln_k ln_p ln_f ln_s ln_n rd_f rd_p tk_e tk_s tk_p tk_h tk_v tk_f mo_taped mo_fault mo_place mo_lines mo_used mo_state mo_at mo_from mo_printed mo_written mo_over mo_tapeA mo_kindA mo_firstA mo_countA mo_beginsA mo_numbersA mo_outA x3)
    else (some (0 : Int32)))))))))))))))))
    else if t_11 = (5 : Int32) then (o_let (x3 + (1 : Int32)) (fun t_99 =>
    o_in t_99 L (o_let (xs t_99.toNatClampNeg) (fun t_101 =>
    o_b (m_X5_print pp_c ln_c t_101) (fun r_102 =>
    o_let (x3 + (1 : Int32)) (fun t_103 =>
    o_in t_103 L (o_let (xs t_103.toNatClampNeg) (fun t_105 =>
    o_b (m_X6_print mo_lines mo_written mo_over mo_kindA t_105) (fun r_106 =>
    if r_102 = r_106.1 then (m_L_law_J341 xs L (m_L_law_L18 xs L n) xx_e tp_c tp_o tp_b pp_c pp_o pp_b ln_c ln_m ln_k ln_p ln_f ln_s ln_n rd_f rd_p tk_e tk_s tk_p tk_h tk_v tk_f mo_taped mo_fault mo_place mo_lines mo_used mo_state mo_at mo_from mo_printed r_106.2.1 r_106.2.2 mo_tapeA mo_kindA mo_firstA mo_countA mo_beginsA mo_numbersA mo_outA x3)
    else (some (0 : Int32)))))))))))
    else if t_11 = (6 : Int32) then (o_let (x3 + (1 : Int32)) (fun t_109 =>
    o_in t_109 L (o_let (xs t_109.toNatClampNeg) (fun t_111 =>
    o_b (m_X5_printed pp_c pp_b t_111) (fun r_112 =>
    o_let (x3 + (1 : Int32)) (fun t_113 =>
    o_in t_113 L (o_let (xs t_113.toNatClampNeg) (fun t_115 =>
    o_b (m_X6_printed mo_printed mo_outA t_115) (fun r_116 =>
    if r_112 = r_116 then (m_L_law_J341 xs L (m_L_law_L18 xs L n) xx_e tp_c tp_o tp_b pp_c pp_o pp_b ln_c ln_m ln_k ln_p ln_f ln_s ln_n rd_f rd_p tk_e tk_s tk_p tk_h tk_v tk_f mo_taped mo_fault mo_place mo_lines mo_used mo_state mo_at mo_from mo_printed mo_written mo_over mo_tapeA mo_kindA mo_firstA mo_countA mo_beginsA mo_numbersA mo_outA x3)
    else (some (0 : Int32)))))))))))
    else if t_11 = (7 : Int32) then (o_let (x3 + (1 : Int32)) (fun t_119 =>
    o_in t_119 L (if (xs t_119.toNatClampNeg) = 0 then (m_L_law_J316 xs L (m_L_law_L18 xs L n) xx_e tp_c tp_o tp_b pp_c pp_o pp_b ln_c ln_m ln_k ln_p ln_f ln_s ln_n rd_f rd_p tk_e tk_s tk_p tk_h tk_v tk_f mo_taped mo_fault mo_place mo_lines mo_used mo_state mo_at mo_from mo_printed mo_written mo_over mo_tapeA mo_kindA mo_firstA mo_countA mo_beginsA mo_numbersA mo_outA x3 (0 : Int32))
    else (m_L_law_J316 xs L (m_L_law_L18 xs L n) xx_e tp_c tp_o tp_b pp_c pp_o pp_b ln_c ln_m ln_k ln_p ln_f ln_s ln_n rd_f rd_p tk_e tk_s tk_p tk_h tk_v tk_f mo_taped mo_fault mo_place mo_lines mo_used mo_state mo_at mo_from mo_printed mo_written mo_over mo_tapeA mo_kindA mo_firstA mo_countA mo_beginsA mo_numbersA mo_outA x3 (1 : Int32)))))
    else (m_L_law_J341 xs L (m_L_law_L18 xs L n) xx_e tp_c tp_o tp_b pp_c pp_o pp_b ln_c ln_m ln_k ln_p ln_f ln_s ln_n rd_f rd_p tk_e tk_s tk_p tk_h tk_v tk_f mo_taped mo_fault mo_place mo_lines mo_used mo_state mo_at mo_from mo_printed mo_written mo_over mo_tapeA mo_kindA mo_firstA mo_countA mo_beginsA mo_numbersA mo_outA x3)))))
