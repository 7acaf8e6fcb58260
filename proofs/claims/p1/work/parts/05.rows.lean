set_option maxHeartbeats 4000000 in
set_option maxRecDepth 100000 in
theorem c_X0_add {l : Launch} {D : va_G} {cB cI cL : ClassId} {a_br a_brb : Nat} {br_c : Int32} {br_o : Int32} {br_b : Nat → Int32} {p0 : Int32} {res : Int32 × Int32 × (Nat → Int32)} (h : m_X0_add br_c br_o br_b p0 = some res) : KMet l (⟨"LinkText$ByteRow", "add", "(I)V"⟩ : MethodName) (.code (⟨"LinkText$ByteRow", "add", "(I)V"⟩ : MethodName) prog_2_method_2_code 2 none :: k_tbl) ({ frames := 0, cells := 0, slots := 0, locals := 0 } : Room) (ev D cB cI cL) D vwCl [.ref a_br, .int p0] [(a_br, .inr (0, [.ref a_brb, .int br_c, .int br_o])), (a_brb, .inl (cB, 4000, .inl br_b))] (kQv D vwCl [(a_br, .inr (0, [.ref a_brb, .int res.1, .int res.2.1])), (a_brb, .inl (cB, 4000, .inl res.2.2))]) := by
  unfold m_X0_add at h
  refine kMet (cc := prog_2_method_2_code) (mL := 2) (ret := none) (own := "LinkText$ByteRow") (by decide) rfl rfl (Nat.le_of_ble_eq_true rfl) ?_
  intro p e s m below meth c A C hnm hE hA hP hD ls hl
  generalize ([.ref a_br, .int p0] : List Value).toArray = args at C ⊢
  obtain ⟨hx, hb, hr, hml, hown, hts, hlocks⟩ := id C
  have ht : ∀ w ∈ k_tbl, w.before args s = true := fun w h => hts w (List.mem_cons_of_mem _ h)
  have hS : va_S A s.heap s.heap [] := va_S.rf
  have hl : lv_has ls 2 [(0, .ref a_br), (1, .int p0)] := hl
  refine lv_aload_n hx hb dX0_add_0 rfl (lv_at hl 0 rfl) ?_
  refine va_get (D := D) (ci := 0) (v := .int br_c) (C := RX0) (T := TX0) (N := 3) hx hb ht inX0 hown hE.1 hP 0 rfl rfl 1 (by decide) (ht _ kw_30) (fun _ h9 => h9) rfl dX0_add_1 ?_
  refine lv_aload_n hx hb dX0_add_4 rfl (lv_at hl 0 rfl) ?_
  refine va_get (D := D) (ci := 0) (v := .ref a_brb) (C := RX0) (T := TX0) (N := 3) hx hb ht inX0 hown hE.1 hP 0 rfl rfl 0 (by decide) (ht _ kw_28) (fun _ h9 => h9) rfl dX0_add_5 ?_
  refine va_alen (v := 4000) hx hb hE.1 hP 1 0 rfl rfl rfl dX0_add_8 ?_
  refine lv_icmp_lt (tgt := 18) hx hb dX0_add_9 (by decide) (fun c_1 => ?_) (fun c_1 => ?_)
  · replace h := o_t c_1 h
    refine lv_aload_n hx hb dX0_add_18 rfl (lv_at hl 0 rfl) ?_
    refine va_get (D := D) (ci := 0) (v := .ref a_brb) (C := RX0) (T := TX0) (N := 3) hx hb ht inX0 hown hE.1 hP 0 rfl rfl 0 (by decide) (ht _ kw_28) (fun _ h9 => h9) rfl dX0_add_19 ?_
    refine lv_aload_n hx hb dX0_add_22 rfl (lv_at hl 0 rfl) ?_
    refine va_get (D := D) (ci := 0) (v := .int br_c) (C := RX0) (T := TX0) (N := 3) hx hb ht inX0 hown hE.1 hP 0 rfl rfl 1 (by decide) (ht _ kw_30) (fun _ h9 => h9) rfl dX0_add_23 ?_
    refine lv_iload_n hx hb dX0_add_26 rfl (lv_at hl 1 rfl) ?_
    refine lv_i2b hx hb dX0_add_27 rfl ?_
    obtain ⟨hz_2, h⟩ := o_in_s h
    obtain ⟨f_3, ef_3⟩ : ∃ y, y = upd br_b br_c.toNatClampNeg (vp_nar .byte p0.toInt8.toInt32) := ⟨_, rfl⟩
    replace h := o_let_s ef_3 h
    refine va_bast hx hb hE.1 hP hD hS 1 0 rfl rfl hz_2 dX0_add_28 (fun H locs hP hD hS => ?_)
    rw [← ef_3] at hP hD
    have hP : va_P D vwCl [(a_br, .inr (0, [.ref a_brb, .int br_c, .int br_o])), (a_brb, .inl (cB, 4000, .inl f_3))] H := hP
    have hD : va_D A [(a_br, .inr (0, [.ref a_brb, .int br_c, .int br_o])), (a_brb, .inl (cB, 4000, .inl f_3))] := hD
    refine lv_aload_n hx hb dX0_add_29 rfl (lv_at hl 0 rfl) ?_
    refine lv_dup hx hb dX0_add_30 rfl ?_
    refine va_get (D := D) (ci := 0) (v := .int br_c) (C := RX0) (T := TX0) (N := 3) hx hb ht inX0 hown hE.1 hP 0 rfl rfl 1 (by decide) (ht _ kw_30) (fun _ h9 => h9) rfl dX0_add_31 ?_
    refine lv_iconst (v := 1) hx hb dX0_add_34 (by decide) ?_
    refine lv_iadd hx hb dX0_add_35 ?_
    refine lv_topi (fun t_4 et_4 => ?_)
    replace h := o_let_s et_4 h
    refine va_put (D := D) (ci := 0) (v := .int t_4) (ty := .int) (C := RX0) (T := TX0) (N := 3) hx hb ht inX0 tyX0 tyX0_ok nmX0 hown hE.1 hP hD hS 0 rfl rfl 1 (by decide) (ht _ kw_30) (fun _ h9 => h9) rfl (by decide +kernel) rfl rfl (Nat.le_of_ble_eq_true rfl) dX0_add_36 (fun H locs hP hD hS => ?_)
    have hP : va_P D vwCl [(a_br, .inr (0, [.ref a_brb, .int t_4, .int br_o])), (a_brb, .inl (cB, 4000, .inl f_3))] H := hP
    have hD : va_D A [(a_br, .inr (0, [.ref a_brb, .int t_4, .int br_o])), (a_brb, .inl (cB, 4000, .inl f_3))] := hD
    obtain rfl := Option.some.inj h
    exact kRet_v C hP hD hS dX0_add_39
  · replace h := o_f c_1 h
    refine lv_aload_n hx hb dX0_add_12 rfl (lv_at hl 0 rfl) ?_
    refine lv_iconst (v := 1) hx hb dX0_add_13 (by decide) ?_
    refine va_put (D := D) (ci := 0) (v := .int (1 : Int32)) (ty := .boolean) (C := RX0) (T := TX0) (N := 3) hx hb ht inX0 tyX0 tyX0_ok nmX0 hown hE.1 hP hD hS 0 rfl rfl 2 (by decide) (ht _ kw_32) (fun _ h9 => h9) rfl (by decide +kernel) rfl rfl (Nat.le_of_ble_eq_true rfl) dX0_add_14 (fun H locs hP hD hS => ?_)
    have hP : va_P D vwCl [(a_br, .inr (0, [.ref a_brb, .int br_c, .int (1 : Int32)])), (a_brb, .inl (cB, 4000, .inl br_b))] H := hP
    have hD : va_D A [(a_br, .inr (0, [.ref a_brb, .int br_c, .int (1 : Int32)])), (a_brb, .inl (cB, 4000, .inl br_b))] := hD
    obtain rfl := Option.some.inj h
    exact kRet_v C hP hD hS dX0_add_17
set_option maxHeartbeats 4000000 in
set_option maxRecDepth 100000 in
theorem c_X0_cutTo {l : Launch} {D : va_G} {cB cI cL : ClassId} {a_br a_brb : Nat} {br_c : Int32} {br_o : Int32} {br_b : Nat → Int32} {p0 : Int32} {res : Int32 × Int32} (h : m_X0_cutTo br_c br_o p0 = some res) : KMet l (⟨"LinkText$ByteRow", "cutTo", "(I)V"⟩ : MethodName) (.code (⟨"LinkText$ByteRow", "cutTo", "(I)V"⟩ : MethodName) prog_2_method_3_code 2 none :: k_tbl) ({ frames := 0, cells := 0, slots := 0, locals := 0 } : Room) (ev D cB cI cL) D vwCl [.ref a_br, .int p0] [(a_br, .inr (0, [.ref a_brb, .int br_c, .int br_o])), (a_brb, .inl (cB, 4000, .inl br_b))] (kQv D vwCl [(a_br, .inr (0, [.ref a_brb, .int res.1, .int res.2])), (a_brb, .inl (cB, 4000, .inl br_b))]) := by
  unfold m_X0_cutTo at h
  refine kMet (cc := prog_2_method_3_code) (mL := 2) (ret := none) (own := "LinkText$ByteRow") (by decide) rfl rfl (Nat.le_of_ble_eq_true rfl) ?_
  intro p e s m below meth c A C hnm hE hA hP hD ls hl
  generalize ([.ref a_br, .int p0] : List Value).toArray = args at C ⊢
  obtain ⟨hx, hb, hr, hml, hown, hts, hlocks⟩ := id C
  have ht : ∀ w ∈ k_tbl, w.before args s = true := fun w h => hts w (List.mem_cons_of_mem _ h)
  have hS : va_S A s.heap s.heap [] := va_S.rf
  have hl : lv_has ls 2 [(0, .ref a_br), (1, .int p0)] := hl
  refine lv_aload_n hx hb dX0_cutTo_0 rfl (lv_at hl 0 rfl) ?_
  refine lv_iload_n hx hb dX0_cutTo_1 rfl (lv_at hl 1 rfl) ?_
  refine va_put (D := D) (ci := 0) (v := .int p0) (ty := .int) (C := RX0) (T := TX0) (N := 3) hx hb ht inX0 tyX0 tyX0_ok nmX0 hown hE.1 hP hD hS 0 rfl rfl 1 (by decide) (ht _ kw_30) (fun _ h9 => h9) rfl (by decide +kernel) rfl rfl (Nat.le_of_ble_eq_true rfl) dX0_cutTo_2 (fun H locs hP hD hS => ?_)
  have hP : va_P D vwCl [(a_br, .inr (0, [.ref a_brb, .int p0, .int br_o])), (a_brb, .inl (cB, 4000, .inl br_b))] H := hP
  have hD : va_D A [(a_br, .inr (0, [.ref a_brb, .int p0, .int br_o])), (a_brb, .inl (cB, 4000, .inl br_b))] := hD
  refine lv_aload_n hx hb dX0_cutTo_5 rfl (lv_at hl 0 rfl) ?_
  refine lv_iconst (v := 0) hx hb dX0_cutTo_6 (by decide) ?_
  refine va_put (D := D) (ci := 0) (v := .int (0 : Int32)) (ty := .boolean) (C := RX0) (T := TX0) (N := 3) hx hb ht inX0 tyX0 tyX0_ok nmX0 hown hE.1 hP hD hS 0 rfl rfl 2 (by decide) (ht _ kw_32) (fun _ h9 => h9) rfl (by decide +kernel) rfl rfl (Nat.le_of_ble_eq_true rfl) dX0_cutTo_7 (fun H locs hP hD hS => ?_)
  have hP : va_P D vwCl [(a_br, .inr (0, [.ref a_brb, .int p0, .int (0 : Int32)])), (a_brb, .inl (cB, 4000, .inl br_b))] H := hP
  have hD : va_D A [(a_br, .inr (0, [.ref a_brb, .int p0, .int (0 : Int32)])), (a_brb, .inl (cB, 4000, .inl br_b))] := hD
  obtain rfl := Option.some.inj h
  exact kRet_v C hP hD hS dX0_cutTo_10
set_option maxHeartbeats 4000000 in
set_option maxRecDepth 100000 in
theorem c_X0_byteAt {l : Launch} {D : va_G} {cB cI cL : ClassId} {a_br a_brb : Nat} {br_c : Int32} {br_o : Int32} {br_b : Nat → Int32} {p0 : Int32} {res : Int32} (h : m_X0_byteAt br_c br_b p0 = some res) : KMet l (⟨"LinkText$ByteRow", "byteAt", "(I)I"⟩ : MethodName) (.code (⟨"LinkText$ByteRow", "byteAt", "(I)I"⟩ : MethodName) prog_2_method_4_code 2 (some .int) :: k_tbl) ({ frames := 0, cells := 0, slots := 0, locals := 0 } : Room) (ev D cB cI cL) D vwCl [.ref a_br, .int p0] [(a_br, .inr (0, [.ref a_brb, .int br_c, .int br_o])), (a_brb, .inl (cB, 4000, .inl br_b))] (kQi D vwCl [(a_br, .inr (0, [.ref a_brb, .int br_c, .int br_o])), (a_brb, .inl (cB, 4000, .inl br_b))] res) := by
  unfold m_X0_byteAt at h
  refine kMet (cc := prog_2_method_4_code) (mL := 2) (ret := (some .int)) (own := "LinkText$ByteRow") (by decide) rfl rfl (Nat.le_of_ble_eq_true rfl) ?_
  intro p e s m below meth c A C hnm hE hA hP hD ls hl
  generalize ([.ref a_br, .int p0] : List Value).toArray = args at C ⊢
  obtain ⟨hx, hb, hr, hml, hown, hts, hlocks⟩ := id C
  have ht : ∀ w ∈ k_tbl, w.before args s = true := fun w h => hts w (List.mem_cons_of_mem _ h)
  have hS : va_S A s.heap s.heap [] := va_S.rf
  have hl : lv_has ls 2 [(0, .ref a_br), (1, .int p0)] := hl
  refine lv_iload_n hx hb dX0_byteAt_0 rfl (lv_at hl 1 rfl) ?_
  refine lv_if_lt (tgt := 12) hx hb dX0_byteAt_1 (by decide) (fun c_1 => ?_) (fun c_1 => ?_)
  · replace h := o_t c_1 h
    refine lv_iconst (v := -1) hx hb dX0_byteAt_12 (by decide) ?_
    refine lv_goto (tgt := 26) hx hb dX0_byteAt_13 (by decide) ?_
    obtain rfl := Option.some.inj h
    exact kRet_i C hP hD hS dX0_byteAt_26
  · replace h := o_f c_1 h
    refine lv_iload_n hx hb dX0_byteAt_4 rfl (lv_at hl 1 rfl) ?_
    refine lv_aload_n hx hb dX0_byteAt_5 rfl (lv_at hl 0 rfl) ?_
    refine va_get (D := D) (ci := 0) (v := .int br_c) (C := RX0) (T := TX0) (N := 3) hx hb ht inX0 hown hE.1 hP 0 rfl rfl 1 (by decide) (ht _ kw_30) (fun _ h9 => h9) rfl dX0_byteAt_6 ?_
    refine lv_icmp_lt (tgt := 16) hx hb dX0_byteAt_9 (by decide) (fun c_2 => ?_) (fun c_2 => ?_)
    · replace h := o_t c_2 h
      refine lv_aload_n hx hb dX0_byteAt_16 rfl (lv_at hl 0 rfl) ?_
      refine va_get (D := D) (ci := 0) (v := .ref a_brb) (C := RX0) (T := TX0) (N := 3) hx hb ht inX0 hown hE.1 hP 0 rfl rfl 0 (by decide) (ht _ kw_28) (fun _ h9 => h9) rfl dX0_byteAt_17 ?_
      refine lv_iload_n hx hb dX0_byteAt_20 rfl (lv_at hl 1 rfl) ?_
      obtain ⟨hz_3, h⟩ := o_in_s h
      refine va_bald hx hb hE.1 hP 1 0 rfl rfl hz_3 dX0_byteAt_21 ?_
      refine lv_topi (fun t_4 et_4 => ?_)
      replace h := o_let_s et_4 h
      refine lv_sipush (v := 255) hx hb dX0_byteAt_22 (by decide) ?_
      refine lv_iand hx hb dX0_byteAt_25 ?_
      obtain rfl := Option.some.inj h
      exact kRet_i C hP hD hS dX0_byteAt_26
    · replace h := o_f c_2 h
      refine lv_iconst (v := -1) hx hb dX0_byteAt_12 (by decide) ?_
      refine lv_goto (tgt := 26) hx hb dX0_byteAt_13 (by decide) ?_
      obtain rfl := Option.some.inj h
      exact kRet_i C hP hD hS dX0_byteAt_26
set_option maxHeartbeats 4000000 in
set_option maxRecDepth 100000 in
theorem c_X0_copy {l : Launch} {D : va_G} {cB cI cL : ClassId} {a_br a_brb a_ot a_otb : Nat} {br_c : Int32} {br_o : Int32} {br_b : Nat → Int32} {ot_c : Int32} {ot_o : Int32} {ot_b : Nat → Int32} {res : Int32 × Int32 × (Nat → Int32)} (h : m_X0_copy br_c br_o br_b ot_c ot_b = some res) : KMet l (⟨"LinkText$ByteRow", "copy", "(LLinkText$ByteRow;)V"⟩ : MethodName) (.code (⟨"LinkText$ByteRow", "copy", "(LLinkText$ByteRow;)V"⟩ : MethodName) prog_2_method_5_code 2 none :: k_tbl) ({ frames := 1, cells := 0, slots := 0, locals := 40 } : Room) (ev D cB cI cL) D vwCl [.ref a_br, .ref a_ot] [(a_br, .inr (0, [.ref a_brb, .int br_c, .int br_o])), (a_brb, .inl (cB, 4000, .inl br_b)), (a_ot, .inr (0, [.ref a_otb, .int ot_c, .int ot_o])), (a_otb, .inl (cB, 4000, .inl ot_b))] (kQv D vwCl [(a_br, .inr (0, [.ref a_brb, .int res.1, .int res.2.1])), (a_brb, .inl (cB, 4000, .inl res.2.2)), (a_ot, .inr (0, [.ref a_otb, .int ot_c, .int ot_o])), (a_otb, .inl (cB, 4000, .inl ot_b))]) := by
  unfold m_X0_copy at h
  refine kMet (cc := prog_2_method_5_code) (mL := 2) (ret := none) (own := "LinkText$ByteRow") (by decide) rfl rfl (Nat.le_of_ble_eq_true rfl) ?_
  intro p e s m below meth c A C hnm hE hA hP hD ls hl
  generalize ([.ref a_br, .ref a_ot] : List Value).toArray = args at C ⊢
  obtain ⟨hx, hb, hr, hml, hown, hts, hlocks⟩ := id C
  have ht : ∀ w ∈ k_tbl, w.before args s = true := fun w h => hts w (List.mem_cons_of_mem _ h)
  have hS : va_S A s.heap s.heap [] := va_S.rf
  have hl : lv_has ls 2 [(0, .ref a_br), (1, .ref a_ot)] := hl
  refine lv_aload_n hx hb dX0_copy_0 rfl (lv_at hl 1 rfl) ?_
  refine va_get (D := D) (ci := 0) (v := .ref a_otb) (C := RX0) (T := TX0) (N := 3) hx hb ht inX0 hown hE.1 hP 2 rfl rfl 0 (by decide) (ht _ kw_28) (fun _ h9 => h9) rfl dX0_copy_1 ?_
  refine lv_iconst (v := 0) hx hb dX0_copy_4 (by decide) ?_
  refine lv_aload_n hx hb dX0_copy_5 rfl (lv_at hl 0 rfl) ?_
  refine va_get (D := D) (ci := 0) (v := .ref a_brb) (C := RX0) (T := TX0) (N := 3) hx hb ht inX0 hown hE.1 hP 0 rfl rfl 0 (by decide) (ht _ kw_28) (fun _ h9 => h9) rfl dX0_copy_6 ?_
  refine lv_iconst (v := 0) hx hb dX0_copy_9 (by decide) ?_
  refine lv_aload_n hx hb dX0_copy_10 rfl (lv_at hl 1 rfl) ?_
  refine va_get (D := D) (ci := 0) (v := .int ot_c) (C := RX0) (T := TX0) (N := 3) hx hb ht inX0 hown hE.1 hP 2 rfl rfl 1 (by decide) (ht _ kw_30) (fun _ h9 => h9) rfl dX0_copy_11 ?_
  obtain ⟨hz_1, h⟩ := o_cpy_s h
  obtain ⟨f_2, ef_2⟩ : ∃ y, y = va_cpy ot_b br_b (0 : Int32).toNatClampNeg (0 : Int32).toNatClampNeg ot_c.toNatClampNeg := ⟨_, rfl⟩
  replace h := o_let_s ef_2 h
  refine va_copyi (ty := .byte) hx hb (hml.trans hl.1.symm) hown (ht _ kw_505) (ht _ kw_507) (ht _ kw_506) (ht _ kw_13) hE.1 hP hD hS 3 1 0 0 rfl rfl rfl rfl rfl hz_1.1 hz_1.2.1 hz_1.2.2.1 hz_1.2.2.2.1 hz_1.2.2.2.2.1 hz_1.2.2.2.2.2 (by decide) (by decide) dX0_copy_14 (fun H locs hP hD hS => ?_)
  rw [← ef_2] at hP hD
  have hP : va_P D vwCl [(a_br, .inr (0, [.ref a_brb, .int br_c, .int br_o])), (a_brb, .inl (cB, 4000, .inl f_2)), (a_ot, .inr (0, [.ref a_otb, .int ot_c, .int ot_o])), (a_otb, .inl (cB, 4000, .inl ot_b))] H := hP
  have hD : va_D A [(a_br, .inr (0, [.ref a_brb, .int br_c, .int br_o])), (a_brb, .inl (cB, 4000, .inl f_2)), (a_ot, .inr (0, [.ref a_otb, .int ot_c, .int ot_o])), (a_otb, .inl (cB, 4000, .inl ot_b))] := hD
  refine lv_aload_n hx hb dX0_copy_17 rfl (lv_at hl 0 rfl) ?_
  refine lv_aload_n hx hb dX0_copy_18 rfl (lv_at hl 1 rfl) ?_
  refine va_get (D := D) (ci := 0) (v := .int ot_c) (C := RX0) (T := TX0) (N := 3) hx hb ht inX0 hown hE.1 hP 2 rfl rfl 1 (by decide) (ht _ kw_30) (fun _ h9 => h9) rfl dX0_copy_19 ?_
  obtain ⟨r_3, hr_3, h⟩ := o_b_s h
  refine kCv (w' := [(a_br, .inr (0, [.ref a_brb, .int r_3.1, .int r_3.2])), (a_brb, .inl (cB, 4000, .inl f_2)), (a_ot, .inr (0, [.ref a_otb, .int ot_c, .int ot_o])), (a_otb, .inl (cB, 4000, .inl ot_b))]) hP hD hS hA [0, 1] [2, 3] [2, 3, 0, 1] (kRunV (rest := []) C ev_ok hE hA hP hD hS [0, 1] rfl rfl rfl (c_X0_cutTo hr_3) hE.1 0 0 rfl rfl (cwV 1 ht (gV kw_508 kw_377 kw_378 kw_2 kw_379) rfl rfl rfl (by decide +kernel) ⟨Nat.le_of_ble_eq_true rfl, Nat.le_of_ble_eq_true rfl⟩) rfl hl.1 rfl (Nat.le_of_ble_eq_true rfl) dX0_copy_22 ⟨Nat.le_of_ble_eq_true rfl, Nat.le_of_ble_eq_true rfl⟩) rfl rfl rfl (by decide) rfl rfl rfl (fun H locs hP hD hS => ?_)
  obtain rfl := Option.some.inj h
  exact kRet_v C hP hD hS dX0_copy_25
set_option maxHeartbeats 4000000 in
set_option maxRecDepth 100000 in
theorem c_X1_clear {l : Launch} {D : va_G} {cB cI cL : ClassId} {a_ln a_lnk a_lnp a_lnf a_lns a_lnn : Nat} {ln_c : Int32} {ln_m : Int32} {ln_k : Nat → Int32} {ln_p : Nat → Int32} {ln_f : Nat → Int32} {ln_s : Nat → Int32} {ln_n : Nat → Int64} {res : Int32 × Int32} (h : m_X1_clear ln_c ln_m = some res) : KMet l (⟨"LinkText$Lines", "clear", "()V"⟩ : MethodName) (.code (⟨"LinkText$Lines", "clear", "()V"⟩ : MethodName) prog_3_method_2_code 1 none :: k_tbl) ({ frames := 0, cells := 0, slots := 0, locals := 0 } : Room) (ev D cB cI cL) D vwCl [.ref a_ln] [(a_ln, .inr (1, [.ref a_lnk, .ref a_lnp, .ref a_lnf, .ref a_lns, .ref a_lnn, .int ln_c, .int ln_m])), (a_lnk, .inl (cI, 64, .inl ln_k)), (a_lnp, .inl (cI, 64, .inl ln_p)), (a_lnf, .inl (cI, 64, .inl ln_f)), (a_lns, .inl (cI, 64, .inl ln_s)), (a_lnn, .inl (cL, 4000, .inr (.inl ln_n)))] (kQv D vwCl [(a_ln, .inr (1, [.ref a_lnk, .ref a_lnp, .ref a_lnf, .ref a_lns, .ref a_lnn, .int res.1, .int res.2])), (a_lnk, .inl (cI, 64, .inl ln_k)), (a_lnp, .inl (cI, 64, .inl ln_p)), (a_lnf, .inl (cI, 64, .inl ln_f)), (a_lns, .inl (cI, 64, .inl ln_s)), (a_lnn, .inl (cL, 4000, .inr (.inl ln_n)))]) := by
  unfold m_X1_clear at h
  refine kMet (cc := prog_3_method_2_code) (mL := 1) (ret := none) (own := "LinkText$Lines") (by decide) rfl rfl (Nat.le_of_ble_eq_true rfl) ?_
  intro p e s m below meth c A C hnm hE hA hP hD ls hl
  generalize ([.ref a_ln] : List Value).toArray = args at C ⊢
  obtain ⟨hx, hb, hr, hml, hown, hts, hlocks⟩ := id C
  have ht : ∀ w ∈ k_tbl, w.before args s = true := fun w h => hts w (List.mem_cons_of_mem _ h)
  have hS : va_S A s.heap s.heap [] := va_S.rf
  have hl : lv_has ls 1 [(0, .ref a_ln)] := hl
  refine lv_aload_n hx hb dX1_clear_0 rfl (lv_at hl 0 rfl) ?_
  refine lv_iconst (v := 0) hx hb dX1_clear_1 (by decide) ?_
  refine va_put (D := D) (ci := 1) (v := .int (0 : Int32)) (ty := .int) (C := RX1) (T := TX1) (N := 7) hx hb ht inX1 tyX1 tyX1_ok nmX1 hown hE.1 hP hD hS 0 rfl rfl 5 (by decide) (ht _ kw_53) (fun _ h9 => h9) rfl (by decide +kernel) rfl rfl (Nat.le_of_ble_eq_true rfl) dX1_clear_2 (fun H locs hP hD hS => ?_)
  have hP : va_P D vwCl [(a_ln, .inr (1, [.ref a_lnk, .ref a_lnp, .ref a_lnf, .ref a_lns, .ref a_lnn, .int (0 : Int32), .int ln_m])), (a_lnk, .inl (cI, 64, .inl ln_k)), (a_lnp, .inl (cI, 64, .inl ln_p)), (a_lnf, .inl (cI, 64, .inl ln_f)), (a_lns, .inl (cI, 64, .inl ln_s)), (a_lnn, .inl (cL, 4000, .inr (.inl ln_n)))] H := hP
  have hD : va_D A [(a_ln, .inr (1, [.ref a_lnk, .ref a_lnp, .ref a_lnf, .ref a_lns, .ref a_lnn, .int (0 : Int32), .int ln_m])), (a_lnk, .inl (cI, 64, .inl ln_k)), (a_lnp, .inl (cI, 64, .inl ln_p)), (a_lnf, .inl (cI, 64, .inl ln_f)), (a_lns, .inl (cI, 64, .inl ln_s)), (a_lnn, .inl (cL, 4000, .inr (.inl ln_n)))] := hD
  refine lv_aload_n hx hb dX1_clear_5 rfl (lv_at hl 0 rfl) ?_
  refine lv_iconst (v := 0) hx hb dX1_clear_6 (by decide) ?_
  refine va_put (D := D) (ci := 1) (v := .int (0 : Int32)) (ty := .int) (C := RX1) (T := TX1) (N := 7) hx hb ht inX1 tyX1 tyX1_ok nmX1 hown hE.1 hP hD hS 0 rfl rfl 6 (by decide) (ht _ kw_56) (fun _ h9 => h9) rfl (by decide +kernel) rfl rfl (Nat.le_of_ble_eq_true rfl) dX1_clear_7 (fun H locs hP hD hS => ?_)
  have hP : va_P D vwCl [(a_ln, .inr (1, [.ref a_lnk, .ref a_lnp, .ref a_lnf, .ref a_lns, .ref a_lnn, .int (0 : Int32), .int (0 : Int32)])), (a_lnk, .inl (cI, 64, .inl ln_k)), (a_lnp, .inl (cI, 64, .inl ln_p)), (a_lnf, .inl (cI, 64, .inl ln_f)), (a_lns, .inl (cI, 64, .inl ln_s)), (a_lnn, .inl (cL, 4000, .inr (.inl ln_n)))] H := hP
  have hD : va_D A [(a_ln, .inr (1, [.ref a_lnk, .ref a_lnp, .ref a_lnf, .ref a_lns, .ref a_lnn, .int (0 : Int32), .int (0 : Int32)])), (a_lnk, .inl (cI, 64, .inl ln_k)), (a_lnp, .inl (cI, 64, .inl ln_p)), (a_lnf, .inl (cI, 64, .inl ln_f)), (a_lns, .inl (cI, 64, .inl ln_s)), (a_lnn, .inl (cL, 4000, .inr (.inl ln_n)))] := hD
  obtain rfl := Option.some.inj h
  exact kRet_v C hP hD hS dX1_clear_10
set_option maxHeartbeats 4000000 in
set_option maxRecDepth 100000 in
theorem c_X1_has {l : Launch} {D : va_G} {cB cI cL : ClassId} {a_ln a_lnk a_lnp a_lnf a_lns a_lnn : Nat} {ln_c : Int32} {ln_m : Int32} {ln_k : Nat → Int32} {ln_p : Nat → Int32} {ln_f : Nat → Int32} {ln_s : Nat → Int32} {ln_n : Nat → Int64} {p0 : Int32} {res : Int32} (h : m_X1_has ln_c p0 = some res) : KMet l (⟨"LinkText$Lines", "has", "(I)Z"⟩ : MethodName) (.code (⟨"LinkText$Lines", "has", "(I)Z"⟩ : MethodName) prog_3_method_5_code 2 (some .boolean) :: k_tbl) ({ frames := 0, cells := 0, slots := 0, locals := 0 } : Room) (ev D cB cI cL) D vwCl [.ref a_ln, .int p0] [(a_ln, .inr (1, [.ref a_lnk, .ref a_lnp, .ref a_lnf, .ref a_lns, .ref a_lnn, .int ln_c, .int ln_m])), (a_lnk, .inl (cI, 64, .inl ln_k)), (a_lnp, .inl (cI, 64, .inl ln_p)), (a_lnf, .inl (cI, 64, .inl ln_f)), (a_lns, .inl (cI, 64, .inl ln_s)), (a_lnn, .inl (cL, 4000, .inr (.inl ln_n)))] (kQi D vwCl [(a_ln, .inr (1, [.ref a_lnk, .ref a_lnp, .ref a_lnf, .ref a_lns, .ref a_lnn, .int ln_c, .int ln_m])), (a_lnk, .inl (cI, 64, .inl ln_k)), (a_lnp, .inl (cI, 64, .inl ln_p)), (a_lnf, .inl (cI, 64, .inl ln_f)), (a_lns, .inl (cI, 64, .inl ln_s)), (a_lnn, .inl (cL, 4000, .inr (.inl ln_n)))] res) := by
  unfold m_X1_has at h
  refine kMet (cc := prog_3_method_5_code) (mL := 2) (ret := (some .boolean)) (own := "LinkText$Lines") (by decide) rfl rfl (Nat.le_of_ble_eq_true rfl) ?_
  intro p e s m below meth c A C hnm hE hA hP hD ls hl
  generalize ([.ref a_ln, .int p0] : List Value).toArray = args at C ⊢
  obtain ⟨hx, hb, hr, hml, hown, hts, hlocks⟩ := id C
  have ht : ∀ w ∈ k_tbl, w.before args s = true := fun w h => hts w (List.mem_cons_of_mem _ h)
  have hS : va_S A s.heap s.heap [] := va_S.rf
  have hl : lv_has ls 2 [(0, .ref a_ln), (1, .int p0)] := hl
  refine lv_iload_n hx hb dX1_has_0 rfl (lv_at hl 1 rfl) ?_
  refine lv_if_lt (tgt := 16) hx hb dX1_has_1 (by decide) (fun c_1 => ?_) (fun c_1 => ?_)
  · replace h := o_t c_1 h
    refine lv_iconst (v := 0) hx hb dX1_has_16 (by decide) ?_
    obtain rfl := Option.some.inj h
    exact kRet_z C (by decide) hP hD hS dX1_has_17
  · replace h := o_f c_1 h
    refine lv_iload_n hx hb dX1_has_4 rfl (lv_at hl 1 rfl) ?_
    refine lv_aload_n hx hb dX1_has_5 rfl (lv_at hl 0 rfl) ?_
    refine va_get (D := D) (ci := 1) (v := .int ln_c) (C := RX1) (T := TX1) (N := 7) hx hb ht inX1 hown hE.1 hP 0 rfl rfl 5 (by decide) (ht _ kw_53) (fun _ h9 => h9) rfl dX1_has_6 ?_
    refine lv_icmp_ge (tgt := 16) hx hb dX1_has_9 (by decide) (fun c_2 => ?_) (fun c_2 => ?_)
    · replace h := o_t c_2 h
      refine lv_iconst (v := 0) hx hb dX1_has_16 (by decide) ?_
      obtain rfl := Option.some.inj h
      exact kRet_z C (by decide) hP hD hS dX1_has_17
    · replace h := o_f c_2 h
      refine lv_iconst (v := 1) hx hb dX1_has_12 (by decide) ?_
      refine lv_goto (tgt := 17) hx hb dX1_has_13 (by decide) ?_
      obtain rfl := Option.some.inj h
      exact kRet_z C (by decide) hP hD hS dX1_has_17
set_option maxHeartbeats 4000000 in
set_option maxRecDepth 100000 in
theorem c_X1_sizeOf {l : Launch} {D : va_G} {cB cI cL : ClassId} {a_ln a_lnk a_lnp a_lnf a_lns a_lnn : Nat} {ln_c : Int32} {ln_m : Int32} {ln_k : Nat → Int32} {ln_p : Nat → Int32} {ln_f : Nat → Int32} {ln_s : Nat → Int32} {ln_n : Nat → Int64} {p0 : Int32} {res : Int32} (h : m_X1_sizeOf ln_c ln_s p0 = some res) : KMet l (⟨"LinkText$Lines", "sizeOf", "(I)I"⟩ : MethodName) (.code (⟨"LinkText$Lines", "sizeOf", "(I)I"⟩ : MethodName) prog_3_method_7_code 2 (some .int) :: k_tbl) ({ frames := 1, cells := 0, slots := 0, locals := 21 } : Room) (ev D cB cI cL) D vwCl [.ref a_ln, .int p0] [(a_ln, .inr (1, [.ref a_lnk, .ref a_lnp, .ref a_lnf, .ref a_lns, .ref a_lnn, .int ln_c, .int ln_m])), (a_lnk, .inl (cI, 64, .inl ln_k)), (a_lnp, .inl (cI, 64, .inl ln_p)), (a_lnf, .inl (cI, 64, .inl ln_f)), (a_lns, .inl (cI, 64, .inl ln_s)), (a_lnn, .inl (cL, 4000, .inr (.inl ln_n)))] (kQi D vwCl [(a_ln, .inr (1, [.ref a_lnk, .ref a_lnp, .ref a_lnf, .ref a_lns, .ref a_lnn, .int ln_c, .int ln_m])), (a_lnk, .inl (cI, 64, .inl ln_k)), (a_lnp, .inl (cI, 64, .inl ln_p)), (a_lnf, .inl (cI, 64, .inl ln_f)), (a_lns, .inl (cI, 64, .inl ln_s)), (a_lnn, .inl (cL, 4000, .inr (.inl ln_n)))] res) := by
  unfold m_X1_sizeOf at h
  refine kMet (cc := prog_3_method_7_code) (mL := 2) (ret := (some .int)) (own := "LinkText$Lines") (by decide) rfl rfl (Nat.le_of_ble_eq_true rfl) ?_
  intro p e s m below meth c A C hnm hE hA hP hD ls hl
  generalize ([.ref a_ln, .int p0] : List Value).toArray = args at C ⊢
  obtain ⟨hx, hb, hr, hml, hown, hts, hlocks⟩ := id C
  have ht : ∀ w ∈ k_tbl, w.before args s = true := fun w h => hts w (List.mem_cons_of_mem _ h)
  have hS : va_S A s.heap s.heap [] := va_S.rf
  have hl : lv_has ls 2 [(0, .ref a_ln), (1, .int p0)] := hl
  refine lv_aload_n hx hb dX1_sizeOf_0 rfl (lv_at hl 0 rfl) ?_
  refine lv_iload_n hx hb dX1_sizeOf_1 rfl (lv_at hl 1 rfl) ?_
  obtain ⟨r_1, hr_1, h⟩ := o_b_s h
  refine kCi (w' := [(a_ln, .inr (1, [.ref a_lnk, .ref a_lnp, .ref a_lnf, .ref a_lns, .ref a_lnn, .int ln_c, .int ln_m])), (a_lnk, .inl (cI, 64, .inl ln_k)), (a_lnp, .inl (cI, 64, .inl ln_p)), (a_lnf, .inl (cI, 64, .inl ln_f)), (a_lns, .inl (cI, 64, .inl ln_s)), (a_lnn, .inl (cL, 4000, .inr (.inl ln_n)))]) hP hD hS hA [0, 1, 2, 3, 4, 5] [] [0, 1, 2, 3, 4, 5] (kRunV (rest := []) C ev_ok hE hA hP hD hS [0, 1, 2, 3, 4, 5] rfl rfl rfl (c_X1_has hr_1) hE.1 0 1 rfl rfl (cwV 1 ht (gV kw_397 kw_390 kw_391 kw_3 kw_392) rfl rfl rfl (by decide +kernel) ⟨Nat.le_of_ble_eq_true rfl, Nat.le_of_ble_eq_true rfl⟩) rfl hl.1 rfl (Nat.le_of_ble_eq_true rfl) dX1_sizeOf_2 ⟨Nat.le_of_ble_eq_true rfl, Nat.le_of_ble_eq_true rfl⟩) rfl rfl rfl (by decide) rfl rfl rfl (fun H locs hP hD hS => ?_)
  refine lv_if_eq (tgt := 17) hx hb dX1_sizeOf_5 (by decide) (fun c_2 => ?_) (fun c_2 => ?_)
  · replace h := o_t c_2 h
    refine lv_iconst (v := 0) hx hb dX1_sizeOf_17 (by decide) ?_
    obtain rfl := Option.some.inj h
    exact kRet_i C hP hD hS dX1_sizeOf_18
  · replace h := o_f c_2 h
    refine lv_aload_n hx hb dX1_sizeOf_8 rfl (lv_at hl 0 rfl) ?_
    refine va_get (D := D) (ci := 1) (v := .ref a_lns) (C := RX1) (T := TX1) (N := 7) hx hb ht inX1 hown hE.1 hP 0 rfl rfl 3 (by decide) (ht _ kw_51) (fun _ h9 => h9) rfl dX1_sizeOf_9 ?_
    refine lv_iload_n hx hb dX1_sizeOf_12 rfl (lv_at hl 1 rfl) ?_
    obtain ⟨hz_3, h⟩ := o_in_s h
    refine va_iald hx hb hE.1 hP 4 1 rfl rfl hz_3 dX1_sizeOf_13 ?_
    refine lv_topi (fun t_4 et_4 => ?_)
    replace h := o_let_s et_4 h
    refine lv_goto (tgt := 18) hx hb dX1_sizeOf_14 (by decide) ?_
    obtain rfl := Option.some.inj h
    exact kRet_i C hP hD hS dX1_sizeOf_18
set_option maxHeartbeats 4000000 in
set_option maxRecDepth 100000 in
theorem c_X1_kindOf {l : Launch} {D : va_G} {cB cI cL : ClassId} {a_ln a_lnk a_lnp a_lnf a_lns a_lnn : Nat} {ln_c : Int32} {ln_m : Int32} {ln_k : Nat → Int32} {ln_p : Nat → Int32} {ln_f : Nat → Int32} {ln_s : Nat → Int32} {ln_n : Nat → Int64} {p0 : Int32} {res : Int32} (h : m_X1_kindOf ln_c ln_k p0 = some res) : KMet l (⟨"LinkText$Lines", "kindOf", "(I)I"⟩ : MethodName) (.code (⟨"LinkText$Lines", "kindOf", "(I)I"⟩ : MethodName) prog_3_method_6_code 2 (some .int) :: k_tbl) ({ frames := 1, cells := 0, slots := 0, locals := 21 } : Room) (ev D cB cI cL) D vwCl [.ref a_ln, .int p0] [(a_ln, .inr (1, [.ref a_lnk, .ref a_lnp, .ref a_lnf, .ref a_lns, .ref a_lnn, .int ln_c, .int ln_m])), (a_lnk, .inl (cI, 64, .inl ln_k)), (a_lnp, .inl (cI, 64, .inl ln_p)), (a_lnf, .inl (cI, 64, .inl ln_f)), (a_lns, .inl (cI, 64, .inl ln_s)), (a_lnn, .inl (cL, 4000, .inr (.inl ln_n)))] (kQi D vwCl [(a_ln, .inr (1, [.ref a_lnk, .ref a_lnp, .ref a_lnf, .ref a_lns, .ref a_lnn, .int ln_c, .int ln_m])), (a_lnk, .inl (cI, 64, .inl ln_k)), (a_lnp, .inl (cI, 64, .inl ln_p)), (a_lnf, .inl (cI, 64, .inl ln_f)), (a_lns, .inl (cI, 64, .inl ln_s)), (a_lnn, .inl (cL, 4000, .inr (.inl ln_n)))] res) := by
  unfold m_X1_kindOf at h
  refine kMet (cc := prog_3_method_6_code) (mL := 2) (ret := (some .int)) (own := "LinkText$Lines") (by decide) rfl rfl (Nat.le_of_ble_eq_true rfl) ?_
  intro p e s m below meth c A C hnm hE hA hP hD ls hl
  generalize ([.ref a_ln, .int p0] : List Value).toArray = args at C ⊢
  obtain ⟨hx, hb, hr, hml, hown, hts, hlocks⟩ := id C
  have ht : ∀ w ∈ k_tbl, w.before args s = true := fun w h => hts w (List.mem_cons_of_mem _ h)
  have hS : va_S A s.heap s.heap [] := va_S.rf
  have hl : lv_has ls 2 [(0, .ref a_ln), (1, .int p0)] := hl
  refine lv_aload_n hx hb dX1_kindOf_0 rfl (lv_at hl 0 rfl) ?_
  refine lv_iload_n hx hb dX1_kindOf_1 rfl (lv_at hl 1 rfl) ?_
  obtain ⟨r_1, hr_1, h⟩ := o_b_s h
  refine kCi (w' := [(a_ln, .inr (1, [.ref a_lnk, .ref a_lnp, .ref a_lnf, .ref a_lns, .ref a_lnn, .int ln_c, .int ln_m])), (a_lnk, .inl (cI, 64, .inl ln_k)), (a_lnp, .inl (cI, 64, .inl ln_p)), (a_lnf, .inl (cI, 64, .inl ln_f)), (a_lns, .inl (cI, 64, .inl ln_s)), (a_lnn, .inl (cL, 4000, .inr (.inl ln_n)))]) hP hD hS hA [0, 1, 2, 3, 4, 5] [] [0, 1, 2, 3, 4, 5] (kRunV (rest := []) C ev_ok hE hA hP hD hS [0, 1, 2, 3, 4, 5] rfl rfl rfl (c_X1_has hr_1) hE.1 0 1 rfl rfl (cwV 1 ht (gV kw_397 kw_390 kw_391 kw_3 kw_392) rfl rfl rfl (by decide +kernel) ⟨Nat.le_of_ble_eq_true rfl, Nat.le_of_ble_eq_true rfl⟩) rfl hl.1 rfl (Nat.le_of_ble_eq_true rfl) dX1_kindOf_2 ⟨Nat.le_of_ble_eq_true rfl, Nat.le_of_ble_eq_true rfl⟩) rfl rfl rfl (by decide) rfl rfl rfl (fun H locs hP hD hS => ?_)
  refine lv_if_eq (tgt := 17) hx hb dX1_kindOf_5 (by decide) (fun c_2 => ?_) (fun c_2 => ?_)
  · replace h := o_t c_2 h
    refine lv_iconst (v := 0) hx hb dX1_kindOf_17 (by decide) ?_
    obtain rfl := Option.some.inj h
    exact kRet_i C hP hD hS dX1_kindOf_18
  · replace h := o_f c_2 h
    refine lv_aload_n hx hb dX1_kindOf_8 rfl (lv_at hl 0 rfl) ?_
    refine va_get (D := D) (ci := 1) (v := .ref a_lnk) (C := RX1) (T := TX1) (N := 7) hx hb ht inX1 hown hE.1 hP 0 rfl rfl 0 (by decide) (ht _ kw_48) (fun _ h9 => h9) rfl dX1_kindOf_9 ?_
    refine lv_iload_n hx hb dX1_kindOf_12 rfl (lv_at hl 1 rfl) ?_
    obtain ⟨hz_3, h⟩ := o_in_s h
    refine va_iald hx hb hE.1 hP 1 1 rfl rfl hz_3 dX1_kindOf_13 ?_
    refine lv_topi (fun t_4 et_4 => ?_)
    replace h := o_let_s et_4 h
    refine lv_goto (tgt := 18) hx hb dX1_kindOf_14 (by decide) ?_
    obtain rfl := Option.some.inj h
    exact kRet_i C hP hD hS dX1_kindOf_18
set_option maxHeartbeats 4000000 in
set_option maxRecDepth 100000 in
theorem c_X1_placeOf {l : Launch} {D : va_G} {cB cI cL : ClassId} {a_ln a_lnk a_lnp a_lnf a_lns a_lnn : Nat} {ln_c : Int32} {ln_m : Int32} {ln_k : Nat → Int32} {ln_p : Nat → Int32} {ln_f : Nat → Int32} {ln_s : Nat → Int32} {ln_n : Nat → Int64} {p0 : Int32} {res : Int32} (h : m_X1_placeOf ln_c ln_p p0 = some res) : KMet l (⟨"LinkText$Lines", "placeOf", "(I)I"⟩ : MethodName) (.code (⟨"LinkText$Lines", "placeOf", "(I)I"⟩ : MethodName) prog_3_method_8_code 2 (some .int) :: k_tbl) ({ frames := 1, cells := 0, slots := 0, locals := 21 } : Room) (ev D cB cI cL) D vwCl [.ref a_ln, .int p0] [(a_ln, .inr (1, [.ref a_lnk, .ref a_lnp, .ref a_lnf, .ref a_lns, .ref a_lnn, .int ln_c, .int ln_m])), (a_lnk, .inl (cI, 64, .inl ln_k)), (a_lnp, .inl (cI, 64, .inl ln_p)), (a_lnf, .inl (cI, 64, .inl ln_f)), (a_lns, .inl (cI, 64, .inl ln_s)), (a_lnn, .inl (cL, 4000, .inr (.inl ln_n)))] (kQi D vwCl [(a_ln, .inr (1, [.ref a_lnk, .ref a_lnp, .ref a_lnf, .ref a_lns, .ref a_lnn, .int ln_c, .int ln_m])), (a_lnk, .inl (cI, 64, .inl ln_k)), (a_lnp, .inl (cI, 64, .inl ln_p)), (a_lnf, .inl (cI, 64, .inl ln_f)), (a_lns, .inl (cI, 64, .inl ln_s)), (a_lnn, .inl (cL, 4000, .inr (.inl ln_n)))] res) := by
  unfold m_X1_placeOf at h
  refine kMet (cc := prog_3_method_8_code) (mL := 2) (ret := (some .int)) (own := "LinkText$Lines") (by decide) rfl rfl (Nat.le_of_ble_eq_true rfl) ?_
  intro p e s m below meth c A C hnm hE hA hP hD ls hl
  generalize ([.ref a_ln, .int p0] : List Value).toArray = args at C ⊢
  obtain ⟨hx, hb, hr, hml, hown, hts, hlocks⟩ := id C
  have ht : ∀ w ∈ k_tbl, w.before args s = true := fun w h => hts w (List.mem_cons_of_mem _ h)
  have hS : va_S A s.heap s.heap [] := va_S.rf
  have hl : lv_has ls 2 [(0, .ref a_ln), (1, .int p0)] := hl
  refine lv_aload_n hx hb dX1_placeOf_0 rfl (lv_at hl 0 rfl) ?_
  refine lv_iload_n hx hb dX1_placeOf_1 rfl (lv_at hl 1 rfl) ?_
  obtain ⟨r_1, hr_1, h⟩ := o_b_s h
  refine kCi (w' := [(a_ln, .inr (1, [.ref a_lnk, .ref a_lnp, .ref a_lnf, .ref a_lns, .ref a_lnn, .int ln_c, .int ln_m])), (a_lnk, .inl (cI, 64, .inl ln_k)), (a_lnp, .inl (cI, 64, .inl ln_p)), (a_lnf, .inl (cI, 64, .inl ln_f)), (a_lns, .inl (cI, 64, .inl ln_s)), (a_lnn, .inl (cL, 4000, .inr (.inl ln_n)))]) hP hD hS hA [0, 1, 2, 3, 4, 5] [] [0, 1, 2, 3, 4, 5] (kRunV (rest := []) C ev_ok hE hA hP hD hS [0, 1, 2, 3, 4, 5] rfl rfl rfl (c_X1_has hr_1) hE.1 0 1 rfl rfl (cwV 1 ht (gV kw_397 kw_390 kw_391 kw_3 kw_392) rfl rfl rfl (by decide +kernel) ⟨Nat.le_of_ble_eq_true rfl, Nat.le_of_ble_eq_true rfl⟩) rfl hl.1 rfl (Nat.le_of_ble_eq_true rfl) dX1_placeOf_2 ⟨Nat.le_of_ble_eq_true rfl, Nat.le_of_ble_eq_true rfl⟩) rfl rfl rfl (by decide) rfl rfl rfl (fun H locs hP hD hS => ?_)
  refine lv_if_eq (tgt := 17) hx hb dX1_placeOf_5 (by decide) (fun c_2 => ?_) (fun c_2 => ?_)
  · replace h := o_t c_2 h
    refine lv_iconst (v := -1) hx hb dX1_placeOf_17 (by decide) ?_
    obtain rfl := Option.some.inj h
    exact kRet_i C hP hD hS dX1_placeOf_18
  · replace h := o_f c_2 h
    refine lv_aload_n hx hb dX1_placeOf_8 rfl (lv_at hl 0 rfl) ?_
    refine va_get (D := D) (ci := 1) (v := .ref a_lnp) (C := RX1) (T := TX1) (N := 7) hx hb ht inX1 hown hE.1 hP 0 rfl rfl 1 (by decide) (ht _ kw_49) (fun _ h9 => h9) rfl dX1_placeOf_9 ?_
    refine lv_iload_n hx hb dX1_placeOf_12 rfl (lv_at hl 1 rfl) ?_
    obtain ⟨hz_3, h⟩ := o_in_s h
    refine va_iald hx hb hE.1 hP 2 1 rfl rfl hz_3 dX1_placeOf_13 ?_
    refine lv_topi (fun t_4 et_4 => ?_)
    replace h := o_let_s et_4 h
    refine lv_goto (tgt := 18) hx hb dX1_placeOf_14 (by decide) ?_
    obtain rfl := Option.some.inj h
    exact kRet_i C hP hD hS dX1_placeOf_18
set_option maxHeartbeats 4000000 in
set_option maxRecDepth 100000 in
theorem c_X1_storedAt {l : Launch} {D : va_G} {cB cI cL : ClassId} {a_ln a_lnk a_lnp a_lnf a_lns a_lnn : Nat} {ln_c : Int32} {ln_m : Int32} {ln_k : Nat → Int32} {ln_p : Nat → Int32} {ln_f : Nat → Int32} {ln_s : Nat → Int32} {ln_n : Nat → Int64} {p0 : Int32} {p1 : Int32} {res : Int64} (h : m_X1_storedAt ln_c ln_f ln_s ln_n p0 p1 = some res) : KMet l (⟨"LinkText$Lines", "storedAt", "(II)J"⟩ : MethodName) (.code (⟨"LinkText$Lines", "storedAt", "(II)J"⟩ : MethodName) prog_3_method_9_code 4 (some .long) :: k_tbl) ({ frames := 2, cells := 0, slots := 0, locals := 42 } : Room) (ev D cB cI cL) D vwCl [.ref a_ln, .int p0, .int p1] [(a_ln, .inr (1, [.ref a_lnk, .ref a_lnp, .ref a_lnf, .ref a_lns, .ref a_lnn, .int ln_c, .int ln_m])), (a_lnk, .inl (cI, 64, .inl ln_k)), (a_lnp, .inl (cI, 64, .inl ln_p)), (a_lnf, .inl (cI, 64, .inl ln_f)), (a_lns, .inl (cI, 64, .inl ln_s)), (a_lnn, .inl (cL, 4000, .inr (.inl ln_n)))] (kQl D vwCl [(a_ln, .inr (1, [.ref a_lnk, .ref a_lnp, .ref a_lnf, .ref a_lns, .ref a_lnn, .int ln_c, .int ln_m])), (a_lnk, .inl (cI, 64, .inl ln_k)), (a_lnp, .inl (cI, 64, .inl ln_p)), (a_lnf, .inl (cI, 64, .inl ln_f)), (a_lns, .inl (cI, 64, .inl ln_s)), (a_lnn, .inl (cL, 4000, .inr (.inl ln_n)))] res) := by
  unfold m_X1_storedAt at h
  refine kMet (cc := prog_3_method_9_code) (mL := 4) (ret := (some .long)) (own := "LinkText$Lines") (by decide) rfl rfl (Nat.le_of_ble_eq_true rfl) ?_
  intro p e s m below meth c A C hnm hE hA hP hD ls hl
  generalize ([.ref a_ln, .int p0, .int p1] : List Value).toArray = args at C ⊢
  obtain ⟨hx, hb, hr, hml, hown, hts, hlocks⟩ := id C
  have ht : ∀ w ∈ k_tbl, w.before args s = true := fun w h => hts w (List.mem_cons_of_mem _ h)
  have hS : va_S A s.heap s.heap [] := va_S.rf
  have hl : lv_has ls 4 [(0, .ref a_ln), (1, .int p0), (2, .int p1)] := hl
  refine lv_iload_n hx hb dX1_storedAt_0 rfl (lv_at hl 2 rfl) ?_
  refine lv_if_lt (tgt := 13) hx hb dX1_storedAt_1 (by decide) (fun c_1 => ?_) (fun c_1 => ?_)
  · replace h := o_t c_1 h
    refine lv_lconst (v := 0) hx hb dX1_storedAt_13 (by decide) ?_
    obtain rfl := Option.some.inj h
    exact kRet_l C hP hD hS dX1_storedAt_14
  · replace h := o_f c_1 h
    refine lv_iload_n hx hb dX1_storedAt_4 rfl (lv_at hl 2 rfl) ?_
    refine lv_aload_n hx hb dX1_storedAt_5 rfl (lv_at hl 0 rfl) ?_
    refine lv_iload_n hx hb dX1_storedAt_6 rfl (lv_at hl 1 rfl) ?_
    obtain ⟨r_2, hr_2, h⟩ := o_b_s h
    refine kCi (w' := [(a_ln, .inr (1, [.ref a_lnk, .ref a_lnp, .ref a_lnf, .ref a_lns, .ref a_lnn, .int ln_c, .int ln_m])), (a_lnk, .inl (cI, 64, .inl ln_k)), (a_lnp, .inl (cI, 64, .inl ln_p)), (a_lnf, .inl (cI, 64, .inl ln_f)), (a_lns, .inl (cI, 64, .inl ln_s)), (a_lnn, .inl (cL, 4000, .inr (.inl ln_n)))]) hP hD hS hA [0, 1, 2, 3, 4, 5] [] [0, 1, 2, 3, 4, 5] (kRunV (rest := [.int p1]) C ev_ok hE hA hP hD hS [0, 1, 2, 3, 4, 5] rfl rfl rfl (c_X1_sizeOf hr_2) hE.1 0 1 rfl rfl (cwV 1 ht (gV kw_414 kw_399 kw_400 kw_3 kw_401) rfl rfl rfl (by decide +kernel) ⟨Nat.le_of_ble_eq_true rfl, Nat.le_of_ble_eq_true rfl⟩) rfl hl.1 rfl (Nat.le_of_ble_eq_true rfl) dX1_storedAt_7 ⟨Nat.le_of_ble_eq_true rfl, Nat.le_of_ble_eq_true rfl⟩) rfl rfl rfl (by decide) rfl rfl rfl (fun H locs hP hD hS => ?_)
    refine lv_icmp_lt (tgt := 15) hx hb dX1_storedAt_10 (by decide) (fun c_3 => ?_) (fun c_3 => ?_)
    · replace h := o_t c_3 h
      refine lv_aload_n hx hb dX1_storedAt_15 rfl (lv_at hl 0 rfl) ?_
      refine va_get (D := D) (ci := 1) (v := .ref a_lnf) (C := RX1) (T := TX1) (N := 7) hx hb ht inX1 hown hE.1 hP 0 rfl rfl 2 (by decide) (ht _ kw_50) (fun _ h9 => h9) rfl dX1_storedAt_16 ?_
      refine lv_iload_n hx hb dX1_storedAt_19 rfl (lv_at hl 1 rfl) ?_
      obtain ⟨hz_4, h⟩ := o_in_s h
      refine va_iald hx hb hE.1 hP 3 1 rfl rfl hz_4 dX1_storedAt_20 ?_
      refine lv_topi (fun t_5 et_5 => ?_)
      replace h := o_let_s et_5 h
      refine lv_iload_n hx hb dX1_storedAt_21 rfl (lv_at hl 2 rfl) ?_
      refine lv_iadd hx hb dX1_storedAt_22 ?_
      refine lv_topi (fun t_6 et_6 => ?_)
      replace h := o_let_s et_6 h
      refine lv_istore_n (lv' := [(3, .int t_6), (0, .ref a_ln), (1, .int p0), (2, .int p1)]) hx hb dX1_storedAt_23 rfl hl (by decide) rfl (fun ls hl => ?_)
      refine lv_iload_n hx hb dX1_storedAt_24 rfl (lv_at hl 0 rfl) ?_
      refine lv_aload_n hx hb dX1_storedAt_25 rfl (lv_at hl 1 rfl) ?_
      refine va_get (D := D) (ci := 1) (v := .ref a_lnn) (C := RX1) (T := TX1) (N := 7) hx hb ht inX1 hown hE.1 hP 0 rfl rfl 4 (by decide) (ht _ kw_52) (fun _ h9 => h9) rfl dX1_storedAt_26 ?_
      refine va_alen (v := 4000) hx hb hE.1 hP 5 2 rfl rfl rfl dX1_storedAt_29 ?_
      refine lv_icmp_ge (tgt := 42) hx hb dX1_storedAt_30 (by decide) (fun c_7 => ?_) (fun c_7 => ?_)
      · replace h := o_t c_7 h
        refine lv_lconst (v := 0) hx hb dX1_storedAt_42 (by decide) ?_
        obtain rfl := Option.some.inj h
        exact kRet_l C hP hD hS dX1_storedAt_43
      · replace h := o_f c_7 h
        refine lv_aload_n hx hb dX1_storedAt_33 rfl (lv_at hl 1 rfl) ?_
        refine va_get (D := D) (ci := 1) (v := .ref a_lnn) (C := RX1) (T := TX1) (N := 7) hx hb ht inX1 hown hE.1 hP 0 rfl rfl 4 (by decide) (ht _ kw_52) (fun _ h9 => h9) rfl dX1_storedAt_34 ?_
        refine lv_iload_n hx hb dX1_storedAt_37 rfl (lv_at hl 0 rfl) ?_
        obtain ⟨hz_8, h⟩ := o_in_s h
        refine va_lald hx hb hE.1 hP 5 2 rfl rfl hz_8 dX1_storedAt_38 ?_
        refine lv_topl (fun t_9 et_9 => ?_)
        replace h := o_let_s et_9 h
        refine lv_goto (tgt := 43) hx hb dX1_storedAt_39 (by decide) ?_
        obtain rfl := Option.some.inj h
        exact kRet_l C hP hD hS dX1_storedAt_43
    · replace h := o_f c_3 h
      refine lv_lconst (v := 0) hx hb dX1_storedAt_13 (by decide) ?_
      obtain rfl := Option.some.inj h
      exact kRet_l C hP hD hS dX1_storedAt_14
