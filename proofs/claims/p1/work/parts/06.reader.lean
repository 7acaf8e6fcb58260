set_option maxHeartbeats 4000000 in
set_option maxRecDepth 100000 in
theorem k_X2_begin_J19 {l : Launch} {p : Program} {e : Env} {s : State} {m : MethodId} {args : Array Value} {below : List Frame} {meth : Method} {c : Code} {A : Nat → Prop} {D : va_G} {cB cI cL : ClassId} {a_tk a_tx : Nat} {tx_b : Nat → Int32} {res : Int32 × Int32 × Int32 × Int32 × Int64 × Int32} (C : kx p s m args meth c prog_6_method_2_code 2 none "LinkText$Tokens" (.code (⟨"LinkText$Tokens", "begin", "(I)V"⟩ : MethodName) prog_6_method_2_code 2 none :: k_tbl)) (hE : ev D cB cI cL A s) (hA : ∀ q : Nat, s.heap.size ≤ q → A q) :
    ∀ (tk_e : Int32) (tk_s : Int32) (tk_p : Int32) (tk_h : Int32) (tk_v : Int64) (tk_f : Int32) (s0 : Int32) (H : Heap) (locs : List Loc) (ls : Array Slot), va_P D vwCl [(a_tk, .inr (2, [.ref a_tx, .int tk_e, .int tk_s, .int tk_p, .int tk_h, .long tk_v, .int tk_f])), (a_tx, .inl (cB, 4000, .inl tx_b))] H → va_D A [(a_tk, .inr (2, [.ref a_tx, .int tk_e, .int tk_s, .int tk_p, .int tk_h, .long tk_v, .int tk_f])), (a_tx, .inl (cB, 4000, .inl tx_b))] → va_S A s.heap H locs → lv_has ls 2 [(0, .ref a_tk)] → m_X2_begin_J19  tk_e tk_s tk_p tk_h tk_v tk_f s0 = some res → W p l e ({ frames := 0, cells := 0, slots := 0, locals := 0 } : Room) s m args below meth c H locs 0 0 (MQ below (kQv D vwCl [(a_tk, .inr (2, [.ref a_tx, .int res.1, .int res.2.1, .int res.2.2.1, .int res.2.2.2.1, .long res.2.2.2.2.1, .int res.2.2.2.2.2])), (a_tx, .inl (cB, 4000, .inl tx_b))] A) args s 0 0 A) (F0 m 19 ls [.int s0, .ref a_tk]) := by
  obtain ⟨hx, hb, hr, hml, hown, hts, hlocks⟩ := id C
  have ht : ∀ w ∈ k_tbl, w.before args s = true := fun w h => hts w (List.mem_cons_of_mem _ h)
  intro tk_e tk_s tk_p tk_h tk_v tk_f s0 H locs ls hP hD hS hl h
  unfold m_X2_begin_J19 at h
  refine va_put (D := D) (ci := 2) (v := .int s0) (ty := .int) (C := RX2) (T := TX2) (N := 7) hx hb ht inX2 tyX2 tyX2_ok nmX2 hown hE.1 hP hD hS 0 rfl rfl 1 (by decide) (ht _ kw_87) (fun _ h9 => h9) rfl (by decide +kernel) rfl rfl (Nat.le_of_ble_eq_true rfl) dX2_begin_19 (fun H locs hP hD hS => ?_)
  have hP : va_P D vwCl [(a_tk, .inr (2, [.ref a_tx, .int s0, .int tk_s, .int tk_p, .int tk_h, .long tk_v, .int tk_f])), (a_tx, .inl (cB, 4000, .inl tx_b))] H := hP
  have hD : va_D A [(a_tk, .inr (2, [.ref a_tx, .int s0, .int tk_s, .int tk_p, .int tk_h, .long tk_v, .int tk_f])), (a_tx, .inl (cB, 4000, .inl tx_b))] := hD
  refine lv_aload_n hx hb dX2_begin_22 rfl (lv_at hl 0 rfl) ?_
  refine lv_iconst (v := 0) hx hb dX2_begin_23 (by decide) ?_
  refine va_put (D := D) (ci := 2) (v := .int (0 : Int32)) (ty := .int) (C := RX2) (T := TX2) (N := 7) hx hb ht inX2 tyX2 tyX2_ok nmX2 hown hE.1 hP hD hS 0 rfl rfl 2 (by decide) (ht _ kw_88) (fun _ h9 => h9) rfl (by decide +kernel) rfl rfl (Nat.le_of_ble_eq_true rfl) dX2_begin_24 (fun H locs hP hD hS => ?_)
  have hP : va_P D vwCl [(a_tk, .inr (2, [.ref a_tx, .int s0, .int (0 : Int32), .int tk_p, .int tk_h, .long tk_v, .int tk_f])), (a_tx, .inl (cB, 4000, .inl tx_b))] H := hP
  have hD : va_D A [(a_tk, .inr (2, [.ref a_tx, .int s0, .int (0 : Int32), .int tk_p, .int tk_h, .long tk_v, .int tk_f])), (a_tx, .inl (cB, 4000, .inl tx_b))] := hD
  refine lv_aload_n hx hb dX2_begin_27 rfl (lv_at hl 0 rfl) ?_
  refine lv_iconst (v := 0) hx hb dX2_begin_28 (by decide) ?_
  refine va_put (D := D) (ci := 2) (v := .int (0 : Int32)) (ty := .int) (C := RX2) (T := TX2) (N := 7) hx hb ht inX2 tyX2 tyX2_ok nmX2 hown hE.1 hP hD hS 0 rfl rfl 3 (by decide) (ht _ kw_89) (fun _ h9 => h9) rfl (by decide +kernel) rfl rfl (Nat.le_of_ble_eq_true rfl) dX2_begin_29 (fun H locs hP hD hS => ?_)
  have hP : va_P D vwCl [(a_tk, .inr (2, [.ref a_tx, .int s0, .int (0 : Int32), .int (0 : Int32), .int tk_h, .long tk_v, .int tk_f])), (a_tx, .inl (cB, 4000, .inl tx_b))] H := hP
  have hD : va_D A [(a_tk, .inr (2, [.ref a_tx, .int s0, .int (0 : Int32), .int (0 : Int32), .int tk_h, .long tk_v, .int tk_f])), (a_tx, .inl (cB, 4000, .inl tx_b))] := hD
  refine lv_aload_n hx hb dX2_begin_32 rfl (lv_at hl 0 rfl) ?_
  refine lv_iconst (v := 0) hx hb dX2_begin_33 (by decide) ?_
  refine va_put (D := D) (ci := 2) (v := .int (0 : Int32)) (ty := .int) (C := RX2) (T := TX2) (N := 7) hx hb ht inX2 tyX2 tyX2_ok nmX2 hown hE.1 hP hD hS 0 rfl rfl 4 (by decide) (ht _ kw_91) (fun _ h9 => h9) rfl (by decide +kernel) rfl rfl (Nat.le_of_ble_eq_true rfl) dX2_begin_34 (fun H locs hP hD hS => ?_)
  have hP : va_P D vwCl [(a_tk, .inr (2, [.ref a_tx, .int s0, .int (0 : Int32), .int (0 : Int32), .int (0 : Int32), .long tk_v, .int tk_f])), (a_tx, .inl (cB, 4000, .inl tx_b))] H := hP
  have hD : va_D A [(a_tk, .inr (2, [.ref a_tx, .int s0, .int (0 : Int32), .int (0 : Int32), .int (0 : Int32), .long tk_v, .int tk_f])), (a_tx, .inl (cB, 4000, .inl tx_b))] := hD
  refine lv_aload_n hx hb dX2_begin_37 rfl (lv_at hl 0 rfl) ?_
  refine lv_lconst (v := 0) hx hb dX2_begin_38 (by decide) ?_
  refine va_put (D := D) (ci := 2) (v := .long (0 : Int64)) (ty := .long) (C := RX2) (T := TX2) (N := 7) hx hb ht inX2 tyX2 tyX2_ok nmX2 hown hE.1 hP hD hS 0 rfl rfl 5 (by decide) (ht _ kw_92) (fun _ h9 => h9) rfl (by decide +kernel) rfl rfl (Nat.le_of_ble_eq_true rfl) dX2_begin_39 (fun H locs hP hD hS => ?_)
  have hP : va_P D vwCl [(a_tk, .inr (2, [.ref a_tx, .int s0, .int (0 : Int32), .int (0 : Int32), .int (0 : Int32), .long (0 : Int64), .int tk_f])), (a_tx, .inl (cB, 4000, .inl tx_b))] H := hP
  have hD : va_D A [(a_tk, .inr (2, [.ref a_tx, .int s0, .int (0 : Int32), .int (0 : Int32), .int (0 : Int32), .long (0 : Int64), .int tk_f])), (a_tx, .inl (cB, 4000, .inl tx_b))] := hD
  refine lv_aload_n hx hb dX2_begin_42 rfl (lv_at hl 0 rfl) ?_
  refine lv_iconst (v := 0) hx hb dX2_begin_43 (by decide) ?_
  refine va_put (D := D) (ci := 2) (v := .int (0 : Int32)) (ty := .int) (C := RX2) (T := TX2) (N := 7) hx hb ht inX2 tyX2 tyX2_ok nmX2 hown hE.1 hP hD hS 0 rfl rfl 6 (by decide) (ht _ kw_94) (fun _ h9 => h9) rfl (by decide +kernel) rfl rfl (Nat.le_of_ble_eq_true rfl) dX2_begin_44 (fun H locs hP hD hS => ?_)
  have hP : va_P D vwCl [(a_tk, .inr (2, [.ref a_tx, .int s0, .int (0 : Int32), .int (0 : Int32), .int (0 : Int32), .long (0 : Int64), .int (0 : Int32)])), (a_tx, .inl (cB, 4000, .inl tx_b))] H := hP
  have hD : va_D A [(a_tk, .inr (2, [.ref a_tx, .int s0, .int (0 : Int32), .int (0 : Int32), .int (0 : Int32), .long (0 : Int64), .int (0 : Int32)])), (a_tx, .inl (cB, 4000, .inl tx_b))] := hD
  obtain rfl := Option.some.inj h
  exact kRet_v C hP hD hS dX2_begin_47
set_option maxHeartbeats 4000000 in
set_option maxRecDepth 100000 in
theorem k_X2_begin_J18 {l : Launch} {p : Program} {e : Env} {s : State} {m : MethodId} {args : Array Value} {below : List Frame} {meth : Method} {c : Code} {A : Nat → Prop} {D : va_G} {cB cI cL : ClassId} {a_tk a_tx : Nat} {tx_b : Nat → Int32} {res : Int32 × Int32 × Int32 × Int32 × Int64 × Int32} (C : kx p s m args meth c prog_6_method_2_code 2 none "LinkText$Tokens" (.code (⟨"LinkText$Tokens", "begin", "(I)V"⟩ : MethodName) prog_6_method_2_code 2 none :: k_tbl)) (hE : ev D cB cI cL A s) (hA : ∀ q : Nat, s.heap.size ≤ q → A q) :
    ∀ (tk_e : Int32) (tk_s : Int32) (tk_p : Int32) (tk_h : Int32) (tk_v : Int64) (tk_f : Int32) (H : Heap) (locs : List Loc) (ls : Array Slot), va_P D vwCl [(a_tk, .inr (2, [.ref a_tx, .int tk_e, .int tk_s, .int tk_p, .int tk_h, .long tk_v, .int tk_f])), (a_tx, .inl (cB, 4000, .inl tx_b))] H → va_D A [(a_tk, .inr (2, [.ref a_tx, .int tk_e, .int tk_s, .int tk_p, .int tk_h, .long tk_v, .int tk_f])), (a_tx, .inl (cB, 4000, .inl tx_b))] → va_S A s.heap H locs → lv_has ls 2 [(0, .ref a_tk)] → m_X2_begin_J18  tk_e tk_s tk_p tk_h tk_v tk_f = some res → W p l e ({ frames := 0, cells := 0, slots := 0, locals := 0 } : Room) s m args below meth c H locs 0 0 (MQ below (kQv D vwCl [(a_tk, .inr (2, [.ref a_tx, .int res.1, .int res.2.1, .int res.2.2.1, .int res.2.2.2.1, .long res.2.2.2.2.1, .int res.2.2.2.2.2])), (a_tx, .inl (cB, 4000, .inl tx_b))] A) args s 0 0 A) (F0 m 18 ls [.ref a_tk]) := by
  obtain ⟨hx, hb, hr, hml, hown, hts, hlocks⟩ := id C
  have ht : ∀ w ∈ k_tbl, w.before args s = true := fun w h => hts w (List.mem_cons_of_mem _ h)
  intro tk_e tk_s tk_p tk_h tk_v tk_f H locs ls hP hD hS hl h
  unfold m_X2_begin_J18 at h
  refine lv_iconst (v := 0) hx hb dX2_begin_18 (by decide) ?_
  exact k_X2_begin_J19 C hE hA  tk_e tk_s tk_p tk_h tk_v tk_f (0 : Int32) _ _ _ hP hD hS (lv_sub hl [0] rfl) h
set_option maxHeartbeats 4000000 in
set_option maxRecDepth 100000 in
theorem c_X2_begin {l : Launch} {D : va_G} {cB cI cL : ClassId} {a_tk a_tx : Nat} {tk_e : Int32} {tk_s : Int32} {tk_p : Int32} {tk_h : Int32} {tk_v : Int64} {tk_f : Int32} {tx_b : Nat → Int32} {p0 : Int32} {res : Int32 × Int32 × Int32 × Int32 × Int64 × Int32} (h : m_X2_begin tk_e tk_s tk_p tk_h tk_v tk_f p0 = some res) : KMet l (⟨"LinkText$Tokens", "begin", "(I)V"⟩ : MethodName) (.code (⟨"LinkText$Tokens", "begin", "(I)V"⟩ : MethodName) prog_6_method_2_code 2 none :: k_tbl) ({ frames := 0, cells := 0, slots := 0, locals := 0 } : Room) (ev D cB cI cL) D vwCl [.ref a_tk, .int p0] [(a_tk, .inr (2, [.ref a_tx, .int tk_e, .int tk_s, .int tk_p, .int tk_h, .long tk_v, .int tk_f])), (a_tx, .inl (cB, 4000, .inl tx_b))] (kQv D vwCl [(a_tk, .inr (2, [.ref a_tx, .int res.1, .int res.2.1, .int res.2.2.1, .int res.2.2.2.1, .long res.2.2.2.2.1, .int res.2.2.2.2.2])), (a_tx, .inl (cB, 4000, .inl tx_b))]) := by
  unfold m_X2_begin at h
  refine kMet (cc := prog_6_method_2_code) (mL := 2) (ret := none) (own := "LinkText$Tokens") (by decide) rfl rfl (Nat.le_of_ble_eq_true rfl) ?_
  intro p e s m below meth c A C hnm hE hA hP hD ls hl
  generalize ([.ref a_tk, .int p0] : List Value).toArray = args at C ⊢
  obtain ⟨hx, hb, hr, hml, hown, hts, hlocks⟩ := id C
  have ht : ∀ w ∈ k_tbl, w.before args s = true := fun w h => hts w (List.mem_cons_of_mem _ h)
  have hS : va_S A s.heap s.heap [] := va_S.rf
  have hl : lv_has ls 2 [(0, .ref a_tk), (1, .int p0)] := hl
  refine lv_aload_n hx hb dX2_begin_0 rfl (lv_at hl 0 rfl) ?_
  refine lv_iload_n hx hb dX2_begin_1 rfl (lv_at hl 1 rfl) ?_
  refine lv_if_lt (tgt := 18) hx hb dX2_begin_2 (by decide) (fun c_1 => ?_) (fun c_1 => ?_)
  · replace h := o_t c_1 h
    exact k_X2_begin_J18 C hE hA  tk_e tk_s tk_p tk_h tk_v tk_f _ _ _ hP hD hS (lv_sub hl [0] rfl) h
  · replace h := o_f c_1 h
    refine lv_iload_n hx hb dX2_begin_5 rfl (lv_at hl 1 rfl) ?_
    refine lv_aload_n hx hb dX2_begin_6 rfl (lv_at hl 0 rfl) ?_
    refine va_get (D := D) (ci := 2) (v := .ref a_tx) (C := RX2) (T := TX2) (N := 7) hx hb ht inX2 hown hE.1 hP 0 rfl rfl 0 (by decide) (ht _ kw_86) (fun _ h9 => h9) rfl dX2_begin_7 ?_
    refine va_alen (v := 4000) hx hb hE.1 hP 1 0 rfl rfl rfl dX2_begin_10 ?_
    refine lv_icmp_gt (tgt := 18) hx hb dX2_begin_11 (by decide) (fun c_2 => ?_) (fun c_2 => ?_)
    · replace h := o_t c_2 h
      exact k_X2_begin_J18 C hE hA  tk_e tk_s tk_p tk_h tk_v tk_f _ _ _ hP hD hS (lv_sub hl [0] rfl) h
    · replace h := o_f c_2 h
      refine lv_iload_n hx hb dX2_begin_14 rfl (lv_at hl 1 rfl) ?_
      refine lv_goto (tgt := 19) hx hb dX2_begin_15 (by decide) ?_
      exact k_X2_begin_J19 C hE hA  tk_e tk_s tk_p tk_h tk_v tk_f p0 _ _ _ hP hD hS (lv_sub hl [0] rfl) h
set_option maxHeartbeats 4000000 in
set_option maxRecDepth 100000 in
theorem c_X2_isLineEnd {l : Launch} {D : va_G} {cB cI cL : ClassId} {a_tk a_tx : Nat} {tk_e : Int32} {tk_s : Int32} {tk_p : Int32} {tk_h : Int32} {tk_v : Int64} {tk_f : Int32} {tx_b : Nat → Int32} {res : Int32} (h : m_X2_isLineEnd tk_s = some res) : KMet l (⟨"LinkText$Tokens", "isLineEnd", "()Z"⟩ : MethodName) (.code (⟨"LinkText$Tokens", "isLineEnd", "()Z"⟩ : MethodName) prog_6_method_6_code 1 (some .boolean) :: k_tbl) ({ frames := 0, cells := 0, slots := 0, locals := 0 } : Room) (ev D cB cI cL) D vwCl [.ref a_tk] [(a_tk, .inr (2, [.ref a_tx, .int tk_e, .int tk_s, .int tk_p, .int tk_h, .long tk_v, .int tk_f])), (a_tx, .inl (cB, 4000, .inl tx_b))] (kQi D vwCl [(a_tk, .inr (2, [.ref a_tx, .int tk_e, .int tk_s, .int tk_p, .int tk_h, .long tk_v, .int tk_f])), (a_tx, .inl (cB, 4000, .inl tx_b))] res) := by
  unfold m_X2_isLineEnd at h
  refine kMet (cc := prog_6_method_6_code) (mL := 1) (ret := (some .boolean)) (own := "LinkText$Tokens") (by decide) rfl rfl (Nat.le_of_ble_eq_true rfl) ?_
  intro p e s m below meth c A C hnm hE hA hP hD ls hl
  generalize ([.ref a_tk] : List Value).toArray = args at C ⊢
  obtain ⟨hx, hb, hr, hml, hown, hts, hlocks⟩ := id C
  have ht : ∀ w ∈ k_tbl, w.before args s = true := fun w h => hts w (List.mem_cons_of_mem _ h)
  have hS : va_S A s.heap s.heap [] := va_S.rf
  have hl : lv_has ls 1 [(0, .ref a_tk)] := hl
  refine lv_aload_n hx hb dX2_isLineEnd_0 rfl (lv_at hl 0 rfl) ?_
  refine va_get (D := D) (ci := 2) (v := .int tk_s) (C := RX2) (T := TX2) (N := 7) hx hb ht inX2 hown hE.1 hP 0 rfl rfl 2 (by decide) (ht _ kw_88) (fun _ h9 => h9) rfl dX2_isLineEnd_1 ?_
  refine lv_if_ne (tgt := 11) hx hb dX2_isLineEnd_4 (by decide) (fun c_1 => ?_) (fun c_1 => ?_)
  · replace h := o_f c_1 h
    refine lv_iconst (v := 0) hx hb dX2_isLineEnd_11 (by decide) ?_
    obtain rfl := Option.some.inj h
    exact kRet_z C (by decide) hP hD hS dX2_isLineEnd_12
  · replace h := o_t c_1 h
    refine lv_iconst (v := 1) hx hb dX2_isLineEnd_7 (by decide) ?_
    refine lv_goto (tgt := 12) hx hb dX2_isLineEnd_8 (by decide) ?_
    obtain rfl := Option.some.inj h
    exact kRet_z C (by decide) hP hD hS dX2_isLineEnd_12
set_option maxHeartbeats 4000000 in
set_option maxRecDepth 100000 in
theorem c_X2_isTextEnd {l : Launch} {D : va_G} {cB cI cL : ClassId} {a_tk a_tx : Nat} {tk_e : Int32} {tk_s : Int32} {tk_p : Int32} {tk_h : Int32} {tk_v : Int64} {tk_f : Int32} {tx_b : Nat → Int32} {res : Int32} (h : m_X2_isTextEnd tk_e tk_s tk_p = some res) : KMet l (⟨"LinkText$Tokens", "isTextEnd", "()Z"⟩ : MethodName) (.code (⟨"LinkText$Tokens", "isTextEnd", "()Z"⟩ : MethodName) prog_6_method_7_code 1 (some .boolean) :: k_tbl) ({ frames := 0, cells := 0, slots := 0, locals := 0 } : Room) (ev D cB cI cL) D vwCl [.ref a_tk] [(a_tk, .inr (2, [.ref a_tx, .int tk_e, .int tk_s, .int tk_p, .int tk_h, .long tk_v, .int tk_f])), (a_tx, .inl (cB, 4000, .inl tx_b))] (kQi D vwCl [(a_tk, .inr (2, [.ref a_tx, .int tk_e, .int tk_s, .int tk_p, .int tk_h, .long tk_v, .int tk_f])), (a_tx, .inl (cB, 4000, .inl tx_b))] res) := by
  unfold m_X2_isTextEnd at h
  refine kMet (cc := prog_6_method_7_code) (mL := 1) (ret := (some .boolean)) (own := "LinkText$Tokens") (by decide) rfl rfl (Nat.le_of_ble_eq_true rfl) ?_
  intro p e s m below meth c A C hnm hE hA hP hD ls hl
  generalize ([.ref a_tk] : List Value).toArray = args at C ⊢
  obtain ⟨hx, hb, hr, hml, hown, hts, hlocks⟩ := id C
  have ht : ∀ w ∈ k_tbl, w.before args s = true := fun w h => hts w (List.mem_cons_of_mem _ h)
  have hS : va_S A s.heap s.heap [] := va_S.rf
  have hl : lv_has ls 1 [(0, .ref a_tk)] := hl
  refine lv_aload_n hx hb dX2_isTextEnd_0 rfl (lv_at hl 0 rfl) ?_
  refine va_get (D := D) (ci := 2) (v := .int tk_s) (C := RX2) (T := TX2) (N := 7) hx hb ht inX2 hown hE.1 hP 0 rfl rfl 2 (by decide) (ht _ kw_88) (fun _ h9 => h9) rfl dX2_isTextEnd_1 ?_
  refine lv_if_ne (tgt := 22) hx hb dX2_isTextEnd_4 (by decide) (fun c_1 => ?_) (fun c_1 => ?_)
  · replace h := o_f c_1 h
    refine lv_iconst (v := 0) hx hb dX2_isTextEnd_22 (by decide) ?_
    obtain rfl := Option.some.inj h
    exact kRet_z C (by decide) hP hD hS dX2_isTextEnd_23
  · replace h := o_t c_1 h
    refine lv_aload_n hx hb dX2_isTextEnd_7 rfl (lv_at hl 0 rfl) ?_
    refine va_get (D := D) (ci := 2) (v := .int tk_p) (C := RX2) (T := TX2) (N := 7) hx hb ht inX2 hown hE.1 hP 0 rfl rfl 3 (by decide) (ht _ kw_89) (fun _ h9 => h9) rfl dX2_isTextEnd_8 ?_
    refine lv_aload_n hx hb dX2_isTextEnd_11 rfl (lv_at hl 0 rfl) ?_
    refine va_get (D := D) (ci := 2) (v := .int tk_e) (C := RX2) (T := TX2) (N := 7) hx hb ht inX2 hown hE.1 hP 0 rfl rfl 1 (by decide) (ht _ kw_87) (fun _ h9 => h9) rfl dX2_isTextEnd_12 ?_
    refine lv_icmp_lt (tgt := 22) hx hb dX2_isTextEnd_15 (by decide) (fun c_2 => ?_) (fun c_2 => ?_)
    · replace h := o_t c_2 h
      refine lv_iconst (v := 0) hx hb dX2_isTextEnd_22 (by decide) ?_
      obtain rfl := Option.some.inj h
      exact kRet_z C (by decide) hP hD hS dX2_isTextEnd_23
    · replace h := o_f c_2 h
      refine lv_iconst (v := 1) hx hb dX2_isTextEnd_18 (by decide) ?_
      refine lv_goto (tgt := 23) hx hb dX2_isTextEnd_19 (by decide) ?_
      obtain rfl := Option.some.inj h
      exact kRet_z C (by decide) hP hD hS dX2_isTextEnd_23
set_option maxHeartbeats 4000000 in
set_option maxRecDepth 100000 in
theorem c_X3_begin {l : Launch} {D : va_G} {cB cI cL : ClassId} {a_rd a_tk a_tx a_ln a_lnk a_lnp a_lnf a_lns a_lnn : Nat} {rd_f : Int32} {rd_p : Int32} {tk_e : Int32} {tk_s : Int32} {tk_p : Int32} {tk_h : Int32} {tk_v : Int64} {tk_f : Int32} {tx_b : Nat → Int32} {ln_c : Int32} {ln_m : Int32} {ln_k : Nat → Int32} {ln_p : Nat → Int32} {ln_f : Nat → Int32} {ln_s : Nat → Int32} {ln_n : Nat → Int64} {p0 : Int32} {res : Int32 × Int32 × Int32 × Int32 × Int32 × Int32 × Int64 × Int32 × Int32 × Int32} (h : m_X3_begin rd_f rd_p tk_e tk_s tk_p tk_h tk_v tk_f ln_c ln_m p0 = some res) : KMet l (⟨"LinkText$Reader", "begin", "(I)V"⟩ : MethodName) (.code (⟨"LinkText$Reader", "begin", "(I)V"⟩ : MethodName) prog_5_method_2_code 2 none :: k_tbl) ({ frames := 1, cells := 0, slots := 0, locals := 21 } : Room) (ev D cB cI cL) D vwCl [.ref a_rd, .int p0] [(a_rd, .inr (3, [.ref a_tk, .ref a_ln, .int rd_f, .int rd_p])), (a_tk, .inr (2, [.ref a_tx, .int tk_e, .int tk_s, .int tk_p, .int tk_h, .long tk_v, .int tk_f])), (a_tx, .inl (cB, 4000, .inl tx_b)), (a_ln, .inr (1, [.ref a_lnk, .ref a_lnp, .ref a_lnf, .ref a_lns, .ref a_lnn, .int ln_c, .int ln_m])), (a_lnk, .inl (cI, 64, .inl ln_k)), (a_lnp, .inl (cI, 64, .inl ln_p)), (a_lnf, .inl (cI, 64, .inl ln_f)), (a_lns, .inl (cI, 64, .inl ln_s)), (a_lnn, .inl (cL, 4000, .inr (.inl ln_n)))] (kQv D vwCl [(a_rd, .inr (3, [.ref a_tk, .ref a_ln, .int res.1, .int res.2.1])), (a_tk, .inr (2, [.ref a_tx, .int res.2.2.1, .int res.2.2.2.1, .int res.2.2.2.2.1, .int res.2.2.2.2.2.1, .long res.2.2.2.2.2.2.1, .int res.2.2.2.2.2.2.2.1])), (a_tx, .inl (cB, 4000, .inl tx_b)), (a_ln, .inr (1, [.ref a_lnk, .ref a_lnp, .ref a_lnf, .ref a_lns, .ref a_lnn, .int res.2.2.2.2.2.2.2.2.1, .int res.2.2.2.2.2.2.2.2.2])), (a_lnk, .inl (cI, 64, .inl ln_k)), (a_lnp, .inl (cI, 64, .inl ln_p)), (a_lnf, .inl (cI, 64, .inl ln_f)), (a_lns, .inl (cI, 64, .inl ln_s)), (a_lnn, .inl (cL, 4000, .inr (.inl ln_n)))]) := by
  unfold m_X3_begin at h
  refine kMet (cc := prog_5_method_2_code) (mL := 2) (ret := none) (own := "LinkText$Reader") (by decide) rfl rfl (Nat.le_of_ble_eq_true rfl) ?_
  intro p e s m below meth c A C hnm hE hA hP hD ls hl
  generalize ([.ref a_rd, .int p0] : List Value).toArray = args at C ⊢
  obtain ⟨hx, hb, hr, hml, hown, hts, hlocks⟩ := id C
  have ht : ∀ w ∈ k_tbl, w.before args s = true := fun w h => hts w (List.mem_cons_of_mem _ h)
  have hS : va_S A s.heap s.heap [] := va_S.rf
  have hl : lv_has ls 2 [(0, .ref a_rd), (1, .int p0)] := hl
  refine lv_aload_n hx hb dX3_begin_0 rfl (lv_at hl 0 rfl) ?_
  refine va_get (D := D) (ci := 3) (v := .ref a_tk) (C := RX3) (T := TX3) (N := 4) hx hb ht inX3 hown hE.1 hP 0 rfl rfl 0 (by decide) (ht _ kw_111) (fun _ h9 => h9) rfl dX3_begin_1 ?_
  refine lv_iload_n hx hb dX3_begin_4 rfl (lv_at hl 1 rfl) ?_
  obtain ⟨r_1, hr_1, h⟩ := o_b_s h
  refine kCv (w' := [(a_rd, .inr (3, [.ref a_tk, .ref a_ln, .int rd_f, .int rd_p])), (a_tk, .inr (2, [.ref a_tx, .int r_1.1, .int r_1.2.1, .int r_1.2.2.1, .int r_1.2.2.2.1, .long r_1.2.2.2.2.1, .int r_1.2.2.2.2.2])), (a_tx, .inl (cB, 4000, .inl tx_b)), (a_ln, .inr (1, [.ref a_lnk, .ref a_lnp, .ref a_lnf, .ref a_lns, .ref a_lnn, .int ln_c, .int ln_m])), (a_lnk, .inl (cI, 64, .inl ln_k)), (a_lnp, .inl (cI, 64, .inl ln_p)), (a_lnf, .inl (cI, 64, .inl ln_f)), (a_lns, .inl (cI, 64, .inl ln_s)), (a_lnn, .inl (cL, 4000, .inr (.inl ln_n)))]) hP hD hS hA [1, 2] [0, 3, 4, 5, 6, 7, 8] [0, 7, 8, 1, 2, 3, 4, 5, 6] (kRunV (rest := []) C ev_ok hE hA hP hD hS [1, 2] rfl rfl rfl (c_X2_begin hr_1) hE.1 0 2 rfl rfl (cwV 1 ht (gV kw_178 kw_179 kw_180 kw_5 kw_181) rfl rfl rfl (by decide +kernel) ⟨Nat.le_of_ble_eq_true rfl, Nat.le_of_ble_eq_true rfl⟩) rfl hl.1 rfl (Nat.le_of_ble_eq_true rfl) dX3_begin_5 ⟨Nat.le_of_ble_eq_true rfl, Nat.le_of_ble_eq_true rfl⟩) rfl rfl rfl (by decide) rfl rfl rfl (fun H locs hP hD hS => ?_)
  refine lv_aload_n hx hb dX3_begin_8 rfl (lv_at hl 0 rfl) ?_
  refine va_get (D := D) (ci := 3) (v := .ref a_ln) (C := RX3) (T := TX3) (N := 4) hx hb ht inX3 hown hE.1 hP 0 rfl rfl 1 (by decide) (ht _ kw_112) (fun _ h9 => h9) rfl dX3_begin_9 ?_
  obtain ⟨r_2, hr_2, h⟩ := o_b_s h
  refine kCv (w' := [(a_rd, .inr (3, [.ref a_tk, .ref a_ln, .int rd_f, .int rd_p])), (a_tk, .inr (2, [.ref a_tx, .int r_1.1, .int r_1.2.1, .int r_1.2.2.1, .int r_1.2.2.2.1, .long r_1.2.2.2.2.1, .int r_1.2.2.2.2.2])), (a_tx, .inl (cB, 4000, .inl tx_b)), (a_ln, .inr (1, [.ref a_lnk, .ref a_lnp, .ref a_lnf, .ref a_lns, .ref a_lnn, .int r_2.1, .int r_2.2])), (a_lnk, .inl (cI, 64, .inl ln_k)), (a_lnp, .inl (cI, 64, .inl ln_p)), (a_lnf, .inl (cI, 64, .inl ln_f)), (a_lns, .inl (cI, 64, .inl ln_s)), (a_lnn, .inl (cL, 4000, .inr (.inl ln_n)))]) hP hD hS hA [3, 4, 5, 6, 7, 8] [0, 1, 2] [0, 1, 2, 3, 4, 5, 6, 7, 8] (kRunV (rest := []) C ev_ok hE hA hP hD hS [3, 4, 5, 6, 7, 8] rfl rfl rfl (c_X1_clear hr_2) hE.1 0 1 rfl rfl (cwV 0 ht (gV kw_182 kw_183 kw_184 kw_3 kw_185) rfl rfl rfl (by decide +kernel) ⟨Nat.le_of_ble_eq_true rfl, Nat.le_of_ble_eq_true rfl⟩) rfl hl.1 rfl (Nat.le_of_ble_eq_true rfl) dX3_begin_12 ⟨Nat.le_of_ble_eq_true rfl, Nat.le_of_ble_eq_true rfl⟩) rfl rfl rfl (by decide) rfl rfl rfl (fun H locs hP hD hS => ?_)
  refine lv_aload_n hx hb dX3_begin_15 rfl (lv_at hl 0 rfl) ?_
  refine lv_iconst (v := 0) hx hb dX3_begin_16 (by decide) ?_
  refine va_put (D := D) (ci := 3) (v := .int (0 : Int32)) (ty := .int) (C := RX3) (T := TX3) (N := 4) hx hb ht inX3 tyX3 tyX3_ok nmX3 hown hE.1 hP hD hS 0 rfl rfl 2 (by decide) (ht _ kw_113) (fun _ h9 => h9) rfl (by decide +kernel) rfl rfl (Nat.le_of_ble_eq_true rfl) dX3_begin_17 (fun H locs hP hD hS => ?_)
  have hP : va_P D vwCl [(a_rd, .inr (3, [.ref a_tk, .ref a_ln, .int (0 : Int32), .int rd_p])), (a_tk, .inr (2, [.ref a_tx, .int r_1.1, .int r_1.2.1, .int r_1.2.2.1, .int r_1.2.2.2.1, .long r_1.2.2.2.2.1, .int r_1.2.2.2.2.2])), (a_tx, .inl (cB, 4000, .inl tx_b)), (a_ln, .inr (1, [.ref a_lnk, .ref a_lnp, .ref a_lnf, .ref a_lns, .ref a_lnn, .int r_2.1, .int r_2.2])), (a_lnk, .inl (cI, 64, .inl ln_k)), (a_lnp, .inl (cI, 64, .inl ln_p)), (a_lnf, .inl (cI, 64, .inl ln_f)), (a_lns, .inl (cI, 64, .inl ln_s)), (a_lnn, .inl (cL, 4000, .inr (.inl ln_n)))] H := hP
  have hD : va_D A [(a_rd, .inr (3, [.ref a_tk, .ref a_ln, .int (0 : Int32), .int rd_p])), (a_tk, .inr (2, [.ref a_tx, .int r_1.1, .int r_1.2.1, .int r_1.2.2.1, .int r_1.2.2.2.1, .long r_1.2.2.2.2.1, .int r_1.2.2.2.2.2])), (a_tx, .inl (cB, 4000, .inl tx_b)), (a_ln, .inr (1, [.ref a_lnk, .ref a_lnp, .ref a_lnf, .ref a_lns, .ref a_lnn, .int r_2.1, .int r_2.2])), (a_lnk, .inl (cI, 64, .inl ln_k)), (a_lnp, .inl (cI, 64, .inl ln_p)), (a_lnf, .inl (cI, 64, .inl ln_f)), (a_lns, .inl (cI, 64, .inl ln_s)), (a_lnn, .inl (cL, 4000, .inr (.inl ln_n)))] := hD
  refine lv_aload_n hx hb dX3_begin_20 rfl (lv_at hl 0 rfl) ?_
  refine lv_iconst (v := -1) hx hb dX3_begin_21 (by decide) ?_
  refine va_put (D := D) (ci := 3) (v := .int (-1 : Int32)) (ty := .int) (C := RX3) (T := TX3) (N := 4) hx hb ht inX3 tyX3 tyX3_ok nmX3 hown hE.1 hP hD hS 0 rfl rfl 3 (by decide) (ht _ kw_115) (fun _ h9 => h9) rfl (by decide +kernel) rfl rfl (Nat.le_of_ble_eq_true rfl) dX3_begin_22 (fun H locs hP hD hS => ?_)
  have hP : va_P D vwCl [(a_rd, .inr (3, [.ref a_tk, .ref a_ln, .int (0 : Int32), .int (-1 : Int32)])), (a_tk, .inr (2, [.ref a_tx, .int r_1.1, .int r_1.2.1, .int r_1.2.2.1, .int r_1.2.2.2.1, .long r_1.2.2.2.2.1, .int r_1.2.2.2.2.2])), (a_tx, .inl (cB, 4000, .inl tx_b)), (a_ln, .inr (1, [.ref a_lnk, .ref a_lnp, .ref a_lnf, .ref a_lns, .ref a_lnn, .int r_2.1, .int r_2.2])), (a_lnk, .inl (cI, 64, .inl ln_k)), (a_lnp, .inl (cI, 64, .inl ln_p)), (a_lnf, .inl (cI, 64, .inl ln_f)), (a_lns, .inl (cI, 64, .inl ln_s)), (a_lnn, .inl (cL, 4000, .inr (.inl ln_n)))] H := hP
  have hD : va_D A [(a_rd, .inr (3, [.ref a_tk, .ref a_ln, .int (0 : Int32), .int (-1 : Int32)])), (a_tk, .inr (2, [.ref a_tx, .int r_1.1, .int r_1.2.1, .int r_1.2.2.1, .int r_1.2.2.2.1, .long r_1.2.2.2.2.1, .int r_1.2.2.2.2.2])), (a_tx, .inl (cB, 4000, .inl tx_b)), (a_ln, .inr (1, [.ref a_lnk, .ref a_lnp, .ref a_lnf, .ref a_lns, .ref a_lnn, .int r_2.1, .int r_2.2])), (a_lnk, .inl (cI, 64, .inl ln_k)), (a_lnp, .inl (cI, 64, .inl ln_p)), (a_lnf, .inl (cI, 64, .inl ln_f)), (a_lns, .inl (cI, 64, .inl ln_s)), (a_lnn, .inl (cL, 4000, .inr (.inl ln_n)))] := hD
  obtain rfl := Option.some.inj h
  exact kRet_v C hP hD hS dX3_begin_25
set_option maxHeartbeats 4000000 in
set_option maxRecDepth 100000 in
theorem k_X3_findLine_J52 {l : Launch} {p : Program} {e : Env} {s : State} {m : MethodId} {args : Array Value} {below : List Frame} {meth : Method} {c : Code} {A : Nat → Prop} {D : va_G} {cB cI cL : ClassId} {a_rd a_tk a_tx a_ln a_lnk a_lnp a_lnf a_lns a_lnn : Nat} {rd_p : Int32} {tk_h : Int32} {tk_v : Int64} {tk_f : Int32} {tx_b : Nat → Int32} {ln_c : Int32} {ln_m : Int32} {ln_k : Nat → Int32} {ln_p : Nat → Int32} {ln_f : Nat → Int32} {ln_s : Nat → Int32} {ln_n : Nat → Int64} {res : Int32} (C : kx p s m args meth c prog_5_method_3_code 2 (some .boolean) "LinkText$Reader" (.code (⟨"LinkText$Reader", "findLine", "()Z"⟩ : MethodName) prog_5_method_3_code 2 (some .boolean) :: k_tbl)) (hE : ev D cB cI cL A s) (hA : ∀ q : Nat, s.heap.size ≤ q → A q) :
    ∀ (rd_f : Int32) (tk_e : Int32) (tk_s : Int32) (tk_p : Int32) (H : Heap) (locs : List Loc) (ls : Array Slot), va_P D vwCl [(a_rd, .inr (3, [.ref a_tk, .ref a_ln, .int rd_f, .int rd_p])), (a_tk, .inr (2, [.ref a_tx, .int tk_e, .int tk_s, .int tk_p, .int tk_h, .long tk_v, .int tk_f])), (a_tx, .inl (cB, 4000, .inl tx_b)), (a_ln, .inr (1, [.ref a_lnk, .ref a_lnp, .ref a_lnf, .ref a_lns, .ref a_lnn, .int ln_c, .int ln_m])), (a_lnk, .inl (cI, 64, .inl ln_k)), (a_lnp, .inl (cI, 64, .inl ln_p)), (a_lnf, .inl (cI, 64, .inl ln_f)), (a_lns, .inl (cI, 64, .inl ln_s)), (a_lnn, .inl (cL, 4000, .inr (.inl ln_n)))] H → va_D A [(a_rd, .inr (3, [.ref a_tk, .ref a_ln, .int rd_f, .int rd_p])), (a_tk, .inr (2, [.ref a_tx, .int tk_e, .int tk_s, .int tk_p, .int tk_h, .long tk_v, .int tk_f])), (a_tx, .inl (cB, 4000, .inl tx_b)), (a_ln, .inr (1, [.ref a_lnk, .ref a_lnp, .ref a_lnf, .ref a_lns, .ref a_lnn, .int ln_c, .int ln_m])), (a_lnk, .inl (cI, 64, .inl ln_k)), (a_lnp, .inl (cI, 64, .inl ln_p)), (a_lnf, .inl (cI, 64, .inl ln_f)), (a_lns, .inl (cI, 64, .inl ln_s)), (a_lnn, .inl (cL, 4000, .inr (.inl ln_n)))] → va_S A s.heap H locs → lv_has ls 2 [(0, .ref a_rd)] → m_X3_findLine_J52  rd_f tk_e tk_s tk_p = some res → W p l e ({ frames := 1, cells := 0, slots := 0, locals := 20 } : Room) s m args below meth c H locs 0 0 (MQ below (kQi D vwCl [(a_rd, .inr (3, [.ref a_tk, .ref a_ln, .int rd_f, .int rd_p])), (a_tk, .inr (2, [.ref a_tx, .int tk_e, .int tk_s, .int tk_p, .int tk_h, .long tk_v, .int tk_f])), (a_tx, .inl (cB, 4000, .inl tx_b)), (a_ln, .inr (1, [.ref a_lnk, .ref a_lnp, .ref a_lnf, .ref a_lns, .ref a_lnn, .int ln_c, .int ln_m])), (a_lnk, .inl (cI, 64, .inl ln_k)), (a_lnp, .inl (cI, 64, .inl ln_p)), (a_lnf, .inl (cI, 64, .inl ln_f)), (a_lns, .inl (cI, 64, .inl ln_s)), (a_lnn, .inl (cL, 4000, .inr (.inl ln_n)))] res A) args s 0 0 A) (F0 m 52 ls []) := by
  obtain ⟨hx, hb, hr, hml, hown, hts, hlocks⟩ := id C
  have ht : ∀ w ∈ k_tbl, w.before args s = true := fun w h => hts w (List.mem_cons_of_mem _ h)
  intro rd_f tk_e tk_s tk_p H locs ls hP hD hS hl h
  unfold m_X3_findLine_J52 at h
  refine lv_aload_n hx hb dX3_findLine_52 rfl (lv_at hl 0 rfl) ?_
  refine va_get (D := D) (ci := 3) (v := .ref a_tk) (C := RX3) (T := TX3) (N := 4) hx hb ht inX3 hown hE.1 hP 0 rfl rfl 0 (by decide) (ht _ kw_111) (fun _ h9 => h9) rfl dX3_findLine_53 ?_
  obtain ⟨r_1, hr_1, h⟩ := o_b_s h
  refine kCi (w' := [(a_rd, .inr (3, [.ref a_tk, .ref a_ln, .int rd_f, .int rd_p])), (a_tk, .inr (2, [.ref a_tx, .int tk_e, .int tk_s, .int tk_p, .int tk_h, .long tk_v, .int tk_f])), (a_tx, .inl (cB, 4000, .inl tx_b)), (a_ln, .inr (1, [.ref a_lnk, .ref a_lnp, .ref a_lnf, .ref a_lns, .ref a_lnn, .int ln_c, .int ln_m])), (a_lnk, .inl (cI, 64, .inl ln_k)), (a_lnp, .inl (cI, 64, .inl ln_p)), (a_lnf, .inl (cI, 64, .inl ln_f)), (a_lns, .inl (cI, 64, .inl ln_s)), (a_lnn, .inl (cL, 4000, .inr (.inl ln_n)))]) hP hD hS hA [1, 2] [0, 3, 4, 5, 6, 7, 8] [0, 7, 8, 1, 2, 3, 4, 5, 6] (kRunV (rest := []) C ev_ok hE hA hP hD hS [1, 2] rfl rfl rfl (c_X2_isLineEnd hr_1) hE.1 0 2 rfl rfl (cwV 0 ht (gV kw_190 kw_191 kw_192 kw_5 kw_193) rfl rfl rfl (by decide +kernel) ⟨Nat.le_of_ble_eq_true rfl, Nat.le_of_ble_eq_true rfl⟩) rfl hl.1 rfl (Nat.le_of_ble_eq_true rfl) dX3_findLine_56 ⟨Nat.le_of_ble_eq_true rfl, Nat.le_of_ble_eq_true rfl⟩) rfl rfl rfl (by decide) rfl rfl rfl (fun H locs hP hD hS => ?_)
  refine lv_if_ne (tgt := 66) hx hb dX3_findLine_59 (by decide) (fun c_2 => ?_) (fun c_2 => ?_)
  · replace h := o_f c_2 h
    refine lv_iconst (v := 0) hx hb dX3_findLine_66 (by decide) ?_
    obtain rfl := Option.some.inj h
    exact kRet_z C (by decide) hP hD hS dX3_findLine_67
  · replace h := o_t c_2 h
    refine lv_iconst (v := 1) hx hb dX3_findLine_62 (by decide) ?_
    refine lv_goto (tgt := 67) hx hb dX3_findLine_63 (by decide) ?_
    obtain rfl := Option.some.inj h
    exact kRet_z C (by decide) hP hD hS dX3_findLine_67
set_option maxHeartbeats 4000000 in
set_option maxRecDepth 100000 in
theorem k_X3_findLine_L11 {l : Launch} {p : Program} {e : Env} {s : State} {m : MethodId} {args : Array Value} {below : List Frame} {meth : Method} {c : Code} {A : Nat → Prop} {D : va_G} {cB cI cL : ClassId} {a_rd a_tk a_tx a_ln a_lnk a_lnp a_lnf a_lns a_lnn : Nat} {rd_p : Int32} {tk_h : Int32} {tk_v : Int64} {tk_f : Int32} {tx_b : Nat → Int32} {ln_c : Int32} {ln_m : Int32} {ln_k : Nat → Int32} {ln_p : Nat → Int32} {ln_f : Nat → Int32} {ln_s : Nat → Int32} {ln_n : Nat → Int64} {res : Int32} (C : kx p s m args meth c prog_5_method_3_code 2 (some .boolean) "LinkText$Reader" (.code (⟨"LinkText$Reader", "findLine", "()Z"⟩ : MethodName) prog_5_method_3_code 2 (some .boolean) :: k_tbl)) (hE : ev D cB cI cL A s) (hA : ∀ q : Nat, s.heap.size ≤ q → A q) :
    ∀ (n : Nat) (rd_f : Int32) (tk_e : Int32) (tk_s : Int32) (tk_p : Int32) (x1 : Int32) (H : Heap) (locs : List Loc) (ls : Array Slot), va_P D vwCl [(a_rd, .inr (3, [.ref a_tk, .ref a_ln, .int rd_f, .int rd_p])), (a_tk, .inr (2, [.ref a_tx, .int tk_e, .int tk_s, .int tk_p, .int tk_h, .long tk_v, .int tk_f])), (a_tx, .inl (cB, 4000, .inl tx_b)), (a_ln, .inr (1, [.ref a_lnk, .ref a_lnp, .ref a_lnf, .ref a_lns, .ref a_lnn, .int ln_c, .int ln_m])), (a_lnk, .inl (cI, 64, .inl ln_k)), (a_lnp, .inl (cI, 64, .inl ln_p)), (a_lnf, .inl (cI, 64, .inl ln_f)), (a_lns, .inl (cI, 64, .inl ln_s)), (a_lnn, .inl (cL, 4000, .inr (.inl ln_n)))] H → va_D A [(a_rd, .inr (3, [.ref a_tk, .ref a_ln, .int rd_f, .int rd_p])), (a_tk, .inr (2, [.ref a_tx, .int tk_e, .int tk_s, .int tk_p, .int tk_h, .long tk_v, .int tk_f])), (a_tx, .inl (cB, 4000, .inl tx_b)), (a_ln, .inr (1, [.ref a_lnk, .ref a_lnp, .ref a_lnf, .ref a_lns, .ref a_lnn, .int ln_c, .int ln_m])), (a_lnk, .inl (cI, 64, .inl ln_k)), (a_lnp, .inl (cI, 64, .inl ln_p)), (a_lnf, .inl (cI, 64, .inl ln_f)), (a_lns, .inl (cI, 64, .inl ln_s)), (a_lnn, .inl (cL, 4000, .inr (.inl ln_n)))] → va_S A s.heap H locs → lv_has ls 2 [(0, .ref a_rd), (1, .int x1)] → m_X3_findLine_L11  n rd_f tk_e tk_s tk_p x1 = some res → W p l e ({ frames := 1, cells := 0, slots := 0, locals := 20 } : Room) s m args below meth c H locs 0 0 (MQ below (kQi D vwCl [(a_rd, .inr (3, [.ref a_tk, .ref a_ln, .int rd_f, .int rd_p])), (a_tk, .inr (2, [.ref a_tx, .int tk_e, .int tk_s, .int tk_p, .int tk_h, .long tk_v, .int tk_f])), (a_tx, .inl (cB, 4000, .inl tx_b)), (a_ln, .inr (1, [.ref a_lnk, .ref a_lnp, .ref a_lnf, .ref a_lns, .ref a_lnn, .int ln_c, .int ln_m])), (a_lnk, .inl (cI, 64, .inl ln_k)), (a_lnp, .inl (cI, 64, .inl ln_p)), (a_lnf, .inl (cI, 64, .inl ln_f)), (a_lns, .inl (cI, 64, .inl ln_s)), (a_lnn, .inl (cL, 4000, .inr (.inl ln_n)))] res A) args s 0 0 A) (F0 m 11 ls []) := by
  obtain ⟨hx, hb, hr, hml, hown, hts, hlocks⟩ := id C
  have ht : ∀ w ∈ k_tbl, w.before args s = true := fun w h => hts w (List.mem_cons_of_mem _ h)
  intro n
  induction n with
  | zero =>
    intro _ _ _ _ _ _ _ _ _ _ _ _ h
    cases h
  | succ n ih =>
    intro rd_f tk_e tk_s tk_p x1 H locs ls hP hD hS hl h
    rw [m_X3_findLine_L11] at h
    refine lv_iload_n hx hb dX3_findLine_11 rfl (lv_at hl 1 rfl) ?_
    refine lv_sipush (v := 4000) hx hb dX3_findLine_12 (by decide) ?_
    refine lv_icmp_gt (tgt := 52) hx hb dX3_findLine_15 (by decide) (fun c_3 => ?_) (fun c_3 => ?_)
    · replace h := o_t c_3 h
      exact k_X3_findLine_J52 C hE hA  rd_f tk_e tk_s tk_p _ _ _ hP hD hS (lv_sub hl [0] rfl) h
    · replace h := o_f c_3 h
      refine lv_aload_n hx hb dX3_findLine_18 rfl (lv_at hl 0 rfl) ?_
      refine va_get (D := D) (ci := 3) (v := .ref a_tk) (C := RX3) (T := TX3) (N := 4) hx hb ht inX3 hown hE.1 hP 0 rfl rfl 0 (by decide) (ht _ kw_111) (fun _ h9 => h9) rfl dX3_findLine_19 ?_
      obtain ⟨r_4, hr_4, h⟩ := o_b_s h
      refine kCi (w' := [(a_rd, .inr (3, [.ref a_tk, .ref a_ln, .int rd_f, .int rd_p])), (a_tk, .inr (2, [.ref a_tx, .int tk_e, .int tk_s, .int tk_p, .int tk_h, .long tk_v, .int tk_f])), (a_tx, .inl (cB, 4000, .inl tx_b)), (a_ln, .inr (1, [.ref a_lnk, .ref a_lnp, .ref a_lnf, .ref a_lns, .ref a_lnn, .int ln_c, .int ln_m])), (a_lnk, .inl (cI, 64, .inl ln_k)), (a_lnp, .inl (cI, 64, .inl ln_p)), (a_lnf, .inl (cI, 64, .inl ln_f)), (a_lns, .inl (cI, 64, .inl ln_s)), (a_lnn, .inl (cL, 4000, .inr (.inl ln_n)))]) hP hD hS hA [1, 2] [0, 3, 4, 5, 6, 7, 8] [0, 7, 8, 1, 2, 3, 4, 5, 6] (kRunV (rest := []) C ev_ok hE hA hP hD hS [1, 2] rfl rfl rfl (c_X2_isLineEnd hr_4) hE.1 0 2 rfl rfl (cwV 0 ht (gV kw_190 kw_191 kw_192 kw_5 kw_193) rfl rfl rfl (by decide +kernel) ⟨Nat.le_of_ble_eq_true rfl, Nat.le_of_ble_eq_true rfl⟩) rfl hl.1 rfl (Nat.le_of_ble_eq_true rfl) dX3_findLine_22 ⟨Nat.le_of_ble_eq_true rfl, Nat.le_of_ble_eq_true rfl⟩) rfl rfl rfl (by decide) rfl rfl rfl (fun H locs hP hD hS => ?_)
      refine lv_if_eq (tgt := 52) hx hb dX3_findLine_25 (by decide) (fun c_5 => ?_) (fun c_5 => ?_)
      · replace h := o_t c_5 h
        exact k_X3_findLine_J52 C hE hA  rd_f tk_e tk_s tk_p _ _ _ hP hD hS (lv_sub hl [0] rfl) h
      · replace h := o_f c_5 h
        refine lv_aload_n hx hb dX3_findLine_28 rfl (lv_at hl 0 rfl) ?_
        refine va_get (D := D) (ci := 3) (v := .ref a_tk) (C := RX3) (T := TX3) (N := 4) hx hb ht inX3 hown hE.1 hP 0 rfl rfl 0 (by decide) (ht _ kw_111) (fun _ h9 => h9) rfl dX3_findLine_29 ?_
        obtain ⟨r_6, hr_6, h⟩ := o_b_s h
        refine kCi (w' := [(a_rd, .inr (3, [.ref a_tk, .ref a_ln, .int rd_f, .int rd_p])), (a_tk, .inr (2, [.ref a_tx, .int tk_e, .int tk_s, .int tk_p, .int tk_h, .long tk_v, .int tk_f])), (a_tx, .inl (cB, 4000, .inl tx_b)), (a_ln, .inr (1, [.ref a_lnk, .ref a_lnp, .ref a_lnf, .ref a_lns, .ref a_lnn, .int ln_c, .int ln_m])), (a_lnk, .inl (cI, 64, .inl ln_k)), (a_lnp, .inl (cI, 64, .inl ln_p)), (a_lnf, .inl (cI, 64, .inl ln_f)), (a_lns, .inl (cI, 64, .inl ln_s)), (a_lnn, .inl (cL, 4000, .inr (.inl ln_n)))]) hP hD hS hA [1, 2] [0, 3, 4, 5, 6, 7, 8] [0, 7, 8, 1, 2, 3, 4, 5, 6] (kRunV (rest := []) C ev_ok hE hA hP hD hS [1, 2] rfl rfl rfl (c_X2_isTextEnd hr_6) hE.1 0 2 rfl rfl (cwV 0 ht (gV kw_194 kw_195 kw_196 kw_5 kw_197) rfl rfl rfl (by decide +kernel) ⟨Nat.le_of_ble_eq_true rfl, Nat.le_of_ble_eq_true rfl⟩) rfl hl.1 rfl (Nat.le_of_ble_eq_true rfl) dX3_findLine_32 ⟨Nat.le_of_ble_eq_true rfl, Nat.le_of_ble_eq_true rfl⟩) rfl rfl rfl (by decide) rfl rfl rfl (fun H locs hP hD hS => ?_)
        refine lv_if_ne (tgt := 52) hx hb dX3_findLine_35 (by decide) (fun c_7 => ?_) (fun c_7 => ?_)
        · replace h := o_f c_7 h
          exact k_X3_findLine_J52 C hE hA  rd_f tk_e tk_s tk_p _ _ _ hP hD hS (lv_sub hl [0] rfl) h
        · replace h := o_t c_7 h
          refine lv_aload_n hx hb dX3_findLine_38 rfl (lv_at hl 0 rfl) ?_
          refine va_get (D := D) (ci := 3) (v := .ref a_tk) (C := RX3) (T := TX3) (N := 4) hx hb ht inX3 hown hE.1 hP 0 rfl rfl 0 (by decide) (ht _ kw_111) (fun _ h9 => h9) rfl dX3_findLine_39 ?_
          refine lv_iconst (v := 0) hx hb dX3_findLine_42 (by decide) ?_
          cases h
set_option maxHeartbeats 4000000 in
set_option maxRecDepth 100000 in
theorem c_X3_findLine {l : Launch} {D : va_G} {cB cI cL : ClassId} {a_rd a_tk a_tx a_ln a_lnk a_lnp a_lnf a_lns a_lnn : Nat} {rd_f : Int32} {rd_p : Int32} {tk_e : Int32} {tk_s : Int32} {tk_p : Int32} {tk_h : Int32} {tk_v : Int64} {tk_f : Int32} {tx_b : Nat → Int32} {ln_c : Int32} {ln_m : Int32} {ln_k : Nat → Int32} {ln_p : Nat → Int32} {ln_f : Nat → Int32} {ln_s : Nat → Int32} {ln_n : Nat → Int64} {res : Int32} (h : m_X3_findLine rd_f tk_e tk_s tk_p = some res) : KMet l (⟨"LinkText$Reader", "findLine", "()Z"⟩ : MethodName) (.code (⟨"LinkText$Reader", "findLine", "()Z"⟩ : MethodName) prog_5_method_3_code 2 (some .boolean) :: k_tbl) ({ frames := 1, cells := 0, slots := 0, locals := 20 } : Room) (ev D cB cI cL) D vwCl [.ref a_rd] [(a_rd, .inr (3, [.ref a_tk, .ref a_ln, .int rd_f, .int rd_p])), (a_tk, .inr (2, [.ref a_tx, .int tk_e, .int tk_s, .int tk_p, .int tk_h, .long tk_v, .int tk_f])), (a_tx, .inl (cB, 4000, .inl tx_b)), (a_ln, .inr (1, [.ref a_lnk, .ref a_lnp, .ref a_lnf, .ref a_lns, .ref a_lnn, .int ln_c, .int ln_m])), (a_lnk, .inl (cI, 64, .inl ln_k)), (a_lnp, .inl (cI, 64, .inl ln_p)), (a_lnf, .inl (cI, 64, .inl ln_f)), (a_lns, .inl (cI, 64, .inl ln_s)), (a_lnn, .inl (cL, 4000, .inr (.inl ln_n)))] (kQi D vwCl [(a_rd, .inr (3, [.ref a_tk, .ref a_ln, .int rd_f, .int rd_p])), (a_tk, .inr (2, [.ref a_tx, .int tk_e, .int tk_s, .int tk_p, .int tk_h, .long tk_v, .int tk_f])), (a_tx, .inl (cB, 4000, .inl tx_b)), (a_ln, .inr (1, [.ref a_lnk, .ref a_lnp, .ref a_lnf, .ref a_lns, .ref a_lnn, .int ln_c, .int ln_m])), (a_lnk, .inl (cI, 64, .inl ln_k)), (a_lnp, .inl (cI, 64, .inl ln_p)), (a_lnf, .inl (cI, 64, .inl ln_f)), (a_lns, .inl (cI, 64, .inl ln_s)), (a_lnn, .inl (cL, 4000, .inr (.inl ln_n)))] res) := by
  unfold m_X3_findLine at h
  refine kMet (cc := prog_5_method_3_code) (mL := 2) (ret := (some .boolean)) (own := "LinkText$Reader") (by decide) rfl rfl (Nat.le_of_ble_eq_true rfl) ?_
  intro p e s m below meth c A C hnm hE hA hP hD ls hl
  generalize ([.ref a_rd] : List Value).toArray = args at C ⊢
  obtain ⟨hx, hb, hr, hml, hown, hts, hlocks⟩ := id C
  have ht : ∀ w ∈ k_tbl, w.before args s = true := fun w h => hts w (List.mem_cons_of_mem _ h)
  have hS : va_S A s.heap s.heap [] := va_S.rf
  have hl : lv_has ls 2 [(0, .ref a_rd)] := hl
  refine lv_aload_n hx hb dX3_findLine_0 rfl (lv_at hl 0 rfl) ?_
  refine va_get (D := D) (ci := 3) (v := .int rd_f) (C := RX3) (T := TX3) (N := 4) hx hb ht inX3 hown hE.1 hP 0 rfl rfl 2 (by decide) (ht _ kw_113) (fun _ h9 => h9) rfl dX3_findLine_1 ?_
  refine lv_if_eq (tgt := 9) hx hb dX3_findLine_4 (by decide) (fun c_8 => ?_) (fun c_8 => ?_)
  · replace h := o_t c_8 h
    refine lv_iconst (v := 0) hx hb dX3_findLine_9 (by decide) ?_
    refine lv_istore_n (lv' := [(1, .int (0 : Int32)), (0, .ref a_rd)]) hx hb dX3_findLine_10 rfl hl (by decide) rfl (fun ls hl => ?_)
    exact k_X3_findLine_L11 C hE hA  fu rd_f tk_e tk_s tk_p (0 : Int32) _ _ _ hP hD hS (lv_sub hl [1, 0] rfl) h
  · replace h := o_f c_8 h
    refine lv_iconst (v := 0) hx hb dX3_findLine_7 (by decide) ?_
    obtain rfl := Option.some.inj h
    exact kRet_z C (by decide) hP hD hS dX3_findLine_8
