theorem o_in_k {α : Type} {i : Int32} {n : Nat} {k : Option α} (h : ¬ (i < 0 ∨ n ≤ i.toNatClampNeg)) : o_in i n k = k := if_neg h
theorem p_add {k : Nat} (hk : k < 4000) (o : Int32) (f : Nat → Int32) (x : Int32) : m_X0_add (nI k) o f x = some (nI (k + 1), o, upd f k (vp_nar .byte x.toInt8.toInt32)) := by
  unfold m_X0_add
  rw [if_pos (show nI k < (4000 : Int32) from nI_lt (b := 4000) hk (by decide)), o_in_k (nI_in hk (by decide)), nI_clamp (by omega)]
  simp only [o_let]
  rw [nI_1]
theorem p_four1 {k : Nat} (hk : k < 4000) (n : Nat) (o : Int32) (f : Nat → Int32) (x z : Int32) (hz : ¬ z < 0) : m_X5_feedFour_L3 (n + 1) (nI k) o f x z = m_X5_feedFour_L3 n (nI (k + 1)) o (upd f k (vp_nar .byte (x >>> (z &&& 31)).toInt8.toInt32)) x (z + (-8)) := by
  rw [m_X5_feedFour_L3, if_neg hz]
  simp only [o_let, p_add hk, o_b]
theorem p_four {k : Nat} (hk : k + 4 ≤ 4000) (o : Int32) (f : Nat → Int32) (x : Int32) : ∃ g, m_X5_feedFour (nI k) o f x = some (nI (k + 4), o, g) := by
  unfold m_X5_feedFour
  rw [show fu = 99995 + 1 + 1 + 1 + 1 + 1 from rfl, p_four1 (by omega) _ _ _ _ _ (by decide), p_four1 (by omega) _ _ _ _ _ (by decide), p_four1 (by omega) _ _ _ _ _ (by decide), p_four1 (by omega) _ _ _ _ _ (by decide), m_X5_feedFour_L3, if_pos (by decide)]
  exact ⟨_, rfl⟩
theorem p_feed (f : Nat → Int32) (a b c d e : Int32) : ∃ r, m_X5_feed 0 0 f a b c d e = some r ∧ r.1 = 20 := by
  unfold m_X5_feed
  rw [if_pos (by decide)]
  obtain ⟨g1, h1⟩ := p_four (k := 0) (by decide) 0 f a
  obtain ⟨g2, h2⟩ := p_four (k := 4) (by decide) 0 g1 b
  obtain ⟨g3, h3⟩ := p_four (k := 8) (by decide) 0 g2 c
  obtain ⟨g4, h4⟩ := p_four (k := 12) (by decide) 0 g3 d
  obtain ⟨g5, h5⟩ := p_four (k := 16) (by decide) 0 g4 e
  rw [show (0 : Int32) = nI 0 from rfl] at *
  simp only [h1, o_b, h2, h3, h4, h5]
  exact ⟨_, rfl, rfl⟩
theorem p_put1 {k : Nat} (hk : k < 4000) (n : Nat) (f : Nat → Int32) (x z : Int32) (hz : ¬ z < 0) : ∃ g, m_X6_put_L3 (n + 1) (nI k) f x z = m_X6_put_L3 n (nI (k + 1)) g x (z + (-8)) := by
  rw [m_X6_put_L3, if_neg hz]
  simp only [o_let]
  rw [o_in_k (nI_in hk (by decide)), nI_1]
  exact ⟨_, rfl⟩
theorem p_put {k : Nat} (hk : k + 4 ≤ 4000) (f : Nat → Int32) (x : Int32) : ∃ g, m_X6_put (nI k) f x = some (nI (k + 4), g) := by
  unfold m_X6_put
  rw [show fu = 99995 + 1 + 1 + 1 + 1 + 1 from rfl]
  obtain ⟨g1, h1⟩ := p_put1 (k := k) (by omega) (99995 + 1 + 1 + 1 + 1) f x 24 (by decide)
  obtain ⟨g2, h2⟩ := p_put1 (k := k + 1) (by omega) (99995 + 1 + 1 + 1) g1 x (24 + (-8)) (by decide)
  obtain ⟨g3, h3⟩ := p_put1 (k := k + 1 + 1) (by omega) (99995 + 1 + 1) g2 x (24 + (-8) + (-8)) (by decide)
  obtain ⟨g4, h4⟩ := p_put1 (k := k + 1 + 1 + 1) (by omega) (99995 + 1) g3 x (24 + (-8) + (-8) + (-8)) (by decide)
  rw [h1, h2, h3, h4, m_X6_put_L3, if_pos (by decide)]
  exact ⟨_, rfl⟩
theorem p_mfeed (f : Nat → Int32) (a b c d e : Int32) : ∃ r, m_X6_feed 0 f a b c d e = some r ∧ r.1 = 20 := by
  unfold m_X6_feed
  simp only [o_let]
  rw [if_pos (by decide)]
  obtain ⟨g1, h1⟩ := p_put (k := 0) (by decide) f a
  obtain ⟨g2, h2⟩ := p_put (k := 4) (by decide) g1 b
  obtain ⟨g3, h3⟩ := p_put (k := 8) (by decide) g2 c
  obtain ⟨g4, h4⟩ := p_put (k := 12) (by decide) g3 d
  obtain ⟨g5, h5⟩ := p_put (k := 16) (by decide) g4 e
  rw [show (0 : Int32) = nI 0 from rfl] at *
  simp only [h1, o_b, h2, h3, h4, h5]
  exact ⟨_, rfl, rfl⟩
def p_rd (x : Int32) : Int32 := if x = 0 then 0 else -2
theorem p_rd_lt {x : Int32} (h : x < 0) : p_rd x = -2 := if_neg (fun e => by rw [e] at h; exact absurd h (by decide))
theorem p_rd_0 {x : Int32} (h : ¬ x < 0) (h2 : x ≤ 0) : x = 0 := Int32.le_antisymm h2 (Int32.not_lt.mp h)
theorem p_read (x : Int32) : ∃ r, m_X5_read 0 0 0 0 0 0 (-1) 0 0 0 0 0 0 x = some r ∧ r.1 = p_rd x := by
  unfold m_X5_read
  by_cases h : x < 0
  · rw [if_pos h]; exact ⟨_, rfl, (p_rd_lt h).symm⟩
  · rw [if_neg h]
    by_cases h2 : x ≤ 0
    · have e := p_rd_0 h h2
      subst e
      rw [if_pos h2]
      exact ⟨_, rfl, by decide⟩
    · rw [if_neg h2]
      exact ⟨_, rfl, (if_neg (fun e => h2 (by rw [e]; decide))).symm⟩
theorem p_mread (f g : Nat → Int32) (x : Int32) : ∃ r, m_X6_read 0 (-1) (-1) 0 0 0 0 0 f g x = some r ∧ r.1 = p_rd x := by
  unfold m_X6_read
  by_cases h : x < 0
  · rw [if_pos h]; exact ⟨_, rfl, (p_rd_lt h).symm⟩
  · rw [if_neg h]
    by_cases h2 : x ≤ 0
    · have e := p_rd_0 h h2
      subst e
      rw [if_pos h2, show fu = 99999 + 1 from rfl, m_X6_read_L47, if_pos (by decide)]
      exact ⟨_, rfl, by decide⟩
    · rw [if_neg h2]
      exact ⟨_, rfl, (if_neg (fun e => h2 (by rw [e]; decide))).symm⟩
theorem p_fault (x : Int32) : m_X5_fault 0 0 (-1) x = some (-1) := by unfold m_X5_fault; rw [if_pos rfl]
theorem p_mfault (x : Int32) : m_X6_fault (-1) (-1) x = some (-1) := by
  unfold m_X6_fault
  split
  · rfl
  · split
    · rw [if_pos (by decide)]
    · rfl
theorem p_has (x : Int32) : m_X1_has 0 x = some 0 := by
  unfold m_X1_has
  by_cases h : x < 0
  · rw [if_pos h]
  · rw [if_neg h, if_pos (Int32.not_lt.mp h)]
theorem p_isLine (x : Int32) : m_X6_isLine 0 x = some 0 := by
  unfold m_X6_isLine
  by_cases h : x < 0
  · rw [if_pos h]
  · rw [if_neg h, if_pos (Int32.not_lt.mp h)]
theorem p_line (k p s : Nat → Int32) (x y : Int32) : m_X5_line 0 k p s x y = some (-1) := by
  unfold m_X5_line
  simp only [p_has, o_b, ↓reduceIte]
theorem p_mline (k c s : Nat → Int32) (x y : Int32) : m_X6_line 0 k c s x y = some (-1) := by
  unfold m_X6_line
  simp only [p_isLine, o_b, ↓reduceIte]
theorem p_number (f s : Nat → Int32) (n : Nat → Int64) (x y : Int32) : m_X5_number 0 f s n x y = some 0 := by
  have h0 : m_X1_storedAt 0 f s n x y = some 0 := by
    unfold m_X1_storedAt
    by_cases h : y < 0
    · rw [if_pos h]
    · rw [if_neg h]
      have h1 : m_X1_sizeOf 0 s x = some 0 := by
        unfold m_X1_sizeOf
        simp only [p_has, o_b, ↓reduceIte]
      simp only [h1, o_b]
      rw [if_neg h]
  unfold m_X5_number
  simp only [h0, o_b]
  have h2 : m_X5_valueOf 0 = some 0 := by
    unfold m_X5_valueOf
    rw [if_neg (by decide)]
  simp only [h2]
theorem p_mnumber (f c : Nat → Int32) (n : Nat → Int64) (x y : Int32) : m_X6_number1 0 f c n x y = some 0 := by
  unfold m_X6_number1
  simp only [p_isLine, o_b, ↓reduceIte]
theorem p_print (x : Int32) : m_X5_print 0 0 x = some (-1) := by
  unfold m_X5_print
  simp only [p_has, o_b, ↓reduceIte]
theorem p_mprint (w o : Int32) (k : Nat → Int32) (x : Int32) : m_X6_print 0 w o k x = some (-1, w, o) := by
  unfold m_X6_print
  simp only [p_isLine, o_b, ↓reduceIte]
theorem p_printed (f : Nat → Int32) (x : Int32) : m_X5_printed 0 f x = some (-1) := by
  have h : m_X0_byteAt 0 f x = some (-1) := by
    unfold m_X0_byteAt
    by_cases h : x < 0
    · rw [if_pos h]
    · rw [if_neg h, if_neg h]
  unfold m_X5_printed
  simp only [h, o_b]
theorem p_mprinted (f : Nat → Int32) (x : Int32) : m_X6_printed 0 f x = some (-1) := by
  unfold m_X6_printed
  by_cases h : x < 0
  · rw [if_pos h]
  · rw [if_neg h, if_neg h]
theorem p_wipe (f g : Nat → Int32) (x : Int32) : ∃ r, m_X5_wipe 0 0 f 0 0 g x = some r ∧ r.1 = 0 := by
  unfold m_X5_wipe
  by_cases h : x = 0
  · rw [if_pos h]; exact ⟨_, rfl, rfl⟩
  · rw [if_neg h]
    have hc : m_X0_copy 0 0 f 0 g = some (0, 0, va_cpy g f (0 : Int32).toNatClampNeg (0 : Int32).toNatClampNeg (0 : Int32).toNatClampNeg) := by
      unfold m_X0_copy o_cpy
      rw [if_pos ⟨by decide, by decide, by decide, by decide, by decide, fun i hi => absurd hi (by show ¬ i < 0; omega)⟩]
      rfl
    simp only [hc, o_b]
    exact ⟨_, rfl, rfl⟩
theorem p_mwipe (f g : Nat → Int32) (x : Int32) : ∃ r, m_X6_wipe 0 0 f g x = some r ∧ r.1 = 0 := by
  unfold m_X6_wipe
  by_cases h : x = 0
  · rw [if_pos h]; exact ⟨_, rfl, rfl⟩
  · rw [if_neg h, show fu = 99999 + 1 from rfl, m_X6_wipe_L11, if_pos (by decide)]
    exact ⟨_, rfl, rfl⟩
theorem p_end (xs : Nat → Int32) (n : Nat) (xx_e : Int32) (tp_c : Int32) (tp_o : Int32) (tp_b : Nat → Int32) (pp_c : Int32) (pp_o : Int32) (pp_b : Nat → Int32) (ln_c : Int32) (ln_m : Int32) (ln_k : Nat → Int32) (ln_p : Nat → Int32) (ln_f : Nat → Int32) (ln_s : Nat → Int32) (ln_n : Nat → Int64) (rd_f : Int32) (rd_p : Int32) (tk_e : Int32) (tk_s : Int32) (tk_p : Int32) (tk_h : Int32) (tk_v : Int64) (tk_f : Int32) (mo_taped : Int32) (mo_fault : Int32) (mo_place : Int32) (mo_lines : Int32) (mo_used : Int32) (mo_state : Int32) (mo_at : Int32) (mo_from : Int32) (mo_printed : Int32) (mo_written : Int32) (mo_over : Int32) (mo_tapeA : Nat → Int32) (mo_kindA : Nat → Int32) (mo_firstA : Nat → Int32) (mo_countA : Nat → Int32) (mo_beginsA : Nat → Int32) (mo_numbersA : Nat → Int64) (mo_outA : Nat → Int32) : m_L_law_J341 xs 6 (m_L_law_L18 xs 6 (n + 1)) xx_e tp_c tp_o tp_b pp_c pp_o pp_b ln_c ln_m ln_k ln_p ln_f ln_s ln_n rd_f rd_p tk_e tk_s tk_p tk_h tk_v tk_f mo_taped mo_fault mo_place mo_lines mo_used mo_state mo_at mo_from mo_printed mo_written mo_over mo_tapeA mo_kindA mo_firstA mo_countA mo_beginsA mo_numbersA mo_outA 0 = some 1 := by
  unfold m_L_law_J341
  simp only [o_let]
  rw [m_L_law_L18, if_pos (by decide)]
theorem p_wend (xs : Nat → Int32) (n : Nat) (xx_e : Int32) (tp_c : Int32) (tp_o : Int32) (tp_b : Nat → Int32) (pp_c : Int32) (pp_o : Int32) (pp_b : Nat → Int32) (ln_c : Int32) (ln_m : Int32) (ln_k : Nat → Int32) (ln_p : Nat → Int32) (ln_f : Nat → Int32) (ln_s : Nat → Int32) (ln_n : Nat → Int64) (rd_f : Int32) (rd_p : Int32) (tk_e : Int32) (tk_s : Int32) (tk_p : Int32) (tk_h : Int32) (tk_v : Int64) (tk_f : Int32) (mo_taped : Int32) (mo_fault : Int32) (mo_place : Int32) (mo_lines : Int32) (mo_used : Int32) (mo_state : Int32) (mo_at : Int32) (mo_from : Int32) (mo_printed : Int32) (mo_written : Int32) (mo_over : Int32) (mo_tapeA : Nat → Int32) (mo_kindA : Nat → Int32) (mo_firstA : Nat → Int32) (mo_countA : Nat → Int32) (mo_beginsA : Nat → Int32) (mo_numbersA : Nat → Int64) (mo_outA : Nat → Int32) (x r : Int32) (hp : mo_printed = 0) (ht : mo_taped = 0) (hr : r = 0) : m_L_law_J333 xs 6 (m_L_law_L18 xs 6 (n + 1)) xx_e tp_c tp_o tp_b pp_c pp_o pp_b ln_c ln_m ln_k ln_p ln_f ln_s ln_n rd_f rd_p tk_e tk_s tk_p tk_h tk_v tk_f mo_taped mo_fault mo_place mo_lines mo_used mo_state mo_at mo_from mo_printed mo_written mo_over mo_tapeA mo_kindA mo_firstA mo_countA mo_beginsA mo_numbersA mo_outA 0 x r = some 1 := by
  subst hp; subst ht; subst hr
  unfold m_L_law_J333
  obtain ⟨r, h1, h2⟩ := p_mwipe mo_tapeA mo_outA x
  simp only [h1, o_b]
  rw [if_pos h2.symm]
  exact p_end ..
set_option maxHeartbeats 4000000 in
set_option maxRecDepth 100000 in
theorem p_six (xs : Nat → Int32) : m_law xs 6 = some 1 := by
  unfold m_law
  rw [show fu = 99998 + 1 + 1 from rfl, m_L_law_L18, if_neg (by decide), o_in_k (by decide)]
  simp only [o_let]
  generalize xs (0 : Int32).toNatClampNeg &&& 7 = v
  by_cases c0 : v = 0
  · rw [if_pos c0]
    repeat rw [o_in_k (by decide)]
    obtain ⟨r, h1, h2⟩ := p_feed (fun _ => 0) (xs ((0 : Int32) + 1).toNatClampNeg) (xs ((0 : Int32) + 2).toNatClampNeg) (xs ((0 : Int32) + 3).toNatClampNeg) (xs ((0 : Int32) + 4).toNatClampNeg) (xs ((0 : Int32) + 5).toNatClampNeg)
    obtain ⟨q, h3, h4⟩ := p_mfeed (fun _ => 0) (xs ((0 : Int32) + 1).toNatClampNeg) (xs ((0 : Int32) + 2).toNatClampNeg) (xs ((0 : Int32) + 3).toNatClampNeg) (xs ((0 : Int32) + 4).toNatClampNeg) (xs ((0 : Int32) + 5).toNatClampNeg)
    simp only [h1, h3, o_b]
    repeat rw [o_in_k (by decide)]
    rw [if_pos (h2.trans h4.symm)]
    exact p_end ..
  rw [if_neg c0]
  by_cases c1 : v = 1
  · rw [if_pos c1, o_in_k (by decide)]
    obtain ⟨r, h1, h2⟩ := p_read (xs ((0 : Int32) + 1).toNatClampNeg)
    obtain ⟨q, h3, h4⟩ := p_mread (fun _ => 0) (fun _ => 0) (xs ((0 : Int32) + 1).toNatClampNeg)
    simp only [h1, h3, o_b]
    rw [o_in_k (by decide), if_pos (h2.trans h4.symm)]
    exact p_end ..
  rw [if_neg c1]
  by_cases c2 : v = 2
  · rw [if_pos c2, o_in_k (by decide)]
    simp only [p_fault, p_mfault, o_b]
    rw [o_in_k (by decide), if_pos trivial]
    exact p_end ..
  rw [if_neg c2]
  by_cases c3 : v = 3
  · rw [if_pos c3]
    repeat rw [o_in_k (by decide)]
    simp only [p_line, p_mline, o_b]
    repeat rw [o_in_k (by decide)]
    rw [if_pos trivial]
    exact p_end ..
  rw [if_neg c3]
  by_cases c4 : v = 4
  · rw [if_pos c4]
    repeat rw [o_in_k (by decide)]
    simp only [p_number, p_mnumber, o_b]
    repeat rw [o_in_k (by decide)]
    rw [if_pos (by decide)]
    exact p_end ..
  rw [if_neg c4]
  by_cases c5 : v = 5
  · rw [if_pos c5, o_in_k (by decide)]
    simp only [p_print, p_mprint, o_b]
    rw [o_in_k (by decide), if_pos trivial]
    exact p_end ..
  rw [if_neg c5]
  by_cases c6 : v = 6
  · rw [if_pos c6, o_in_k (by decide)]
    simp only [p_printed, p_mprinted, o_b]
    rw [o_in_k (by decide), if_pos trivial]
    exact p_end ..
  rw [if_neg c6]
  by_cases c7 : v = 7
  · rw [if_pos c7, o_in_k (by decide)]
    obtain ⟨r, h1, h2⟩ := p_wipe (fun _ => 0) (fun _ => 0) 0
    obtain ⟨q, h3, h4⟩ := p_wipe (fun _ => 0) (fun _ => 0) 1
    split
    · unfold m_L_law_J316
      simp only [h1, o_b, o_let]
      rw [o_in_k (by decide)]
      split
      · exact p_wend _ _ (hp := rfl) (ht := rfl) (hr := h2) ..
      · exact p_wend _ _ (hp := rfl) (ht := rfl) (hr := h2) ..
    · unfold m_L_law_J316
      simp only [h3, o_b, o_let]
      rw [o_in_k (by decide)]
      split
      · exact p_wend _ _ (hp := rfl) (ht := rfl) (hr := h4) ..
      · exact p_wend _ _ (hp := rfl) (ht := rfl) (hr := h4) ..
  rw [if_neg c7]
  exact p_end ..
theorem p_few {L : Nat} (hL : L < 6) (xs : Nat → Int32) : m_law xs L = some 1 := by
  unfold m_law
  rw [show fu = 99999 + 1 from rfl, m_L_law_L18, if_pos]
  rcases (show L = 0 ∨ L = 1 ∨ L = 2 ∨ L = 3 ∨ L = 4 ∨ L = 5 by omega) with rfl | rfl | rfl | rfl | rfl | rfl <;> decide
theorem p_law {L : Nat} (hL : L ≤ 6) (xs : Nat → Int32) : m_law xs L = some 1 := by
  rcases Nat.lt_or_ge L 6 with h | h
  · exact p_few h xs
  · have e : L = 6 := by omega
    subst e
    exact p_six xs
