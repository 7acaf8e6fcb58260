def o_in {α : Type} (i : Int32) (n : Nat) (k : Option α) : Option α := if i < 0 ∨ n ≤ i.toNatClampNeg then none else k
theorem o_in_s {α : Type} {i : Int32} {n : Nat} {k : Option α} {r : α} (h : o_in i n k = some r) : vp_in i n ∧ k = some r := by
  unfold o_in at h
  by_cases c : i < 0 ∨ n ≤ i.toNatClampNeg
  · rw [if_pos c] at h; cases h
  · rw [if_neg c] at h; exact ⟨c, h⟩
def o_nz {α : Type} (y : Int32) (k : Option α) : Option α := if y = 0 then none else k
theorem o_nz_s {α : Type} {y : Int32} {k : Option α} {r : α} (h : o_nz y k = some r) : ¬ y = 0 ∧ k = some r := by
  unfold o_nz at h
  by_cases c : y = 0
  · rw [if_pos c] at h; cases h
  · rw [if_neg c] at h; exact ⟨c, h⟩
def o_nl {α : Type} (y : Int64) (k : Option α) : Option α := if y = 0 then none else k
theorem o_nl_s {α : Type} {y : Int64} {k : Option α} {r : α} (h : o_nl y k = some r) : ¬ y = 0 ∧ k = some r := by
  unfold o_nl at h
  by_cases c : y = 0
  · rw [if_pos c] at h; cases h
  · rw [if_neg c] at h; exact ⟨c, h⟩
def o_lt {α : Type} (i n : Nat) (k : Option α) : Option α := if i < n then k else none
theorem o_lt_s {α : Type} {i n : Nat} {k : Option α} {r : α} (h : o_lt i n k = some r) : i < n ∧ k = some r := by
  unfold o_lt at h
  by_cases c : i < n
  · rw [if_pos c] at h; exact ⟨c, h⟩
  · rw [if_neg c] at h; cases h
def o_let {α β : Type} (e : α) (f : α → Option β) : Option β := f e
theorem o_let_s {α β : Type} {e x : α} {f : α → Option β} {r : β} (ex : x = e) (h : o_let e f = some r) : f x = some r := by subst ex; exact h
def o_b {α β : Type} (x : Option α) (f : α → Option β) : Option β := match x with
  | none => none
  | some a => f a
theorem o_b_s {α β : Type} {x : Option α} {f : α → Option β} {r : β} (h : o_b x f = some r) : ∃ a, x = some a ∧ f a = some r := by
  cases x with
  | none => cases h
  | some a => exact ⟨a, rfl, h⟩
def o_zb {α : Type} (v : Int32) (k : Option α) : Option α := if v = 0 ∨ v = 1 then k else none
theorem o_zb_s {α : Type} {v : Int32} {k : Option α} {r : α} (h : o_zb v k = some r) : (narrow .boolean (.int v) = .int v ∧ fits .boolean (.int v) = true) ∧ k = some r := by
  unfold o_zb at h
  by_cases c : v = 0 ∨ v = 1
  · rw [if_pos c] at h
    refine ⟨?_, h⟩
    rcases c with rfl | rfl <;> exact ⟨rfl, rfl⟩
  · rw [if_neg c] at h; cases h
def fu : Nat := 100000
theorem sw_ne {x k : Int32} {n : Int} (h : ¬ x = k) (hk : k.toInt = n) : x.toInt ≠ n := fun e => h (Int32.toInt_inj.mp (e.trans hk.symm))
theorem o_t {α : Type} {c : Prop} {d : Decidable c} {a b : Option α} {r : α} (hc : c) (h : (@ite _ c d a b) = some r) : a = some r := by rw [if_pos hc] at h; exact h
theorem o_f {α : Type} {c : Prop} {d : Decidable c} {a b : Option α} {r : α} (hc : ¬ c) (h : (@ite _ c d a b) = some r) : b = some r := by rw [if_neg hc] at h; exact h
def o_cpy {α : Type} (f : Nat → Int32) (sp dp n : Int32) (n0 n1 : Nat) (k : Option α) : Option α := if (¬ sp < 0) ∧ (¬ dp < 0) ∧ (¬ n < 0) ∧ sp.toNatClampNeg + n.toNatClampNeg ≤ n0 ∧ dp.toNatClampNeg + n.toNatClampNeg ≤ n1 ∧ (∀ i, i < n.toNatClampNeg → fits .byte (.int (f (sp.toNatClampNeg + i))) = true) then k else none
theorem o_cpy_s {α : Type} {f : Nat → Int32} {sp dp n : Int32} {n0 n1 : Nat} {k : Option α} {r : α} (h : o_cpy f sp dp n n0 n1 k = some r) : ((¬ sp < 0) ∧ (¬ dp < 0) ∧ (¬ n < 0) ∧ sp.toNatClampNeg + n.toNatClampNeg ≤ n0 ∧ dp.toNatClampNeg + n.toNatClampNeg ≤ n1 ∧ (∀ i, i < n.toNatClampNeg → fits .byte (.int (f (sp.toNatClampNeg + i))) = true)) ∧ k = some r := by
  unfold o_cpy at h
  split at h
  · next c => exact ⟨c, h⟩
  · cases h
def kx (p : Program) (s : State) (m : MethodId) (args : Array Value) (meth : Method) (c : Code) (cc : ByteArray) (mL : Nat) (ret : Option FieldType) (own : String) (ws : List Cond) : Prop :=
  p.tables.exec = Jvm.exec ∧ c.code = cc ∧ meth.sig.returnType = ret ∧ c.maxLocals = mL ∧ s.vm.findClass own = some m.cls ∧ (∀ w ∈ ws, w.before args s = true) ∧ meth.locks = false
abbrev k_E : Type := (Nat → Prop) → State → Prop
def kEok (E : k_E) : Prop := (∀ (A : Nat → Prop) (U : State) (g : JFrame) (mk : MethodId) (a : Array Value), E A U → E A (U.calling g mk a)) ∧
  ∀ (A B : Nat → Prop) (s U : State) (H : Heap) (locs : List Loc), E A s → va_S A s.heap H locs → (∀ q, B q → A q) → U.heap = H → s.WarmedH U.vm → E B U
def kPre (E : k_E) (D : va_G) (cl : List vw_C) (av : List Value) (w : va_W) (sz : Nat) : Array Value → State → Prop :=
  va_Pc av (fun U => U.heap.size = sz ∧ va_P D cl w U.heap ∧ va_D (fun _ => True) w ∧ E (va_A w sz) U)
def kQi (D : va_G) (cl : List vw_C) (w' : va_W) (r : Int32) (A : Nat → Prop) : Array Value → State → Outcome → State → Prop := va_Qi (fun x (_ : Unit) => x = r) (fun _ t => va_P D cl w' t.heap ∧ va_D A w') A
def kQl (D : va_G) (cl : List vw_C) (w' : va_W) (r : Int64) (A : Nat → Prop) : Array Value → State → Outcome → State → Prop := va_Ql (fun x (_ : Unit) => x = r) (fun _ t => va_P D cl w' t.heap ∧ va_D A w') A
def kQv (D : va_G) (cl : List vw_C) (w' : va_W) (A : Nat → Prop) : Array Value → State → Outcome → State → Prop := va_Qv (fun (_ : Unit) => True) (fun _ t => va_P D cl w' t.heap ∧ va_D A w') A
def kQr (D : va_G) (cl : List vw_C) (w' : va_W) (r : Nat) (A : Nat → Prop) : Array Value → State → Outcome → State → Prop := va_Qr (fun (_ : Unit) => True) (fun _ a t => a = r ∧ va_P D cl w' t.heap ∧ va_D A w') A
def KMet (l : Launch) (y : MethodName) (ws : List Cond) (rm : Room) (E : k_E) (D : va_G) (cl : List vw_C) (av : List Value) (w : va_W) (Qc : (Nat → Prop) → Array Value → State → Outcome → State → Prop) : Prop :=
  ∀ sz : Nat, Met l y ws rm (kPre E D cl av w sz) (Qc (va_A w sz)) 0 0 (va_A w sz)
theorem kMet {l : Launch} {y : MethodName} {ws ws' : List Cond} {rm : Room} {cc : ByteArray} {mL : Nat} {ret : Option FieldType} {D : va_G} {cl : List vw_C} {E : k_E} {av : List Value} {w : va_W} {Qc : (Nat → Prop) → Array Value → State → Outcome → State → Prop}
    {own : String} (hy : plainName y.cls = true) (ho : y.cls = own) (hw : ws = Cond.code y cc mL ret :: ws') (hn : (lg_sl av).length ≤ mL)
    (body : ∀ (p : Program) (e : Env) (s : State) (m : MethodId) (below : List Frame) (meth : Method) (c : Code) (A : Nat → Prop), kx p s m av.toArray meth c cc mL ret own ws → meth.name = y.name → E A s → (∀ q : Nat, s.heap.size ≤ q → A q) → va_P D cl w s.heap → va_D A w → ∀ ls : Array Slot, lv_has ls mL (lv_args 0 av) →
      W p l e rm s m av.toArray below meth c s.heap [] 0 0 (MQ below (Qc A) av.toArray s 0 0 A) (F0 m 0 ls [])) :
    KMet l y ws rm E D cl av w Qc := by
  intro sz
  refine Met.ofW (cc := cc) (maxL := mL) (ret := ret) hy hw ?_
  intro p e s m args below meth c s₁ B hml hv
  obtain ⟨rfl, hsz, hP, hD0, hE⟩ := hv
  subst hsz
  have hown : s.vm.findClass own = some m.cls := by rw [← ho]; exact findClass_of_methodNamed B.named
  have hl := lv_entry av (n := mL) hn
  rw [lg_entry_eq]
  exact body p e s m below meth c _ ⟨B.exec, B.bytes, B.returns, hml, hown, atoms_spec (ws := ws) B.pre, B.notSynchronized⟩ (name_of_methodNamed B.named B.method).1 hE (fun q h => Or.inr h) hP (hD0.self) _ hl
section KR
variable {p : Program} {l : Launch} {e : Env} {R : Room} {s : State} {m : MethodId} {args : Array Value} {below : List Frame} {meth : Method} {c : Code} {H : Heap} {locs : List Loc} {cells slots : Nat} {cc : ByteArray} {mL : Nat} {own : String} {ws : List Cond} {D : va_G} {cl : List vw_C} {w : va_W} {A : Nat → Prop} {pc : Nat} {ls : Array Slot}
theorem kRet_i {v : Int32} (C : kx p s m args meth c cc mL (some .int) own ws) (hP : va_P D cl w H) (hD : va_D A w) (hS : va_S A s.heap H locs) (hdg : decode cc pc = .ok (.ireturn, 1)) : W p l e R s m args below meth c H locs cells slots (MQ below (kQi D cl w v A) args s cells slots A) (F0 m pc ls [.int v]) := by
  obtain ⟨hx, hb, hr, hml, hown, hts, hlocks⟩ := C
  exact W.iret (v := v) hx hb hr (fun t ht hW => ⟨⟨v, (), rfl, rfl, by rw [ht]; exact hP, hD⟩, hS.F ht⟩) hS.2.2 hdg
theorem kRet_l {v : Int64} (C : kx p s m args meth c cc mL (some .long) own ws) (hP : va_P D cl w H) (hD : va_D A w) (hS : va_S A s.heap H locs) (hdg : decode cc pc = .ok (.lreturn, 1)) : W p l e R s m args below meth c H locs cells slots (MQ below (kQl D cl w v A) args s cells slots A) (F0 m pc ls [.long v]) := by
  obtain ⟨hx, hb, hr, hml, hown, hts, hlocks⟩ := C
  exact W.lret (v := v) hx hb hr (fun t ht hW => ⟨⟨v, (), rfl, rfl, by rw [ht]; exact hP, hD⟩, hS.F ht⟩) hS.2.2 hdg
theorem kRet_v (C : kx p s m args meth c cc mL none own ws) (hP : va_P D cl w H) (hD : va_D A w) (hS : va_S A s.heap H locs) (hdg : decode cc pc = .ok (.return_, 1)) : W p l e R s m args below meth c H locs cells slots (MQ below (kQv D cl w A) args s cells slots A) (F0 m pc ls []) := by
  obtain ⟨hx, hb, hr, hml, hown, hts, hlocks⟩ := C
  exact W.vret hx hb hr (fun t ht hW => ⟨⟨(), rfl, trivial, by rw [ht]; exact hP, hD⟩, hS.F ht⟩) hS.2.2 hdg
theorem kRet_z {v : Int32} (C : kx p s m args meth c cc mL (some .boolean) own ws) (hz : narrow .boolean (.int v) = .int v) (hP : va_P D cl w H) (hD : va_D A w) (hS : va_S A s.heap H locs) (hdg : decode cc pc = .ok (.ireturn, 1)) : W p l e R s m args below meth c H locs cells slots (MQ below (kQi D cl w v A) args s cells slots A) (F0 m pc ls [.int v]) := by
  obtain ⟨hx, hb, hr, hml, hown, hts, hlocks⟩ := C
  exact W.zret (v := v) hx hb hr hz (fun t ht hW => ⟨⟨v, (), rfl, rfl, by rw [ht]; exact hP, hD⟩, hS.F ht⟩) hS.2.2 hdg
theorem kRet_r {v : Nat} {rt : FieldType} (C : kx p s m args meth c cc mL (some rt) own ws) (hrt : (∃ n, rt = .object n) ∨ ∃ t, rt = .array t) (hP : va_P D cl w H) (hD : va_D A w) (hS : va_S A s.heap H locs) (hdg : decode cc pc = .ok (.areturn, 1)) : W p l e R s m args below meth c H locs cells slots (MQ below (kQr D cl w v A) args s cells slots A) (F0 m pc ls [.ref v]) := by
  obtain ⟨hx, hb, hr, hml, hown, hts, hlocks⟩ := C
  exact W.aret (v := .ref v) hx hb hr hrt (Or.inr ⟨v, rfl⟩) (fun t ht hW => ⟨⟨(), v, rfl, trivial, rfl, by rw [ht]; exact hP, hD⟩, hS.F ht⟩) hS.2.2 hdg
end KR
def k_pk (w : va_W) (is : List Nat) : va_W := is.filterMap (fun i => w[i]?)
section KC
variable {p : Program} {l : Launch} {e : Env} {R : Room} {s : State} {m : MethodId} {args : Array Value} {below : List Frame} {meth : Method} {c : Code} {H : Heap} {locs : List Loc} {cells slots : Nat} {Q : State → Prop} {cc : ByteArray} {mL : Nat} {ret : Option FieldType} {own : String} {ws : List Cond} {D : va_G} {cl : List vw_C} {A : Nat → Prop} {pc : Nat} {ls : Array Slot}
variable {E : k_E} {w wc : va_W} {y : MethodName} {ws2 : List Cond} {rm2 : Room} {bytes : ByteArray} {maxL index n : Nat} {ret2 : Option FieldType} {As rest st0 : List Value} {Qc : (Nat → Prop) → Array Value → State → Outcome → State → Prop}
theorem kPreAt {av : List Value} (hEo : kEok E) (hE : E A s) (hA : ∀ q : Nat, s.heap.size ≤ q → A q) (hP : va_P D cl w H) (hD : va_D A w) (hS : va_S A s.heap H locs) (isC : List Nat) (hC : isC.map (fun i => w[i]?) = wc.map some) (hnd : va_nd isC = true) (hpk : isC.filterMap (fun i => w[i]?) = wc) :
    FrameBlind (kPre E D cl av wc H.size) ∧ ∀ U : State, U.heap = H → s.WarmedH U.vm → kPre E D cl av wc H.size av.toArray U := by
  refine ⟨fun a U g mk q => ?_, fun U hU hW => ?_⟩
  · obtain ⟨q0, q1, qP, qD, qE⟩ := q
    exact ⟨q0, q1, qP, qD, hEo.1 _ _ _ _ _ qE⟩
  · refine ⟨rfl, by rw [hU], by rw [hU]; exact hP.sub isC hpk, (hD.sub isC hnd hC).weaken (fun _ _ _ _ => trivial), ?_⟩
    exact hEo.2 A _ s U H locs hE hS (va_free hD hS hA isC hC) hU hW
theorem kRunV {b : Nat} {tys : List (ClassId × FieldType)} {T : u_T} {N : Nat} {Cn : String} {fs : List Value} (C : kx p s m args meth c cc mL ret own ws) (hEo : kEok E) (hE : E A s) (hA : ∀ q : Nat, s.heap.size ≤ q → A q) (hP : va_P D cl w H) (hD : va_D A w) (hS : va_S A s.heap H locs) (isC : List Nat) (hC : isC.map (fun i => w[i]?) = wc.map some) (hnd : va_nd isC = true) (hpk : isC.filterMap (fun i => w[i]?) = wc)
    (hM : KMet l y ws2 rm2 E D cl (.ref b :: As) wc Qc) (hK : va_K D cl tys s) (j ci : Nat) (hci : cl[ci]? = some (Cn, T, N)) (hj : wc[j]? = some (b, .inr (ci, fs))) (cw : CallW R s args own Cn index y bytes maxL ret2 ws2 rm2 0 0 n) (hn : As.length = n) (hsz : ls.size = mL) (hst : st0 = As.reverse ++ .ref b :: rest) (hroom : (rest.map fun v => v.category).sum ≤ 8) (hdg : decode cc pc = .ok (.invokevirtual index, 3)) (hf : cells ≤ R.cells ∧ slots ≤ R.slots) :
    va_Run p l e R s m args below meth c H locs cells slots 0 0 (F0 m pc ls st0) rest (Qc (va_A wc H.size) (Value.ref b :: As).toArray) (va_A wc H.size) := by
  obtain ⟨hx, hb, hr, hml, hown, hts, hlocks⟩ := C
  obtain ⟨h1, h2⟩ := kPreAt (av := .ref b :: As) hEo hE hA hP hD hS isC hC hnd hpk
  exact va_runV (g := F0 m pc ls st0) ⟨hx, hb, hml, hown, hts⟩ (hM H.size) cw ⟨h1, va_recv hK (hP.sub isC hpk) hci hj, h2⟩ rfl hn hsz hst (lv_room hroom) hdg hf
theorem kRunVN {b : Nat} {tys : List (ClassId × FieldType)} {T : u_T} {N : Nat} {Cn host : String} {fs : List Value} (C : kx p s m args meth c cc mL ret own ws) (hEo : kEok E) (hE : E A s) (hA : ∀ q : Nat, s.heap.size ≤ q → A q) (hP : va_P D cl w H) (hD : va_D A w) (hS : va_S A s.heap H locs) (isC : List Nat) (hC : isC.map (fun i => w[i]?) = wc.map some) (hnd : va_nd isC = true) (hpk : isC.filterMap (fun i => w[i]?) = wc)
    (hM : KMet l y ws2 rm2 E D cl (.ref b :: As) wc Qc) (hK : va_K D cl tys s) (j ci : Nat) (hci : cl[ci]? = some (Cn, T, N)) (hj : wc[j]? = some (b, .inr (ci, fs))) (cw : va_CN R s args own index y host bytes maxL ret2 ws2 rm2 0 0 n ∧ (Cond.instanceMethod y).before args s = true ∧ (Cond.selects Cn y y).before args s = true) (hn : As.length = n) (hsz : ls.size = mL) (hst : st0 = As.reverse ++ .ref b :: rest) (hroom : (rest.map fun v => v.category).sum ≤ 8) (hdg : decode cc pc = .ok (.invokevirtual index, 3)) (hf : cells ≤ R.cells ∧ slots ≤ R.slots) :
    va_Run p l e R s m args below meth c H locs cells slots 0 0 (F0 m pc ls st0) rest (Qc (va_A wc H.size) (Value.ref b :: As).toArray) (va_A wc H.size) := by
  obtain ⟨hx, hb, hr, hml, hown, hts, hlocks⟩ := C
  obtain ⟨h1, h2⟩ := kPreAt (av := .ref b :: As) hEo hE hA hP hD hS isC hC hnd hpk
  exact va_runVN (g := F0 m pc ls st0) ⟨hx, hb, hml, hown, hts⟩ (hM H.size) cw ⟨h1, va_recv hK (hP.sub isC hpk) hci hj, h2⟩ rfl hn hsz hst (lv_room hroom) hdg hf
theorem kRunS (C : kx p s m args meth c cc mL ret own ws) (hEo : kEok E) (hE : E A s) (hA : ∀ q : Nat, s.heap.size ≤ q → A q) (hP : va_P D cl w H) (hD : va_D A w) (hS : va_S A s.heap H locs) (isC : List Nat) (hC : isC.map (fun i => w[i]?) = wc.map some) (hnd : va_nd isC = true) (hpk : isC.filterMap (fun i => w[i]?) = wc)
    (hM : KMet l y ws2 rm2 E D cl As wc Qc) (cw : CallB R s args own index y bytes maxL ret2 ws2 rm2 0 0 n ∧ (Cond.static y).before args s = true) (hn : As.length = n) (hsz : ls.size = mL) (hst : st0 = As.reverse ++ rest) (hroom : (rest.map fun v => v.category).sum ≤ 8) (hdg : decode cc pc = .ok (.invokestatic index, 3)) (hf : cells ≤ R.cells ∧ slots ≤ R.slots) :
    va_Run p l e R s m args below meth c H locs cells slots 0 0 (F0 m pc ls st0) rest (Qc (va_A wc H.size) As.toArray) (va_A wc H.size) := by
  obtain ⟨hx, hb, hr, hml, hown, hts, hlocks⟩ := C
  exact va_runS (g := F0 m pc ls st0) ⟨hx, hb, hml, hown, hts⟩ (hM H.size) cw (kPreAt (av := As) hEo hE hA hP hD hS isC hC hnd hpk) rfl hn hsz hst (lv_room hroom) hdg hf
theorem kRunSN {host : String} (C : kx p s m args meth c cc mL ret own ws) (hEo : kEok E) (hE : E A s) (hA : ∀ q : Nat, s.heap.size ≤ q → A q) (hP : va_P D cl w H) (hD : va_D A w) (hS : va_S A s.heap H locs) (isC : List Nat) (hC : isC.map (fun i => w[i]?) = wc.map some) (hnd : va_nd isC = true) (hpk : isC.filterMap (fun i => w[i]?) = wc)
    (hM : KMet l y ws2 rm2 E D cl As wc Qc) (cw : va_CN R s args own index y host bytes maxL ret2 ws2 rm2 0 0 n ∧ (Cond.static y).before args s = true ∧ True) (hn : As.length = n) (hsz : ls.size = mL) (hst : st0 = As.reverse ++ rest) (hroom : (rest.map fun v => v.category).sum ≤ 8) (hdg : decode cc pc = .ok (.invokestatic index, 3)) (hf : cells ≤ R.cells ∧ slots ≤ R.slots) :
    va_Run p l e R s m args below meth c H locs cells slots 0 0 (F0 m pc ls st0) rest (Qc (va_A wc H.size) As.toArray) (va_A wc H.size) := by
  obtain ⟨hx, hb, hr, hml, hown, hts, hlocks⟩ := C
  exact va_runSN (g := F0 m pc ls st0) ⟨hx, hb, hml, hown, hts⟩ (hM H.size) cw (kPreAt (av := As) hEo hE hA hP hD hS isC hC hnd hpk) rfl hn hsz hst (lv_room hroom) hdg hf
theorem kJoin {wc' w' : va_W} {t : State} {H1 : Heap} (isC isR perm : List Nat) (hP : va_P D cl w H) (hD : va_D A w) (hS : va_S A s.heap H locs) (hA : ∀ q : Nat, s.heap.size ≤ q → A q) (hC : isC.map (fun i => w[i]?) = wc.map some) (hR : isR.map (fun i => w[i]?) = (k_pk w isR).map some) (hn : va_nd isR = true) (hdis : ∀ i ∈ isR, i ∉ isC) (hnp : va_nd perm = true) (hp1 : perm.map (fun i => (k_pk w isR ++ wc')[i]?) = w'.map some) (hp2 : perm.filterMap (fun i => (k_pk w isR ++ wc')[i]?) = w')
    (ht : t.heap = H1) (hB : va_P D cl wc' t.heap ∧ va_D (va_A wc H.size) wc') (hk : ∀ q : Nat, q < H.size → ¬ va_A wc H.size q → H1[q]? = H[q]?) : va_P D cl w' H1 ∧ va_D A w' := by
  obtain ⟨hP1, hD1⟩ := hB
  rw [ht] at hP1
  obtain ⟨a, b⟩ := va_join (wr := k_pk w isR) (w1 := wc') hP hD isC isR hC hR hn hdis hk (va_free hD hS hA isC hC) hP1 hD1
  exact ⟨a.sub perm hp2, b.sub perm hnp hp1⟩
theorem kCi {wc' w' : va_W} {r : Int32} {a : Array Value} (hP : va_P D cl w H) (hD : va_D A w) (hS : va_S A s.heap H locs) (hA : ∀ q : Nat, s.heap.size ≤ q → A q) (isC isR perm : List Nat)
    (hr : va_Run p l e R s m args below meth c H locs cells slots 0 0 (F0 m pc ls st0) rest (kQi D cl wc' r (va_A wc H.size) a) (va_A wc H.size))
    (hC : isC.map (fun i => w[i]?) = wc.map some) (hR : isR.map (fun i => w[i]?) = (k_pk w isR).map some) (hn : va_nd isR = true) (hdis : ∀ i ∈ isR, i ∉ isC) (hnp : va_nd perm = true) (hp1 : perm.map (fun i => (k_pk w isR ++ wc')[i]?) = w'.map some) (hp2 : perm.filterMap (fun i => (k_pk w isR ++ wc')[i]?) = w')
    (kk : ∀ (H1 : Heap) (locs1 : List Loc), va_P D cl w' H1 → va_D A w' → va_S A s.heap H1 locs1 → W p l e R s m args below meth c H1 locs1 cells slots Q (F0 m (pc + 3) ls (.int r :: rest))) : W p l e R s m args below meth c H locs cells slots Q (F0 m pc ls st0) := by
  have hF := va_free hD hS hA isC hC
  refine va_calli hr hS (fun q _ h => hF q h) hF (fun x u t H1 locs1 ht hvm hw hB hz hk hS1 => ?_)
  obtain ⟨h1, h2⟩ := kJoin isC isR perm hP hD hS hA hC hR hn hdis hnp hp1 hp2 ht hB hk
  subst hw
  exact kk H1 locs1 h1 h2 hS1
theorem kCl {wc' w' : va_W} {r : Int64} {a : Array Value} (hP : va_P D cl w H) (hD : va_D A w) (hS : va_S A s.heap H locs) (hA : ∀ q : Nat, s.heap.size ≤ q → A q) (isC isR perm : List Nat)
    (hr : va_Run p l e R s m args below meth c H locs cells slots 0 0 (F0 m pc ls st0) rest (kQl D cl wc' r (va_A wc H.size) a) (va_A wc H.size))
    (hC : isC.map (fun i => w[i]?) = wc.map some) (hR : isR.map (fun i => w[i]?) = (k_pk w isR).map some) (hn : va_nd isR = true) (hdis : ∀ i ∈ isR, i ∉ isC) (hnp : va_nd perm = true) (hp1 : perm.map (fun i => (k_pk w isR ++ wc')[i]?) = w'.map some) (hp2 : perm.filterMap (fun i => (k_pk w isR ++ wc')[i]?) = w')
    (kk : ∀ (H1 : Heap) (locs1 : List Loc), va_P D cl w' H1 → va_D A w' → va_S A s.heap H1 locs1 → W p l e R s m args below meth c H1 locs1 cells slots Q (F0 m (pc + 3) ls (.long r :: rest))) : W p l e R s m args below meth c H locs cells slots Q (F0 m pc ls st0) := by
  have hF := va_free hD hS hA isC hC
  refine va_calll hr hS (fun q _ h => hF q h) hF (fun x u t H1 locs1 ht hvm hw hB hz hk hS1 => ?_)
  obtain ⟨h1, h2⟩ := kJoin isC isR perm hP hD hS hA hC hR hn hdis hnp hp1 hp2 ht hB hk
  subst hw
  exact kk H1 locs1 h1 h2 hS1
theorem kCv {wc' w' : va_W} {a : Array Value} (hP : va_P D cl w H) (hD : va_D A w) (hS : va_S A s.heap H locs) (hA : ∀ q : Nat, s.heap.size ≤ q → A q) (isC isR perm : List Nat)
    (hr : va_Run p l e R s m args below meth c H locs cells slots 0 0 (F0 m pc ls st0) rest (kQv D cl wc' (va_A wc H.size) a) (va_A wc H.size))
    (hC : isC.map (fun i => w[i]?) = wc.map some) (hR : isR.map (fun i => w[i]?) = (k_pk w isR).map some) (hn : va_nd isR = true) (hdis : ∀ i ∈ isR, i ∉ isC) (hnp : va_nd perm = true) (hp1 : perm.map (fun i => (k_pk w isR ++ wc')[i]?) = w'.map some) (hp2 : perm.filterMap (fun i => (k_pk w isR ++ wc')[i]?) = w')
    (kk : ∀ (H1 : Heap) (locs1 : List Loc), va_P D cl w' H1 → va_D A w' → va_S A s.heap H1 locs1 → W p l e R s m args below meth c H1 locs1 cells slots Q (F0 m (pc + 3) ls rest)) : W p l e R s m args below meth c H locs cells slots Q (F0 m pc ls st0) := by
  have hF := va_free hD hS hA isC hC
  refine va_callv hr hS (fun q _ h => hF q h) hF (fun u t H1 locs1 ht hvm hw hB hz hk hS1 => ?_)
  obtain ⟨h1, h2⟩ := kJoin isC isR perm hP hD hS hA hC hR hn hdis hnp hp1 hp2 ht hB hk
  exact kk H1 locs1 h1 h2 hS1
theorem kCr {wc' w' : va_W} {r : Nat} {a : Array Value} (hP : va_P D cl w H) (hD : va_D A w) (hS : va_S A s.heap H locs) (hA : ∀ q : Nat, s.heap.size ≤ q → A q) (isC isR perm : List Nat)
    (hr : va_Run p l e R s m args below meth c H locs cells slots 0 0 (F0 m pc ls st0) rest (kQr D cl wc' r (va_A wc H.size) a) (va_A wc H.size))
    (hC : isC.map (fun i => w[i]?) = wc.map some) (hR : isR.map (fun i => w[i]?) = (k_pk w isR).map some) (hn : va_nd isR = true) (hdis : ∀ i ∈ isR, i ∉ isC) (hnp : va_nd perm = true) (hp1 : perm.map (fun i => (k_pk w isR ++ wc')[i]?) = w'.map some) (hp2 : perm.filterMap (fun i => (k_pk w isR ++ wc')[i]?) = w')
    (kk : ∀ (H1 : Heap) (locs1 : List Loc), va_P D cl w' H1 → va_D A w' → va_S A s.heap H1 locs1 → W p l e R s m args below meth c H1 locs1 cells slots Q (F0 m (pc + 3) ls (.ref r :: rest))) : W p l e R s m args below meth c H locs cells slots Q (F0 m pc ls st0) := by
  have hF := va_free hD hS hA isC hC
  refine va_callr hr hS (fun q _ h => hF q h) hF (fun u x t H1 locs1 ht hvm hw hB hz hk hS1 => ?_)
  obtain ⟨hxr, hB⟩ := hB
  obtain ⟨h1, h2⟩ := kJoin isC isR perm hP hD hS hA hC hR hn hdis hnp hp1 hp2 ht hB hk
  subst hxr
  exact kk H1 locs1 h1 h2 hS1
end KC
def kQn {S : Type} (D : va_G) (cl : List vw_C) (w' : S → va_W) (A : Nat → Prop) : Array Value → State → Outcome → State → Prop := va_Qv (fun (_ : S) => True) (fun u t => va_P D cl (w' u) t.heap ∧ va_D A (w' u)) A
def KMetN {S : Type} (l : Launch) (y : MethodName) (ws : List Cond) (rm : Room) (mc ms : Nat) (E : k_E) (D : va_G) (cl : List vw_C) (av : List Value) (w : va_W) (w' : S → va_W) : Prop :=
  ∀ sz : Nat, Met l y ws rm (kPre E D cl av w sz) (kQn D cl w' (va_A w sz)) mc ms (va_A w sz)
theorem kMetN {S : Type} {l : Launch} {y : MethodName} {ws ws' : List Cond} {rm : Room} {mc ms : Nat} {cc : ByteArray} {mL : Nat} {ret : Option FieldType} {D : va_G} {cl : List vw_C} {E : k_E} {av : List Value} {w : va_W} {w' : S → va_W}
    {own : String} (hy : plainName y.cls = true) (ho : y.cls = own) (hw : ws = Cond.code y cc mL ret :: ws') (hn : (lg_sl av).length ≤ mL)
    (body : ∀ (p : Program) (e : Env) (s : State) (m : MethodId) (below : List Frame) (meth : Method) (c : Code) (A : Nat → Prop), kx p s m av.toArray meth c cc mL ret own ws → meth.name = y.name → E A s → (∀ q : Nat, s.heap.size ≤ q → A q) → va_P D cl w s.heap → va_D A w → ∀ ls : Array Slot, lv_has ls mL (lv_args 0 av) →
      W p l e rm s m av.toArray below meth c s.heap [] 0 0 (MQ below (kQn D cl w' A) av.toArray s mc ms A) (F0 m 0 ls [])) :
    KMetN l y ws rm mc ms E D cl av w w' := by
  intro sz
  refine Met.ofW (cc := cc) (maxL := mL) (ret := ret) hy hw ?_
  intro p e s m args below meth c s₁ B hml hv
  obtain ⟨rfl, hsz, hP, hD0, hE⟩ := hv
  subst hsz
  have hown : s.vm.findClass own = some m.cls := by rw [← ho]; exact findClass_of_methodNamed B.named
  have hl := lv_entry av (n := mL) hn
  rw [lg_entry_eq]
  exact body p e s m below meth c _ ⟨B.exec, B.bytes, B.returns, hml, hown, atoms_spec (ws := ws) B.pre, B.notSynchronized⟩ (name_of_methodNamed B.named B.method).1 hE (fun q h => Or.inr h) hP (hD0.self) _ hl
section KN
variable {p : Program} {l : Launch} {e : Env} {R : Room} {s : State} {m : MethodId} {args : Array Value} {below : List Frame} {meth : Method} {c : Code} {H : Heap} {locs : List Loc} {cells slots mc ms : Nat} {Q : State → Prop} {cc : ByteArray} {mL : Nat} {ret : Option FieldType} {own : String} {ws : List Cond} {D : va_G} {cl : List vw_C} {A : Nat → Prop} {pc : Nat} {ls : Array Slot}
variable {E : k_E} {w wc : va_W} {y : MethodName} {ws2 : List Cond} {rm2 : Room} {bytes : ByteArray} {maxL index n : Nat} {As rest st0 : List Value}
theorem kRet_n {S : Type} {w' : S → va_W} (u : S) (C : kx p s m args meth c cc mL none own ws) (hP : va_P D cl (w' u) H) (hD : va_D A (w' u)) (hS : va_S A s.heap H locs) (hdg : decode cc pc = .ok (.return_, 1)) : W p l e R s m args below meth c H locs cells slots (MQ below (kQn D cl w' A) args s cells slots A) (F0 m pc ls []) := by
  obtain ⟨hx, hb, hr, hml, hown, hts, hlocks⟩ := C
  exact W.vret hx hb hr (fun t ht hW => ⟨⟨u, rfl, trivial, by rw [ht]; exact hP, hD⟩, hS.F ht⟩) hS.2.2 hdg
theorem kRunI {S : Type} {w' : S → va_W} {b : Nat} (C : kx p s m args meth c cc mL ret own ws) (hEo : kEok E) (hE : E A s) (hA : ∀ q : Nat, s.heap.size ≤ q → A q) (hP : va_P D cl w H) (hD : va_D A w) (hS : va_S A s.heap H locs) (isC : List Nat) (hC : isC.map (fun i => w[i]?) = wc.map some) (hnd : va_nd isC = true) (hpk : isC.filterMap (fun i => w[i]?) = wc)
    (hM : KMetN l y ws2 rm2 mc ms E D cl (.ref b :: As) wc w') (cw : CallB R s args own index y bytes maxL none ws2 rm2 mc ms n ∧ y.name = "<init>" ∧ (Cond.instanceMethod y).before args s = true) (hn : As.length = n) (hsz : ls.size = mL) (hst : st0 = As.reverse ++ .ref b :: rest) (hroom : (rest.map fun v => v.category).sum ≤ 8) (hdg : decode cc pc = .ok (.invokespecial index, 3)) (hf : cells + mc ≤ R.cells ∧ slots + ms ≤ R.slots) :
    va_Run p l e R s m args below meth c H locs cells slots mc ms (F0 m pc ls st0) rest (kQn D cl w' (va_A wc H.size) (Value.ref b :: As).toArray) (va_A wc H.size) := by
  obtain ⟨hx, hb, hr, hml, hown, hts, hlocks⟩ := C
  exact va_runI (g := F0 m pc ls st0) ⟨hx, hb, hml, hown, hts⟩ (hM H.size) cw (kPreAt (av := .ref b :: As) hEo hE hA hP hD hS isC hC hnd hpk) rfl hn hsz hst (lv_room hroom) hdg hf
theorem kRunIN {S : Type} {w' : S → va_W} {b : Nat} {host : String} (C : kx p s m args meth c cc mL ret own ws) (hEo : kEok E) (hE : E A s) (hA : ∀ q : Nat, s.heap.size ≤ q → A q) (hP : va_P D cl w H) (hD : va_D A w) (hS : va_S A s.heap H locs) (isC : List Nat) (hC : isC.map (fun i => w[i]?) = wc.map some) (hnd : va_nd isC = true) (hpk : isC.filterMap (fun i => w[i]?) = wc)
    (hM : KMetN l y ws2 rm2 mc ms E D cl (.ref b :: As) wc w') (cw : va_CN R s args own index y host bytes maxL none ws2 rm2 mc ms n ∧ y.name = "<init>" ∧ (Cond.instanceMethod y).before args s = true) (hn : As.length = n) (hsz : ls.size = mL) (hst : st0 = As.reverse ++ .ref b :: rest) (hroom : (rest.map fun v => v.category).sum ≤ 8) (hdg : decode cc pc = .ok (.invokespecial index, 3)) (hf : cells + mc ≤ R.cells ∧ slots + ms ≤ R.slots) :
    va_Run p l e R s m args below meth c H locs cells slots mc ms (F0 m pc ls st0) rest (kQn D cl w' (va_A wc H.size) (Value.ref b :: As).toArray) (va_A wc H.size) := by
  obtain ⟨hx, hb, hr, hml, hown, hts, hlocks⟩ := C
  exact va_runIN (g := F0 m pc ls st0) ⟨hx, hb, hml, hown, hts⟩ (hM H.size) cw (kPreAt (av := .ref b :: As) hEo hE hA hP hD hS isC hC hnd hpk) rfl hn hsz hst (lv_room hroom) hdg hf
theorem kCn {S : Type} {wc' w' : S → va_W} {a : Array Value} (hP : va_P D cl w H) (hD : va_D A w) (hS : va_S A s.heap H locs) (hA : ∀ q : Nat, s.heap.size ≤ q → A q) (isC isR perm : List Nat)
    (hr : va_Run p l e R s m args below meth c H locs cells slots mc ms (F0 m pc ls st0) rest (kQn D cl wc' (va_A wc H.size) a) (va_A wc H.size))
    (hC : isC.map (fun i => w[i]?) = wc.map some) (hR : isR.map (fun i => w[i]?) = (k_pk w isR).map some) (hn : va_nd isR = true) (hdis : ∀ i ∈ isR, i ∉ isC) (hnp : va_nd perm = true) (hp1 : ∀ u : S, perm.map (fun i => (k_pk w isR ++ wc' u)[i]?) = (w' u).map some) (hp2 : ∀ u : S, perm.filterMap (fun i => (k_pk w isR ++ wc' u)[i]?) = w' u)
    (kk : ∀ (u : S) (H1 : Heap) (locs1 : List Loc), va_P D cl (w' u) H1 → va_D A (w' u) → va_S A s.heap H1 locs1 → W p l e R s m args below meth c H1 locs1 (cells + mc) (slots + ms) Q (F0 m (pc + 3) ls rest)) : W p l e R s m args below meth c H locs cells slots Q (F0 m pc ls st0) := by
  have hF := va_free hD hS hA isC hC
  refine va_callv hr hS (fun q _ h => hF q h) hF (fun u t H1 locs1 ht hvm hw hB hz hk hS1 => ?_)
  obtain ⟨h1, h2⟩ := kJoin isC isR perm hP hD hS hA hC hR hn hdis hnp (hp1 u) (hp2 u) ht hB hk
  exact kk u H1 locs1 h1 h2 hS1
theorem k_newa {H0 : Heap} {tys : List (ClassId × FieldType)} (hexec : p.tables.exec = Jvm.exec) (hb : c.code = cc) {atype : ArrayType} (harr : (Cond.arrayClass (newarray.typeOf atype)).before args s = true) {ty : FieldType} (hty : newarray.typeOf atype = ty) (hK : va_K D cl tys s) (t0 : Nat) {c0 : ClassId} (ht0 : tys[t0]? = some (c0, ty)) (hra : ∀ cA : ClassId, va_RA s cA ty → va_RA s c0 ty → cA = c0) (hP : va_P D cl w H) (hD : va_D A w) (hS : va_S A H0 H locs) (hA : ∀ q, H0.size ≤ q → A q)
    {k : Int32} {N' : Nat} {a0 : vp_A} (ha : ∀ cA : ClassId, vp_cell cA a0 = arrV cA N' (fun _ => defaultValue ty)) (hn : ¬ k < 0) (hN : k.toNatClampNeg = N') (hbytes : N' * componentBytes ty ≤ 536870912) (hcells : cells + 1 ≤ R.cells) (hslots : slots + N' ≤ R.slots) (hdg : decode cc pc = .ok (.newarray atype, 2))
    (kk : ∀ (q : Nat) (H1 : Heap), va_P D cl (w ++ [(q, .inl (c0, a0))]) H1 → va_D A (w ++ [(q, .inl (c0, a0))]) → va_S A H0 H1 locs → W p l e R s m args below meth c H1 locs (cells + 1) (slots + N') Q (F0 m (pc + 2) ls (.ref q :: rest))) : W p l e R s m args below meth c H locs cells slots Q (F0 m pc ls (.int k :: rest)) := by
  refine va_newa hexec hb harr hty hK hP hD hS hA ha hn hN hbytes hcells hslots hdg (fun q cA H1 hK1 hP1 hD1 hS1 => ?_)
  have e : cA = c0 := hra cA (hK1.2 tys.length (cA, ty) (by simp)).2 (hK.2 t0 (c0, ty) ht0).2
  subst e
  exact kk q H1 hP1 hD1 hS1
end KN
theorem k_good : ∀ w ∈ k_tbl, goodWord w = true := fun _ h => (List.mem_filter.mp h).2
theorem gC {y : MethodName} {b : ByteArray} {n : Nat} {r : Option FieldType} (hc : Cond.code y b n r ∈ k_tbl) : GoodIn k_tbl (.code y b n r :: k_tbl) := fun w h => (List.mem_cons.mp h).elim (fun e => e ▸ ⟨hc, good_of_word (k_good _ hc)⟩) (fun h => ⟨h, good_of_word (k_good _ h)⟩)
theorem gApp {a b : List Cond} (ha : ∀ w ∈ a, w ∈ k_tbl) (hb : GoodIn k_tbl b) : GoodIn k_tbl (a ++ b) := fun w h => (List.mem_append.mp h).elim (fun h => ⟨ha w h, good_of_word (k_good w (ha w h))⟩) (hb w)
theorem gV {own C : String} {idx : Nat} {y : MethodName} {b : ByteArray} {n : Nat} {r : Option FieldType} (h1 : Cond.methodLink own idx y ∈ k_tbl) (h2 : Cond.instanceMethod y ∈ k_tbl) (h3 : Cond.selects C y y ∈ k_tbl) (h4 : Cond.initialized C ∈ k_tbl) (hc : Cond.code y b n r ∈ k_tbl) : GoodIn k_tbl (wsV own idx C y (.code y b n r :: k_tbl)) :=
  gApp (fun w h => by
    rcases List.mem_cons.mp h with e | h
    · exact e ▸ h1
    rcases List.mem_cons.mp h with e | h
    · exact e ▸ h2
    rcases List.mem_cons.mp h with e | h
    · exact e ▸ h3
    rcases List.mem_cons.mp h with e | h
    · exact e ▸ h4
    · cases h) (gC hc)
theorem gS {own : String} {idx : Nat} {y : MethodName} {b : ByteArray} {n : Nat} {r : Option FieldType} (h1 : Cond.methodLink own idx y ∈ k_tbl) (h2 : Cond.static y ∈ k_tbl) (h3 : Cond.initialized y.cls ∈ k_tbl) (hc : Cond.code y b n r ∈ k_tbl) : GoodIn k_tbl (va_wsS own idx y (.code y b n r :: k_tbl)) :=
  gApp (fun w h => by
    rcases List.mem_cons.mp h with e | h
    · exact e ▸ h1
    rcases List.mem_cons.mp h with e | h
    · exact e ▸ h2
    rcases List.mem_cons.mp h with e | h
    · exact e ▸ h3
    · cases h) (gC hc)
def k_nest : Cond → Bool
  | .fieldLinkNest .. => true
  | .methodLinkNest .. => true
  | _ => false
theorem k_nest_tab {w : Cond} (h : k_nest w = true) : w.onTables = true := by
  cases w <;> first | rfl | (simp [k_nest] at h; done)
theorem k_nest_warm {w : Cond} (h : k_nest w = true) {s U : State} (hW : s.WarmedH U.vm) (hZ : va_Nw w s) : va_Nw w U := by
  cases w <;> first | exact va_Nw.warmF hW hZ | exact va_Nw.warmM hW hZ | (simp [k_nest] at h; done)
def ev (D : va_G) (cB cI cL : ClassId) : k_E := fun _ U => va_K D vwCl [(cB, .byte), (cI, .int), (cL, .long)] U ∧ (U.vm.findClass ("[" ++ FieldType.byte.toString) = some cB ∧ U.vm.findClass ("[" ++ FieldType.int.toString) = some cI ∧ U.vm.findClass ("[" ++ FieldType.long.toString) = some cL) ∧ ∀ w ∈ lw_tbl, k_nest w = true → va_Nw w U
theorem ev_ok {D : va_G} {cB cI cL : ClassId} : kEok (ev D cB cI cL) := by
  refine ⟨fun A U g mk a h => ⟨va_K.moved (u := U) (U := U.calling g mk a) (Vm.Alike.refl U.vm) h.1, h.2.1, fun w hw hn => va_Nw.same (u := U) (U := U.calling g mk a) (k_nest_tab hn) rfl (h.2.2 w hw hn)⟩, fun A B s U H locs h _ _ _ hW => ⟨va_K.moved hW.alike h.1, ?_, fun w hw hn => k_nest_warm hn hW (h.2.2 w hw hn)⟩⟩
  have e := hW.alike
  exact ⟨by rw [e.findClass]; exact h.2.1.1, by rw [e.findClass]; exact h.2.1.2.1, by rw [e.findClass]; exact h.2.1.2.2⟩
