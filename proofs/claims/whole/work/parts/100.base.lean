/-! the words of the walks: loops by fuel, bounds, and one lemma a kind of step -/
def lpg {F : Type} (bot : F) (step : F → F) : Nat → F
  | 0 => bot
  | n + 1 => step (lpg bot step n)
def gin (i : Int32) (n : Nat) : Bool := decide (0 ≤ i) && decide (i.toNatClampNeg < n)
theorem gin_in {i : Int32} {n : Nat} (h : gin i n = true) : vp_in i n := by
  unfold gin at h
  rw [Bool.and_eq_true, decide_eq_true_iff, decide_eq_true_iff] at h
  intro h2
  rcases h2 with h2 | h2
  · exact absurd h.1 (Int32.not_le.mpr h2)
  · exact absurd h.2 (Nat.not_lt.mpr h2)
theorem gi_t {α : Type} {c : Prop} {i : Decidable c} {a b x : α} (h : c) (e : @ite α c i a b = x) : a = x := by rw [if_pos h] at e; exact e
theorem gi_f {α : Type} {c : Prop} {i : Decidable c} {a b x : α} (h : ¬ c) (e : @ite α c i a b = x) : b = x := by rw [if_neg h] at e; exact e
theorem gi_in {α : Type} {i : Int32} {n : Nat} {a : Option α} {x : α} (e : (if gin i n = true then a else none) = some x) : vp_in i n ∧ a = some x := by
  by_cases h : gin i n = true
  · rw [if_pos h] at e; exact ⟨gin_in h, e⟩
  · rw [if_neg h] at e; cases e
theorem gi_nz {α : Type} {y : Int32} {a : Option α} {x : α} (e : (if y = 0 then none else a) = some x) : ¬ y = 0 ∧ a = some x := by
  by_cases h : y = 0
  · rw [if_pos h] at e; cases e
  · rw [if_neg h] at e; exact ⟨h, e⟩
theorem gi_bool {α : Type} {v : Int32} {a : Option α} {x : α} (e : (if v &&& 1 = v then a else none) = some x) : v &&& 1 = v ∧ a = some x := by
  by_cases h : v &&& 1 = v
  · rw [if_pos h] at e; exact ⟨h, e⟩
  · rw [if_neg h] at e; cases e
theorem gi_bind {α β : Type} {o : Option α} {f : α → Option β} {x : β} (e : o.bind f = some x) : ∃ z, o = some z ∧ f z = some x := by
  cases o with
  | none => cases e
  | some z => exact ⟨z, rfl, e⟩
theorem gfm {α : Type} {f : Nat → Option α} : ∀ (is : List Nat) (wc : List α), is.map f = wc.map some → is.filterMap f = wc
  | [], [], _ => rfl
  | [], _ :: _, h => by cases h
  | _ :: _, [], h => by cases h
  | i :: is, w :: wc, h => by
    simp only [List.map_cons, List.cons.injEq] at h
    rw [List.filterMap_cons, h.1]
    exact congrArg (w :: ·) (gfm is wc h.2)
def nstF : List (String × Nat × String × String × String × String) := [(RX9, 65, "DustSums$Text", "length", "I", "DustSums"), (RX3, 69, "DustSums$Text", "length", "I", "DustSums"), (RX4, 69, "DustSums$Program", "cells", "[I", "DustSums"), (RX4, 74, "DustSums$Program", "items", "I", "DustSums"), (RX8, 42, "DustSums$Program", "items", "I", "DustSums"), (RX3, 60, "DustSums$Program", "items", "I", "DustSums"), (RX9, 88, "DustSums$Program", "items", "I", "DustSums"), (RX3, 63, "DustSums$Program", "inputs", "I", "DustSums"), (RX6, 62, "DustSums$Program", "inputs", "I", "DustSums"), (RX9, 108, "DustSums$Program", "inputs", "I", "DustSums"), (RX8, 28, "DustSums$Program", "muls", "I", "DustSums"), (RX3, 66, "DustSums$Program", "muls", "I", "DustSums"), (RX9, 194, "DustSums$Program", "muls", "I", "DustSums"), (RX4, 65, "DustSums$Task", "program", "LDustSums$Program;", "DustSums"), (RX9, 85, "DustSums$Task", "program", "LDustSums$Program;", "DustSums"), (RX5, 65, "DustSums$Task", "program", "LDustSums$Program;", "DustSums"), (RX9, 111, "DustSums$Task", "inputs", "[I", "DustSums"), (RX4, 33, "DustSums$Task", "lots", "[I", "DustSums"), (RX9, 118, "DustSums$Task", "lots", "[I", "DustSums"), (RX4, 38, "DustSums$Task", "lies", "[I", "DustSums"), (RX9, 124, "DustSums$Task", "lieCount", "I", "DustSums"), (RX4, 49, "DustSums$Task", "modulus", "I", "DustSums"), (RX9, 105, "DustSums$Task", "modulus", "I", "DustSums"), (RX5, 81, "DustSums$Task", "modulus", "I", "DustSums"), (RX9, 77, "DustSums$Reader", "draft", "LDustSums$Program;", "DustSums"), (RX9, 142, "DustSums$Run", "shown", "[I", "DustSums"), (RX9, 155, "DustSums$Run", "view", "[I", "DustSums"), (RX9, 152, "DustSums$Run", "views", "I", "DustSums"), (RX5, 61, "DustSums$Run", "viewAsNumber", "I", "DustSums"), (RX9, 187, "DustSums$Trades", "prices", "[I", "DustSums"), (RX9, 228, "DustSums$Curve", "bends", "[I", "DustSums"), (RX9, 213, "DustSums$Curve", "degree", "I", "DustSums"), (RX9, 219, "DustSums$Curve", "points", "I", "DustSums"), (RX9, 249, "DustSums$Months", "now", "I", "DustSums"), (RX9, 256, "DustSums$Months", "taken", "I", "DustSums"), (RX9, 263, "DustSums$Months", "secretIsOut", "Z", "DustSums"), (RX9, 172, "DustSums$Spy", "unlike", "I", "DustSums")]
def nstM : List (String × Nat × MethodName × String) := [(RX9, 9, yX7_init, "DustSums"), (RX6, 11, yX2_init, "DustSums"), (RX2, 22, yX9_at, "DustSums"), (RX2, 43, yX9_put, "DustSums"), (RX9, 25, yX3_init, "DustSums"), (RX3, 11, yX2_init, "DustSums"), (RX9, 32, yX4_init, "DustSums"), (RX9, 39, yX8_init, "DustSums"), (RX9, 46, yX0_init, "DustSums"), (RX9, 53, yX1_init, "DustSums"), (RX9, 60, yX5_init, "DustSums"), (RX3, 90, yX9_within, "DustSums"), (RX6, 40, yX9_wipe, "DustSums"), (RX6, 47, yX9_at, "DustSums"), (RX6, 51, yX9_put, "DustSums"), (RX6, 58, yX9_mod, "DustSums"), (RX4, 114, yX9_at, "DustSums"), (RX4, 118, yX9_mod, "DustSums"), (RX4, 121, yX9_put, "DustSums"), (RX5, 25, yX9_wipe, "DustSums"), (RX5, 77, yX9_at, "DustSums"), (RX5, 84, yX9_mod, "DustSums"), (RX5, 88, yX9_put, "DustSums"), (RX8, 24, yX9_at, "DustSums"), (RX8, 53, yX9_put, "DustSums"), (RX0, 28, yX9_within, "DustSums"), (RX0, 45, yX9_wipe, "DustSums"), (RX0, 49, yX9_at, "DustSums"), (RX0, 53, yX9_mod, "DustSums"), (RX0, 61, yX9_put, "DustSums")]
def Nst (U : State) : Prop := (∀ q ∈ nstF, va_Nw (.fieldLinkNest q.1 q.2.1 q.2.2.1 q.2.2.2.1 q.2.2.2.2.1 q.2.2.2.2.2) U) ∧ ∀ q ∈ nstM, va_Nw (.methodLinkNest q.1 q.2.1 q.2.2.1 q.2.2.2) U
theorem Nst.moved {s U : State} (hW : s.WarmedH U.vm) (h : Nst s) : Nst U := ⟨fun q hq => va_Nw.warmF hW (h.1 q hq), fun q hq => va_Nw.warmM hW (h.2 q hq)⟩
theorem Nst.same {u U : State} (hv : u.vm = U.vm) (h : Nst u) : Nst U := ⟨fun q hq => va_Nw.same rfl hv (h.1 q hq), fun q hq => va_Nw.same rfl hv (h.2 q hq)⟩
/-- a contract's start: the world w, the arrays' classes tys, the nest's words -/
def gP (D : va_G) (w : va_W) (tys : List (ClassId × FieldType)) (sz : Nat) (U : State) : Prop := U.heap.size = sz ∧ va_P D vwCl w U.heap ∧ va_K D vwCl tys U ∧ va_D (fun _ => True) w ∧ Nst U
/-- a contract's end: the world w1 in the cells of w -/
def gQ (D : va_G) (w w1 : va_W) (sz : Nat) (t : State) : Prop := va_P D vwCl w1 t.heap ∧ va_D (va_A w sz) w1
def gMv (l : Launch) (y : MethodName) (ws : List Cond) (rm : Room) (av : List Value) (D : va_G) (w : va_W) (tys : List (ClassId × FieldType)) (sz : Nat) (w1 : va_W) : Prop := Met l y ws rm (va_Pc av (gP D w tys sz)) (va_Qv (fun _ : Unit => True) (fun _ t => gQ D w w1 sz t) (va_A w sz)) 0 0 (va_A w sz)
def gMi (l : Launch) (y : MethodName) (ws : List Cond) (rm : Room) (av : List Value) (D : va_G) (w : va_W) (tys : List (ClassId × FieldType)) (sz : Nat) (w1 : va_W) (rv : Int32) : Prop := Met l y ws rm (va_Pc av (gP D w tys sz)) (va_Qi (fun r (_ : Unit) => r = rv) (fun _ t => gQ D w w1 sz t) (va_A w sz)) 0 0 (va_A w sz)
def gMl (l : Launch) (y : MethodName) (ws : List Cond) (rm : Room) (av : List Value) (D : va_G) (w : va_W) (tys : List (ClassId × FieldType)) (sz : Nat) (w1 : va_W) (rv : Int64) : Prop := Met l y ws rm (va_Pc av (gP D w tys sz)) (va_Ql (fun r (_ : Unit) => r = rv) (fun _ t => gQ D w w1 sz t) (va_A w sz)) 0 0 (va_A w sz)
theorem gP.blind (D : va_G) (w : va_W) (tys : List (ClassId × FieldType)) (sz : Nat) (av : List Value) : FrameBlind (va_Pc av (gP D w tys sz)) := fun a U g mk q => ⟨q.1, q.2.1, q.2.2.1, va_K.moved (u := U) (U := U.calling g mk a) (Vm.Alike.refl U.vm) q.2.2.2.1, q.2.2.2.2.1, Nst.same (u := U) (U := U.calling g mk a) rfl q.2.2.2.2.2⟩
section GE
variable {l : Launch} {y : MethodName} {ws ws' : List Cond} {rm : Room} {av : List Value} {D : va_G} {w w1 : va_W} {tys : List (ClassId × FieldType)} {sz : Nat} {cc : ByteArray} {maxL : Nat}
theorem gEi {rv : Int32} (hy : plainName y.cls = true) (hw : ws = Cond.code y cc maxL (some .int) :: ws') (hlen : (lg_sl av).length ≤ maxL)
    (body : ∀ (p : Program) (e : Env) (s : State) (m : MethodId) (args : Array Value) (below : List Frame) (meth : Method) (c : Code) (Q : State → Prop) (A : Nat → Prop) (ls : Array Slot), CallFix p m c cc maxL s args ws y.cls → va_K D vwCl tys s → Nst s → (∀ q, s.heap.size ≤ q → A q) →
      (∀ (H : Heap) (locs : List Loc) (pc : Nat) (ls : Array Slot), decode cc pc = .ok (.ireturn, 1) → va_P D vwCl w1 H → va_D A w1 → va_S A s.heap H locs → W p l e rm s m args below meth c H locs 0 0 Q (F0 m pc ls [.int rv])) →
      va_P D vwCl w s.heap → va_D A w → va_S A s.heap s.heap [] → lv_has ls maxL (lv_args 0 av) → W p l e rm s m args below meth c s.heap [] 0 0 Q (F0 m 0 ls [])) : gMi l y ws rm av D w tys sz w1 rv := by
  refine Met.ofW (cc := cc) (maxL := maxL) (ret := some .int) hy hw ?_
  intro p e s m args below meth c s₁ B hml hv
  obtain ⟨hav, hsz, hP, hK, hD0, hN⟩ := hv
  have hx := B.exec
  have hb := B.bytes
  have hr := B.returns
  have hts := atoms_spec (ws := ws) B.pre
  have hown := findClass_of_methodNamed B.named
  have hlocks := B.notSynchronized
  subst hsz
  have hE : entryFrame m args maxL = F0 m 0 ((lg_sl av ++ List.replicate (maxL - (lg_sl av).length) Slot.unset).toArray) [] := by rw [hav]; exact lg_entry_eq m av maxL
  rw [hE]
  exact body p e s m args below meth c _ (va_A w s.heap.size) _ ⟨hx, hb, hml, hown, hts⟩ hK hN (fun q h => Or.inr h) (fun H locs pc ls hdg hP1 hD1 hS1 => W.iret (v := rv) hx hb hr (fun t ht hW => ⟨⟨rv, (), rfl, rfl, by rw [ht]; exact hP1, hD1⟩, hS1.F ht⟩) hS1.2.2 hdg) hP hD0.self va_S.rf (lv_entry av hlen)
theorem gEz {rv : Int32} (hy : plainName y.cls = true) (hw : ws = Cond.code y cc maxL (some .boolean) :: ws') (hlen : (lg_sl av).length ≤ maxL)
    (body : ∀ (p : Program) (e : Env) (s : State) (m : MethodId) (args : Array Value) (below : List Frame) (meth : Method) (c : Code) (Q : State → Prop) (A : Nat → Prop) (ls : Array Slot), CallFix p m c cc maxL s args ws y.cls → va_K D vwCl tys s → Nst s → (∀ q, s.heap.size ≤ q → A q) →
      (rv &&& 1 = rv → ∀ (H : Heap) (locs : List Loc) (pc : Nat) (ls : Array Slot), decode cc pc = .ok (.ireturn, 1) → va_P D vwCl w1 H → va_D A w1 → va_S A s.heap H locs → W p l e rm s m args below meth c H locs 0 0 Q (F0 m pc ls [.int rv])) →
      va_P D vwCl w s.heap → va_D A w → va_S A s.heap s.heap [] → lv_has ls maxL (lv_args 0 av) → W p l e rm s m args below meth c s.heap [] 0 0 Q (F0 m 0 ls [])) : gMi l y ws rm av D w tys sz w1 rv := by
  refine Met.ofW (cc := cc) (maxL := maxL) (ret := some .boolean) hy hw ?_
  intro p e s m args below meth c s₁ B hml hv
  obtain ⟨hav, hsz, hP, hK, hD0, hN⟩ := hv
  have hx := B.exec
  have hb := B.bytes
  have hr := B.returns
  have hts := atoms_spec (ws := ws) B.pre
  have hown := findClass_of_methodNamed B.named
  have hlocks := B.notSynchronized
  subst hsz
  have hE : entryFrame m args maxL = F0 m 0 ((lg_sl av ++ List.replicate (maxL - (lg_sl av).length) Slot.unset).toArray) [] := by rw [hav]; exact lg_entry_eq m av maxL
  rw [hE]
  exact body p e s m args below meth c _ (va_A w s.heap.size) _ ⟨hx, hb, hml, hown, hts⟩ hK hN (fun q h => Or.inr h) (fun hz H locs pc ls hdg hP1 hD1 hS1 => W.zret (v := rv) hx hb hr (show Value.int (rv &&& 1) = .int rv by rw [hz]) (fun t ht hW => ⟨⟨rv, (), rfl, rfl, by rw [ht]; exact hP1, hD1⟩, hS1.F ht⟩) hS1.2.2 hdg) hP hD0.self va_S.rf (lv_entry av hlen)
theorem gEl {rv : Int64} (hy : plainName y.cls = true) (hw : ws = Cond.code y cc maxL (some .long) :: ws') (hlen : (lg_sl av).length ≤ maxL)
    (body : ∀ (p : Program) (e : Env) (s : State) (m : MethodId) (args : Array Value) (below : List Frame) (meth : Method) (c : Code) (Q : State → Prop) (A : Nat → Prop) (ls : Array Slot), CallFix p m c cc maxL s args ws y.cls → va_K D vwCl tys s → Nst s → (∀ q, s.heap.size ≤ q → A q) →
      (∀ (H : Heap) (locs : List Loc) (pc : Nat) (ls : Array Slot), decode cc pc = .ok (.lreturn, 1) → va_P D vwCl w1 H → va_D A w1 → va_S A s.heap H locs → W p l e rm s m args below meth c H locs 0 0 Q (F0 m pc ls [.long rv])) →
      va_P D vwCl w s.heap → va_D A w → va_S A s.heap s.heap [] → lv_has ls maxL (lv_args 0 av) → W p l e rm s m args below meth c s.heap [] 0 0 Q (F0 m 0 ls [])) : gMl l y ws rm av D w tys sz w1 rv := by
  refine Met.ofW (cc := cc) (maxL := maxL) (ret := some .long) hy hw ?_
  intro p e s m args below meth c s₁ B hml hv
  obtain ⟨hav, hsz, hP, hK, hD0, hN⟩ := hv
  have hx := B.exec
  have hb := B.bytes
  have hr := B.returns
  have hts := atoms_spec (ws := ws) B.pre
  have hown := findClass_of_methodNamed B.named
  have hlocks := B.notSynchronized
  subst hsz
  have hE : entryFrame m args maxL = F0 m 0 ((lg_sl av ++ List.replicate (maxL - (lg_sl av).length) Slot.unset).toArray) [] := by rw [hav]; exact lg_entry_eq m av maxL
  rw [hE]
  exact body p e s m args below meth c _ (va_A w s.heap.size) _ ⟨hx, hb, hml, hown, hts⟩ hK hN (fun q h => Or.inr h) (fun H locs pc ls hdg hP1 hD1 hS1 => W.lret (v := rv) hx hb hr (fun t ht hW => ⟨⟨rv, (), rfl, rfl, by rw [ht]; exact hP1, hD1⟩, hS1.F ht⟩) hS1.2.2 hdg) hP hD0.self va_S.rf (lv_entry av hlen)
theorem gEv (hy : plainName y.cls = true) (hw : ws = Cond.code y cc maxL none :: ws') (hlen : (lg_sl av).length ≤ maxL)
    (body : ∀ (p : Program) (e : Env) (s : State) (m : MethodId) (args : Array Value) (below : List Frame) (meth : Method) (c : Code) (Q : State → Prop) (A : Nat → Prop) (ls : Array Slot), CallFix p m c cc maxL s args ws y.cls → va_K D vwCl tys s → Nst s → (∀ q, s.heap.size ≤ q → A q) →
      (∀ (H : Heap) (locs : List Loc) (pc : Nat) (ls : Array Slot), decode cc pc = .ok (.return_, 1) → va_P D vwCl w1 H → va_D A w1 → va_S A s.heap H locs → W p l e rm s m args below meth c H locs 0 0 Q (F0 m pc ls [])) →
      va_P D vwCl w s.heap → va_D A w → va_S A s.heap s.heap [] → lv_has ls maxL (lv_args 0 av) → W p l e rm s m args below meth c s.heap [] 0 0 Q (F0 m 0 ls [])) : gMv l y ws rm av D w tys sz w1 := by
  refine Met.ofW (cc := cc) (maxL := maxL) (ret := none) hy hw ?_
  intro p e s m args below meth c s₁ B hml hv
  obtain ⟨hav, hsz, hP, hK, hD0, hN⟩ := hv
  have hx := B.exec
  have hb := B.bytes
  have hr := B.returns
  have hts := atoms_spec (ws := ws) B.pre
  have hown := findClass_of_methodNamed B.named
  have hlocks := B.notSynchronized
  subst hsz
  have hE : entryFrame m args maxL = F0 m 0 ((lg_sl av ++ List.replicate (maxL - (lg_sl av).length) Slot.unset).toArray) [] := by rw [hav]; exact lg_entry_eq m av maxL
  rw [hE]
  exact body p e s m args below meth c _ (va_A w s.heap.size) _ ⟨hx, hb, hml, hown, hts⟩ hK hN (fun q h => Or.inr h) (fun H locs pc ls hdg hP1 hD1 hS1 => W.vret hx hb hr (fun t ht hW => ⟨⟨(), rfl, trivial, by rw [ht]; exact hP1, hD1⟩, hS1.F ht⟩) hS1.2.2 hdg) hP hD0.self va_S.rf (lv_entry av hlen)
end GE
section GC
variable {p : Program} {l : Launch} {e : Env} {R : Room} {s : State} {m : MethodId} {args : Array Value} {below : List Frame} {meth : Method} {c : Code} {H H0 : Heap} {locs : List Loc} {cells slots : Nat} {Q : State → Prop}
  {D : va_G} {ws wc wr w1 : va_W} {tys tc : List (ClassId × FieldType)} {A : Nat → Prop} {cc bytes : ByteArray} {nL maxL index n : Nat} {Ts wsY : List Cond} {own C : String} {y : MethodName} {rmY : Room} {ret : Option FieldType} {b pc : Nat} {As rest : List Value} {ls : Array Slot} {st0 : List Value}
/-- a run of a callee with its cells cut out: from 'va_Run' to the world behind it -/
theorem gRi {rv : Int32} {a : Array Value} (hP : va_P D vwCl ws H) (hD : va_D A ws) (hS : va_S A H0 H locs) (hA : ∀ q, H0.size ≤ q → A q) (isC isR : List Nat) (hC : isC.map (fun i => ws[i]?) = wc.map some) (hR : isR.map (fun i => ws[i]?) = wr.map some) (hnR : va_nd isR = true) (hdis : ∀ i ∈ isR, i ∉ isC)
    (hr : va_Run p l e R s m args below meth c H locs cells slots 0 0 (F0 m pc ls st0) rest (va_Qi (fun r (_ : Unit) => r = rv) (fun _ t => gQ D wc w1 H.size t) (va_A wc H.size) a) (va_A wc H.size))
    (kk : ∀ (H1 : Heap) (locs1 : List Loc), va_P D vwCl (wr ++ w1) H1 → va_D A (wr ++ w1) → va_S A H0 H1 locs1 → W p l e R s m args below meth c H1 locs1 cells slots Q (F0 m (pc + 3) ls (.int rv :: rest))) : W p l e R s m args below meth c H locs cells slots Q (F0 m pc ls st0) := by
  have hFc := va_free hD hS hA isC hC
  refine va_calli hr hS (fun q _ h => hFc q h) hFc (fun r u t H1 locs1 ht hvm hw hB hz1 hk1 hS1 => ?_)
  obtain ⟨hP1, hD1⟩ := hB
  rw [ht] at hP1
  obtain ⟨hP2, hD2⟩ := va_join (wr := wr) (w1 := w1) hP hD isC isR hC hR hnR hdis hk1 hFc hP1 hD1
  subst hw
  exact kk H1 locs1 hP2 hD2 hS1
theorem gRl {rv : Int64} {a : Array Value} (hP : va_P D vwCl ws H) (hD : va_D A ws) (hS : va_S A H0 H locs) (hA : ∀ q, H0.size ≤ q → A q) (isC isR : List Nat) (hC : isC.map (fun i => ws[i]?) = wc.map some) (hR : isR.map (fun i => ws[i]?) = wr.map some) (hnR : va_nd isR = true) (hdis : ∀ i ∈ isR, i ∉ isC)
    (hr : va_Run p l e R s m args below meth c H locs cells slots 0 0 (F0 m pc ls st0) rest (va_Ql (fun r (_ : Unit) => r = rv) (fun _ t => gQ D wc w1 H.size t) (va_A wc H.size) a) (va_A wc H.size))
    (kk : ∀ (H1 : Heap) (locs1 : List Loc), va_P D vwCl (wr ++ w1) H1 → va_D A (wr ++ w1) → va_S A H0 H1 locs1 → W p l e R s m args below meth c H1 locs1 cells slots Q (F0 m (pc + 3) ls (.long rv :: rest))) : W p l e R s m args below meth c H locs cells slots Q (F0 m pc ls st0) := by
  have hFc := va_free hD hS hA isC hC
  refine va_calll hr hS (fun q _ h => hFc q h) hFc (fun r u t H1 locs1 ht hvm hw hB hz1 hk1 hS1 => ?_)
  obtain ⟨hP1, hD1⟩ := hB
  rw [ht] at hP1
  obtain ⟨hP2, hD2⟩ := va_join (wr := wr) (w1 := w1) hP hD isC isR hC hR hnR hdis hk1 hFc hP1 hD1
  subst hw
  exact kk H1 locs1 hP2 hD2 hS1
theorem gRv {a : Array Value} (hP : va_P D vwCl ws H) (hD : va_D A ws) (hS : va_S A H0 H locs) (hA : ∀ q, H0.size ≤ q → A q) (isC isR : List Nat) (hC : isC.map (fun i => ws[i]?) = wc.map some) (hR : isR.map (fun i => ws[i]?) = wr.map some) (hnR : va_nd isR = true) (hdis : ∀ i ∈ isR, i ∉ isC)
    (hr : va_Run p l e R s m args below meth c H locs cells slots 0 0 (F0 m pc ls st0) rest (va_Qv (fun _ : Unit => True) (fun _ t => gQ D wc w1 H.size t) (va_A wc H.size) a) (va_A wc H.size))
    (kk : ∀ (H1 : Heap) (locs1 : List Loc), va_P D vwCl (wr ++ w1) H1 → va_D A (wr ++ w1) → va_S A H0 H1 locs1 → W p l e R s m args below meth c H1 locs1 cells slots Q (F0 m (pc + 3) ls rest)) : W p l e R s m args below meth c H locs cells slots Q (F0 m pc ls st0) := by
  have hFc := va_free hD hS hA isC hC
  refine va_callv hr hS (fun q _ h => hFc q h) hFc (fun u t H1 locs1 ht hvm hw hB hz1 hk1 hS1 => ?_)
  obtain ⟨hP1, hD1⟩ := hB
  rw [ht] at hP1
  obtain ⟨hP2, hD2⟩ := va_join (wr := wr) (w1 := w1) hP hD isC isR hC hR hnR hdis hk1 hFc hP1 hD1
  exact kk H1 locs1 hP2 hD2 hS1
/-- what a callee's start asks, of static methods and constructors -/
theorem gPS (hP : va_P D vwCl ws H) (hD : va_D A ws) (hK : va_K D vwCl tys s) (hN : Nst s) (isC isT : List Nat) (hnC : va_nd isC = true) (hC : isC.map (fun i => ws[i]?) = wc.map some) (hT : isT.filterMap (fun i => tys[i]?) = tc) : PreS s H (va_Pc As (gP D wc tc H.size)) As :=
  ⟨gP.blind D wc tc H.size As, fun U hU hW => ⟨rfl, by rw [hU], by rw [hU]; exact hP.sub isC (gfm isC wc hC), va_K.moved hW.alike (hK.sub isT hT), (hD.sub isC hnC hC).weaken (fun _ _ _ _ => trivial), hN.moved hW⟩⟩
/-- the same of methods of an object -/
theorem gPV {T : u_T} {N ci q0 : Nat} {fs : List Value} (hP : va_P D vwCl ws H) (hD : va_D A ws) (hK : va_K D vwCl tys s) (hN : Nst s) (isC isT : List Nat) (hnC : va_nd isC = true) (hC : isC.map (fun i => ws[i]?) = wc.map some) (hT : isT.filterMap (fun i => tys[i]?) = tc) (hq : ws[q0]? = some (b, .inr (ci, fs))) (hcl : vwCl[ci]? = some (C, T, N)) : PreV s H C b (va_Pc (.ref b :: As) (gP D wc tc H.size)) As :=
  ⟨gP.blind D wc tc H.size (.ref b :: As), va_recv hK hP hcl hq, fun U hU hW => ⟨rfl, by rw [hU], by rw [hU]; exact hP.sub isC (gfm isC wc hC), va_K.moved hW.alike (hK.sub isT hT), (hD.sub isC hnC hC).weaken (fun _ _ _ _ => trivial), hN.moved hW⟩⟩
end GC
def gushr (x y : Int32) : Int32 := (x.toUInt32 >>> (y.toUInt32 &&& Int32.toUInt32 31)).toInt32
def glshl (x : Int64) (y : Int32) : Int64 := x <<< (y.toInt64 &&& 63)
def glshr (x : Int64) (y : Int32) : Int64 := x >>> (y.toInt64 &&& 63)
def glushr (x : Int64) (y : Int32) : Int64 := (x.toUInt64 >>> (y.toInt64.toUInt64 &&& Int64.toUInt64 63)).toInt64
