/-- what a walk stands on -/
def Fx (p : Program) (s : State) (m : MethodId) (args : Array Value) (meth : Method) (c : Code) (C : String) (b : ByteArray) (n : Nat) (ret : Option FieldType) : Prop := p.tables.exec = Jvm.exec ∧ c.code = b ∧ meth.sig.returnType = ret ∧ meth.locks = false ∧ c.maxLocals = n ∧ s.vm.findClass C = some m.cls ∧ ∀ w ∈ wAll, w.before args s = true
theorem go_start {l : Launch} {y : MethodName} {bt : ByteArray} {n : Nat} {ret : Option FieldType} {rm : Room} {av : List Value} {B : State → Prop} {Qc : Array Value → State → Outcome → State → Prop} {mc ms : Nat} {free : Addr → Prop} (hy : plainName y.cls = true) (hl : (lg_sl av).length ≤ n)
    (body : ∀ (p : Program) (e : Env) (s : State) (m : MethodId) (args : Array Value) (below : List Frame) (meth : Method) (c : Code) (ls : Array Slot), Fx p s m args meth c y.cls bt n ret → meth.name = y.name → B s → lv_has ls n (lv_args 0 av) → W p l e (headSpec (wA y bt n ret) rm).room s m args below meth c s.heap [] 0 0 (MQ below Qc args s mc ms free) (F0 m 0 ls [])) : Met l y (wA y bt n ret) rm (va_Pc av B) Qc mc ms free := by
  refine Met.ofW (cc := bt) (maxL := n) (ret := ret) hy rfl ?_
  intro p e s m args below meth c s₁ Bd hml hv
  obtain ⟨hargs, hB⟩ := hv
  have hts0 := atoms_spec (ws := wA y bt n ret) Bd.pre
  subst hargs
  rw [lg_entry_eq]
  exact body p e s m _ below meth c _ ⟨Bd.exec, Bd.bytes, Bd.returns, Bd.notSynchronized, hml, findClass_of_methodNamed Bd.named, fun w h => hts0 w (List.mem_cons_of_mem _ h)⟩ (name_of_methodNamed Bd.named Bd.method).1 hB (lv_entry av hl)
theorem rw_startI {l : Launch} {y : MethodName} {bt : ByteArray} {n : Nat} {ret : Option FieldType} {rm : Room} {av : List Value} {D : va_G} {tys : List (ClassId × FieldType)} {ws : va_W} {sz : Nat} {S : Type} {post : Int32 → S → Prop} {wp : S → va_W} (hy : plainName y.cls = true) (hl : (lg_sl av).length ≤ n)
    (body : ∀ (p : Program) (e : Env) (s : State) (m : MethodId) (args : Array Value) (below : List Frame) (meth : Method) (c : Code) (ls : Array Slot) (A : Nat → Prop), Fx p s m args meth c y.cls bt n ret → va_P D vwCl ws s.heap → va_K D vwCl tys s → va_D A ws → (∀ q : Nat, s.heap.size ≤ q → A q) → va_S A s.heap s.heap [] → lv_has ls n (lv_args 0 av) → W p l e (headSpec (wA y bt n ret) rm).room s m args below meth c s.heap [] 0 0 (MQ below (va_Qi post (fun u t => wB D tys A (wp u) t) A) args s 0 0 A) (F0 m 0 ls [])) : WI l y (wA y bt n ret) rm D tys ws sz av post wp :=
  go_start hy hl (fun p e s m args below meth c ls F _ hB hl => by
    obtain ⟨hsz, hP, hK, hD0⟩ := hB
    subst hsz
    exact body p e s m args below meth c ls _ F hP hK (hD0.self (sz := s.heap.size)) (fun q h => Or.inr h) va_S.rf hl)
theorem rw_startL {l : Launch} {y : MethodName} {bt : ByteArray} {n : Nat} {ret : Option FieldType} {rm : Room} {av : List Value} {D : va_G} {tys : List (ClassId × FieldType)} {ws : va_W} {sz : Nat} {S : Type} {post : Int64 → S → Prop} {wp : S → va_W} (hy : plainName y.cls = true) (hl : (lg_sl av).length ≤ n)
    (body : ∀ (p : Program) (e : Env) (s : State) (m : MethodId) (args : Array Value) (below : List Frame) (meth : Method) (c : Code) (ls : Array Slot) (A : Nat → Prop), Fx p s m args meth c y.cls bt n ret → va_P D vwCl ws s.heap → va_K D vwCl tys s → va_D A ws → (∀ q : Nat, s.heap.size ≤ q → A q) → va_S A s.heap s.heap [] → lv_has ls n (lv_args 0 av) → W p l e (headSpec (wA y bt n ret) rm).room s m args below meth c s.heap [] 0 0 (MQ below (va_Ql post (fun u t => wB D tys A (wp u) t) A) args s 0 0 A) (F0 m 0 ls [])) : WL l y (wA y bt n ret) rm D tys ws sz av post wp :=
  go_start hy hl (fun p e s m args below meth c ls F _ hB hl => by
    obtain ⟨hsz, hP, hK, hD0⟩ := hB
    subst hsz
    exact body p e s m args below meth c ls _ F hP hK (hD0.self (sz := s.heap.size)) (fun q h => Or.inr h) va_S.rf hl)
theorem rw_startV {l : Launch} {y : MethodName} {bt : ByteArray} {n : Nat} {ret : Option FieldType} {rm : Room} {av : List Value} {D : va_G} {tys : List (ClassId × FieldType)} {ws : va_W} {sz : Nat} {S : Type} {post : S → Prop} {wp : S → va_W} (hy : plainName y.cls = true) (hl : (lg_sl av).length ≤ n)
    (body : ∀ (p : Program) (e : Env) (s : State) (m : MethodId) (args : Array Value) (below : List Frame) (meth : Method) (c : Code) (ls : Array Slot) (A : Nat → Prop), Fx p s m args meth c y.cls bt n ret → va_P D vwCl ws s.heap → va_K D vwCl tys s → va_D A ws → (∀ q : Nat, s.heap.size ≤ q → A q) → va_S A s.heap s.heap [] → lv_has ls n (lv_args 0 av) → W p l e (headSpec (wA y bt n ret) rm).room s m args below meth c s.heap [] 0 0 (MQ below (va_Qv post (fun u t => wB D tys A (wp u) t) A) args s 0 0 A) (F0 m 0 ls [])) : WV l y (wA y bt n ret) rm D tys ws sz av post wp :=
  go_start hy hl (fun p e s m args below meth c ls F _ hB hl => by
    obtain ⟨hsz, hP, hK, hD0⟩ := hB
    subst hsz
    exact body p e s m args below meth c ls _ F hP hK (hD0.self (sz := s.heap.size)) (fun q h => Or.inr h) va_S.rf hl)
section FRM
variable {p : Program} {l : Launch} {e : Env} {R : Room} {s : State} {m : MethodId} {args : Array Value} {below : List Frame} {meth : Method} {c : Code} {H : Heap} {locs : List Loc} {cells slots : Nat} {Q : State → Prop}
variable {cc : ByteArray} {pc : Nat} {ls : Array Slot} {rest : List Value}
theorem n_max {a b : Nat} (h1 : a < 2 ^ 31) (h2 : b < 2 ^ 31) : (if nI a < nI b then nI b else nI a) = nI (max a b) := by
  by_cases h : a < b
  · rw [if_pos ((nI_ltI h1 h2).mpr h), Nat.max_eq_right (Nat.le_of_lt h)]
  · rw [if_neg (fun q => h ((nI_ltI h1 h2).mp q)), Nat.max_eq_left (Nat.le_of_not_lt h)]
end FRM
theorem rW_tap_set1 {r : Nat → Nat} {cT cN : ClassId} {q : RS} {i : Nat} (h : i < 5) (v : Nat) : (rW r cT cN q).set (3 + i) (r (3 + i), .inr (5, [.int (nI i), .int (nI (q.2.2.2.1 i 0)), .int (nI v), .int (nI (q.2.2.2.1 i 2)), .int (nI (q.2.2.2.1 i 3))])) = rW r cT cN (q.1, q.2.1, q.2.2.1, up2 q.2.2.2.1 i 1 v, q.2.2.2.2) := by
  match i, h with
  | 0, _ => rfl
  | 1, _ => rfl
  | 2, _ => rfl
  | 3, _ => rfl
  | 4, _ => rfl
theorem cW_tap {a r k : Nat → Nat} {cI cT cN : ClassId} {hh hi hr pn : Nat} {pc : Nat → Int32} {rd : Nat × Nat × Nat} {B L : Nat → Int32} {q kq : RS} {i : Nat} (h : i < 5) : (cW a r k cI cT cN hh hi hr pn pc rd B L q kq)[10 + i]? = some (tapC r q.2.2.2.1 i) := by
  match i, h with
  | 0, _ => rfl
  | 1, _ => rfl
  | 2, _ => rfl
  | 3, _ => rfl
  | 4, _ => rfl
theorem cW_note {a r k : Nat → Nat} {cI cT cN : ClassId} {hh hi hr pn : Nat} {pc : Nat → Int32} {rd : Nat × Nat × Nat} {B L : Nat → Int32} {q kq : RS} {i : Nat} (h : i < 8) : (cW a r k cI cT cN hh hi hr pn pc rd B L q kq)[15 + i]? = some (noteC r q.2.2.2.2 i) := by
  match i, h with
  | 0, _ => rfl
  | 1, _ => rfl
  | 2, _ => rfl
  | 3, _ => rfl
  | 4, _ => rfl
  | 5, _ => rfl
  | 6, _ => rfl
  | 7, _ => rfl
