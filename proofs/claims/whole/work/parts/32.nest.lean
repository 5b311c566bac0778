/-- the four links between nest mates -/
def wNst : List Cond := [Cond.methodLinkNest RX1 17 yX2_init "DripSayings", Cond.methodLinkNest RX3 26 yX0_init "DripSayings", Cond.methodLinkNest RX2 28 yX6_kindOfLetter "DripSayings", Cond.methodLinkNest RX2 32 yX6_isSaying "DripSayings"]
theorem wNst_in : ∀ w ∈ wNst, w ∈ lw_tbl := List.forall_mem_cons.mpr ⟨mt_26, List.forall_mem_cons.mpr ⟨mt_107, List.forall_mem_cons.mpr ⟨mt_217, List.forall_mem_cons.mpr ⟨mt_220, fun _ h => absurd h List.not_mem_nil⟩⟩⟩⟩
theorem wNst_warm {args a' : Array Value} {s U : State} (hW : s.WarmedH U.vm) : ∀ w ∈ wNst, w.before args s = true → w.before a' U = true := by
  intro w hw h
  unfold wNst at hw
  simp only [List.mem_cons, List.not_mem_nil, or_false] at hw
  rcases hw with hw | hw | hw | hw <;> subst hw <;> exact va_Nw.use rfl (va_Nw.warmM hW (va_Nw.of rfl h))
abbrev wAN (y : MethodName) (b : ByteArray) (n : Nat) (r : Option FieldType) : List Cond := Cond.code y b n r :: (wNst ++ wAll)
theorem wAN_warm {y : MethodName} {b : ByteArray} {n : Nat} {r : Option FieldType} {args : Array Value} {s : State} (ht : ∀ w ∈ wAll, w.before args s = true) (hn : ∀ w ∈ wNst, w.before args s = true) (h : Cond.code y b n r ∈ wAll) : ∀ w ∈ wAN y b n r, ∀ (a' : Array Value) (U : State), s.WarmedH U.vm → w.before a' U = true := by
  intro w hw a' U hW
  rcases List.mem_cons.mp hw with e | hw
  · subst e; exact word_at hW (good_of_word (wAll_ok h)) (ht _ h)
  · rcases List.mem_append.mp hw with hw | hw
    · exact wNst_warm hW w hw (hn w hw)
    · exact word_at hW (good_of_word (wAll_ok hw)) (ht w hw)
section NST
variable {p : Program} {l : Launch} {e : Env} {R : Room} {s : State} {m : MethodId} {args : Array Value} {below : List Frame} {meth : Method} {c : Code} {H : Heap} {locs : List Loc} {cells slots : Nat} {Q : State → Prop}
variable {cc : ByteArray} {pc : Nat} {ls : Array Slot} {rest st : List Value} {D : va_G} {tys : List (ClassId × FieldType)} {ws X Y : va_W} {Ts cw : List Cond} {own C host : String} {y : MethodName} {bytes : ByteArray} {maxL index n nL : Nat} {ret : Option FieldType} {rm : Room} {b : Nat} {As : List Value} {A0 : Nat → Prop} {H0 : Heap}
theorem cwVB (n : Nat) (ht : ∀ w ∈ wAll, w.before args s = true) (hn : ∀ w ∈ wNst, w.before args s = true) (h1 : Cond.methodLink own index y ∈ wAll) (h2 : Cond.instanceMethod y ∈ wAll) (h3 : Cond.selects C y y ∈ wAll) (h4 : Cond.initialized C ∈ wAll) (h5 : Cond.code y bytes maxL ret ∈ wAll) (hrc : rm.cells = 0) (hrs : rm.slots = 0)
    (hd : y.cls = C ∧ y.cls ≠ "java/lang/invoke/MethodHandle" ∧ y.cls ≠ "java/lang/invoke/VarHandle" ∧ (parseMethodDescriptor y.desc).map (fun d => d.parameters.length) = some n) (hR : rm.frames + 1 ≤ R.frames ∧ 8 + (maxL + 11) + rm.locals ≤ R.locals) : CallW R s args own C index y bytes maxL ret (wAN y bytes maxL ret) rm 0 0 n := by
  obtain ⟨hC, hd1, hd2, hd3⟩ := hd
  refine ⟨⟨hrc, hrs, hR.1, hR.2, wAN_warm ht hn h5, List.mem_cons_self, ht _ h5, by rw [hC]; exact ht _ h4, ⟨hd1, hd2⟩, fun sig h => ?_, ht _ h1⟩, ht _ h2, ht _ h3⟩
  rw [h] at hd3
  exact (Option.some.inj hd3).symm
theorem ro_iSN {r : Int32} (S : CallFix p m c cc nL s args Ts own) (hM : ROi l y cw rm D tys ws As r) (hc : va_CN R s args own index y host bytes maxL ret cw rm 0 0 n ∧ (Cond.static y).before args s = true ∧ True) (hK : va_K D vwCl tys s) (hP : va_P D vwCl ws H) (hn : As.length = n) (hsize : ls.size = nL) (hst : st = As.reverse ++ rest) (hW : (rest.map fun v => v.category).sum ≤ 8) (hdg : decode cc pc = .ok (.invokestatic index, 3)) (hf : cells ≤ R.cells ∧ slots ≤ R.slots) (k : W p l e R s m args below meth c H locs cells slots Q (F0 m (pc + 3) ls (.int r :: rest))) : W p l e R s m args below meth c H locs cells slots Q (F0 m pc ls st) :=
  vp_callSi (va_runSN (mc := 0) (ms := 0) S hM hc ⟨rP_blind, fun U hU hW => ⟨rfl, by rw [hU]; exact hP, va_K.moved hW.alike hK⟩⟩ rfl hn hsize hst (lv_room hW) hdg hf).run (fun x hx => by subst hx; exact k)
end NST
theorem go_startB {l : Launch} {y : MethodName} {bt : ByteArray} {n : Nat} {ret : Option FieldType} {rm : Room} {av : List Value} {B : State → Prop} {Qc : Array Value → State → Outcome → State → Prop} {mc ms : Nat} {free : Addr → Prop} (hy : plainName y.cls = true) (hl : (lg_sl av).length ≤ n)
    (body : ∀ (p : Program) (e : Env) (s : State) (m : MethodId) (args : Array Value) (below : List Frame) (meth : Method) (c : Code) (ls : Array Slot), Fx p s m args meth c y.cls bt n ret → (∀ w ∈ wNst, w.before args s = true) → meth.name = y.name → B s → lv_has ls n (lv_args 0 av) → W p l e (headSpec (wAN y bt n ret) rm).room s m args below meth c s.heap [] 0 0 (MQ below Qc args s mc ms free) (F0 m 0 ls [])) : Met l y (wAN y bt n ret) rm (va_Pc av B) Qc mc ms free := by
  refine Met.ofW (cc := bt) (maxL := n) (ret := ret) hy rfl ?_
  intro p e s m args below meth c s₁ Bd hml hv
  obtain ⟨hargs, hB⟩ := hv
  have hts0 := atoms_spec (ws := wAN y bt n ret) Bd.pre
  subst hargs
  rw [lg_entry_eq]
  exact body p e s m _ below meth c _ ⟨Bd.exec, Bd.bytes, Bd.returns, Bd.notSynchronized, hml, findClass_of_methodNamed Bd.named, fun w h => hts0 w (List.mem_cons_of_mem _ (List.mem_append_right _ h))⟩ (fun w h => hts0 w (List.mem_cons_of_mem _ (List.mem_append_left _ h))) (name_of_methodNamed Bd.named Bd.method).1 hB (lv_entry av hl)
theorem rw_startIB {l : Launch} {y : MethodName} {bt : ByteArray} {n : Nat} {ret : Option FieldType} {rm : Room} {av : List Value} {D : va_G} {tys : List (ClassId × FieldType)} {ws : va_W} {sz : Nat} {S : Type} {post : Int32 → S → Prop} {wp : S → va_W} (hy : plainName y.cls = true) (hl : (lg_sl av).length ≤ n)
    (body : ∀ (p : Program) (e : Env) (s : State) (m : MethodId) (args : Array Value) (below : List Frame) (meth : Method) (c : Code) (ls : Array Slot) (A : Nat → Prop), Fx p s m args meth c y.cls bt n ret → (∀ w ∈ wNst, w.before args s = true) → va_P D vwCl ws s.heap → va_K D vwCl tys s → va_D A ws → (∀ q : Nat, s.heap.size ≤ q → A q) → va_S A s.heap s.heap [] → lv_has ls n (lv_args 0 av) → W p l e (headSpec (wAN y bt n ret) rm).room s m args below meth c s.heap [] 0 0 (MQ below (va_Qi post (fun u t => wB D tys A (wp u) t) A) args s 0 0 A) (F0 m 0 ls [])) : WI l y (wAN y bt n ret) rm D tys ws sz av post wp :=
  go_startB hy hl (fun p e s m args below meth c ls F hn _ hB hl => by
    obtain ⟨hsz, hP, hK, hD0⟩ := hB
    subst hsz
    exact body p e s m args below meth c ls _ F hn hP hK (hD0.self (sz := s.heap.size)) (fun q h => Or.inr h) va_S.rf hl)
