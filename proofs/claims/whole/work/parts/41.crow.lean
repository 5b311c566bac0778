/-! constructors: their words, their contracts, rows that make cells -/
def wCt : List Cond := [Cond.arrayOver (FieldType.object "DripSayings$Tap"), Cond.arrayOver (FieldType.object "DripSayings$Note")]
theorem wCt_in : ∀ w ∈ wCt, w ∈ lw_tbl := List.forall_mem_cons.mpr ⟨mt_72, List.forall_mem_cons.mpr ⟨mt_105, fun _ h => absurd h List.not_mem_nil⟩⟩
theorem wCt_warm {args a' : Array Value} {s U : State} (hW : s.WarmedH U.vm) : ∀ w ∈ wCt, w.before args s = true → w.before a' U = true := by
  intro w hw h
  unfold wCt at hw
  simp only [List.mem_cons, List.not_mem_nil, or_false] at hw
  rcases hw with hw | hw <;> subst hw <;> exact va_AO.use (va_AO.moved hW.alike (va_AO.of h))
abbrev wAC (y : MethodName) (b : ByteArray) (n : Nat) (r : Option FieldType) : List Cond := Cond.code y b n r :: ((wCt ++ wNst) ++ wAll)
theorem wAC_warm {y : MethodName} {b : ByteArray} {n : Nat} {r : Option FieldType} {args : Array Value} {s : State} (ht : ∀ w ∈ wAll, w.before args s = true) (hn : ∀ w ∈ wCt ++ wNst, w.before args s = true) (h : Cond.code y b n r ∈ wAll) : ∀ w ∈ wAC y b n r, ∀ (a' : Array Value) (U : State), s.WarmedH U.vm → w.before a' U = true := by
  intro w hw a' U hW
  rcases List.mem_cons.mp hw with e | hw
  · subst e; exact word_at hW (good_of_word (wAll_ok h)) (ht _ h)
  · rcases List.mem_append.mp hw with hw | hw
    · rcases List.mem_append.mp hw with hw2 | hw2
      · exact wCt_warm hW w hw2 (hn w hw)
      · exact wNst_warm hW w hw2 (hn w hw)
    · exact word_at hW (good_of_word (wAll_ok hw)) (ht w hw)
abbrev WC {S : Type} (mc ms : Nat) (l : Launch) (y : MethodName) (cw : List Cond) (rm : Room) (D : va_G) (tys : List (ClassId × FieldType)) (ws : va_W) (sz : Nat) (av : List Value) (post : S → Prop) (wp : S → va_W) : Prop := Met l y cw rm (va_Pc av (wP D tys ws sz)) (va_Qv post (fun u t => wB D tys (va_A ws sz) (wp u) t) (va_A ws sz)) mc ms (va_A ws sz)
theorem rc_start {l : Launch} {y : MethodName} {bt : ByteArray} {n : Nat} {ret : Option FieldType} {rm : Room} {av : List Value} {D : va_G} {tys : List (ClassId × FieldType)} {ws : va_W} {sz mc ms : Nat} {S : Type} {post : S → Prop} {wp : S → va_W} (hy : plainName y.cls = true) (hl : (lg_sl av).length ≤ n)
    (body : ∀ (p : Program) (e : Env) (s : State) (m : MethodId) (args : Array Value) (below : List Frame) (meth : Method) (c : Code) (ls : Array Slot) (A : Nat → Prop), Fx p s m args meth c y.cls bt n ret → (∀ w ∈ wCt ++ wNst, w.before args s = true) → meth.name = y.name → va_P D vwCl ws s.heap → va_K D vwCl tys s → va_D A ws → (∀ q : Nat, s.heap.size ≤ q → A q) → va_S A s.heap s.heap [] → lv_has ls n (lv_args 0 av) → W p l e (headSpec (wAC y bt n ret) rm).room s m args below meth c s.heap [] 0 0 (MQ below (va_Qv post (fun u t => wB D tys A (wp u) t) A) args s mc ms A) (F0 m 0 ls [])) : WC mc ms l y (wAC y bt n ret) rm D tys ws sz av post wp := by
  refine Met.ofW (cc := bt) (maxL := n) (ret := ret) hy rfl ?_
  intro p e s m args below meth c s₁ Bd hml hv
  obtain ⟨hargs, hsz, hP, hK, hD0⟩ := hv
  have hts0 := atoms_spec (ws := wAC y bt n ret) Bd.pre
  subst hargs
  subst hsz
  rw [lg_entry_eq]
  exact body p e s m _ below meth c _ _ ⟨Bd.exec, Bd.bytes, Bd.returns, Bd.notSynchronized, hml, findClass_of_methodNamed Bd.named, fun w h => hts0 w (List.mem_cons_of_mem _ (List.mem_append_right _ h))⟩ (fun w h => hts0 w (List.mem_cons_of_mem _ (List.mem_append_left _ h))) (name_of_methodNamed Bd.named Bd.method).1 hP hK (hD0.self (sz := s.heap.size)) (fun q h => Or.inr h) va_S.rf (lv_entry av hl)
theorem vaP_arr {D : va_G} {cl : List vw_C} {ws : va_W} {H : Heap} {k a n : Nat} {cA : ClassId} {f g : Nat → Option Nat} (hP : va_P D cl ws H) (he : ws[k]? = some (a, .inl (cA, n, .inr (.inr (.inr (.inr f)))))) (hfg : ∀ i, i < n → f i = g i) : va_P D cl (ws.set k (a, .inl (cA, n, .inr (.inr (.inr (.inr g)))))) H := by
  intro j q hq
  by_cases hj : k = j
  · subst hj
    rw [List.getElem?_set_self (List.getElem?_eq_some_iff.mp he).1] at hq
    cases hq
    have h := hP k _ he
    show H[a]? = some (vp_cell cA (n, .inr (.inr (.inr (.inr g)))))
    have h : H[a]? = some (vp_cell cA (n, .inr (.inr (.inr (.inr f))))) := h
    rw [h, vp_cell_q, vp_cell_q]
    congr 1
    unfold arrV
    congr 1
    apply Array.ext
    · simp
    · intro i h1 h2
      simp at h1
      simp [hfg i h1]
  · rw [List.getElem?_set_ne hj] at hq
    exact hP j q hq
theorem vaD_arr {A : Nat → Prop} {ws : va_W} {k a : Nat} {e g : va_E} (hD : va_D A ws) (he : ws[k]? = some (a, e)) : va_D A (ws.set k (a, g)) := hD.set he
section FRK
variable {p : Program} {l : Launch} {e : Env} {R : Room} {s : State} {m : MethodId} {args : Array Value} {below : List Frame} {meth : Method} {c : Code} {H : Heap} {locs : List Loc} {cells slots : Nat} {Q : State → Prop}
variable {cc : ByteArray} {pc a : Nat} {ls : Array Slot} {rest st : List Value} {D : va_G} {tys : List (ClassId × FieldType)} {ws X : va_W} {Ts cw : List Cond} {own C host : String} {y : MethodName} {bytes : ByteArray} {maxL index n nL mc ms : Nat} {rm : Room} {b : Nat} {As : List Value} {A A0 : Nat → Prop} {H0 : Heap}
theorem cwIC (n : Nat) (ht : ∀ w ∈ wAll, w.before args s = true) (hn : ∀ w ∈ wCt ++ wNst, w.before args s = true) (h1 : Cond.methodLink own index y ∈ wAll) (h2 : Cond.instanceMethod y ∈ wAll) (h4 : Cond.initialized y.cls ∈ wAll) (h5 : Cond.code y bytes maxL none ∈ wAll) (hrc : rm.cells = mc) (hrs : rm.slots = ms)
    (hd : y.name = "<init>" ∧ y.cls ≠ "java/lang/invoke/MethodHandle" ∧ y.cls ≠ "java/lang/invoke/VarHandle" ∧ (parseMethodDescriptor y.desc).map (fun d => d.parameters.length) = some n) (hR : rm.frames + 1 ≤ R.frames ∧ 8 + (maxL + 11) + rm.locals ≤ R.locals) : CallB R s args own index y bytes maxL none (wAC y bytes maxL none) rm mc ms n ∧ y.name = "<init>" ∧ (Cond.instanceMethod y).before args s = true := by
  obtain ⟨hC, hd1, hd2, hd3⟩ := hd
  refine ⟨⟨hrc, hrs, hR.1, hR.2, wAC_warm ht hn h5, List.mem_cons_self, ht _ h5, ht _ h4, ⟨hd1, hd2⟩, fun sig h => ?_, ht _ h1⟩, hC, ht _ h2⟩
  rw [h] at hd3
  exact (Option.some.inj hd3).symm
theorem cwINC (n : Nat) (ht : ∀ w ∈ wAll, w.before args s = true) (hn : ∀ w ∈ wCt ++ wNst, w.before args s = true) (h1 : Cond.methodLinkNest own index y host ∈ wCt ++ wNst) (h2 : Cond.instanceMethod y ∈ wAll) (h4 : Cond.initialized y.cls ∈ wAll) (h5 : Cond.code y bytes maxL none ∈ wAll) (hrc : rm.cells = mc) (hrs : rm.slots = ms)
    (hd : y.name = "<init>" ∧ y.cls ≠ "java/lang/invoke/MethodHandle" ∧ y.cls ≠ "java/lang/invoke/VarHandle" ∧ (parseMethodDescriptor y.desc).map (fun d => d.parameters.length) = some n) (hR : rm.frames + 1 ≤ R.frames ∧ 8 + (maxL + 11) + rm.locals ≤ R.locals) : va_CN R s args own index y host bytes maxL none (wAC y bytes maxL none) rm mc ms n ∧ y.name = "<init>" ∧ (Cond.instanceMethod y).before args s = true := by
  obtain ⟨hC, hd1, hd2, hd3⟩ := hd
  refine ⟨⟨⟨hrc, hrs, hR.1, hR.2, wAC_warm ht hn h5, List.mem_cons_self⟩, ht _ h5, ht _ h4, ⟨hd1, hd2⟩, fun sig h => ?_, va_Nw.use rfl (va_Nw.of rfl (hn _ h1))⟩, hC, ht _ h2⟩
  rw [h] at hd3
  exact (Option.some.inj hd3).symm
theorem rc_vI {S : Type} {post : S → Prop} {wp : S → va_W} (hS9 : CallFix p m c cc nL s args Ts own) (hM : WC mc ms l y cw rm D tys ws H.size (.ref b :: As) post wp) (hc : CallB R s args own index y bytes maxL none cw rm mc ms n ∧ y.name = "<init>" ∧ (Cond.instanceMethod y).before args s = true) (hK : va_K D vwCl tys s) (hP : va_P D vwCl (X ++ (ws ++ [])) H) (hD : va_D A0 (X ++ (ws ++ []))) (hS : va_S A0 H0 H locs) (hA : ∀ q, H0.size ≤ q → A0 q) (hn : As.length = n) (hsize : ls.size = nL) (hst : st = As.reverse ++ .ref b :: rest) (hW : (rest.map fun v => v.category).sum ≤ 8) (hdg : decode cc pc = .ok (.invokespecial index, 3)) (hf : cells + mc ≤ R.cells ∧ slots + ms ≤ R.slots) (k : ∀ (u : S) (H1 : Heap) (locs1 : List Loc), post u → va_P D vwCl (X ++ (wp u ++ [])) H1 → va_D A0 (X ++ (wp u ++ [])) → va_S A0 H0 H1 locs1 → W p l e R s m args below meth c H1 locs1 (cells + mc) (slots + ms) Q (F0 m (pc + 3) ls rest)) : W p l e R s m args below meth c H locs cells slots Q (F0 m pc ls st) := by
  have hF : ∀ q, va_A ws H.size q → A0 q := by
    intro q h
    rcases h with ⟨k, e, h⟩ | h
    · exact (vaD_l (vaD_r hD)).2 k (q, e) h
    · exact hA q (Nat.le_trans hS.1 h)
  refine va_callv (va_runI (mc := mc) (ms := ms) hS9 hM hc ⟨wP_blind, fun U hU hW => ⟨rfl, by rw [hU], by rw [hU]; exact vaP_l (vaP_r hP), va_K.moved hW.alike hK, (vaD_l (vaD_r hD)).weaken (fun _ _ _ _ => trivial)⟩⟩ rfl hn hsize hst (lv_room hW) hdg hf) hS (fun q _ h => hF q h) hF (fun u t H1 locs1 ht hvm hw hB hz hk hS1 => ?_)
  obtain ⟨hP1, hK1, hD1⟩ := hB
  rw [ht] at hP1
  obtain ⟨hP2, hD2⟩ := fr_join hP hD hF hk hP1 hD1
  exact k u H1 locs1 hw hP2 hD2 hS1
theorem rc_vIN {S : Type} {post : S → Prop} {wp : S → va_W} (hS9 : CallFix p m c cc nL s args Ts own) (hM : WC mc ms l y cw rm D tys ws H.size (.ref b :: As) post wp) (hc : va_CN R s args own index y host bytes maxL none cw rm mc ms n ∧ y.name = "<init>" ∧ (Cond.instanceMethod y).before args s = true) (hK : va_K D vwCl tys s) (hP : va_P D vwCl (X ++ (ws ++ [])) H) (hD : va_D A0 (X ++ (ws ++ []))) (hS : va_S A0 H0 H locs) (hA : ∀ q, H0.size ≤ q → A0 q) (hn : As.length = n) (hsize : ls.size = nL) (hst : st = As.reverse ++ .ref b :: rest) (hW : (rest.map fun v => v.category).sum ≤ 8) (hdg : decode cc pc = .ok (.invokespecial index, 3)) (hf : cells + mc ≤ R.cells ∧ slots + ms ≤ R.slots) (k : ∀ (u : S) (H1 : Heap) (locs1 : List Loc), post u → va_P D vwCl (X ++ (wp u ++ [])) H1 → va_D A0 (X ++ (wp u ++ [])) → va_S A0 H0 H1 locs1 → W p l e R s m args below meth c H1 locs1 (cells + mc) (slots + ms) Q (F0 m (pc + 3) ls rest)) : W p l e R s m args below meth c H locs cells slots Q (F0 m pc ls st) := by
  have hF : ∀ q, va_A ws H.size q → A0 q := by
    intro q h
    rcases h with ⟨k, e, h⟩ | h
    · exact (vaD_l (vaD_r hD)).2 k (q, e) h
    · exact hA q (Nat.le_trans hS.1 h)
  refine va_callv (va_runIN (mc := mc) (ms := ms) hS9 hM hc ⟨wP_blind, fun U hU hW => ⟨rfl, by rw [hU], by rw [hU]; exact vaP_l (vaP_r hP), va_K.moved hW.alike hK, (vaD_l (vaD_r hD)).weaken (fun _ _ _ _ => trivial)⟩⟩ rfl hn hsize hst (lv_room hW) hdg hf) hS (fun q _ h => hF q h) hF (fun u t H1 locs1 ht hvm hw hB hz hk hS1 => ?_)
  obtain ⟨hP1, hK1, hD1⟩ := hB
  rw [ht] at hP1
  obtain ⟨hP2, hD2⟩ := fr_join hP hD hF hk hP1 hD1
  exact k u H1 locs1 hw hP2 hD2 hS1
theorem rc_vret {S : Type} {post : S → Prop} {wp : S → va_W} {w1 : va_W} (u : S) (hexec : p.tables.exec = Jvm.exec) (hb : c.code = cc) (hr : meth.sig.returnType = none) (hlocks : meth.locks = false) (hK : va_K D vwCl tys s) (hP : va_P D vwCl w1 H) (hD : va_D A0 w1) (hS : va_S A0 s.heap H locs) (hw : w1 = wp u) (hv : post u) (hdg : decode cc pc = .ok (.return_, 1)) : W p l e R s m args below meth c H locs cells slots (MQ below (va_Qv post (fun u t => wB D tys A0 (wp u) t) A0) args s cells slots A0) (F0 m pc ls []) := by
  subst hw
  exact W.vret hexec hb hr (fun t ht hW => ⟨⟨u, rfl, hv, by rw [ht]; exact hP, va_K.moved hW.alike hK, hD⟩, hS.F ht⟩) hS.2.2 hdg hlocks
theorem rc_obj {own : String} (hexec : p.tables.exec = Jvm.exec) (hb : c.code = cc) (hts : ∀ w ∈ wAll, w.before args s = true) (hown : s.vm.findClass own = some m.cls) (h1 : Cond.methodLink own index objectInit ∈ wAll) (hsize : ls.size = c.maxLocals) (hdg : decode cc pc = .ok (.invokespecial index, 3)) (hf : 1 ≤ R.frames) (hlo : 12 ≤ R.locals) (kk : W p l e R s m args below meth c H locs cells slots Q (F0 m (pc + 3) ls [])) : W p l e R s m args below meth c H locs cells slots Q (F0 m pc ls [.ref a]) :=
  W.objInit hexec hb hown (hts _ h1) (hts _ mg_16) (hts _ mg_17) rfl hsize rfl hdg hf hlo (W.eq (g2 := F0 m (pc + 3) ls []) rfl kk)
theorem rc_newa {cI : ClassId} (hexec : p.tables.exec = Jvm.exec) (hb : c.code = cc) (hts : ∀ w ∈ wAll, w.before args s = true) (hK : va_K D vwCl tys s) (t0 : Nat) (ht : tys[t0]? = some (cI, .int)) (hP : va_P D vwCl ws H) (hD : va_D A ws) (hS : va_S A H0 H locs) (hA : ∀ q, H0.size ≤ q → A q) {n : Nat} (hn : n < 2 ^ 31) (hbytes : n * componentBytes FieldType.int ≤ 536870912) (hcells : cells + 1 ≤ R.cells) (hslots : slots + n ≤ R.slots) (hdg : decode cc pc = .ok (.newarray .int, 2))
    (kk : ∀ (q : Nat) (H1 : Heap), va_P D vwCl (ws ++ [(q, .inl (cI, n, .inl (fun _ => nI 0)))]) H1 → va_D A (ws ++ [(q, .inl (cI, n, .inl (fun _ => nI 0)))]) → va_S A H0 H1 locs → W p l e R s m args below meth c H1 locs (cells + 1) (slots + n) Q (F0 m (pc + 2) ls (.ref q :: rest))) : W p l e R s m args below meth c H locs cells slots Q (F0 m pc ls (.int (nI n) :: rest)) := by
  refine va_newa (atype := .int) (ty := .int) (a0 := (n, .inl (fun _ => nI 0))) (N' := n) hexec hb (hts _ mg_40) rfl hK hP hD hS hA (fun cA => rfl) (fun z => by have := (fr_lt (nI_toInt hn) fr_0).mp z; omega) (nI_clamp hn) hbytes hcells hslots hdg (fun q cA H1 hK1 hP1 hD1 hS1 => ?_)
  have e1 := (hK1.2 tys.length (cA, .int) (by simp)).2
  have e2 := (hK.2 t0 _ ht).2
  have e : cA = cI := Option.some.inj (e1.symm.trans e2)
  subst e
  exact kk q H1 hP1 hD1 hS1
theorem rc_newq {cI : ClassId} {own C : String} (hexec : p.tables.exec = Jvm.exec) (hb : c.code = cc) (hts : ∀ w ∈ wAll, w.before args s = true) (hown : s.vm.findClass own = some m.cls) (hcl : Cond.classLink own index C ∈ wAll) (hover : (Cond.arrayOver (.object C)).before args s = true) (hK : va_K D vwCl tys s) (t0 : Nat) (ht : tys[t0]? = some (cI, .object C)) (hP : va_P D vwCl ws H) (hD : va_D A ws) (hS : va_S A H0 H locs) (hA : ∀ q, H0.size ≤ q → A q) {n : Nat} (hn : n < 2 ^ 31) (hbytes : n * 4 ≤ 536870912) (hcells : cells + 1 ≤ R.cells) (hslots : slots + n ≤ R.slots) (hdg : decode cc pc = .ok (.anewarray index, 3))
    (kk : ∀ (q : Nat) (H1 : Heap), va_P D vwCl (ws ++ [(q, .inl (cI, n, .inr (.inr (.inr (.inr (fun _ => none))))))]) H1 → va_D A (ws ++ [(q, .inl (cI, n, .inr (.inr (.inr (.inr (fun _ => none))))))]) → va_S A H0 H1 locs → W p l e R s m args below meth c H1 locs (cells + 1) (slots + n) Q (F0 m (pc + 3) ls (.ref q :: rest))) : W p l e R s m args below meth c H locs cells slots Q (F0 m pc ls (.int (nI n) :: rest)) := by
  refine va_newq (N' := n) hexec hb hown (hts _ hcl) (va_AO.of hover) hK hP hD hS hA (fun z => by have := (fr_lt (nI_toInt hn) fr_0).mp z; omega) (nI_clamp hn) hbytes hcells hslots hdg (fun q cA H1 hK1 hP1 hD1 hS1 => ?_)
  obtain ⟨_, _, _, _, _, e1⟩ := (hK1.2 tys.length (cA, .object C) (by simp)).2
  obtain ⟨_, _, _, _, _, e2⟩ := (hK.2 t0 _ ht).2
  have e : cA = cI := Option.some.inj (e1.symm.trans e2)
  subst e
  exact kk q H1 hP1 hD1 hS1
theorem rc_astq (hexec : p.tables.exec = Jvm.exec) (hb : c.code = cc) (hK : va_K D vwCl tys s) (hP : va_P D vwCl ws H) (hD : va_D A ws) (hS : va_S A H0 H locs) (q0 t0 qk ci : Nat) {cA : ClassId} {r : vw_C} {n v : Nat} {vs : List Value} {f : Nat → Option Nat} (ha : ws[q0]? = some (a, .inl (cA, n, .inr (.inr (.inr (.inr f)))))) (ht : tys[t0]? = some (cA, .object r.1)) (hv : ws[qk]? = some (v, .inr (ci, vs))) (hc : vwCl[ci]? = some r) {i : Nat} (h1 : i < n) (h2 : n < 2 ^ 31) (hdg : decode cc pc = .ok (.aastore, 1))
    (kk : ∀ (H1 : Heap) (locs1 : List Loc), va_P D vwCl (ws.set q0 (a, .inl (cA, n, .inr (.inr (.inr (.inr (va_up f i (some v)))))))) H1 → va_D A (ws.set q0 (a, .inl (cA, n, .inr (.inr (.inr (.inr (va_up f i (some v)))))))) → va_S A H0 H1 locs1 → W p l e R s m args below meth c H1 locs1 cells slots Q (F0 m (pc + 1) ls rest)) : W p l e R s m args below meth c H locs cells slots Q (F0 m pc ls (.ref v :: .int (nI i) :: .ref a :: rest)) :=
  va_astq hexec hb hK hP hD hS q0 t0 qk ci ha ht hv hc (vp_in_nI h1 h2) hdg (fun H1 l1 => by rw [nI_clamp (Nat.lt_trans h1 h2)]; exact kk H1 l1)
end FRK
