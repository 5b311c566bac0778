set_option maxHeartbeats 4000000 in
set_option maxRecDepth 100000 in
theorem c_X4_clear (l : Launch) (D : va_G) (a : Nat → Nat) (cI cT cN : ClassId) (sz : Nat) (B L : Nat → Int32) : WV l yX4_clear (wA yX4_clear cX4_clear 2 none) ({ frames := 0, cells := 0, slots := 0, locals := 0 }) D (cTys cI cT cN) (sW a cI B L) sz [.ref (a 4)] (fun _ : Unit => True) (fun _ : Unit => sW a cI (fillF B 16 (-1)) (fillF L 4 (nI 0))) := by
  refine rw_startV (by decide) (Nat.le_of_ble_eq_true rfl) ?_
  intro p e s m args below meth c ls A F hP hK hD hA hS hl
  obtain ⟨hx, hb, hr, hlocks, hml, hown, hts⟩ := F
  have hown : s.vm.findClass RX4 = some m.cls := hown
  have hl : lv_has ls 2 [(0, .ref (a 4))] := hl
  refine lv_iconst (v := nI 0) hx hb dX4_clear_0 (by decide) ?_
  have hP : va_P D vwCl (sW a cI (fillF B 0 (-1)) L) s.heap := Eq.mp (congrArg (fun z => va_P D vwCl z s.heap) (congrArg (fun z => sW a cI z L) fillF_0.symm)) hP
  have hD : va_D A (sW a cI (fillF B 0 (-1)) L) := Eq.mp (congrArg (fun z => va_D A z) (congrArg (fun z => sW a cI z L) fillF_0.symm)) hD
  refine lv_istore_n (lv' := [(1, .int (nI 0)), (0, .ref (a 4))]) hx hb dX4_clear_1 rfl hl (by decide) rfl (fun ls hl => ?_)
  have K_1 : ∀ n9 : Nat, ∀ (i : Nat), i ≤ 16 → 16 - i < n9 → ∀ (H : Heap) (locs : List Loc), va_P D vwCl (sW a cI (fillF B i (-1)) L) H → va_D A (sW a cI (fillF B i (-1)) L) → va_S A s.heap H locs → ∀ ls : Array Slot, lv_has ls 2 [(0, .ref (a 4)), (1, .int (nI i))] → W p l e (headSpec (wA yX4_clear cX4_clear 2 none) ({ frames := 0, cells := 0, slots := 0, locals := 0 })).room s m args below meth c H locs 0 0 (MQ below (va_Qv (fun _ : Unit => True) (fun u t => wB D (cTys cI cT cN) A ((fun _ : Unit => sW a cI (fillF B 16 (-1)) (fillF L 4 (nI 0))) u) t) A) args s 0 0 A) (F0 m 2 ls []) := by
    intro n9
    induction n9 with
    | zero => intros; omega
    | succ n9 ih_2 =>
      intro i hi hn9 H locs hP hD hS ls hl
      refine lv_iload_n hx hb dX4_clear_2 rfl (lv_at hl 1 rfl) ?_
      refine lv_aload_n hx hb dX4_clear_3 rfl (lv_at hl 0 rfl) ?_
      refine va_get (D := D) (ci := 4) (v := .ref (a 5)) (C := RX4) (T := TX4) (N := 2) hx hb hts iX4 hown hK hP 0 rfl rfl 0 (by decide) (hts _ mg_58) (fun _ h9 => h9) rfl dX4_clear_4 ?_
      refine va_alen (v := nI 16) hx hb hK hP 1 0 rfl rfl rfl dX4_clear_7 ?_
      refine j_icmp_ge (tgt := 24) hx hb dX4_clear_8 (by decide) (nI_toInt (by omega)) (nI_toInt (by decide)) (fun c_3 => ?_) (fun c_3 => ?_)
      · have hP : va_P D vwCl (sW a cI (fillF B 16 (-1)) (fillF L 0 (nI 0))) H := Eq.mp (congrArg (fun z => va_P D vwCl z H) (congr (congrArg (fun x z => sW a cI (fillF B x (-1)) z) (show i = 16 by omega)) fillF_0.symm)) hP
        have hD : va_D A (sW a cI (fillF B 16 (-1)) (fillF L 0 (nI 0))) := Eq.mp (congrArg (fun z => va_D A z) (congr (congrArg (fun x z => sW a cI (fillF B x (-1)) z) (show i = 16 by omega)) fillF_0.symm)) hD
        refine lv_iconst (v := nI 0) hx hb dX4_clear_24 (by decide) ?_
        refine lv_istore_n (lv' := [(1, .int (nI 0)), (0, .ref (a 4))]) hx hb dX4_clear_25 rfl hl (by decide) rfl (fun ls hl => ?_)
        have K_4 : ∀ n9 : Nat, ∀ (i : Nat), i ≤ 4 → 4 - i < n9 → ∀ (H : Heap) (locs : List Loc), va_P D vwCl (sW a cI (fillF B 16 (-1)) (fillF L i (nI 0))) H → va_D A (sW a cI (fillF B 16 (-1)) (fillF L i (nI 0))) → va_S A s.heap H locs → ∀ ls : Array Slot, lv_has ls 2 [(0, .ref (a 4)), (1, .int (nI i))] → W p l e (headSpec (wA yX4_clear cX4_clear 2 none) ({ frames := 0, cells := 0, slots := 0, locals := 0 })).room s m args below meth c H locs 0 0 (MQ below (va_Qv (fun _ : Unit => True) (fun u t => wB D (cTys cI cT cN) A ((fun _ : Unit => sW a cI (fillF B 16 (-1)) (fillF L 4 (nI 0))) u) t) A) args s 0 0 A) (F0 m 26 ls []) := by
          intro n9
          induction n9 with
          | zero => intros; omega
          | succ n9 ih_5 =>
            intro i hi hn9 H locs hP hD hS ls hl
            refine lv_iload_n hx hb dX4_clear_26 rfl (lv_at hl 1 rfl) ?_
            refine lv_aload_n hx hb dX4_clear_27 rfl (lv_at hl 0 rfl) ?_
            refine va_get (D := D) (ci := 4) (v := .ref (a 6)) (C := RX4) (T := TX4) (N := 2) hx hb hts iX4 hown hK hP 0 rfl rfl 1 (by decide) (hts _ mg_59) (fun _ h9 => h9) rfl dX4_clear_28 ?_
            refine va_alen (v := nI 4) hx hb hK hP 2 0 rfl rfl rfl dX4_clear_31 ?_
            refine j_icmp_ge (tgt := 48) hx hb dX4_clear_32 (by decide) (nI_toInt (by omega)) (nI_toInt (by decide)) (fun c_6 => ?_) (fun c_6 => ?_)
            · have hP : va_P D vwCl (sW a cI (fillF B 16 (-1)) (fillF L 4 (nI 0))) H := Eq.mp (congrArg (fun z => va_P D vwCl z H) (congrArg (fun x => sW a cI (fillF B 16 (-1)) (fillF L x (nI 0))) (show i = 4 by omega))) hP
              have hD : va_D A (sW a cI (fillF B 16 (-1)) (fillF L 4 (nI 0))) := Eq.mp (congrArg (fun z => va_D A z) (congrArg (fun x => sW a cI (fillF B 16 (-1)) (fillF L x (nI 0))) (show i = 4 by omega))) hD
              exact rw_vret (wp := (fun _ : Unit => sW a cI (fillF B 16 (-1)) (fillF L 4 (nI 0)))) (post := (fun _ : Unit => True)) () hx hb hr hlocks hK hP hD hS (rfl) (trivial) dX4_clear_48
            · refine lv_aload_n hx hb dX4_clear_35 rfl (lv_at hl 0 rfl) ?_
              refine va_get (D := D) (ci := 4) (v := .ref (a 6)) (C := RX4) (T := TX4) (N := 2) hx hb hts iX4 hown hK hP 0 rfl rfl 1 (by decide) (hts _ mg_59) (fun _ h9 => h9) rfl dX4_clear_36 ?_
              refine lv_iload_n hx hb dX4_clear_39 rfl (lv_at hl 1 rfl) ?_
              refine lv_iconst (v := nI 0) hx hb dX4_clear_40 (by decide) ?_
              refine n_asti hx hb hK hP hD hS 2 0 rfl rfl (by omega) (by decide) dX4_clear_41 (fun H locs hP hD hS => ?_)
              have hP : va_P D vwCl (sW a cI (fillF B 16 (-1)) (fillF L (i + 1) (nI 0))) H := Eq.mp (congrArg (fun z => va_P D vwCl z H) (congrArg (fun z => sW a cI (fillF B 16 (-1)) z) fillF_s)) hP
              have hD : va_D A (sW a cI (fillF B 16 (-1)) (fillF L (i + 1) (nI 0))) := Eq.mp (congrArg (fun z => va_D A z) (congrArg (fun z => sW a cI (fillF B 16 (-1)) z) fillF_s)) hD
              refine lv_iinc (v := nI (i + 1)) (lv' := [(1, .int (nI (i + 1))), (0, .ref (a 4))]) hx hb dX4_clear_42 hl (k := 1) rfl (fr_inc1 _) (by decide) rfl (fun ls hl => ?_)
              refine lv_goto (tgt := 26) hx hb dX4_clear_45 (by decide) ?_
              exact ih_5 (i + 1) (by omega) (by omega) _ _ hP hD hS _ (lv_sub hl [1, 0] rfl)
        exact K_4 (4 - 0 + 1) 0 (by omega) (Nat.lt_succ_self _) _ _ hP hD hS _ (lv_sub hl [1, 0] rfl)
      · refine lv_aload_n hx hb dX4_clear_11 rfl (lv_at hl 0 rfl) ?_
        refine va_get (D := D) (ci := 4) (v := .ref (a 5)) (C := RX4) (T := TX4) (N := 2) hx hb hts iX4 hown hK hP 0 rfl rfl 0 (by decide) (hts _ mg_58) (fun _ h9 => h9) rfl dX4_clear_12 ?_
        refine lv_iload_n hx hb dX4_clear_15 rfl (lv_at hl 1 rfl) ?_
        refine lv_iconst (v := (-1)) hx hb dX4_clear_16 (by decide) ?_
        refine n_asti hx hb hK hP hD hS 1 0 rfl rfl (by omega) (by decide) dX4_clear_17 (fun H locs hP hD hS => ?_)
        have hP : va_P D vwCl (sW a cI (fillF B (i + 1) (-1)) L) H := Eq.mp (congrArg (fun z => va_P D vwCl z H) (congrArg (fun z => sW a cI z L) fillF_s)) hP
        have hD : va_D A (sW a cI (fillF B (i + 1) (-1)) L) := Eq.mp (congrArg (fun z => va_D A z) (congrArg (fun z => sW a cI z L) fillF_s)) hD
        refine lv_iinc (v := nI (i + 1)) (lv' := [(1, .int (nI (i + 1))), (0, .ref (a 4))]) hx hb dX4_clear_18 hl (k := 1) rfl (fr_inc1 _) (by decide) rfl (fun ls hl => ?_)
        refine lv_goto (tgt := 2) hx hb dX4_clear_21 (by decide) ?_
        exact ih_2 (i + 1) (by omega) (by omega) _ _ hP hD hS _ (lv_sub hl [1, 0] rfl)
  exact K_1 (16 - 0 + 1) 0 (by omega) (Nat.lt_succ_self _) _ _ hP hD hS _ (lv_sub hl [1, 0] rfl)

set_option maxHeartbeats 4000000 in
set_option maxRecDepth 100000 in
theorem c_X4_addBeat (l : Launch) (D : va_G) (a : Nat → Nat) (cI cT cN : ClassId) (sz : Nat) (B L : Nat → Int32) (b : Nat → Nat → Nat) (hSR : SR b B L) (v x : Nat) (hv : v < 4) (h4 : b v 0 < 4) : WV l yX4_addBeat (wA yX4_addBeat cX4_addBeat 4 none) ({ frames := 0, cells := 0, slots := 0, locals := 0 }) D (cTys cI cT cN) (sW a cI B L) sz [.ref (a 4), .int (nI v), .int (nI x)] (fun _ : Unit => True) (fun _ : Unit => sW a cI (upd B (v * 4 + b v 0) (nI x)) (upd L v (nI (b v 0 + 1)))) := by
  refine rw_startV (by decide) (Nat.le_of_ble_eq_true rfl) ?_
  intro p e s m args below meth c ls A F hP hK hD hA hS hl
  obtain ⟨hx, hb, hr, hlocks, hml, hown, hts⟩ := F
  have hown : s.vm.findClass RX4 = some m.cls := hown
  have hl : lv_has ls 4 [(0, .ref (a 4)), (1, .int (nI v)), (2, .int (nI x))] := hl
  refine lv_iload_n hx hb dX4_addBeat_0 rfl (lv_at hl 1 rfl) ?_
  refine j_if_lt (tgt := 13) hx hb dX4_addBeat_1 (by decide) (nI_toInt (by omega)) (fun c_1 => absurd c_1 (by omega)) (fun c_1 => ?_)
  refine lv_iload_n hx hb dX4_addBeat_4 rfl (lv_at hl 1 rfl) ?_
  refine lv_aload_n hx hb dX4_addBeat_5 rfl (lv_at hl 0 rfl) ?_
  refine va_get (D := D) (ci := 4) (v := .ref (a 6)) (C := RX4) (T := TX4) (N := 2) hx hb hts iX4 hown hK hP 0 rfl rfl 1 (by decide) (hts _ mg_59) (fun _ h9 => h9) rfl dX4_addBeat_6 ?_
  refine va_alen (v := nI 4) hx hb hK hP 2 0 rfl rfl rfl dX4_addBeat_9 ?_
  refine j_icmp_lt (tgt := 14) hx hb dX4_addBeat_10 (by decide) (nI_toInt (by omega)) (nI_toInt (by decide)) (fun c_2 => ?_) (fun c_2 => absurd c_2 (by omega))
  refine lv_iload_n hx hb dX4_addBeat_14 rfl (lv_at hl 1 rfl) ?_
  refine lv_iconst (v := nI 4) hx hb dX4_addBeat_15 (by decide) ?_
  refine n_imul hx hb dX4_addBeat_16 ?_
  refine lv_aload_n hx hb dX4_addBeat_17 rfl (lv_at hl 0 rfl) ?_
  refine va_get (D := D) (ci := 4) (v := .ref (a 6)) (C := RX4) (T := TX4) (N := 2) hx hb hts iX4 hown hK hP 0 rfl rfl 1 (by decide) (hts _ mg_59) (fun _ h9 => h9) rfl dX4_addBeat_18 ?_
  refine lv_iload_n hx hb dX4_addBeat_21 rfl (lv_at hl 1 rfl) ?_
  refine n_aldi hx hb hK hP 2 0 rfl rfl (by omega) (by decide) (v := nI (b v 0)) (SR_len hSR hv) dX4_addBeat_22 ?_
  refine n_iadd hx hb dX4_addBeat_23 ?_
  refine lv_istore_n (lv' := [(3, .int (nI ((v * 4) + (b v 0)))), (0, .ref (a 4)), (1, .int (nI v)), (2, .int (nI x))]) hx hb dX4_addBeat_24 rfl hl (by decide) rfl (fun ls hl => ?_)
  refine lv_aload_n hx hb dX4_addBeat_25 rfl (lv_at hl 1 rfl) ?_
  refine va_get (D := D) (ci := 4) (v := .ref (a 6)) (C := RX4) (T := TX4) (N := 2) hx hb hts iX4 hown hK hP 0 rfl rfl 1 (by decide) (hts _ mg_59) (fun _ h9 => h9) rfl dX4_addBeat_26 ?_
  refine lv_iload_n hx hb dX4_addBeat_29 rfl (lv_at hl 2 rfl) ?_
  refine n_aldi hx hb hK hP 2 0 rfl rfl (by omega) (by decide) (v := nI (b v 0)) (SR_len hSR hv) dX4_addBeat_30 ?_
  refine lv_iconst (v := nI 4) hx hb dX4_addBeat_31 (by decide) ?_
  refine j_icmp_ge (tgt := 48) hx hb dX4_addBeat_32 (by decide) (nI_toInt (by omega)) (nI_toInt (by decide)) (fun c_3 => absurd c_3 (by omega)) (fun c_3 => ?_)
  refine lv_iload_n hx hb dX4_addBeat_35 rfl (lv_at hl 0 rfl) ?_
  refine j_if_lt (tgt := 48) hx hb dX4_addBeat_36 (by decide) (nI_toInt (by omega)) (fun c_4 => absurd c_4 (by omega)) (fun c_4 => ?_)
  refine lv_iload_n hx hb dX4_addBeat_39 rfl (lv_at hl 0 rfl) ?_
  refine lv_aload_n hx hb dX4_addBeat_40 rfl (lv_at hl 1 rfl) ?_
  refine va_get (D := D) (ci := 4) (v := .ref (a 5)) (C := RX4) (T := TX4) (N := 2) hx hb hts iX4 hown hK hP 0 rfl rfl 0 (by decide) (hts _ mg_58) (fun _ h9 => h9) rfl dX4_addBeat_41 ?_
  refine va_alen (v := nI 16) hx hb hK hP 1 0 rfl rfl rfl dX4_addBeat_44 ?_
  refine j_icmp_lt (tgt := 49) hx hb dX4_addBeat_45 (by decide) (nI_toInt (by omega)) (nI_toInt (by decide)) (fun c_5 => ?_) (fun c_5 => absurd c_5 (by omega))
  refine lv_aload_n hx hb dX4_addBeat_49 rfl (lv_at hl 1 rfl) ?_
  refine va_get (D := D) (ci := 4) (v := .ref (a 5)) (C := RX4) (T := TX4) (N := 2) hx hb hts iX4 hown hK hP 0 rfl rfl 0 (by decide) (hts _ mg_58) (fun _ h9 => h9) rfl dX4_addBeat_50 ?_
  refine lv_iload_n hx hb dX4_addBeat_53 rfl (lv_at hl 0 rfl) ?_
  refine lv_iload_n hx hb dX4_addBeat_54 rfl (lv_at hl 3 rfl) ?_
  refine n_asti hx hb hK hP hD hS 1 0 rfl rfl (by omega) (by decide) dX4_addBeat_55 (fun H locs hP hD hS => ?_)
  have hP : va_P D vwCl (sW a cI (upd B ((v * 4) + (b v 0)) (nI x)) L) H := hP
  have hD : va_D A (sW a cI (upd B ((v * 4) + (b v 0)) (nI x)) L) := hD
  refine lv_aload_n hx hb dX4_addBeat_56 rfl (lv_at hl 1 rfl) ?_
  refine va_get (D := D) (ci := 4) (v := .ref (a 6)) (C := RX4) (T := TX4) (N := 2) hx hb hts iX4 hown hK hP 0 rfl rfl 1 (by decide) (hts _ mg_59) (fun _ h9 => h9) rfl dX4_addBeat_57 ?_
  refine lv_iload_n hx hb dX4_addBeat_60 rfl (lv_at hl 2 rfl) ?_
  refine lv_dup2_11 hx hb dX4_addBeat_61 rfl rfl ?_
  refine n_aldi hx hb hK hP 2 0 rfl rfl (by omega) (by decide) (v := nI (b v 0)) (SR_len hSR hv) dX4_addBeat_62 ?_
  refine lv_iconst (v := nI 1) hx hb dX4_addBeat_63 (by decide) ?_
  refine n_iadd hx hb dX4_addBeat_64 ?_
  refine n_asti hx hb hK hP hD hS 2 0 rfl rfl (by omega) (by decide) dX4_addBeat_65 (fun H locs hP hD hS => ?_)
  have hP : va_P D vwCl (sW a cI (upd B ((v * 4) + (b v 0)) (nI x)) (upd L v (nI ((b v 0) + 1)))) H := hP
  have hD : va_D A (sW a cI (upd B ((v * 4) + (b v 0)) (nI x)) (upd L v (nI ((b v 0) + 1)))) := hD
  exact rw_vret (wp := (fun _ : Unit => sW a cI (upd B (v * 4 + b v 0) (nI x)) (upd L v (nI (b v 0 + 1))))) (post := (fun _ : Unit => True)) () hx hb hr hlocks hK hP hD hS (rfl) (trivial) dX4_addBeat_66

set_option maxHeartbeats 4000000 in
set_option maxRecDepth 100000 in
theorem c_X6_readPage (l : Launch) (D : va_G) (a r k : Nat → Nat) (cI cT cN : ClassId) (sz : Nat) (xh xi xr pn : Nat) (pc : Nat → Int32) (rd : Nat × Nat × Nat) (B L : Nat → Int32) (q kq : RS) (h30 : pn ≤ 30) (hpg : ∀ k, k < pn → inr (pc k) 1 127) (hH : flt (pf pc) pn = pn) (hS0 : SRs (fun _ _ => 0) B L) : WV l yX6_readPage (wA yX6_readPage cX6_readPage 6 none) ({ frames := 2, cells := 0, slots := 0, locals := 47 }) D (cTys cI cT cN) (cW a r k cI cT cN xh xi xr pn pc rd B L (0, 0, nI 0, q.2.2.2.1, q.2.2.2.2) kq) sz [.ref (a 0)] (fun u : (Nat → Int32) × (Nat → Int32) => SRs (pb (pf pc) pn) u.1 u.2) (fun u : (Nat → Int32) × (Nat → Int32) => (cW a r k cI cT cN xh xi xr pn pc rd u.1 u.2 ((rdZ (pf pc) pn).2.1, 0, nI 0, pt (pf pc) q.2.2.2.1 pn, q.2.2.2.2) kq)) := by
  refine rw_startV (by decide) (Nat.le_of_ble_eq_true rfl) ?_
  intro p e s m args below meth c ls A F hP hK hD hA hS hl
  obtain ⟨hx, hb, hr, hlocks, hml, hown, hts⟩ := F
  have hown : s.vm.findClass RX6 = some m.cls := hown
  have hl : lv_has ls 6 [(0, .ref (a 0))] := hl
  refine lv_iconst (v := nI 0) hx hb dX6_readPage_0 (by decide) ?_
  refine lv_istore_n (lv' := [(1, .int (nI 0)), (0, .ref (a 0))]) hx hb dX6_readPage_1 rfl hl (by decide) rfl (fun ls hl => ?_)
  refine lv_iconst (v := nI 0) hx hb dX6_readPage_2 (by decide) ?_
  refine lv_istore_n (lv' := [(2, .int (nI 0)), (1, .int (nI 0)), (0, .ref (a 0))]) hx hb dX6_readPage_3 rfl hl (by decide) rfl (fun ls hl => ?_)
  refine lv_iconst (v := nI 0) hx hb dX6_readPage_4 (by decide) ?_
  refine lv_istore_n (lv' := [(3, .int (nI 0)), (2, .int (nI 0)), (1, .int (nI 0)), (0, .ref (a 0))]) hx hb dX6_readPage_5 rfl hl (by decide) rfl (fun ls hl => ?_)
  refine lv_iconst (v := nI 0) hx hb dX6_readPage_6 (by decide) ?_
  refine lv_istore (lv' := [(4, .int (nI 0)), (3, .int (nI 0)), (2, .int (nI 0)), (1, .int (nI 0)), (0, .ref (a 0))]) hx hb dX6_readPage_7 hl (by decide) rfl (fun ls hl => ?_)
  have K_1 : ∀ n9 : Nat, ∀ (i : Nat) (sy : Nat) (at9 : Nat) (kd : Nat) (B9 : Nat → Int32) (L9 : Nat → Int32) (q9 : RS), i ≤ pn → ((rdZ (pf pc) i).1 < 4 → at9 = 0) → (¬ (rdZ (pf pc) i).1 < 4 → at9 = 1) → ((rdZ (pf pc) i).1 < 4 → sy = (rdZ (pf pc) i).1) → kd = pk (pf pc) i → SRs (pb (pf pc) i) B9 L9 → q9 = ((rdZ (pf pc) i).2.1, 0, nI 0, pt (pf pc) q.2.2.2.1 i, q.2.2.2.2) → pn - i < n9 → ∀ (H : Heap) (locs : List Loc), va_P D vwCl (cW a r k cI cT cN xh xi xr pn pc rd B9 L9 q9 kq) H → va_D A (cW a r k cI cT cN xh xi xr pn pc rd B9 L9 q9 kq) → va_S A s.heap H locs → ∀ ls : Array Slot, lv_has ls 6 [(0, .ref (a 0)), (1, .int (nI at9)), (2, .int (nI sy)), (3, .int (nI kd)), (4, .int (nI i))] → W p l e (headSpec (wA yX6_readPage cX6_readPage 6 none) ({ frames := 2, cells := 0, slots := 0, locals := 47 })).room s m args below meth c H locs 0 0 (MQ below (va_Qv (fun u : (Nat → Int32) × (Nat → Int32) => SRs (pb (pf pc) pn) u.1 u.2) (fun u t => wB D (cTys cI cT cN) A ((fun u : (Nat → Int32) × (Nat → Int32) => (cW a r k cI cT cN xh xi xr pn pc rd u.1 u.2 ((rdZ (pf pc) pn).2.1, 0, nI 0, pt (pf pc) q.2.2.2.1 pn, q.2.2.2.2) kq)) u) t) A) args s 0 0 A) (F0 m 9 ls []) := by
    intro n9
    induction n9 with
    | zero => intros; omega
    | succ n9 ih_2 =>
      intro i sy at9 kd B9 L9 q9 hi hat0 hat1 hsy hkd hS9 hq9 hn9 H locs hP hD hS ls hl
      refine lv_iload hx hb dX6_readPage_9 (lv_at hl 4 rfl) ?_
      refine lv_aload_n hx hb dX6_readPage_11 rfl (lv_at hl 0 rfl) ?_
      refine va_get (D := D) (ci := 6) (v := .ref (a 1)) (C := RX6) (T := TX6) (N := 7) hx hb hts iX6 hown hK hP 0 rfl rfl 0 (by decide) (hts _ mg_151) (fun _ h9 => h9) rfl dX6_readPage_12 ?_
      refine va_get (D := D) (ci := 1) (v := .int (nI pn)) (C := RX1) (T := TX1) (N := 3) hx hb hts iX1 hown hK hP 1 rfl rfl 2 (by decide) (hts _ mg_44) (fun _ h9 => h9) rfl dX6_readPage_15 ?_
      refine j_icmp_ge (tgt := 121) hx hb dX6_readPage_18 (by decide) (nI_toInt (by omega)) (nI_toInt (by omega)) (fun c_3 => ?_) (fun c_3 => ?_)
      · exact rw_vret (wp := (fun u : (Nat → Int32) × (Nat → Int32) => (cW a r k cI cT cN xh xi xr pn pc rd u.1 u.2 ((rdZ (pf pc) pn).2.1, 0, nI 0, pt (pf pc) q.2.2.2.1 pn, q.2.2.2.2) kq))) (post := (fun u : (Nat → Int32) × (Nat → Int32) => SRs (pb (pf pc) pn) u.1 u.2)) (B9, L9) hx hb hr hlocks hK hP hD hS (by rw [hq9, show i = pn by omega]) (by rw [← show i = pn by omega]; exact hS9) dX6_readPage_121
      · refine lv_aload_n hx hb dX6_readPage_21 rfl (lv_at hl 0 rfl) ?_
        refine va_get (D := D) (ci := 6) (v := .ref (a 1)) (C := RX6) (T := TX6) (N := 7) hx hb hts iX6 hown hK hP 0 rfl rfl 0 (by decide) (hts _ mg_151) (fun _ h9 => h9) rfl dX6_readPage_22 ?_
        refine lv_iload hx hb dX6_readPage_25 (lv_at hl 4 rfl) ?_
        refine ro_iV (n := 1) (As := [.int (nI i)]) ⟨hx, hb, hml, hown, hts⟩ (c_X1_codeAt l D a cI cT cN pn pc rd i (by omega) h30) (cwV 1 hts (gV mg_248 mg_202 mg_203 mg_2 mg_204) rfl rfl rfl vd_X1_codeAt ⟨Nat.le_of_ble_eq_true rfl, Nat.le_of_ble_eq_true rfl⟩) (va_recv hK hP (ci := 1) (q0 := 1) rfl rfl) hK (cW_p hP) rfl hl.1 rfl (Nat.le_of_ble_eq_true rfl) dX6_readPage_27 ⟨Nat.zero_le _, Nat.zero_le _⟩ ?_
        obtain ⟨hj8, hj9⟩ := pg_nat (hpg i (by omega))
        refine n_top hj8 ?_
        obtain ⟨hfi, hacc⟩ := flt_pre (flt_down (m := i + 1) (pn - (i + 1)) (by rw [show i + 1 + (pn - (i + 1)) = pn by omega]; exact hH))
        obtain ⟨i1, i2, i3, i4, i5, i6⟩ := pInv_at (pf pc) q.2.2.2.1 i hfi
        refine lv_istore (lv' := [(5, .int (nI (pf pc i))), (0, .ref (a 0)), (1, .int (nI at9)), (2, .int (nI sy)), (3, .int (nI kd)), (4, .int (nI i))]) hx hb dX6_readPage_30 hl (by decide) rfl (fun ls hl => ?_)
        rcases acc i1 hacc with ⟨a1, a2, a3⟩ | ⟨a1, a2, a3⟩ | ⟨a1, a2, a3⟩ | ⟨a1, a2, a3, a4⟩ | ⟨a1, a2, a3, a4⟩ | ⟨a1, a2, a3, a4, a5⟩
        · have hz9 : rdZ (pf pc) (i + 1) = ((rdZ (pf pc) i).1, (rdZ (pf pc) i).2.1, (rdZ (pf pc) i).2.2 + 1) := by show rdS (rdZ (pf pc) i) (pf pc i) = _; unfold rdS; rw [if_pos a1, if_pos a2]
          have hb9 : pb (pf pc) (i + 1) = bAdd (pb (pf pc) i) (rdZ (pf pc) i).1 (if (pf pc i) = 108 then 1 else 0) := by show (if (rdZ (pf pc) i).1 < 4 ∧ ((pf pc i) = 115 ∨ (pf pc i) = 108) then _ else _) = _; rw [if_pos ⟨a1, a2⟩]
          have hk9 : pk (pf pc) (i + 1) = pk (pf pc) i := by show (if ¬ (rdZ (pf pc) i).1 < 4 ∧ (rdZ (pf pc) i).2.2 = 0 then _ else _) = _; rw [if_neg (by omega)]
          have ht9 : pt (pf pc) q.2.2.2.1 (i + 1) = pt (pf pc) q.2.2.2.1 i := by show (if ¬ (rdZ (pf pc) i).1 < 4 ∧ (rdZ (pf pc) i).2.2 = 1 then _ else _) = _; rw [if_neg (by omega)]
          refine lv_iload hx hb dX6_readPage_32 (lv_at hl 0 rfl) ?_
          refine lv_bipush (v := nI 44) hx hb dX6_readPage_34 (by decide) ?_
          refine j_icmp_ne (tgt := 45) hx hb dX6_readPage_36 (by decide) (nI_toInt (by omega)) (nI_toInt (by decide)) (fun c_4 => ?_) (fun c_4 => absurd c_4 (by omega))
          refine lv_iload hx hb dX6_readPage_45 (lv_at hl 0 rfl) ?_
          refine lv_bipush (v := nI 59) hx hb dX6_readPage_47 (by decide) ?_
          refine j_icmp_ne (tgt := 57) hx hb dX6_readPage_49 (by decide) (nI_toInt (by omega)) (nI_toInt (by decide)) (fun c_5 => ?_) (fun c_5 => absurd c_5 (by omega))
          refine lv_iload_n hx hb dX6_readPage_57 rfl (lv_at hl 2 rfl) ?_
          refine j_if_ne (tgt := 84) hx hb dX6_readPage_58 (by decide) (nI_toInt (by omega)) (fun c_6 => absurd c_6 (by omega)) (fun c_6 => ?_)
          have hsy9 := hsy a1
          subst hsy9
          refine lv_aload_n hx hb dX6_readPage_61 rfl (lv_at hl 1 rfl) ?_
          refine va_get (D := D) (ci := 6) (v := .ref (a 4)) (C := RX6) (T := TX6) (N := 7) hx hb hts iX6 hown hK hP 0 rfl rfl 1 (by decide) (hts _ mg_152) (fun _ h9 => h9) rfl dX6_readPage_62 ?_
          refine lv_iload_n hx hb dX6_readPage_65 rfl (lv_at hl 3 rfl) ?_
          refine lv_iload hx hb dX6_readPage_66 (lv_at hl 0 rfl) ?_
          refine lv_bipush (v := nI 108) hx hb dX6_readPage_68 (by decide) ?_
          refine j_icmp_ne (tgt := 77) hx hb dX6_readPage_70 (by decide) (nI_toInt (by omega)) (nI_toInt (by decide)) (fun c_7 => ?_) (fun c_7 => ?_)
          · refine lv_iconst (v := nI 0) hx hb dX6_readPage_77 (by decide) ?_
            obtain ⟨j1, j2, j3, j4⟩ := i2 a1
            have hb4 : pb (pf pc) i (rdZ (pf pc) i).1 0 < 4 := by omega
            have hb40 : ∀ u, u < 4 → pb (pf pc) i u 0 ≤ 4 := by intro u hu; rcases Nat.lt_trichotomy u (rdZ (pf pc) i).1 with g1 | g1 | g1 <;> first | exact (i3 u hu g1).2 | (rw [g1, j3]; omega) | (rw [j4 u g1]; decide)
            refine rw_vV (X := ([mainC a r k xh xi xr] ++ pW a cI pn pc rd)) (Y := (rW r cT cN q9 ++ rW k cT cN kq)) (n := 2) (As := [.int (nI ((rdZ (pf pc) i).1)), .int (nI 0)]) ⟨hx, hb, hml, hown, hts⟩ (c_X4_addBeat l D a cI cT cN _ _ _ (pb (pf pc) i) (SRs_w hS9) (rdZ (pf pc) i).1 0 a1 hb4) (cwV 2 hts (gV mg_249 mg_250 mg_251 mg_4 mg_252) rfl rfl rfl vd_X4_addBeat ⟨Nat.le_of_ble_eq_true rfl, Nat.le_of_ble_eq_true rfl⟩) (va_recv hK hP (ci := 4) (q0 := 4) rfl rfl) hK hP hD hS hA rfl hl.1 rfl (Nat.le_of_ble_eq_true rfl) dX6_readPage_78 ⟨Nat.zero_le _, Nat.zero_le _⟩ (fun u_8 H locs w_9 hP hD hS => ?_)
            have hS8 : SRs (pb (pf pc) (i + 1)) (upd B9 ((rdZ (pf pc) i).1 * 4 + pb (pf pc) i (rdZ (pf pc) i).1 0) (nI 0)) (upd L9 (rdZ (pf pc) i).1 (nI (pb (pf pc) i (rdZ (pf pc) i).1 0 + 1))) := by rw [hb9, if_neg (by omega)]; exact SR_add hS9 a1 hb4 hb40
            have hP : va_P D vwCl (cW a r k cI cT cN xh xi xr pn pc rd (upd B9 ((rdZ (pf pc) i).1 * 4 + pb (pf pc) i (rdZ (pf pc) i).1 0) (nI 0)) (upd L9 (rdZ (pf pc) i).1 (nI (pb (pf pc) i (rdZ (pf pc) i).1 0 + 1))) q9 kq) H := hP
            have hD : va_D A (cW a r k cI cT cN xh xi xr pn pc rd (upd B9 ((rdZ (pf pc) i).1 * 4 + pb (pf pc) i (rdZ (pf pc) i).1 0) (nI 0)) (upd L9 (rdZ (pf pc) i).1 (nI (pb (pf pc) i (rdZ (pf pc) i).1 0 + 1))) q9 kq) := hD
            refine lv_goto (tgt := 115) hx hb dX6_readPage_81 (by decide) ?_
            refine lv_iinc (v := nI (i + 1)) (lv' := [(4, .int (nI (i + 1))), (5, .int (nI (pf pc i))), (0, .ref (a 0)), (1, .int (nI at9)), (2, .int (nI ((rdZ (pf pc) i).1))), (3, .int (nI kd))]) hx hb dX6_readPage_115 hl (k := 5) rfl (fr_inc1 _) (by decide) rfl (fun ls hl => ?_)
            refine lv_goto (tgt := 9) hx hb dX6_readPage_118 (by decide) ?_
            exact ih_2 (i + 1) ((rdZ (pf pc) i).1) at9 kd (upd B9 ((rdZ (pf pc) i).1 * 4 + pb (pf pc) i (rdZ (pf pc) i).1 0) (nI 0)) (upd L9 (rdZ (pf pc) i).1 (nI (pb (pf pc) i (rdZ (pf pc) i).1 0 + 1))) q9 (by omega) (by rw [hz9]; dsimp only; intro y; omega) (by rw [hz9]; dsimp only; intro y; omega) (by rw [hz9]; dsimp only; intro y; omega) (by first | exact hk9.symm | exact hkd.trans hk9.symm) (hS8) (by rw [hq9, hz9, ht9]) (by omega) _ _ hP hD hS _ (lv_sub hl [2, 3, 4, 5, 0] rfl)
          · refine lv_iconst (v := nI 1) hx hb dX6_readPage_73 (by decide) ?_
            refine lv_goto (tgt := 78) hx hb dX6_readPage_74 (by decide) ?_
            obtain ⟨j1, j2, j3, j4⟩ := i2 a1
            have hb4 : pb (pf pc) i (rdZ (pf pc) i).1 0 < 4 := by omega
            have hb40 : ∀ u, u < 4 → pb (pf pc) i u 0 ≤ 4 := by intro u hu; rcases Nat.lt_trichotomy u (rdZ (pf pc) i).1 with g1 | g1 | g1 <;> first | exact (i3 u hu g1).2 | (rw [g1, j3]; omega) | (rw [j4 u g1]; decide)
            refine rw_vV (X := ([mainC a r k xh xi xr] ++ pW a cI pn pc rd)) (Y := (rW r cT cN q9 ++ rW k cT cN kq)) (n := 2) (As := [.int (nI ((rdZ (pf pc) i).1)), .int (nI 1)]) ⟨hx, hb, hml, hown, hts⟩ (c_X4_addBeat l D a cI cT cN _ _ _ (pb (pf pc) i) (SRs_w hS9) (rdZ (pf pc) i).1 1 a1 hb4) (cwV 2 hts (gV mg_249 mg_250 mg_251 mg_4 mg_252) rfl rfl rfl vd_X4_addBeat ⟨Nat.le_of_ble_eq_true rfl, Nat.le_of_ble_eq_true rfl⟩) (va_recv hK hP (ci := 4) (q0 := 4) rfl rfl) hK hP hD hS hA rfl hl.1 rfl (Nat.le_of_ble_eq_true rfl) dX6_readPage_78 ⟨Nat.zero_le _, Nat.zero_le _⟩ (fun u_10 H locs w_11 hP hD hS => ?_)
            have hS8 : SRs (pb (pf pc) (i + 1)) (upd B9 ((rdZ (pf pc) i).1 * 4 + pb (pf pc) i (rdZ (pf pc) i).1 0) (nI 1)) (upd L9 (rdZ (pf pc) i).1 (nI (pb (pf pc) i (rdZ (pf pc) i).1 0 + 1))) := by rw [hb9, if_pos (by omega)]; exact SR_add hS9 a1 hb4 hb40
            have hP : va_P D vwCl (cW a r k cI cT cN xh xi xr pn pc rd (upd B9 ((rdZ (pf pc) i).1 * 4 + pb (pf pc) i (rdZ (pf pc) i).1 0) (nI 1)) (upd L9 (rdZ (pf pc) i).1 (nI (pb (pf pc) i (rdZ (pf pc) i).1 0 + 1))) q9 kq) H := hP
            have hD : va_D A (cW a r k cI cT cN xh xi xr pn pc rd (upd B9 ((rdZ (pf pc) i).1 * 4 + pb (pf pc) i (rdZ (pf pc) i).1 0) (nI 1)) (upd L9 (rdZ (pf pc) i).1 (nI (pb (pf pc) i (rdZ (pf pc) i).1 0 + 1))) q9 kq) := hD
            refine lv_goto (tgt := 115) hx hb dX6_readPage_81 (by decide) ?_
            refine lv_iinc (v := nI (i + 1)) (lv' := [(4, .int (nI (i + 1))), (5, .int (nI (pf pc i))), (0, .ref (a 0)), (1, .int (nI at9)), (2, .int (nI ((rdZ (pf pc) i).1))), (3, .int (nI kd))]) hx hb dX6_readPage_115 hl (k := 5) rfl (fr_inc1 _) (by decide) rfl (fun ls hl => ?_)
            refine lv_goto (tgt := 9) hx hb dX6_readPage_118 (by decide) ?_
            exact ih_2 (i + 1) ((rdZ (pf pc) i).1) at9 kd (upd B9 ((rdZ (pf pc) i).1 * 4 + pb (pf pc) i (rdZ (pf pc) i).1 0) (nI 1)) (upd L9 (rdZ (pf pc) i).1 (nI (pb (pf pc) i (rdZ (pf pc) i).1 0 + 1))) q9 (by omega) (by rw [hz9]; dsimp only; intro y; omega) (by rw [hz9]; dsimp only; intro y; omega) (by rw [hz9]; dsimp only; intro y; omega) (by first | exact hk9.symm | exact hkd.trans hk9.symm) (hS8) (by rw [hq9, hz9, ht9]) (by omega) _ _ hP hD hS _ (lv_sub hl [2, 3, 4, 5, 0] rfl)
        · have hz9 : rdZ (pf pc) (i + 1) = ((rdZ (pf pc) i).1 + 1, (rdZ (pf pc) i).2.1, 0) := by show rdS (rdZ (pf pc) i) (pf pc i) = _; unfold rdS; rw [if_pos (by omega), if_neg (by omega), if_pos ⟨a3, by rw [show clo (rdZ (pf pc) i).1 = 59 from if_pos a1]; exact a2⟩]
          have hb9 : pb (pf pc) (i + 1) = pb (pf pc) i := by show (if (rdZ (pf pc) i).1 < 4 ∧ ((pf pc i) = 115 ∨ (pf pc i) = 108) then _ else _) = _; rw [if_neg (by omega)]
          have hk9 : pk (pf pc) (i + 1) = pk (pf pc) i := by show (if ¬ (rdZ (pf pc) i).1 < 4 ∧ (rdZ (pf pc) i).2.2 = 0 then _ else _) = _; rw [if_neg (by omega)]
          have ht9 : pt (pf pc) q.2.2.2.1 (i + 1) = pt (pf pc) q.2.2.2.1 i := by show (if ¬ (rdZ (pf pc) i).1 < 4 ∧ (rdZ (pf pc) i).2.2 = 1 then _ else _) = _; rw [if_neg (by omega)]
          refine lv_iload hx hb dX6_readPage_32 (lv_at hl 0 rfl) ?_
          refine lv_bipush (v := nI 44) hx hb dX6_readPage_34 (by decide) ?_
          refine j_icmp_ne (tgt := 45) hx hb dX6_readPage_36 (by decide) (nI_toInt (by omega)) (nI_toInt (by decide)) (fun c_12 => ?_) (fun c_12 => absurd c_12 (by omega))
          refine lv_iload hx hb dX6_readPage_45 (lv_at hl 0 rfl) ?_
          refine lv_bipush (v := nI 59) hx hb dX6_readPage_47 (by decide) ?_
          refine j_icmp_ne (tgt := 57) hx hb dX6_readPage_49 (by decide) (nI_toInt (by omega)) (nI_toInt (by decide)) (fun c_13 => absurd c_13 (by omega)) (fun c_13 => ?_)
          refine lv_iconst (v := nI 1) hx hb dX6_readPage_52 (by decide) ?_
          refine lv_istore_n (lv' := [(1, .int (nI 1)), (5, .int (nI (pf pc i))), (0, .ref (a 0)), (2, .int (nI sy)), (3, .int (nI kd)), (4, .int (nI i))]) hx hb dX6_readPage_53 rfl hl (by decide) rfl (fun ls hl => ?_)
          refine lv_goto (tgt := 115) hx hb dX6_readPage_54 (by decide) ?_
          refine lv_iinc (v := nI (i + 1)) (lv' := [(4, .int (nI (i + 1))), (1, .int (nI 1)), (5, .int (nI (pf pc i))), (0, .ref (a 0)), (2, .int (nI sy)), (3, .int (nI kd))]) hx hb dX6_readPage_115 hl (k := 5) rfl (fr_inc1 _) (by decide) rfl (fun ls hl => ?_)
          refine lv_goto (tgt := 9) hx hb dX6_readPage_118 (by decide) ?_
          exact ih_2 (i + 1) sy 1 kd B9 L9 q9 (by omega) (by rw [hz9]; dsimp only; intro y; omega) (by rw [hz9]; dsimp only; intro y; omega) (by rw [hz9]; dsimp only; intro y; omega) (by first | exact hk9.symm | exact hkd.trans hk9.symm) (by rw [hb9]; exact hS9) (by rw [hq9, hz9, ht9]) (by omega) _ _ hP hD hS _ (lv_sub hl [3, 1, 4, 5, 0] rfl)
        · have hz9 : rdZ (pf pc) (i + 1) = ((rdZ (pf pc) i).1 + 1, (rdZ (pf pc) i).2.1, 0) := by show rdS (rdZ (pf pc) i) (pf pc i) = _; unfold rdS; rw [if_pos (by omega), if_neg (by omega), if_pos ⟨a3, by rw [show clo (rdZ (pf pc) i).1 = 44 from if_neg (by omega)]; exact a2⟩]
          have hb9 : pb (pf pc) (i + 1) = pb (pf pc) i := by show (if (rdZ (pf pc) i).1 < 4 ∧ ((pf pc i) = 115 ∨ (pf pc i) = 108) then _ else _) = _; rw [if_neg (by omega)]
          have hk9 : pk (pf pc) (i + 1) = pk (pf pc) i := by show (if ¬ (rdZ (pf pc) i).1 < 4 ∧ (rdZ (pf pc) i).2.2 = 0 then _ else _) = _; rw [if_neg (by omega)]
          have ht9 : pt (pf pc) q.2.2.2.1 (i + 1) = pt (pf pc) q.2.2.2.1 i := by show (if ¬ (rdZ (pf pc) i).1 < 4 ∧ (rdZ (pf pc) i).2.2 = 1 then _ else _) = _; rw [if_neg (by omega)]
          refine lv_iload hx hb dX6_readPage_32 (lv_at hl 0 rfl) ?_
          refine lv_bipush (v := nI 44) hx hb dX6_readPage_34 (by decide) ?_
          refine j_icmp_ne (tgt := 45) hx hb dX6_readPage_36 (by decide) (nI_toInt (by omega)) (nI_toInt (by decide)) (fun c_14 => absurd c_14 (by omega)) (fun c_14 => ?_)
          refine lv_iinc (v := nI (sy + 1)) (lv' := [(2, .int (nI (sy + 1))), (5, .int (nI (pf pc i))), (0, .ref (a 0)), (1, .int (nI at9)), (3, .int (nI kd)), (4, .int (nI i))]) hx hb dX6_readPage_39 hl (k := 3) rfl (fr_inc1 _) (by decide) rfl (fun ls hl => ?_)
          refine lv_goto (tgt := 115) hx hb dX6_readPage_42 (by decide) ?_
          refine lv_iinc (v := nI (i + 1)) (lv' := [(4, .int (nI (i + 1))), (2, .int (nI (sy + 1))), (5, .int (nI (pf pc i))), (0, .ref (a 0)), (1, .int (nI at9)), (3, .int (nI kd))]) hx hb dX6_readPage_115 hl (k := 5) rfl (fr_inc1 _) (by decide) rfl (fun ls hl => ?_)
          refine lv_goto (tgt := 9) hx hb dX6_readPage_118 (by decide) ?_
          exact ih_2 (i + 1) (sy + 1) at9 kd B9 L9 q9 (by omega) (by rw [hz9]; dsimp only; intro y; omega) (by rw [hz9]; dsimp only; intro y; omega) (by rw [hz9]; dsimp only; intro y; omega) (by first | exact hk9.symm | exact hkd.trans hk9.symm) (by rw [hb9]; exact hS9) (by rw [hq9, hz9, ht9]) (by omega) _ _ hP hD hS _ (lv_sub hl [3, 4, 1, 5, 0] rfl)
        · have hz9 : rdZ (pf pc) (i + 1) = ((rdZ (pf pc) i).1, (rdZ (pf pc) i).2.1, 1) := by show rdS (rdZ (pf pc) i) (pf pc i) = _; unfold rdS; rw [if_neg (by omega), if_pos a2]
          have hb9 : pb (pf pc) (i + 1) = pb (pf pc) i := by show (if (rdZ (pf pc) i).1 < 4 ∧ ((pf pc i) = 115 ∨ (pf pc i) = 108) then _ else _) = _; rw [if_neg (by omega)]
          have hk9 : pk (pf pc) (i + 1) = knN (pf pc i) := by show (if ¬ (rdZ (pf pc) i).1 < 4 ∧ (rdZ (pf pc) i).2.2 = 0 then _ else _) = _; rw [if_pos (by omega)]
          have ht9 : pt (pf pc) q.2.2.2.1 (i + 1) = pt (pf pc) q.2.2.2.1 i := by show (if ¬ (rdZ (pf pc) i).1 < 4 ∧ (rdZ (pf pc) i).2.2 = 1 then _ else _) = _; rw [if_neg (by omega)]
          refine lv_iload hx hb dX6_readPage_32 (lv_at hl 0 rfl) ?_
          refine lv_bipush (v := nI 44) hx hb dX6_readPage_34 (by decide) ?_
          refine j_icmp_ne (tgt := 45) hx hb dX6_readPage_36 (by decide) (nI_toInt (by omega)) (nI_toInt (by decide)) (fun c_15 => ?_) (fun c_15 => absurd c_15 (by omega))
          refine lv_iload hx hb dX6_readPage_45 (lv_at hl 0 rfl) ?_
          refine lv_bipush (v := nI 59) hx hb dX6_readPage_47 (by decide) ?_
          refine j_icmp_ne (tgt := 57) hx hb dX6_readPage_49 (by decide) (nI_toInt (by omega)) (nI_toInt (by decide)) (fun c_16 => ?_) (fun c_16 => absurd c_16 (by omega))
          refine lv_iload_n hx hb dX6_readPage_57 rfl (lv_at hl 2 rfl) ?_
          refine j_if_ne (tgt := 84) hx hb dX6_readPage_58 (by decide) (nI_toInt (by omega)) (fun c_17 => ?_) (fun c_17 => absurd c_17 (by omega))
          refine lv_iload hx hb dX6_readPage_84 (lv_at hl 0 rfl) ?_
          refine ro_iS (n := 1) (As := [.int (nI (pf pc i))]) ⟨hx, hb, hml, hown, hts⟩ (c_X6_kolA l D (pf pc i) hj9 a3) (cwS 1 hts (gS mg_253 mg_218 mg_1 mg_219) rfl rfl rfl vd_X6_kindOfLetter ⟨Nat.le_of_ble_eq_true rfl, Nat.le_of_ble_eq_true rfl⟩)  (hK.sub [] rfl) (fun k q h => by simp at h) rfl hl.1 rfl (Nat.le_of_ble_eq_true rfl) dX6_readPage_86 ⟨Nat.zero_le _, Nat.zero_le _⟩ ?_
          refine lv_iconst (v := (-1)) hx hb dX6_readPage_89 (by decide) ?_
          refine j_icmp_eq (tgt := 102) hx hb dX6_readPage_90 (by decide) (nI_toInt (by omega)) (show ((-1) : Int32).toInt = -1 from by decide) (fun c_18 => absurd c_18 (by omega)) (fun c_18 => ?_)
          refine lv_iload hx hb dX6_readPage_93 (lv_at hl 0 rfl) ?_
          refine ro_iS (n := 1) (As := [.int (nI (pf pc i))]) ⟨hx, hb, hml, hown, hts⟩ (c_X6_kolA l D (pf pc i) hj9 a3) (cwS 1 hts (gS mg_253 mg_218 mg_1 mg_219) rfl rfl rfl vd_X6_kindOfLetter ⟨Nat.le_of_ble_eq_true rfl, Nat.le_of_ble_eq_true rfl⟩)  (hK.sub [] rfl) (fun k q h => by simp at h) rfl hl.1 rfl (Nat.le_of_ble_eq_true rfl) dX6_readPage_95 ⟨Nat.zero_le _, Nat.zero_le _⟩ ?_
          refine lv_istore_n (lv' := [(3, .int (nI (knN (pf pc i)))), (5, .int (nI (pf pc i))), (0, .ref (a 0)), (1, .int (nI at9)), (2, .int (nI sy)), (4, .int (nI i))]) hx hb dX6_readPage_98 rfl hl (by decide) rfl (fun ls hl => ?_)
          refine lv_goto (tgt := 115) hx hb dX6_readPage_99 (by decide) ?_
          refine lv_iinc (v := nI (i + 1)) (lv' := [(4, .int (nI (i + 1))), (3, .int (nI (knN (pf pc i)))), (5, .int (nI (pf pc i))), (0, .ref (a 0)), (1, .int (nI at9)), (2, .int (nI sy))]) hx hb dX6_readPage_115 hl (k := 5) rfl (fr_inc1 _) (by decide) rfl (fun ls hl => ?_)
          refine lv_goto (tgt := 9) hx hb dX6_readPage_118 (by decide) ?_
          exact ih_2 (i + 1) sy at9 (knN (pf pc i)) B9 L9 q9 (by omega) (by rw [hz9]; dsimp only; intro y; omega) (by rw [hz9]; dsimp only; intro y; omega) (by rw [hz9]; dsimp only; intro y; omega) (by first | exact hk9.symm | exact hkd.trans hk9.symm) (by rw [hb9]; exact hS9) (by rw [hq9, hz9, ht9]) (by omega) _ _ hP hD hS _ (lv_sub hl [3, 4, 5, 1, 0] rfl)
        · have hz9 : rdZ (pf pc) (i + 1) = ((rdZ (pf pc) i).1, (rdZ (pf pc) i).2.1 + 1, 2) := by show rdS (rdZ (pf pc) i) (pf pc i) = _; unfold rdS; rw [if_neg (by omega), if_neg (by omega), if_pos a2]
          have hb9 : pb (pf pc) (i + 1) = pb (pf pc) i := by show (if (rdZ (pf pc) i).1 < 4 ∧ ((pf pc i) = 115 ∨ (pf pc i) = 108) then _ else _) = _; rw [if_neg (by omega)]
          have hk9 : pk (pf pc) (i + 1) = pk (pf pc) i := by show (if ¬ (rdZ (pf pc) i).1 < 4 ∧ (rdZ (pf pc) i).2.2 = 0 then _ else _) = _; rw [if_neg (by omega)]
          have ht9 : pt (pf pc) q.2.2.2.1 (i + 1) = upR (pt (pf pc) q.2.2.2.1 i) (rdZ (pf pc) i).2.1 (rw4 (pk (pf pc) i) ((pf pc i) - 48) 0 0) := by show (if ¬ (rdZ (pf pc) i).1 < 4 ∧ (rdZ (pf pc) i).2.2 = 1 then _ else _) = _; rw [if_pos (by omega)]
          refine lv_iload hx hb dX6_readPage_32 (lv_at hl 0 rfl) ?_
          refine lv_bipush (v := nI 44) hx hb dX6_readPage_34 (by decide) ?_
          refine j_icmp_ne (tgt := 45) hx hb dX6_readPage_36 (by decide) (nI_toInt (by omega)) (nI_toInt (by decide)) (fun c_19 => ?_) (fun c_19 => absurd c_19 (by omega))
          refine lv_iload hx hb dX6_readPage_45 (lv_at hl 0 rfl) ?_
          refine lv_bipush (v := nI 59) hx hb dX6_readPage_47 (by decide) ?_
          refine j_icmp_ne (tgt := 57) hx hb dX6_readPage_49 (by decide) (nI_toInt (by omega)) (nI_toInt (by decide)) (fun c_20 => ?_) (fun c_20 => absurd c_20 (by omega))
          refine lv_iload_n hx hb dX6_readPage_57 rfl (lv_at hl 2 rfl) ?_
          refine j_if_ne (tgt := 84) hx hb dX6_readPage_58 (by decide) (nI_toInt (by omega)) (fun c_21 => ?_) (fun c_21 => absurd c_21 (by omega))
          refine lv_iload hx hb dX6_readPage_84 (lv_at hl 0 rfl) ?_
          refine ro_iS (n := 1) (As := [.int (nI (pf pc i))]) ⟨hx, hb, hml, hown, hts⟩ (c_X6_kolB l D (pf pc i) hj9 (knN_digit (by omega))) (cwS 1 hts (gS mg_253 mg_218 mg_1 mg_219) rfl rfl rfl vd_X6_kindOfLetter ⟨Nat.le_of_ble_eq_true rfl, Nat.le_of_ble_eq_true rfl⟩)  (hK.sub [] rfl) (fun k q h => by simp at h) rfl hl.1 rfl (Nat.le_of_ble_eq_true rfl) dX6_readPage_86 ⟨Nat.zero_le _, Nat.zero_le _⟩ ?_
          refine lv_iconst (v := (-1)) hx hb dX6_readPage_89 (by decide) ?_
          refine j_icmp_eq (tgt := 102) hx hb dX6_readPage_90 (by decide) (show ((-1) : Int32).toInt = -1 from by decide) (show ((-1) : Int32).toInt = -1 from by decide) (fun c_22 => ?_) (fun c_22 => absurd c_22 (by omega))
          refine lv_aload_n hx hb dX6_readPage_102 rfl (lv_at hl 1 rfl) ?_
          refine va_get (D := D) (ci := 6) (v := .ref (r 0)) (C := RX6) (T := TX6) (N := 7) hx hb hts iX6 hown hK hP 0 rfl rfl 2 (by decide) (hts _ mg_153) (fun _ h9 => h9) rfl dX6_readPage_103 ?_
          refine lv_iload_n hx hb dX6_readPage_106 rfl (lv_at hl 4 rfl) ?_
          refine lv_iload hx hb dX6_readPage_107 (lv_at hl 0 rfl) ?_
          refine lv_bipush (v := nI 48) hx hb dX6_readPage_109 (by decide) ?_
          refine n_isub hx hb dX6_readPage_111 (by omega) ?_
          refine rw_vV (X := ([mainC a r k xh xi xr] ++ (pW a cI pn pc rd ++ sW a cI B9 L9))) (Y := (rW k cT cN kq)) (n := 2) (As := [.int (nI kd), .int (nI ((pf pc i) - 48))]) ⟨hx, hb, hml, hown, hts⟩ (c_X3_addTap l D r cI cT cN _ q9 kd ((pf pc i) - 48) (by rw [hq9]; dsimp only; omega)) (cwV 2 hts (gV mg_254 mg_255 mg_256 mg_5 mg_257) rfl rfl rfl vd_X3_addTap ⟨Nat.le_of_ble_eq_true rfl, Nat.le_of_ble_eq_true rfl⟩) (va_recv hK hP (ci := 3) (q0 := 7) rfl rfl) hK hP hD hS hA rfl hl.1 rfl (Nat.le_of_ble_eq_true rfl) dX6_readPage_112 ⟨Nat.zero_le _, Nat.zero_le _⟩ (fun u_23 H locs w_24 hP hD hS => ?_)
          have hP : va_P D vwCl (cW a r k cI cT cN xh xi xr pn pc rd B9 L9 (q9.1 + 1, q9.2.1, q9.2.2.1, upR q9.2.2.2.1 q9.1 (rw4 kd ((pf pc i) - 48) 0 0), q9.2.2.2.2) kq) H := hP
          have hD : va_D A (cW a r k cI cT cN xh xi xr pn pc rd B9 L9 (q9.1 + 1, q9.2.1, q9.2.2.1, upR q9.2.2.2.1 q9.1 (rw4 kd ((pf pc i) - 48) 0 0), q9.2.2.2.2) kq) := hD
          refine lv_iinc (v := nI (i + 1)) (lv' := [(4, .int (nI (i + 1))), (5, .int (nI (pf pc i))), (0, .ref (a 0)), (1, .int (nI at9)), (2, .int (nI sy)), (3, .int (nI kd))]) hx hb dX6_readPage_115 hl (k := 5) rfl (fr_inc1 _) (by decide) rfl (fun ls hl => ?_)
          refine lv_goto (tgt := 9) hx hb dX6_readPage_118 (by decide) ?_
          exact ih_2 (i + 1) sy at9 kd B9 L9 (q9.1 + 1, q9.2.1, q9.2.2.1, upR q9.2.2.2.1 q9.1 (rw4 kd ((pf pc i) - 48) 0 0), q9.2.2.2.2) (by omega) (by rw [hz9]; dsimp only; intro y; omega) (by rw [hz9]; dsimp only; intro y; omega) (by rw [hz9]; dsimp only; intro y; omega) (by first | exact hk9.symm | exact hkd.trans hk9.symm) (by rw [hb9]; exact hS9) (by rw [hq9, hz9, ht9, ← hkd]) (by omega) _ _ hP hD hS _ (lv_sub hl [2, 3, 4, 5, 0] rfl)
        · have hz9 : rdZ (pf pc) (i + 1) = ((rdZ (pf pc) i).1, (rdZ (pf pc) i).2.1, 0) := by show rdS (rdZ (pf pc) i) (pf pc i) = _; unfold rdS; rw [if_neg (by omega), if_neg a2, if_neg a3]
          have hb9 : pb (pf pc) (i + 1) = pb (pf pc) i := by show (if (rdZ (pf pc) i).1 < 4 ∧ ((pf pc i) = 115 ∨ (pf pc i) = 108) then _ else _) = _; rw [if_neg (by omega)]
          have hk9 : pk (pf pc) (i + 1) = pk (pf pc) i := by show (if ¬ (rdZ (pf pc) i).1 < 4 ∧ (rdZ (pf pc) i).2.2 = 0 then _ else _) = _; rw [if_neg (by omega)]
          have ht9 : pt (pf pc) q.2.2.2.1 (i + 1) = pt (pf pc) q.2.2.2.1 i := by show (if ¬ (rdZ (pf pc) i).1 < 4 ∧ (rdZ (pf pc) i).2.2 = 1 then _ else _) = _; rw [if_neg (by omega)]
          refine lv_iload hx hb dX6_readPage_32 (lv_at hl 0 rfl) ?_
          refine lv_bipush (v := nI 44) hx hb dX6_readPage_34 (by decide) ?_
          refine j_icmp_ne (tgt := 45) hx hb dX6_readPage_36 (by decide) (nI_toInt (by omega)) (nI_toInt (by decide)) (fun c_25 => absurd c_25 (by omega)) (fun c_25 => ?_)
          refine lv_iinc (v := nI (sy + 1)) (lv' := [(2, .int (nI (sy + 1))), (5, .int (nI (pf pc i))), (0, .ref (a 0)), (1, .int (nI at9)), (3, .int (nI kd)), (4, .int (nI i))]) hx hb dX6_readPage_39 hl (k := 3) rfl (fr_inc1 _) (by decide) rfl (fun ls hl => ?_)
          refine lv_goto (tgt := 115) hx hb dX6_readPage_42 (by decide) ?_
          refine lv_iinc (v := nI (i + 1)) (lv' := [(4, .int (nI (i + 1))), (2, .int (nI (sy + 1))), (5, .int (nI (pf pc i))), (0, .ref (a 0)), (1, .int (nI at9)), (3, .int (nI kd))]) hx hb dX6_readPage_115 hl (k := 5) rfl (fr_inc1 _) (by decide) rfl (fun ls hl => ?_)
          refine lv_goto (tgt := 9) hx hb dX6_readPage_118 (by decide) ?_
          exact ih_2 (i + 1) (sy + 1) at9 kd B9 L9 q9 (by omega) (by rw [hz9]; dsimp only; intro y; omega) (by rw [hz9]; dsimp only; intro y; omega) (by rw [hz9]; dsimp only; intro y; omega) (by first | exact hk9.symm | exact hkd.trans hk9.symm) (by rw [hb9]; exact hS9) (by rw [hq9, hz9, ht9]) (by omega) _ _ hP hD hS _ (lv_sub hl [3, 4, 1, 5, 0] rfl)
  exact K_1 (pn - 0 + 1) 0 0 0 0 B L (0, 0, nI 0, q.2.2.2.1, q.2.2.2.2) (by omega) (fun _ => rfl) (fun y => absurd (show 0 < 4 by decide) y) (fun _ => rfl) (rfl) (hS0) (rfl) (Nat.lt_succ_self _) _ _ hP hD hS _ (lv_sub hl [4, 3, 2, 1, 0] rfl)
