set_option maxHeartbeats 4000000 in
set_option maxRecDepth 100000 in
theorem c_X3_copyFromS (l : Launch) (D : va_G) (r k : Nat → Nat) (cI cT cN : ClassId) (sz : Nat) (q kq : RS) (h5 : kq.1 ≤ 5) (h8 : kq.2.1 ≤ 8) : WV l yX3_copyFrom (wA yX3_copyFrom cX3_copyFrom 5 none) ({ frames := 1, cells := 0, slots := 0, locals := 24 }) D (cTys cI cT cN) ((rW k cT cN kq) ++ (rW r cT cN q)) sz [.ref (r 0), .ref (k 0)] (fun _ : Unit => True) (fun _ : Unit => rW k cT cN kq ++ rW r cT cN (kq.1, kq.2.1, kq.2.2.1, mixF q.2.2.2.1 kq.2.2.2.1 kq.1, mixF q.2.2.2.2 kq.2.2.2.2 kq.2.1)) := by
  refine rw_startV (by decide) (Nat.le_of_ble_eq_true rfl) ?_
  intro p e s m args below meth c ls A F hP hK hD hA hS hl
  obtain ⟨hx, hb, hr, hlocks, hml, hown, hts⟩ := F
  have hown : s.vm.findClass RX3 = some m.cls := hown
  have hl : lv_has ls 5 [(0, .ref (r 0)), (1, .ref (k 0))] := hl
  refine lv_aload_n hx hb dX3_copyFrom_0 rfl (lv_at hl 0 rfl) ?_
  refine lv_aload_n hx hb dX3_copyFrom_1 rfl (lv_at hl 1 rfl) ?_
  refine va_get (D := D) (ci := 3) (v := .int (nI kq.1)) (C := RX3) (T := TX3) (N := 5) hx hb hts iX3 hown hK hP 0 rfl rfl 2 (by decide) (hts _ mg_134) (fun _ h9 => h9) rfl dX3_copyFrom_2 ?_
  refine va_put (D := D) (ci := 3) (v := .int (nI kq.1)) (ty := .int) (C := RX3) (T := TX3) (N := 5) hx hb hts iX3 tyX3 tyX3_ok nmX3 hown hK hP hD hS 16 rfl rfl 2 (by decide) (hts _ mg_134) (fun _ h9 => h9) rfl (tyX3_ok 2 (by decide)) rfl rfl (Nat.le_of_ble_eq_true rfl) dX3_copyFrom_5 (fun H locs hP hD hS => ?_)
  have hP : va_P D vwCl ((rW k cT cN kq) ++ (rW r cT cN (kq.1, q.2.1, q.2.2.1, q.2.2.2.1, q.2.2.2.2))) H := hP
  have hD : va_D A ((rW k cT cN kq) ++ (rW r cT cN (kq.1, q.2.1, q.2.2.1, q.2.2.2.1, q.2.2.2.2))) := hD
  refine lv_aload_n hx hb dX3_copyFrom_8 rfl (lv_at hl 0 rfl) ?_
  refine lv_aload_n hx hb dX3_copyFrom_9 rfl (lv_at hl 1 rfl) ?_
  refine va_get (D := D) (ci := 3) (v := .int (nI kq.2.1)) (C := RX3) (T := TX3) (N := 5) hx hb hts iX3 hown hK hP 0 rfl rfl 3 (by decide) (hts _ mg_136) (fun _ h9 => h9) rfl dX3_copyFrom_10 ?_
  refine va_put (D := D) (ci := 3) (v := .int (nI kq.2.1)) (ty := .int) (C := RX3) (T := TX3) (N := 5) hx hb hts iX3 tyX3 tyX3_ok nmX3 hown hK hP hD hS 16 rfl rfl 3 (by decide) (hts _ mg_136) (fun _ h9 => h9) rfl (tyX3_ok 3 (by decide)) rfl rfl (Nat.le_of_ble_eq_true rfl) dX3_copyFrom_13 (fun H locs hP hD hS => ?_)
  have hP : va_P D vwCl ((rW k cT cN kq) ++ (rW r cT cN (kq.1, kq.2.1, q.2.2.1, q.2.2.2.1, q.2.2.2.2))) H := hP
  have hD : va_D A ((rW k cT cN kq) ++ (rW r cT cN (kq.1, kq.2.1, q.2.2.1, q.2.2.2.1, q.2.2.2.2))) := hD
  refine lv_aload_n hx hb dX3_copyFrom_16 rfl (lv_at hl 0 rfl) ?_
  refine lv_aload_n hx hb dX3_copyFrom_17 rfl (lv_at hl 1 rfl) ?_
  refine va_get (D := D) (ci := 3) (v := .int kq.2.2.1) (C := RX3) (T := TX3) (N := 5) hx hb hts iX3 hown hK hP 0 rfl rfl 4 (by decide) (hts _ mg_138) (fun _ h9 => h9) rfl dX3_copyFrom_18 ?_
  refine va_put (D := D) (ci := 3) (v := .int kq.2.2.1) (ty := .int) (C := RX3) (T := TX3) (N := 5) hx hb hts iX3 tyX3 tyX3_ok nmX3 hown hK hP hD hS 16 rfl rfl 4 (by decide) (hts _ mg_138) (fun _ h9 => h9) rfl (tyX3_ok 4 (by decide)) rfl rfl (Nat.le_of_ble_eq_true rfl) dX3_copyFrom_21 (fun H locs hP hD hS => ?_)
  have hP : va_P D vwCl ((rW k cT cN kq) ++ (rW r cT cN (kq.1, kq.2.1, kq.2.2.1, q.2.2.2.1, q.2.2.2.2))) H := hP
  have hD : va_D A ((rW k cT cN kq) ++ (rW r cT cN (kq.1, kq.2.1, kq.2.2.1, q.2.2.2.1, q.2.2.2.2))) := hD
  refine lv_iconst (v := nI 0) hx hb dX3_copyFrom_24 (by decide) ?_
  have hP : va_P D vwCl ((rW k cT cN kq) ++ (rW r cT cN (kq.1, kq.2.1, kq.2.2.1, mixF q.2.2.2.1 kq.2.2.2.1 0, q.2.2.2.2))) H := by rw [mixF_0]; exact hP
  have hD : va_D A ((rW k cT cN kq) ++ (rW r cT cN (kq.1, kq.2.1, kq.2.2.1, mixF q.2.2.2.1 kq.2.2.2.1 0, q.2.2.2.2))) := by rw [mixF_0]; exact hD
  refine lv_istore_n (lv' := [(2, .int (nI 0)), (0, .ref (r 0)), (1, .ref (k 0))]) hx hb dX3_copyFrom_25 rfl hl (by decide) rfl (fun ls hl => ?_)
  have K_1 : ∀ n9 : Nat, ∀ (i : Nat), i ≤ kq.1 → kq.1 - i < n9 → ∀ (H : Heap) (locs : List Loc), va_P D vwCl ((rW k cT cN kq) ++ (rW r cT cN (kq.1, kq.2.1, kq.2.2.1, mixF q.2.2.2.1 kq.2.2.2.1 i, q.2.2.2.2))) H → va_D A ((rW k cT cN kq) ++ (rW r cT cN (kq.1, kq.2.1, kq.2.2.1, mixF q.2.2.2.1 kq.2.2.2.1 i, q.2.2.2.2))) → va_S A s.heap H locs → ∀ ls : Array Slot, lv_has ls 5 [(0, .ref (r 0)), (1, .ref (k 0)), (2, .int (nI i))] → W p l e (headSpec (wA yX3_copyFrom cX3_copyFrom 5 none) ({ frames := 1, cells := 0, slots := 0, locals := 24 })).room s m args below meth c H locs 0 0 (MQ below (va_Qv (fun _ : Unit => True) (fun u t => wB D (cTys cI cT cN) A ((fun _ : Unit => rW k cT cN kq ++ rW r cT cN (kq.1, kq.2.1, kq.2.2.1, mixF q.2.2.2.1 kq.2.2.2.1 kq.1, mixF q.2.2.2.2 kq.2.2.2.2 kq.2.1)) u) t) A) args s 0 0 A) (F0 m 26 ls []) := by
    intro n9
    induction n9 with
    | zero => intros; omega
    | succ n9 ih_2 =>
      intro i hi hn9 H locs hP hD hS ls hl
      refine lv_iload_n hx hb dX3_copyFrom_26 rfl (lv_at hl 2 rfl) ?_
      refine lv_aload_n hx hb dX3_copyFrom_27 rfl (lv_at hl 0 rfl) ?_
      refine va_get (D := D) (ci := 3) (v := .int (nI kq.1)) (C := RX3) (T := TX3) (N := 5) hx hb hts iX3 hown hK hP 16 rfl rfl 2 (by decide) (hts _ mg_134) (fun _ h9 => h9) rfl dX3_copyFrom_28 ?_
      refine j_icmp_ge (tgt := 89) hx hb dX3_copyFrom_31 (by decide) (nI_toInt (by omega)) (nI_toInt (by omega)) (fun c_3 => ?_) (fun c_3 => ?_)
      · have e9 : i = kq.1 := by omega
        have hP : va_P D vwCl ((rW k cT cN kq) ++ (rW r cT cN (kq.1, kq.2.1, kq.2.2.1, mixF q.2.2.2.1 kq.2.2.2.1 kq.1, q.2.2.2.2))) H := Eq.mp (congrArg (fun z => va_P D vwCl ((rW k cT cN kq) ++ (rW r cT cN (kq.1, kq.2.1, kq.2.2.1, mixF q.2.2.2.1 kq.2.2.2.1 z, q.2.2.2.2))) H) e9) hP
        have hD : va_D A ((rW k cT cN kq) ++ (rW r cT cN (kq.1, kq.2.1, kq.2.2.1, mixF q.2.2.2.1 kq.2.2.2.1 kq.1, q.2.2.2.2))) := Eq.mp (congrArg (fun z => va_D A ((rW k cT cN kq) ++ (rW r cT cN (kq.1, kq.2.1, kq.2.2.1, mixF q.2.2.2.1 kq.2.2.2.1 z, q.2.2.2.2)))) e9) hD
        refine lv_iconst (v := nI 0) hx hb dX3_copyFrom_89 (by decide) ?_
        have hP : va_P D vwCl ((rW k cT cN kq) ++ (rW r cT cN (kq.1, kq.2.1, kq.2.2.1, mixF q.2.2.2.1 kq.2.2.2.1 kq.1, mixF q.2.2.2.2 kq.2.2.2.2 0))) H := by rw [mixF_0]; exact hP
        have hD : va_D A ((rW k cT cN kq) ++ (rW r cT cN (kq.1, kq.2.1, kq.2.2.1, mixF q.2.2.2.1 kq.2.2.2.1 kq.1, mixF q.2.2.2.2 kq.2.2.2.2 0))) := by rw [mixF_0]; exact hD
        refine lv_istore_n (lv' := [(2, .int (nI 0)), (0, .ref (r 0)), (1, .ref (k 0))]) hx hb dX3_copyFrom_90 rfl hl (by decide) rfl (fun ls hl => ?_)
        have K_4 : ∀ n9 : Nat, ∀ (i : Nat), i ≤ kq.2.1 → kq.2.1 - i < n9 → ∀ (H : Heap) (locs : List Loc), va_P D vwCl ((rW k cT cN kq) ++ (rW r cT cN (kq.1, kq.2.1, kq.2.2.1, mixF q.2.2.2.1 kq.2.2.2.1 kq.1, mixF q.2.2.2.2 kq.2.2.2.2 i))) H → va_D A ((rW k cT cN kq) ++ (rW r cT cN (kq.1, kq.2.1, kq.2.2.1, mixF q.2.2.2.1 kq.2.2.2.1 kq.1, mixF q.2.2.2.2 kq.2.2.2.2 i))) → va_S A s.heap H locs → ∀ ls : Array Slot, lv_has ls 5 [(0, .ref (r 0)), (1, .ref (k 0)), (2, .int (nI i))] → W p l e (headSpec (wA yX3_copyFrom cX3_copyFrom 5 none) ({ frames := 1, cells := 0, slots := 0, locals := 24 })).room s m args below meth c H locs 0 0 (MQ below (va_Qv (fun _ : Unit => True) (fun u t => wB D (cTys cI cT cN) A ((fun _ : Unit => rW k cT cN kq ++ rW r cT cN (kq.1, kq.2.1, kq.2.2.1, mixF q.2.2.2.1 kq.2.2.2.1 kq.1, mixF q.2.2.2.2 kq.2.2.2.2 kq.2.1)) u) t) A) args s 0 0 A) (F0 m 91 ls []) := by
          intro n9
          induction n9 with
          | zero => intros; omega
          | succ n9 ih_5 =>
            intro i hi hn9 H locs hP hD hS ls hl
            refine lv_iload_n hx hb dX3_copyFrom_91 rfl (lv_at hl 2 rfl) ?_
            refine lv_aload_n hx hb dX3_copyFrom_92 rfl (lv_at hl 0 rfl) ?_
            refine va_get (D := D) (ci := 3) (v := .int (nI kq.2.1)) (C := RX3) (T := TX3) (N := 5) hx hb hts iX3 hown hK hP 16 rfl rfl 3 (by decide) (hts _ mg_136) (fun _ h9 => h9) rfl dX3_copyFrom_93 ?_
            refine j_icmp_ge (tgt := 154) hx hb dX3_copyFrom_96 (by decide) (nI_toInt (by omega)) (nI_toInt (by omega)) (fun c_6 => ?_) (fun c_6 => ?_)
            · have e9 : i = kq.2.1 := by omega
              have hP : va_P D vwCl ((rW k cT cN kq) ++ (rW r cT cN (kq.1, kq.2.1, kq.2.2.1, mixF q.2.2.2.1 kq.2.2.2.1 kq.1, mixF q.2.2.2.2 kq.2.2.2.2 kq.2.1))) H := Eq.mp (congrArg (fun z => va_P D vwCl ((rW k cT cN kq) ++ (rW r cT cN (kq.1, kq.2.1, kq.2.2.1, mixF q.2.2.2.1 kq.2.2.2.1 kq.1, mixF q.2.2.2.2 kq.2.2.2.2 z))) H) e9) hP
              have hD : va_D A ((rW k cT cN kq) ++ (rW r cT cN (kq.1, kq.2.1, kq.2.2.1, mixF q.2.2.2.1 kq.2.2.2.1 kq.1, mixF q.2.2.2.2 kq.2.2.2.2 kq.2.1))) := Eq.mp (congrArg (fun z => va_D A ((rW k cT cN kq) ++ (rW r cT cN (kq.1, kq.2.1, kq.2.2.1, mixF q.2.2.2.1 kq.2.2.2.1 kq.1, mixF q.2.2.2.2 kq.2.2.2.2 z)))) e9) hD
              exact rw_vret (wp := (fun _ : Unit => rW k cT cN kq ++ rW r cT cN (kq.1, kq.2.1, kq.2.2.1, mixF q.2.2.2.1 kq.2.2.2.1 kq.1, mixF q.2.2.2.2 kq.2.2.2.2 kq.2.1))) (post := (fun _ : Unit => True)) () hx hb hr hlocks hK hP hD hS (rfl) (trivial) dX3_copyFrom_154
            · refine lv_aload_n hx hb dX3_copyFrom_99 rfl (lv_at hl 0 rfl) ?_
              refine lv_iload_n hx hb dX3_copyFrom_100 rfl (lv_at hl 2 rfl) ?_
              refine ro_qV (n := 1) (As := [.int (nI i)]) ⟨hx, hb, hml, hown, hts⟩ (c_X3_noteAt l D r cI cT cN (kq.1, kq.2.1, kq.2.2.1, mixF q.2.2.2.1 kq.2.2.2.1 kq.1, mixF q.2.2.2.2 kq.2.2.2.2 i) i (by dsimp only; omega) (by dsimp only; omega)) (cwV 1 hts (gV mg_387 mg_321 mg_322 mg_5 mg_323) rfl rfl rfl vd_X3_noteAt ⟨Nat.le_of_ble_eq_true rfl, Nat.le_of_ble_eq_true rfl⟩) (va_recv hK hP (ci := 3) (q0 := 16) rfl rfl) hK (vaP_r hP) rfl hl.1 rfl (Nat.le_of_ble_eq_true rfl) dX3_copyFrom_101 ⟨Nat.zero_le _, Nat.zero_le _⟩ ?_
              refine lv_astore_n (lv' := [(3, .ref (r (8 + i))), (0, .ref (r 0)), (1, .ref (k 0)), (2, .int (nI i))]) hx hb dX3_copyFrom_104 rfl hl (by decide) rfl (fun ls hl => ?_)
              refine lv_aload_n hx hb dX3_copyFrom_105 rfl (lv_at hl 2 rfl) ?_
              refine lv_iload_n hx hb dX3_copyFrom_106 rfl (lv_at hl 3 rfl) ?_
              refine ro_qV (n := 1) (As := [.int (nI i)]) ⟨hx, hb, hml, hown, hts⟩ (c_X3_noteAt l D k cI cT cN kq i (by omega) (by omega)) (cwV 1 hts (gV mg_387 mg_321 mg_322 mg_5 mg_323) rfl rfl rfl vd_X3_noteAt ⟨Nat.le_of_ble_eq_true rfl, Nat.le_of_ble_eq_true rfl⟩) (va_recv hK hP (ci := 3) (q0 := 0) rfl rfl) hK (vaP_l hP) rfl hl.1 rfl (Nat.le_of_ble_eq_true rfl) dX3_copyFrom_107 ⟨Nat.zero_le _, Nat.zero_le _⟩ ?_
              refine lv_astore (lv' := [(4, .ref (k (8 + i))), (3, .ref (r (8 + i))), (0, .ref (r 0)), (1, .ref (k 0)), (2, .int (nI i))]) hx hb dX3_copyFrom_110 hl (by decide) rfl (fun ls hl => ?_)
              refine lv_aload_n hx hb dX3_copyFrom_112 rfl (lv_at hl 1 rfl) ?_
              refine lv_ifnull hx hb dX3_copyFrom_113 ?_
              refine lv_aload hx hb dX3_copyFrom_116 (lv_at hl 0 rfl) ?_
              refine lv_ifnonnull (tgt := 124) hx hb dX3_copyFrom_118 (by decide) ?_
              refine lv_aload_n hx hb dX3_copyFrom_124 rfl (lv_at hl 1 rfl) ?_
              refine lv_aload hx hb dX3_copyFrom_125 (lv_at hl 0 rfl) ?_
              refine va_get (D := D) (ci := 0) (v := .int (nI (kq.2.2.2.2 i 0))) (C := RX0) (T := TX0) (N := 4) hx hb hts iX0 hown hK hP (8 + i) (rr_n1 (by omega)) rfl 0 (by decide) (hts _ mg_112) (fun _ h9 => h9) rfl dX3_copyFrom_127 ?_
              refine lv_aload hx hb dX3_copyFrom_130 (lv_at hl 0 rfl) ?_
              refine va_get (D := D) (ci := 0) (v := .int (nI (kq.2.2.2.2 i 1))) (C := RX0) (T := TX0) (N := 4) hx hb hts iX0 hown hK hP (8 + i) (rr_n1 (by omega)) rfl 1 (by decide) (hts _ mg_115) (fun _ h9 => h9) rfl dX3_copyFrom_132 ?_
              refine lv_aload hx hb dX3_copyFrom_135 (lv_at hl 0 rfl) ?_
              refine va_get (D := D) (ci := 0) (v := .int (nI (kq.2.2.2.2 i 2))) (C := RX0) (T := TX0) (N := 4) hx hb hts iX0 hown hK hP (8 + i) (rr_n1 (by omega)) rfl 2 (by decide) (hts _ mg_118) (fun _ h9 => h9) rfl dX3_copyFrom_137 ?_
              refine lv_aload hx hb dX3_copyFrom_140 (lv_at hl 0 rfl) ?_
              refine va_get (D := D) (ci := 0) (v := .int (nI (kq.2.2.2.2 i 3))) (C := RX0) (T := TX0) (N := 4) hx hb hts iX0 hown hK hP (8 + i) (rr_n1 (by omega)) rfl 3 (by decide) (hts _ mg_121) (fun _ h9 => h9) rfl dX3_copyFrom_142 ?_
              refine rw_vV1 (24 + i) (rr_n2 (by omega)) (n := 4) (As := [.int (nI (kq.2.2.2.2 i 0)), .int (nI (kq.2.2.2.2 i 1)), .int (nI (kq.2.2.2.2 i 2)), .int (nI (kq.2.2.2.2 i 3))]) ⟨hx, hb, hml, hown, hts⟩ (c_X0_become l D cI cT cN _ _ _ _ _ _ _ _ _ _) (cwV 4 hts (gV mg_388 mg_389 mg_390 mg_7 mg_391) rfl rfl rfl vd_X0_become ⟨Nat.le_of_ble_eq_true rfl, Nat.le_of_ble_eq_true rfl⟩) (va_recv hK hP (ci := 0) (q0 := 24 + i) rfl (rr_n2 (by omega))) hK hP hD hS hA rfl hl.1 rfl (Nat.le_of_ble_eq_true rfl) dX3_copyFrom_145 ⟨Nat.zero_le _, Nat.zero_le _⟩ (fun u_7 H locs w_8 hP hD hS => ?_)
              have hP : va_P D vwCl ((rW k cT cN kq) ++ (rW r cT cN (kq.1, kq.2.1, kq.2.2.1, mixF q.2.2.2.1 kq.2.2.2.1 kq.1, upR (mixF q.2.2.2.2 kq.2.2.2.2 i) i (kq.2.2.2.2 i)))) H := Eq.mp (congrArg (fun z => va_P D vwCl z H) (rr_setN2 (r := r) (k := k) (cT := cT) (cN := cN) (q := (kq.1, kq.2.1, kq.2.2.1, mixF q.2.2.2.1 kq.2.2.2.1 kq.1, mixF q.2.2.2.2 kq.2.2.2.2 i)) (kq := kq) (i := i) (by omega) (kq.2.2.2.2 i))) hP
              have hD : va_D A ((rW k cT cN kq) ++ (rW r cT cN (kq.1, kq.2.1, kq.2.2.1, mixF q.2.2.2.1 kq.2.2.2.1 kq.1, upR (mixF q.2.2.2.2 kq.2.2.2.2 i) i (kq.2.2.2.2 i)))) := Eq.mp (congrArg (fun z => va_D A z) (rr_setN2 (r := r) (k := k) (cT := cT) (cN := cN) (q := (kq.1, kq.2.1, kq.2.2.1, mixF q.2.2.2.1 kq.2.2.2.1 kq.1, mixF q.2.2.2.2 kq.2.2.2.2 i)) (kq := kq) (i := i) (by omega) (kq.2.2.2.2 i))) hD
              have hP : va_P D vwCl ((rW k cT cN kq) ++ (rW r cT cN (kq.1, kq.2.1, kq.2.2.1, mixF q.2.2.2.1 kq.2.2.2.1 kq.1, mixF q.2.2.2.2 kq.2.2.2.2 (i + 1)))) H := by rw [← mixF_s]; exact hP
              have hD : va_D A ((rW k cT cN kq) ++ (rW r cT cN (kq.1, kq.2.1, kq.2.2.1, mixF q.2.2.2.1 kq.2.2.2.1 kq.1, mixF q.2.2.2.2 kq.2.2.2.2 (i + 1)))) := by rw [← mixF_s]; exact hD
              refine lv_iinc (v := nI (i + 1)) (lv' := [(2, .int (nI (i + 1))), (4, .ref (k (8 + i))), (3, .ref (r (8 + i))), (0, .ref (r 0)), (1, .ref (k 0))]) hx hb dX3_copyFrom_148 hl (k := 4) rfl (fr_inc1 _) (by decide) rfl (fun ls hl => ?_)
              refine lv_goto (tgt := 91) hx hb dX3_copyFrom_151 (by decide) ?_
              exact ih_5 (i + 1) (by omega) (by omega) _ _ hP hD hS _ (lv_sub hl [3, 4, 0] rfl)
        exact K_4 (kq.2.1 - 0 + 1) 0 (by omega) (Nat.lt_succ_self _) _ _ hP hD hS _ (lv_sub hl [1, 2, 0] rfl)
      · refine lv_aload_n hx hb dX3_copyFrom_34 rfl (lv_at hl 0 rfl) ?_
        refine lv_iload_n hx hb dX3_copyFrom_35 rfl (lv_at hl 2 rfl) ?_
        refine ro_qV (n := 1) (As := [.int (nI i)]) ⟨hx, hb, hml, hown, hts⟩ (c_X3_tapAt l D r cI cT cN (kq.1, kq.2.1, kq.2.2.1, mixF q.2.2.2.1 kq.2.2.2.1 i, q.2.2.2.2) i (by dsimp only; omega) (by dsimp only; omega)) (cwV 1 hts (gV mg_258 mg_259 mg_260 mg_5 mg_261) rfl rfl rfl vd_X3_tapAt ⟨Nat.le_of_ble_eq_true rfl, Nat.le_of_ble_eq_true rfl⟩) (va_recv hK hP (ci := 3) (q0 := 16) rfl rfl) hK (vaP_r hP) rfl hl.1 rfl (Nat.le_of_ble_eq_true rfl) dX3_copyFrom_36 ⟨Nat.zero_le _, Nat.zero_le _⟩ ?_
        refine lv_astore_n (lv' := [(3, .ref (r (3 + i))), (0, .ref (r 0)), (1, .ref (k 0)), (2, .int (nI i))]) hx hb dX3_copyFrom_39 rfl hl (by decide) rfl (fun ls hl => ?_)
        refine lv_aload_n hx hb dX3_copyFrom_40 rfl (lv_at hl 2 rfl) ?_
        refine lv_iload_n hx hb dX3_copyFrom_41 rfl (lv_at hl 3 rfl) ?_
        refine ro_qV (n := 1) (As := [.int (nI i)]) ⟨hx, hb, hml, hown, hts⟩ (c_X3_tapAt l D k cI cT cN kq i (by omega) (by omega)) (cwV 1 hts (gV mg_258 mg_259 mg_260 mg_5 mg_261) rfl rfl rfl vd_X3_tapAt ⟨Nat.le_of_ble_eq_true rfl, Nat.le_of_ble_eq_true rfl⟩) (va_recv hK hP (ci := 3) (q0 := 0) rfl rfl) hK (vaP_l hP) rfl hl.1 rfl (Nat.le_of_ble_eq_true rfl) dX3_copyFrom_42 ⟨Nat.zero_le _, Nat.zero_le _⟩ ?_
        refine lv_astore (lv' := [(4, .ref (k (3 + i))), (3, .ref (r (3 + i))), (0, .ref (r 0)), (1, .ref (k 0)), (2, .int (nI i))]) hx hb dX3_copyFrom_45 hl (by decide) rfl (fun ls hl => ?_)
        refine lv_aload_n hx hb dX3_copyFrom_47 rfl (lv_at hl 1 rfl) ?_
        refine lv_ifnull hx hb dX3_copyFrom_48 ?_
        refine lv_aload hx hb dX3_copyFrom_51 (lv_at hl 0 rfl) ?_
        refine lv_ifnonnull (tgt := 59) hx hb dX3_copyFrom_53 (by decide) ?_
        refine lv_aload_n hx hb dX3_copyFrom_59 rfl (lv_at hl 1 rfl) ?_
        refine lv_aload hx hb dX3_copyFrom_60 (lv_at hl 0 rfl) ?_
        refine va_get (D := D) (ci := 5) (v := .int (nI (kq.2.2.2.1 i 0))) (C := RX5) (T := TX5) (N := 5) hx hb hts iX5 hown hK hP (3 + i) (rr_t1 (by omega)) rfl 1 (by decide) (hts _ mg_82) (fun _ h9 => h9) rfl dX3_copyFrom_62 ?_
        refine lv_aload hx hb dX3_copyFrom_65 (lv_at hl 0 rfl) ?_
        refine va_get (D := D) (ci := 5) (v := .int (nI (kq.2.2.2.1 i 1))) (C := RX5) (T := TX5) (N := 5) hx hb hts iX5 hown hK hP (3 + i) (rr_t1 (by omega)) rfl 2 (by decide) (hts _ mg_85) (fun _ h9 => h9) rfl dX3_copyFrom_67 ?_
        refine lv_aload hx hb dX3_copyFrom_70 (lv_at hl 0 rfl) ?_
        refine va_get (D := D) (ci := 5) (v := .int (nI (kq.2.2.2.1 i 2))) (C := RX5) (T := TX5) (N := 5) hx hb hts iX5 hown hK hP (3 + i) (rr_t1 (by omega)) rfl 3 (by decide) (hts _ mg_88) (fun _ h9 => h9) rfl dX3_copyFrom_72 ?_
        refine lv_aload hx hb dX3_copyFrom_75 (lv_at hl 0 rfl) ?_
        refine va_get (D := D) (ci := 5) (v := .int (nI (kq.2.2.2.1 i 3))) (C := RX5) (T := TX5) (N := 5) hx hb hts iX5 hown hK hP (3 + i) (rr_t1 (by omega)) rfl 4 (by decide) (hts _ mg_91) (fun _ h9 => h9) rfl dX3_copyFrom_77 ?_
        refine rw_vV1 (19 + i) (rr_t2 (by omega)) (n := 4) (As := [.int (nI (kq.2.2.2.1 i 0)), .int (nI (kq.2.2.2.1 i 1)), .int (nI (kq.2.2.2.1 i 2)), .int (nI (kq.2.2.2.1 i 3))]) ⟨hx, hb, hml, hown, hts⟩ (c_X5_become l D cI cT cN _ _ _ _ _ _ _ _ _ _ _) (cwV 4 hts (gV mg_262 mg_263 mg_264 mg_6 mg_265) rfl rfl rfl vd_X5_become ⟨Nat.le_of_ble_eq_true rfl, Nat.le_of_ble_eq_true rfl⟩) (va_recv hK hP (ci := 5) (q0 := 19 + i) rfl (rr_t2 (by omega))) hK hP hD hS hA rfl hl.1 rfl (Nat.le_of_ble_eq_true rfl) dX3_copyFrom_80 ⟨Nat.zero_le _, Nat.zero_le _⟩ (fun u_9 H locs w_10 hP hD hS => ?_)
        have hP : va_P D vwCl ((rW k cT cN kq) ++ (rW r cT cN (kq.1, kq.2.1, kq.2.2.1, upR (mixF q.2.2.2.1 kq.2.2.2.1 i) i (kq.2.2.2.1 i), q.2.2.2.2))) H := Eq.mp (congrArg (fun z => va_P D vwCl z H) (rr_setT2 (r := r) (k := k) (cT := cT) (cN := cN) (q := (kq.1, kq.2.1, kq.2.2.1, mixF q.2.2.2.1 kq.2.2.2.1 i, q.2.2.2.2)) (kq := kq) (i := i) (by omega) (kq.2.2.2.1 i))) hP
        have hD : va_D A ((rW k cT cN kq) ++ (rW r cT cN (kq.1, kq.2.1, kq.2.2.1, upR (mixF q.2.2.2.1 kq.2.2.2.1 i) i (kq.2.2.2.1 i), q.2.2.2.2))) := Eq.mp (congrArg (fun z => va_D A z) (rr_setT2 (r := r) (k := k) (cT := cT) (cN := cN) (q := (kq.1, kq.2.1, kq.2.2.1, mixF q.2.2.2.1 kq.2.2.2.1 i, q.2.2.2.2)) (kq := kq) (i := i) (by omega) (kq.2.2.2.1 i))) hD
        have hP : va_P D vwCl ((rW k cT cN kq) ++ (rW r cT cN (kq.1, kq.2.1, kq.2.2.1, mixF q.2.2.2.1 kq.2.2.2.1 (i + 1), q.2.2.2.2))) H := by rw [← mixF_s]; exact hP
        have hD : va_D A ((rW k cT cN kq) ++ (rW r cT cN (kq.1, kq.2.1, kq.2.2.1, mixF q.2.2.2.1 kq.2.2.2.1 (i + 1), q.2.2.2.2))) := by rw [← mixF_s]; exact hD
        refine lv_iinc (v := nI (i + 1)) (lv' := [(2, .int (nI (i + 1))), (4, .ref (k (3 + i))), (3, .ref (r (3 + i))), (0, .ref (r 0)), (1, .ref (k 0))]) hx hb dX3_copyFrom_83 hl (k := 4) rfl (fr_inc1 _) (by decide) rfl (fun ls hl => ?_)
        refine lv_goto (tgt := 26) hx hb dX3_copyFrom_86 (by decide) ?_
        exact ih_2 (i + 1) (by omega) (by omega) _ _ hP hD hS _ (lv_sub hl [3, 4, 0] rfl)
  exact K_1 (kq.1 - 0 + 1) 0 (by omega) (Nat.lt_succ_self _) _ _ hP hD hS _ (lv_sub hl [1, 2, 0] rfl)
