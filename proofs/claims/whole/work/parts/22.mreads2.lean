set_option maxHeartbeats 4000000 in
set_option maxRecDepth 100000 in
theorem c_X7_listenOf0 (l : Launch) (D : va_G) (h : Nat) (g : Nat → Nat) (cI : ClassId) (J : Nat → Int32) (hz : Int64) (G : Nat → Nat → Int32) (b : Nat → Nat → Nat) (q : RS) (hM : MR b q J G) (hok9 : hok b) (hT : Tok q) (i : Nat) (hi : i < q.1) (bits : Nat) (hbt : sys (sly b q.2.2.2.1 i q.2.2.2.2 q.2.1) 4 = bits) : ROi l yX7_listenOf (wA yX7_listenOf cX7_listenOf 10 (some .int)) ({ frames := 3, cells := 0, slots := 0, locals := 76 }) D (iTys cI) (mW h g cI J hz G) [.ref h, .int (nI i)] (bth b q.2.2.2.1 i bits) := by
  refine go_start (by decide) (Nat.le_of_ble_eq_true rfl) ?_
  intro p e s m args below meth c ls F _ hB hl
  obtain ⟨hx, hb, hr, hlocks, hml, hown, hts⟩ := F
  obtain ⟨hP, hK⟩ := hB
  have hown : s.vm.findClass RX7 = some m.cls := hown
  have hl : lv_has ls 10 [(0, .ref h), (1, .int (nI i))] := hl
  have ht5 := hT.1
  have ht8 := hT.2.1
  obtain ⟨hk0, hv0, hw0, hp0⟩ := hT.2.2.1 i hi
  have hbits : bits < 16 := by rw [← hbt]; exact sys_lt (sly b q.2.2.2.1 i q.2.2.2.2 q.2.1) 4
  refine lv_aload_n hx hb dX7_listenOf_0 rfl (lv_at hl 0 rfl) ?_
  refine lv_iload_n hx hb dX7_listenOf_1 rfl (lv_at hl 1 rfl) ?_
  refine ro_iV (n := 1) (As := [.int (nI i)]) ⟨hx, hb, hml, hown, hts⟩ (c_X7_saysOf l D h g cI J hz G b q hM hok9 hT i hi) (cwV 1 hts (gV mg_620 mg_622 mg_1028 mg_8 mg_623) rfl rfl rfl vd_X7_saysOf ⟨Nat.le_of_ble_eq_true rfl, Nat.le_of_ble_eq_true rfl⟩) (va_recv hK hP (ci := 7) (q0 := 0) rfl rfl) hK hP rfl hl.1 rfl (Nat.le_of_ble_eq_true rfl) dX7_listenOf_2 ⟨Nat.zero_le _, Nat.zero_le _⟩ ?_
  refine n_top (y := nI bits) (congrArg nI hbt) ?_
  refine lv_istore_n (lv' := [(2, .int (nI bits)), (0, .ref h), (1, .int (nI i))]) hx hb dX7_listenOf_5 rfl hl (by decide) rfl (fun ls hl => ?_)
  refine lv_iconst (v := (-1)) hx hb dX7_listenOf_6 (by decide) ?_
  refine lv_istore_n (lv' := [(3, .int (-1)), (2, .int (nI bits)), (0, .ref h), (1, .int (nI i))]) hx hb dX7_listenOf_7 rfl hl (by decide) rfl (fun ls hl => ?_)
  refine lv_iconst (v := nI 5) hx hb dX7_listenOf_8 (by decide) ?_
  refine lv_istore (lv' := [(4, .int (nI 5)), (3, .int (-1)), (2, .int (nI bits)), (0, .ref h), (1, .int (nI i))]) hx hb dX7_listenOf_9 hl (by decide) rfl (fun ls hl => ?_)
  refine lv_iconst (v := nI 0) hx hb dX7_listenOf_11 (by decide) ?_
  refine lv_istore (lv' := [(5, .int (nI 0)), (4, .int (nI 5)), (3, .int (-1)), (2, .int (nI bits)), (0, .ref h), (1, .int (nI i))]) hx hb dX7_listenOf_12 hl (by decide) rfl (fun ls hl => ?_)
  refine lv_iload hx hb dX7_listenOf_14 (lv_at hl 0 rfl) ?_
  refine lv_bipush (v := nI 8) hx hb dX7_listenOf_16 (by decide) ?_
  refine j_icmp_ge (tgt := 147) hx hb dX7_listenOf_18 (by decide) (nI_toInt (by decide)) (nI_toInt (by decide)) (fun c_1 => absurd c_1 (by omega)) (fun c_1 => ?_)
  refine lv_iload_n hx hb dX7_listenOf_21 rfl (lv_at hl 3 rfl) ?_
  refine j_if_eq (tgt := 147) hx hb dX7_listenOf_22 (by decide) (nI_toInt (by omega)) (fun c_2 => ?_) (fun c_2 => ?_)
  · refine lv_iload_n hx hb dX7_listenOf_147 rfl (lv_at hl 2 rfl) ?_
    exact ro_iret hx hb hr hlocks (by rw [bth, if_pos (by omega)]) dX7_listenOf_148
  · refine lv_iconst (v := nI 0) hx hb dX7_listenOf_25 (by decide) ?_
    refine lv_istore (lv' := [(6, .int (nI 0)), (5, .int (nI 0)), (4, .int (nI 5)), (3, .int (-1)), (2, .int (nI bits)), (0, .ref h), (1, .int (nI i))]) hx hb dX7_listenOf_26 hl (by decide) rfl (fun ls hl => ?_)
    refine lv_iconst (v := nI 0) hx hb dX7_listenOf_28 (by decide) ?_
    refine lv_istore (lv' := [(7, .int (nI 0)), (6, .int (nI 0)), (5, .int (nI 0)), (4, .int (nI 5)), (3, .int (-1)), (2, .int (nI bits)), (0, .ref h), (1, .int (nI i))]) hx hb dX7_listenOf_29 hl (by decide) rfl (fun ls hl => ?_)
    refine lv_iconst (v := nI 0) hx hb dX7_listenOf_31 (by decide) ?_
    refine lv_istore (lv' := [(8, .int (nI 0)), (7, .int (nI 0)), (6, .int (nI 0)), (5, .int (nI 0)), (4, .int (nI 5)), (3, .int (-1)), (2, .int (nI bits)), (0, .ref h), (1, .int (nI i))]) hx hb dX7_listenOf_32 hl (by decide) rfl (fun ls hl => ?_)
    have K_3 : ∀ n9 : Nat, ∀ (x3 : Nat) (y3 : Nat) (v : Nat), v ≤ 4 → x3 = cnt (lgf b q.2.2.2.1 i bits 0) v → y3 = cnt (lgf b q.2.2.2.1 i bits 0) v + cnt (shf b q.2.2.2.1 i bits 0) v → 4 - v < n9 → ∀ ls : Array Slot, lv_has ls 10 [(0, .ref h), (1, .int (nI i)), (2, .int (nI bits)), (3, .int (-1)), (4, .int (nI 5)), (5, .int (nI 0)), (6, .int (nI x3)), (7, .int (nI y3)), (8, .int (nI v))] → W p l e (headSpec (wA yX7_listenOf cX7_listenOf 10 (some .int)) ({ frames := 3, cells := 0, slots := 0, locals := 76 })).room s m args below meth c s.heap [] 0 0 (MQ below (vp_Si (fun z9 => z9 = bth b q.2.2.2.1 i bits)) args s 0 0 (fun _ => False)) (F0 m 34 ls []) := by
      intro n9
      induction n9 with
      | zero => intros; omega
      | succ n9 ih_4 =>
        intro x3 y3 v hv hx3 hy3 hn9 ls hl
        have hxl := cnt_le (lgf b q.2.2.2.1 i bits 0) v
        have hyl := cnt_le (shf b q.2.2.2.1 i bits 0) v
        refine lv_iload hx hb dX7_listenOf_34 (lv_at hl 8 rfl) ?_
        refine lv_iconst (v := nI 4) hx hb dX7_listenOf_36 (by decide) ?_
        refine j_icmp_ge (tgt := 89) hx hb dX7_listenOf_37 (by decide) (nI_toInt (by omega)) (nI_toInt (by decide)) (fun c_5 => ?_) (fun c_5 => ?_)
        · refine lv_iload hx hb dX7_listenOf_89 (lv_at hl 6 rfl) ?_
          refine lv_iload hx hb dX7_listenOf_91 (lv_at hl 7 rfl) ?_
          refine lv_iload hx hb dX7_listenOf_93 (lv_at hl 6 rfl) ?_
          refine n_isub hx hb dX7_listenOf_95 (by omega) ?_
          refine j_icmp_le (tgt := 104) hx hb dX7_listenOf_96 (by decide) (nI_toInt (by omega)) (nI_toInt (by omega)) (fun c_6 => ?_) (fun c_6 => ?_)
          · refine lv_iload hx hb dX7_listenOf_104 (lv_at hl 7 rfl) ?_
            refine lv_iload hx hb dX7_listenOf_106 (lv_at hl 6 rfl) ?_
            refine n_isub hx hb dX7_listenOf_108 (by omega) ?_
            have hv4 : v = 4 := by omega
            have hw9 := lw_le b q.2.2.2.1 i bits 0
            refine n_top (y := nI (lw b q.2.2.2.1 i bits 0)) (congrArg nI (by unfold lw; rw [hv4] at hx3 hy3; rw [← hx3]; omega)) ?_
            refine lv_istore (lv' := [(8, .int (nI (lw b q.2.2.2.1 i bits 0))), (0, .ref h), (1, .int (nI i)), (2, .int (nI bits)), (3, .int (-1)), (4, .int (nI 5)), (5, .int (nI 0)), (6, .int (nI x3)), (7, .int (nI y3))]) hx hb dX7_listenOf_109 hl (by decide) rfl (fun ls hl => ?_)
            refine lv_iload hx hb dX7_listenOf_111 (lv_at hl 0 rfl) ?_
            refine lv_iload hx hb dX7_listenOf_113 (lv_at hl 5 rfl) ?_
            refine j_icmp_ge (tgt := 123) hx hb dX7_listenOf_115 (by decide) (nI_toInt (by omega)) (nI_toInt (by decide)) (fun c_8 => absurd c_8 (by omega)) (fun c_8 => ?_)
            refine lv_iload hx hb dX7_listenOf_118 (lv_at hl 6 rfl) ?_
            refine lv_goto (tgt := 124) hx hb dX7_listenOf_120 (by decide) ?_
            refine lv_istore_n (lv' := [(3, .int (nI 0)), (8, .int (nI (lw b q.2.2.2.1 i bits 0))), (0, .ref h), (1, .int (nI i)), (2, .int (nI bits)), (4, .int (nI 5)), (5, .int (nI 0)), (6, .int (nI x3)), (7, .int (nI y3))]) hx hb dX7_listenOf_124 rfl hl (by decide) rfl (fun ls hl => ?_)
            refine lv_iload hx hb dX7_listenOf_125 (lv_at hl 1 rfl) ?_
            refine lv_iload hx hb dX7_listenOf_127 (lv_at hl 5 rfl) ?_
            refine j_icmp_ge (tgt := 137) hx hb dX7_listenOf_129 (by decide) (nI_toInt (by omega)) (nI_toInt (by decide)) (fun c_9 => absurd c_9 (by omega)) (fun c_9 => ?_)
            refine lv_iload hx hb dX7_listenOf_132 (lv_at hl 1 rfl) ?_
            refine lv_goto (tgt := 139) hx hb dX7_listenOf_134 (by decide) ?_
            refine lv_istore (lv' := [(4, .int (nI (lw b q.2.2.2.1 i bits 0))), (3, .int (nI 0)), (8, .int (nI (lw b q.2.2.2.1 i bits 0))), (0, .ref h), (1, .int (nI i)), (2, .int (nI bits)), (5, .int (nI 0)), (6, .int (nI x3)), (7, .int (nI y3))]) hx hb dX7_listenOf_139 hl (by decide) rfl (fun ls hl => ?_)
            have hx2 : (0 : Nat) = lky (lw b q.2.2.2.1 i bits) 0 := rfl
            have hy2 : lw b q.2.2.2.1 i bits 0 = (lw b q.2.2.2.1 i bits) 0 := rfl
            refine lv_iinc (v := nI 1) (lv' := [(5, .int (nI 1)), (4, .int (nI (lw b q.2.2.2.1 i bits 0))), (3, .int (nI 0)), (8, .int (nI (lw b q.2.2.2.1 i bits 0))), (0, .ref h), (1, .int (nI i)), (2, .int (nI bits)), (6, .int (nI x3)), (7, .int (nI y3))]) hx hb dX7_listenOf_141 hl (k := 6) rfl rfl (by decide) rfl (fun ls hl => ?_)
            refine lv_goto (tgt := 14) hx hb dX7_listenOf_144 (by decide) ?_
            have K_10 : ∀ n9 : Nat, ∀ (x : Nat) (y : Nat) (m9 : Nat), m9 ≤ 7 → x = lky (lw b q.2.2.2.1 i bits) m9 → y = (lw b q.2.2.2.1 i bits) x → 7 - m9 < n9 → ∀ ls : Array Slot, lv_has ls 10 [(0, .ref h), (1, .int (nI i)), (2, .int (nI bits)), (3, .int (nI x)), (4, .int (nI y)), (5, .int (nI (m9 + 1)))] → W p l e (headSpec (wA yX7_listenOf cX7_listenOf 10 (some .int)) ({ frames := 3, cells := 0, slots := 0, locals := 76 })).room s m args below meth c s.heap [] 0 0 (MQ below (vp_Si (fun z9 => z9 = bth b q.2.2.2.1 i bits)) args s 0 0 (fun _ => False)) (F0 m 14 ls []) := by
              intro n9
              induction n9 with
              | zero => intros; omega
              | succ n9 ih_11 =>
                intro x y m9 hm9 hx1 hy1 hn9 ls hl
                have hxl9 : x ≤ m9 := by rw [hx1]; exact lky_le _ _
                have hyl9 : y ≤ 4 := by rw [hy1]; exact lw_le _ _ _ _ _
                refine lv_iload hx hb dX7_listenOf_14 (lv_at hl 5 rfl) ?_
                refine lv_bipush (v := nI 8) hx hb dX7_listenOf_16 (by decide) ?_
                refine j_icmp_ge (tgt := 147) hx hb dX7_listenOf_18 (by decide) (nI_toInt (by omega)) (nI_toInt (by decide)) (fun c_12 => ?_) (fun c_12 => ?_)
                · refine lv_iload_n hx hb dX7_listenOf_147 rfl (lv_at hl 3 rfl) ?_
                  exact ro_iret hx hb hr hlocks (by rw [bth, if_neg (by omega), hx1, show m9 = 7 by omega]) dX7_listenOf_148
                · refine lv_iload_n hx hb dX7_listenOf_21 rfl (lv_at hl 2 rfl) ?_
                  refine j_if_eq (tgt := 147) hx hb dX7_listenOf_22 (by decide) (nI_toInt (by omega)) (fun c_13 => absurd c_13 (by omega)) (fun c_13 => ?_)
                  refine lv_iconst (v := nI 0) hx hb dX7_listenOf_25 (by decide) ?_
                  refine lv_istore (lv' := [(6, .int (nI 0)), (0, .ref h), (1, .int (nI i)), (2, .int (nI bits)), (3, .int (nI x)), (4, .int (nI y)), (5, .int (nI (m9 + 1)))]) hx hb dX7_listenOf_26 hl (by decide) rfl (fun ls hl => ?_)
                  refine lv_iconst (v := nI 0) hx hb dX7_listenOf_28 (by decide) ?_
                  refine lv_istore (lv' := [(7, .int (nI 0)), (6, .int (nI 0)), (0, .ref h), (1, .int (nI i)), (2, .int (nI bits)), (3, .int (nI x)), (4, .int (nI y)), (5, .int (nI (m9 + 1)))]) hx hb dX7_listenOf_29 hl (by decide) rfl (fun ls hl => ?_)
                  refine lv_iconst (v := nI 0) hx hb dX7_listenOf_31 (by decide) ?_
                  refine lv_istore (lv' := [(8, .int (nI 0)), (7, .int (nI 0)), (6, .int (nI 0)), (0, .ref h), (1, .int (nI i)), (2, .int (nI bits)), (3, .int (nI x)), (4, .int (nI y)), (5, .int (nI (m9 + 1)))]) hx hb dX7_listenOf_32 hl (by decide) rfl (fun ls hl => ?_)
                  have K_14 : ∀ n9 : Nat, ∀ (x3 : Nat) (y3 : Nat) (v : Nat), v ≤ 4 → x3 = cnt (lgf b q.2.2.2.1 i bits (m9 + 1)) v → y3 = cnt (lgf b q.2.2.2.1 i bits (m9 + 1)) v + cnt (shf b q.2.2.2.1 i bits (m9 + 1)) v → 4 - v < n9 → ∀ ls : Array Slot, lv_has ls 10 [(0, .ref h), (1, .int (nI i)), (2, .int (nI bits)), (3, .int (nI x)), (4, .int (nI y)), (5, .int (nI (m9 + 1))), (6, .int (nI x3)), (7, .int (nI y3)), (8, .int (nI v))] → W p l e (headSpec (wA yX7_listenOf cX7_listenOf 10 (some .int)) ({ frames := 3, cells := 0, slots := 0, locals := 76 })).room s m args below meth c s.heap [] 0 0 (MQ below (vp_Si (fun z9 => z9 = bth b q.2.2.2.1 i bits)) args s 0 0 (fun _ => False)) (F0 m 34 ls []) := by
                    intro n9
                    induction n9 with
                    | zero => intros; omega
                    | succ n9 ih_15 =>
                      intro x3 y3 v hv hx3 hy3 hn9 ls hl
                      have hxl := cnt_le (lgf b q.2.2.2.1 i bits (m9 + 1)) v
                      have hyl := cnt_le (shf b q.2.2.2.1 i bits (m9 + 1)) v
                      refine lv_iload hx hb dX7_listenOf_34 (lv_at hl 8 rfl) ?_
                      refine lv_iconst (v := nI 4) hx hb dX7_listenOf_36 (by decide) ?_
                      refine j_icmp_ge (tgt := 89) hx hb dX7_listenOf_37 (by decide) (nI_toInt (by omega)) (nI_toInt (by decide)) (fun c_16 => ?_) (fun c_16 => ?_)
                      · refine lv_iload hx hb dX7_listenOf_89 (lv_at hl 6 rfl) ?_
                        refine lv_iload hx hb dX7_listenOf_91 (lv_at hl 7 rfl) ?_
                        refine lv_iload hx hb dX7_listenOf_93 (lv_at hl 6 rfl) ?_
                        refine n_isub hx hb dX7_listenOf_95 (by omega) ?_
                        refine j_icmp_le (tgt := 104) hx hb dX7_listenOf_96 (by decide) (nI_toInt (by omega)) (nI_toInt (by omega)) (fun c_17 => ?_) (fun c_17 => ?_)
                        · refine lv_iload hx hb dX7_listenOf_104 (lv_at hl 7 rfl) ?_
                          refine lv_iload hx hb dX7_listenOf_106 (lv_at hl 6 rfl) ?_
                          refine n_isub hx hb dX7_listenOf_108 (by omega) ?_
                          have hv4 : v = 4 := by omega
                          have hw9 := lw_le b q.2.2.2.1 i bits (m9 + 1)
                          refine n_top (y := nI (lw b q.2.2.2.1 i bits (m9 + 1))) (congrArg nI (by unfold lw; rw [hv4] at hx3 hy3; rw [← hx3]; omega)) ?_
                          refine lv_istore (lv' := [(8, .int (nI (lw b q.2.2.2.1 i bits (m9 + 1)))), (0, .ref h), (1, .int (nI i)), (2, .int (nI bits)), (3, .int (nI x)), (4, .int (nI y)), (5, .int (nI (m9 + 1))), (6, .int (nI x3)), (7, .int (nI y3))]) hx hb dX7_listenOf_109 hl (by decide) rfl (fun ls hl => ?_)
                          refine lv_iload hx hb dX7_listenOf_111 (lv_at hl 0 rfl) ?_
                          refine lv_iload hx hb dX7_listenOf_113 (lv_at hl 5 rfl) ?_
                          refine j_icmp_ge (tgt := 123) hx hb dX7_listenOf_115 (by decide) (nI_toInt (by omega)) (nI_toInt (by omega)) (fun c_19 => ?_) (fun c_19 => ?_)
                          · refine lv_iload_n hx hb dX7_listenOf_123 rfl (lv_at hl 4 rfl) ?_
                            refine lv_istore_n (lv' := [(3, .int (nI x)), (8, .int (nI (lw b q.2.2.2.1 i bits (m9 + 1)))), (0, .ref h), (1, .int (nI i)), (2, .int (nI bits)), (4, .int (nI y)), (5, .int (nI (m9 + 1))), (6, .int (nI x3)), (7, .int (nI y3))]) hx hb dX7_listenOf_124 rfl hl (by decide) rfl (fun ls hl => ?_)
                            refine lv_iload hx hb dX7_listenOf_125 (lv_at hl 1 rfl) ?_
                            refine lv_iload hx hb dX7_listenOf_127 (lv_at hl 5 rfl) ?_
                            refine j_icmp_ge (tgt := 137) hx hb dX7_listenOf_129 (by decide) (nI_toInt (by omega)) (nI_toInt (by omega)) (fun c_20 => ?_) (fun c_20 => absurd c_20 (by omega))
                            refine lv_iload hx hb dX7_listenOf_137 (lv_at hl 5 rfl) ?_
                            refine lv_istore (lv' := [(4, .int (nI y)), (3, .int (nI x)), (8, .int (nI (lw b q.2.2.2.1 i bits (m9 + 1)))), (0, .ref h), (1, .int (nI i)), (2, .int (nI bits)), (5, .int (nI (m9 + 1))), (6, .int (nI x3)), (7, .int (nI y3))]) hx hb dX7_listenOf_139 hl (by decide) rfl (fun ls hl => ?_)
                            have hx2 : x = lky (lw b q.2.2.2.1 i bits) (m9 + 1) := lky_f hx1 (by omega)
                            have hy2 : y = (lw b q.2.2.2.1 i bits) x := hy1
                            refine lv_iinc (v := nI (m9 + 1 + 1)) (lv' := [(5, .int (nI (m9 + 1 + 1))), (4, .int (nI y)), (3, .int (nI x)), (8, .int (nI (lw b q.2.2.2.1 i bits (m9 + 1)))), (0, .ref h), (1, .int (nI i)), (2, .int (nI bits)), (6, .int (nI x3)), (7, .int (nI y3))]) hx hb dX7_listenOf_141 hl (k := 6) rfl (fr_inc1 _) (by decide) rfl (fun ls hl => ?_)
                            refine lv_goto (tgt := 14) hx hb dX7_listenOf_144 (by decide) ?_
                            exact ih_11 x y (m9 + 1) (by omega) (hx2) (hy2) (by omega) _ (lv_sub hl [4, 5, 6, 2, 1, 0] rfl)
                          · refine lv_iload hx hb dX7_listenOf_118 (lv_at hl 6 rfl) ?_
                            refine lv_goto (tgt := 124) hx hb dX7_listenOf_120 (by decide) ?_
                            refine lv_istore_n (lv' := [(3, .int (nI (m9 + 1))), (8, .int (nI (lw b q.2.2.2.1 i bits (m9 + 1)))), (0, .ref h), (1, .int (nI i)), (2, .int (nI bits)), (4, .int (nI y)), (5, .int (nI (m9 + 1))), (6, .int (nI x3)), (7, .int (nI y3))]) hx hb dX7_listenOf_124 rfl hl (by decide) rfl (fun ls hl => ?_)
                            refine lv_iload hx hb dX7_listenOf_125 (lv_at hl 1 rfl) ?_
                            refine lv_iload hx hb dX7_listenOf_127 (lv_at hl 5 rfl) ?_
                            refine j_icmp_ge (tgt := 137) hx hb dX7_listenOf_129 (by decide) (nI_toInt (by omega)) (nI_toInt (by omega)) (fun c_21 => absurd c_21 (by omega)) (fun c_21 => ?_)
                            refine lv_iload hx hb dX7_listenOf_132 (lv_at hl 1 rfl) ?_
                            refine lv_goto (tgt := 139) hx hb dX7_listenOf_134 (by decide) ?_
                            refine lv_istore (lv' := [(4, .int (nI (lw b q.2.2.2.1 i bits (m9 + 1)))), (3, .int (nI (m9 + 1))), (8, .int (nI (lw b q.2.2.2.1 i bits (m9 + 1)))), (0, .ref h), (1, .int (nI i)), (2, .int (nI bits)), (5, .int (nI (m9 + 1))), (6, .int (nI x3)), (7, .int (nI y3))]) hx hb dX7_listenOf_139 hl (by decide) rfl (fun ls hl => ?_)
                            have hx2 : m9 + 1 = lky (lw b q.2.2.2.1 i bits) (m9 + 1) := lky_t hx1 (by omega)
                            have hy2 : lw b q.2.2.2.1 i bits (m9 + 1) = (lw b q.2.2.2.1 i bits) (m9 + 1) := rfl
                            refine lv_iinc (v := nI (m9 + 1 + 1)) (lv' := [(5, .int (nI (m9 + 1 + 1))), (4, .int (nI (lw b q.2.2.2.1 i bits (m9 + 1)))), (3, .int (nI (m9 + 1))), (8, .int (nI (lw b q.2.2.2.1 i bits (m9 + 1)))), (0, .ref h), (1, .int (nI i)), (2, .int (nI bits)), (6, .int (nI x3)), (7, .int (nI y3))]) hx hb dX7_listenOf_141 hl (k := 6) rfl (fr_inc1 _) (by decide) rfl (fun ls hl => ?_)
                            refine lv_goto (tgt := 14) hx hb dX7_listenOf_144 (by decide) ?_
                            exact ih_11 (m9 + 1) (lw b q.2.2.2.1 i bits (m9 + 1)) (m9 + 1) (by omega) (hx2) (hy2) (by omega) _ (lv_sub hl [4, 5, 6, 2, 1, 0] rfl)
                        · refine lv_iload hx hb dX7_listenOf_99 (lv_at hl 6 rfl) ?_
                          refine lv_goto (tgt := 109) hx hb dX7_listenOf_101 (by decide) ?_
                          have hv4 : v = 4 := by omega
                          have hw9 := lw_le b q.2.2.2.1 i bits (m9 + 1)
                          refine n_top (y := nI (lw b q.2.2.2.1 i bits (m9 + 1))) (congrArg nI (by unfold lw; rw [hv4] at hx3 hy3; rw [← hx3]; omega)) ?_
                          refine lv_istore (lv' := [(8, .int (nI (lw b q.2.2.2.1 i bits (m9 + 1)))), (0, .ref h), (1, .int (nI i)), (2, .int (nI bits)), (3, .int (nI x)), (4, .int (nI y)), (5, .int (nI (m9 + 1))), (6, .int (nI x3)), (7, .int (nI y3))]) hx hb dX7_listenOf_109 hl (by decide) rfl (fun ls hl => ?_)
                          refine lv_iload hx hb dX7_listenOf_111 (lv_at hl 0 rfl) ?_
                          refine lv_iload hx hb dX7_listenOf_113 (lv_at hl 5 rfl) ?_
                          refine j_icmp_ge (tgt := 123) hx hb dX7_listenOf_115 (by decide) (nI_toInt (by omega)) (nI_toInt (by omega)) (fun c_23 => ?_) (fun c_23 => ?_)
                          · refine lv_iload_n hx hb dX7_listenOf_123 rfl (lv_at hl 4 rfl) ?_
                            refine lv_istore_n (lv' := [(3, .int (nI x)), (8, .int (nI (lw b q.2.2.2.1 i bits (m9 + 1)))), (0, .ref h), (1, .int (nI i)), (2, .int (nI bits)), (4, .int (nI y)), (5, .int (nI (m9 + 1))), (6, .int (nI x3)), (7, .int (nI y3))]) hx hb dX7_listenOf_124 rfl hl (by decide) rfl (fun ls hl => ?_)
                            refine lv_iload hx hb dX7_listenOf_125 (lv_at hl 1 rfl) ?_
                            refine lv_iload hx hb dX7_listenOf_127 (lv_at hl 5 rfl) ?_
                            refine j_icmp_ge (tgt := 137) hx hb dX7_listenOf_129 (by decide) (nI_toInt (by omega)) (nI_toInt (by omega)) (fun c_24 => ?_) (fun c_24 => absurd c_24 (by omega))
                            refine lv_iload hx hb dX7_listenOf_137 (lv_at hl 5 rfl) ?_
                            refine lv_istore (lv' := [(4, .int (nI y)), (3, .int (nI x)), (8, .int (nI (lw b q.2.2.2.1 i bits (m9 + 1)))), (0, .ref h), (1, .int (nI i)), (2, .int (nI bits)), (5, .int (nI (m9 + 1))), (6, .int (nI x3)), (7, .int (nI y3))]) hx hb dX7_listenOf_139 hl (by decide) rfl (fun ls hl => ?_)
                            have hx2 : x = lky (lw b q.2.2.2.1 i bits) (m9 + 1) := lky_f hx1 (by omega)
                            have hy2 : y = (lw b q.2.2.2.1 i bits) x := hy1
                            refine lv_iinc (v := nI (m9 + 1 + 1)) (lv' := [(5, .int (nI (m9 + 1 + 1))), (4, .int (nI y)), (3, .int (nI x)), (8, .int (nI (lw b q.2.2.2.1 i bits (m9 + 1)))), (0, .ref h), (1, .int (nI i)), (2, .int (nI bits)), (6, .int (nI x3)), (7, .int (nI y3))]) hx hb dX7_listenOf_141 hl (k := 6) rfl (fr_inc1 _) (by decide) rfl (fun ls hl => ?_)
                            refine lv_goto (tgt := 14) hx hb dX7_listenOf_144 (by decide) ?_
                            exact ih_11 x y (m9 + 1) (by omega) (hx2) (hy2) (by omega) _ (lv_sub hl [4, 5, 6, 2, 1, 0] rfl)
                          · refine lv_iload hx hb dX7_listenOf_118 (lv_at hl 6 rfl) ?_
                            refine lv_goto (tgt := 124) hx hb dX7_listenOf_120 (by decide) ?_
                            refine lv_istore_n (lv' := [(3, .int (nI (m9 + 1))), (8, .int (nI (lw b q.2.2.2.1 i bits (m9 + 1)))), (0, .ref h), (1, .int (nI i)), (2, .int (nI bits)), (4, .int (nI y)), (5, .int (nI (m9 + 1))), (6, .int (nI x3)), (7, .int (nI y3))]) hx hb dX7_listenOf_124 rfl hl (by decide) rfl (fun ls hl => ?_)
                            refine lv_iload hx hb dX7_listenOf_125 (lv_at hl 1 rfl) ?_
                            refine lv_iload hx hb dX7_listenOf_127 (lv_at hl 5 rfl) ?_
                            refine j_icmp_ge (tgt := 137) hx hb dX7_listenOf_129 (by decide) (nI_toInt (by omega)) (nI_toInt (by omega)) (fun c_25 => absurd c_25 (by omega)) (fun c_25 => ?_)
                            refine lv_iload hx hb dX7_listenOf_132 (lv_at hl 1 rfl) ?_
                            refine lv_goto (tgt := 139) hx hb dX7_listenOf_134 (by decide) ?_
                            refine lv_istore (lv' := [(4, .int (nI (lw b q.2.2.2.1 i bits (m9 + 1)))), (3, .int (nI (m9 + 1))), (8, .int (nI (lw b q.2.2.2.1 i bits (m9 + 1)))), (0, .ref h), (1, .int (nI i)), (2, .int (nI bits)), (5, .int (nI (m9 + 1))), (6, .int (nI x3)), (7, .int (nI y3))]) hx hb dX7_listenOf_139 hl (by decide) rfl (fun ls hl => ?_)
                            have hx2 : m9 + 1 = lky (lw b q.2.2.2.1 i bits) (m9 + 1) := lky_t hx1 (by omega)
                            have hy2 : lw b q.2.2.2.1 i bits (m9 + 1) = (lw b q.2.2.2.1 i bits) (m9 + 1) := rfl
                            refine lv_iinc (v := nI (m9 + 1 + 1)) (lv' := [(5, .int (nI (m9 + 1 + 1))), (4, .int (nI (lw b q.2.2.2.1 i bits (m9 + 1)))), (3, .int (nI (m9 + 1))), (8, .int (nI (lw b q.2.2.2.1 i bits (m9 + 1)))), (0, .ref h), (1, .int (nI i)), (2, .int (nI bits)), (6, .int (nI x3)), (7, .int (nI y3))]) hx hb dX7_listenOf_141 hl (k := 6) rfl (fr_inc1 _) (by decide) rfl (fun ls hl => ?_)
                            refine lv_goto (tgt := 14) hx hb dX7_listenOf_144 (by decide) ?_
                            exact ih_11 (m9 + 1) (lw b q.2.2.2.1 i bits (m9 + 1)) (m9 + 1) (by omega) (hx2) (hy2) (by omega) _ (lv_sub hl [4, 5, 6, 2, 1, 0] rfl)
                      · refine lv_iload_n hx hb dX7_listenOf_40 rfl (lv_at hl 2 rfl) ?_
                        refine lv_iload hx hb dX7_listenOf_41 (lv_at hl 8 rfl) ?_
                        refine n_ishr hx hb dX7_listenOf_43 (by omega) (by omega) ?_
                        refine lv_iconst (v := nI 1) hx hb dX7_listenOf_44 (by decide) ?_
                        refine n_iand1 hx hb dX7_listenOf_45 (Nat.lt_of_le_of_lt (Nat.div_le_self _ _) (by omega)) ?_
                        refine lv_istore (lv' := [(9, .int (nI ((bits / 2 ^ v) % 2))), (0, .ref h), (1, .int (nI i)), (2, .int (nI bits)), (3, .int (nI x)), (4, .int (nI y)), (5, .int (nI (m9 + 1))), (6, .int (nI x3)), (7, .int (nI y3)), (8, .int (nI v))]) hx hb dX7_listenOf_46 hl (by decide) rfl (fun ls hl => ?_)
                        refine lv_iload hx hb dX7_listenOf_48 (lv_at hl 8 rfl) ?_
                        refine lv_iload hx hb dX7_listenOf_50 (lv_at hl 0 rfl) ?_
                        refine n_iadd hx hb dX7_listenOf_52 ?_
                        refine lv_istore (lv' := [(7, .int (nI (y3 + ((bits / 2 ^ v) % 2)))), (9, .int (nI ((bits / 2 ^ v) % 2))), (0, .ref h), (1, .int (nI i)), (2, .int (nI bits)), (3, .int (nI x)), (4, .int (nI y)), (5, .int (nI (m9 + 1))), (6, .int (nI x3)), (8, .int (nI v))]) hx hb dX7_listenOf_53 hl (by decide) rfl (fun ls hl => ?_)
                        refine lv_iload hx hb dX7_listenOf_55 (lv_at hl 8 rfl) ?_
                        refine lv_iload hx hb dX7_listenOf_57 (lv_at hl 1 rfl) ?_
                        refine lv_aload_n hx hb dX7_listenOf_59 rfl (lv_at hl 2 rfl) ?_
                        refine lv_iload_n hx hb dX7_listenOf_60 rfl (lv_at hl 3 rfl) ?_
                        refine lv_iload hx hb dX7_listenOf_61 (lv_at hl 9 rfl) ?_
                        refine lv_aload_n hx hb dX7_listenOf_63 rfl (lv_at hl 2 rfl) ?_
                        refine va_get (D := D) (ci := 7) (v := .ref (g 11)) (C := RX7) (T := TX7) (N := 22) hx hb hts iX7 hown hK hP 0 rfl rfl 11 (by decide) (hts _ mg_473) (fun _ h9 => h9) rfl dX7_listenOf_64 ?_
                        refine lv_iconst (v := nI 4) hx hb dX7_listenOf_67 (by decide) ?_
                        refine lv_iload_n hx hb dX7_listenOf_68 rfl (lv_at hl 3 rfl) ?_
                        refine n_imul hx hb dX7_listenOf_69 ?_
                        refine lv_iconst (v := nI 3) hx hb dX7_listenOf_70 (by decide) ?_
                        refine n_iadd hx hb dX7_listenOf_71 ?_
                        refine n_aldi hx hb hK hP 5 0 rfl rfl (by omega) (by decide) (v := nI (q.2.2.2.1 i 3)) (MR_row hM (by omega) (by omega)) dX7_listenOf_72 ?_
                        refine lv_iload hx hb dX7_listenOf_73 (lv_at hl 7 rfl) ?_
                        refine n_iadd hx hb dX7_listenOf_75 ?_
                        refine ro_iV (n := 3) (As := [.int (nI i), .int (nI v), .int (nI ((q.2.2.2.1 i 3) + (m9 + 1)))]) ⟨hx, hb, hml, hown, hts⟩ (c_X7_dripAs l D h g cI J hz G b q hM hok9 hT i (by omega) v ((q.2.2.2.1 i 3) + (m9 + 1)) (by omega) (by omega)) (cwV 3 hts (gV mg_612 mg_614 mg_1026 mg_8 mg_615) rfl rfl rfl vd_X7_dripAs ⟨Nat.le_of_ble_eq_true rfl, Nat.le_of_ble_eq_true rfl⟩) (va_recv hK hP (ci := 7) (q0 := 0) rfl rfl) hK hP rfl hl.1 rfl (Nat.le_of_ble_eq_true rfl) dX7_listenOf_76 ⟨Nat.zero_le _, Nat.zero_le _⟩ ?_
                        have hd1 : dpl b q.2.2.2.1 i v (m9 + 1) ≤ 1 := sd_le hok9 (by omega)
                        refine n_imul hx hb dX7_listenOf_79 ?_
                        refine n_iadd hx hb dX7_listenOf_80 ?_
                        refine lv_istore (lv' := [(6, .int (nI (x3 + (((bits / 2 ^ v) % 2) * (sd b (q.2.2.2.1 i 0) (q.2.2.2.1 i 2) v ((q.2.2.2.1 i 3) + (m9 + 1))))))), (7, .int (nI (y3 + ((bits / 2 ^ v) % 2)))), (9, .int (nI ((bits / 2 ^ v) % 2))), (0, .ref h), (1, .int (nI i)), (2, .int (nI bits)), (3, .int (nI x)), (4, .int (nI y)), (5, .int (nI (m9 + 1))), (8, .int (nI v))]) hx hb dX7_listenOf_81 hl (by decide) rfl (fun ls hl => ?_)
                        refine lv_iinc (v := nI (v + 1)) (lv' := [(8, .int (nI (v + 1))), (6, .int (nI (x3 + (((bits / 2 ^ v) % 2) * (sd b (q.2.2.2.1 i 0) (q.2.2.2.1 i 2) v ((q.2.2.2.1 i 3) + (m9 + 1))))))), (7, .int (nI (y3 + ((bits / 2 ^ v) % 2)))), (9, .int (nI ((bits / 2 ^ v) % 2))), (0, .ref h), (1, .int (nI i)), (2, .int (nI bits)), (3, .int (nI x)), (4, .int (nI y)), (5, .int (nI (m9 + 1)))]) hx hb dX7_listenOf_83 hl (k := 9) rfl (fr_inc1 _) (by decide) rfl (fun ls hl => ?_)
                        refine lv_goto (tgt := 34) hx hb dX7_listenOf_86 (by decide) ?_
                        exact ih_15 (x3 + (((bits / 2 ^ v) % 2) * (sd b (q.2.2.2.1 i 0) (q.2.2.2.1 i 2) v ((q.2.2.2.1 i 3) + (m9 + 1))))) (y3 + ((bits / 2 ^ v) % 2)) (v + 1) (by omega) (by rw [lg_s (by omega) hd1, hx3]; rfl) (by rw [sh_s (by omega) hd1, hy3]) (by omega) _ (lv_sub hl [4, 5, 6, 7, 8, 9, 1, 2, 0] rfl)
                  exact K_14 (4 - 0 + 1) 0 0 0 (by omega) (rfl) (rfl) (Nat.lt_succ_self _) _ (lv_sub hl [3, 4, 5, 6, 7, 8, 2, 1, 0] rfl)
            exact K_10 (7 - 0 + 1) 0 (lw b q.2.2.2.1 i bits 0) 0 (by decide) (rfl) (hy2) (Nat.lt_succ_self _) _ (lv_sub hl [4, 5, 6, 2, 1, 0] rfl)
          · refine lv_iload hx hb dX7_listenOf_99 (lv_at hl 6 rfl) ?_
            refine lv_goto (tgt := 109) hx hb dX7_listenOf_101 (by decide) ?_
            have hv4 : v = 4 := by omega
            have hw9 := lw_le b q.2.2.2.1 i bits 0
            refine n_top (y := nI (lw b q.2.2.2.1 i bits 0)) (congrArg nI (by unfold lw; rw [hv4] at hx3 hy3; rw [← hx3]; omega)) ?_
            refine lv_istore (lv' := [(8, .int (nI (lw b q.2.2.2.1 i bits 0))), (0, .ref h), (1, .int (nI i)), (2, .int (nI bits)), (3, .int (-1)), (4, .int (nI 5)), (5, .int (nI 0)), (6, .int (nI x3)), (7, .int (nI y3))]) hx hb dX7_listenOf_109 hl (by decide) rfl (fun ls hl => ?_)
            refine lv_iload hx hb dX7_listenOf_111 (lv_at hl 0 rfl) ?_
            refine lv_iload hx hb dX7_listenOf_113 (lv_at hl 5 rfl) ?_
            refine j_icmp_ge (tgt := 123) hx hb dX7_listenOf_115 (by decide) (nI_toInt (by omega)) (nI_toInt (by decide)) (fun c_27 => absurd c_27 (by omega)) (fun c_27 => ?_)
            refine lv_iload hx hb dX7_listenOf_118 (lv_at hl 6 rfl) ?_
            refine lv_goto (tgt := 124) hx hb dX7_listenOf_120 (by decide) ?_
            refine lv_istore_n (lv' := [(3, .int (nI 0)), (8, .int (nI (lw b q.2.2.2.1 i bits 0))), (0, .ref h), (1, .int (nI i)), (2, .int (nI bits)), (4, .int (nI 5)), (5, .int (nI 0)), (6, .int (nI x3)), (7, .int (nI y3))]) hx hb dX7_listenOf_124 rfl hl (by decide) rfl (fun ls hl => ?_)
            refine lv_iload hx hb dX7_listenOf_125 (lv_at hl 1 rfl) ?_
            refine lv_iload hx hb dX7_listenOf_127 (lv_at hl 5 rfl) ?_
            refine j_icmp_ge (tgt := 137) hx hb dX7_listenOf_129 (by decide) (nI_toInt (by omega)) (nI_toInt (by decide)) (fun c_28 => absurd c_28 (by omega)) (fun c_28 => ?_)
            refine lv_iload hx hb dX7_listenOf_132 (lv_at hl 1 rfl) ?_
            refine lv_goto (tgt := 139) hx hb dX7_listenOf_134 (by decide) ?_
            refine lv_istore (lv' := [(4, .int (nI (lw b q.2.2.2.1 i bits 0))), (3, .int (nI 0)), (8, .int (nI (lw b q.2.2.2.1 i bits 0))), (0, .ref h), (1, .int (nI i)), (2, .int (nI bits)), (5, .int (nI 0)), (6, .int (nI x3)), (7, .int (nI y3))]) hx hb dX7_listenOf_139 hl (by decide) rfl (fun ls hl => ?_)
            have hx2 : (0 : Nat) = lky (lw b q.2.2.2.1 i bits) 0 := rfl
            have hy2 : lw b q.2.2.2.1 i bits 0 = (lw b q.2.2.2.1 i bits) 0 := rfl
            refine lv_iinc (v := nI 1) (lv' := [(5, .int (nI 1)), (4, .int (nI (lw b q.2.2.2.1 i bits 0))), (3, .int (nI 0)), (8, .int (nI (lw b q.2.2.2.1 i bits 0))), (0, .ref h), (1, .int (nI i)), (2, .int (nI bits)), (6, .int (nI x3)), (7, .int (nI y3))]) hx hb dX7_listenOf_141 hl (k := 6) rfl rfl (by decide) rfl (fun ls hl => ?_)
            refine lv_goto (tgt := 14) hx hb dX7_listenOf_144 (by decide) ?_
            have K_29 : ∀ n9 : Nat, ∀ (x : Nat) (y : Nat) (m9 : Nat), m9 ≤ 7 → x = lky (lw b q.2.2.2.1 i bits) m9 → y = (lw b q.2.2.2.1 i bits) x → 7 - m9 < n9 → ∀ ls : Array Slot, lv_has ls 10 [(0, .ref h), (1, .int (nI i)), (2, .int (nI bits)), (3, .int (nI x)), (4, .int (nI y)), (5, .int (nI (m9 + 1)))] → W p l e (headSpec (wA yX7_listenOf cX7_listenOf 10 (some .int)) ({ frames := 3, cells := 0, slots := 0, locals := 76 })).room s m args below meth c s.heap [] 0 0 (MQ below (vp_Si (fun z9 => z9 = bth b q.2.2.2.1 i bits)) args s 0 0 (fun _ => False)) (F0 m 14 ls []) := by
              intro n9
              induction n9 with
              | zero => intros; omega
              | succ n9 ih_30 =>
                intro x y m9 hm9 hx1 hy1 hn9 ls hl
                have hxl9 : x ≤ m9 := by rw [hx1]; exact lky_le _ _
                have hyl9 : y ≤ 4 := by rw [hy1]; exact lw_le _ _ _ _ _
                refine lv_iload hx hb dX7_listenOf_14 (lv_at hl 5 rfl) ?_
                refine lv_bipush (v := nI 8) hx hb dX7_listenOf_16 (by decide) ?_
                refine j_icmp_ge (tgt := 147) hx hb dX7_listenOf_18 (by decide) (nI_toInt (by omega)) (nI_toInt (by decide)) (fun c_31 => ?_) (fun c_31 => ?_)
                · refine lv_iload_n hx hb dX7_listenOf_147 rfl (lv_at hl 3 rfl) ?_
                  exact ro_iret hx hb hr hlocks (by rw [bth, if_neg (by omega), hx1, show m9 = 7 by omega]) dX7_listenOf_148
                · refine lv_iload_n hx hb dX7_listenOf_21 rfl (lv_at hl 2 rfl) ?_
                  refine j_if_eq (tgt := 147) hx hb dX7_listenOf_22 (by decide) (nI_toInt (by omega)) (fun c_32 => absurd c_32 (by omega)) (fun c_32 => ?_)
                  refine lv_iconst (v := nI 0) hx hb dX7_listenOf_25 (by decide) ?_
                  refine lv_istore (lv' := [(6, .int (nI 0)), (0, .ref h), (1, .int (nI i)), (2, .int (nI bits)), (3, .int (nI x)), (4, .int (nI y)), (5, .int (nI (m9 + 1)))]) hx hb dX7_listenOf_26 hl (by decide) rfl (fun ls hl => ?_)
                  refine lv_iconst (v := nI 0) hx hb dX7_listenOf_28 (by decide) ?_
                  refine lv_istore (lv' := [(7, .int (nI 0)), (6, .int (nI 0)), (0, .ref h), (1, .int (nI i)), (2, .int (nI bits)), (3, .int (nI x)), (4, .int (nI y)), (5, .int (nI (m9 + 1)))]) hx hb dX7_listenOf_29 hl (by decide) rfl (fun ls hl => ?_)
                  refine lv_iconst (v := nI 0) hx hb dX7_listenOf_31 (by decide) ?_
                  refine lv_istore (lv' := [(8, .int (nI 0)), (7, .int (nI 0)), (6, .int (nI 0)), (0, .ref h), (1, .int (nI i)), (2, .int (nI bits)), (3, .int (nI x)), (4, .int (nI y)), (5, .int (nI (m9 + 1)))]) hx hb dX7_listenOf_32 hl (by decide) rfl (fun ls hl => ?_)
                  have K_33 : ∀ n9 : Nat, ∀ (x3 : Nat) (y3 : Nat) (v : Nat), v ≤ 4 → x3 = cnt (lgf b q.2.2.2.1 i bits (m9 + 1)) v → y3 = cnt (lgf b q.2.2.2.1 i bits (m9 + 1)) v + cnt (shf b q.2.2.2.1 i bits (m9 + 1)) v → 4 - v < n9 → ∀ ls : Array Slot, lv_has ls 10 [(0, .ref h), (1, .int (nI i)), (2, .int (nI bits)), (3, .int (nI x)), (4, .int (nI y)), (5, .int (nI (m9 + 1))), (6, .int (nI x3)), (7, .int (nI y3)), (8, .int (nI v))] → W p l e (headSpec (wA yX7_listenOf cX7_listenOf 10 (some .int)) ({ frames := 3, cells := 0, slots := 0, locals := 76 })).room s m args below meth c s.heap [] 0 0 (MQ below (vp_Si (fun z9 => z9 = bth b q.2.2.2.1 i bits)) args s 0 0 (fun _ => False)) (F0 m 34 ls []) := by
                    intro n9
                    induction n9 with
                    | zero => intros; omega
                    | succ n9 ih_34 =>
                      intro x3 y3 v hv hx3 hy3 hn9 ls hl
                      have hxl := cnt_le (lgf b q.2.2.2.1 i bits (m9 + 1)) v
                      have hyl := cnt_le (shf b q.2.2.2.1 i bits (m9 + 1)) v
                      refine lv_iload hx hb dX7_listenOf_34 (lv_at hl 8 rfl) ?_
                      refine lv_iconst (v := nI 4) hx hb dX7_listenOf_36 (by decide) ?_
                      refine j_icmp_ge (tgt := 89) hx hb dX7_listenOf_37 (by decide) (nI_toInt (by omega)) (nI_toInt (by decide)) (fun c_35 => ?_) (fun c_35 => ?_)
                      · refine lv_iload hx hb dX7_listenOf_89 (lv_at hl 6 rfl) ?_
                        refine lv_iload hx hb dX7_listenOf_91 (lv_at hl 7 rfl) ?_
                        refine lv_iload hx hb dX7_listenOf_93 (lv_at hl 6 rfl) ?_
                        refine n_isub hx hb dX7_listenOf_95 (by omega) ?_
                        refine j_icmp_le (tgt := 104) hx hb dX7_listenOf_96 (by decide) (nI_toInt (by omega)) (nI_toInt (by omega)) (fun c_36 => ?_) (fun c_36 => ?_)
                        · refine lv_iload hx hb dX7_listenOf_104 (lv_at hl 7 rfl) ?_
                          refine lv_iload hx hb dX7_listenOf_106 (lv_at hl 6 rfl) ?_
                          refine n_isub hx hb dX7_listenOf_108 (by omega) ?_
                          have hv4 : v = 4 := by omega
                          have hw9 := lw_le b q.2.2.2.1 i bits (m9 + 1)
                          refine n_top (y := nI (lw b q.2.2.2.1 i bits (m9 + 1))) (congrArg nI (by unfold lw; rw [hv4] at hx3 hy3; rw [← hx3]; omega)) ?_
                          refine lv_istore (lv' := [(8, .int (nI (lw b q.2.2.2.1 i bits (m9 + 1)))), (0, .ref h), (1, .int (nI i)), (2, .int (nI bits)), (3, .int (nI x)), (4, .int (nI y)), (5, .int (nI (m9 + 1))), (6, .int (nI x3)), (7, .int (nI y3))]) hx hb dX7_listenOf_109 hl (by decide) rfl (fun ls hl => ?_)
                          refine lv_iload hx hb dX7_listenOf_111 (lv_at hl 0 rfl) ?_
                          refine lv_iload hx hb dX7_listenOf_113 (lv_at hl 5 rfl) ?_
                          refine j_icmp_ge (tgt := 123) hx hb dX7_listenOf_115 (by decide) (nI_toInt (by omega)) (nI_toInt (by omega)) (fun c_38 => ?_) (fun c_38 => ?_)
                          · refine lv_iload_n hx hb dX7_listenOf_123 rfl (lv_at hl 4 rfl) ?_
                            refine lv_istore_n (lv' := [(3, .int (nI x)), (8, .int (nI (lw b q.2.2.2.1 i bits (m9 + 1)))), (0, .ref h), (1, .int (nI i)), (2, .int (nI bits)), (4, .int (nI y)), (5, .int (nI (m9 + 1))), (6, .int (nI x3)), (7, .int (nI y3))]) hx hb dX7_listenOf_124 rfl hl (by decide) rfl (fun ls hl => ?_)
                            refine lv_iload hx hb dX7_listenOf_125 (lv_at hl 1 rfl) ?_
                            refine lv_iload hx hb dX7_listenOf_127 (lv_at hl 5 rfl) ?_
                            refine j_icmp_ge (tgt := 137) hx hb dX7_listenOf_129 (by decide) (nI_toInt (by omega)) (nI_toInt (by omega)) (fun c_39 => ?_) (fun c_39 => absurd c_39 (by omega))
                            refine lv_iload hx hb dX7_listenOf_137 (lv_at hl 5 rfl) ?_
                            refine lv_istore (lv' := [(4, .int (nI y)), (3, .int (nI x)), (8, .int (nI (lw b q.2.2.2.1 i bits (m9 + 1)))), (0, .ref h), (1, .int (nI i)), (2, .int (nI bits)), (5, .int (nI (m9 + 1))), (6, .int (nI x3)), (7, .int (nI y3))]) hx hb dX7_listenOf_139 hl (by decide) rfl (fun ls hl => ?_)
                            have hx2 : x = lky (lw b q.2.2.2.1 i bits) (m9 + 1) := lky_f hx1 (by omega)
                            have hy2 : y = (lw b q.2.2.2.1 i bits) x := hy1
                            refine lv_iinc (v := nI (m9 + 1 + 1)) (lv' := [(5, .int (nI (m9 + 1 + 1))), (4, .int (nI y)), (3, .int (nI x)), (8, .int (nI (lw b q.2.2.2.1 i bits (m9 + 1)))), (0, .ref h), (1, .int (nI i)), (2, .int (nI bits)), (6, .int (nI x3)), (7, .int (nI y3))]) hx hb dX7_listenOf_141 hl (k := 6) rfl (fr_inc1 _) (by decide) rfl (fun ls hl => ?_)
                            refine lv_goto (tgt := 14) hx hb dX7_listenOf_144 (by decide) ?_
                            exact ih_30 x y (m9 + 1) (by omega) (hx2) (hy2) (by omega) _ (lv_sub hl [4, 5, 6, 2, 1, 0] rfl)
                          · refine lv_iload hx hb dX7_listenOf_118 (lv_at hl 6 rfl) ?_
                            refine lv_goto (tgt := 124) hx hb dX7_listenOf_120 (by decide) ?_
                            refine lv_istore_n (lv' := [(3, .int (nI (m9 + 1))), (8, .int (nI (lw b q.2.2.2.1 i bits (m9 + 1)))), (0, .ref h), (1, .int (nI i)), (2, .int (nI bits)), (4, .int (nI y)), (5, .int (nI (m9 + 1))), (6, .int (nI x3)), (7, .int (nI y3))]) hx hb dX7_listenOf_124 rfl hl (by decide) rfl (fun ls hl => ?_)
                            refine lv_iload hx hb dX7_listenOf_125 (lv_at hl 1 rfl) ?_
                            refine lv_iload hx hb dX7_listenOf_127 (lv_at hl 5 rfl) ?_
                            refine j_icmp_ge (tgt := 137) hx hb dX7_listenOf_129 (by decide) (nI_toInt (by omega)) (nI_toInt (by omega)) (fun c_40 => absurd c_40 (by omega)) (fun c_40 => ?_)
                            refine lv_iload hx hb dX7_listenOf_132 (lv_at hl 1 rfl) ?_
                            refine lv_goto (tgt := 139) hx hb dX7_listenOf_134 (by decide) ?_
                            refine lv_istore (lv' := [(4, .int (nI (lw b q.2.2.2.1 i bits (m9 + 1)))), (3, .int (nI (m9 + 1))), (8, .int (nI (lw b q.2.2.2.1 i bits (m9 + 1)))), (0, .ref h), (1, .int (nI i)), (2, .int (nI bits)), (5, .int (nI (m9 + 1))), (6, .int (nI x3)), (7, .int (nI y3))]) hx hb dX7_listenOf_139 hl (by decide) rfl (fun ls hl => ?_)
                            have hx2 : m9 + 1 = lky (lw b q.2.2.2.1 i bits) (m9 + 1) := lky_t hx1 (by omega)
                            have hy2 : lw b q.2.2.2.1 i bits (m9 + 1) = (lw b q.2.2.2.1 i bits) (m9 + 1) := rfl
                            refine lv_iinc (v := nI (m9 + 1 + 1)) (lv' := [(5, .int (nI (m9 + 1 + 1))), (4, .int (nI (lw b q.2.2.2.1 i bits (m9 + 1)))), (3, .int (nI (m9 + 1))), (8, .int (nI (lw b q.2.2.2.1 i bits (m9 + 1)))), (0, .ref h), (1, .int (nI i)), (2, .int (nI bits)), (6, .int (nI x3)), (7, .int (nI y3))]) hx hb dX7_listenOf_141 hl (k := 6) rfl (fr_inc1 _) (by decide) rfl (fun ls hl => ?_)
                            refine lv_goto (tgt := 14) hx hb dX7_listenOf_144 (by decide) ?_
                            exact ih_30 (m9 + 1) (lw b q.2.2.2.1 i bits (m9 + 1)) (m9 + 1) (by omega) (hx2) (hy2) (by omega) _ (lv_sub hl [4, 5, 6, 2, 1, 0] rfl)
                        · refine lv_iload hx hb dX7_listenOf_99 (lv_at hl 6 rfl) ?_
                          refine lv_goto (tgt := 109) hx hb dX7_listenOf_101 (by decide) ?_
                          have hv4 : v = 4 := by omega
                          have hw9 := lw_le b q.2.2.2.1 i bits (m9 + 1)
                          refine n_top (y := nI (lw b q.2.2.2.1 i bits (m9 + 1))) (congrArg nI (by unfold lw; rw [hv4] at hx3 hy3; rw [← hx3]; omega)) ?_
                          refine lv_istore (lv' := [(8, .int (nI (lw b q.2.2.2.1 i bits (m9 + 1)))), (0, .ref h), (1, .int (nI i)), (2, .int (nI bits)), (3, .int (nI x)), (4, .int (nI y)), (5, .int (nI (m9 + 1))), (6, .int (nI x3)), (7, .int (nI y3))]) hx hb dX7_listenOf_109 hl (by decide) rfl (fun ls hl => ?_)
                          refine lv_iload hx hb dX7_listenOf_111 (lv_at hl 0 rfl) ?_
                          refine lv_iload hx hb dX7_listenOf_113 (lv_at hl 5 rfl) ?_
                          refine j_icmp_ge (tgt := 123) hx hb dX7_listenOf_115 (by decide) (nI_toInt (by omega)) (nI_toInt (by omega)) (fun c_42 => ?_) (fun c_42 => ?_)
                          · refine lv_iload_n hx hb dX7_listenOf_123 rfl (lv_at hl 4 rfl) ?_
                            refine lv_istore_n (lv' := [(3, .int (nI x)), (8, .int (nI (lw b q.2.2.2.1 i bits (m9 + 1)))), (0, .ref h), (1, .int (nI i)), (2, .int (nI bits)), (4, .int (nI y)), (5, .int (nI (m9 + 1))), (6, .int (nI x3)), (7, .int (nI y3))]) hx hb dX7_listenOf_124 rfl hl (by decide) rfl (fun ls hl => ?_)
                            refine lv_iload hx hb dX7_listenOf_125 (lv_at hl 1 rfl) ?_
                            refine lv_iload hx hb dX7_listenOf_127 (lv_at hl 5 rfl) ?_
                            refine j_icmp_ge (tgt := 137) hx hb dX7_listenOf_129 (by decide) (nI_toInt (by omega)) (nI_toInt (by omega)) (fun c_43 => ?_) (fun c_43 => absurd c_43 (by omega))
                            refine lv_iload hx hb dX7_listenOf_137 (lv_at hl 5 rfl) ?_
                            refine lv_istore (lv' := [(4, .int (nI y)), (3, .int (nI x)), (8, .int (nI (lw b q.2.2.2.1 i bits (m9 + 1)))), (0, .ref h), (1, .int (nI i)), (2, .int (nI bits)), (5, .int (nI (m9 + 1))), (6, .int (nI x3)), (7, .int (nI y3))]) hx hb dX7_listenOf_139 hl (by decide) rfl (fun ls hl => ?_)
                            have hx2 : x = lky (lw b q.2.2.2.1 i bits) (m9 + 1) := lky_f hx1 (by omega)
                            have hy2 : y = (lw b q.2.2.2.1 i bits) x := hy1
                            refine lv_iinc (v := nI (m9 + 1 + 1)) (lv' := [(5, .int (nI (m9 + 1 + 1))), (4, .int (nI y)), (3, .int (nI x)), (8, .int (nI (lw b q.2.2.2.1 i bits (m9 + 1)))), (0, .ref h), (1, .int (nI i)), (2, .int (nI bits)), (6, .int (nI x3)), (7, .int (nI y3))]) hx hb dX7_listenOf_141 hl (k := 6) rfl (fr_inc1 _) (by decide) rfl (fun ls hl => ?_)
                            refine lv_goto (tgt := 14) hx hb dX7_listenOf_144 (by decide) ?_
                            exact ih_30 x y (m9 + 1) (by omega) (hx2) (hy2) (by omega) _ (lv_sub hl [4, 5, 6, 2, 1, 0] rfl)
                          · refine lv_iload hx hb dX7_listenOf_118 (lv_at hl 6 rfl) ?_
                            refine lv_goto (tgt := 124) hx hb dX7_listenOf_120 (by decide) ?_
                            refine lv_istore_n (lv' := [(3, .int (nI (m9 + 1))), (8, .int (nI (lw b q.2.2.2.1 i bits (m9 + 1)))), (0, .ref h), (1, .int (nI i)), (2, .int (nI bits)), (4, .int (nI y)), (5, .int (nI (m9 + 1))), (6, .int (nI x3)), (7, .int (nI y3))]) hx hb dX7_listenOf_124 rfl hl (by decide) rfl (fun ls hl => ?_)
                            refine lv_iload hx hb dX7_listenOf_125 (lv_at hl 1 rfl) ?_
                            refine lv_iload hx hb dX7_listenOf_127 (lv_at hl 5 rfl) ?_
                            refine j_icmp_ge (tgt := 137) hx hb dX7_listenOf_129 (by decide) (nI_toInt (by omega)) (nI_toInt (by omega)) (fun c_44 => absurd c_44 (by omega)) (fun c_44 => ?_)
                            refine lv_iload hx hb dX7_listenOf_132 (lv_at hl 1 rfl) ?_
                            refine lv_goto (tgt := 139) hx hb dX7_listenOf_134 (by decide) ?_
                            refine lv_istore (lv' := [(4, .int (nI (lw b q.2.2.2.1 i bits (m9 + 1)))), (3, .int (nI (m9 + 1))), (8, .int (nI (lw b q.2.2.2.1 i bits (m9 + 1)))), (0, .ref h), (1, .int (nI i)), (2, .int (nI bits)), (5, .int (nI (m9 + 1))), (6, .int (nI x3)), (7, .int (nI y3))]) hx hb dX7_listenOf_139 hl (by decide) rfl (fun ls hl => ?_)
                            have hx2 : m9 + 1 = lky (lw b q.2.2.2.1 i bits) (m9 + 1) := lky_t hx1 (by omega)
                            have hy2 : lw b q.2.2.2.1 i bits (m9 + 1) = (lw b q.2.2.2.1 i bits) (m9 + 1) := rfl
                            refine lv_iinc (v := nI (m9 + 1 + 1)) (lv' := [(5, .int (nI (m9 + 1 + 1))), (4, .int (nI (lw b q.2.2.2.1 i bits (m9 + 1)))), (3, .int (nI (m9 + 1))), (8, .int (nI (lw b q.2.2.2.1 i bits (m9 + 1)))), (0, .ref h), (1, .int (nI i)), (2, .int (nI bits)), (6, .int (nI x3)), (7, .int (nI y3))]) hx hb dX7_listenOf_141 hl (k := 6) rfl (fr_inc1 _) (by decide) rfl (fun ls hl => ?_)
                            refine lv_goto (tgt := 14) hx hb dX7_listenOf_144 (by decide) ?_
                            exact ih_30 (m9 + 1) (lw b q.2.2.2.1 i bits (m9 + 1)) (m9 + 1) (by omega) (hx2) (hy2) (by omega) _ (lv_sub hl [4, 5, 6, 2, 1, 0] rfl)
                      · refine lv_iload_n hx hb dX7_listenOf_40 rfl (lv_at hl 2 rfl) ?_
                        refine lv_iload hx hb dX7_listenOf_41 (lv_at hl 8 rfl) ?_
                        refine n_ishr hx hb dX7_listenOf_43 (by omega) (by omega) ?_
                        refine lv_iconst (v := nI 1) hx hb dX7_listenOf_44 (by decide) ?_
                        refine n_iand1 hx hb dX7_listenOf_45 (Nat.lt_of_le_of_lt (Nat.div_le_self _ _) (by omega)) ?_
                        refine lv_istore (lv' := [(9, .int (nI ((bits / 2 ^ v) % 2))), (0, .ref h), (1, .int (nI i)), (2, .int (nI bits)), (3, .int (nI x)), (4, .int (nI y)), (5, .int (nI (m9 + 1))), (6, .int (nI x3)), (7, .int (nI y3)), (8, .int (nI v))]) hx hb dX7_listenOf_46 hl (by decide) rfl (fun ls hl => ?_)
                        refine lv_iload hx hb dX7_listenOf_48 (lv_at hl 8 rfl) ?_
                        refine lv_iload hx hb dX7_listenOf_50 (lv_at hl 0 rfl) ?_
                        refine n_iadd hx hb dX7_listenOf_52 ?_
                        refine lv_istore (lv' := [(7, .int (nI (y3 + ((bits / 2 ^ v) % 2)))), (9, .int (nI ((bits / 2 ^ v) % 2))), (0, .ref h), (1, .int (nI i)), (2, .int (nI bits)), (3, .int (nI x)), (4, .int (nI y)), (5, .int (nI (m9 + 1))), (6, .int (nI x3)), (8, .int (nI v))]) hx hb dX7_listenOf_53 hl (by decide) rfl (fun ls hl => ?_)
                        refine lv_iload hx hb dX7_listenOf_55 (lv_at hl 8 rfl) ?_
                        refine lv_iload hx hb dX7_listenOf_57 (lv_at hl 1 rfl) ?_
                        refine lv_aload_n hx hb dX7_listenOf_59 rfl (lv_at hl 2 rfl) ?_
                        refine lv_iload_n hx hb dX7_listenOf_60 rfl (lv_at hl 3 rfl) ?_
                        refine lv_iload hx hb dX7_listenOf_61 (lv_at hl 9 rfl) ?_
                        refine lv_aload_n hx hb dX7_listenOf_63 rfl (lv_at hl 2 rfl) ?_
                        refine va_get (D := D) (ci := 7) (v := .ref (g 11)) (C := RX7) (T := TX7) (N := 22) hx hb hts iX7 hown hK hP 0 rfl rfl 11 (by decide) (hts _ mg_473) (fun _ h9 => h9) rfl dX7_listenOf_64 ?_
                        refine lv_iconst (v := nI 4) hx hb dX7_listenOf_67 (by decide) ?_
                        refine lv_iload_n hx hb dX7_listenOf_68 rfl (lv_at hl 3 rfl) ?_
                        refine n_imul hx hb dX7_listenOf_69 ?_
                        refine lv_iconst (v := nI 3) hx hb dX7_listenOf_70 (by decide) ?_
                        refine n_iadd hx hb dX7_listenOf_71 ?_
                        refine n_aldi hx hb hK hP 5 0 rfl rfl (by omega) (by decide) (v := nI (q.2.2.2.1 i 3)) (MR_row hM (by omega) (by omega)) dX7_listenOf_72 ?_
                        refine lv_iload hx hb dX7_listenOf_73 (lv_at hl 7 rfl) ?_
                        refine n_iadd hx hb dX7_listenOf_75 ?_
                        refine ro_iV (n := 3) (As := [.int (nI i), .int (nI v), .int (nI ((q.2.2.2.1 i 3) + (m9 + 1)))]) ⟨hx, hb, hml, hown, hts⟩ (c_X7_dripAs l D h g cI J hz G b q hM hok9 hT i (by omega) v ((q.2.2.2.1 i 3) + (m9 + 1)) (by omega) (by omega)) (cwV 3 hts (gV mg_612 mg_614 mg_1026 mg_8 mg_615) rfl rfl rfl vd_X7_dripAs ⟨Nat.le_of_ble_eq_true rfl, Nat.le_of_ble_eq_true rfl⟩) (va_recv hK hP (ci := 7) (q0 := 0) rfl rfl) hK hP rfl hl.1 rfl (Nat.le_of_ble_eq_true rfl) dX7_listenOf_76 ⟨Nat.zero_le _, Nat.zero_le _⟩ ?_
                        have hd1 : dpl b q.2.2.2.1 i v (m9 + 1) ≤ 1 := sd_le hok9 (by omega)
                        refine n_imul hx hb dX7_listenOf_79 ?_
                        refine n_iadd hx hb dX7_listenOf_80 ?_
                        refine lv_istore (lv' := [(6, .int (nI (x3 + (((bits / 2 ^ v) % 2) * (sd b (q.2.2.2.1 i 0) (q.2.2.2.1 i 2) v ((q.2.2.2.1 i 3) + (m9 + 1))))))), (7, .int (nI (y3 + ((bits / 2 ^ v) % 2)))), (9, .int (nI ((bits / 2 ^ v) % 2))), (0, .ref h), (1, .int (nI i)), (2, .int (nI bits)), (3, .int (nI x)), (4, .int (nI y)), (5, .int (nI (m9 + 1))), (8, .int (nI v))]) hx hb dX7_listenOf_81 hl (by decide) rfl (fun ls hl => ?_)
                        refine lv_iinc (v := nI (v + 1)) (lv' := [(8, .int (nI (v + 1))), (6, .int (nI (x3 + (((bits / 2 ^ v) % 2) * (sd b (q.2.2.2.1 i 0) (q.2.2.2.1 i 2) v ((q.2.2.2.1 i 3) + (m9 + 1))))))), (7, .int (nI (y3 + ((bits / 2 ^ v) % 2)))), (9, .int (nI ((bits / 2 ^ v) % 2))), (0, .ref h), (1, .int (nI i)), (2, .int (nI bits)), (3, .int (nI x)), (4, .int (nI y)), (5, .int (nI (m9 + 1)))]) hx hb dX7_listenOf_83 hl (k := 9) rfl (fr_inc1 _) (by decide) rfl (fun ls hl => ?_)
                        refine lv_goto (tgt := 34) hx hb dX7_listenOf_86 (by decide) ?_
                        exact ih_34 (x3 + (((bits / 2 ^ v) % 2) * (sd b (q.2.2.2.1 i 0) (q.2.2.2.1 i 2) v ((q.2.2.2.1 i 3) + (m9 + 1))))) (y3 + ((bits / 2 ^ v) % 2)) (v + 1) (by omega) (by rw [lg_s (by omega) hd1, hx3]; rfl) (by rw [sh_s (by omega) hd1, hy3]) (by omega) _ (lv_sub hl [4, 5, 6, 7, 8, 9, 1, 2, 0] rfl)
                  exact K_33 (4 - 0 + 1) 0 0 0 (by omega) (rfl) (rfl) (Nat.lt_succ_self _) _ (lv_sub hl [3, 4, 5, 6, 7, 8, 2, 1, 0] rfl)
            exact K_29 (7 - 0 + 1) 0 (lw b q.2.2.2.1 i bits 0) 0 (by decide) (rfl) (hy2) (Nat.lt_succ_self _) _ (lv_sub hl [4, 5, 6, 2, 1, 0] rfl)
        · refine lv_iload_n hx hb dX7_listenOf_40 rfl (lv_at hl 2 rfl) ?_
          refine lv_iload hx hb dX7_listenOf_41 (lv_at hl 8 rfl) ?_
          refine n_ishr hx hb dX7_listenOf_43 (by omega) (by omega) ?_
          refine lv_iconst (v := nI 1) hx hb dX7_listenOf_44 (by decide) ?_
          refine n_iand1 hx hb dX7_listenOf_45 (Nat.lt_of_le_of_lt (Nat.div_le_self _ _) (by omega)) ?_
          refine lv_istore (lv' := [(9, .int (nI ((bits / 2 ^ v) % 2))), (0, .ref h), (1, .int (nI i)), (2, .int (nI bits)), (3, .int (-1)), (4, .int (nI 5)), (5, .int (nI 0)), (6, .int (nI x3)), (7, .int (nI y3)), (8, .int (nI v))]) hx hb dX7_listenOf_46 hl (by decide) rfl (fun ls hl => ?_)
          refine lv_iload hx hb dX7_listenOf_48 (lv_at hl 8 rfl) ?_
          refine lv_iload hx hb dX7_listenOf_50 (lv_at hl 0 rfl) ?_
          refine n_iadd hx hb dX7_listenOf_52 ?_
          refine lv_istore (lv' := [(7, .int (nI (y3 + ((bits / 2 ^ v) % 2)))), (9, .int (nI ((bits / 2 ^ v) % 2))), (0, .ref h), (1, .int (nI i)), (2, .int (nI bits)), (3, .int (-1)), (4, .int (nI 5)), (5, .int (nI 0)), (6, .int (nI x3)), (8, .int (nI v))]) hx hb dX7_listenOf_53 hl (by decide) rfl (fun ls hl => ?_)
          refine lv_iload hx hb dX7_listenOf_55 (lv_at hl 8 rfl) ?_
          refine lv_iload hx hb dX7_listenOf_57 (lv_at hl 1 rfl) ?_
          refine lv_aload_n hx hb dX7_listenOf_59 rfl (lv_at hl 2 rfl) ?_
          refine lv_iload_n hx hb dX7_listenOf_60 rfl (lv_at hl 3 rfl) ?_
          refine lv_iload hx hb dX7_listenOf_61 (lv_at hl 9 rfl) ?_
          refine lv_aload_n hx hb dX7_listenOf_63 rfl (lv_at hl 2 rfl) ?_
          refine va_get (D := D) (ci := 7) (v := .ref (g 11)) (C := RX7) (T := TX7) (N := 22) hx hb hts iX7 hown hK hP 0 rfl rfl 11 (by decide) (hts _ mg_473) (fun _ h9 => h9) rfl dX7_listenOf_64 ?_
          refine lv_iconst (v := nI 4) hx hb dX7_listenOf_67 (by decide) ?_
          refine lv_iload_n hx hb dX7_listenOf_68 rfl (lv_at hl 3 rfl) ?_
          refine n_imul hx hb dX7_listenOf_69 ?_
          refine lv_iconst (v := nI 3) hx hb dX7_listenOf_70 (by decide) ?_
          refine n_iadd hx hb dX7_listenOf_71 ?_
          refine n_aldi hx hb hK hP 5 0 rfl rfl (by omega) (by decide) (v := nI (q.2.2.2.1 i 3)) (MR_row hM (by omega) (by omega)) dX7_listenOf_72 ?_
          refine lv_iload hx hb dX7_listenOf_73 (lv_at hl 7 rfl) ?_
          refine n_iadd hx hb dX7_listenOf_75 ?_
          refine ro_iV (n := 3) (As := [.int (nI i), .int (nI v), .int (nI ((q.2.2.2.1 i 3) + 0))]) ⟨hx, hb, hml, hown, hts⟩ (c_X7_dripAs l D h g cI J hz G b q hM hok9 hT i (by omega) v ((q.2.2.2.1 i 3) + 0) (by omega) (by omega)) (cwV 3 hts (gV mg_612 mg_614 mg_1026 mg_8 mg_615) rfl rfl rfl vd_X7_dripAs ⟨Nat.le_of_ble_eq_true rfl, Nat.le_of_ble_eq_true rfl⟩) (va_recv hK hP (ci := 7) (q0 := 0) rfl rfl) hK hP rfl hl.1 rfl (Nat.le_of_ble_eq_true rfl) dX7_listenOf_76 ⟨Nat.zero_le _, Nat.zero_le _⟩ ?_
          have hd1 : dpl b q.2.2.2.1 i v 0 ≤ 1 := sd_le hok9 (by omega)
          refine n_imul hx hb dX7_listenOf_79 ?_
          refine n_iadd hx hb dX7_listenOf_80 ?_
          refine lv_istore (lv' := [(6, .int (nI (x3 + (((bits / 2 ^ v) % 2) * (sd b (q.2.2.2.1 i 0) (q.2.2.2.1 i 2) v ((q.2.2.2.1 i 3) + 0)))))), (7, .int (nI (y3 + ((bits / 2 ^ v) % 2)))), (9, .int (nI ((bits / 2 ^ v) % 2))), (0, .ref h), (1, .int (nI i)), (2, .int (nI bits)), (3, .int (-1)), (4, .int (nI 5)), (5, .int (nI 0)), (8, .int (nI v))]) hx hb dX7_listenOf_81 hl (by decide) rfl (fun ls hl => ?_)
          refine lv_iinc (v := nI (v + 1)) (lv' := [(8, .int (nI (v + 1))), (6, .int (nI (x3 + (((bits / 2 ^ v) % 2) * (sd b (q.2.2.2.1 i 0) (q.2.2.2.1 i 2) v ((q.2.2.2.1 i 3) + 0)))))), (7, .int (nI (y3 + ((bits / 2 ^ v) % 2)))), (9, .int (nI ((bits / 2 ^ v) % 2))), (0, .ref h), (1, .int (nI i)), (2, .int (nI bits)), (3, .int (-1)), (4, .int (nI 5)), (5, .int (nI 0))]) hx hb dX7_listenOf_83 hl (k := 9) rfl (fr_inc1 _) (by decide) rfl (fun ls hl => ?_)
          refine lv_goto (tgt := 34) hx hb dX7_listenOf_86 (by decide) ?_
          exact ih_4 (x3 + (((bits / 2 ^ v) % 2) * (sd b (q.2.2.2.1 i 0) (q.2.2.2.1 i 2) v ((q.2.2.2.1 i 3) + 0)))) (y3 + ((bits / 2 ^ v) % 2)) (v + 1) (by omega) (by rw [lg_s (by omega) hd1, hx3]; rfl) (by rw [sh_s (by omega) hd1, hy3]) (by omega) _ (lv_sub hl [4, 5, 6, 7, 8, 9, 1, 2, 0] rfl)
    exact K_3 (4 - 0 + 1) 0 0 0 (by omega) (rfl) (rfl) (Nat.lt_succ_self _) _ (lv_sub hl [7, 8, 6, 5, 4, 3, 2, 1, 0] rfl)

theorem c_X7_listenOf (l : Launch) (D : va_G) (h : Nat) (g : Nat → Nat) (cI : ClassId) (J : Nat → Int32) (hz : Int64) (G : Nat → Nat → Int32) (b : Nat → Nat → Nat) (q : RS) (hM : MR b q J G) (hok9 : hok b) (hT : Tok q) (i : Nat) (hi : i < q.1) : ROi l yX7_listenOf (wA yX7_listenOf cX7_listenOf 10 (some .int)) ({ frames := 3, cells := 0, slots := 0, locals := 76 }) D (iTys cI) (mW h g cI J hz G) [.ref h, .int (nI i)] (bth b q.2.2.2.1 i (sys (sly b q.2.2.2.1 i q.2.2.2.2 q.2.1) 4)) := c_X7_listenOf0 l D h g cI J hz G b q hM hok9 hT i hi _ rfl

set_option maxHeartbeats 4000000 in
set_option maxRecDepth 100000 in
theorem c_X7_unlikeBy (l : Launch) (D : va_G) (h : Nat) (g : Nat → Nat) (cI : ClassId) (J : Nat → Int32) (hz : Int64) (G : Nat → Nat → Int32) (b : Nat → Nat → Nat) (q : RS) (hM : MR b q J G) (hok9 : hok b) (hT : Tok q) (i : Nat) (hi : i < q.1) (v2 w : Nat) (hv2 : v2 < 4) (hw1 : w ≤ 1) : ROi l yX7_unlikeBy (wA yX7_unlikeBy cX7_unlikeBy 7 (some .int)) ({ frames := 1, cells := 0, slots := 0, locals := 28 }) D (iTys cI) (mW h g cI J hz G) [.ref h, .int (nI i), .int (nI v2), .int (nI w)] (nI (unl b (q.2.2.2.1 i 0) w (q.2.2.2.1 i 1) v2)) := by
  refine go_start (by decide) (Nat.le_of_ble_eq_true rfl) ?_
  intro p e s m args below meth c ls F _ hB hl
  obtain ⟨hx, hb, hr, hlocks, hml, hown, hts⟩ := F
  obtain ⟨hP, hK⟩ := hB
  have hown : s.vm.findClass RX7 = some m.cls := hown
  have hl : lv_has ls 7 [(0, .ref h), (1, .int (nI i)), (2, .int (nI v2)), (3, .int (nI w))] := hl
  have ht5 := hT.1
  have ht8 := hT.2.1
  obtain ⟨hk0, hv0, hw0, hp0⟩ := hT.2.2.1 i hi
  refine lv_iconst (v := nI 0) hx hb dX7_unlikeBy_0 (by decide) ?_
  refine lv_istore (lv' := [(4, .int (nI 0)), (0, .ref h), (1, .int (nI i)), (2, .int (nI v2)), (3, .int (nI w))]) hx hb dX7_unlikeBy_1 hl (by decide) rfl (fun ls hl => ?_)
  refine lv_iconst (v := nI 0) hx hb dX7_unlikeBy_3 (by decide) ?_
  refine lv_istore (lv' := [(5, .int (nI 0)), (4, .int (nI 0)), (0, .ref h), (1, .int (nI i)), (2, .int (nI v2)), (3, .int (nI w))]) hx hb dX7_unlikeBy_4 hl (by decide) rfl (fun ls hl => ?_)
  have K_1 : ∀ n9 : Nat, ∀ (x : Nat) (n : Nat), n ≤ 12 → x = cnt (unf b (q.2.2.2.1 i 0) w (q.2.2.2.1 i 1) v2) n → 12 - n < n9 → ∀ ls : Array Slot, lv_has ls 7 [(0, .ref h), (1, .int (nI i)), (2, .int (nI v2)), (3, .int (nI w)), (4, .int (nI x)), (5, .int (nI n))] → W p l e (headSpec (wA yX7_unlikeBy cX7_unlikeBy 7 (some .int)) ({ frames := 1, cells := 0, slots := 0, locals := 28 })).room s m args below meth c s.heap [] 0 0 (MQ below (vp_Si (fun z9 => z9 = nI (unl b (q.2.2.2.1 i 0) w (q.2.2.2.1 i 1) v2))) args s 0 0 (fun _ => False)) (F0 m 6 ls []) := by
    intro n9
    induction n9 with
    | zero => intros; omega
    | succ n9 ih_2 =>
      intro x n hn hx0 hn9 ls hl
      have hxl := cnt_le (unf b (q.2.2.2.1 i 0) w (q.2.2.2.1 i 1) v2) n
      refine lv_iload hx hb dX7_unlikeBy_6 (lv_at hl 5 rfl) ?_
      refine lv_bipush (v := nI 12) hx hb dX7_unlikeBy_8 (by decide) ?_
      refine j_icmp_ge (tgt := 70) hx hb dX7_unlikeBy_10 (by decide) (nI_toInt (by omega)) (nI_toInt (by decide)) (fun c_3 => ?_) (fun c_3 => ?_)
      · have e9 : n = 12 := by omega
        refine lv_iload hx hb dX7_unlikeBy_70 (lv_at hl 4 rfl) ?_
        exact ro_iret hx hb hr hlocks (by rw [hx0, e9]; rfl) dX7_unlikeBy_72
      · refine lv_aload_n hx hb dX7_unlikeBy_13 rfl (lv_at hl 0 rfl) ?_
        refine lv_aload_n hx hb dX7_unlikeBy_14 rfl (lv_at hl 0 rfl) ?_
        refine va_get (D := D) (ci := 7) (v := .ref (g 11)) (C := RX7) (T := TX7) (N := 22) hx hb hts iX7 hown hK hP 0 rfl rfl 11 (by decide) (hts _ mg_473) (fun _ h9 => h9) rfl dX7_unlikeBy_15 ?_
        refine lv_iconst (v := nI 4) hx hb dX7_unlikeBy_18 (by decide) ?_
        refine lv_iload_n hx hb dX7_unlikeBy_19 rfl (lv_at hl 1 rfl) ?_
        refine n_imul hx hb dX7_unlikeBy_20 ?_
        refine n_aldi hx hb hK hP 5 0 rfl rfl (by omega) (by decide) (v := nI (q.2.2.2.1 i 0)) (MR_row0 hM (by omega)) dX7_unlikeBy_21 ?_
        refine lv_iload_n hx hb dX7_unlikeBy_22 rfl (lv_at hl 3 rfl) ?_
        refine lv_aload_n hx hb dX7_unlikeBy_23 rfl (lv_at hl 0 rfl) ?_
        refine va_get (D := D) (ci := 7) (v := .ref (g 11)) (C := RX7) (T := TX7) (N := 22) hx hb hts iX7 hown hK hP 0 rfl rfl 11 (by decide) (hts _ mg_473) (fun _ h9 => h9) rfl dX7_unlikeBy_24 ?_
        refine lv_iconst (v := nI 4) hx hb dX7_unlikeBy_27 (by decide) ?_
        refine lv_iload_n hx hb dX7_unlikeBy_28 rfl (lv_at hl 1 rfl) ?_
        refine n_imul hx hb dX7_unlikeBy_29 ?_
        refine lv_iconst (v := nI 1) hx hb dX7_unlikeBy_30 (by decide) ?_
        refine n_iadd hx hb dX7_unlikeBy_31 ?_
        refine n_aldi hx hb hK hP 5 0 rfl rfl (by omega) (by decide) (v := nI (q.2.2.2.1 i 1)) (MR_row hM (by omega) (by omega)) dX7_unlikeBy_32 ?_
        refine lv_iload hx hb dX7_unlikeBy_33 (lv_at hl 5 rfl) ?_
        refine ro_iV (n := 4) (As := [.int (nI (q.2.2.2.1 i 0)), .int (nI w), .int (nI (q.2.2.2.1 i 1)), .int (nI n)]) ⟨hx, hb, hml, hown, hts⟩ (c_X7_dripBy l D h g cI J hz G b q hM hok9 hT (q.2.2.2.1 i 0) (q.2.2.2.1 i 1) w n (by omega) (by omega) (by omega) (by omega)) (cwV 4 hts (gV mg_616 mg_618 mg_1027 mg_8 mg_619) rfl rfl rfl vd_X7_dripBy ⟨Nat.le_of_ble_eq_true rfl, Nat.le_of_ble_eq_true rfl⟩) (va_recv hK hP (ci := 7) (q0 := 0) rfl rfl) hK hP rfl hl.1 rfl (Nat.le_of_ble_eq_true rfl) dX7_unlikeBy_35 ⟨Nat.zero_le _, Nat.zero_le _⟩ ?_
        have hd1 := sd_le hok9 (kd := q.2.2.2.1 i 0) (w := w) (n := n) (v := q.2.2.2.1 i 1) (by omega)
        refine lv_istore (lv' := [(6, .int (nI (sd b (q.2.2.2.1 i 0) w (q.2.2.2.1 i 1) n))), (0, .ref h), (1, .int (nI i)), (2, .int (nI v2)), (3, .int (nI w)), (4, .int (nI x)), (5, .int (nI n))]) hx hb dX7_unlikeBy_38 hl (by decide) rfl (fun ls hl => ?_)
        refine lv_iload hx hb dX7_unlikeBy_40 (lv_at hl 5 rfl) ?_
        refine lv_iload hx hb dX7_unlikeBy_42 (lv_at hl 0 rfl) ?_
        refine lv_aload_n hx hb dX7_unlikeBy_44 rfl (lv_at hl 1 rfl) ?_
        refine lv_iconst (v := nI 0) hx hb dX7_unlikeBy_45 (by decide) ?_
        refine lv_iconst (v := nI 0) hx hb dX7_unlikeBy_46 (by decide) ?_
        refine lv_iload_n hx hb dX7_unlikeBy_47 rfl (lv_at hl 3 rfl) ?_
        refine lv_iload hx hb dX7_unlikeBy_48 (lv_at hl 6 rfl) ?_
        refine ro_iV (n := 4) (As := [.int (nI 0), .int (nI 0), .int (nI v2), .int (nI n)]) ⟨hx, hb, hml, hown, hts⟩ (c_X7_dripBy l D h g cI J hz G b q hM hok9 hT 0 v2 0 n (by omega) (by omega) (by omega) (by omega)) (cwV 4 hts (gV mg_616 mg_618 mg_1027 mg_8 mg_619) rfl rfl rfl vd_X7_dripBy ⟨Nat.le_of_ble_eq_true rfl, Nat.le_of_ble_eq_true rfl⟩) (va_recv hK hP (ci := 7) (q0 := 0) rfl rfl) hK hP rfl hl.1 rfl (Nat.le_of_ble_eq_true rfl) dX7_unlikeBy_50 ⟨Nat.zero_le _, Nat.zero_le _⟩ ?_
        have hd2 := sd_le hok9 (kd := 0) (w := 0) (n := n) (v := v2) (by omega)
        refine j_icmp_ne (tgt := 60) hx hb dX7_unlikeBy_53 (by decide) (nI_toInt (by omega)) (nI_toInt (by omega)) (fun c_4 => ?_) (fun c_4 => ?_)
        · have hzz : (unf b (q.2.2.2.1 i 0) w (q.2.2.2.1 i 1) v2) n = true := decide_eq_true (by omega)
          refine lv_iconst (v := nI 1) hx hb dX7_unlikeBy_60 (by decide) ?_
          refine n_iadd hx hb dX7_unlikeBy_61 ?_
          refine lv_istore (lv' := [(4, .int (nI (x + 1))), (6, .int (nI (sd b (q.2.2.2.1 i 0) w (q.2.2.2.1 i 1) n))), (0, .ref h), (1, .int (nI i)), (2, .int (nI v2)), (3, .int (nI w)), (5, .int (nI n))]) hx hb dX7_unlikeBy_62 hl (by decide) rfl (fun ls hl => ?_)
          refine lv_iinc (v := nI (n + 1)) (lv' := [(5, .int (nI (n + 1))), (4, .int (nI (x + 1))), (6, .int (nI (sd b (q.2.2.2.1 i 0) w (q.2.2.2.1 i 1) n))), (0, .ref h), (1, .int (nI i)), (2, .int (nI v2)), (3, .int (nI w))]) hx hb dX7_unlikeBy_64 hl (k := 6) rfl (fr_inc1 _) (by decide) rfl (fun ls hl => ?_)
          refine lv_goto (tgt := 6) hx hb dX7_unlikeBy_67 (by decide) ?_
          exact ih_2 (x + 1) (n + 1) (by omega) (by first | (rw [cnt_t hzz, hx0]; done) | (rw [cnt_f hzz]; omega)) (by omega) _ (lv_sub hl [3, 4, 5, 6, 1, 0] rfl)
        · have hzz : (unf b (q.2.2.2.1 i 0) w (q.2.2.2.1 i 1) v2) n = false := decide_eq_false (fun z => by omega)
          refine lv_iconst (v := nI 0) hx hb dX7_unlikeBy_56 (by decide) ?_
          refine lv_goto (tgt := 61) hx hb dX7_unlikeBy_57 (by decide) ?_
          refine n_iadd hx hb dX7_unlikeBy_61 ?_
          refine lv_istore (lv' := [(4, .int (nI (x + 0))), (6, .int (nI (sd b (q.2.2.2.1 i 0) w (q.2.2.2.1 i 1) n))), (0, .ref h), (1, .int (nI i)), (2, .int (nI v2)), (3, .int (nI w)), (5, .int (nI n))]) hx hb dX7_unlikeBy_62 hl (by decide) rfl (fun ls hl => ?_)
          refine lv_iinc (v := nI (n + 1)) (lv' := [(5, .int (nI (n + 1))), (4, .int (nI (x + 0))), (6, .int (nI (sd b (q.2.2.2.1 i 0) w (q.2.2.2.1 i 1) n))), (0, .ref h), (1, .int (nI i)), (2, .int (nI v2)), (3, .int (nI w))]) hx hb dX7_unlikeBy_64 hl (k := 6) rfl (fr_inc1 _) (by decide) rfl (fun ls hl => ?_)
          refine lv_goto (tgt := 6) hx hb dX7_unlikeBy_67 (by decide) ?_
          exact ih_2 (x + 0) (n + 1) (by omega) (by first | (rw [cnt_t hzz, hx0]; done) | (rw [cnt_f hzz]; omega)) (by omega) _ (lv_sub hl [3, 4, 5, 6, 1, 0] rfl)
  exact K_1 (12 - 0 + 1) 0 0 (by omega) (rfl) (Nat.lt_succ_self _) _ (lv_sub hl [2, 3, 4, 5, 1, 0] rfl)

set_option maxHeartbeats 4000000 in
set_option maxRecDepth 100000 in
theorem c_X7_nearOf0 (l : Launch) (D : va_G) (h : Nat) (g : Nat → Nat) (cI : ClassId) (J : Nat → Int32) (hz : Int64) (G : Nat → Nat → Int32) (b : Nat → Nat → Nat) (q : RS) (hM : MR b q J G) (hok9 : hok b) (hT : Tok q) (i : Nat) (hi : i < q.1) (v2 : Nat) (hv2 : v2 < 4) : ROi l yX7_nearOf (wA yX7_nearOf cX7_nearOf 7 (some .int)) ({ frames := 2, cells := 0, slots := 0, locals := 54 }) D (iTys cI) (mW h g cI J hz G) [.ref h, .int (nI i), .int (nI v2), .int (nI 0)] (nI (ner b (q.2.2.2.1 i 0) (q.2.2.2.1 i 1) v2 0)) := by
  refine go_start (by decide) (Nat.le_of_ble_eq_true rfl) ?_
  intro p e s m args below meth c ls F _ hB hl
  obtain ⟨hx, hb, hr, hlocks, hml, hown, hts⟩ := F
  obtain ⟨hP, hK⟩ := hB
  have hown : s.vm.findClass RX7 = some m.cls := hown
  have hl : lv_has ls 7 [(0, .ref h), (1, .int (nI i)), (2, .int (nI v2)), (3, .int (nI 0))] := hl
  have ht5 := hT.1
  have ht8 := hT.2.1
  obtain ⟨hk0, hv0, hw0, hp0⟩ := hT.2.2.1 i hi
  refine lv_aload_n hx hb dX7_nearOf_0 rfl (lv_at hl 0 rfl) ?_
  refine lv_iload_n hx hb dX7_nearOf_1 rfl (lv_at hl 1 rfl) ?_
  refine lv_iload_n hx hb dX7_nearOf_2 rfl (lv_at hl 2 rfl) ?_
  refine lv_iconst (v := nI 0) hx hb dX7_nearOf_3 (by decide) ?_
  refine ro_iV (n := 3) (As := [.int (nI i), .int (nI v2), .int (nI 0)]) ⟨hx, hb, hml, hown, hts⟩ (c_X7_unlikeBy l D h g cI J hz G b q hM hok9 hT i hi v2 0 hv2 (by decide)) (cwV 3 hts (gV mg_677 mg_679 mg_1035 mg_8 mg_680) rfl rfl rfl vd_X7_unlikeBy ⟨Nat.le_of_ble_eq_true rfl, Nat.le_of_ble_eq_true rfl⟩) (va_recv hK hP (ci := 7) (q0 := 0) rfl rfl) hK hP rfl hl.1 rfl (Nat.le_of_ble_eq_true rfl) dX7_nearOf_4 ⟨Nat.zero_le _, Nat.zero_le _⟩ ?_
  refine lv_istore (lv' := [(4, .int (nI (unl b (q.2.2.2.1 i 0) 0 (q.2.2.2.1 i 1) v2))), (0, .ref h), (1, .int (nI i)), (2, .int (nI v2)), (3, .int (nI 0))]) hx hb dX7_nearOf_7 hl (by decide) rfl (fun ls hl => ?_)
  refine lv_aload_n hx hb dX7_nearOf_9 rfl (lv_at hl 1 rfl) ?_
  refine lv_iload_n hx hb dX7_nearOf_10 rfl (lv_at hl 2 rfl) ?_
  refine lv_iload_n hx hb dX7_nearOf_11 rfl (lv_at hl 3 rfl) ?_
  refine lv_iconst (v := nI 1) hx hb dX7_nearOf_12 (by decide) ?_
  refine ro_iV (n := 3) (As := [.int (nI i), .int (nI v2), .int (nI 1)]) ⟨hx, hb, hml, hown, hts⟩ (c_X7_unlikeBy l D h g cI J hz G b q hM hok9 hT i hi v2 1 hv2 (by decide)) (cwV 3 hts (gV mg_677 mg_679 mg_1035 mg_8 mg_680) rfl rfl rfl vd_X7_unlikeBy ⟨Nat.le_of_ble_eq_true rfl, Nat.le_of_ble_eq_true rfl⟩) (va_recv hK hP (ci := 7) (q0 := 0) rfl rfl) hK hP rfl hl.1 rfl (Nat.le_of_ble_eq_true rfl) dX7_nearOf_13 ⟨Nat.zero_le _, Nat.zero_le _⟩ ?_
  refine lv_istore (lv' := [(5, .int (nI (unl b (q.2.2.2.1 i 0) 1 (q.2.2.2.1 i 1) v2))), (4, .int (nI (unl b (q.2.2.2.1 i 0) 0 (q.2.2.2.1 i 1) v2))), (0, .ref h), (1, .int (nI i)), (2, .int (nI v2)), (3, .int (nI 0))]) hx hb dX7_nearOf_16 hl (by decide) rfl (fun ls hl => ?_)
  have hu0 := unl_le b (q.2.2.2.1 i 0) 0 (q.2.2.2.1 i 1) v2
  have hu1 := unl_le b (q.2.2.2.1 i 0) 1 (q.2.2.2.1 i 1) v2
  refine lv_iload hx hb dX7_nearOf_18 (lv_at hl 0 rfl) ?_
  refine lv_iload hx hb dX7_nearOf_20 (lv_at hl 1 rfl) ?_
  refine j_icmp_ge (tgt := 29) hx hb dX7_nearOf_22 (by decide) (nI_toInt (by omega)) (nI_toInt (by omega)) (fun c_1 => ?_) (fun c_1 => ?_)
  · refine lv_iconst (v := nI 0) hx hb dX7_nearOf_29 (by decide) ?_
    refine lv_istore (lv' := [(6, .int (nI 0)), (5, .int (nI (unl b (q.2.2.2.1 i 0) 1 (q.2.2.2.1 i 1) v2))), (4, .int (nI (unl b (q.2.2.2.1 i 0) 0 (q.2.2.2.1 i 1) v2))), (0, .ref h), (1, .int (nI i)), (2, .int (nI v2)), (3, .int (nI 0))]) hx hb dX7_nearOf_30 hl (by decide) rfl (fun ls hl => ?_)
    refine lv_iload_n hx hb dX7_nearOf_32 rfl (lv_at hl 6 rfl) ?_
    refine j_if_ne (tgt := 49) hx hb dX7_nearOf_33 (by decide) (nI_toInt (by decide)) (fun c_2 => absurd c_2 (by omega)) (fun c_2 => ?_)
    refine lv_iload hx hb dX7_nearOf_36 (lv_at hl 0 rfl) ?_
    refine j_if_eq (tgt := 45) hx hb dX7_nearOf_38 (by decide) (nI_toInt (by decide)) (fun c_3 => ?_) (fun c_3 => absurd c_3 (by omega))
    refine lv_iconst (v := nI 0) hx hb dX7_nearOf_45 (by decide) ?_
    refine lv_goto (tgt := 61) hx hb dX7_nearOf_46 (by decide) ?_
    exact ro_iret hx hb hr hlocks (by rw [ner]; first | (rw [if_pos rfl, if_pos (by omega)]; done) | (rw [if_pos rfl, if_neg (by omega)]; done) | (rw [if_neg (by decide)]; exact congrArg nI (by omega))) dX7_nearOf_61
  · refine lv_iconst (v := nI 1) hx hb dX7_nearOf_25 (by decide) ?_
    refine lv_goto (tgt := 30) hx hb dX7_nearOf_26 (by decide) ?_
    refine lv_istore (lv' := [(6, .int (nI 1)), (5, .int (nI (unl b (q.2.2.2.1 i 0) 1 (q.2.2.2.1 i 1) v2))), (4, .int (nI (unl b (q.2.2.2.1 i 0) 0 (q.2.2.2.1 i 1) v2))), (0, .ref h), (1, .int (nI i)), (2, .int (nI v2)), (3, .int (nI 0))]) hx hb dX7_nearOf_30 hl (by decide) rfl (fun ls hl => ?_)
    refine lv_iload_n hx hb dX7_nearOf_32 rfl (lv_at hl 6 rfl) ?_
    refine j_if_ne (tgt := 49) hx hb dX7_nearOf_33 (by decide) (nI_toInt (by decide)) (fun c_4 => absurd c_4 (by omega)) (fun c_4 => ?_)
    refine lv_iload hx hb dX7_nearOf_36 (lv_at hl 0 rfl) ?_
    refine j_if_eq (tgt := 45) hx hb dX7_nearOf_38 (by decide) (nI_toInt (by decide)) (fun c_5 => absurd c_5 (by omega)) (fun c_5 => ?_)
    refine lv_iconst (v := nI 1) hx hb dX7_nearOf_41 (by decide) ?_
    refine lv_goto (tgt := 61) hx hb dX7_nearOf_42 (by decide) ?_
    exact ro_iret hx hb hr hlocks (by rw [ner]; first | (rw [if_pos rfl, if_pos (by omega)]; done) | (rw [if_pos rfl, if_neg (by omega)]; done) | (rw [if_neg (by decide)]; exact congrArg nI (by omega))) dX7_nearOf_61

set_option maxHeartbeats 4000000 in
set_option maxRecDepth 100000 in
theorem c_X7_nearOf1 (l : Launch) (D : va_G) (h : Nat) (g : Nat → Nat) (cI : ClassId) (J : Nat → Int32) (hz : Int64) (G : Nat → Nat → Int32) (b : Nat → Nat → Nat) (q : RS) (hM : MR b q J G) (hok9 : hok b) (hT : Tok q) (i : Nat) (hi : i < q.1) (v2 : Nat) (hv2 : v2 < 4) : ROi l yX7_nearOf (wA yX7_nearOf cX7_nearOf 7 (some .int)) ({ frames := 2, cells := 0, slots := 0, locals := 54 }) D (iTys cI) (mW h g cI J hz G) [.ref h, .int (nI i), .int (nI v2), .int (nI 1)] (nI (ner b (q.2.2.2.1 i 0) (q.2.2.2.1 i 1) v2 1)) := by
  refine go_start (by decide) (Nat.le_of_ble_eq_true rfl) ?_
  intro p e s m args below meth c ls F _ hB hl
  obtain ⟨hx, hb, hr, hlocks, hml, hown, hts⟩ := F
  obtain ⟨hP, hK⟩ := hB
  have hown : s.vm.findClass RX7 = some m.cls := hown
  have hl : lv_has ls 7 [(0, .ref h), (1, .int (nI i)), (2, .int (nI v2)), (3, .int (nI 1))] := hl
  have ht5 := hT.1
  have ht8 := hT.2.1
  obtain ⟨hk0, hv0, hw0, hp0⟩ := hT.2.2.1 i hi
  refine lv_aload_n hx hb dX7_nearOf_0 rfl (lv_at hl 0 rfl) ?_
  refine lv_iload_n hx hb dX7_nearOf_1 rfl (lv_at hl 1 rfl) ?_
  refine lv_iload_n hx hb dX7_nearOf_2 rfl (lv_at hl 2 rfl) ?_
  refine lv_iconst (v := nI 0) hx hb dX7_nearOf_3 (by decide) ?_
  refine ro_iV (n := 3) (As := [.int (nI i), .int (nI v2), .int (nI 0)]) ⟨hx, hb, hml, hown, hts⟩ (c_X7_unlikeBy l D h g cI J hz G b q hM hok9 hT i hi v2 0 hv2 (by decide)) (cwV 3 hts (gV mg_677 mg_679 mg_1035 mg_8 mg_680) rfl rfl rfl vd_X7_unlikeBy ⟨Nat.le_of_ble_eq_true rfl, Nat.le_of_ble_eq_true rfl⟩) (va_recv hK hP (ci := 7) (q0 := 0) rfl rfl) hK hP rfl hl.1 rfl (Nat.le_of_ble_eq_true rfl) dX7_nearOf_4 ⟨Nat.zero_le _, Nat.zero_le _⟩ ?_
  refine lv_istore (lv' := [(4, .int (nI (unl b (q.2.2.2.1 i 0) 0 (q.2.2.2.1 i 1) v2))), (0, .ref h), (1, .int (nI i)), (2, .int (nI v2)), (3, .int (nI 1))]) hx hb dX7_nearOf_7 hl (by decide) rfl (fun ls hl => ?_)
  refine lv_aload_n hx hb dX7_nearOf_9 rfl (lv_at hl 1 rfl) ?_
  refine lv_iload_n hx hb dX7_nearOf_10 rfl (lv_at hl 2 rfl) ?_
  refine lv_iload_n hx hb dX7_nearOf_11 rfl (lv_at hl 3 rfl) ?_
  refine lv_iconst (v := nI 1) hx hb dX7_nearOf_12 (by decide) ?_
  refine ro_iV (n := 3) (As := [.int (nI i), .int (nI v2), .int (nI 1)]) ⟨hx, hb, hml, hown, hts⟩ (c_X7_unlikeBy l D h g cI J hz G b q hM hok9 hT i hi v2 1 hv2 (by decide)) (cwV 3 hts (gV mg_677 mg_679 mg_1035 mg_8 mg_680) rfl rfl rfl vd_X7_unlikeBy ⟨Nat.le_of_ble_eq_true rfl, Nat.le_of_ble_eq_true rfl⟩) (va_recv hK hP (ci := 7) (q0 := 0) rfl rfl) hK hP rfl hl.1 rfl (Nat.le_of_ble_eq_true rfl) dX7_nearOf_13 ⟨Nat.zero_le _, Nat.zero_le _⟩ ?_
  refine lv_istore (lv' := [(5, .int (nI (unl b (q.2.2.2.1 i 0) 1 (q.2.2.2.1 i 1) v2))), (4, .int (nI (unl b (q.2.2.2.1 i 0) 0 (q.2.2.2.1 i 1) v2))), (0, .ref h), (1, .int (nI i)), (2, .int (nI v2)), (3, .int (nI 1))]) hx hb dX7_nearOf_16 hl (by decide) rfl (fun ls hl => ?_)
  have hu0 := unl_le b (q.2.2.2.1 i 0) 0 (q.2.2.2.1 i 1) v2
  have hu1 := unl_le b (q.2.2.2.1 i 0) 1 (q.2.2.2.1 i 1) v2
  refine lv_iload hx hb dX7_nearOf_18 (lv_at hl 0 rfl) ?_
  refine lv_iload hx hb dX7_nearOf_20 (lv_at hl 1 rfl) ?_
  refine j_icmp_ge (tgt := 29) hx hb dX7_nearOf_22 (by decide) (nI_toInt (by omega)) (nI_toInt (by omega)) (fun c_1 => ?_) (fun c_1 => ?_)
  · refine lv_iconst (v := nI 0) hx hb dX7_nearOf_29 (by decide) ?_
    refine lv_istore (lv' := [(6, .int (nI 0)), (5, .int (nI (unl b (q.2.2.2.1 i 0) 1 (q.2.2.2.1 i 1) v2))), (4, .int (nI (unl b (q.2.2.2.1 i 0) 0 (q.2.2.2.1 i 1) v2))), (0, .ref h), (1, .int (nI i)), (2, .int (nI v2)), (3, .int (nI 1))]) hx hb dX7_nearOf_30 hl (by decide) rfl (fun ls hl => ?_)
    refine lv_iload_n hx hb dX7_nearOf_32 rfl (lv_at hl 6 rfl) ?_
    refine j_if_ne (tgt := 49) hx hb dX7_nearOf_33 (by decide) (nI_toInt (by decide)) (fun c_2 => ?_) (fun c_2 => absurd c_2 (by omega))
    refine lv_iload hx hb dX7_nearOf_49 (lv_at hl 0 rfl) ?_
    refine j_if_eq (tgt := 59) hx hb dX7_nearOf_51 (by decide) (nI_toInt (by decide)) (fun c_3 => ?_) (fun c_3 => absurd c_3 (by omega))
    refine lv_iload hx hb dX7_nearOf_59 (lv_at hl 2 rfl) ?_
    exact ro_iret hx hb hr hlocks (by rw [ner]; first | (rw [if_pos rfl, if_pos (by omega)]; done) | (rw [if_pos rfl, if_neg (by omega)]; done) | (rw [if_neg (by decide)]; exact congrArg nI (by omega))) dX7_nearOf_61
  · refine lv_iconst (v := nI 1) hx hb dX7_nearOf_25 (by decide) ?_
    refine lv_goto (tgt := 30) hx hb dX7_nearOf_26 (by decide) ?_
    refine lv_istore (lv' := [(6, .int (nI 1)), (5, .int (nI (unl b (q.2.2.2.1 i 0) 1 (q.2.2.2.1 i 1) v2))), (4, .int (nI (unl b (q.2.2.2.1 i 0) 0 (q.2.2.2.1 i 1) v2))), (0, .ref h), (1, .int (nI i)), (2, .int (nI v2)), (3, .int (nI 1))]) hx hb dX7_nearOf_30 hl (by decide) rfl (fun ls hl => ?_)
    refine lv_iload_n hx hb dX7_nearOf_32 rfl (lv_at hl 6 rfl) ?_
    refine j_if_ne (tgt := 49) hx hb dX7_nearOf_33 (by decide) (nI_toInt (by decide)) (fun c_4 => ?_) (fun c_4 => absurd c_4 (by omega))
    refine lv_iload hx hb dX7_nearOf_49 (lv_at hl 0 rfl) ?_
    refine j_if_eq (tgt := 59) hx hb dX7_nearOf_51 (by decide) (nI_toInt (by decide)) (fun c_5 => absurd c_5 (by omega)) (fun c_5 => ?_)
    refine lv_iload hx hb dX7_nearOf_54 (lv_at hl 1 rfl) ?_
    refine lv_goto (tgt := 61) hx hb dX7_nearOf_56 (by decide) ?_
    exact ro_iret hx hb hr hlocks (by rw [ner]; first | (rw [if_pos rfl, if_pos (by omega)]; done) | (rw [if_pos rfl, if_neg (by omega)]; done) | (rw [if_neg (by decide)]; exact congrArg nI (by omega))) dX7_nearOf_61

theorem c_X7_nearOf (l : Launch) (D : va_G) (h : Nat) (g : Nat → Nat) (cI : ClassId) (J : Nat → Int32) (hz : Int64) (G : Nat → Nat → Int32) (b : Nat → Nat → Nat) (q : RS) (hM : MR b q J G) (hok9 : hok b) (hT : Tok q) (i : Nat) (hi : i < q.1) (v2 : Nat) (hv2 : v2 < 4) (w : Nat) (hw9 : w < 2) : ROi l yX7_nearOf (wA yX7_nearOf cX7_nearOf 7 (some .int)) ({ frames := 2, cells := 0, slots := 0, locals := 54 }) D (iTys cI) (mW h g cI J hz G) [.ref h, .int (nI i), .int (nI v2), .int (nI w)] (nI (ner b (q.2.2.2.1 i 0) (q.2.2.2.1 i 1) v2 w)) := by
  match w, hw9 with
  | 0, _ => exact c_X7_nearOf0 l D h g cI J hz G b q hM hok9 hT i hi v2 hv2
  | 1, _ => exact c_X7_nearOf1 l D h g cI J hz G b q hM hok9 hT i hi v2 hv2

set_option maxHeartbeats 4000000 in
set_option maxRecDepth 100000 in
theorem c_X7_tell0 (l : Launch) (D : va_G) (h : Nat) (g : Nat → Nat) (cI : ClassId) (J : Nat → Int32) (hz : Int64) (G : Nat → Nat → Int32) (b : Nat → Nat → Nat) (q : RS) (hM : MR b q J G) (hok9 : hok b) (hT : Tok q) (i : Nat) (hi : i < q.1) : ROi l yX7_tell (wA yX7_tell cX7_tell 3 (some .int)) ({ frames := 4, cells := 0, slots := 0, locals := 105 }) D (iTys cI) (mW h g cI J hz G) [.ref h, .int (nI i), .int (nI 0)] (abt b q.2.2.2.1 q.2.2.2.2 q.2.1 i 0) := by
  refine go_start (by decide) (Nat.le_of_ble_eq_true rfl) ?_
  intro p e s m args below meth c ls F _ hB hl
  obtain ⟨hx, hb, hr, hlocks, hml, hown, hts⟩ := F
  obtain ⟨hP, hK⟩ := hB
  have hown : s.vm.findClass RX7 = some m.cls := hown
  have hl : lv_has ls 3 [(0, .ref h), (1, .int (nI i)), (2, .int (nI 0))] := hl
  have ht5 := hT.1
  have ht8 := hT.2.1
  obtain ⟨hk0, hv0, hw0, hp0⟩ := hT.2.2.1 i hi
  refine lv_iload_n hx hb dX7_tell_0 rfl (lv_at hl 2 rfl) ?_
  refine lv_tableIn (off := 51) (tgt := 52) hx hb dX7_tell_1 (by rw [show (nI 0).toInt = 0 from by first | decide | (rw [nI_toInt (by decide)]; omega)]; decide) (by rw [show (nI 0).toInt = 0 from by first | decide | (rw [nI_toInt (by decide)]; omega)]; decide) (by rw [show (nI 0).toInt = 0 from by first | decide | (rw [nI_toInt (by decide)]; omega)]; rfl) (by decide) ?_
  refine lv_aload_n hx hb dX7_tell_52 rfl (lv_at hl 0 rfl) ?_
  refine va_get (D := D) (ci := 7) (v := .ref (g 11)) (C := RX7) (T := TX7) (N := 22) hx hb hts iX7 hown hK hP 0 rfl rfl 11 (by decide) (hts _ mg_473) (fun _ h9 => h9) rfl dX7_tell_53 ?_
  refine lv_iconst (v := nI 4) hx hb dX7_tell_56 (by decide) ?_
  refine lv_iload_n hx hb dX7_tell_57 rfl (lv_at hl 1 rfl) ?_
  refine n_imul hx hb dX7_tell_58 ?_
  refine lv_iload_n hx hb dX7_tell_59 rfl (lv_at hl 2 rfl) ?_
  refine n_iadd hx hb dX7_tell_60 ?_
  refine n_aldi hx hb hK hP 5 0 rfl rfl (by omega) (by decide) (v := nI (q.2.2.2.1 i 0)) (MR_row hM (by omega) (by omega)) dX7_tell_61 ?_
  exact ro_iret hx hb hr hlocks (abt_0.symm) dX7_tell_62

set_option maxHeartbeats 4000000 in
set_option maxRecDepth 100000 in
theorem c_X7_tell1 (l : Launch) (D : va_G) (h : Nat) (g : Nat → Nat) (cI : ClassId) (J : Nat → Int32) (hz : Int64) (G : Nat → Nat → Int32) (b : Nat → Nat → Nat) (q : RS) (hM : MR b q J G) (hok9 : hok b) (hT : Tok q) (i : Nat) (hi : i < q.1) : ROi l yX7_tell (wA yX7_tell cX7_tell 3 (some .int)) ({ frames := 4, cells := 0, slots := 0, locals := 105 }) D (iTys cI) (mW h g cI J hz G) [.ref h, .int (nI i), .int (nI 1)] (abt b q.2.2.2.1 q.2.2.2.2 q.2.1 i 1) := by
  refine go_start (by decide) (Nat.le_of_ble_eq_true rfl) ?_
  intro p e s m args below meth c ls F _ hB hl
  obtain ⟨hx, hb, hr, hlocks, hml, hown, hts⟩ := F
  obtain ⟨hP, hK⟩ := hB
  have hown : s.vm.findClass RX7 = some m.cls := hown
  have hl : lv_has ls 3 [(0, .ref h), (1, .int (nI i)), (2, .int (nI 1))] := hl
  have ht5 := hT.1
  have ht8 := hT.2.1
  obtain ⟨hk0, hv0, hw0, hp0⟩ := hT.2.2.1 i hi
  refine lv_iload_n hx hb dX7_tell_0 rfl (lv_at hl 2 rfl) ?_
  refine lv_tableIn (off := 51) (tgt := 52) hx hb dX7_tell_1 (by rw [show (nI 1).toInt = 1 from by first | decide | (rw [nI_toInt (by decide)]; omega)]; decide) (by rw [show (nI 1).toInt = 1 from by first | decide | (rw [nI_toInt (by decide)]; omega)]; decide) (by rw [show (nI 1).toInt = 1 from by first | decide | (rw [nI_toInt (by decide)]; omega)]; rfl) (by decide) ?_
  refine lv_aload_n hx hb dX7_tell_52 rfl (lv_at hl 0 rfl) ?_
  refine va_get (D := D) (ci := 7) (v := .ref (g 11)) (C := RX7) (T := TX7) (N := 22) hx hb hts iX7 hown hK hP 0 rfl rfl 11 (by decide) (hts _ mg_473) (fun _ h9 => h9) rfl dX7_tell_53 ?_
  refine lv_iconst (v := nI 4) hx hb dX7_tell_56 (by decide) ?_
  refine lv_iload_n hx hb dX7_tell_57 rfl (lv_at hl 1 rfl) ?_
  refine n_imul hx hb dX7_tell_58 ?_
  refine lv_iload_n hx hb dX7_tell_59 rfl (lv_at hl 2 rfl) ?_
  refine n_iadd hx hb dX7_tell_60 ?_
  refine n_aldi hx hb hK hP 5 0 rfl rfl (by omega) (by decide) (v := nI (q.2.2.2.1 i 1)) (MR_row hM (by omega) (by omega)) dX7_tell_61 ?_
  exact ro_iret hx hb hr hlocks (abt_1.symm) dX7_tell_62

set_option maxHeartbeats 4000000 in
set_option maxRecDepth 100000 in
theorem c_X7_tell2 (l : Launch) (D : va_G) (h : Nat) (g : Nat → Nat) (cI : ClassId) (J : Nat → Int32) (hz : Int64) (G : Nat → Nat → Int32) (b : Nat → Nat → Nat) (q : RS) (hM : MR b q J G) (hok9 : hok b) (hT : Tok q) (i : Nat) (hi : i < q.1) : ROi l yX7_tell (wA yX7_tell cX7_tell 3 (some .int)) ({ frames := 4, cells := 0, slots := 0, locals := 105 }) D (iTys cI) (mW h g cI J hz G) [.ref h, .int (nI i), .int (nI 2)] (abt b q.2.2.2.1 q.2.2.2.2 q.2.1 i 2) := by
  refine go_start (by decide) (Nat.le_of_ble_eq_true rfl) ?_
  intro p e s m args below meth c ls F _ hB hl
  obtain ⟨hx, hb, hr, hlocks, hml, hown, hts⟩ := F
  obtain ⟨hP, hK⟩ := hB
  have hown : s.vm.findClass RX7 = some m.cls := hown
  have hl : lv_has ls 3 [(0, .ref h), (1, .int (nI i)), (2, .int (nI 2))] := hl
  have ht5 := hT.1
  have ht8 := hT.2.1
  obtain ⟨hk0, hv0, hw0, hp0⟩ := hT.2.2.1 i hi
  refine lv_iload_n hx hb dX7_tell_0 rfl (lv_at hl 2 rfl) ?_
  refine lv_tableIn (off := 51) (tgt := 52) hx hb dX7_tell_1 (by rw [show (nI 2).toInt = 2 from by first | decide | (rw [nI_toInt (by decide)]; omega)]; decide) (by rw [show (nI 2).toInt = 2 from by first | decide | (rw [nI_toInt (by decide)]; omega)]; decide) (by rw [show (nI 2).toInt = 2 from by first | decide | (rw [nI_toInt (by decide)]; omega)]; rfl) (by decide) ?_
  refine lv_aload_n hx hb dX7_tell_52 rfl (lv_at hl 0 rfl) ?_
  refine va_get (D := D) (ci := 7) (v := .ref (g 11)) (C := RX7) (T := TX7) (N := 22) hx hb hts iX7 hown hK hP 0 rfl rfl 11 (by decide) (hts _ mg_473) (fun _ h9 => h9) rfl dX7_tell_53 ?_
  refine lv_iconst (v := nI 4) hx hb dX7_tell_56 (by decide) ?_
  refine lv_iload_n hx hb dX7_tell_57 rfl (lv_at hl 1 rfl) ?_
  refine n_imul hx hb dX7_tell_58 ?_
  refine lv_iload_n hx hb dX7_tell_59 rfl (lv_at hl 2 rfl) ?_
  refine n_iadd hx hb dX7_tell_60 ?_
  refine n_aldi hx hb hK hP 5 0 rfl rfl (by omega) (by decide) (v := nI (q.2.2.2.1 i 2)) (MR_row hM (by omega) (by omega)) dX7_tell_61 ?_
  exact ro_iret hx hb hr hlocks (abt_2.symm) dX7_tell_62

set_option maxHeartbeats 4000000 in
set_option maxRecDepth 100000 in
theorem c_X7_tell3 (l : Launch) (D : va_G) (h : Nat) (g : Nat → Nat) (cI : ClassId) (J : Nat → Int32) (hz : Int64) (G : Nat → Nat → Int32) (b : Nat → Nat → Nat) (q : RS) (hM : MR b q J G) (hok9 : hok b) (hT : Tok q) (i : Nat) (hi : i < q.1) : ROi l yX7_tell (wA yX7_tell cX7_tell 3 (some .int)) ({ frames := 4, cells := 0, slots := 0, locals := 105 }) D (iTys cI) (mW h g cI J hz G) [.ref h, .int (nI i), .int (nI 3)] (abt b q.2.2.2.1 q.2.2.2.2 q.2.1 i 3) := by
  refine go_start (by decide) (Nat.le_of_ble_eq_true rfl) ?_
  intro p e s m args below meth c ls F _ hB hl
  obtain ⟨hx, hb, hr, hlocks, hml, hown, hts⟩ := F
  obtain ⟨hP, hK⟩ := hB
  have hown : s.vm.findClass RX7 = some m.cls := hown
  have hl : lv_has ls 3 [(0, .ref h), (1, .int (nI i)), (2, .int (nI 3))] := hl
  have ht5 := hT.1
  have ht8 := hT.2.1
  obtain ⟨hk0, hv0, hw0, hp0⟩ := hT.2.2.1 i hi
  refine lv_iload_n hx hb dX7_tell_0 rfl (lv_at hl 2 rfl) ?_
  refine lv_tableIn (off := 51) (tgt := 52) hx hb dX7_tell_1 (by rw [show (nI 3).toInt = 3 from by first | decide | (rw [nI_toInt (by decide)]; omega)]; decide) (by rw [show (nI 3).toInt = 3 from by first | decide | (rw [nI_toInt (by decide)]; omega)]; decide) (by rw [show (nI 3).toInt = 3 from by first | decide | (rw [nI_toInt (by decide)]; omega)]; rfl) (by decide) ?_
  refine lv_aload_n hx hb dX7_tell_52 rfl (lv_at hl 0 rfl) ?_
  refine va_get (D := D) (ci := 7) (v := .ref (g 11)) (C := RX7) (T := TX7) (N := 22) hx hb hts iX7 hown hK hP 0 rfl rfl 11 (by decide) (hts _ mg_473) (fun _ h9 => h9) rfl dX7_tell_53 ?_
  refine lv_iconst (v := nI 4) hx hb dX7_tell_56 (by decide) ?_
  refine lv_iload_n hx hb dX7_tell_57 rfl (lv_at hl 1 rfl) ?_
  refine n_imul hx hb dX7_tell_58 ?_
  refine lv_iload_n hx hb dX7_tell_59 rfl (lv_at hl 2 rfl) ?_
  refine n_iadd hx hb dX7_tell_60 ?_
  refine n_aldi hx hb hK hP 5 0 rfl rfl (by omega) (by decide) (v := nI (q.2.2.2.1 i 3)) (MR_row hM (by omega) (by omega)) dX7_tell_61 ?_
  exact ro_iret hx hb hr hlocks (abt_3.symm) dX7_tell_62

set_option maxHeartbeats 4000000 in
set_option maxRecDepth 100000 in
theorem c_X7_tell4 (l : Launch) (D : va_G) (h : Nat) (g : Nat → Nat) (cI : ClassId) (J : Nat → Int32) (hz : Int64) (G : Nat → Nat → Int32) (b : Nat → Nat → Nat) (q : RS) (hM : MR b q J G) (hok9 : hok b) (hT : Tok q) (i : Nat) (hi : i < q.1) : ROi l yX7_tell (wA yX7_tell cX7_tell 3 (some .int)) ({ frames := 4, cells := 0, slots := 0, locals := 105 }) D (iTys cI) (mW h g cI J hz G) [.ref h, .int (nI i), .int (nI 4)] (abt b q.2.2.2.1 q.2.2.2.2 q.2.1 i 4) := by
  refine go_start (by decide) (Nat.le_of_ble_eq_true rfl) ?_
  intro p e s m args below meth c ls F _ hB hl
  obtain ⟨hx, hb, hr, hlocks, hml, hown, hts⟩ := F
  obtain ⟨hP, hK⟩ := hB
  have hown : s.vm.findClass RX7 = some m.cls := hown
  have hl : lv_has ls 3 [(0, .ref h), (1, .int (nI i)), (2, .int (nI 4))] := hl
  have ht5 := hT.1
  have ht8 := hT.2.1
  obtain ⟨hk0, hv0, hw0, hp0⟩ := hT.2.2.1 i hi
  refine lv_iload_n hx hb dX7_tell_0 rfl (lv_at hl 2 rfl) ?_
  refine lv_tableIn (off := 62) (tgt := 63) hx hb dX7_tell_1 (by rw [show (nI 4).toInt = 4 from by first | decide | (rw [nI_toInt (by decide)]; omega)]; decide) (by rw [show (nI 4).toInt = 4 from by first | decide | (rw [nI_toInt (by decide)]; omega)]; decide) (by rw [show (nI 4).toInt = 4 from by first | decide | (rw [nI_toInt (by decide)]; omega)]; rfl) (by decide) ?_
  refine lv_aload_n hx hb dX7_tell_63 rfl (lv_at hl 0 rfl) ?_
  refine lv_iload_n hx hb dX7_tell_64 rfl (lv_at hl 1 rfl) ?_
  refine ro_iV (n := 1) (As := [.int (nI i)]) ⟨hx, hb, hml, hown, hts⟩ (c_X7_sureOf l D h g cI J hz G b q hM hok9 hT i hi) (cwV 1 hts (gV mg_604 mg_606 mg_1024 mg_8 mg_607) rfl rfl rfl vd_X7_sureOf ⟨Nat.le_of_ble_eq_true rfl, Nat.le_of_ble_eq_true rfl⟩) (va_recv hK hP (ci := 7) (q0 := 0) rfl rfl) hK hP rfl hl.1 rfl (Nat.le_of_ble_eq_true rfl) dX7_tell_65 ⟨Nat.zero_le _, Nat.zero_le _⟩ ?_
  exact ro_iret hx hb hr hlocks (abt_4.symm) dX7_tell_68

set_option maxHeartbeats 4000000 in
set_option maxRecDepth 100000 in
theorem c_X7_tell5 (l : Launch) (D : va_G) (h : Nat) (g : Nat → Nat) (cI : ClassId) (J : Nat → Int32) (hz : Int64) (G : Nat → Nat → Int32) (b : Nat → Nat → Nat) (q : RS) (hM : MR b q J G) (hok9 : hok b) (hT : Tok q) (i : Nat) (hi : i < q.1) : ROi l yX7_tell (wA yX7_tell cX7_tell 3 (some .int)) ({ frames := 4, cells := 0, slots := 0, locals := 105 }) D (iTys cI) (mW h g cI J hz G) [.ref h, .int (nI i), .int (nI 5)] (abt b q.2.2.2.1 q.2.2.2.2 q.2.1 i 5) := by
  refine go_start (by decide) (Nat.le_of_ble_eq_true rfl) ?_
  intro p e s m args below meth c ls F _ hB hl
  obtain ⟨hx, hb, hr, hlocks, hml, hown, hts⟩ := F
  obtain ⟨hP, hK⟩ := hB
  have hown : s.vm.findClass RX7 = some m.cls := hown
  have hl : lv_has ls 3 [(0, .ref h), (1, .int (nI i)), (2, .int (nI 5))] := hl
  have ht5 := hT.1
  have ht8 := hT.2.1
  obtain ⟨hk0, hv0, hw0, hp0⟩ := hT.2.2.1 i hi
  refine lv_iload_n hx hb dX7_tell_0 rfl (lv_at hl 2 rfl) ?_
  refine lv_tableIn (off := 68) (tgt := 69) hx hb dX7_tell_1 (by rw [show (nI 5).toInt = 5 from by first | decide | (rw [nI_toInt (by decide)]; omega)]; decide) (by rw [show (nI 5).toInt = 5 from by first | decide | (rw [nI_toInt (by decide)]; omega)]; decide) (by rw [show (nI 5).toInt = 5 from by first | decide | (rw [nI_toInt (by decide)]; omega)]; rfl) (by decide) ?_
  refine lv_aload_n hx hb dX7_tell_69 rfl (lv_at hl 0 rfl) ?_
  refine lv_iload_n hx hb dX7_tell_70 rfl (lv_at hl 1 rfl) ?_
  refine ro_iV (n := 1) (As := [.int (nI i)]) ⟨hx, hb, hml, hown, hts⟩ (c_X7_saysOf l D h g cI J hz G b q hM hok9 hT i hi) (cwV 1 hts (gV mg_620 mg_622 mg_1028 mg_8 mg_623) rfl rfl rfl vd_X7_saysOf ⟨Nat.le_of_ble_eq_true rfl, Nat.le_of_ble_eq_true rfl⟩) (va_recv hK hP (ci := 7) (q0 := 0) rfl rfl) hK hP rfl hl.1 rfl (Nat.le_of_ble_eq_true rfl) dX7_tell_71 ⟨Nat.zero_le _, Nat.zero_le _⟩ ?_
  exact ro_iret hx hb hr hlocks (abt_5.symm) dX7_tell_74

set_option maxHeartbeats 4000000 in
set_option maxRecDepth 100000 in
theorem c_X7_tell6 (l : Launch) (D : va_G) (h : Nat) (g : Nat → Nat) (cI : ClassId) (J : Nat → Int32) (hz : Int64) (G : Nat → Nat → Int32) (b : Nat → Nat → Nat) (q : RS) (hM : MR b q J G) (hok9 : hok b) (hT : Tok q) (i : Nat) (hi : i < q.1) : ROi l yX7_tell (wA yX7_tell cX7_tell 3 (some .int)) ({ frames := 4, cells := 0, slots := 0, locals := 105 }) D (iTys cI) (mW h g cI J hz G) [.ref h, .int (nI i), .int (nI 6)] (abt b q.2.2.2.1 q.2.2.2.2 q.2.1 i 6) := by
  refine go_start (by decide) (Nat.le_of_ble_eq_true rfl) ?_
  intro p e s m args below meth c ls F _ hB hl
  obtain ⟨hx, hb, hr, hlocks, hml, hown, hts⟩ := F
  obtain ⟨hP, hK⟩ := hB
  have hown : s.vm.findClass RX7 = some m.cls := hown
  have hl : lv_has ls 3 [(0, .ref h), (1, .int (nI i)), (2, .int (nI 6))] := hl
  have ht5 := hT.1
  have ht8 := hT.2.1
  obtain ⟨hk0, hv0, hw0, hp0⟩ := hT.2.2.1 i hi
  refine lv_iload_n hx hb dX7_tell_0 rfl (lv_at hl 2 rfl) ?_
  refine lv_tableIn (off := 74) (tgt := 75) hx hb dX7_tell_1 (by rw [show (nI 6).toInt = 6 from by first | decide | (rw [nI_toInt (by decide)]; omega)]; decide) (by rw [show (nI 6).toInt = 6 from by first | decide | (rw [nI_toInt (by decide)]; omega)]; decide) (by rw [show (nI 6).toInt = 6 from by first | decide | (rw [nI_toInt (by decide)]; omega)]; rfl) (by decide) ?_
  refine lv_aload_n hx hb dX7_tell_75 rfl (lv_at hl 0 rfl) ?_
  refine lv_iload_n hx hb dX7_tell_76 rfl (lv_at hl 1 rfl) ?_
  refine ro_iV (n := 1) (As := [.int (nI i)]) ⟨hx, hb, hml, hown, hts⟩ (c_X7_likelyOf l D h g cI J hz G b q hM hok9 hT i hi) (cwV 1 hts (gV mg_628 mg_630 mg_1030 mg_8 mg_631) rfl rfl rfl vd_X7_likelyOf ⟨Nat.le_of_ble_eq_true rfl, Nat.le_of_ble_eq_true rfl⟩) (va_recv hK hP (ci := 7) (q0 := 0) rfl rfl) hK hP rfl hl.1 rfl (Nat.le_of_ble_eq_true rfl) dX7_tell_77 ⟨Nat.zero_le _, Nat.zero_le _⟩ ?_
  exact ro_iret hx hb hr hlocks (abt_6.symm) dX7_tell_80

set_option maxHeartbeats 4000000 in
set_option maxRecDepth 100000 in
theorem c_X7_tell7 (l : Launch) (D : va_G) (h : Nat) (g : Nat → Nat) (cI : ClassId) (J : Nat → Int32) (hz : Int64) (G : Nat → Nat → Int32) (b : Nat → Nat → Nat) (q : RS) (hM : MR b q J G) (hok9 : hok b) (hT : Tok q) (i : Nat) (hi : i < q.1) : ROi l yX7_tell (wA yX7_tell cX7_tell 3 (some .int)) ({ frames := 4, cells := 0, slots := 0, locals := 105 }) D (iTys cI) (mW h g cI J hz G) [.ref h, .int (nI i), .int (nI 7)] (abt b q.2.2.2.1 q.2.2.2.2 q.2.1 i 7) := by
  refine go_start (by decide) (Nat.le_of_ble_eq_true rfl) ?_
  intro p e s m args below meth c ls F _ hB hl
  obtain ⟨hx, hb, hr, hlocks, hml, hown, hts⟩ := F
  obtain ⟨hP, hK⟩ := hB
  have hown : s.vm.findClass RX7 = some m.cls := hown
  have hl : lv_has ls 3 [(0, .ref h), (1, .int (nI i)), (2, .int (nI 7))] := hl
  have ht5 := hT.1
  have ht8 := hT.2.1
  obtain ⟨hk0, hv0, hw0, hp0⟩ := hT.2.2.1 i hi
  refine lv_iload_n hx hb dX7_tell_0 rfl (lv_at hl 2 rfl) ?_
  refine lv_tableIn (off := 80) (tgt := 81) hx hb dX7_tell_1 (by rw [show (nI 7).toInt = 7 from by first | decide | (rw [nI_toInt (by decide)]; omega)]; decide) (by rw [show (nI 7).toInt = 7 from by first | decide | (rw [nI_toInt (by decide)]; omega)]; decide) (by rw [show (nI 7).toInt = 7 from by first | decide | (rw [nI_toInt (by decide)]; omega)]; rfl) (by decide) ?_
  refine lv_aload_n hx hb dX7_tell_81 rfl (lv_at hl 0 rfl) ?_
  refine lv_iload_n hx hb dX7_tell_82 rfl (lv_at hl 1 rfl) ?_
  refine lv_aload_n hx hb dX7_tell_83 rfl (lv_at hl 0 rfl) ?_
  refine lv_iload_n hx hb dX7_tell_84 rfl (lv_at hl 1 rfl) ?_
  refine ro_iV (n := 1) (As := [.int (nI i)]) ⟨hx, hb, hml, hown, hts⟩ (c_X7_likelyOf l D h g cI J hz G b q hM hok9 hT i hi) (cwV 1 hts (gV mg_628 mg_630 mg_1030 mg_8 mg_631) rfl rfl rfl vd_X7_likelyOf ⟨Nat.le_of_ble_eq_true rfl, Nat.le_of_ble_eq_true rfl⟩) (va_recv hK hP (ci := 7) (q0 := 0) rfl rfl) hK hP rfl hl.1 rfl (Nat.le_of_ble_eq_true rfl) dX7_tell_85 ⟨Nat.zero_le _, Nat.zero_le _⟩ ?_
  refine ro_iV (n := 2) (As := [.int (nI i), .int (nI (lky (sly b q.2.2.2.1 i q.2.2.2.2 q.2.1) 3))]) ⟨hx, hb, hml, hown, hts⟩ (c_X7_slipsBy l D h g cI J hz G b q hM hok9 hT i hi (lky (sly b q.2.2.2.1 i q.2.2.2.2 q.2.1) 3) (Nat.lt_succ_of_le (lky_le (sly b q.2.2.2.1 i q.2.2.2.2 q.2.1) 3))) (cwV 2 hts (gV mg_624 mg_626 mg_1029 mg_8 mg_627) rfl rfl rfl vd_X7_slipsBy ⟨Nat.le_of_ble_eq_true rfl, Nat.le_of_ble_eq_true rfl⟩) (va_recv hK hP (ci := 7) (q0 := 0) rfl rfl) hK hP rfl hl.1 rfl (Nat.le_of_ble_eq_true rfl) dX7_tell_88 ⟨Nat.zero_le _, Nat.zero_le _⟩ ?_
  exact ro_iret hx hb hr hlocks (abt_7.symm) dX7_tell_91

set_option maxHeartbeats 4000000 in
set_option maxRecDepth 100000 in
theorem c_X7_tell8 (l : Launch) (D : va_G) (h : Nat) (g : Nat → Nat) (cI : ClassId) (J : Nat → Int32) (hz : Int64) (G : Nat → Nat → Int32) (b : Nat → Nat → Nat) (q : RS) (hM : MR b q J G) (hok9 : hok b) (hT : Tok q) (i : Nat) (hi : i < q.1) : ROi l yX7_tell (wA yX7_tell cX7_tell 3 (some .int)) ({ frames := 4, cells := 0, slots := 0, locals := 105 }) D (iTys cI) (mW h g cI J hz G) [.ref h, .int (nI i), .int (nI 8)] (abt b q.2.2.2.1 q.2.2.2.2 q.2.1 i 8) := by
  refine go_start (by decide) (Nat.le_of_ble_eq_true rfl) ?_
  intro p e s m args below meth c ls F _ hB hl
  obtain ⟨hx, hb, hr, hlocks, hml, hown, hts⟩ := F
  obtain ⟨hP, hK⟩ := hB
  have hown : s.vm.findClass RX7 = some m.cls := hown
  have hl : lv_has ls 3 [(0, .ref h), (1, .int (nI i)), (2, .int (nI 8))] := hl
  have ht5 := hT.1
  have ht8 := hT.2.1
  obtain ⟨hk0, hv0, hw0, hp0⟩ := hT.2.2.1 i hi
  refine lv_iload_n hx hb dX7_tell_0 rfl (lv_at hl 2 rfl) ?_
  refine lv_tableIn (off := 91) (tgt := 92) hx hb dX7_tell_1 (by rw [show (nI 8).toInt = 8 from by first | decide | (rw [nI_toInt (by decide)]; omega)]; decide) (by rw [show (nI 8).toInt = 8 from by first | decide | (rw [nI_toInt (by decide)]; omega)]; decide) (by rw [show (nI 8).toInt = 8 from by first | decide | (rw [nI_toInt (by decide)]; omega)]; rfl) (by decide) ?_
  refine lv_aload_n hx hb dX7_tell_92 rfl (lv_at hl 0 rfl) ?_
  refine lv_iload_n hx hb dX7_tell_93 rfl (lv_at hl 1 rfl) ?_
  refine ro_iV (n := 1) (As := [.int (nI i)]) ⟨hx, hb, hml, hown, hts⟩ (c_X7_listenOf l D h g cI J hz G b q hM hok9 hT i hi) (cwV 1 hts (gV mg_632 mg_634 mg_1031 mg_8 mg_635) rfl rfl rfl vd_X7_listenOf ⟨Nat.le_of_ble_eq_true rfl, Nat.le_of_ble_eq_true rfl⟩) (va_recv hK hP (ci := 7) (q0 := 0) rfl rfl) hK hP rfl hl.1 rfl (Nat.le_of_ble_eq_true rfl) dX7_tell_94 ⟨Nat.zero_le _, Nat.zero_le _⟩ ?_
  exact ro_iret hx hb hr hlocks (abt_8.symm) dX7_tell_97

set_option maxHeartbeats 4000000 in
set_option maxRecDepth 100000 in
theorem c_X7_tellO (l : Launch) (D : va_G) (h : Nat) (g : Nat → Nat) (cI : ClassId) (J : Nat → Int32) (hz : Int64) (G : Nat → Nat → Int32) (b : Nat → Nat → Nat) (q : RS) (hM : MR b q J G) (hok9 : hok b) (hT : Tok q) (i : Nat) (hi : i < q.1) (w : Int32) (ow : ¬ inr w 0 9) : ROi l yX7_tell (wA yX7_tell cX7_tell 3 (some .int)) ({ frames := 4, cells := 0, slots := 0, locals := 105 }) D (iTys cI) (mW h g cI J hz G) [.ref h, .int (nI i), .int w] (-102) := by
  refine go_start (by decide) (Nat.le_of_ble_eq_true rfl) ?_
  intro p e s m args below meth c ls F _ hB hl
  obtain ⟨hx, hb, hr, hlocks, hml, hown, hts⟩ := F
  obtain ⟨hP, hK⟩ := hB
  have hown : s.vm.findClass RX7 = some m.cls := hown
  have hl : lv_has ls 3 [(0, .ref h), (1, .int (nI i)), (2, .int w)] := hl
  have ht5 := hT.1
  have ht8 := hT.2.1
  obtain ⟨hk0, hv0, hw0, hp0⟩ := hT.2.2.1 i hi
  have ow7 := inr_out ow
  refine lv_iload_n hx hb dX7_tell_0 rfl (lv_at hl 2 rfl) ?_
  refine lv_tableOut (tgt := 98) hx hb dX7_tell_1 (by omega) (by decide) ?_
  refine lv_bipush (v := (-102)) hx hb dX7_tell_98 (by decide) ?_
  exact ro_iret hx hb hr hlocks (rfl) dX7_tell_100

theorem c_X7_tell (l : Launch) (D : va_G) (h : Nat) (g : Nat → Nat) (cI : ClassId) (J : Nat → Int32) (hz : Int64) (G : Nat → Nat → Int32) (b : Nat → Nat → Nat) (q : RS) (hM : MR b q J G) (hok9 : hok b) (hT : Tok q) (i : Nat) (hi : i < q.1) (w : Nat) (hw9 : w < 9) : ROi l yX7_tell (wA yX7_tell cX7_tell 3 (some .int)) ({ frames := 4, cells := 0, slots := 0, locals := 105 }) D (iTys cI) (mW h g cI J hz G) [.ref h, .int (nI i), .int (nI w)] (abt b q.2.2.2.1 q.2.2.2.2 q.2.1 i w) := by
  match w, hw9 with
  | 0, _ => exact c_X7_tell0 l D h g cI J hz G b q hM hok9 hT i hi
  | 1, _ => exact c_X7_tell1 l D h g cI J hz G b q hM hok9 hT i hi
  | 2, _ => exact c_X7_tell2 l D h g cI J hz G b q hM hok9 hT i hi
  | 3, _ => exact c_X7_tell3 l D h g cI J hz G b q hM hok9 hT i hi
  | 4, _ => exact c_X7_tell4 l D h g cI J hz G b q hM hok9 hT i hi
  | 5, _ => exact c_X7_tell5 l D h g cI J hz G b q hM hok9 hT i hi
  | 6, _ => exact c_X7_tell6 l D h g cI J hz G b q hM hok9 hT i hi
  | 7, _ => exact c_X7_tell7 l D h g cI J hz G b q hM hok9 hT i hi
  | 8, _ => exact c_X7_tell8 l D h g cI J hz G b q hM hok9 hT i hi

set_option maxHeartbeats 4000000 in
set_option maxRecDepth 100000 in
theorem c_X7_agreeOf (l : Launch) (D : va_G) (h : Nat) (g : Nat → Nat) (cI : ClassId) (J : Nat → Int32) (hz : Int64) (G : Nat → Nat → Int32) (b : Nat → Nat → Nat) (q : RS) (hM : MR b q J G) (hok9 : hok b) (hT : Tok q) (i : Nat) (hi : i < q.1) (j : Nat) (hj : j < q.1) : ROi l yX7_agreeOf (wA yX7_agreeOf cX7_agreeOf 5 (some .int)) ({ frames := 3, cells := 0, slots := 0, locals := 73 }) D (iTys cI) (mW h g cI J hz G) [.ref h, .int (nI i), .int (nI j)] (nI (cnt (agf b q.2.2.2.1 i j) 16)) := by
  refine go_start (by decide) (Nat.le_of_ble_eq_true rfl) ?_
  intro p e s m args below meth c ls F _ hB hl
  obtain ⟨hx, hb, hr, hlocks, hml, hown, hts⟩ := F
  obtain ⟨hP, hK⟩ := hB
  have hown : s.vm.findClass RX7 = some m.cls := hown
  have hl : lv_has ls 5 [(0, .ref h), (1, .int (nI i)), (2, .int (nI j))] := hl
  have ht5 := hT.1
  have ht8 := hT.2.1
  obtain ⟨hk0, hv0, hw0, hp0⟩ := hT.2.2.1 i hi
  obtain ⟨hk0j, hv0j, hw0j, hp0j⟩ := hT.2.2.1 j hj
  refine lv_iconst (v := nI 0) hx hb dX7_agreeOf_0 (by decide) ?_
  refine lv_istore_n (lv' := [(3, .int (nI 0)), (0, .ref h), (1, .int (nI i)), (2, .int (nI j))]) hx hb dX7_agreeOf_1 rfl hl (by decide) rfl (fun ls hl => ?_)
  refine lv_iconst (v := nI 0) hx hb dX7_agreeOf_2 (by decide) ?_
  refine lv_istore (lv' := [(4, .int (nI 0)), (3, .int (nI 0)), (0, .ref h), (1, .int (nI i)), (2, .int (nI j))]) hx hb dX7_agreeOf_3 hl (by decide) rfl (fun ls hl => ?_)
  have K_1 : ∀ n9 : Nat, ∀ (t : Nat) (n : Nat), n ≤ 16 → t = cnt (agf b q.2.2.2.1 i j) n → 16 - n < n9 → ∀ ls : Array Slot, lv_has ls 5 [(0, .ref h), (1, .int (nI i)), (2, .int (nI j)), (3, .int (nI t)), (4, .int (nI n))] → W p l e (headSpec (wA yX7_agreeOf cX7_agreeOf 5 (some .int)) ({ frames := 3, cells := 0, slots := 0, locals := 73 })).room s m args below meth c s.heap [] 0 0 (MQ below (vp_Si (fun z9 => z9 = nI (cnt (agf b q.2.2.2.1 i j) 16))) args s 0 0 (fun _ => False)) (F0 m 5 ls []) := by
    intro n9
    induction n9 with
    | zero => intros; omega
    | succ n9 ih_2 =>
      intro t n hn ht0 hn9 ls hl
      have hxl := cnt_le (agf b q.2.2.2.1 i j) n
      refine lv_iload hx hb dX7_agreeOf_5 (lv_at hl 4 rfl) ?_
      refine lv_bipush (v := nI 16) hx hb dX7_agreeOf_7 (by decide) ?_
      refine j_icmp_ge (tgt := 65) hx hb dX7_agreeOf_9 (by decide) (nI_toInt (by omega)) (nI_toInt (by decide)) (fun c_3 => ?_) (fun c_3 => ?_)
      · have e9 : n = 16 := by omega
        refine lv_iload_n hx hb dX7_agreeOf_65 rfl (lv_at hl 3 rfl) ?_
        exact ro_iret hx hb hr hlocks (by rw [ht0, e9]) dX7_agreeOf_66
      · refine lv_iload_n hx hb dX7_agreeOf_12 rfl (lv_at hl 3 rfl) ?_
        refine lv_aload_n hx hb dX7_agreeOf_13 rfl (lv_at hl 0 rfl) ?_
        refine lv_iload_n hx hb dX7_agreeOf_14 rfl (lv_at hl 1 rfl) ?_
        refine lv_aload_n hx hb dX7_agreeOf_15 rfl (lv_at hl 0 rfl) ?_
        refine va_get (D := D) (ci := 7) (v := .ref (g 11)) (C := RX7) (T := TX7) (N := 22) hx hb hts iX7 hown hK hP 0 rfl rfl 11 (by decide) (hts _ mg_473) (fun _ h9 => h9) rfl dX7_agreeOf_16 ?_
        refine lv_iconst (v := nI 4) hx hb dX7_agreeOf_19 (by decide) ?_
        refine lv_iload_n hx hb dX7_agreeOf_20 rfl (lv_at hl 1 rfl) ?_
        refine n_imul hx hb dX7_agreeOf_21 ?_
        refine lv_iconst (v := nI 3) hx hb dX7_agreeOf_22 (by decide) ?_
        refine n_iadd hx hb dX7_agreeOf_23 ?_
        refine n_aldi hx hb hK hP 5 0 rfl rfl (by omega) (by decide) (v := nI (q.2.2.2.1 i 3)) (MR_row hM (by omega) (by omega)) dX7_agreeOf_24 ?_
        refine lv_iload hx hb dX7_agreeOf_25 (lv_at hl 4 rfl) ?_
        refine n_iadd hx hb dX7_agreeOf_27 ?_
        refine ro_iV (n := 2) (As := [.int (nI i), .int (nI ((q.2.2.2.1 i 3) + n))]) ⟨hx, hb, hml, hown, hts⟩ (c_X7_dripOf l D h g cI J hz G b q hM hok9 hT i (by omega) ((q.2.2.2.1 i 3) + n) (by omega)) (cwV 2 hts (gV mg_645 mg_647 mg_1032 mg_8 mg_648) rfl rfl rfl vd_X7_dripOf ⟨Nat.le_of_ble_eq_true rfl, Nat.le_of_ble_eq_true rfl⟩) (va_recv hK hP (ci := 7) (q0 := 0) rfl rfl) hK hP rfl hl.1 rfl (Nat.le_of_ble_eq_true rfl) dX7_agreeOf_28 ⟨Nat.zero_le _, Nat.zero_le _⟩ ?_
        refine lv_aload_n hx hb dX7_agreeOf_31 rfl (lv_at hl 0 rfl) ?_
        refine lv_iload_n hx hb dX7_agreeOf_32 rfl (lv_at hl 2 rfl) ?_
        refine lv_aload_n hx hb dX7_agreeOf_33 rfl (lv_at hl 0 rfl) ?_
        refine va_get (D := D) (ci := 7) (v := .ref (g 11)) (C := RX7) (T := TX7) (N := 22) hx hb hts iX7 hown hK hP 0 rfl rfl 11 (by decide) (hts _ mg_473) (fun _ h9 => h9) rfl dX7_agreeOf_34 ?_
        refine lv_iconst (v := nI 4) hx hb dX7_agreeOf_37 (by decide) ?_
        refine lv_iload_n hx hb dX7_agreeOf_38 rfl (lv_at hl 2 rfl) ?_
        refine n_imul hx hb dX7_agreeOf_39 ?_
        refine lv_iconst (v := nI 3) hx hb dX7_agreeOf_40 (by decide) ?_
        refine n_iadd hx hb dX7_agreeOf_41 ?_
        refine n_aldi hx hb hK hP 5 0 rfl rfl (by omega) (by decide) (v := nI (q.2.2.2.1 j 3)) (MR_row hM (by omega) (by omega)) dX7_agreeOf_42 ?_
        refine lv_iload hx hb dX7_agreeOf_43 (lv_at hl 4 rfl) ?_
        refine n_iadd hx hb dX7_agreeOf_45 ?_
        refine ro_iV (n := 2) (As := [.int (nI j), .int (nI ((q.2.2.2.1 j 3) + n))]) ⟨hx, hb, hml, hown, hts⟩ (c_X7_dripOf l D h g cI J hz G b q hM hok9 hT j (by omega) ((q.2.2.2.1 j 3) + n) (by omega)) (cwV 2 hts (gV mg_645 mg_647 mg_1032 mg_8 mg_648) rfl rfl rfl vd_X7_dripOf ⟨Nat.le_of_ble_eq_true rfl, Nat.le_of_ble_eq_true rfl⟩) (va_recv hK hP (ci := 7) (q0 := 0) rfl rfl) hK hP rfl hl.1 rfl (Nat.le_of_ble_eq_true rfl) dX7_agreeOf_46 ⟨Nat.zero_le _, Nat.zero_le _⟩ ?_
        have hd1 := sd_le hok9 (kd := q.2.2.2.1 i 0) (w := q.2.2.2.1 i 2) (n := q.2.2.2.1 i 3 + n) (v := q.2.2.2.1 i 1) (by omega)
        have hd2 := sd_le hok9 (kd := q.2.2.2.1 j 0) (w := q.2.2.2.1 j 2) (n := q.2.2.2.1 j 3 + n) (v := q.2.2.2.1 j 1) (by omega)
        refine j_icmp_ne (tgt := 56) hx hb dX7_agreeOf_49 (by decide) (nI_toInt (by omega)) (nI_toInt (by omega)) (fun c_4 => ?_) (fun c_4 => ?_)
        · have hzz : (agf b q.2.2.2.1 i j) n = false := decide_eq_false (by unfold dpl; omega)
          refine lv_iconst (v := nI 0) hx hb dX7_agreeOf_56 (by decide) ?_
          refine n_iadd hx hb dX7_agreeOf_57 ?_
          refine lv_istore_n (lv' := [(3, .int (nI (t + 0))), (0, .ref h), (1, .int (nI i)), (2, .int (nI j)), (4, .int (nI n))]) hx hb dX7_agreeOf_58 rfl hl (by decide) rfl (fun ls hl => ?_)
          refine lv_iinc (v := nI (n + 1)) (lv' := [(4, .int (nI (n + 1))), (3, .int (nI (t + 0))), (0, .ref h), (1, .int (nI i)), (2, .int (nI j))]) hx hb dX7_agreeOf_59 hl (k := 4) rfl (fr_inc1 _) (by decide) rfl (fun ls hl => ?_)
          refine lv_goto (tgt := 5) hx hb dX7_agreeOf_62 (by decide) ?_
          exact ih_2 (t + 0) (n + 1) (by omega) (by first | (rw [cnt_t hzz, ht0]; done) | (rw [cnt_f hzz]; omega)) (by omega) _ (lv_sub hl [2, 3, 4, 1, 0] rfl)
        · have hzz : (agf b q.2.2.2.1 i j) n = true := decide_eq_true (by unfold dpl; omega)
          refine lv_iconst (v := nI 1) hx hb dX7_agreeOf_52 (by decide) ?_
          refine lv_goto (tgt := 57) hx hb dX7_agreeOf_53 (by decide) ?_
          refine n_iadd hx hb dX7_agreeOf_57 ?_
          refine lv_istore_n (lv' := [(3, .int (nI (t + 1))), (0, .ref h), (1, .int (nI i)), (2, .int (nI j)), (4, .int (nI n))]) hx hb dX7_agreeOf_58 rfl hl (by decide) rfl (fun ls hl => ?_)
          refine lv_iinc (v := nI (n + 1)) (lv' := [(4, .int (nI (n + 1))), (3, .int (nI (t + 1))), (0, .ref h), (1, .int (nI i)), (2, .int (nI j))]) hx hb dX7_agreeOf_59 hl (k := 4) rfl (fr_inc1 _) (by decide) rfl (fun ls hl => ?_)
          refine lv_goto (tgt := 5) hx hb dX7_agreeOf_62 (by decide) ?_
          exact ih_2 (t + 1) (n + 1) (by omega) (by first | (rw [cnt_t hzz, ht0]; done) | (rw [cnt_f hzz]; omega)) (by omega) _ (lv_sub hl [2, 3, 4, 1, 0] rfl)
  exact K_1 (16 - 0 + 1) 0 0 (by omega) (rfl) (Nat.lt_succ_self _) _ (lv_sub hl [2, 3, 4, 1, 0] rfl)

set_option maxHeartbeats 4000000 in
set_option maxRecDepth 100000 in
theorem c_X7_tsL (l : Launch) (D : va_G) (h : Nat) (g : Nat → Nat) (cI : ClassId) (J : Nat → Int32) (hz : Int64) (G : Nat → Nat → Int32) (b : Nat → Nat → Nat) (q : RS) (hM : MR b q J G) (hb4 : ∀ v, v < 4 → b v 0 ≤ 4) (v : Nat) (hv : v < 4) : ROi l yX7_tellSaying (wA yX7_tellSaying cX7_tellSaying 3 (some .int)) ({ frames := 1, cells := 0, slots := 0, locals := 25 }) D (iTys cI) (mW h g cI J hz G) [.ref h, .int (nI v), .int (nI 0)] (nI (b v 0)) := by
  refine go_start (by decide) (Nat.le_of_ble_eq_true rfl) ?_
  intro p e s m args below meth c ls F _ hB hl
  obtain ⟨hx, hb, hr, hlocks, hml, hown, hts⟩ := F
  obtain ⟨hP, hK⟩ := hB
  have hown : s.vm.findClass RX7 = some m.cls := hown
  have hl : lv_has ls 3 [(0, .ref h), (1, .int (nI v)), (2, .int (nI 0))] := hl
  have hb5 := hb4 v hv
  refine lv_iload_n hx hb dX7_tellSaying_0 rfl (lv_at hl 2 rfl) ?_
  refine j_if_ne (tgt := 13) hx hb dX7_tellSaying_1 (by decide) (nI_toInt (by decide)) (fun c_1 => absurd c_1 (by omega)) (fun c_1 => ?_)
  refine lv_aload_n hx hb dX7_tellSaying_4 rfl (lv_at hl 0 rfl) ?_
  refine va_get (D := D) (ci := 7) (v := .ref (g 10)) (C := RX7) (T := TX7) (N := 22) hx hb hts iX7 hown hK hP 0 rfl rfl 10 (by decide) (hts _ mg_472) (fun _ h9 => h9) rfl dX7_tellSaying_5 ?_
  refine lv_iconst (v := nI 5) hx hb dX7_tellSaying_8 (by decide) ?_
  refine lv_iload_n hx hb dX7_tellSaying_9 rfl (lv_at hl 1 rfl) ?_
  refine n_imul hx hb dX7_tellSaying_10 ?_
  refine n_aldi hx hb hK hP 4 0 rfl rfl (by omega) (by decide) (v := nI (b v 0)) (MR_len hM (by omega)) dX7_tellSaying_11 ?_
  exact ro_iret hx hb hr hlocks (rfl) dX7_tellSaying_12

set_option maxHeartbeats 4000000 in
set_option maxRecDepth 100000 in
theorem c_X7_tsO (l : Launch) (D : va_G) (h : Nat) (g : Nat → Nat) (cI : ClassId) (J : Nat → Int32) (hz : Int64) (G : Nat → Nat → Int32) (b : Nat → Nat → Nat) (q : RS) (hM : MR b q J G) (hb4 : ∀ v, v < 4 → b v 0 ≤ 4) (v : Nat) (hv : v < 4) (w : Int32) (hw0 : ¬ w.toInt = 0) (ow : ¬ inr w 10 14) : ROi l yX7_tellSaying (wA yX7_tellSaying cX7_tellSaying 3 (some .int)) ({ frames := 1, cells := 0, slots := 0, locals := 25 }) D (iTys cI) (mW h g cI J hz G) [.ref h, .int (nI v), .int w] (-102) := by
  refine go_start (by decide) (Nat.le_of_ble_eq_true rfl) ?_
  intro p e s m args below meth c ls F _ hB hl
  obtain ⟨hx, hb, hr, hlocks, hml, hown, hts⟩ := F
  obtain ⟨hP, hK⟩ := hB
  have hown : s.vm.findClass RX7 = some m.cls := hown
  have hl : lv_has ls 3 [(0, .ref h), (1, .int (nI v)), (2, .int w)] := hl
  have hb5 := hb4 v hv
  have ow7 := inr_out ow
  refine lv_iload_n hx hb dX7_tellSaying_0 rfl (lv_at hl 2 rfl) ?_
  refine j_if_ne (tgt := 13) hx hb dX7_tellSaying_1 (by decide) rfl (fun c_1 => ?_) (fun c_1 => absurd c_1 (by omega))
  refine lv_iload_n hx hb dX7_tellSaying_13 rfl (lv_at hl 2 rfl) ?_
  refine lv_i2l (v := w.toInt64) hx hb dX7_tellSaying_14 rfl ?_
  refine lv_ldc2 (v := (10 : Int64)) hx hb hown (hts _ mg_585) dX7_tellSaying_15 ?_
  refine lv_ldc2 (v := (13 : Int64)) hx hb hown (hts _ mg_586) dX7_tellSaying_18 ?_
  have e1 : (w.toInt64 : Int64).toInt = w.toInt := (Int32.toInt_toInt64 _).trans rfl
  have e2 : ((10 : Int64) : Int64).toInt = 10 := (by decide)
  have e3 : ((13 : Int64) : Int64).toInt = 13 := (by decide)
  refine ro_iS (n := 3) (As := [.long w.toInt64, .long (10 : Int64), .long (13 : Int64)]) ⟨hx, hb, hml, hown, hts⟩ (c_X7_inF l D (w.toInt64) ((10 : Int64)) ((13 : Int64)) (fun z => by omega)) (cwS 3 hts (gS mg_534 mg_535 mg_8 mg_536) rfl rfl rfl vd_X7_in ⟨Nat.le_of_ble_eq_true rfl, Nat.le_of_ble_eq_true rfl⟩)  (hK.sub [] rfl) (fun k q h => by simp at h) rfl hl.1 rfl (Nat.le_of_ble_eq_true rfl) dX7_tellSaying_21 ⟨Nat.zero_le _, Nat.zero_le _⟩ ?_
  refine j_if_ne (tgt := 30) hx hb dX7_tellSaying_24 (by decide) (nI_toInt (by decide)) (fun c_2 => absurd c_2 (by omega)) (fun c_2 => ?_)
  refine lv_bipush (v := (-102)) hx hb dX7_tellSaying_27 (by decide) ?_
  exact ro_iret hx hb hr hlocks (rfl) dX7_tellSaying_29

set_option maxHeartbeats 4000000 in
set_option maxRecDepth 100000 in
theorem c_X7_tsI (l : Launch) (D : va_G) (h : Nat) (g : Nat → Nat) (cI : ClassId) (J : Nat → Int32) (hz : Int64) (G : Nat → Nat → Int32) (b : Nat → Nat → Nat) (q : RS) (hM : MR b q J G) (hb4 : ∀ v, v < 4 → b v 0 ≤ 4) (v : Nat) (hv : v < 4) (j : Nat) (hj : j < 4) : ROi l yX7_tellSaying (wA yX7_tellSaying cX7_tellSaying 3 (some .int)) ({ frames := 1, cells := 0, slots := 0, locals := 25 }) D (iTys cI) (mW h g cI J hz G) [.ref h, .int (nI v), .int (nI (10 + j))] (bta b v j) := by
  refine go_start (by decide) (Nat.le_of_ble_eq_true rfl) ?_
  intro p e s m args below meth c ls F _ hB hl
  obtain ⟨hx, hb, hr, hlocks, hml, hown, hts⟩ := F
  obtain ⟨hP, hK⟩ := hB
  have hown : s.vm.findClass RX7 = some m.cls := hown
  have hl : lv_has ls 3 [(0, .ref h), (1, .int (nI v)), (2, .int (nI (10 + j)))] := hl
  have hb5 := hb4 v hv
  refine lv_iload_n hx hb dX7_tellSaying_0 rfl (lv_at hl 2 rfl) ?_
  refine j_if_ne (tgt := 13) hx hb dX7_tellSaying_1 (by decide) (nI_toInt (by omega)) (fun c_1 => ?_) (fun c_1 => absurd c_1 (by omega))
  refine lv_iload_n hx hb dX7_tellSaying_13 rfl (lv_at hl 2 rfl) ?_
  refine lv_i2l (v := lN (10 + j)) hx hb dX7_tellSaying_14 (nI_l (by omega)) ?_
  refine lv_ldc2 (v := (10 : Int64)) hx hb hown (hts _ mg_585) dX7_tellSaying_15 ?_
  refine lv_ldc2 (v := (13 : Int64)) hx hb hown (hts _ mg_586) dX7_tellSaying_18 ?_
  have e1 : (lN (10 + j) : Int64).toInt = ((10 + j : Nat) : Int) := lN_toInt (by omega)
  have e2 : ((10 : Int64) : Int64).toInt = 10 := (by decide)
  have e3 : ((13 : Int64) : Int64).toInt = 13 := (by decide)
  refine ro_iS (n := 3) (As := [.long (lN (10 + j)), .long (10 : Int64), .long (13 : Int64)]) ⟨hx, hb, hml, hown, hts⟩ (c_X7_inT l D (lN (10 + j)) ((10 : Int64)) ((13 : Int64)) (by constructor <;> omega)) (cwS 3 hts (gS mg_534 mg_535 mg_8 mg_536) rfl rfl rfl vd_X7_in ⟨Nat.le_of_ble_eq_true rfl, Nat.le_of_ble_eq_true rfl⟩)  (hK.sub [] rfl) (fun k q h => by simp at h) rfl hl.1 rfl (Nat.le_of_ble_eq_true rfl) dX7_tellSaying_21 ⟨Nat.zero_le _, Nat.zero_le _⟩ ?_
  refine j_if_ne (tgt := 30) hx hb dX7_tellSaying_24 (by decide) (nI_toInt (by decide)) (fun c_2 => ?_) (fun c_2 => absurd c_2 (by omega))
  refine lv_iload_n hx hb dX7_tellSaying_30 rfl (lv_at hl 2 rfl) ?_
  refine lv_bipush (v := nI 10) hx hb dX7_tellSaying_31 (by decide) ?_
  refine n_isub hx hb dX7_tellSaying_33 (by omega) ?_
  refine lv_aload_n hx hb dX7_tellSaying_34 rfl (lv_at hl 0 rfl) ?_
  refine va_get (D := D) (ci := 7) (v := .ref (g 10)) (C := RX7) (T := TX7) (N := 22) hx hb hts iX7 hown hK hP 0 rfl rfl 10 (by decide) (hts _ mg_472) (fun _ h9 => h9) rfl dX7_tellSaying_35 ?_
  refine lv_iconst (v := nI 5) hx hb dX7_tellSaying_38 (by decide) ?_
  refine lv_iload_n hx hb dX7_tellSaying_39 rfl (lv_at hl 1 rfl) ?_
  refine n_imul hx hb dX7_tellSaying_40 ?_
  refine n_aldi hx hb hK hP 4 0 rfl rfl (by omega) (by decide) (v := nI (b v 0)) (MR_len hM (by omega)) dX7_tellSaying_41 ?_
  refine j_icmp_ge (tgt := 61) hx hb dX7_tellSaying_42 (by decide) (nI_toInt (by omega)) (nI_toInt (by omega)) (fun c_3 => ?_) (fun c_3 => ?_)
  · refine lv_iconst (v := (-1)) hx hb dX7_tellSaying_61 (by decide) ?_
    exact ro_iret hx hb hr hlocks (by rw [bta, if_neg (by omega)]) dX7_tellSaying_62
  · refine lv_aload_n hx hb dX7_tellSaying_45 rfl (lv_at hl 0 rfl) ?_
    refine va_get (D := D) (ci := 7) (v := .ref (g 10)) (C := RX7) (T := TX7) (N := 22) hx hb hts iX7 hown hK hP 0 rfl rfl 10 (by decide) (hts _ mg_472) (fun _ h9 => h9) rfl dX7_tellSaying_46 ?_
    refine lv_iconst (v := nI 5) hx hb dX7_tellSaying_49 (by decide) ?_
    refine lv_iload_n hx hb dX7_tellSaying_50 rfl (lv_at hl 1 rfl) ?_
    refine n_imul hx hb dX7_tellSaying_51 ?_
    refine lv_iload_n hx hb dX7_tellSaying_52 rfl (lv_at hl 2 rfl) ?_
    refine n_iadd hx hb dX7_tellSaying_53 ?_
    refine lv_bipush (v := nI 9) hx hb dX7_tellSaying_54 (by decide) ?_
    refine n_isub hx hb dX7_tellSaying_56 (by omega) ?_
    refine n_aldi hx hb hK hP 4 0 rfl rfl (by omega) (by decide) (v := nI (b v (1 + j))) (by rw [show ((5 * v) + (10 + j)) - 9 = 5 * v + 1 + j by omega]; exact MR_beat hM hv (by omega)) dX7_tellSaying_57 ?_
    refine lv_goto (tgt := 62) hx hb dX7_tellSaying_58 (by decide) ?_
    exact ro_iret hx hb hr hlocks (by rw [bta, if_pos (by omega)]) dX7_tellSaying_62

set_option maxHeartbeats 4000000 in
set_option maxRecDepth 100000 in
theorem c_X7_sumAt2 (l : Launch) (D : va_G) (h : Nat) (g : Nat → Nat) (cI : ClassId) (J : Nat → Int32) (hz : Int64) (G : Nat → Nat → Int32) (b : Nat → Nat → Nat) (q : RS) (hM : MR b q J G) (hb4 : ∀ v, v < 4 → b v 0 ≤ 4) (h5 : q.1 ≤ 5) : ROi l yX7_sumAt (wA yX7_sumAt cX7_sumAt 4 (some .int)) ({ frames := 0, cells := 0, slots := 0, locals := 0 }) D (iTys cI) (mW h g cI J hz G) [.ref h, .int (nI 2)] (nI (smu (fun i => q.2.2.2.1 i 2) q.1)) := by
  refine go_start (by decide) (Nat.le_of_ble_eq_true rfl) ?_
  intro p e s m args below meth c ls F _ hB hl
  obtain ⟨hx, hb, hr, hlocks, hml, hown, hts⟩ := F
  obtain ⟨hP, hK⟩ := hB
  have hown : s.vm.findClass RX7 = some m.cls := hown
  have hl : lv_has ls 4 [(0, .ref h), (1, .int (nI 2))] := hl
  refine lv_iconst (v := nI 0) hx hb dX7_sumAt_0 (by decide) ?_
  refine lv_istore_n (lv' := [(2, .int (nI 0)), (0, .ref h), (1, .int (nI 2))]) hx hb dX7_sumAt_1 rfl hl (by decide) rfl (fun ls hl => ?_)
  refine lv_iconst (v := nI 0) hx hb dX7_sumAt_2 (by decide) ?_
  refine lv_istore_n (lv' := [(3, .int (nI 0)), (2, .int (nI 0)), (0, .ref h), (1, .int (nI 2))]) hx hb dX7_sumAt_3 rfl hl (by decide) rfl (fun ls hl => ?_)
  have K_1 : ∀ n9 : Nat, ∀ (t : Nat) (i : Nat), i ≤ q.1 → t = smu (fun i => q.2.2.2.1 i 2) i → q.1 - i < n9 → ∀ ls : Array Slot, lv_has ls 4 [(0, .ref h), (1, .int (nI 2)), (2, .int (nI t)), (3, .int (nI i))] → W p l e (headSpec (wA yX7_sumAt cX7_sumAt 4 (some .int)) ({ frames := 0, cells := 0, slots := 0, locals := 0 })).room s m args below meth c s.heap [] 0 0 (MQ below (vp_Si (fun z9 => z9 = nI (smu (fun i => q.2.2.2.1 i 2) q.1))) args s 0 0 (fun _ => False)) (F0 m 4 ls []) := by
    intro n9
    induction n9 with
    | zero => intros; omega
    | succ n9 ih_2 =>
      intro t i hi ht0 hn9 ls hl
      refine lv_iload_n hx hb dX7_sumAt_4 rfl (lv_at hl 3 rfl) ?_
      refine lv_aload_n hx hb dX7_sumAt_5 rfl (lv_at hl 0 rfl) ?_
      refine va_get (D := D) (ci := 7) (v := .int (nI q.1)) (C := RX7) (T := TX7) (N := 22) hx hb hts iX7 hown hK hP 0 rfl rfl 7 (by decide) (hts _ mg_469) (fun _ h9 => h9) (congrArg (fun z => some (Value.int z)) (MR_7 hM)) dX7_sumAt_6 ?_
      refine j_icmp_ge (tgt := 31) hx hb dX7_sumAt_9 (by decide) (nI_toInt (by omega)) (nI_toInt (by omega)) (fun c_3 => ?_) (fun c_3 => ?_)
      · refine lv_iload_n hx hb dX7_sumAt_31 rfl (lv_at hl 2 rfl) ?_
        exact ro_iret hx hb hr hlocks (by rw [ht0, show i = q.1 by omega]) dX7_sumAt_32
      · refine lv_iload_n hx hb dX7_sumAt_12 rfl (lv_at hl 2 rfl) ?_
        refine lv_aload_n hx hb dX7_sumAt_13 rfl (lv_at hl 0 rfl) ?_
        refine va_get (D := D) (ci := 7) (v := .ref (g 11)) (C := RX7) (T := TX7) (N := 22) hx hb hts iX7 hown hK hP 0 rfl rfl 11 (by decide) (hts _ mg_473) (fun _ h9 => h9) rfl dX7_sumAt_14 ?_
        refine lv_iconst (v := nI 4) hx hb dX7_sumAt_17 (by decide) ?_
        refine lv_iload_n hx hb dX7_sumAt_18 rfl (lv_at hl 3 rfl) ?_
        refine n_imul hx hb dX7_sumAt_19 ?_
        refine lv_iload_n hx hb dX7_sumAt_20 rfl (lv_at hl 1 rfl) ?_
        refine n_iadd hx hb dX7_sumAt_21 ?_
        refine n_aldi hx hb hK hP 5 0 rfl rfl (by omega) (by decide) (v := nI (q.2.2.2.1 i 2)) (MR_row hM (by omega) (by omega)) dX7_sumAt_22 ?_
        refine n_iadd hx hb dX7_sumAt_23 ?_
        refine lv_istore_n (lv' := [(2, .int (nI (t + (q.2.2.2.1 i 2)))), (0, .ref h), (1, .int (nI 2)), (3, .int (nI i))]) hx hb dX7_sumAt_24 rfl hl (by decide) rfl (fun ls hl => ?_)
        refine lv_iinc (v := nI (i + 1)) (lv' := [(3, .int (nI (i + 1))), (2, .int (nI (t + (q.2.2.2.1 i 2)))), (0, .ref h), (1, .int (nI 2))]) hx hb dX7_sumAt_25 hl (k := 3) rfl (fr_inc1 _) (by decide) rfl (fun ls hl => ?_)
        refine lv_goto (tgt := 4) hx hb dX7_sumAt_28 (by decide) ?_
        exact ih_2 (t + (q.2.2.2.1 i 2)) (i + 1) (by omega) (by rw [ht0]; rfl) (by omega) _ (lv_sub hl [2, 3, 1, 0] rfl)
  exact K_1 (q.1 - 0 + 1) 0 0 (by omega) (rfl) (Nat.lt_succ_self _) _ (lv_sub hl [2, 3, 1, 0] rfl)

set_option maxHeartbeats 4000000 in
set_option maxRecDepth 100000 in
theorem c_X7_sumAt3 (l : Launch) (D : va_G) (h : Nat) (g : Nat → Nat) (cI : ClassId) (J : Nat → Int32) (hz : Int64) (G : Nat → Nat → Int32) (b : Nat → Nat → Nat) (q : RS) (hM : MR b q J G) (hb4 : ∀ v, v < 4 → b v 0 ≤ 4) (h5 : q.1 ≤ 5) : ROi l yX7_sumAt (wA yX7_sumAt cX7_sumAt 4 (some .int)) ({ frames := 0, cells := 0, slots := 0, locals := 0 }) D (iTys cI) (mW h g cI J hz G) [.ref h, .int (nI 3)] (nI (smu (fun i => q.2.2.2.1 i 3) q.1)) := by
  refine go_start (by decide) (Nat.le_of_ble_eq_true rfl) ?_
  intro p e s m args below meth c ls F _ hB hl
  obtain ⟨hx, hb, hr, hlocks, hml, hown, hts⟩ := F
  obtain ⟨hP, hK⟩ := hB
  have hown : s.vm.findClass RX7 = some m.cls := hown
  have hl : lv_has ls 4 [(0, .ref h), (1, .int (nI 3))] := hl
  refine lv_iconst (v := nI 0) hx hb dX7_sumAt_0 (by decide) ?_
  refine lv_istore_n (lv' := [(2, .int (nI 0)), (0, .ref h), (1, .int (nI 3))]) hx hb dX7_sumAt_1 rfl hl (by decide) rfl (fun ls hl => ?_)
  refine lv_iconst (v := nI 0) hx hb dX7_sumAt_2 (by decide) ?_
  refine lv_istore_n (lv' := [(3, .int (nI 0)), (2, .int (nI 0)), (0, .ref h), (1, .int (nI 3))]) hx hb dX7_sumAt_3 rfl hl (by decide) rfl (fun ls hl => ?_)
  have K_1 : ∀ n9 : Nat, ∀ (t : Nat) (i : Nat), i ≤ q.1 → t = smu (fun i => q.2.2.2.1 i 3) i → q.1 - i < n9 → ∀ ls : Array Slot, lv_has ls 4 [(0, .ref h), (1, .int (nI 3)), (2, .int (nI t)), (3, .int (nI i))] → W p l e (headSpec (wA yX7_sumAt cX7_sumAt 4 (some .int)) ({ frames := 0, cells := 0, slots := 0, locals := 0 })).room s m args below meth c s.heap [] 0 0 (MQ below (vp_Si (fun z9 => z9 = nI (smu (fun i => q.2.2.2.1 i 3) q.1))) args s 0 0 (fun _ => False)) (F0 m 4 ls []) := by
    intro n9
    induction n9 with
    | zero => intros; omega
    | succ n9 ih_2 =>
      intro t i hi ht0 hn9 ls hl
      refine lv_iload_n hx hb dX7_sumAt_4 rfl (lv_at hl 3 rfl) ?_
      refine lv_aload_n hx hb dX7_sumAt_5 rfl (lv_at hl 0 rfl) ?_
      refine va_get (D := D) (ci := 7) (v := .int (nI q.1)) (C := RX7) (T := TX7) (N := 22) hx hb hts iX7 hown hK hP 0 rfl rfl 7 (by decide) (hts _ mg_469) (fun _ h9 => h9) (congrArg (fun z => some (Value.int z)) (MR_7 hM)) dX7_sumAt_6 ?_
      refine j_icmp_ge (tgt := 31) hx hb dX7_sumAt_9 (by decide) (nI_toInt (by omega)) (nI_toInt (by omega)) (fun c_3 => ?_) (fun c_3 => ?_)
      · refine lv_iload_n hx hb dX7_sumAt_31 rfl (lv_at hl 2 rfl) ?_
        exact ro_iret hx hb hr hlocks (by rw [ht0, show i = q.1 by omega]) dX7_sumAt_32
      · refine lv_iload_n hx hb dX7_sumAt_12 rfl (lv_at hl 2 rfl) ?_
        refine lv_aload_n hx hb dX7_sumAt_13 rfl (lv_at hl 0 rfl) ?_
        refine va_get (D := D) (ci := 7) (v := .ref (g 11)) (C := RX7) (T := TX7) (N := 22) hx hb hts iX7 hown hK hP 0 rfl rfl 11 (by decide) (hts _ mg_473) (fun _ h9 => h9) rfl dX7_sumAt_14 ?_
        refine lv_iconst (v := nI 4) hx hb dX7_sumAt_17 (by decide) ?_
        refine lv_iload_n hx hb dX7_sumAt_18 rfl (lv_at hl 3 rfl) ?_
        refine n_imul hx hb dX7_sumAt_19 ?_
        refine lv_iload_n hx hb dX7_sumAt_20 rfl (lv_at hl 1 rfl) ?_
        refine n_iadd hx hb dX7_sumAt_21 ?_
        refine n_aldi hx hb hK hP 5 0 rfl rfl (by omega) (by decide) (v := nI (q.2.2.2.1 i 3)) (MR_row hM (by omega) (by omega)) dX7_sumAt_22 ?_
        refine n_iadd hx hb dX7_sumAt_23 ?_
        refine lv_istore_n (lv' := [(2, .int (nI (t + (q.2.2.2.1 i 3)))), (0, .ref h), (1, .int (nI 3)), (3, .int (nI i))]) hx hb dX7_sumAt_24 rfl hl (by decide) rfl (fun ls hl => ?_)
        refine lv_iinc (v := nI (i + 1)) (lv' := [(3, .int (nI (i + 1))), (2, .int (nI (t + (q.2.2.2.1 i 3)))), (0, .ref h), (1, .int (nI 3))]) hx hb dX7_sumAt_25 hl (k := 3) rfl (fr_inc1 _) (by decide) rfl (fun ls hl => ?_)
        refine lv_goto (tgt := 4) hx hb dX7_sumAt_28 (by decide) ?_
        exact ih_2 (t + (q.2.2.2.1 i 3)) (i + 1) (by omega) (by rw [ht0]; rfl) (by omega) _ (lv_sub hl [2, 3, 1, 0] rfl)
  exact K_1 (q.1 - 0 + 1) 0 0 (by omega) (rfl) (Nat.lt_succ_self _) _ (lv_sub hl [2, 3, 1, 0] rfl)

set_option maxHeartbeats 4000000 in
set_option maxRecDepth 100000 in
theorem c_X7_beatsAll0 (l : Launch) (D : va_G) (h : Nat) (g : Nat → Nat) (cI : ClassId) (J : Nat → Int32) (hz : Int64) (G : Nat → Nat → Int32) (b : Nat → Nat → Nat) (q : RS) (hM : MR b q J G) (hb4 : ∀ v, v < 4 → b v 0 ≤ 4) (hbz : q.1 = 0 → ∀ v, v < 4 → b v 0 = 0) (h5 : q.1 ≤ 5) (h0 : q.1 = 0) : ROi l yX7_beatsAll (wA yX7_beatsAll cX7_beatsAll 3 (some .int)) ({ frames := 1, cells := 0, slots := 0, locals := 20 }) D (iTys cI) (mW h g cI J hz G) [.ref h] (nI (smu (fun v => b v 0) 4)) := by
  refine go_start (by decide) (Nat.le_of_ble_eq_true rfl) ?_
  intro p e s m args below meth c ls F _ hB hl
  obtain ⟨hx, hb, hr, hlocks, hml, hown, hts⟩ := F
  obtain ⟨hP, hK⟩ := hB
  have hown : s.vm.findClass RX7 = some m.cls := hown
  have hl : lv_has ls 3 [(0, .ref h)] := hl
  refine lv_iconst (v := nI 0) hx hb dX7_beatsAll_0 (by decide) ?_
  refine lv_istore_n (lv' := [(1, .int (nI 0)), (0, .ref h)]) hx hb dX7_beatsAll_1 rfl hl (by decide) rfl (fun ls hl => ?_)
  refine lv_iconst (v := nI 0) hx hb dX7_beatsAll_2 (by decide) ?_
  refine lv_istore_n (lv' := [(2, .int (nI 0)), (1, .int (nI 0)), (0, .ref h)]) hx hb dX7_beatsAll_3 rfl hl (by decide) rfl (fun ls hl => ?_)
  refine lv_iload_n hx hb dX7_beatsAll_4 rfl (lv_at hl 0 rfl) ?_
  refine lv_iconst (v := nI 4) hx hb dX7_beatsAll_5 (by decide) ?_
  refine j_icmp_ge (tgt := 33) hx hb dX7_beatsAll_6 (by decide) (nI_toInt (by decide)) (nI_toInt (by decide)) (fun c_1 => absurd c_1 (by omega)) (fun c_1 => ?_)
  refine lv_aload_n hx hb dX7_beatsAll_9 rfl (lv_at hl 2 rfl) ?_
  refine ro_iV (n := 0) (As := []) ⟨hx, hb, hml, hown, hts⟩ (c_X7_lacksT l D h g cI J hz G q b hM h5 h0) (cwV 0 hts (gV mg_573 mg_575 mg_1020 mg_8 mg_576) rfl rfl rfl vd_X7_lacks ⟨Nat.le_of_ble_eq_true rfl, Nat.le_of_ble_eq_true rfl⟩) (va_recv hK hP (ci := 7) (q0 := 0) rfl rfl) hK hP rfl hl.1 rfl (Nat.le_of_ble_eq_true rfl) dX7_beatsAll_10 ⟨Nat.zero_le _, Nat.zero_le _⟩ ?_
  refine j_if_ne (tgt := 33) hx hb dX7_beatsAll_13 (by decide) (nI_toInt (by decide)) (fun c_2 => ?_) (fun c_2 => absurd c_2 (by omega))
  refine lv_iload_n hx hb dX7_beatsAll_33 rfl (lv_at hl 1 rfl) ?_
  exact ro_iret hx hb hr hlocks (congrArg nI (by have h1 := hbz h0 0 (by decide); have h2 := hbz h0 1 (by decide); have h3 := hbz h0 2 (by decide); have h4 := hbz h0 3 (by decide); show 0 = 0 + b 0 0 + b 1 0 + b 2 0 + b 3 0; omega)) dX7_beatsAll_34

set_option maxHeartbeats 4000000 in
set_option maxRecDepth 100000 in
theorem c_X7_beatsAll1 (l : Launch) (D : va_G) (h : Nat) (g : Nat → Nat) (cI : ClassId) (J : Nat → Int32) (hz : Int64) (G : Nat → Nat → Int32) (b : Nat → Nat → Nat) (q : RS) (hM : MR b q J G) (hb4 : ∀ v, v < 4 → b v 0 ≤ 4) (hbz : q.1 = 0 → ∀ v, v < 4 → b v 0 = 0) (h5 : q.1 ≤ 5) (h0 : ¬ q.1 = 0) : ROi l yX7_beatsAll (wA yX7_beatsAll cX7_beatsAll 3 (some .int)) ({ frames := 1, cells := 0, slots := 0, locals := 20 }) D (iTys cI) (mW h g cI J hz G) [.ref h] (nI (smu (fun v => b v 0) 4)) := by
  refine go_start (by decide) (Nat.le_of_ble_eq_true rfl) ?_
  intro p e s m args below meth c ls F _ hB hl
  obtain ⟨hx, hb, hr, hlocks, hml, hown, hts⟩ := F
  obtain ⟨hP, hK⟩ := hB
  have hown : s.vm.findClass RX7 = some m.cls := hown
  have hl : lv_has ls 3 [(0, .ref h)] := hl
  refine lv_iconst (v := nI 0) hx hb dX7_beatsAll_0 (by decide) ?_
  refine lv_istore_n (lv' := [(1, .int (nI 0)), (0, .ref h)]) hx hb dX7_beatsAll_1 rfl hl (by decide) rfl (fun ls hl => ?_)
  refine lv_iconst (v := nI 0) hx hb dX7_beatsAll_2 (by decide) ?_
  refine lv_istore_n (lv' := [(2, .int (nI 0)), (1, .int (nI 0)), (0, .ref h)]) hx hb dX7_beatsAll_3 rfl hl (by decide) rfl (fun ls hl => ?_)
  have K_1 : ∀ n9 : Nat, ∀ (t : Nat) (v : Nat), v ≤ 4 → t = smu (fun v => b v 0) v → 4 - v < n9 → ∀ ls : Array Slot, lv_has ls 3 [(0, .ref h), (1, .int (nI t)), (2, .int (nI v))] → W p l e (headSpec (wA yX7_beatsAll cX7_beatsAll 3 (some .int)) ({ frames := 1, cells := 0, slots := 0, locals := 20 })).room s m args below meth c s.heap [] 0 0 (MQ below (vp_Si (fun z9 => z9 = nI (smu (fun v => b v 0) 4))) args s 0 0 (fun _ => False)) (F0 m 4 ls []) := by
    intro n9
    induction n9 with
    | zero => intros; omega
    | succ n9 ih_2 =>
      intro t v hv ht0 hn9 ls hl
      refine lv_iload_n hx hb dX7_beatsAll_4 rfl (lv_at hl 2 rfl) ?_
      refine lv_iconst (v := nI 4) hx hb dX7_beatsAll_5 (by decide) ?_
      refine j_icmp_ge (tgt := 33) hx hb dX7_beatsAll_6 (by decide) (nI_toInt (by omega)) (nI_toInt (by decide)) (fun c_3 => ?_) (fun c_3 => ?_)
      · refine lv_iload_n hx hb dX7_beatsAll_33 rfl (lv_at hl 1 rfl) ?_
        exact ro_iret hx hb hr hlocks (by rw [ht0, show v = 4 by omega]) dX7_beatsAll_34
      · refine lv_aload_n hx hb dX7_beatsAll_9 rfl (lv_at hl 0 rfl) ?_
        refine ro_iV (n := 0) (As := []) ⟨hx, hb, hml, hown, hts⟩ (c_X7_lacksF l D h g cI J hz G q b hM h5 h0) (cwV 0 hts (gV mg_573 mg_575 mg_1020 mg_8 mg_576) rfl rfl rfl vd_X7_lacks ⟨Nat.le_of_ble_eq_true rfl, Nat.le_of_ble_eq_true rfl⟩) (va_recv hK hP (ci := 7) (q0 := 0) rfl rfl) hK hP rfl hl.1 rfl (Nat.le_of_ble_eq_true rfl) dX7_beatsAll_10 ⟨Nat.zero_le _, Nat.zero_le _⟩ ?_
        refine j_if_ne (tgt := 33) hx hb dX7_beatsAll_13 (by decide) (nI_toInt (by decide)) (fun c_4 => absurd c_4 (by omega)) (fun c_4 => ?_)
        refine lv_iload_n hx hb dX7_beatsAll_16 rfl (lv_at hl 1 rfl) ?_
        refine lv_aload_n hx hb dX7_beatsAll_17 rfl (lv_at hl 0 rfl) ?_
        refine va_get (D := D) (ci := 7) (v := .ref (g 10)) (C := RX7) (T := TX7) (N := 22) hx hb hts iX7 hown hK hP 0 rfl rfl 10 (by decide) (hts _ mg_472) (fun _ h9 => h9) rfl dX7_beatsAll_18 ?_
        refine lv_iconst (v := nI 5) hx hb dX7_beatsAll_21 (by decide) ?_
        refine lv_iload_n hx hb dX7_beatsAll_22 rfl (lv_at hl 2 rfl) ?_
        refine n_imul hx hb dX7_beatsAll_23 ?_
        refine n_aldi hx hb hK hP 4 0 rfl rfl (by omega) (by decide) (v := nI (b v 0)) (MR_len hM (by omega)) dX7_beatsAll_24 ?_
        refine n_iadd hx hb dX7_beatsAll_25 ?_
        refine lv_istore_n (lv' := [(1, .int (nI (t + (b v 0)))), (0, .ref h), (2, .int (nI v))]) hx hb dX7_beatsAll_26 rfl hl (by decide) rfl (fun ls hl => ?_)
        refine lv_iinc (v := nI (v + 1)) (lv' := [(2, .int (nI (v + 1))), (1, .int (nI (t + (b v 0)))), (0, .ref h)]) hx hb dX7_beatsAll_27 hl (k := 2) rfl (fr_inc1 _) (by decide) rfl (fun ls hl => ?_)
        refine lv_goto (tgt := 4) hx hb dX7_beatsAll_30 (by decide) ?_
        exact ih_2 (t + (b v 0)) (v + 1) (by omega) (by rw [ht0]; rfl) (by omega) _ (lv_sub hl [2, 1, 0] rfl)
  exact K_1 (4 - 0 + 1) 0 0 (by omega) (rfl) (Nat.lt_succ_self _) _ (lv_sub hl [2, 1, 0] rfl)

theorem c_X7_beatsAll (l : Launch) (D : va_G) (h : Nat) (g : Nat → Nat) (cI : ClassId) (J : Nat → Int32) (hz : Int64) (G : Nat → Nat → Int32) (b : Nat → Nat → Nat) (q : RS) (hM : MR b q J G) (hb4 : ∀ v, v < 4 → b v 0 ≤ 4) (hbz : q.1 = 0 → ∀ v, v < 4 → b v 0 = 0) (h5 : q.1 ≤ 5) : ROi l yX7_beatsAll (wA yX7_beatsAll cX7_beatsAll 3 (some .int)) ({ frames := 1, cells := 0, slots := 0, locals := 20 }) D (iTys cI) (mW h g cI J hz G) [.ref h] (nI (smu (fun v => b v 0) 4)) := by
  by_cases h0 : q.1 = 0
  · exact c_X7_beatsAll0 l D h g cI J hz G b q hM hb4 hbz h5 h0
  · exact c_X7_beatsAll1 l D h g cI J hz G b q hM hb4 hbz h5 h0

set_option maxHeartbeats 4000000 in
set_option maxRecDepth 100000 in
theorem c_X7_cto0 (l : Launch) (D : va_G) (h : Nat) (g : Nat → Nat) (cI : ClassId) (J : Nat → Int32) (hz : Int64) (G : Nat → Nat → Int32) (b : Nat → Nat → Nat) (q : RS) (hM : MR b q J G) (hb4 : ∀ v, v < 4 → b v 0 ≤ 4) (hbz : q.1 = 0 → ∀ v, v < 4 → b v 0 = 0) (h5 : q.1 ≤ 5) (pn xr : Nat) (hpn : J 1 = nI pn) (hxr : J 9 = nI xr) : ROi l yX7_countOf (wA yX7_countOf cX7_countOf 2 (some .int)) ({ frames := 2, cells := 0, slots := 0, locals := 42 }) D (iTys cI) (mW h g cI J hz G) [.ref h, .int (nI 0)] (cto b q pn xr 0) := by
  refine go_start (by decide) (Nat.le_of_ble_eq_true rfl) ?_
  intro p e s m args below meth c ls F _ hB hl
  obtain ⟨hx, hb, hr, hlocks, hml, hown, hts⟩ := F
  obtain ⟨hP, hK⟩ := hB
  have hown : s.vm.findClass RX7 = some m.cls := hown
  have hl : lv_has ls 2 [(0, .ref h), (1, .int (nI 0))] := hl
  refine lv_iload_n hx hb dX7_countOf_0 rfl (lv_at hl 1 rfl) ?_
  refine lv_tableIn (off := 47) (tgt := 48) hx hb dX7_countOf_1 (by rw [show (nI 0).toInt = 0 from by first | decide | (rw [nI_toInt (by decide)]; omega)]; decide) (by rw [show (nI 0).toInt = 0 from by first | decide | (rw [nI_toInt (by decide)]; omega)]; decide) (by rw [show (nI 0).toInt = 0 from by first | decide | (rw [nI_toInt (by decide)]; omega)]; rfl) (by decide) ?_
  refine lv_aload_n hx hb dX7_countOf_48 rfl (lv_at hl 0 rfl) ?_
  refine va_get (D := D) (ci := 7) (v := .int (nI q.1)) (C := RX7) (T := TX7) (N := 22) hx hb hts iX7 hown hK hP 0 rfl rfl 7 (by decide) (hts _ mg_469) (fun _ h9 => h9) (congrArg (fun z => some (Value.int z)) (MR_7 hM)) dX7_countOf_49 ?_
  exact ro_iret hx hb hr hlocks (cto_0.symm) dX7_countOf_52

set_option maxHeartbeats 4000000 in
set_option maxRecDepth 100000 in
theorem c_X7_cto1 (l : Launch) (D : va_G) (h : Nat) (g : Nat → Nat) (cI : ClassId) (J : Nat → Int32) (hz : Int64) (G : Nat → Nat → Int32) (b : Nat → Nat → Nat) (q : RS) (hM : MR b q J G) (hb4 : ∀ v, v < 4 → b v 0 ≤ 4) (hbz : q.1 = 0 → ∀ v, v < 4 → b v 0 = 0) (h5 : q.1 ≤ 5) (pn xr : Nat) (hpn : J 1 = nI pn) (hxr : J 9 = nI xr) : ROi l yX7_countOf (wA yX7_countOf cX7_countOf 2 (some .int)) ({ frames := 2, cells := 0, slots := 0, locals := 42 }) D (iTys cI) (mW h g cI J hz G) [.ref h, .int (nI 1)] (cto b q pn xr 1) := by
  refine go_start (by decide) (Nat.le_of_ble_eq_true rfl) ?_
  intro p e s m args below meth c ls F _ hB hl
  obtain ⟨hx, hb, hr, hlocks, hml, hown, hts⟩ := F
  obtain ⟨hP, hK⟩ := hB
  have hown : s.vm.findClass RX7 = some m.cls := hown
  have hl : lv_has ls 2 [(0, .ref h), (1, .int (nI 1))] := hl
  refine lv_iload_n hx hb dX7_countOf_0 rfl (lv_at hl 1 rfl) ?_
  refine lv_tableIn (off := 52) (tgt := 53) hx hb dX7_countOf_1 (by rw [show (nI 1).toInt = 1 from by first | decide | (rw [nI_toInt (by decide)]; omega)]; decide) (by rw [show (nI 1).toInt = 1 from by first | decide | (rw [nI_toInt (by decide)]; omega)]; decide) (by rw [show (nI 1).toInt = 1 from by first | decide | (rw [nI_toInt (by decide)]; omega)]; rfl) (by decide) ?_
  refine lv_aload_n hx hb dX7_countOf_53 rfl (lv_at hl 0 rfl) ?_
  refine ro_iV (n := 0) (As := []) ⟨hx, hb, hml, hown, hts⟩ (c_X7_beatsAll l D h g cI J hz G b q hM hb4 hbz h5) (cwV 0 hts (gV mg_720 mg_722 mg_1038 mg_8 mg_723) rfl rfl rfl vd_X7_beatsAll ⟨Nat.le_of_ble_eq_true rfl, Nat.le_of_ble_eq_true rfl⟩) (va_recv hK hP (ci := 7) (q0 := 0) rfl rfl) hK hP rfl hl.1 rfl (Nat.le_of_ble_eq_true rfl) dX7_countOf_54 ⟨Nat.zero_le _, Nat.zero_le _⟩ ?_
  exact ro_iret hx hb hr hlocks (cto_1.symm) dX7_countOf_57

set_option maxHeartbeats 4000000 in
set_option maxRecDepth 100000 in
theorem c_X7_cto2 (l : Launch) (D : va_G) (h : Nat) (g : Nat → Nat) (cI : ClassId) (J : Nat → Int32) (hz : Int64) (G : Nat → Nat → Int32) (b : Nat → Nat → Nat) (q : RS) (hM : MR b q J G) (hb4 : ∀ v, v < 4 → b v 0 ≤ 4) (hbz : q.1 = 0 → ∀ v, v < 4 → b v 0 = 0) (h5 : q.1 ≤ 5) (pn xr : Nat) (hpn : J 1 = nI pn) (hxr : J 9 = nI xr) : ROi l yX7_countOf (wA yX7_countOf cX7_countOf 2 (some .int)) ({ frames := 2, cells := 0, slots := 0, locals := 42 }) D (iTys cI) (mW h g cI J hz G) [.ref h, .int (nI 2)] (cto b q pn xr 2) := by
  refine go_start (by decide) (Nat.le_of_ble_eq_true rfl) ?_
  intro p e s m args below meth c ls F _ hB hl
  obtain ⟨hx, hb, hr, hlocks, hml, hown, hts⟩ := F
  obtain ⟨hP, hK⟩ := hB
  have hown : s.vm.findClass RX7 = some m.cls := hown
  have hl : lv_has ls 2 [(0, .ref h), (1, .int (nI 2))] := hl
  refine lv_iload_n hx hb dX7_countOf_0 rfl (lv_at hl 1 rfl) ?_
  refine lv_tableIn (off := 57) (tgt := 58) hx hb dX7_countOf_1 (by rw [show (nI 2).toInt = 2 from by first | decide | (rw [nI_toInt (by decide)]; omega)]; decide) (by rw [show (nI 2).toInt = 2 from by first | decide | (rw [nI_toInt (by decide)]; omega)]; decide) (by rw [show (nI 2).toInt = 2 from by first | decide | (rw [nI_toInt (by decide)]; omega)]; rfl) (by decide) ?_
  refine lv_aload_n hx hb dX7_countOf_58 rfl (lv_at hl 0 rfl) ?_
  refine lv_iconst (v := nI 2) hx hb dX7_countOf_59 (by decide) ?_
  refine ro_iV (n := 1) (As := [.int (nI 2)]) ⟨hx, hb, hml, hown, hts⟩ (c_X7_sumAt2 l D h g cI J hz G b q hM hb4 h5) (cwV 1 hts (gV mg_724 mg_726 mg_1039 mg_8 mg_727) rfl rfl rfl vd_X7_sumAt ⟨Nat.le_of_ble_eq_true rfl, Nat.le_of_ble_eq_true rfl⟩) (va_recv hK hP (ci := 7) (q0 := 0) rfl rfl) hK hP rfl hl.1 rfl (Nat.le_of_ble_eq_true rfl) dX7_countOf_60 ⟨Nat.zero_le _, Nat.zero_le _⟩ ?_
  exact ro_iret hx hb hr hlocks (cto_2.symm) dX7_countOf_63

set_option maxHeartbeats 4000000 in
set_option maxRecDepth 100000 in
theorem c_X7_cto3 (l : Launch) (D : va_G) (h : Nat) (g : Nat → Nat) (cI : ClassId) (J : Nat → Int32) (hz : Int64) (G : Nat → Nat → Int32) (b : Nat → Nat → Nat) (q : RS) (hM : MR b q J G) (hb4 : ∀ v, v < 4 → b v 0 ≤ 4) (hbz : q.1 = 0 → ∀ v, v < 4 → b v 0 = 0) (h5 : q.1 ≤ 5) (pn xr : Nat) (hpn : J 1 = nI pn) (hxr : J 9 = nI xr) : ROi l yX7_countOf (wA yX7_countOf cX7_countOf 2 (some .int)) ({ frames := 2, cells := 0, slots := 0, locals := 42 }) D (iTys cI) (mW h g cI J hz G) [.ref h, .int (nI 3)] (cto b q pn xr 3) := by
  refine go_start (by decide) (Nat.le_of_ble_eq_true rfl) ?_
  intro p e s m args below meth c ls F _ hB hl
  obtain ⟨hx, hb, hr, hlocks, hml, hown, hts⟩ := F
  obtain ⟨hP, hK⟩ := hB
  have hown : s.vm.findClass RX7 = some m.cls := hown
  have hl : lv_has ls 2 [(0, .ref h), (1, .int (nI 3))] := hl
  refine lv_iload_n hx hb dX7_countOf_0 rfl (lv_at hl 1 rfl) ?_
  refine lv_tableIn (off := 63) (tgt := 64) hx hb dX7_countOf_1 (by rw [show (nI 3).toInt = 3 from by first | decide | (rw [nI_toInt (by decide)]; omega)]; decide) (by rw [show (nI 3).toInt = 3 from by first | decide | (rw [nI_toInt (by decide)]; omega)]; decide) (by rw [show (nI 3).toInt = 3 from by first | decide | (rw [nI_toInt (by decide)]; omega)]; rfl) (by decide) ?_
  refine lv_aload_n hx hb dX7_countOf_64 rfl (lv_at hl 0 rfl) ?_
  refine lv_iconst (v := nI 3) hx hb dX7_countOf_65 (by decide) ?_
  refine ro_iV (n := 1) (As := [.int (nI 3)]) ⟨hx, hb, hml, hown, hts⟩ (c_X7_sumAt3 l D h g cI J hz G b q hM hb4 h5) (cwV 1 hts (gV mg_724 mg_726 mg_1039 mg_8 mg_727) rfl rfl rfl vd_X7_sumAt ⟨Nat.le_of_ble_eq_true rfl, Nat.le_of_ble_eq_true rfl⟩) (va_recv hK hP (ci := 7) (q0 := 0) rfl rfl) hK hP rfl hl.1 rfl (Nat.le_of_ble_eq_true rfl) dX7_countOf_66 ⟨Nat.zero_le _, Nat.zero_le _⟩ ?_
  exact ro_iret hx hb hr hlocks (cto_3.symm) dX7_countOf_69

set_option maxHeartbeats 4000000 in
set_option maxRecDepth 100000 in
theorem c_X7_cto4 (l : Launch) (D : va_G) (h : Nat) (g : Nat → Nat) (cI : ClassId) (J : Nat → Int32) (hz : Int64) (G : Nat → Nat → Int32) (b : Nat → Nat → Nat) (q : RS) (hM : MR b q J G) (hb4 : ∀ v, v < 4 → b v 0 ≤ 4) (hbz : q.1 = 0 → ∀ v, v < 4 → b v 0 = 0) (h5 : q.1 ≤ 5) (pn xr : Nat) (hpn : J 1 = nI pn) (hxr : J 9 = nI xr) : ROi l yX7_countOf (wA yX7_countOf cX7_countOf 2 (some .int)) ({ frames := 2, cells := 0, slots := 0, locals := 42 }) D (iTys cI) (mW h g cI J hz G) [.ref h, .int (nI 4)] (cto b q pn xr 4) := by
  refine go_start (by decide) (Nat.le_of_ble_eq_true rfl) ?_
  intro p e s m args below meth c ls F _ hB hl
  obtain ⟨hx, hb, hr, hlocks, hml, hown, hts⟩ := F
  obtain ⟨hP, hK⟩ := hB
  have hown : s.vm.findClass RX7 = some m.cls := hown
  have hl : lv_has ls 2 [(0, .ref h), (1, .int (nI 4))] := hl
  refine lv_iload_n hx hb dX7_countOf_0 rfl (lv_at hl 1 rfl) ?_
  refine lv_tableIn (off := 69) (tgt := 70) hx hb dX7_countOf_1 (by rw [show (nI 4).toInt = 4 from by first | decide | (rw [nI_toInt (by decide)]; omega)]; decide) (by rw [show (nI 4).toInt = 4 from by first | decide | (rw [nI_toInt (by decide)]; omega)]; decide) (by rw [show (nI 4).toInt = 4 from by first | decide | (rw [nI_toInt (by decide)]; omega)]; rfl) (by decide) ?_
  refine lv_aload_n hx hb dX7_countOf_70 rfl (lv_at hl 0 rfl) ?_
  refine va_get (D := D) (ci := 7) (v := .int q.2.2.1) (C := RX7) (T := TX7) (N := 22) hx hb hts iX7 hown hK hP 0 rfl rfl 8 (by decide) (hts _ mg_470) (fun _ h9 => h9) (congrArg (fun z => some (Value.int z)) (MR_8 hM)) dX7_countOf_71 ?_
  exact ro_iret hx hb hr hlocks (cto_4.symm) dX7_countOf_74

set_option maxHeartbeats 4000000 in
set_option maxRecDepth 100000 in
theorem c_X7_cto5 (l : Launch) (D : va_G) (h : Nat) (g : Nat → Nat) (cI : ClassId) (J : Nat → Int32) (hz : Int64) (G : Nat → Nat → Int32) (b : Nat → Nat → Nat) (q : RS) (hM : MR b q J G) (hb4 : ∀ v, v < 4 → b v 0 ≤ 4) (hbz : q.1 = 0 → ∀ v, v < 4 → b v 0 = 0) (h5 : q.1 ≤ 5) (pn xr : Nat) (hpn : J 1 = nI pn) (hxr : J 9 = nI xr) : ROi l yX7_countOf (wA yX7_countOf cX7_countOf 2 (some .int)) ({ frames := 2, cells := 0, slots := 0, locals := 42 }) D (iTys cI) (mW h g cI J hz G) [.ref h, .int (nI 5)] (cto b q pn xr 5) := by
  refine go_start (by decide) (Nat.le_of_ble_eq_true rfl) ?_
  intro p e s m args below meth c ls F _ hB hl
  obtain ⟨hx, hb, hr, hlocks, hml, hown, hts⟩ := F
  obtain ⟨hP, hK⟩ := hB
  have hown : s.vm.findClass RX7 = some m.cls := hown
  have hl : lv_has ls 2 [(0, .ref h), (1, .int (nI 5))] := hl
  refine lv_iload_n hx hb dX7_countOf_0 rfl (lv_at hl 1 rfl) ?_
  refine lv_tableIn (off := 74) (tgt := 75) hx hb dX7_countOf_1 (by rw [show (nI 5).toInt = 5 from by first | decide | (rw [nI_toInt (by decide)]; omega)]; decide) (by rw [show (nI 5).toInt = 5 from by first | decide | (rw [nI_toInt (by decide)]; omega)]; decide) (by rw [show (nI 5).toInt = 5 from by first | decide | (rw [nI_toInt (by decide)]; omega)]; rfl) (by decide) ?_
  refine lv_aload_n hx hb dX7_countOf_75 rfl (lv_at hl 0 rfl) ?_
  refine va_get (D := D) (ci := 7) (v := .int (nI q.2.1)) (C := RX7) (T := TX7) (N := 22) hx hb hts iX7 hown hK hP 0 rfl rfl 12 (by decide) (hts _ mg_474) (fun _ h9 => h9) (congrArg (fun z => some (Value.int z)) (MR_12 hM)) dX7_countOf_76 ?_
  exact ro_iret hx hb hr hlocks (cto_5.symm) dX7_countOf_79

set_option maxHeartbeats 4000000 in
set_option maxRecDepth 100000 in
theorem c_X7_cto6 (l : Launch) (D : va_G) (h : Nat) (g : Nat → Nat) (cI : ClassId) (J : Nat → Int32) (hz : Int64) (G : Nat → Nat → Int32) (b : Nat → Nat → Nat) (q : RS) (hM : MR b q J G) (hb4 : ∀ v, v < 4 → b v 0 ≤ 4) (hbz : q.1 = 0 → ∀ v, v < 4 → b v 0 = 0) (h5 : q.1 ≤ 5) (pn xr : Nat) (hpn : J 1 = nI pn) (hxr : J 9 = nI xr) : ROi l yX7_countOf (wA yX7_countOf cX7_countOf 2 (some .int)) ({ frames := 2, cells := 0, slots := 0, locals := 42 }) D (iTys cI) (mW h g cI J hz G) [.ref h, .int (nI 6)] (cto b q pn xr 6) := by
  refine go_start (by decide) (Nat.le_of_ble_eq_true rfl) ?_
  intro p e s m args below meth c ls F _ hB hl
  obtain ⟨hx, hb, hr, hlocks, hml, hown, hts⟩ := F
  obtain ⟨hP, hK⟩ := hB
  have hown : s.vm.findClass RX7 = some m.cls := hown
  have hl : lv_has ls 2 [(0, .ref h), (1, .int (nI 6))] := hl
  refine lv_iload_n hx hb dX7_countOf_0 rfl (lv_at hl 1 rfl) ?_
  refine lv_tableIn (off := 79) (tgt := 80) hx hb dX7_countOf_1 (by rw [show (nI 6).toInt = 6 from by first | decide | (rw [nI_toInt (by decide)]; omega)]; decide) (by rw [show (nI 6).toInt = 6 from by first | decide | (rw [nI_toInt (by decide)]; omega)]; decide) (by rw [show (nI 6).toInt = 6 from by first | decide | (rw [nI_toInt (by decide)]; omega)]; rfl) (by decide) ?_
  refine lv_aload_n hx hb dX7_countOf_80 rfl (lv_at hl 0 rfl) ?_
  refine va_get (D := D) (ci := 7) (v := .int (nI pn)) (C := RX7) (T := TX7) (N := 22) hx hb hts iX7 hown hK hP 0 rfl rfl 1 (by decide) (hts _ mg_463) (fun _ h9 => h9) (congrArg (fun z => some (Value.int z)) hpn) dX7_countOf_81 ?_
  exact ro_iret hx hb hr hlocks (cto_6.symm) dX7_countOf_84

set_option maxHeartbeats 4000000 in
set_option maxRecDepth 100000 in
theorem c_X7_cto7 (l : Launch) (D : va_G) (h : Nat) (g : Nat → Nat) (cI : ClassId) (J : Nat → Int32) (hz : Int64) (G : Nat → Nat → Int32) (b : Nat → Nat → Nat) (q : RS) (hM : MR b q J G) (hb4 : ∀ v, v < 4 → b v 0 ≤ 4) (hbz : q.1 = 0 → ∀ v, v < 4 → b v 0 = 0) (h5 : q.1 ≤ 5) (pn xr : Nat) (hpn : J 1 = nI pn) (hxr : J 9 = nI xr) : ROi l yX7_countOf (wA yX7_countOf cX7_countOf 2 (some .int)) ({ frames := 2, cells := 0, slots := 0, locals := 42 }) D (iTys cI) (mW h g cI J hz G) [.ref h, .int (nI 7)] (cto b q pn xr 7) := by
  refine go_start (by decide) (Nat.le_of_ble_eq_true rfl) ?_
  intro p e s m args below meth c ls F _ hB hl
  obtain ⟨hx, hb, hr, hlocks, hml, hown, hts⟩ := F
  obtain ⟨hP, hK⟩ := hB
  have hown : s.vm.findClass RX7 = some m.cls := hown
  have hl : lv_has ls 2 [(0, .ref h), (1, .int (nI 7))] := hl
  refine lv_iload_n hx hb dX7_countOf_0 rfl (lv_at hl 1 rfl) ?_
  refine lv_tableIn (off := 84) (tgt := 85) hx hb dX7_countOf_1 (by rw [show (nI 7).toInt = 7 from by first | decide | (rw [nI_toInt (by decide)]; omega)]; decide) (by rw [show (nI 7).toInt = 7 from by first | decide | (rw [nI_toInt (by decide)]; omega)]; decide) (by rw [show (nI 7).toInt = 7 from by first | decide | (rw [nI_toInt (by decide)]; omega)]; rfl) (by decide) ?_
  refine lv_aload_n hx hb dX7_countOf_85 rfl (lv_at hl 0 rfl) ?_
  refine va_get (D := D) (ci := 7) (v := .int (nI xr)) (C := RX7) (T := TX7) (N := 22) hx hb hts iX7 hown hK hP 0 rfl rfl 9 (by decide) (hts _ mg_471) (fun _ h9 => h9) (congrArg (fun z => some (Value.int z)) hxr) dX7_countOf_86 ?_
  exact ro_iret hx hb hr hlocks (cto_7.symm) dX7_countOf_89

set_option maxHeartbeats 4000000 in
set_option maxRecDepth 100000 in
theorem c_X7_ctoO (l : Launch) (D : va_G) (h : Nat) (g : Nat → Nat) (cI : ClassId) (J : Nat → Int32) (hz : Int64) (G : Nat → Nat → Int32) (b : Nat → Nat → Nat) (q : RS) (hM : MR b q J G) (hb4 : ∀ v, v < 4 → b v 0 ≤ 4) (hbz : q.1 = 0 → ∀ v, v < 4 → b v 0 = 0) (h5 : q.1 ≤ 5) (pn xr : Nat) (hpn : J 1 = nI pn) (hxr : J 9 = nI xr) (w : Int32) (ow : ¬ inr w 0 8) : ROi l yX7_countOf (wA yX7_countOf cX7_countOf 2 (some .int)) ({ frames := 2, cells := 0, slots := 0, locals := 42 }) D (iTys cI) (mW h g cI J hz G) [.ref h, .int w] (-102) := by
  refine go_start (by decide) (Nat.le_of_ble_eq_true rfl) ?_
  intro p e s m args below meth c ls F _ hB hl
  obtain ⟨hx, hb, hr, hlocks, hml, hown, hts⟩ := F
  obtain ⟨hP, hK⟩ := hB
  have hown : s.vm.findClass RX7 = some m.cls := hown
  have hl : lv_has ls 2 [(0, .ref h), (1, .int w)] := hl
  have ow7 := inr_out ow
  refine lv_iload_n hx hb dX7_countOf_0 rfl (lv_at hl 1 rfl) ?_
  refine lv_tableOut (tgt := 90) hx hb dX7_countOf_1 (by omega) (by decide) ?_
  refine lv_bipush (v := (-102)) hx hb dX7_countOf_90 (by decide) ?_
  exact ro_iret hx hb hr hlocks (rfl) dX7_countOf_92

theorem c_X7_countOf (l : Launch) (D : va_G) (h : Nat) (g : Nat → Nat) (cI : ClassId) (J : Nat → Int32) (hz : Int64) (G : Nat → Nat → Int32) (b : Nat → Nat → Nat) (q : RS) (hM : MR b q J G) (hb4 : ∀ v, v < 4 → b v 0 ≤ 4) (hbz : q.1 = 0 → ∀ v, v < 4 → b v 0 = 0) (h5 : q.1 ≤ 5) (pn xr : Nat) (hpn : J 1 = nI pn) (hxr : J 9 = nI xr) (w : Nat) (hw9 : w < 8) : ROi l yX7_countOf (wA yX7_countOf cX7_countOf 2 (some .int)) ({ frames := 2, cells := 0, slots := 0, locals := 42 }) D (iTys cI) (mW h g cI J hz G) [.ref h, .int (nI w)] (cto b q pn xr w) := by
  match w, hw9 with
  | 0, _ => exact c_X7_cto0 l D h g cI J hz G b q hM hb4 hbz h5 pn xr hpn hxr
  | 1, _ => exact c_X7_cto1 l D h g cI J hz G b q hM hb4 hbz h5 pn xr hpn hxr
  | 2, _ => exact c_X7_cto2 l D h g cI J hz G b q hM hb4 hbz h5 pn xr hpn hxr
  | 3, _ => exact c_X7_cto3 l D h g cI J hz G b q hM hb4 hbz h5 pn xr hpn hxr
  | 4, _ => exact c_X7_cto4 l D h g cI J hz G b q hM hb4 hbz h5 pn xr hpn hxr
  | 5, _ => exact c_X7_cto5 l D h g cI J hz G b q hM hb4 hbz h5 pn xr hpn hxr
  | 6, _ => exact c_X7_cto6 l D h g cI J hz G b q hM hb4 hbz h5 pn xr hpn hxr
  | 7, _ => exact c_X7_cto7 l D h g cI J hz G b q hM hb4 hbz h5 pn xr hpn hxr

theorem c_X7_countOfR (l : Launch) (D : va_G) (h : Nat) (g : Nat → Nat) (cI : ClassId) (J : Nat → Int32) (hz : Int64) (G : Nat → Nat → Int32) (b : Nat → Nat → Nat) (q : RS) (hM : MR b q J G) (hb4 : ∀ v, v < 4 → b v 0 ≤ 4) (hbz : q.1 = 0 → ∀ v, v < 4 → b v 0 = 0) (h5 : q.1 ≤ 5) (pn xr : Nat) (hpn : J 1 = nI pn) (hxr : J 9 = nI xr) (w : Int32) : ROi l yX7_countOf (wA yX7_countOf cX7_countOf 2 (some .int)) ({ frames := 2, cells := 0, slots := 0, locals := 42 }) D (iTys cI) (mW h g cI J hz G) [.ref h, .int w] (sp_count b q pn xr w) := by
  unfold sp_count
  by_cases hw : inr w 0 8
  · obtain ⟨j, hj, rfl⟩ := inr_nat (n := 8) hw (by decide)
    rw [if_pos hw, ti_nI (by omega)]
    exact c_X7_countOf l D h g cI J hz G b q hM hb4 hbz h5 pn xr hpn hxr j hj
  · rw [if_neg hw]
    exact c_X7_ctoO l D h g cI J hz G b q hM hb4 hbz h5 pn xr hpn hxr w hw

set_option maxHeartbeats 4000000 in
set_option maxRecDepth 100000 in
theorem c_X7_count (l : Launch) (D : va_G) (h : Nat) (g : Nat → Nat) (cI : ClassId) (J : Nat → Int32) (hz : Int64) (G : Nat → Nat → Int32) (b : Nat → Nat → Nat) (q : RS) (hM : MR b q J G) (hb4 : ∀ v, v < 4 → b v 0 ≤ 4) (hbz : q.1 = 0 → ∀ v, v < 4 → b v 0 = 0) (h5 : q.1 ≤ 5) (pn xr : Nat) (hpn : J 1 = nI pn) (hxr : J 9 = nI xr) (w : Int32) : ROi l yX7_count (wA yX7_count cX7_count 2 (some .int)) ({ frames := 3, cells := 0, slots := 0, locals := 63 }) D (iTys cI) (mW h g cI J hz G) [.ref h, .int w] (sp_count b q pn xr w) := by
  refine go_start (by decide) (Nat.le_of_ble_eq_true rfl) ?_
  intro p e s m args below meth c ls F _ hB hl
  obtain ⟨hx, hb, hr, hlocks, hml, hown, hts⟩ := F
  obtain ⟨hP, hK⟩ := hB
  have hown : s.vm.findClass RX7 = some m.cls := hown
  have hl : lv_has ls 2 [(0, .ref h), (1, .int w)] := hl
  refine lv_aload_n hx hb dX7_count_0 rfl (lv_at hl 0 rfl) ?_
  refine lv_iload_n hx hb dX7_count_1 rfl (lv_at hl 1 rfl) ?_
  refine ro_iV (n := 1) (As := [.int w]) ⟨hx, hb, hml, hown, hts⟩ (c_X7_countOfR l D h g cI J hz G b q hM hb4 hbz h5 pn xr hpn hxr w) (cwV 1 hts (gV mg_716 mg_718 mg_1037 mg_8 mg_719) rfl rfl rfl vd_X7_countOf ⟨Nat.le_of_ble_eq_true rfl, Nat.le_of_ble_eq_true rfl⟩) (va_recv hK hP (ci := 7) (q0 := 0) rfl rfl) hK hP rfl hl.1 rfl (Nat.le_of_ble_eq_true rfl) dX7_count_2 ⟨Nat.zero_le _, Nat.zero_le _⟩ ?_
  exact ro_iret hx hb hr hlocks (rfl) dX7_count_5
