set_option maxHeartbeats 8000000 in
set_option maxRecDepth 100000 in
theorem c_X8_tick (l : Launch) (D : va_G) (cy : Nat → ClassId) (ad : Nat → Nat) (cnt : Nat → Nat) (nd : Nat) (wn : Nat) (S : Nat → Int32) (By : Nat → Int32) (Ah : Nat → Int32) (hJ : zJ 34 ad) (p1 : Int32) : zM l D (mT cy) 34 ad (mOK cy ad cnt nd wn S By Ah) yX8_tick vsX8_tick { frames := 9, cells := 0, slots := 0, locals := 225 } ([.ref (ad 0), .int p1] : List Value) (zQi D 34 ad (fun r ce => mEX cy ad cnt ce)) := by
  refine z_of (cc := cX8_tick) (maxL := 4) (ret := (some .int)) (by decide) rfl (Nat.le_of_ble_eq_true rfl) ?_
  intro p e s m below meth c hx hb hr hts hown hlocks hml hK hN ce hOK hP
  have hown : s.vm.findClass RX8 = some m.cls := hown
  have hS : va_S (zA 34 ad) s.heap s.heap [] := va_S.rf
  have hO := hOK
  have inX8 : ∀ w ∈ u_ws RX8 TX8 49, w ∈ vsX8_tick := fun w h => List.mem_cons_of_mem _ (inlX8 w h)
  have fl83 := hts (.fieldLink RX8 83 "GroundKeeperModel" "ahead" "[I") (List.mem_cons_of_mem _ mw_426)
  have fl129 := hts (.fieldLink RX8 129 "GroundKeeperModel" "walkers" "I") (List.mem_cons_of_mem _ mw_425)
  have fl266 := hts (.fieldLink RX8 266 "GroundKeeperModel" "ticks" "I") (List.mem_cons_of_mem _ mw_459)
  have L70 : ∀ N70 : Nat, ∀ (H : Heap) (locs : List Loc) (ce : Nat → va_E) (nd1 : Nat) (wn1 : Nat) (S1 : Nat → Int32) (By1 : Nat → Int32) (Ah1 : Nat → Int32) (x2 : Int32) (x3 : Int32), va_P D vwCl (zw 34 ad ce) H → va_S (zA 34 ad) s.heap H locs → mOK cy ad cnt nd1 wn1 S1 By1 Ah1 ce → (0 ≤ x3.toInt ∧ x3.toInt ≤ 6) → (7 - x3.toInt ≤ (N70 : Int)) → ∀ ls : Array Slot, lv_has ls 4 [(0, .ref (ad 0)), (2, .int x2), (3, .int x3)] → W p l e { frames := 9, cells := 0, slots := 0, locals := 225 } s m ([.ref (ad 0), .int p1] : List Value).toArray below meth c H locs 0 0 (MQ below (zQi D 34 ad (fun r ce => mEX cy ad cnt ce)) ([.ref (ad 0), .int p1] : List Value).toArray s 0 0 (zA 34 ad)) (F0 m 70 ls []) := by
    intro N70
    induction N70 with
    | zero =>
      intro H locs ce nd1 wn1 S1 By1 Ah1 x2 x3 hP hS hO q_x3 hm ls hl
      exfalso; omega
    | succ N70 ih70 =>
      have J93 : ∀ (H : Heap) (locs : List Loc) (ce : Nat → va_E) (nd1 : Nat) (wn1 : Nat) (S1 : Nat → Int32) (By1 : Nat → Int32) (Ah1 : Nat → Int32) (x3 : Int32) (s0 : Int32) (s1 : Int32), va_P D vwCl (zw 34 ad ce) H → va_S (zA 34 ad) s.heap H locs → mOK cy ad cnt nd1 wn1 S1 By1 Ah1 ce → (0 ≤ x3.toInt ∧ x3.toInt ≤ 5) → (0 ≤ s1.toInt ∧ s1.toInt ≤ 1) → (7 - x3.toInt ≤ (N70 : Int) + 1) → ∀ ls : Array Slot, lv_has ls 4 [(0, .ref (ad 0)), (3, .int x3)] → W p l e { frames := 9, cells := 0, slots := 0, locals := 225 } s m ([.ref (ad 0), .int p1] : List Value).toArray below meth c H locs 0 0 (MQ below (zQi D 34 ad (fun r ce => mEX cy ad cnt ce)) ([.ref (ad 0), .int p1] : List Value).toArray s 0 0 (zA 34 ad)) (F0 m 93 ls [.int s1, .int s0]) := by
        intro H locs ce nd1 wn1 S1 By1 Ah1 x3 s0 s1 hP hS hO q_x3 q_s1 qm70 ls hl
        refine lv_iadd hx hb dX8_tick_93 ?_
        refine lv_topi (fun v93 _ => ?_)
        refine lv_istore_n (lv' := [(2, .int v93), (0, .ref (ad 0)), (3, .int x3)]) hx hb dX8_tick_94 rfl hl (by decide) rfl (fun ls hl => ?_)
        refine z_iinc (lv' := fun w0 => [(3, .int w0), (2, .int v93), (0, .ref (ad 0))]) hx hb dX8_tick_95 hl (k := 2) rfl (by decide) (fun _ => rfl) (by decide) (by omega) (fun v95 ls h95 hl => ?_)
        refine lv_goto (tgt := 70) hx hb dX8_tick_98 (by decide) ?_
        exact ih70 _ _ _ nd1 wn1 S1 By1 Ah1 v93 v95 hP hS hO (by omega) (by omega) _ (lv_sub hl [2, 1, 0] rfl)
      intro H locs ce nd1 wn1 S1 By1 Ah1 x2 x3 hP hS hO q_x3 hm ls hl
      refine lv_iload_n hx hb dX8_tick_70 rfl (lv_at hl 2 rfl) ?_
      refine lv_aload_n hx hb dX8_tick_71 rfl (lv_at hl 0 rfl) ?_
      obtain ⟨v72, v72a, v72b, v72c, v72d, v72e, v72f, v72g, v72h, v72i, v72j, v72k, v72l, v72m, v72n, v72o, e72, h72, h72a, h72b, h72c, h72d, h72e, h72f, h72g, h72h, h72i, h72j, h72k, h72l, h72m, h72n, h72o, h72p, h72q, h72r, h72s, h72t, h72u⟩ := mg_Mo hO
      refine va_get (ci := 8) (C := RX8) (T := TX8) (N := 49) (v := .int v72n) hx hb hts inX8 hown hK hP 0 (zw_at (by decide) e72) rfl 35 (by decide) fl129 (fun _ h => h) rfl dX8_tick_72 ?_
      refine z_icmp_ge (tgt := 101) hx hb dX8_tick_75 (by decide) (fun c75 => ?_) (fun c75 => ?_)
      · skip
        refine lv_iload_n hx hb dX8_tick_101 rfl (lv_at hl 1 rfl) ?_
        exact z_reti hx hb hr hlocks hP hS dX8_tick_102 ⟨_, _, _, _, _, hO⟩
      · skip
        refine lv_iload_n hx hb dX8_tick_78 rfl (lv_at hl 1 rfl) ?_
        refine lv_aload_n hx hb dX8_tick_79 rfl (lv_at hl 0 rfl) ?_
        refine va_get (ci := 8) (C := RX8) (T := TX8) (N := 49) (v := .ref (ad 25)) hx hb hts inX8 hown hK hP 0 (zw_at (by decide) e72) rfl 39 (by decide) fl83 (fun _ h => h) rfl dX8_tick_80 ?_
        refine lv_iload_n hx hb dX8_tick_83 rfl (lv_at hl 2 rfl) ?_
        obtain ⟨e84, h84⟩ := mg_Ah hO
        refine z_iald hx hb hK hP (q0 := 25) 0 (by decide) e84 rfl (by omega) dX8_tick_84 (fun v84 r84 => ?_)
        have h84a : 0 ≤ v84.toInt ∧ v84.toInt ≤ 93 := by obtain ⟨i0, _, i1, i2⟩ := r84; rw [i2]; exact h84 i0 i1
        refine z_if_le (tgt := 92) hx hb dX8_tick_85 (by decide) (fun c85 => ?_) (fun c85 => ?_)
        · skip
          refine z_ic hx hb dX8_tick_92 (by decide) (fun v92 h92 => ?_)
          exact J93 _ _ _ nd1 wn1 S1 By1 Ah1 x3 x2 v92 hP hS hO (by omega) (by omega) (by omega) _ (lv_sub hl [0, 2] rfl)
        · skip
          refine z_ic hx hb dX8_tick_88 (by decide) (fun v88 h88 => ?_)
          refine lv_goto (tgt := 93) hx hb dX8_tick_89 (by decide) ?_
          exact J93 _ _ _ nd1 wn1 S1 By1 Ah1 x3 x2 v88 hP hS hO (by omega) (by omega) (by omega) _ (lv_sub hl [0, 2] rfl)
  have L15 : ∀ N15 : Nat, ∀ (H : Heap) (locs : List Loc) (ce : Nat → va_E) (nd1 : Nat) (wn1 : Nat) (S1 : Nat → Int32) (By1 : Nat → Int32) (Ah1 : Nat → Int32) (x1 : Int32) (x2 : Int32), va_P D vwCl (zw 34 ad ce) H → va_S (zA 34 ad) s.heap H locs → mOK cy ad cnt nd1 wn1 S1 By1 Ah1 ce → (1 ≤ x1.toInt ∧ x1.toInt ≤ 10) → (0 ≤ x2.toInt ∧ x2.toInt ≤ 10) → (11 - x2.toInt ≤ (N15 : Int)) → ∀ ls : Array Slot, lv_has ls 4 [(0, .ref (ad 0)), (1, .int x1), (2, .int x2)] → W p l e { frames := 9, cells := 0, slots := 0, locals := 225 } s m ([.ref (ad 0), .int p1] : List Value).toArray below meth c H locs 0 0 (MQ below (zQi D 34 ad (fun r ce => mEX cy ad cnt ce)) ([.ref (ad 0), .int p1] : List Value).toArray s 0 0 (zA 34 ad)) (F0 m 15 ls []) := by
    intro N15
    induction N15 with
    | zero =>
      intro H locs ce nd1 wn1 S1 By1 Ah1 x1 x2 hP hS hO q_x1 q_x2 hm ls hl
      exfalso; omega
    | succ N15 ih15 =>
      have L32 : ∀ N32 : Nat, ∀ (H : Heap) (locs : List Loc) (ce : Nat → va_E) (nd1 : Nat) (wn1 : Nat) (S1 : Nat → Int32) (By1 : Nat → Int32) (Ah1 : Nat → Int32) (x1 : Int32) (x2 : Int32) (x3 : Int32), va_P D vwCl (zw 34 ad ce) H → va_S (zA 34 ad) s.heap H locs → mOK cy ad cnt nd1 wn1 S1 By1 Ah1 ce → (1 ≤ x1.toInt ∧ x1.toInt ≤ 10) → (0 ≤ x2.toInt ∧ x2.toInt ≤ 9) → (0 ≤ x3.toInt ∧ x3.toInt ≤ 6) → (11 - x2.toInt ≤ (N15 : Int) + 1) → (7 - x3.toInt ≤ (N32 : Int)) → ∀ ls : Array Slot, lv_has ls 4 [(0, .ref (ad 0)), (1, .int x1), (2, .int x2), (3, .int x3)] → W p l e { frames := 9, cells := 0, slots := 0, locals := 225 } s m ([.ref (ad 0), .int p1] : List Value).toArray below meth c H locs 0 0 (MQ below (zQi D 34 ad (fun r ce => mEX cy ad cnt ce)) ([.ref (ad 0), .int p1] : List Value).toArray s 0 0 (zA 34 ad)) (F0 m 32 ls []) := by
        intro N32
        induction N32 with
        | zero =>
          intro H locs ce nd1 wn1 S1 By1 Ah1 x1 x2 x3 hP hS hO q_x1 q_x2 q_x3 qm15 hm ls hl
          exfalso; omega
        | succ N32 ih32 =>
          have J54 : ∀ (H : Heap) (locs : List Loc) (ce : Nat → va_E) (nd1 : Nat) (wn1 : Nat) (S1 : Nat → Int32) (By1 : Nat → Int32) (Ah1 : Nat → Int32) (x1 : Int32) (x2 : Int32) (x3 : Int32), va_P D vwCl (zw 34 ad ce) H → va_S (zA 34 ad) s.heap H locs → mOK cy ad cnt nd1 wn1 S1 By1 Ah1 ce → (1 ≤ x1.toInt ∧ x1.toInt ≤ 10) → (0 ≤ x2.toInt ∧ x2.toInt ≤ 9) → (0 ≤ x3.toInt ∧ x3.toInt ≤ 5) → (11 - x2.toInt ≤ (N15 : Int) + 1) → (7 - x3.toInt ≤ (N32 : Int) + 1) → ∀ ls : Array Slot, lv_has ls 4 [(0, .ref (ad 0)), (1, .int x1), (2, .int x2), (3, .int x3)] → W p l e { frames := 9, cells := 0, slots := 0, locals := 225 } s m ([.ref (ad 0), .int p1] : List Value).toArray below meth c H locs 0 0 (MQ below (zQi D 34 ad (fun r ce => mEX cy ad cnt ce)) ([.ref (ad 0), .int p1] : List Value).toArray s 0 0 (zA 34 ad)) (F0 m 54 ls []) := by
            intro H locs ce nd1 wn1 S1 By1 Ah1 x1 x2 x3 hP hS hO q_x1 q_x2 q_x3 qm15 qm32 ls hl
            refine z_iinc (lv' := fun w0 => [(3, .int w0), (0, .ref (ad 0)), (1, .int x1), (2, .int x2)]) hx hb dX8_tick_54 hl (k := 3) rfl (by decide) (fun _ => rfl) (by decide) (by omega) (fun v54 ls h54 hl => ?_)
            refine lv_goto (tgt := 32) hx hb dX8_tick_57 (by decide) ?_
            exact ih32 _ _ _ nd1 wn1 S1 By1 Ah1 x1 x2 v54 hP hS hO (by omega) (by omega) (by omega) (by omega) (by omega) _ (lv_sub hl [1, 2, 3, 0] rfl)
          intro H locs ce nd1 wn1 S1 By1 Ah1 x1 x2 x3 hP hS hO q_x1 q_x2 q_x3 qm15 hm ls hl
          refine lv_iload_n hx hb dX8_tick_32 rfl (lv_at hl 3 rfl) ?_
          refine lv_aload_n hx hb dX8_tick_33 rfl (lv_at hl 0 rfl) ?_
          obtain ⟨v34, v34a, v34b, v34c, v34d, v34e, v34f, v34g, v34h, v34i, v34j, v34k, v34l, v34m, v34n, v34o, e34, h34, h34a, h34b, h34c, h34d, h34e, h34f, h34g, h34h, h34i, h34j, h34k, h34l, h34m, h34n, h34o, h34p, h34q, h34r, h34s, h34t, h34u⟩ := mg_Mo hO
          refine va_get (ci := 8) (C := RX8) (T := TX8) (N := 49) (v := .int v34n) hx hb hts inX8 hown hK hP 0 (zw_at (by decide) e34) rfl 35 (by decide) fl129 (fun _ h => h) rfl dX8_tick_34 ?_
          refine z_icmp_ge (tgt := 60) hx hb dX8_tick_37 (by decide) (fun c37 => ?_) (fun c37 => ?_)
          · skip
            refine z_iinc (lv' := fun w0 => [(2, .int w0), (0, .ref (ad 0)), (1, .int x1), (3, .int x3)]) hx hb dX8_tick_60 hl (k := 2) rfl (by decide) (fun _ => rfl) (by decide) (by omega) (fun v60 ls h60 hl => ?_)
            refine lv_goto (tgt := 15) hx hb dX8_tick_63 (by decide) ?_
            exact ih15 _ _ _ nd1 wn1 S1 By1 Ah1 x1 v60 hP hS hO (by omega) (by omega) (by omega) _ (lv_sub hl [1, 2, 0] rfl)
          · skip
            refine lv_aload_n hx hb dX8_tick_40 rfl (lv_at hl 0 rfl) ?_
            refine va_get (ci := 8) (C := RX8) (T := TX8) (N := 49) (v := .ref (ad 25)) hx hb hts inX8 hown hK hP 0 (zw_at (by decide) e34) rfl 39 (by decide) fl83 (fun _ h => h) rfl dX8_tick_41 ?_
            refine lv_iload_n hx hb dX8_tick_44 rfl (lv_at hl 3 rfl) ?_
            obtain ⟨e45, h45⟩ := mg_Ah hO
            refine z_iald hx hb hK hP (q0 := 25) 0 (by decide) e45 rfl (by omega) dX8_tick_45 (fun v45 r45 => ?_)
            have h45a : 0 ≤ v45.toInt ∧ v45.toInt ≤ 93 := by obtain ⟨i0, _, i1, i2⟩ := r45; rw [i2]; exact h45 i0 i1
            refine z_if_le (tgt := 54) hx hb dX8_tick_46 (by decide) (fun c46 => ?_) (fun c46 => ?_)
            · skip
              exact J54 _ _ _ nd1 wn1 S1 By1 Ah1 x1 x2 x3 hP hS hO (by omega) (by omega) (by omega) (by omega) (by omega) _ (lv_sub hl [0, 1, 2, 3] rfl)
            · skip
              refine lv_aload_n hx hb dX8_tick_49 rfl (lv_at hl 0 rfl) ?_
              refine lv_iload_n hx hb dX8_tick_50 rfl (lv_at hl 3 rfl) ?_
              refine z_cv (z_rV (q0 := 0) (As := [.int x3]) (rest := []) ⟨hx, hb, hml, hown, hts⟩ (c_X8_turn l D cy ad cnt nd1 wn1 S1 By1 Ah1 hJ x3 (by omega) (z_hA r45 (by omega))) (cwV 1 hts (g_V mw_467 mw_468 mw_469 mw_324 mw_470) rfl rfl rfl (by decide +kernel) ⟨Nat.le_of_ble_eq_true rfl, Nat.le_of_ble_eq_true rfl⟩) hK hN hO hP (by decide) e34 rfl rfl hl.1 rfl (Nat.le_of_ble_eq_true rfl) dX8_tick_51 ⟨Nat.zero_le _, Nat.zero_le _⟩) hS (fun ce H locs h51 hP hS => ?_)
              obtain ⟨nd51, wn51, S51, By51, Ah51, hO⟩ := h51
              exact J54 _ _ _ nd51 wn51 S51 By51 Ah51 x1 x2 x3 hP hS hO (by omega) (by omega) (by omega) (by omega) (by omega) _ (lv_sub hl [0, 1, 2, 3] rfl)
      intro H locs ce nd1 wn1 S1 By1 Ah1 x1 x2 hP hS hO q_x1 q_x2 hm ls hl
      refine lv_iload_n hx hb dX8_tick_15 rfl (lv_at hl 2 rfl) ?_
      refine lv_iload_n hx hb dX8_tick_16 rfl (lv_at hl 1 rfl) ?_
      refine z_icmp_ge (tgt := 66) hx hb dX8_tick_17 (by decide) (fun c17 => ?_) (fun c17 => ?_)
      · skip
        refine z_ic hx hb dX8_tick_66 (by decide) (fun v66 h66 => ?_)
        refine lv_istore_n (lv' := [(2, .int v66), (0, .ref (ad 0)), (1, .int x1)]) hx hb dX8_tick_67 rfl hl (by decide) rfl (fun ls hl => ?_)
        refine z_ic hx hb dX8_tick_68 (by decide) (fun v68 h68 => ?_)
        refine lv_istore_n (lv' := [(3, .int v68), (2, .int v66), (0, .ref (ad 0)), (1, .int x1)]) hx hb dX8_tick_69 rfl hl (by decide) rfl (fun ls hl => ?_)
        exact L70 8 _ _ _ nd1 wn1 S1 By1 Ah1 v66 v68 hP hS hO (by omega) (by omega) _ (lv_sub hl [2, 1, 0] rfl)
      · skip
        refine lv_aload_n hx hb dX8_tick_20 rfl (lv_at hl 0 rfl) ?_
        refine lv_dup hx hb dX8_tick_21 rfl ?_
        obtain ⟨v22, v22a, v22b, v22c, v22d, v22e, v22f, v22g, v22h, v22i, v22j, v22k, v22l, v22m, v22n, v22o, e22, h22, h22a, h22b, h22c, h22d, h22e, h22f, h22g, h22h, h22i, h22j, h22k, h22l, h22m, h22n, h22o, h22p, h22q, h22r, h22s, h22t, h22u⟩ := mg_Mo hO
        refine va_get (ci := 8) (C := RX8) (T := TX8) (N := 49) (v := .int v22o) hx hb hts inX8 hown hK hP 0 (zw_at (by decide) e22) rfl 48 (by decide) fl266 (fun _ h => h) rfl dX8_tick_22 ?_
        refine z_ic hx hb dX8_tick_25 (by decide) (fun v25 h25 => ?_)
        refine lv_iadd hx hb dX8_tick_26 ?_
        refine lv_topi (fun v26 _ => ?_)
        refine z_put (q0 := 0) (ci := 8) (C := RX8) (T := TX8) (N := 49) hx hb hts inX8 tyX8 tyX8_ok nmX8 hown hK hJ hP hS (by decide) e22 rfl 48 (by decide) fl266 (fun _ h => h) rfl (ty := .int) (by decide +kernel) rfl rfl (Nat.le_of_ble_eq_true rfl) (fs1 := [.int v22, .ref (ad 1), .ref (ad 2), .ref (ad 3), .int v22a, .ref (ad 4), .ref (ad 5), .int v22b, .ref (ad 6), .ref (ad 7), .int v22c, .ref (ad 8), .int v22d, .int v22e, .int v22f, .int v22g, .int v22h, .int v22i, .int v22j, .ref (ad 9), .ref (ad 10), .int v22k, .ref (ad 11), .ref (ad 12), .ref (ad 13), .ref (ad 14), .ref (ad 15), .ref (ad 16), .ref (ad 17), .int v22l, .ref (ad 18), .int v22m, .ref (ad 19), .ref (ad 20), .ref (ad 21), .int v22n, .ref (ad 22), .ref (ad 23), .ref (ad 24), .ref (ad 25), .ref (ad 26), .ref (ad 27), .ref (ad 28), .ref (ad 29), .ref (ad 30), .ref (ad 31), .ref (ad 32), .ref (ad 33), .int v26]) rfl dX8_tick_27 (fun ce H locs e27 h27 hP hS => ?_)
        have hO := z_up (OKK := mK cy ad cnt nd1 wn1 S1 By1 Ah1) 0 hO h27 (by rw [e27]; exact mE_Mo |>.mpr ⟨v22, v22a, v22b, v22c, v22d, v22e, v22f, v22g, v22h, v22i, v22j, v22k, v22l, v22m, v22n, v26, rfl, h22, h22a, h22b, h22c, h22d, h22e, h22f, h22g, h22h, h22i, h22j, h22k, h22l, h22m, h22n, h22o, h22p, h22q, h22r, h22s, h22t, h22u⟩)
        refine z_ic hx hb dX8_tick_30 (by decide) (fun v30 h30 => ?_)
        refine lv_istore_n (lv' := [(3, .int v30), (0, .ref (ad 0)), (1, .int x1), (2, .int x2)]) hx hb dX8_tick_31 rfl hl (by decide) rfl (fun ls hl => ?_)
        exact L32 8 _ _ _ nd1 wn1 S1 By1 Ah1 x1 x2 v30 hP hS hO (by omega) (by omega) (by omega) (by omega) (by omega) _ (lv_sub hl [1, 2, 3, 0] rfl)
  intro ls hl
  have hl : lv_has ls 4 [(0, .ref (ad 0)), (1, .int p1)] := hl
  refine lv_iload_n hx hb dX8_tick_0 rfl (lv_at hl 1 rfl) ?_
  refine z_ic hx hb dX8_tick_1 (by decide) (fun v1 h1 => ?_)
  refine z_bi hx hb dX8_tick_2 (by decide) (fun v2 h2 => ?_)
  refine z_ciP (z_rS (As := [.int p1, .int v1, .int v2]) (rest := []) ⟨hx, hb, hml, hown, hts⟩ (c_X8_in l D (mT cy) 34 ad (fun c1 => c1 = ce) p1 v1 v2) (va_cwS 3 hts (g_S mw_322 mw_323 mw_324 mw_325) rfl rfl rfl (by decide +kernel) ⟨Nat.le_of_ble_eq_true rfl, Nat.le_of_ble_eq_true rfl⟩) hK hN rfl hP rfl hl.1 rfl (Nat.le_of_ble_eq_true rfl) dX8_tick_4 ⟨Nat.zero_le _, Nat.zero_le _⟩) hS (fun _ h => h) (fun v4 H locs h4 hP hS => ?_)
  refine z_if_ne (tgt := 13) hx hb dX8_tick_7 (by decide) (fun c7 => ?_) (fun c7 => ?_)
  · skip
    refine z_ic hx hb dX8_tick_13 (by decide) (fun v13 h13 => ?_)
    refine lv_istore_n (lv' := [(2, .int v13), (0, .ref (ad 0)), (1, .int p1)]) hx hb dX8_tick_14 rfl hl (by decide) rfl (fun ls hl => ?_)
    exact L15 12 _ _ _ nd wn S By Ah p1 v13 hP hS hO (by omega) (by omega) (by omega) _ (lv_sub hl [1, 2, 0] rfl)
  · skip
    refine z_bi hx hb dX8_tick_10 (by decide) (fun v10 h10 => ?_)
    exact z_reti hx hb hr hlocks hP hS dX8_tick_12 ⟨_, _, _, _, _, hO⟩
set_option maxHeartbeats 8000000 in
set_option maxRecDepth 100000 in
theorem c_X8_way (l : Launch) (D : va_G) (cy : Nat → ClassId) (ad : Nat → Nat) (cnt : Nat → Nat) (nd : Nat) (wn : Nat) (S : Nat → Int32) (By : Nat → Int32) (Ah : Nat → Int32) (hJ : zJ 34 ad) (p1 : Int32) (p2 : Int32) (p3 : Int32) (p4 : Int32) (p5 : Int32) (p6 : Int32) : zM l D (mT cy) 34 ad (mOK cy ad cnt nd wn S By Ah) yX8_way vsX8_way { frames := 7, cells := 0, slots := 0, locals := 171 } ([.ref (ad 0), .int p1, .int p2, .int p3, .int p4, .int p5, .int p6] : List Value) (zQi D 34 ad (fun r ce => mEX cy ad cnt ce)) := by
  refine z_of (cc := cX8_way) (maxL := 8) (ret := (some .int)) (by decide) rfl (Nat.le_of_ble_eq_true rfl) ?_
  intro p e s m below meth c hx hb hr hts hown hlocks hml hK hN ce hOK hP
  have hown : s.vm.findClass RX8 = some m.cls := hown
  have hS : va_S (zA 34 ad) s.heap s.heap [] := va_S.rf
  have hO := hOK
  have inX8 : ∀ w ∈ u_ws RX8 TX8 49, w ∈ vsX8_way := fun w h => List.mem_cons_of_mem _ (inlX8 w h)
  have fl44 := hts (.fieldLink RX8 44 "GroundKeeperModel" "nl" "[I") (List.mem_cons_of_mem _ mw_380)
  have fl47 := hts (.fieldLink RX8 47 "GroundKeeperModel" "nx" "[I") (List.mem_cons_of_mem _ mw_381)
  have fl50 := hts (.fieldLink RX8 50 "GroundKeeperModel" "ny" "[I") (List.mem_cons_of_mem _ mw_382)
  have fl53 := hts (.fieldLink RX8 53 "GroundKeeperModel" "far" "[I") (List.mem_cons_of_mem _ mw_413)
  have fl62 := hts (.fieldLink RX8 62 "GroundKeeperModel" "way" "[I") (List.mem_cons_of_mem _ mw_416)
  have fl65 := hts (.fieldLink RX8 65 "GroundKeeperModel" "bendX" "[I") (List.mem_cons_of_mem _ mw_460)
  have fl68 := hts (.fieldLink RX8 68 "GroundKeeperModel" "bendY" "[I") (List.mem_cons_of_mem _ mw_461)
  have fl71 := hts (.fieldLink RX8 71 "GroundKeeperModel" "bendLevel" "[I") (List.mem_cons_of_mem _ mw_462)
  have fl237 := hts (.fieldLink RX8 237 "GroundKeeperModel" "wayLong" "I") (List.mem_cons_of_mem _ mw_417)
  have fl250 := hts (.fieldLink RX8 250 "GroundKeeperModel" "bends" "I") (List.mem_cons_of_mem _ mw_463)
  have L94 : ∀ N94 : Nat, ∀ (H : Heap) (locs : List Loc) (ce : Nat → va_E) (nd1 : Nat) (wn1 : Nat) (S1 : Nat → Int32) (By1 : Nat → Int32) (x7 : Int32), va_P D vwCl (zw 34 ad ce) H → va_S (zA 34 ad) s.heap H locs → mOK cy ad cnt nd1 wn1 S1 By1 Ah ce → (0 ≤ x7.toInt ∧ x7.toInt ≤ 94) → (95 - x7.toInt ≤ (N94 : Int)) → ∀ ls : Array Slot, lv_has ls 8 [(0, .ref (ad 0)), (7, .int x7)] → W p l e { frames := 7, cells := 0, slots := 0, locals := 171 } s m ([.ref (ad 0), .int p1, .int p2, .int p3, .int p4, .int p5, .int p6] : List Value).toArray below meth c H locs 0 0 (MQ below (zQi D 34 ad (fun r ce => mEX cy ad cnt ce)) ([.ref (ad 0), .int p1, .int p2, .int p3, .int p4, .int p5, .int p6] : List Value).toArray s 0 0 (zA 34 ad)) (F0 m 94 ls []) := by
    intro N94
    induction N94 with
    | zero =>
      intro H locs ce nd1 wn1 S1 By1 x7 hP hS hO q_x7 hm ls hl
      exfalso; omega
    | succ N94 ih94 =>
      intro H locs ce nd1 wn1 S1 By1 x7 hP hS hO q_x7 hm ls hl
      refine lv_iload hx hb dX8_way_94 (lv_at hl 1 rfl) ?_
      refine lv_aload_n hx hb dX8_way_96 rfl (lv_at hl 0 rfl) ?_
      obtain ⟨v97, v97a, v97b, v97c, v97d, v97e, v97f, v97g, v97h, v97i, v97j, v97k, v97l, v97m, v97n, v97o, e97, h97, h97a, h97b, h97c, h97d, h97e, h97f, h97g, h97h, h97i, h97j, h97k, h97l, h97m, h97n, h97o, h97p, h97q, h97r, h97s, h97t, h97u⟩ := mg_Mo hO
      refine va_get (ci := 8) (C := RX8) (T := TX8) (N := 49) (v := .int v97m) hx hb hts inX8 hown hK hP 0 (zw_at (by decide) e97) rfl 31 (by decide) fl250 (fun _ h => h) rfl dX8_way_97 ?_
      refine z_icmp_ge (tgt := 166) hx hb dX8_way_100 (by decide) (fun c100 => ?_) (fun c100 => ?_)
      · skip
        refine lv_aload_n hx hb dX8_way_166 rfl (lv_at hl 0 rfl) ?_
        refine va_get (ci := 8) (C := RX8) (T := TX8) (N := 49) (v := .ref (ad 15)) hx hb hts inX8 hown hK hP 0 (zw_at (by decide) e97) rfl 26 (by decide) fl53 (fun _ h => h) rfl dX8_way_167 ?_
        refine z_ic hx hb dX8_way_170 (by decide) (fun v170 h170 => ?_)
        obtain ⟨f171, e171⟩ := mg_Fa hO
        refine z_iald hx hb hK hP (q0 := 15) 0 (by decide) e171 rfl (by omega) dX8_way_171 (fun v171 r171 => ?_)
        exact z_reti hx hb hr hlocks hP hS dX8_way_172 ⟨_, _, _, _, _, hO⟩
      · skip
        refine lv_aload_n hx hb dX8_way_103 rfl (lv_at hl 0 rfl) ?_
        refine va_get (ci := 8) (C := RX8) (T := TX8) (N := 49) (v := .ref (ad 19)) hx hb hts inX8 hown hK hP 0 (zw_at (by decide) e97) rfl 32 (by decide) fl65 (fun _ h => h) rfl dX8_way_104 ?_
        refine lv_iload hx hb dX8_way_107 (lv_at hl 1 rfl) ?_
        refine lv_aload_n hx hb dX8_way_109 rfl (lv_at hl 0 rfl) ?_
        refine va_get (ci := 8) (C := RX8) (T := TX8) (N := 49) (v := .ref (ad 13)) hx hb hts inX8 hown hK hP 0 (zw_at (by decide) e97) rfl 24 (by decide) fl47 (fun _ h => h) rfl dX8_way_110 ?_
        refine lv_aload_n hx hb dX8_way_113 rfl (lv_at hl 0 rfl) ?_
        refine va_get (ci := 8) (C := RX8) (T := TX8) (N := 49) (v := .ref (ad 18)) hx hb hts inX8 hown hK hP 0 (zw_at (by decide) e97) rfl 30 (by decide) fl62 (fun _ h => h) rfl dX8_way_114 ?_
        refine lv_iload hx hb dX8_way_117 (lv_at hl 1 rfl) ?_
        obtain ⟨f119, e119, h119⟩ := mg_Wy hO
        refine z_iald hx hb hK hP (q0 := 18) 0 (by decide) e119 rfl (by omega) dX8_way_119 (fun v119 r119 => ?_)
        have h119a : 0 ≤ v119.toInt ∧ v119.toInt ≤ 93 := by obtain ⟨i0, _, i1, i2⟩ := r119; rw [i2]; exact h119 i0 i1
        obtain ⟨f120, e120⟩ := mg_Nx hO
        refine z_iald hx hb hK hP (q0 := 13) 0 (by decide) e120 rfl (by omega) dX8_way_120 (fun v120 r120 => ?_)
        obtain ⟨f121, e121⟩ := mg_BX hO
        refine z_iast hx hb hK hJ hP hS (q0 := 19) 0 (by decide) e121 rfl (z_in (by omega) (by omega)) dX8_way_121 (fun ce H locs e121a h121a hP hS => ?_)
        have hO := z_up (OKK := mK cy ad cnt nd1 wn1 S1 By1 Ah) 19 hO h121a (by rw [e121a]; exact mE_BX |>.mpr ⟨_, rfl⟩)
        have e121b := (h121a 0 (by omega)).trans e97
        have e121c := (h121a 18 (by omega)).trans e119
        have e121d := (h121a 13 (by omega)).trans e120
        refine lv_aload_n hx hb dX8_way_122 rfl (lv_at hl 0 rfl) ?_
        refine va_get (ci := 8) (C := RX8) (T := TX8) (N := 49) (v := .ref (ad 20)) hx hb hts inX8 hown hK hP 0 (zw_at (by decide) e121b) rfl 33 (by decide) fl68 (fun _ h => h) rfl dX8_way_123 ?_
        refine lv_iload hx hb dX8_way_126 (lv_at hl 1 rfl) ?_
        refine lv_aload_n hx hb dX8_way_128 rfl (lv_at hl 0 rfl) ?_
        refine va_get (ci := 8) (C := RX8) (T := TX8) (N := 49) (v := .ref (ad 14)) hx hb hts inX8 hown hK hP 0 (zw_at (by decide) e121b) rfl 25 (by decide) fl50 (fun _ h => h) rfl dX8_way_129 ?_
        refine lv_aload_n hx hb dX8_way_132 rfl (lv_at hl 0 rfl) ?_
        refine va_get (ci := 8) (C := RX8) (T := TX8) (N := 49) (v := .ref (ad 18)) hx hb hts inX8 hown hK hP 0 (zw_at (by decide) e121b) rfl 30 (by decide) fl62 (fun _ h => h) rfl dX8_way_133 ?_
        refine lv_iload hx hb dX8_way_136 (lv_at hl 1 rfl) ?_
        refine z_iald hx hb hK hP (q0 := 18) 0 (by decide) e121c rfl (by omega) dX8_way_138 (fun v138 r138 => ?_)
        have h138 : 0 ≤ v138.toInt ∧ v138.toInt ≤ 93 := by obtain ⟨i0, _, i1, i2⟩ := r138; rw [i2]; exact h119 i0 i1
        obtain ⟨f139, e139⟩ := mg_Ny hO
        refine z_iald hx hb hK hP (q0 := 14) 0 (by decide) e139 rfl (by omega) dX8_way_139 (fun v139 r139 => ?_)
        obtain ⟨f140, e140⟩ := mg_BY hO
        refine z_iast hx hb hK hJ hP hS (q0 := 20) 0 (by decide) e140 rfl (z_in (by omega) (by omega)) dX8_way_140 (fun ce H locs e140a h140a hP hS => ?_)
        have hO := z_up (OKK := mK cy ad cnt nd1 wn1 S1 By1 Ah) 20 hO h140a (by rw [e140a]; exact mE_BY |>.mpr ⟨_, rfl⟩)
        have e140b := (h140a 0 (by omega)).trans e121b
        have e140c := (h140a 18 (by omega)).trans e121c
        have e140d := (h140a 13 (by omega)).trans e121d
        have e140e := (h140a 14 (by omega)).trans e139
        refine lv_aload_n hx hb dX8_way_141 rfl (lv_at hl 0 rfl) ?_
        refine va_get (ci := 8) (C := RX8) (T := TX8) (N := 49) (v := .ref (ad 21)) hx hb hts inX8 hown hK hP 0 (zw_at (by decide) e140b) rfl 34 (by decide) fl71 (fun _ h => h) rfl dX8_way_142 ?_
        refine lv_iload hx hb dX8_way_145 (lv_at hl 1 rfl) ?_
        refine lv_aload_n hx hb dX8_way_147 rfl (lv_at hl 0 rfl) ?_
        refine va_get (ci := 8) (C := RX8) (T := TX8) (N := 49) (v := .ref (ad 12)) hx hb hts inX8 hown hK hP 0 (zw_at (by decide) e140b) rfl 23 (by decide) fl44 (fun _ h => h) rfl dX8_way_148 ?_
        refine lv_aload_n hx hb dX8_way_151 rfl (lv_at hl 0 rfl) ?_
        refine va_get (ci := 8) (C := RX8) (T := TX8) (N := 49) (v := .ref (ad 18)) hx hb hts inX8 hown hK hP 0 (zw_at (by decide) e140b) rfl 30 (by decide) fl62 (fun _ h => h) rfl dX8_way_152 ?_
        refine lv_iload hx hb dX8_way_155 (lv_at hl 1 rfl) ?_
        refine z_iald hx hb hK hP (q0 := 18) 0 (by decide) e140c rfl (by omega) dX8_way_157 (fun v157 r157 => ?_)
        have h157 : 0 ≤ v157.toInt ∧ v157.toInt ≤ 93 := by obtain ⟨i0, _, i1, i2⟩ := r157; rw [i2]; exact h119 i0 i1
        obtain ⟨f158, e158⟩ := mg_Nl hO
        refine z_iald hx hb hK hP (q0 := 12) 0 (by decide) e158 rfl (by omega) dX8_way_158 (fun v158 r158 => ?_)
        obtain ⟨f159, e159⟩ := mg_BL hO
        refine z_iast hx hb hK hJ hP hS (q0 := 21) 0 (by decide) e159 rfl (z_in (by omega) (by omega)) dX8_way_159 (fun ce H locs e159a h159a hP hS => ?_)
        have hO := z_up (OKK := mK cy ad cnt nd1 wn1 S1 By1 Ah) 21 hO h159a (by rw [e159a]; exact mE_BL |>.mpr ⟨_, rfl⟩)
        have e159b := (h159a 0 (by omega)).trans e140b
        have e159c := (h159a 18 (by omega)).trans e140c
        have e159d := (h159a 13 (by omega)).trans e140d
        have e159e := (h159a 14 (by omega)).trans e140e
        have e159f := (h159a 12 (by omega)).trans e158
        refine z_iinc (lv' := fun w0 => [(7, .int w0), (0, .ref (ad 0))]) hx hb dX8_way_160 hl (k := 1) rfl (by decide) (fun _ => rfl) (by decide) (by omega) (fun v160 ls h160 hl => ?_)
        refine lv_goto (tgt := 94) hx hb dX8_way_163 (by decide) ?_
        exact ih94 _ _ _ nd1 wn1 S1 By1 v160 hP hS hO (by omega) (by omega) _ (lv_sub hl [1, 0] rfl)
  intro ls hl
  have hl : lv_has ls 8 [(0, .ref (ad 0)), (1, .int p1), (2, .int p2), (3, .int p3), (4, .int p4), (5, .int p5), (6, .int p6)] := hl
  refine lv_iload_n hx hb dX8_way_0 rfl (lv_at hl 1 rfl) ?_
  refine lv_iload_n hx hb dX8_way_1 rfl (lv_at hl 2 rfl) ?_
  refine lv_iload_n hx hb dX8_way_2 rfl (lv_at hl 3 rfl) ?_
  refine z_ciP (z_rS (As := [.int p1, .int p2, .int p3]) (rest := []) ⟨hx, hb, hml, hown, hts⟩ (c_X8_isPlace l D (mT cy) 34 ad (fun c1 => c1 = ce) p1 p2 p3) (va_cwS 3 hts (g_S mw_326 mw_327 mw_324 mw_328) rfl rfl rfl (by decide +kernel) ⟨Nat.le_of_ble_eq_true rfl, Nat.le_of_ble_eq_true rfl⟩) hK hN rfl hP rfl hl.1 rfl (Nat.le_of_ble_eq_true rfl) dX8_way_3 ⟨Nat.zero_le _, Nat.zero_le _⟩) hS (fun _ h => h) (fun v3 H locs h3 hP hS => ?_)
  refine z_if_eq (tgt := 21) hx hb dX8_way_6 (by decide) (fun c6 => ?_) (fun c6 => ?_)
  · skip
    refine z_bi hx hb dX8_way_21 (by decide) (fun v21 h21 => ?_)
    exact z_reti hx hb hr hlocks hP hS dX8_way_23 ⟨_, _, _, _, _, hO⟩
  · skip
    refine lv_iload hx hb dX8_way_9 (lv_at hl 4 rfl) ?_
    refine lv_iload hx hb dX8_way_11 (lv_at hl 5 rfl) ?_
    refine lv_iload hx hb dX8_way_13 (lv_at hl 6 rfl) ?_
    refine z_ciP (z_rS (As := [.int p4, .int p5, .int p6]) (rest := []) ⟨hx, hb, hml, hown, hts⟩ (c_X8_isPlace l D (mT cy) 34 ad (fun c1 => c1 = ce) p4 p5 p6) (va_cwS 3 hts (g_S mw_326 mw_327 mw_324 mw_328) rfl rfl rfl (by decide +kernel) ⟨Nat.le_of_ble_eq_true rfl, Nat.le_of_ble_eq_true rfl⟩) hK hN rfl hP rfl hl.1 rfl (Nat.le_of_ble_eq_true rfl) dX8_way_15 ⟨Nat.zero_le _, Nat.zero_le _⟩) hS (fun _ h => h) (fun v15 H locs h15 hP hS => ?_)
    refine z_if_ne (tgt := 24) hx hb dX8_way_18 (by decide) (fun c18 => ?_) (fun c18 => ?_)
    · skip
      refine lv_aload_n hx hb dX8_way_24 rfl (lv_at hl 0 rfl) ?_
      refine lv_iload_n hx hb dX8_way_25 rfl (lv_at hl 1 rfl) ?_
      refine lv_iload_n hx hb dX8_way_26 rfl (lv_at hl 2 rfl) ?_
      refine lv_iload_n hx hb dX8_way_27 rfl (lv_at hl 3 rfl) ?_
      obtain ⟨v28, v28a, v28b, v28c, v28d, v28e, v28f, v28g, v28h, v28i, v28j, v28k, v28l, v28m, v28n, v28o, e28, h28, h28a, h28b, h28c, h28d, h28e, h28f, h28g, h28h, h28i, h28j, h28k, h28l, h28m, h28n, h28o, h28p, h28q, h28r, h28s, h28t, h28u⟩ := mg_Mo hO
      refine z_ciP (z_rV (q0 := 0) (As := [.int p1, .int p2, .int p3]) (rest := []) ⟨hx, hb, hml, hown, hts⟩ (c_X8_isGround l D cy ad cnt nd wn S By Ah (fun c1 => c1 = ce) hJ p1 p2 p3) (cwV 3 hts (g_V mw_390 mw_391 mw_392 mw_324 mw_393) rfl rfl rfl (by decide +kernel) ⟨Nat.le_of_ble_eq_true rfl, Nat.le_of_ble_eq_true rfl⟩) hK hN ⟨hO, rfl⟩ hP (by decide) e28 rfl rfl hl.1 rfl (Nat.le_of_ble_eq_true rfl) dX8_way_28 ⟨Nat.zero_le _, Nat.zero_le _⟩) hS (fun _ h => h.2) (fun v28p H locs h28v hP hS => ?_)
      refine z_if_eq (tgt := 47) hx hb dX8_way_31 (by decide) (fun c31 => ?_) (fun c31 => ?_)
      · skip
        refine z_bi hx hb dX8_way_47 (by decide) (fun v47 h47 => ?_)
        exact z_reti hx hb hr hlocks hP hS dX8_way_49 ⟨_, _, _, _, _, hO⟩
      · skip
        refine lv_aload_n hx hb dX8_way_34 rfl (lv_at hl 0 rfl) ?_
        refine lv_iload hx hb dX8_way_35 (lv_at hl 4 rfl) ?_
        refine lv_iload hx hb dX8_way_37 (lv_at hl 5 rfl) ?_
        refine lv_iload hx hb dX8_way_39 (lv_at hl 6 rfl) ?_
        refine z_ciP (z_rV (q0 := 0) (As := [.int p4, .int p5, .int p6]) (rest := []) ⟨hx, hb, hml, hown, hts⟩ (c_X8_isGround l D cy ad cnt nd wn S By Ah (fun c1 => c1 = ce) hJ p4 p5 p6) (cwV 3 hts (g_V mw_390 mw_391 mw_392 mw_324 mw_393) rfl rfl rfl (by decide +kernel) ⟨Nat.le_of_ble_eq_true rfl, Nat.le_of_ble_eq_true rfl⟩) hK hN ⟨hO, rfl⟩ hP (by decide) e28 rfl rfl hl.1 rfl (Nat.le_of_ble_eq_true rfl) dX8_way_41 ⟨Nat.zero_le _, Nat.zero_le _⟩) hS (fun _ h => h.2) (fun v41 H locs h41 hP hS => ?_)
        refine z_if_ne (tgt := 50) hx hb dX8_way_44 (by decide) (fun c44 => ?_) (fun c44 => ?_)
        · skip
          refine lv_aload_n hx hb dX8_way_50 rfl (lv_at hl 0 rfl) ?_
          refine lv_iload_n hx hb dX8_way_51 rfl (lv_at hl 1 rfl) ?_
          refine lv_iload_n hx hb dX8_way_52 rfl (lv_at hl 2 rfl) ?_
          refine lv_iload_n hx hb dX8_way_53 rfl (lv_at hl 3 rfl) ?_
          refine lv_iload hx hb dX8_way_54 (lv_at hl 4 rfl) ?_
          refine lv_iload hx hb dX8_way_56 (lv_at hl 5 rfl) ?_
          refine lv_iload hx hb dX8_way_58 (lv_at hl 6 rfl) ?_
          refine z_cv (z_rV (q0 := 0) (As := [.int p1, .int p2, .int p3, .int p4, .int p5, .int p6]) (rest := []) ⟨hx, hb, hml, hown, hts⟩ (c_X8_findNodes l D cy ad cnt nd wn S By Ah hJ p1 p2 p3 p4 p5 p6) (cwV 6 hts (g_V mw_451 mw_452 mw_453 mw_324 mw_454) rfl rfl rfl (by decide +kernel) ⟨Nat.le_of_ble_eq_true rfl, Nat.le_of_ble_eq_true rfl⟩) hK hN hO hP (by decide) e28 rfl rfl hl.1 rfl (Nat.le_of_ble_eq_true rfl) dX8_way_60 ⟨Nat.zero_le _, Nat.zero_le _⟩) hS (fun ce H locs h60 hP hS => ?_)
          obtain ⟨nd60, nd60h, hO⟩ := h60
          refine lv_aload_n hx hb dX8_way_63 rfl (lv_at hl 0 rfl) ?_
          obtain ⟨v64, v64a, v64b, v64c, v64d, v64e, v64f, v64g, v64h, v64i, v64j, v64k, v64l, v64m, v64n, v64o, e64, h64, h64a, h64b, h64c, h64d, h64e, h64f, h64g, h64h, h64i, h64j, h64k, h64l, h64m, h64n, h64o, h64p, h64q, h64r, h64s, h64t, h64u⟩ := mg_Mo hO
          refine z_cv (z_rV (q0 := 0) (As := []) (rest := []) ⟨hx, hb, hml, hown, hts⟩ (c_X8_settles l D cy ad cnt nd60 wn S By Ah hJ (by omega)) (cwV 0 hts (g_V mw_443 mw_444 mw_445 mw_324 mw_446) rfl rfl rfl (by decide +kernel) ⟨Nat.le_of_ble_eq_true rfl, Nat.le_of_ble_eq_true rfl⟩) hK hN hO hP (by decide) e64 rfl rfl hl.1 rfl (Nat.le_of_ble_eq_true rfl) dX8_way_64 ⟨Nat.zero_le _, Nat.zero_le _⟩) hS (fun ce H locs h64v hP hS => ?_)
          obtain ⟨S64, By64, hT64, hO⟩ := h64v
          refine lv_aload_n hx hb dX8_way_67 rfl (lv_at hl 0 rfl) ?_
          obtain ⟨v68, v68a, v68b, v68c, v68d, v68e, v68f, v68g, v68h, v68i, v68j, v68k, v68l, v68m, v68n, v68o, e68, h68, h68a, h68b, h68c, h68d, h68e, h68f, h68g, h68h, h68i, h68j, h68k, h68l, h68m, h68n, h68o, h68p, h68q, h68r, h68s, h68t, h68u⟩ := mg_Mo hO
          refine va_get (ci := 8) (C := RX8) (T := TX8) (N := 49) (v := .ref (ad 15)) hx hb hts inX8 hown hK hP 0 (zw_at (by decide) e68) rfl 26 (by decide) fl53 (fun _ h => h) rfl dX8_way_68 ?_
          refine z_ic hx hb dX8_way_71 (by decide) (fun v71 h71 => ?_)
          obtain ⟨f72, e72⟩ := mg_Fa hO
          refine z_iald hx hb hK hP (q0 := 15) 0 (by decide) e72 rfl (by omega) dX8_way_72 (fun v72 r72 => ?_)
          refine z_ic hx hb dX8_way_73 (by decide) (fun v73 h73 => ?_)
          refine z_icmp_ne (tgt := 79) hx hb dX8_way_74 (by decide) (fun c74 => ?_) (fun c74 => ?_)
          · skip
            refine lv_aload_n hx hb dX8_way_79 rfl (lv_at hl 0 rfl) ?_
            refine z_cv (z_rV (q0 := 0) (As := []) (rest := []) ⟨hx, hb, hml, hown, hts⟩ (c_X8_readBack l D cy ad cnt nd60 wn S64 By64 Ah hJ hT64 (by omega)) (cwV 0 hts (g_V mw_435 mw_436 mw_437 mw_324 mw_438) rfl rfl rfl (by decide +kernel) ⟨Nat.le_of_ble_eq_true rfl, Nat.le_of_ble_eq_true rfl⟩) hK hN hO hP (by decide) e68 rfl rfl hl.1 rfl (Nat.le_of_ble_eq_true rfl) dX8_way_80 ⟨Nat.zero_le _, Nat.zero_le _⟩) hS (fun ce H locs h80 hP hS => ?_)
            obtain ⟨wn80, wn80h, hO⟩ := h80
            refine lv_aload_n hx hb dX8_way_83 rfl (lv_at hl 0 rfl) ?_
            refine lv_aload_n hx hb dX8_way_84 rfl (lv_at hl 0 rfl) ?_
            obtain ⟨v85, v85a, v85b, v85c, v85d, v85e, v85f, v85g, v85h, v85i, v85j, v85k, v85l, v85m, v85n, v85o, e85, h85, h85a, h85b, h85c, h85d, h85e, h85f, h85g, h85h, h85i, h85j, h85k, h85l, h85m, h85n, h85o, h85p, h85q, h85r, h85s, h85t, h85u⟩ := mg_Mo hO
            refine va_get (ci := 8) (C := RX8) (T := TX8) (N := 49) (v := .int v85l) hx hb hts inX8 hown hK hP 0 (zw_at (by decide) e85) rfl 29 (by decide) fl237 (fun _ h => h) rfl dX8_way_85 ?_
            refine z_put (q0 := 0) (ci := 8) (C := RX8) (T := TX8) (N := 49) hx hb hts inX8 tyX8 tyX8_ok nmX8 hown hK hJ hP hS (by decide) e85 rfl 31 (by decide) fl250 (fun _ h => h) rfl (ty := .int) (by decide +kernel) rfl rfl (Nat.le_of_ble_eq_true rfl) (fs1 := [.int v85, .ref (ad 1), .ref (ad 2), .ref (ad 3), .int v85a, .ref (ad 4), .ref (ad 5), .int v85b, .ref (ad 6), .ref (ad 7), .int v85c, .ref (ad 8), .int v85d, .int v85e, .int v85f, .int v85g, .int v85h, .int v85i, .int v85j, .ref (ad 9), .ref (ad 10), .int v85k, .ref (ad 11), .ref (ad 12), .ref (ad 13), .ref (ad 14), .ref (ad 15), .ref (ad 16), .ref (ad 17), .int v85l, .ref (ad 18), .int v85l, .ref (ad 19), .ref (ad 20), .ref (ad 21), .int v85n, .ref (ad 22), .ref (ad 23), .ref (ad 24), .ref (ad 25), .ref (ad 26), .ref (ad 27), .ref (ad 28), .ref (ad 29), .ref (ad 30), .ref (ad 31), .ref (ad 32), .ref (ad 33), .int v85o]) rfl dX8_way_88 (fun ce H locs e88 h88 hP hS => ?_)
            have hO := z_up (OKK := mK cy ad cnt nd60 wn80 S64 By64 Ah) 0 hO h88 (by rw [e88]; exact mE_Mo |>.mpr ⟨v85, v85a, v85b, v85c, v85d, v85e, v85f, v85g, v85h, v85i, v85j, v85k, v85l, v85l, v85n, v85o, rfl, h85, h85a, h85b, h85c, h85d, h85e, h85f, h85g, h85h, h85i, h85j, h85k, h85l, h85m, h85n, h85o, h85p, h85q, by omega, by omega, h85t, h85u⟩)
            refine z_ic hx hb dX8_way_91 (by decide) (fun v91 h91 => ?_)
            refine lv_istore (lv' := [(7, .int v91), (0, .ref (ad 0)), (1, .int p1), (2, .int p2), (3, .int p3), (4, .int p4), (5, .int p5), (6, .int p6)]) hx hb dX8_way_92 hl (by decide) rfl (fun ls hl => ?_)
            exact L94 96 _ _ _ nd60 wn80 S64 By64 v91 hP hS hO (by omega) (by omega) _ (lv_sub hl [1, 0] rfl)
          · skip
            refine z_ic hx hb dX8_way_77 (by decide) (fun v77 h77 => ?_)
            exact z_reti hx hb hr hlocks hP hS dX8_way_78 ⟨_, _, _, _, _, hO⟩
        · skip
          refine z_bi hx hb dX8_way_47 (by decide) (fun v47 h47 => ?_)
          exact z_reti hx hb hr hlocks hP hS dX8_way_49 ⟨_, _, _, _, _, hO⟩
    · skip
      refine z_bi hx hb dX8_way_21 (by decide) (fun v21 h21 => ?_)
      exact z_reti hx hb hr hlocks hP hS dX8_way_23 ⟨_, _, _, _, _, hO⟩
set_option maxHeartbeats 8000000 in
set_option maxRecDepth 100000 in
theorem c_X8_reach (l : Launch) (D : va_G) (cy : Nat → ClassId) (ad : Nat → Nat) (cnt : Nat → Nat) (nd : Nat) (wn : Nat) (S : Nat → Int32) (By : Nat → Int32) (Ah : Nat → Int32) (hJ : zJ 34 ad) (p1 : Int32) (p2 : Int32) (p3 : Int32) : zM l D (mT cy) 34 ad (mOK cy ad cnt nd wn S By Ah) yX8_reach vsX8_reach { frames := 7, cells := 0, slots := 0, locals := 171 } ([.ref (ad 0), .int p1, .int p2, .int p3] : List Value) (zQi D 34 ad (fun r ce => mEX cy ad cnt ce)) := by
  refine z_of (cc := cX8_reach) (maxL := 6) (ret := (some .int)) (by decide) rfl (Nat.le_of_ble_eq_true rfl) ?_
  intro p e s m below meth c hx hb hr hts hown hlocks hml hK hN ce hOK hP
  have hown : s.vm.findClass RX8 = some m.cls := hown
  have hS : va_S (zA 34 ad) s.heap s.heap [] := va_S.rf
  have hO := hOK
  have inX8 : ∀ w ∈ u_ws RX8 TX8 49, w ∈ vsX8_reach := fun w h => List.mem_cons_of_mem _ (inlX8 w h)
  have fl41 := hts (.fieldLink RX8 41 "GroundKeeperModel" "isNode" "[Z") (List.mem_cons_of_mem _ mw_379)
  have fl59 := hts (.fieldLink RX8 59 "GroundKeeperModel" "settled" "[Z") (List.mem_cons_of_mem _ mw_415)
  have fl121 := hts (.fieldLink RX8 121 "GroundKeeperModel" "rooms" "I") (List.mem_cons_of_mem _ mw_343)
  have L45 : ∀ N45 : Nat, ∀ (H : Heap) (locs : List Loc) (ce : Nat → va_E) (nd1 : Nat) (wn1 : Nat) (S1 : Nat → Int32) (By1 : Nat → Int32) (x4 : Int32) (x5 : Int32), va_P D vwCl (zw 34 ad ce) H → va_S (zA 34 ad) s.heap H locs → mOK cy ad cnt nd1 wn1 S1 By1 Ah ce → (0 ≤ x5.toInt ∧ x5.toInt ≤ 48) → (49 - x5.toInt ≤ (N45 : Int)) → ∀ ls : Array Slot, lv_has ls 6 [(0, .ref (ad 0)), (4, .int x4), (5, .int x5)] → W p l e { frames := 7, cells := 0, slots := 0, locals := 171 } s m ([.ref (ad 0), .int p1, .int p2, .int p3] : List Value).toArray below meth c H locs 0 0 (MQ below (zQi D 34 ad (fun r ce => mEX cy ad cnt ce)) ([.ref (ad 0), .int p1, .int p2, .int p3] : List Value).toArray s 0 0 (zA 34 ad)) (F0 m 45 ls []) := by
    intro N45
    induction N45 with
    | zero =>
      intro H locs ce nd1 wn1 S1 By1 x4 x5 hP hS hO q_x5 hm ls hl
      exfalso; omega
    | succ N45 ih45 =>
      have J87 : ∀ (H : Heap) (locs : List Loc) (ce : Nat → va_E) (nd1 : Nat) (wn1 : Nat) (S1 : Nat → Int32) (By1 : Nat → Int32) (x5 : Int32) (s0 : Int32) (s1 : Int32), va_P D vwCl (zw 34 ad ce) H → va_S (zA 34 ad) s.heap H locs → mOK cy ad cnt nd1 wn1 S1 By1 Ah ce → (0 ≤ x5.toInt ∧ x5.toInt ≤ 47) → (0 ≤ s1.toInt ∧ s1.toInt ≤ 1) → (49 - x5.toInt ≤ (N45 : Int) + 1) → ∀ ls : Array Slot, lv_has ls 6 [(0, .ref (ad 0)), (5, .int x5)] → W p l e { frames := 7, cells := 0, slots := 0, locals := 171 } s m ([.ref (ad 0), .int p1, .int p2, .int p3] : List Value).toArray below meth c H locs 0 0 (MQ below (zQi D 34 ad (fun r ce => mEX cy ad cnt ce)) ([.ref (ad 0), .int p1, .int p2, .int p3] : List Value).toArray s 0 0 (zA 34 ad)) (F0 m 87 ls [.int s1, .int s0]) := by
        intro H locs ce nd1 wn1 S1 By1 x5 s0 s1 hP hS hO q_x5 q_s1 qm45 ls hl
        refine lv_iadd hx hb dX8_reach_87 ?_
        refine lv_topi (fun v87 _ => ?_)
        refine lv_istore (lv' := [(4, .int v87), (0, .ref (ad 0)), (5, .int x5)]) hx hb dX8_reach_88 hl (by decide) rfl (fun ls hl => ?_)
        refine z_iinc (lv' := fun w0 => [(5, .int w0), (4, .int v87), (0, .ref (ad 0))]) hx hb dX8_reach_90 hl (k := 2) rfl (by decide) (fun _ => rfl) (by decide) (by omega) (fun v90 ls h90 hl => ?_)
        refine lv_goto (tgt := 45) hx hb dX8_reach_93 (by decide) ?_
        exact ih45 _ _ _ nd1 wn1 S1 By1 v87 v90 hP hS hO (by omega) (by omega) _ (lv_sub hl [2, 1, 0] rfl)
      have J86 : ∀ (H : Heap) (locs : List Loc) (ce : Nat → va_E) (nd1 : Nat) (wn1 : Nat) (S1 : Nat → Int32) (By1 : Nat → Int32) (x5 : Int32) (s0 : Int32), va_P D vwCl (zw 34 ad ce) H → va_S (zA 34 ad) s.heap H locs → mOK cy ad cnt nd1 wn1 S1 By1 Ah ce → (0 ≤ x5.toInt ∧ x5.toInt ≤ 47) → (49 - x5.toInt ≤ (N45 : Int) + 1) → ∀ ls : Array Slot, lv_has ls 6 [(0, .ref (ad 0)), (5, .int x5)] → W p l e { frames := 7, cells := 0, slots := 0, locals := 171 } s m ([.ref (ad 0), .int p1, .int p2, .int p3] : List Value).toArray below meth c H locs 0 0 (MQ below (zQi D 34 ad (fun r ce => mEX cy ad cnt ce)) ([.ref (ad 0), .int p1, .int p2, .int p3] : List Value).toArray s 0 0 (zA 34 ad)) (F0 m 86 ls [.int s0]) := by
        intro H locs ce nd1 wn1 S1 By1 x5 s0 hP hS hO q_x5 qm45 ls hl
        refine z_ic hx hb dX8_reach_86 (by decide) (fun v86 h86 => ?_)
        exact J87 _ _ _ nd1 wn1 S1 By1 x5 s0 v86 hP hS hO (by omega) (by omega) (by omega) _ (lv_sub hl [0, 1] rfl)
      intro H locs ce nd1 wn1 S1 By1 x4 x5 hP hS hO q_x5 hm ls hl
      refine lv_iload hx hb dX8_reach_45 (lv_at hl 2 rfl) ?_
      refine z_ic hx hb dX8_reach_47 (by decide) (fun v47 h47 => ?_)
      refine lv_aload_n hx hb dX8_reach_48 rfl (lv_at hl 0 rfl) ?_
      obtain ⟨v49, v49a, v49b, v49c, v49d, v49e, v49f, v49g, v49h, v49i, v49j, v49k, v49l, v49m, v49n, v49o, e49, h49, h49a, h49b, h49c, h49d, h49e, h49f, h49g, h49h, h49i, h49j, h49k, h49l, h49m, h49n, h49o, h49p, h49q, h49r, h49s, h49t, h49u⟩ := mg_Mo hO
      refine va_get (ci := 8) (C := RX8) (T := TX8) (N := 49) (v := .int v49) hx hb hts inX8 hown hK hP 0 (zw_at (by decide) e49) rfl 0 (by decide) fl121 (fun _ h => h) rfl dX8_reach_49 ?_
      refine z_mulJ hx hb 4 dX8_reach_52 (by omega) (by omega) (fun v52 h52 => ?_)
      refine z_icmp_ge (tgt := 96) hx hb dX8_reach_53 (by decide) (fun c53 => ?_) (fun c53 => ?_)
      · skip
        refine lv_iload hx hb dX8_reach_96 (lv_at hl 1 rfl) ?_
        exact z_reti hx hb hr hlocks hP hS dX8_reach_98 ⟨_, _, _, _, _, hO⟩
      · skip
        refine lv_iload hx hb dX8_reach_56 (lv_at hl 1 rfl) ?_
        refine lv_aload_n hx hb dX8_reach_58 rfl (lv_at hl 0 rfl) ?_
        refine va_get (ci := 8) (C := RX8) (T := TX8) (N := 49) (v := .ref (ad 11)) hx hb hts inX8 hown hK hP 0 (zw_at (by decide) e49) rfl 22 (by decide) fl41 (fun _ h => h) rfl dX8_reach_59 ?_
        refine z_ic hx hb dX8_reach_62 (by decide) (fun v62 h62 => ?_)
        refine lv_iload hx hb dX8_reach_63 (lv_at hl 2 rfl) ?_
        refine z_addE hx hb dX8_reach_65 (by omega) (fun v65 h65 => ?_)
        obtain ⟨f66, e66⟩ := mg_In hO
        refine z_zald hx hb hK hP (q0 := 11) 1 (by decide) e66 rfl (by omega) dX8_reach_66 (fun v66 r66 => ?_)
        refine z_if_eq (tgt := 86) hx hb dX8_reach_67 (by decide) (fun c67 => ?_) (fun c67 => ?_)
        · skip
          exact J86 _ _ _ nd1 wn1 S1 By1 x5 x4 hP hS hO (by omega) (by omega) _ (lv_sub hl [0, 2] rfl)
        · skip
          refine lv_aload_n hx hb dX8_reach_70 rfl (lv_at hl 0 rfl) ?_
          refine va_get (ci := 8) (C := RX8) (T := TX8) (N := 49) (v := .ref (ad 17)) hx hb hts inX8 hown hK hP 0 (zw_at (by decide) e49) rfl 28 (by decide) fl59 (fun _ h => h) rfl dX8_reach_71 ?_
          refine z_ic hx hb dX8_reach_74 (by decide) (fun v74 h74 => ?_)
          refine lv_iload hx hb dX8_reach_75 (lv_at hl 2 rfl) ?_
          refine z_addE hx hb dX8_reach_77 (by omega) (fun v77 h77 => ?_)
          have e78 := mg_Se hO
          refine z_zald hx hb hK hP (q0 := 17) 1 (by decide) e78 rfl (by omega) dX8_reach_78 (fun v78 r78 => ?_)
          refine z_if_eq (tgt := 86) hx hb dX8_reach_79 (by decide) (fun c79 => ?_) (fun c79 => ?_)
          · skip
            exact J86 _ _ _ nd1 wn1 S1 By1 x5 x4 hP hS hO (by omega) (by omega) _ (lv_sub hl [0, 2] rfl)
          · skip
            refine z_ic hx hb dX8_reach_82 (by decide) (fun v82 h82 => ?_)
            refine lv_goto (tgt := 87) hx hb dX8_reach_83 (by decide) ?_
            exact J87 _ _ _ nd1 wn1 S1 By1 x5 x4 v82 hP hS hO (by omega) (by omega) (by omega) _ (lv_sub hl [0, 2] rfl)
  intro ls hl
  have hl : lv_has ls 6 [(0, .ref (ad 0)), (1, .int p1), (2, .int p2), (3, .int p3)] := hl
  refine lv_iload_n hx hb dX8_reach_0 rfl (lv_at hl 1 rfl) ?_
  refine lv_iload_n hx hb dX8_reach_1 rfl (lv_at hl 2 rfl) ?_
  refine lv_iload_n hx hb dX8_reach_2 rfl (lv_at hl 3 rfl) ?_
  refine z_ciP (z_rS (As := [.int p1, .int p2, .int p3]) (rest := []) ⟨hx, hb, hml, hown, hts⟩ (c_X8_isPlace l D (mT cy) 34 ad (fun c1 => c1 = ce) p1 p2 p3) (va_cwS 3 hts (g_S mw_326 mw_327 mw_324 mw_328) rfl rfl rfl (by decide +kernel) ⟨Nat.le_of_ble_eq_true rfl, Nat.le_of_ble_eq_true rfl⟩) hK hN rfl hP rfl hl.1 rfl (Nat.le_of_ble_eq_true rfl) dX8_reach_3 ⟨Nat.zero_le _, Nat.zero_le _⟩) hS (fun _ h => h) (fun v3 H locs h3 hP hS => ?_)
  refine z_if_ne (tgt := 12) hx hb dX8_reach_6 (by decide) (fun c6 => ?_) (fun c6 => ?_)
  · skip
    refine lv_aload_n hx hb dX8_reach_12 rfl (lv_at hl 0 rfl) ?_
    refine lv_iload_n hx hb dX8_reach_13 rfl (lv_at hl 1 rfl) ?_
    refine lv_iload_n hx hb dX8_reach_14 rfl (lv_at hl 2 rfl) ?_
    refine lv_iload_n hx hb dX8_reach_15 rfl (lv_at hl 3 rfl) ?_
    obtain ⟨v16, v16a, v16b, v16c, v16d, v16e, v16f, v16g, v16h, v16i, v16j, v16k, v16l, v16m, v16n, v16o, e16, h16, h16a, h16b, h16c, h16d, h16e, h16f, h16g, h16h, h16i, h16j, h16k, h16l, h16m, h16n, h16o, h16p, h16q, h16r, h16s, h16t, h16u⟩ := mg_Mo hO
    refine z_ciP (z_rV (q0 := 0) (As := [.int p1, .int p2, .int p3]) (rest := []) ⟨hx, hb, hml, hown, hts⟩ (c_X8_isGround l D cy ad cnt nd wn S By Ah (fun c1 => c1 = ce) hJ p1 p2 p3) (cwV 3 hts (g_V mw_390 mw_391 mw_392 mw_324 mw_393) rfl rfl rfl (by decide +kernel) ⟨Nat.le_of_ble_eq_true rfl, Nat.le_of_ble_eq_true rfl⟩) hK hN ⟨hO, rfl⟩ hP (by decide) e16 rfl rfl hl.1 rfl (Nat.le_of_ble_eq_true rfl) dX8_reach_16 ⟨Nat.zero_le _, Nat.zero_le _⟩) hS (fun _ h => h.2) (fun v16p H locs h16v hP hS => ?_)
    refine z_if_ne (tgt := 25) hx hb dX8_reach_19 (by decide) (fun c19 => ?_) (fun c19 => ?_)
    · skip
      refine lv_aload_n hx hb dX8_reach_25 rfl (lv_at hl 0 rfl) ?_
      refine lv_iload_n hx hb dX8_reach_26 rfl (lv_at hl 1 rfl) ?_
      refine lv_iload_n hx hb dX8_reach_27 rfl (lv_at hl 2 rfl) ?_
      refine lv_iload_n hx hb dX8_reach_28 rfl (lv_at hl 3 rfl) ?_
      refine lv_iload_n hx hb dX8_reach_29 rfl (lv_at hl 1 rfl) ?_
      refine lv_iload_n hx hb dX8_reach_30 rfl (lv_at hl 2 rfl) ?_
      refine lv_iload_n hx hb dX8_reach_31 rfl (lv_at hl 3 rfl) ?_
      refine z_cv (z_rV (q0 := 0) (As := [.int p1, .int p2, .int p3, .int p1, .int p2, .int p3]) (rest := []) ⟨hx, hb, hml, hown, hts⟩ (c_X8_findNodes l D cy ad cnt nd wn S By Ah hJ p1 p2 p3 p1 p2 p3) (cwV 6 hts (g_V mw_451 mw_452 mw_453 mw_324 mw_454) rfl rfl rfl (by decide +kernel) ⟨Nat.le_of_ble_eq_true rfl, Nat.le_of_ble_eq_true rfl⟩) hK hN hO hP (by decide) e16 rfl rfl hl.1 rfl (Nat.le_of_ble_eq_true rfl) dX8_reach_32 ⟨Nat.zero_le _, Nat.zero_le _⟩) hS (fun ce H locs h32 hP hS => ?_)
      obtain ⟨nd32, nd32h, hO⟩ := h32
      refine lv_aload_n hx hb dX8_reach_35 rfl (lv_at hl 0 rfl) ?_
      obtain ⟨v36, v36a, v36b, v36c, v36d, v36e, v36f, v36g, v36h, v36i, v36j, v36k, v36l, v36m, v36n, v36o, e36, h36, h36a, h36b, h36c, h36d, h36e, h36f, h36g, h36h, h36i, h36j, h36k, h36l, h36m, h36n, h36o, h36p, h36q, h36r, h36s, h36t, h36u⟩ := mg_Mo hO
      refine z_cv (z_rV (q0 := 0) (As := []) (rest := []) ⟨hx, hb, hml, hown, hts⟩ (c_X8_settles l D cy ad cnt nd32 wn S By Ah hJ (by omega)) (cwV 0 hts (g_V mw_443 mw_444 mw_445 mw_324 mw_446) rfl rfl rfl (by decide +kernel) ⟨Nat.le_of_ble_eq_true rfl, Nat.le_of_ble_eq_true rfl⟩) hK hN hO hP (by decide) e36 rfl rfl hl.1 rfl (Nat.le_of_ble_eq_true rfl) dX8_reach_36 ⟨Nat.zero_le _, Nat.zero_le _⟩) hS (fun ce H locs h36v hP hS => ?_)
      obtain ⟨S36, By36, hT36, hO⟩ := h36v
      refine z_ic hx hb dX8_reach_39 (by decide) (fun v39 h39 => ?_)
      refine lv_istore (lv' := [(4, .int v39), (0, .ref (ad 0)), (1, .int p1), (2, .int p2), (3, .int p3)]) hx hb dX8_reach_40 hl (by decide) rfl (fun ls hl => ?_)
      refine z_ic hx hb dX8_reach_42 (by decide) (fun v42 h42 => ?_)
      refine lv_istore (lv' := [(5, .int v42), (4, .int v39), (0, .ref (ad 0)), (1, .int p1), (2, .int p2), (3, .int p3)]) hx hb dX8_reach_43 hl (by decide) rfl (fun ls hl => ?_)
      exact L45 50 _ _ _ nd32 wn S36 By36 v39 v42 hP hS hO (by omega) (by omega) _ (lv_sub hl [2, 1, 0] rfl)
    · skip
      refine z_bi hx hb dX8_reach_22 (by decide) (fun v22 h22 => ?_)
      exact z_reti hx hb hr hlocks hP hS dX8_reach_24 ⟨_, _, _, _, _, hO⟩
  · skip
    refine z_bi hx hb dX8_reach_9 (by decide) (fun v9 h9 => ?_)
    exact z_reti hx hb hr hlocks hP hS dX8_reach_11 ⟨_, _, _, _, _, hO⟩
set_option maxHeartbeats 8000000 in
set_option maxRecDepth 100000 in
theorem c_X8_go (l : Launch) (D : va_G) (cy : Nat → ClassId) (ad : Nat → Nat) (cnt : Nat → Nat) (nd : Nat) (wn : Nat) (S : Nat → Int32) (By : Nat → Int32) (Ah : Nat → Int32) (hJ : zJ 34 ad) (p1 : Int32) (p2 : Int32) (p3 : Int32) (p4 : Int32) : zM l D (mT cy) 34 ad (mOK cy ad cnt nd wn S By Ah) yX8_go vsX8_go { frames := 7, cells := 0, slots := 0, locals := 171 } ([.ref (ad 0), .int p1, .int p2, .int p3, .int p4] : List Value) (zQi D 34 ad (fun r ce => mEX cy ad cnt ce)) := by
  refine z_of (cc := cX8_go) (maxL := 5) (ret := (some .int)) (by decide) rfl (Nat.le_of_ble_eq_true rfl) ?_
  intro p e s m below meth c hx hb hr hts hown hlocks hml hK hN ce hOK hP
  have hown : s.vm.findClass RX8 = some m.cls := hown
  have hS : va_S (zA 34 ad) s.heap s.heap [] := va_S.rf
  have hO := hOK
  have inX8 : ∀ w ∈ u_ws RX8 TX8 49, w ∈ vsX8_go := fun w h => List.mem_cons_of_mem _ (inlX8 w h)
  have fl53 := hts (.fieldLink RX8 53 "GroundKeeperModel" "far" "[I") (List.mem_cons_of_mem _ mw_413)
  have fl74 := hts (.fieldLink RX8 74 "GroundKeeperModel" "wl" "[I") (List.mem_cons_of_mem _ mw_422)
  have fl77 := hts (.fieldLink RX8 77 "GroundKeeperModel" "wx" "[I") (List.mem_cons_of_mem _ mw_423)
  have fl80 := hts (.fieldLink RX8 80 "GroundKeeperModel" "wy" "[I") (List.mem_cons_of_mem _ mw_424)
  have fl83 := hts (.fieldLink RX8 83 "GroundKeeperModel" "ahead" "[I") (List.mem_cons_of_mem _ mw_426)
  have fl95 := hts (.fieldLink RX8 95 "GroundKeeperModel" "waited" "[I") (List.mem_cons_of_mem _ mw_432)
  have fl98 := hts (.fieldLink RX8 98 "GroundKeeperModel" "isStuck" "[Z") (List.mem_cons_of_mem _ mw_430)
  intro ls hl
  have hl : lv_has ls 5 [(0, .ref (ad 0)), (1, .int p1), (2, .int p2), (3, .int p3), (4, .int p4)] := hl
  refine lv_aload_n hx hb dX8_go_0 rfl (lv_at hl 0 rfl) ?_
  refine lv_iload_n hx hb dX8_go_1 rfl (lv_at hl 1 rfl) ?_
  obtain ⟨v2, v2a, v2b, v2c, v2d, v2e, v2f, v2g, v2h, v2i, v2j, v2k, v2l, v2m, v2n, v2o, e2, h2, h2a, h2b, h2c, h2d, h2e, h2f, h2g, h2h, h2i, h2j, h2k, h2l, h2m, h2n, h2o, h2p, h2q, h2r, h2s, h2t, h2u⟩ := mg_Mo hO
  refine z_ciP (z_rV (q0 := 0) (As := [.int p1]) (rest := []) ⟨hx, hb, hml, hown, hts⟩ (c_X8_isWalker l D cy ad cnt nd wn S By Ah (fun c1 => c1 = ce) hJ p1) (cwV 1 hts (g_V mw_471 mw_472 mw_473 mw_324 mw_474) rfl rfl rfl (by decide +kernel) ⟨Nat.le_of_ble_eq_true rfl, Nat.le_of_ble_eq_true rfl⟩) hK hN ⟨hO, rfl⟩ hP (by decide) e2 rfl rfl hl.1 rfl (Nat.le_of_ble_eq_true rfl) dX8_go_2 ⟨Nat.zero_le _, Nat.zero_le _⟩) hS (fun _ h => h.2) (fun v2p H locs h2v hP hS => ?_)
  refine z_if_eq (tgt := 18) hx hb dX8_go_5 (by decide) (fun c5 => ?_) (fun c5 => ?_)
  · skip
    refine z_bi hx hb dX8_go_18 (by decide) (fun v18 h18 => ?_)
    exact z_reti hx hb hr hlocks hP hS dX8_go_20 ⟨_, _, _, _, _, hO⟩
  · skip
    refine lv_iload_n hx hb dX8_go_8 rfl (lv_at hl 2 rfl) ?_
    refine lv_iload_n hx hb dX8_go_9 rfl (lv_at hl 3 rfl) ?_
    refine lv_iload hx hb dX8_go_10 (lv_at hl 4 rfl) ?_
    refine z_ciP (z_rS (As := [.int p2, .int p3, .int p4]) (rest := []) ⟨hx, hb, hml, hown, hts⟩ (c_X8_isPlace l D (mT cy) 34 ad (fun c1 => c1 = ce) p2 p3 p4) (va_cwS 3 hts (g_S mw_326 mw_327 mw_324 mw_328) rfl rfl rfl (by decide +kernel) ⟨Nat.le_of_ble_eq_true rfl, Nat.le_of_ble_eq_true rfl⟩) hK hN rfl hP rfl hl.1 rfl (Nat.le_of_ble_eq_true rfl) dX8_go_12 ⟨Nat.zero_le _, Nat.zero_le _⟩) hS (fun _ h => h) (fun v12 H locs h12 hP hS => ?_)
    refine z_if_ne (tgt := 21) hx hb dX8_go_15 (by decide) (fun c15 => ?_) (fun c15 => ?_)
    · skip
      refine lv_aload_n hx hb dX8_go_21 rfl (lv_at hl 0 rfl) ?_
      refine lv_iload_n hx hb dX8_go_22 rfl (lv_at hl 2 rfl) ?_
      refine lv_iload_n hx hb dX8_go_23 rfl (lv_at hl 3 rfl) ?_
      refine lv_iload hx hb dX8_go_24 (lv_at hl 4 rfl) ?_
      refine z_ciP (z_rV (q0 := 0) (As := [.int p2, .int p3, .int p4]) (rest := []) ⟨hx, hb, hml, hown, hts⟩ (c_X8_isGround l D cy ad cnt nd wn S By Ah (fun c1 => c1 = ce) hJ p2 p3 p4) (cwV 3 hts (g_V mw_390 mw_391 mw_392 mw_324 mw_393) rfl rfl rfl (by decide +kernel) ⟨Nat.le_of_ble_eq_true rfl, Nat.le_of_ble_eq_true rfl⟩) hK hN ⟨hO, rfl⟩ hP (by decide) e2 rfl rfl hl.1 rfl (Nat.le_of_ble_eq_true rfl) dX8_go_26 ⟨Nat.zero_le _, Nat.zero_le _⟩) hS (fun _ h => h.2) (fun v26 H locs h26 hP hS => ?_)
      refine z_if_ne (tgt := 35) hx hb dX8_go_29 (by decide) (fun c29 => ?_) (fun c29 => ?_)
      · skip
        refine lv_aload_n hx hb dX8_go_35 rfl (lv_at hl 0 rfl) ?_
        refine va_get (ci := 8) (C := RX8) (T := TX8) (N := 49) (v := .ref (ad 30)) hx hb hts inX8 hown hK hP 0 (zw_at (by decide) e2) rfl 44 (by decide) fl98 (fun _ h => h) rfl dX8_go_36 ?_
        refine lv_iload_n hx hb dX8_go_39 rfl (lv_at hl 1 rfl) ?_
        refine z_ic hx hb dX8_go_40 (by decide) (fun v40 h40 => ?_)
        obtain ⟨f41, e41⟩ := mg_Is hO
        refine z_zast hx hb hK hJ hP hS (q0 := 30) 1 (by decide) e41 rfl (z_in (by omega) (by omega)) dX8_go_41 (fun ce H locs e41a h41a hP hS => ?_)
        have hO := z_up (OKK := mK cy ad cnt nd wn S By Ah) 30 hO h41a (by rw [e41a]; exact mE_Is |>.mpr ⟨_, rfl⟩)
        have e41b := (h41a 0 (by omega)).trans e2
        refine lv_aload_n hx hb dX8_go_42 rfl (lv_at hl 0 rfl) ?_
        refine va_get (ci := 8) (C := RX8) (T := TX8) (N := 49) (v := .ref (ad 29)) hx hb hts inX8 hown hK hP 0 (zw_at (by decide) e41b) rfl 43 (by decide) fl95 (fun _ h => h) rfl dX8_go_43 ?_
        refine lv_iload_n hx hb dX8_go_46 rfl (lv_at hl 1 rfl) ?_
        refine z_ic hx hb dX8_go_47 (by decide) (fun v47 h47 => ?_)
        obtain ⟨f48, e48⟩ := mg_Wt hO
        refine z_iast hx hb hK hJ hP hS (q0 := 29) 0 (by decide) e48 rfl (z_in (by omega) (by omega)) dX8_go_48 (fun ce H locs e48a h48a hP hS => ?_)
        have hO := z_up (OKK := mK cy ad cnt nd wn S By Ah) 29 hO h48a (by rw [e48a]; exact mE_Wt |>.mpr ⟨_, rfl⟩)
        have e48b := (h48a 0 (by omega)).trans e41b
        refine lv_aload_n hx hb dX8_go_49 rfl (lv_at hl 0 rfl) ?_
        refine va_get (ci := 8) (C := RX8) (T := TX8) (N := 49) (v := .ref (ad 25)) hx hb hts inX8 hown hK hP 0 (zw_at (by decide) e48b) rfl 39 (by decide) fl83 (fun _ h => h) rfl dX8_go_50 ?_
        refine lv_iload_n hx hb dX8_go_53 rfl (lv_at hl 1 rfl) ?_
        refine z_ic hx hb dX8_go_54 (by decide) (fun v54 h54 => ?_)
        obtain ⟨e55, h55⟩ := mg_Ah hO
        refine z_iast hx hb hK hJ hP hS (q0 := 25) 0 (by decide) e55 rfl (z_in (by omega) (by omega)) dX8_go_55 (fun ce H locs e55a h55a hP hS => ?_)
        obtain ⟨Ah55, Ah55h⟩ : ∃ z, z = upd Ah p1.toNatClampNeg v54 := ⟨_, rfl⟩
        rw [← Ah55h] at e55a
        have Ah55c : ∀ i0 : Nat, i0 < 6 → 0 ≤ (Ah55 i0).toInt ∧ (Ah55 i0).toInt ≤ 93 := by rw [Ah55h]; exact fun i0 i1 => z_updc h55 (by omega) i0 i1
        have hO := z_up2 (OKK := mK cy ad cnt nd wn S By Ah) (OKL := mK cy ad cnt nd wn S By Ah55) 25 hO h55a (fun q e _ h => mK_Ah (by assumption) h) (by rw [e55a]; exact mE_Ah |>.mpr ⟨rfl, Ah55c⟩)
        have e55b := (h55a 0 (by omega)).trans e48b
        refine lv_aload_n hx hb dX8_go_56 rfl (lv_at hl 0 rfl) ?_
        refine lv_aload_n hx hb dX8_go_57 rfl (lv_at hl 0 rfl) ?_
        refine va_get (ci := 8) (C := RX8) (T := TX8) (N := 49) (v := .ref (ad 22)) hx hb hts inX8 hown hK hP 0 (zw_at (by decide) e55b) rfl 36 (by decide) fl74 (fun _ h => h) rfl dX8_go_58 ?_
        refine lv_iload_n hx hb dX8_go_61 rfl (lv_at hl 1 rfl) ?_
        obtain ⟨f62, e62⟩ := mg_Wl hO
        refine z_iald hx hb hK hP (q0 := 22) 0 (by decide) e62 rfl (by omega) dX8_go_62 (fun v62 r62 => ?_)
        refine lv_aload_n hx hb dX8_go_63 rfl (lv_at hl 0 rfl) ?_
        refine va_get (ci := 8) (C := RX8) (T := TX8) (N := 49) (v := .ref (ad 23)) hx hb hts inX8 hown hK hP 0 (zw_at (by decide) e55b) rfl 37 (by decide) fl77 (fun _ h => h) rfl dX8_go_64 ?_
        refine lv_iload_n hx hb dX8_go_67 rfl (lv_at hl 1 rfl) ?_
        obtain ⟨f68, e68⟩ := mg_Wx hO
        refine z_iald hx hb hK hP (q0 := 23) 0 (by decide) e68 rfl (by omega) dX8_go_68 (fun v68 r68 => ?_)
        refine lv_aload_n hx hb dX8_go_69 rfl (lv_at hl 0 rfl) ?_
        refine va_get (ci := 8) (C := RX8) (T := TX8) (N := 49) (v := .ref (ad 24)) hx hb hts inX8 hown hK hP 0 (zw_at (by decide) e55b) rfl 38 (by decide) fl80 (fun _ h => h) rfl dX8_go_70 ?_
        refine lv_iload_n hx hb dX8_go_73 rfl (lv_at hl 1 rfl) ?_
        obtain ⟨f74, e74⟩ := mg_Wz hO
        refine z_iald hx hb hK hP (q0 := 24) 0 (by decide) e74 rfl (by omega) dX8_go_74 (fun v74 r74 => ?_)
        refine lv_iload_n hx hb dX8_go_75 rfl (lv_at hl 2 rfl) ?_
        refine lv_iload_n hx hb dX8_go_76 rfl (lv_at hl 3 rfl) ?_
        refine lv_iload hx hb dX8_go_77 (lv_at hl 4 rfl) ?_
        refine z_cv (z_rV (q0 := 0) (As := [.int v62, .int v68, .int v74, .int p2, .int p3, .int p4]) (rest := []) ⟨hx, hb, hml, hown, hts⟩ (c_X8_findNodes l D cy ad cnt nd wn S By Ah55 hJ v62 v68 v74 p2 p3 p4) (cwV 6 hts (g_V mw_451 mw_452 mw_453 mw_324 mw_454) rfl rfl rfl (by decide +kernel) ⟨Nat.le_of_ble_eq_true rfl, Nat.le_of_ble_eq_true rfl⟩) hK hN hO hP (by decide) e55b rfl rfl hl.1 rfl (Nat.le_of_ble_eq_true rfl) dX8_go_79 ⟨Nat.zero_le _, Nat.zero_le _⟩) hS (fun ce H locs h79 hP hS => ?_)
        obtain ⟨nd79, nd79h, hO⟩ := h79
        refine lv_aload_n hx hb dX8_go_82 rfl (lv_at hl 0 rfl) ?_
        obtain ⟨v83, v83a, v83b, v83c, v83d, v83e, v83f, v83g, v83h, v83i, v83j, v83k, v83l, v83m, v83n, v83o, e83, h83, h83a, h83b, h83c, h83d, h83e, h83f, h83g, h83h, h83i, h83j, h83k, h83l, h83m, h83n, h83o, h83p, h83q, h83r, h83s, h83t, h83u⟩ := mg_Mo hO
        refine z_cv (z_rV (q0 := 0) (As := []) (rest := []) ⟨hx, hb, hml, hown, hts⟩ (c_X8_settles l D cy ad cnt nd79 wn S By Ah55 hJ (by omega)) (cwV 0 hts (g_V mw_443 mw_444 mw_445 mw_324 mw_446) rfl rfl rfl (by decide +kernel) ⟨Nat.le_of_ble_eq_true rfl, Nat.le_of_ble_eq_true rfl⟩) hK hN hO hP (by decide) e83 rfl rfl hl.1 rfl (Nat.le_of_ble_eq_true rfl) dX8_go_83 ⟨Nat.zero_le _, Nat.zero_le _⟩) hS (fun ce H locs h83v hP hS => ?_)
        obtain ⟨S83, By83, hT83, hO⟩ := h83v
        refine lv_aload_n hx hb dX8_go_86 rfl (lv_at hl 0 rfl) ?_
        obtain ⟨v87, v87a, v87b, v87c, v87d, v87e, v87f, v87g, v87h, v87i, v87j, v87k, v87l, v87m, v87n, v87o, e87, h87, h87a, h87b, h87c, h87d, h87e, h87f, h87g, h87h, h87i, h87j, h87k, h87l, h87m, h87n, h87o, h87p, h87q, h87r, h87s, h87t, h87u⟩ := mg_Mo hO
        refine va_get (ci := 8) (C := RX8) (T := TX8) (N := 49) (v := .ref (ad 15)) hx hb hts inX8 hown hK hP 0 (zw_at (by decide) e87) rfl 26 (by decide) fl53 (fun _ h => h) rfl dX8_go_87 ?_
        refine z_ic hx hb dX8_go_90 (by decide) (fun v90 h90 => ?_)
        obtain ⟨f91, e91⟩ := mg_Fa hO
        refine z_iald hx hb hK hP (q0 := 15) 0 (by decide) e91 rfl (by omega) dX8_go_91 (fun v91 r91 => ?_)
        refine z_ic hx hb dX8_go_92 (by decide) (fun v92 h92 => ?_)
        refine z_icmp_ne (tgt := 98) hx hb dX8_go_93 (by decide) (fun c93 => ?_) (fun c93 => ?_)
        · skip
          refine lv_aload_n hx hb dX8_go_98 rfl (lv_at hl 0 rfl) ?_
          refine lv_iload_n hx hb dX8_go_99 rfl (lv_at hl 1 rfl) ?_
          refine z_cv (z_rV (q0 := 0) (As := [.int p1]) (rest := []) ⟨hx, hb, hml, hown, hts⟩ (c_X8_follows l D cy ad cnt nd79 wn S83 By83 Ah55 hJ hT83 (by omega) p1 (by omega)) (cwV 1 hts (g_V mw_447 mw_448 mw_449 mw_324 mw_450) rfl rfl rfl (by decide +kernel) ⟨Nat.le_of_ble_eq_true rfl, Nat.le_of_ble_eq_true rfl⟩) hK hN hO hP (by decide) e87 rfl rfl hl.1 rfl (Nat.le_of_ble_eq_true rfl) dX8_go_100 ⟨Nat.zero_le _, Nat.zero_le _⟩) hS (fun ce H locs h100 hP hS => ?_)
          obtain ⟨wn100, Ah100, hO⟩ := h100
          refine lv_aload_n hx hb dX8_go_103 rfl (lv_at hl 0 rfl) ?_
          obtain ⟨v104, v104a, v104b, v104c, v104d, v104e, v104f, v104g, v104h, v104i, v104j, v104k, v104l, v104m, v104n, v104o, e104, h104, h104a, h104b, h104c, h104d, h104e, h104f, h104g, h104h, h104i, h104j, h104k, h104l, h104m, h104n, h104o, h104p, h104q, h104r, h104s, h104t, h104u⟩ := mg_Mo hO
          refine va_get (ci := 8) (C := RX8) (T := TX8) (N := 49) (v := .ref (ad 25)) hx hb hts inX8 hown hK hP 0 (zw_at (by decide) e104) rfl 39 (by decide) fl83 (fun _ h => h) rfl dX8_go_104 ?_
          refine lv_iload_n hx hb dX8_go_107 rfl (lv_at hl 1 rfl) ?_
          obtain ⟨e108, h108⟩ := mg_Ah hO
          refine z_iald hx hb hK hP (q0 := 25) 0 (by decide) e108 rfl (by omega) dX8_go_108 (fun v108 r108 => ?_)
          have h108a : 0 ≤ v108.toInt ∧ v108.toInt ≤ 93 := by obtain ⟨i0, _, i1, i2⟩ := r108; rw [i2]; exact h108 i0 i1
          exact z_reti hx hb hr hlocks hP hS dX8_go_109 ⟨_, _, _, _, _, hO⟩
        · skip
          refine z_ic hx hb dX8_go_96 (by decide) (fun v96 h96 => ?_)
          exact z_reti hx hb hr hlocks hP hS dX8_go_97 ⟨_, _, _, _, _, hO⟩
      · skip
        refine z_bi hx hb dX8_go_32 (by decide) (fun v32 h32 => ?_)
        exact z_reti hx hb hr hlocks hP hS dX8_go_34 ⟨_, _, _, _, _, hO⟩
    · skip
      refine z_bi hx hb dX8_go_18 (by decide) (fun v18 h18 => ?_)
      exact z_reti hx hb hr hlocks hP hS dX8_go_20 ⟨_, _, _, _, _, hO⟩
set_option maxHeartbeats 8000000 in
set_option maxRecDepth 100000 in
theorem c_X8_may (l : Launch) (D : va_G) (cy : Nat → ClassId) (ad : Nat → Nat) (cnt : Nat → Nat) (nd : Nat) (wn : Nat) (S : Nat → Int32) (By : Nat → Int32) (Ah : Nat → Int32) (PP : (Nat → va_E) → Prop) (hJ : zJ 34 ad) (p1 : Int32) (p2 : Int32) (p3 : Int32) : zM l D (mT cy) 34 ad (fun c1 => mOK cy ad cnt nd wn S By Ah c1 ∧ PP c1) yX8_may vsX8_may { frames := 3, cells := 0, slots := 0, locals := 71 } ([.ref (ad 0), .int p1, .int p2, .int p3] : List Value) (zQi D 34 ad (fun r ce => (mOK cy ad cnt nd wn S By Ah ce ∧ PP ce) ∧ (True))) := by
  refine z_of (cc := cX8_may) (maxL := 4) (ret := (some .int)) (by decide) rfl (Nat.le_of_ble_eq_true rfl) ?_
  intro p e s m below meth c hx hb hr hts hown hlocks hml hK hN ce hOK hP
  have hown : s.vm.findClass RX8 = some m.cls := hown
  have hS : va_S (zA 34 ad) s.heap s.heap [] := va_S.rf
  obtain ⟨hO, hPP⟩ := hOK
  intro ls hl
  have hl : lv_has ls 4 [(0, .ref (ad 0)), (1, .int p1), (2, .int p2), (3, .int p3)] := hl
  refine lv_iload_n hx hb dX8_may_0 rfl (lv_at hl 1 rfl) ?_
  refine lv_iload_n hx hb dX8_may_1 rfl (lv_at hl 2 rfl) ?_
  refine lv_iload_n hx hb dX8_may_2 rfl (lv_at hl 3 rfl) ?_
  refine z_ciP (z_rS (As := [.int p1, .int p2, .int p3]) (rest := []) ⟨hx, hb, hml, hown, hts⟩ (c_X8_isPlace l D (mT cy) 34 ad (fun c1 => c1 = ce) p1 p2 p3) (va_cwS 3 hts (g_S mw_326 mw_327 mw_324 mw_328) rfl rfl rfl (by decide +kernel) ⟨Nat.le_of_ble_eq_true rfl, Nat.le_of_ble_eq_true rfl⟩) hK hN rfl hP rfl hl.1 rfl (Nat.le_of_ble_eq_true rfl) dX8_may_3 ⟨Nat.zero_le _, Nat.zero_le _⟩) hS (fun _ h => h) (fun v3 H locs h3 hP hS => ?_)
  refine z_if_ne (tgt := 14) hx hb dX8_may_6 (by decide) (fun c6 => ?_) (fun c6 => ?_)
  · skip
    refine lv_aload_n hx hb dX8_may_14 rfl (lv_at hl 0 rfl) ?_
    refine lv_iload_n hx hb dX8_may_15 rfl (lv_at hl 1 rfl) ?_
    refine lv_iload_n hx hb dX8_may_16 rfl (lv_at hl 2 rfl) ?_
    refine lv_iload_n hx hb dX8_may_17 rfl (lv_at hl 3 rfl) ?_
    obtain ⟨v18, v18a, v18b, v18c, v18d, v18e, v18f, v18g, v18h, v18i, v18j, v18k, v18l, v18m, v18n, v18o, e18, h18, h18a, h18b, h18c, h18d, h18e, h18f, h18g, h18h, h18i, h18j, h18k, h18l, h18m, h18n, h18o, h18p, h18q, h18r, h18s, h18t, h18u⟩ := mg_Mo hO
    refine z_ciP (z_rV (q0 := 0) (As := [.int p1, .int p2, .int p3]) (rest := []) ⟨hx, hb, hml, hown, hts⟩ (c_X8_isGround l D cy ad cnt nd wn S By Ah (fun c1 => c1 = ce) hJ p1 p2 p3) (cwV 3 hts (g_V mw_390 mw_391 mw_392 mw_324 mw_393) rfl rfl rfl (by decide +kernel) ⟨Nat.le_of_ble_eq_true rfl, Nat.le_of_ble_eq_true rfl⟩) hK hN ⟨hO, rfl⟩ hP (by decide) e18 rfl rfl hl.1 rfl (Nat.le_of_ble_eq_true rfl) dX8_may_18 ⟨Nat.zero_le _, Nat.zero_le _⟩) hS (fun _ h => h.2) (fun v18p H locs h18v hP hS => ?_)
    refine z_if_eq (tgt := 28) hx hb dX8_may_21 (by decide) (fun c21 => ?_) (fun c21 => ?_)
    · skip
      refine z_ic hx hb dX8_may_28 (by decide) (fun v28 h28 => ?_)
      exact z_reti hx hb hr hlocks hP hS dX8_may_29 ⟨⟨hO, hPP⟩, trivial⟩
    · skip
      refine z_ic hx hb dX8_may_24 (by decide) (fun v24 h24 => ?_)
      refine lv_goto (tgt := 29) hx hb dX8_may_25 (by decide) ?_
      exact z_reti hx hb hr hlocks hP hS dX8_may_29 ⟨⟨hO, hPP⟩, trivial⟩
  · skip
    refine z_bi hx hb dX8_may_9 (by decide) (fun v9 h9 => ?_)
    refine lv_goto (tgt := 29) hx hb dX8_may_11 (by decide) ?_
    exact z_reti hx hb hr hlocks hP hS dX8_may_29 ⟨⟨hO, hPP⟩, trivial⟩
set_option maxHeartbeats 8000000 in
set_option maxRecDepth 100000 in
theorem c_X8_see (l : Launch) (D : va_G) (cy : Nat → ClassId) (ad : Nat → Nat) (cnt : Nat → Nat) (nd : Nat) (wn : Nat) (S : Nat → Int32) (By : Nat → Int32) (Ah : Nat → Int32) (hJ : zJ 34 ad) (p1 : Int32) (p2 : Int32) (p3 : Int32) (p4 : Int32) (p5 : Int32) : zM l D (mT cy) 34 ad (mOK cy ad cnt nd wn S By Ah) yX8_see vsX8_see { frames := 5, cells := 0, slots := 0, locals := 125 } ([.ref (ad 0), .int p1, .int p2, .int p3, .int p4, .int p5] : List Value) (zQi D 34 ad (fun r ce => mOK cy ad cnt nd wn S By Ah ce ∧ (True))) := by
  refine z_of (cc := cX8_see) (maxL := 6) (ret := (some .int)) (by decide) rfl (Nat.le_of_ble_eq_true rfl) ?_
  intro p e s m below meth c hx hb hr hts hown hlocks hml hK hN ce hOK hP
  have hown : s.vm.findClass RX8 = some m.cls := hown
  have hS : va_S (zA 34 ad) s.heap s.heap [] := va_S.rf
  have hO := hOK
  intro ls hl
  have hl : lv_has ls 6 [(0, .ref (ad 0)), (1, .int p1), (2, .int p2), (3, .int p3), (4, .int p4), (5, .int p5)] := hl
  refine lv_iload_n hx hb dX8_see_0 rfl (lv_at hl 1 rfl) ?_
  refine lv_iload_n hx hb dX8_see_1 rfl (lv_at hl 2 rfl) ?_
  refine lv_iload_n hx hb dX8_see_2 rfl (lv_at hl 3 rfl) ?_
  refine z_ciP (z_rS (As := [.int p1, .int p2, .int p3]) (rest := []) ⟨hx, hb, hml, hown, hts⟩ (c_X8_isPlace l D (mT cy) 34 ad (fun c1 => c1 = ce) p1 p2 p3) (va_cwS 3 hts (g_S mw_326 mw_327 mw_324 mw_328) rfl rfl rfl (by decide +kernel) ⟨Nat.le_of_ble_eq_true rfl, Nat.le_of_ble_eq_true rfl⟩) hK hN rfl hP rfl hl.1 rfl (Nat.le_of_ble_eq_true rfl) dX8_see_3 ⟨Nat.zero_le _, Nat.zero_le _⟩) hS (fun _ h => h) (fun v3 H locs h3 hP hS => ?_)
  refine z_if_eq (tgt := 34) hx hb dX8_see_6 (by decide) (fun c6 => ?_) (fun c6 => ?_)
  · skip
    refine z_bi hx hb dX8_see_34 (by decide) (fun v34 h34 => ?_)
    exact z_reti hx hb hr hlocks hP hS dX8_see_36 ⟨hO, trivial⟩
  · skip
    refine lv_iload_n hx hb dX8_see_9 rfl (lv_at hl 1 rfl) ?_
    refine lv_iload hx hb dX8_see_10 (lv_at hl 4 rfl) ?_
    refine lv_iload hx hb dX8_see_12 (lv_at hl 5 rfl) ?_
    refine z_ciP (z_rS (As := [.int p1, .int p4, .int p5]) (rest := []) ⟨hx, hb, hml, hown, hts⟩ (c_X8_isPlace l D (mT cy) 34 ad (fun c1 => c1 = ce) p1 p4 p5) (va_cwS 3 hts (g_S mw_326 mw_327 mw_324 mw_328) rfl rfl rfl (by decide +kernel) ⟨Nat.le_of_ble_eq_true rfl, Nat.le_of_ble_eq_true rfl⟩) hK hN rfl hP rfl hl.1 rfl (Nat.le_of_ble_eq_true rfl) dX8_see_14 ⟨Nat.zero_le _, Nat.zero_le _⟩) hS (fun _ h => h) (fun v14 H locs h14 hP hS => ?_)
    refine z_if_eq (tgt := 34) hx hb dX8_see_17 (by decide) (fun c17 => ?_) (fun c17 => ?_)
    · skip
      refine z_bi hx hb dX8_see_34 (by decide) (fun v34 h34 => ?_)
      exact z_reti hx hb hr hlocks hP hS dX8_see_36 ⟨hO, trivial⟩
    · skip
      refine lv_aload_n hx hb dX8_see_20 rfl (lv_at hl 0 rfl) ?_
      refine lv_iload_n hx hb dX8_see_21 rfl (lv_at hl 1 rfl) ?_
      refine lv_iload_n hx hb dX8_see_22 rfl (lv_at hl 2 rfl) ?_
      refine lv_iload_n hx hb dX8_see_23 rfl (lv_at hl 3 rfl) ?_
      refine lv_iload hx hb dX8_see_24 (lv_at hl 4 rfl) ?_
      refine lv_iload hx hb dX8_see_26 (lv_at hl 5 rfl) ?_
      obtain ⟨v28, v28a, v28b, v28c, v28d, v28e, v28f, v28g, v28h, v28i, v28j, v28k, v28l, v28m, v28n, v28o, e28, h28, h28a, h28b, h28c, h28d, h28e, h28f, h28g, h28h, h28i, h28j, h28k, h28l, h28m, h28n, h28o, h28p, h28q, h28r, h28s, h28t, h28u⟩ := mg_Mo hO
      refine z_ci (z_rV (q0 := 0) (As := [.int p1, .int p2, .int p3, .int p4, .int p5]) (rest := []) ⟨hx, hb, hml, hown, hts⟩ (c_X8_seen l D cy ad cnt nd wn S By Ah hJ p1 p2 p3 p4 p5) (cwV 5 hts (g_V mw_406 mw_407 mw_408 mw_324 mw_409) rfl rfl rfl (by decide +kernel) ⟨Nat.le_of_ble_eq_true rfl, Nat.le_of_ble_eq_true rfl⟩) hK hN hO hP (by decide) e28 rfl rfl hl.1 rfl (Nat.le_of_ble_eq_true rfl) dX8_see_28 ⟨Nat.zero_le _, Nat.zero_le _⟩) hS (fun v28p ce H locs h28v hP hS => ?_)
      obtain ⟨hO, h28w⟩ := h28v
      refine lv_goto (tgt := 36) hx hb dX8_see_31 (by decide) ?_
      exact z_reti hx hb hr hlocks hP hS dX8_see_36 ⟨hO, trivial⟩
set_option maxHeartbeats 8000000 in
set_option maxRecDepth 100000 in
theorem c_X8_bend (l : Launch) (D : va_G) (cy : Nat → ClassId) (ad : Nat → Nat) (cnt : Nat → Nat) (nd : Nat) (wn : Nat) (S : Nat → Int32) (By : Nat → Int32) (Ah : Nat → Int32) (PP : (Nat → va_E) → Prop) (hJ : zJ 34 ad) (p1 : Int32) (p2 : Int32) : zM l D (mT cy) 34 ad (fun c1 => mOK cy ad cnt nd wn S By Ah c1 ∧ PP c1) yX8_bend vsX8_bend { frames := 1, cells := 0, slots := 0, locals := 22 } ([.ref (ad 0), .int p1, .int p2] : List Value) (zQi D 34 ad (fun r ce => (mOK cy ad cnt nd wn S By Ah ce ∧ PP ce) ∧ (True))) := by
  refine z_of (cc := cX8_bend) (maxL := 3) (ret := (some .int)) (by decide) rfl (Nat.le_of_ble_eq_true rfl) ?_
  intro p e s m below meth c hx hb hr hts hown hlocks hml hK hN ce hOK hP
  have hown : s.vm.findClass RX8 = some m.cls := hown
  have hS : va_S (zA 34 ad) s.heap s.heap [] := va_S.rf
  obtain ⟨hO, hPP⟩ := hOK
  have inX8 : ∀ w ∈ u_ws RX8 TX8 49, w ∈ vsX8_bend := fun w h => List.mem_cons_of_mem _ (inlX8 w h)
  have fl65 := hts (.fieldLink RX8 65 "GroundKeeperModel" "bendX" "[I") (List.mem_cons_of_mem _ mw_460)
  have fl68 := hts (.fieldLink RX8 68 "GroundKeeperModel" "bendY" "[I") (List.mem_cons_of_mem _ mw_461)
  have fl71 := hts (.fieldLink RX8 71 "GroundKeeperModel" "bendLevel" "[I") (List.mem_cons_of_mem _ mw_462)
  have fl250 := hts (.fieldLink RX8 250 "GroundKeeperModel" "bends" "I") (List.mem_cons_of_mem _ mw_463)
  intro ls hl
  have hl : lv_has ls 3 [(0, .ref (ad 0)), (1, .int p1), (2, .int p2)] := hl
  refine lv_iload_n hx hb dX8_bend_0 rfl (lv_at hl 2 rfl) ?_
  refine z_ic hx hb dX8_bend_1 (by decide) (fun v1 h1 => ?_)
  refine z_ic hx hb dX8_bend_2 (by decide) (fun v2 h2 => ?_)
  refine z_ciP (z_rS (As := [.int p2, .int v1, .int v2]) (rest := []) ⟨hx, hb, hml, hown, hts⟩ (c_X8_in l D (mT cy) 34 ad (fun c1 => c1 = ce) p2 v1 v2) (va_cwS 3 hts (g_S mw_322 mw_323 mw_324 mw_325) rfl rfl rfl (by decide +kernel) ⟨Nat.le_of_ble_eq_true rfl, Nat.le_of_ble_eq_true rfl⟩) hK hN rfl hP rfl hl.1 rfl (Nat.le_of_ble_eq_true rfl) dX8_bend_3 ⟨Nat.zero_le _, Nat.zero_le _⟩) hS (fun _ h => h) (fun v3 H locs h3 hP hS => ?_)
  refine z_if_ne (tgt := 12) hx hb dX8_bend_6 (by decide) (fun c6 => ?_) (fun c6 => ?_)
  · skip
    refine lv_iload_n hx hb dX8_bend_12 rfl (lv_at hl 1 rfl) ?_
    refine z_ic hx hb dX8_bend_13 (by decide) (fun v13 h13 => ?_)
    refine lv_aload_n hx hb dX8_bend_14 rfl (lv_at hl 0 rfl) ?_
    obtain ⟨v15, v15a, v15b, v15c, v15d, v15e, v15f, v15g, v15h, v15i, v15j, v15k, v15l, v15m, v15n, v15o, e15, h15, h15a, h15b, h15c, h15d, h15e, h15f, h15g, h15h, h15i, h15j, h15k, h15l, h15m, h15n, h15o, h15p, h15q, h15r, h15s, h15t, h15u⟩ := mg_Mo hO
    refine va_get (ci := 8) (C := RX8) (T := TX8) (N := 49) (v := .int v15m) hx hb hts inX8 hown hK hP 0 (zw_at (by decide) e15) rfl 31 (by decide) fl250 (fun _ h => h) rfl dX8_bend_15 ?_
    refine z_ic hx hb dX8_bend_18 (by decide) (fun v18 h18 => ?_)
    refine z_subE hx hb dX8_bend_19 (by omega) (fun v19 h19 => ?_)
    refine z_ciP (z_rS (As := [.int p1, .int v13, .int v19]) (rest := []) ⟨hx, hb, hml, hown, hts⟩ (c_X8_in l D (mT cy) 34 ad (fun c1 => c1 = ce) p1 v13 v19) (va_cwS 3 hts (g_S mw_322 mw_323 mw_324 mw_325) rfl rfl rfl (by decide +kernel) ⟨Nat.le_of_ble_eq_true rfl, Nat.le_of_ble_eq_true rfl⟩) hK hN rfl hP rfl hl.1 rfl (Nat.le_of_ble_eq_true rfl) dX8_bend_20 ⟨Nat.zero_le _, Nat.zero_le _⟩) hS (fun _ h => h) (fun v20 H locs h20 hP hS => ?_)
    refine z_if_ne (tgt := 30) hx hb dX8_bend_23 (by decide) (fun c23 => ?_) (fun c23 => ?_)
    · skip
      refine lv_iload_n hx hb dX8_bend_30 rfl (lv_at hl 2 rfl) ?_
      refine z_if_ne (tgt := 43) hx hb dX8_bend_31 (by decide) (fun c31 => ?_) (fun c31 => ?_)
      · skip
        refine lv_iload_n hx hb dX8_bend_43 rfl (lv_at hl 2 rfl) ?_
        refine z_ic hx hb dX8_bend_44 (by decide) (fun v44 h44 => ?_)
        refine z_icmp_ne (tgt := 57) hx hb dX8_bend_45 (by decide) (fun c45 => ?_) (fun c45 => ?_)
        · skip
          refine lv_aload_n hx hb dX8_bend_57 rfl (lv_at hl 0 rfl) ?_
          refine va_get (ci := 8) (C := RX8) (T := TX8) (N := 49) (v := .ref (ad 21)) hx hb hts inX8 hown hK hP 0 (zw_at (by decide) e15) rfl 34 (by decide) fl71 (fun _ h => h) rfl dX8_bend_58 ?_
          refine lv_iload_n hx hb dX8_bend_61 rfl (lv_at hl 1 rfl) ?_
          obtain ⟨f62, e62⟩ := mg_BL hO
          refine z_iald hx hb hK hP (q0 := 21) 0 (by decide) e62 rfl (by omega) dX8_bend_62 (fun v62 r62 => ?_)
          exact z_reti hx hb hr hlocks hP hS dX8_bend_63 ⟨⟨hO, hPP⟩, trivial⟩
        · skip
          refine lv_aload_n hx hb dX8_bend_48 rfl (lv_at hl 0 rfl) ?_
          refine va_get (ci := 8) (C := RX8) (T := TX8) (N := 49) (v := .ref (ad 20)) hx hb hts inX8 hown hK hP 0 (zw_at (by decide) e15) rfl 33 (by decide) fl68 (fun _ h => h) rfl dX8_bend_49 ?_
          refine lv_iload_n hx hb dX8_bend_52 rfl (lv_at hl 1 rfl) ?_
          obtain ⟨f53, e53⟩ := mg_BY hO
          refine z_iald hx hb hK hP (q0 := 20) 0 (by decide) e53 rfl (by omega) dX8_bend_53 (fun v53 r53 => ?_)
          refine lv_goto (tgt := 63) hx hb dX8_bend_54 (by decide) ?_
          exact z_reti hx hb hr hlocks hP hS dX8_bend_63 ⟨⟨hO, hPP⟩, trivial⟩
      · skip
        refine lv_aload_n hx hb dX8_bend_34 rfl (lv_at hl 0 rfl) ?_
        refine va_get (ci := 8) (C := RX8) (T := TX8) (N := 49) (v := .ref (ad 19)) hx hb hts inX8 hown hK hP 0 (zw_at (by decide) e15) rfl 32 (by decide) fl65 (fun _ h => h) rfl dX8_bend_35 ?_
        refine lv_iload_n hx hb dX8_bend_38 rfl (lv_at hl 1 rfl) ?_
        obtain ⟨f39, e39⟩ := mg_BX hO
        refine z_iald hx hb hK hP (q0 := 19) 0 (by decide) e39 rfl (by omega) dX8_bend_39 (fun v39 r39 => ?_)
        refine lv_goto (tgt := 63) hx hb dX8_bend_40 (by decide) ?_
        exact z_reti hx hb hr hlocks hP hS dX8_bend_63 ⟨⟨hO, hPP⟩, trivial⟩
    · skip
      refine z_ic hx hb dX8_bend_26 (by decide) (fun v26 h26 => ?_)
      refine lv_goto (tgt := 63) hx hb dX8_bend_27 (by decide) ?_
      exact z_reti hx hb hr hlocks hP hS dX8_bend_63 ⟨⟨hO, hPP⟩, trivial⟩
  · skip
    refine z_bi hx hb dX8_bend_9 (by decide) (fun v9 h9 => ?_)
    exact z_reti hx hb hr hlocks hP hS dX8_bend_11 ⟨⟨hO, hPP⟩, trivial⟩
set_option maxHeartbeats 8000000 in
set_option maxRecDepth 100000 in
theorem c_X8_aboutOf (l : Launch) (D : va_G) (cy : Nat → ClassId) (ad : Nat → Nat) (cnt : Nat → Nat) (nd : Nat) (wn : Nat) (S : Nat → Int32) (By : Nat → Int32) (Ah : Nat → Int32) (PP : (Nat → va_E) → Prop) (hJ : zJ 34 ad) (p1 : Int32) (p2 : Int32) (q_p1 : 0 ≤ p1.toInt ∧ p1.toInt ≤ 5) : zM l D (mT cy) 34 ad (fun c1 => mOK cy ad cnt nd wn S By Ah c1 ∧ PP c1) yX8_aboutOf vsX8_aboutOf { frames := 0, cells := 0, slots := 0, locals := 0 } ([.ref (ad 0), .int p1, .int p2] : List Value) (zQi D 34 ad (fun r ce => (mOK cy ad cnt nd wn S By Ah ce ∧ PP ce) ∧ (True))) := by
  refine z_of (cc := cX8_aboutOf) (maxL := 3) (ret := (some .int)) (by decide) rfl (Nat.le_of_ble_eq_true rfl) ?_
  intro p e s m below meth c hx hb hr hts hown hlocks hml hK hN ce hOK hP
  have hown : s.vm.findClass RX8 = some m.cls := hown
  have hS : va_S (zA 34 ad) s.heap s.heap [] := va_S.rf
  obtain ⟨hO, hPP⟩ := hOK
  have inX8 : ∀ w ∈ u_ws RX8 TX8 49, w ∈ vsX8_aboutOf := fun w h => List.mem_cons_of_mem _ (inlX8 w h)
  have fl74 := hts (.fieldLink RX8 74 "GroundKeeperModel" "wl" "[I") (List.mem_cons_of_mem _ mw_422)
  have fl77 := hts (.fieldLink RX8 77 "GroundKeeperModel" "wx" "[I") (List.mem_cons_of_mem _ mw_423)
  have fl80 := hts (.fieldLink RX8 80 "GroundKeeperModel" "wy" "[I") (List.mem_cons_of_mem _ mw_424)
  have fl83 := hts (.fieldLink RX8 83 "GroundKeeperModel" "ahead" "[I") (List.mem_cons_of_mem _ mw_426)
  have fl95 := hts (.fieldLink RX8 95 "GroundKeeperModel" "waited" "[I") (List.mem_cons_of_mem _ mw_432)
  have fl98 := hts (.fieldLink RX8 98 "GroundKeeperModel" "isStuck" "[Z") (List.mem_cons_of_mem _ mw_430)
  have fl101 := hts (.fieldLink RX8 101 "GroundKeeperModel" "steps" "[I") (List.mem_cons_of_mem _ mw_433)
  have fl104 := hts (.fieldLink RX8 104 "GroundKeeperModel" "went" "[I") (List.mem_cons_of_mem _ mw_434)
  have fl107 := hts (.fieldLink RX8 107 "GroundKeeperModel" "looked" "[I") (List.mem_cons_of_mem _ mw_431)
  intro ls hl
  have hl : lv_has ls 3 [(0, .ref (ad 0)), (1, .int p1), (2, .int p2)] := hl
  refine lv_iload_n hx hb dX8_aboutOf_0 rfl (lv_at hl 2 rfl) ?_
  by_cases w1 : p2.toInt < 0 ∨ 7 < p2.toInt
  · skip
    refine lv_tableOut (tgt := 112) hx hb dX8_aboutOf_1 w1 (by decide) ?_
    refine lv_aload_n hx hb dX8_aboutOf_112 rfl (lv_at hl 0 rfl) ?_
    obtain ⟨v113, v113a, v113b, v113c, v113d, v113e, v113f, v113g, v113h, v113i, v113j, v113k, v113l, v113m, v113n, v113o, e113, h113, h113a, h113b, h113c, h113d, h113e, h113f, h113g, h113h, h113i, h113j, h113k, h113l, h113m, h113n, h113o, h113p, h113q, h113r, h113s, h113t, h113u⟩ := mg_Mo hO
    refine va_get (ci := 8) (C := RX8) (T := TX8) (N := 49) (v := .ref (ad 33)) hx hb hts inX8 hown hK hP 0 (zw_at (by decide) e113) rfl 47 (by decide) fl107 (fun _ h => h) rfl dX8_aboutOf_113 ?_
    refine lv_iload_n hx hb dX8_aboutOf_116 rfl (lv_at hl 1 rfl) ?_
    obtain ⟨f117, e117⟩ := mg_Lo hO
    refine z_iald hx hb hK hP (q0 := 33) 0 (by decide) e117 rfl (by omega) dX8_aboutOf_117 (fun v117 r117 => ?_)
    exact z_reti hx hb hr hlocks hP hS dX8_aboutOf_118 ⟨⟨hO, hPP⟩, trivial⟩
  have w118 : p2.toInt = 0 ∨ p2.toInt = 1 ∨ p2.toInt = 2 ∨ p2.toInt = 3 ∨ p2.toInt = 4 ∨ p2.toInt = 5 ∨ p2.toInt = 6 ∨ p2.toInt = 7 := by omega
  rcases w118 with w118 | w118 | w118 | w118 | w118 | w118 | w118 | w118
  · skip
    refine lv_tableIn (off := 47) (tgt := 48) hx hb dX8_aboutOf_1 (by omega) (by omega) (by rw [w118]; rfl) (by decide) ?_
    refine lv_aload_n hx hb dX8_aboutOf_48 rfl (lv_at hl 0 rfl) ?_
    obtain ⟨v49, v49a, v49b, v49c, v49d, v49e, v49f, v49g, v49h, v49i, v49j, v49k, v49l, v49m, v49n, v49o, e49, h49, h49a, h49b, h49c, h49d, h49e, h49f, h49g, h49h, h49i, h49j, h49k, h49l, h49m, h49n, h49o, h49p, h49q, h49r, h49s, h49t, h49u⟩ := mg_Mo hO
    refine va_get (ci := 8) (C := RX8) (T := TX8) (N := 49) (v := .ref (ad 23)) hx hb hts inX8 hown hK hP 0 (zw_at (by decide) e49) rfl 37 (by decide) fl77 (fun _ h => h) rfl dX8_aboutOf_49 ?_
    refine lv_iload_n hx hb dX8_aboutOf_52 rfl (lv_at hl 1 rfl) ?_
    obtain ⟨f53, e53⟩ := mg_Wx hO
    refine z_iald hx hb hK hP (q0 := 23) 0 (by decide) e53 rfl (by omega) dX8_aboutOf_53 (fun v53 r53 => ?_)
    exact z_reti hx hb hr hlocks hP hS dX8_aboutOf_54 ⟨⟨hO, hPP⟩, trivial⟩
  · skip
    refine lv_tableIn (off := 54) (tgt := 55) hx hb dX8_aboutOf_1 (by omega) (by omega) (by rw [w118]; rfl) (by decide) ?_
    refine lv_aload_n hx hb dX8_aboutOf_55 rfl (lv_at hl 0 rfl) ?_
    obtain ⟨v56, v56a, v56b, v56c, v56d, v56e, v56f, v56g, v56h, v56i, v56j, v56k, v56l, v56m, v56n, v56o, e56, h56, h56a, h56b, h56c, h56d, h56e, h56f, h56g, h56h, h56i, h56j, h56k, h56l, h56m, h56n, h56o, h56p, h56q, h56r, h56s, h56t, h56u⟩ := mg_Mo hO
    refine va_get (ci := 8) (C := RX8) (T := TX8) (N := 49) (v := .ref (ad 24)) hx hb hts inX8 hown hK hP 0 (zw_at (by decide) e56) rfl 38 (by decide) fl80 (fun _ h => h) rfl dX8_aboutOf_56 ?_
    refine lv_iload_n hx hb dX8_aboutOf_59 rfl (lv_at hl 1 rfl) ?_
    obtain ⟨f60, e60⟩ := mg_Wz hO
    refine z_iald hx hb hK hP (q0 := 24) 0 (by decide) e60 rfl (by omega) dX8_aboutOf_60 (fun v60 r60 => ?_)
    exact z_reti hx hb hr hlocks hP hS dX8_aboutOf_61 ⟨⟨hO, hPP⟩, trivial⟩
  · skip
    refine lv_tableIn (off := 61) (tgt := 62) hx hb dX8_aboutOf_1 (by omega) (by omega) (by rw [w118]; rfl) (by decide) ?_
    refine lv_aload_n hx hb dX8_aboutOf_62 rfl (lv_at hl 0 rfl) ?_
    obtain ⟨v63, v63a, v63b, v63c, v63d, v63e, v63f, v63g, v63h, v63i, v63j, v63k, v63l, v63m, v63n, v63o, e63, h63, h63a, h63b, h63c, h63d, h63e, h63f, h63g, h63h, h63i, h63j, h63k, h63l, h63m, h63n, h63o, h63p, h63q, h63r, h63s, h63t, h63u⟩ := mg_Mo hO
    refine va_get (ci := 8) (C := RX8) (T := TX8) (N := 49) (v := .ref (ad 22)) hx hb hts inX8 hown hK hP 0 (zw_at (by decide) e63) rfl 36 (by decide) fl74 (fun _ h => h) rfl dX8_aboutOf_63 ?_
    refine lv_iload_n hx hb dX8_aboutOf_66 rfl (lv_at hl 1 rfl) ?_
    obtain ⟨f67, e67⟩ := mg_Wl hO
    refine z_iald hx hb hK hP (q0 := 22) 0 (by decide) e67 rfl (by omega) dX8_aboutOf_67 (fun v67 r67 => ?_)
    exact z_reti hx hb hr hlocks hP hS dX8_aboutOf_68 ⟨⟨hO, hPP⟩, trivial⟩
  · skip
    refine lv_tableIn (off := 68) (tgt := 69) hx hb dX8_aboutOf_1 (by omega) (by omega) (by rw [w118]; rfl) (by decide) ?_
    refine lv_aload_n hx hb dX8_aboutOf_69 rfl (lv_at hl 0 rfl) ?_
    obtain ⟨v70, v70a, v70b, v70c, v70d, v70e, v70f, v70g, v70h, v70i, v70j, v70k, v70l, v70m, v70n, v70o, e70, h70, h70a, h70b, h70c, h70d, h70e, h70f, h70g, h70h, h70i, h70j, h70k, h70l, h70m, h70n, h70o, h70p, h70q, h70r, h70s, h70t, h70u⟩ := mg_Mo hO
    refine va_get (ci := 8) (C := RX8) (T := TX8) (N := 49) (v := .ref (ad 25)) hx hb hts inX8 hown hK hP 0 (zw_at (by decide) e70) rfl 39 (by decide) fl83 (fun _ h => h) rfl dX8_aboutOf_70 ?_
    refine lv_iload_n hx hb dX8_aboutOf_73 rfl (lv_at hl 1 rfl) ?_
    obtain ⟨e74, h74⟩ := mg_Ah hO
    refine z_iald hx hb hK hP (q0 := 25) 0 (by decide) e74 rfl (by omega) dX8_aboutOf_74 (fun v74 r74 => ?_)
    have h74a : 0 ≤ v74.toInt ∧ v74.toInt ≤ 93 := by obtain ⟨i0, _, i1, i2⟩ := r74; rw [i2]; exact h74 i0 i1
    exact z_reti hx hb hr hlocks hP hS dX8_aboutOf_75 ⟨⟨hO, hPP⟩, trivial⟩
  · skip
    refine lv_tableIn (off := 75) (tgt := 76) hx hb dX8_aboutOf_1 (by omega) (by omega) (by rw [w118]; rfl) (by decide) ?_
    refine lv_aload_n hx hb dX8_aboutOf_76 rfl (lv_at hl 0 rfl) ?_
    obtain ⟨v77, v77a, v77b, v77c, v77d, v77e, v77f, v77g, v77h, v77i, v77j, v77k, v77l, v77m, v77n, v77o, e77, h77, h77a, h77b, h77c, h77d, h77e, h77f, h77g, h77h, h77i, h77j, h77k, h77l, h77m, h77n, h77o, h77p, h77q, h77r, h77s, h77t, h77u⟩ := mg_Mo hO
    refine va_get (ci := 8) (C := RX8) (T := TX8) (N := 49) (v := .ref (ad 29)) hx hb hts inX8 hown hK hP 0 (zw_at (by decide) e77) rfl 43 (by decide) fl95 (fun _ h => h) rfl dX8_aboutOf_77 ?_
    refine lv_iload_n hx hb dX8_aboutOf_80 rfl (lv_at hl 1 rfl) ?_
    obtain ⟨f81, e81⟩ := mg_Wt hO
    refine z_iald hx hb hK hP (q0 := 29) 0 (by decide) e81 rfl (by omega) dX8_aboutOf_81 (fun v81 r81 => ?_)
    exact z_reti hx hb hr hlocks hP hS dX8_aboutOf_82 ⟨⟨hO, hPP⟩, trivial⟩
  · skip
    refine lv_tableIn (off := 82) (tgt := 83) hx hb dX8_aboutOf_1 (by omega) (by omega) (by rw [w118]; rfl) (by decide) ?_
    refine lv_aload_n hx hb dX8_aboutOf_83 rfl (lv_at hl 0 rfl) ?_
    obtain ⟨v84, v84a, v84b, v84c, v84d, v84e, v84f, v84g, v84h, v84i, v84j, v84k, v84l, v84m, v84n, v84o, e84, h84, h84a, h84b, h84c, h84d, h84e, h84f, h84g, h84h, h84i, h84j, h84k, h84l, h84m, h84n, h84o, h84p, h84q, h84r, h84s, h84t, h84u⟩ := mg_Mo hO
    refine va_get (ci := 8) (C := RX8) (T := TX8) (N := 49) (v := .ref (ad 30)) hx hb hts inX8 hown hK hP 0 (zw_at (by decide) e84) rfl 44 (by decide) fl98 (fun _ h => h) rfl dX8_aboutOf_84 ?_
    refine lv_iload_n hx hb dX8_aboutOf_87 rfl (lv_at hl 1 rfl) ?_
    obtain ⟨f88, e88⟩ := mg_Is hO
    refine z_zald hx hb hK hP (q0 := 30) 1 (by decide) e88 rfl (by omega) dX8_aboutOf_88 (fun v88 r88 => ?_)
    refine z_if_eq (tgt := 96) hx hb dX8_aboutOf_89 (by decide) (fun c89 => ?_) (fun c89 => ?_)
    · skip
      refine z_ic hx hb dX8_aboutOf_96 (by decide) (fun v96 h96 => ?_)
      exact z_reti hx hb hr hlocks hP hS dX8_aboutOf_97 ⟨⟨hO, hPP⟩, trivial⟩
    · skip
      refine z_ic hx hb dX8_aboutOf_92 (by decide) (fun v92 h92 => ?_)
      refine lv_goto (tgt := 97) hx hb dX8_aboutOf_93 (by decide) ?_
      exact z_reti hx hb hr hlocks hP hS dX8_aboutOf_97 ⟨⟨hO, hPP⟩, trivial⟩
  · skip
    refine lv_tableIn (off := 97) (tgt := 98) hx hb dX8_aboutOf_1 (by omega) (by omega) (by rw [w118]; rfl) (by decide) ?_
    refine lv_aload_n hx hb dX8_aboutOf_98 rfl (lv_at hl 0 rfl) ?_
    obtain ⟨v99, v99a, v99b, v99c, v99d, v99e, v99f, v99g, v99h, v99i, v99j, v99k, v99l, v99m, v99n, v99o, e99, h99, h99a, h99b, h99c, h99d, h99e, h99f, h99g, h99h, h99i, h99j, h99k, h99l, h99m, h99n, h99o, h99p, h99q, h99r, h99s, h99t, h99u⟩ := mg_Mo hO
    refine va_get (ci := 8) (C := RX8) (T := TX8) (N := 49) (v := .ref (ad 31)) hx hb hts inX8 hown hK hP 0 (zw_at (by decide) e99) rfl 45 (by decide) fl101 (fun _ h => h) rfl dX8_aboutOf_99 ?_
    refine lv_iload_n hx hb dX8_aboutOf_102 rfl (lv_at hl 1 rfl) ?_
    obtain ⟨f103, e103⟩ := mg_Ss hO
    refine z_iald hx hb hK hP (q0 := 31) 0 (by decide) e103 rfl (by omega) dX8_aboutOf_103 (fun v103 r103 => ?_)
    exact z_reti hx hb hr hlocks hP hS dX8_aboutOf_104 ⟨⟨hO, hPP⟩, trivial⟩
  · skip
    refine lv_tableIn (off := 104) (tgt := 105) hx hb dX8_aboutOf_1 (by omega) (by omega) (by rw [w118]; rfl) (by decide) ?_
    refine lv_aload_n hx hb dX8_aboutOf_105 rfl (lv_at hl 0 rfl) ?_
    obtain ⟨v106, v106a, v106b, v106c, v106d, v106e, v106f, v106g, v106h, v106i, v106j, v106k, v106l, v106m, v106n, v106o, e106, h106, h106a, h106b, h106c, h106d, h106e, h106f, h106g, h106h, h106i, h106j, h106k, h106l, h106m, h106n, h106o, h106p, h106q, h106r, h106s, h106t, h106u⟩ := mg_Mo hO
    refine va_get (ci := 8) (C := RX8) (T := TX8) (N := 49) (v := .ref (ad 32)) hx hb hts inX8 hown hK hP 0 (zw_at (by decide) e106) rfl 46 (by decide) fl104 (fun _ h => h) rfl dX8_aboutOf_106 ?_
    refine lv_iload_n hx hb dX8_aboutOf_109 rfl (lv_at hl 1 rfl) ?_
    obtain ⟨f110, e110⟩ := mg_We hO
    refine z_iald hx hb hK hP (q0 := 32) 0 (by decide) e110 rfl (by omega) dX8_aboutOf_110 (fun v110 r110 => ?_)
    exact z_reti hx hb hr hlocks hP hS dX8_aboutOf_111 ⟨⟨hO, hPP⟩, trivial⟩
set_option maxHeartbeats 8000000 in
set_option maxRecDepth 100000 in
theorem c_X8_about (l : Launch) (D : va_G) (cy : Nat → ClassId) (ad : Nat → Nat) (cnt : Nat → Nat) (nd : Nat) (wn : Nat) (S : Nat → Int32) (By : Nat → Int32) (Ah : Nat → Int32) (PP : (Nat → va_E) → Prop) (hJ : zJ 34 ad) (p1 : Int32) (p2 : Int32) : zM l D (mT cy) 34 ad (fun c1 => mOK cy ad cnt nd wn S By Ah c1 ∧ PP c1) yX8_about vsX8_about { frames := 2, cells := 0, slots := 0, locals := 43 } ([.ref (ad 0), .int p1, .int p2] : List Value) (zQi D 34 ad (fun r ce => (mOK cy ad cnt nd wn S By Ah ce ∧ PP ce) ∧ (True))) := by
  refine z_of (cc := cX8_about) (maxL := 3) (ret := (some .int)) (by decide) rfl (Nat.le_of_ble_eq_true rfl) ?_
  intro p e s m below meth c hx hb hr hts hown hlocks hml hK hN ce hOK hP
  have hown : s.vm.findClass RX8 = some m.cls := hown
  have hS : va_S (zA 34 ad) s.heap s.heap [] := va_S.rf
  obtain ⟨hO, hPP⟩ := hOK
  intro ls hl
  have hl : lv_has ls 3 [(0, .ref (ad 0)), (1, .int p1), (2, .int p2)] := hl
  refine lv_aload_n hx hb dX8_about_0 rfl (lv_at hl 0 rfl) ?_
  refine lv_iload_n hx hb dX8_about_1 rfl (lv_at hl 1 rfl) ?_
  obtain ⟨v2, v2a, v2b, v2c, v2d, v2e, v2f, v2g, v2h, v2i, v2j, v2k, v2l, v2m, v2n, v2o, e2, h2, h2a, h2b, h2c, h2d, h2e, h2f, h2g, h2h, h2i, h2j, h2k, h2l, h2m, h2n, h2o, h2p, h2q, h2r, h2s, h2t, h2u⟩ := mg_Mo hO
  refine z_ciP (z_rV (q0 := 0) (As := [.int p1]) (rest := []) ⟨hx, hb, hml, hown, hts⟩ (c_X8_isWalker l D cy ad cnt nd wn S By Ah (fun c1 => c1 = ce) hJ p1) (cwV 1 hts (g_V mw_471 mw_472 mw_473 mw_324 mw_474) rfl rfl rfl (by decide +kernel) ⟨Nat.le_of_ble_eq_true rfl, Nat.le_of_ble_eq_true rfl⟩) hK hN ⟨hO, rfl⟩ hP (by decide) e2 rfl rfl hl.1 rfl (Nat.le_of_ble_eq_true rfl) dX8_about_2 ⟨Nat.zero_le _, Nat.zero_le _⟩) hS (fun _ h => h.2) (fun v2p H locs h2v hP hS => ?_)
  refine z_if_eq (tgt := 27) hx hb dX8_about_5 (by decide) (fun c5 => ?_) (fun c5 => ?_)
  · skip
    refine z_bi hx hb dX8_about_27 (by decide) (fun v27 h27 => ?_)
    exact z_reti hx hb hr hlocks hP hS dX8_about_29 ⟨⟨hO, hPP⟩, trivial⟩
  · skip
    refine lv_iload_n hx hb dX8_about_8 rfl (lv_at hl 2 rfl) ?_
    refine z_ic hx hb dX8_about_9 (by decide) (fun v9 h9 => ?_)
    refine z_bi hx hb dX8_about_10 (by decide) (fun v10 h10 => ?_)
    refine z_ciP (z_rS (As := [.int p2, .int v9, .int v10]) (rest := []) ⟨hx, hb, hml, hown, hts⟩ (c_X8_in l D (mT cy) 34 ad (fun c1 => c1 = ce) p2 v9 v10) (va_cwS 3 hts (g_S mw_322 mw_323 mw_324 mw_325) rfl rfl rfl (by decide +kernel) ⟨Nat.le_of_ble_eq_true rfl, Nat.le_of_ble_eq_true rfl⟩) hK hN rfl hP rfl hl.1 rfl (Nat.le_of_ble_eq_true rfl) dX8_about_12 ⟨Nat.zero_le _, Nat.zero_le _⟩) hS (fun _ h => h) (fun v12 H locs h12 hP hS => ?_)
    refine z_if_eq (tgt := 27) hx hb dX8_about_15 (by decide) (fun c15 => ?_) (fun c15 => ?_)
    · skip
      refine z_bi hx hb dX8_about_27 (by decide) (fun v27 h27 => ?_)
      exact z_reti hx hb hr hlocks hP hS dX8_about_29 ⟨⟨hO, hPP⟩, trivial⟩
    · skip
      refine lv_aload_n hx hb dX8_about_18 rfl (lv_at hl 0 rfl) ?_
      refine lv_iload_n hx hb dX8_about_19 rfl (lv_at hl 1 rfl) ?_
      refine lv_iload_n hx hb dX8_about_20 rfl (lv_at hl 2 rfl) ?_
      refine z_ciP (z_rV (q0 := 0) (As := [.int p1, .int p2]) (rest := []) ⟨hx, hb, hml, hown, hts⟩ (c_X8_aboutOf l D cy ad cnt nd wn S By Ah (fun c1 => c1 = ce) hJ p1 p2 (by omega)) (cwV 2 hts (g_V mw_475 mw_476 mw_477 mw_324 mw_478) rfl rfl rfl (by decide +kernel) ⟨Nat.le_of_ble_eq_true rfl, Nat.le_of_ble_eq_true rfl⟩) hK hN ⟨hO, rfl⟩ hP (by decide) e2 rfl rfl hl.1 rfl (Nat.le_of_ble_eq_true rfl) dX8_about_21 ⟨Nat.zero_le _, Nat.zero_le _⟩) hS (fun _ h => h.2) (fun v21 H locs h21 hP hS => ?_)
      refine lv_goto (tgt := 29) hx hb dX8_about_24 (by decide) ?_
      exact z_reti hx hb hr hlocks hP hS dX8_about_29 ⟨⟨hO, hPP⟩, trivial⟩
set_option maxHeartbeats 8000000 in
set_option maxRecDepth 100000 in
theorem c_X8_count (l : Launch) (D : va_G) (cy : Nat → ClassId) (ad : Nat → Nat) (cnt : Nat → Nat) (nd : Nat) (wn : Nat) (S : Nat → Int32) (By : Nat → Int32) (Ah : Nat → Int32) (PP : (Nat → va_E) → Prop) (hJ : zJ 34 ad) (p1 : Int32) : zM l D (mT cy) 34 ad (fun c1 => mOK cy ad cnt nd wn S By Ah c1 ∧ PP c1) yX8_count vsX8_count { frames := 0, cells := 0, slots := 0, locals := 0 } ([.ref (ad 0), .int p1] : List Value) (zQi D 34 ad (fun r ce => (mOK cy ad cnt nd wn S By Ah ce ∧ PP ce) ∧ (True))) := by
  refine z_of (cc := cX8_count) (maxL := 4) (ret := (some .int)) (by decide) rfl (Nat.le_of_ble_eq_true rfl) ?_
  intro p e s m below meth c hx hb hr hts hown hlocks hml hK hN ce hOK hP
  have hown : s.vm.findClass RX8 = some m.cls := hown
  have hS : va_S (zA 34 ad) s.heap s.heap [] := va_S.rf
  obtain ⟨hO, hPP⟩ := hOK
  have inX8 : ∀ w ∈ u_ws RX8 TX8 49, w ∈ vsX8_count := fun w h => List.mem_cons_of_mem _ (inlX8 w h)
  have fl13 := hts (.fieldLink RX8 13 "GroundKeeperModel" "isDown" "[Z") (List.mem_cons_of_mem _ mw_340)
  have fl23 := hts (.fieldLink RX8 23 "GroundKeeperModel" "isShut" "[Z") (List.mem_cons_of_mem _ mw_347)
  have fl121 := hts (.fieldLink RX8 121 "GroundKeeperModel" "rooms" "I") (List.mem_cons_of_mem _ mw_343)
  have fl129 := hts (.fieldLink RX8 129 "GroundKeeperModel" "walkers" "I") (List.mem_cons_of_mem _ mw_425)
  have fl135 := hts (.fieldLink RX8 135 "GroundKeeperModel" "doors" "I") (List.mem_cons_of_mem _ mw_348)
  have fl142 := hts (.fieldLink RX8 142 "GroundKeeperModel" "ledges" "I") (List.mem_cons_of_mem _ mw_349)
  have fl146 := hts (.fieldLink RX8 146 "GroundKeeperModel" "ladders" "I") (List.mem_cons_of_mem _ mw_378)
  have fl266 := hts (.fieldLink RX8 266 "GroundKeeperModel" "ticks" "I") (List.mem_cons_of_mem _ mw_459)
  have L93 : ∀ N93 : Nat, ∀ (H : Heap) (locs : List Loc) (x2 : Int32) (x3 : Int32), va_P D vwCl (zw 34 ad ce) H → va_S (zA 34 ad) s.heap H locs → (0 ≤ x3.toInt ∧ x3.toInt ≤ 6) → (7 - x3.toInt ≤ (N93 : Int)) → ∀ ls : Array Slot, lv_has ls 4 [(0, .ref (ad 0)), (2, .int x2), (3, .int x3)] → W p l e { frames := 0, cells := 0, slots := 0, locals := 0 } s m ([.ref (ad 0), .int p1] : List Value).toArray below meth c H locs 0 0 (MQ below (zQi D 34 ad (fun r ce => (mOK cy ad cnt nd wn S By Ah ce ∧ PP ce) ∧ (True))) ([.ref (ad 0), .int p1] : List Value).toArray s 0 0 (zA 34 ad)) (F0 m 93 ls []) := by
    intro N93
    induction N93 with
    | zero =>
      intro H locs x2 x3 hP hS q_x3 hm ls hl
      exfalso; omega
    | succ N93 ih93 =>
      have J116 : ∀ (H : Heap) (locs : List Loc) (x3 : Int32) (s0 : Int32) (s1 : Int32), va_P D vwCl (zw 34 ad ce) H → va_S (zA 34 ad) s.heap H locs → (0 ≤ x3.toInt ∧ x3.toInt ≤ 5) → (0 ≤ s1.toInt ∧ s1.toInt ≤ 1) → (7 - x3.toInt ≤ (N93 : Int) + 1) → ∀ ls : Array Slot, lv_has ls 4 [(0, .ref (ad 0)), (3, .int x3)] → W p l e { frames := 0, cells := 0, slots := 0, locals := 0 } s m ([.ref (ad 0), .int p1] : List Value).toArray below meth c H locs 0 0 (MQ below (zQi D 34 ad (fun r ce => (mOK cy ad cnt nd wn S By Ah ce ∧ PP ce) ∧ (True))) ([.ref (ad 0), .int p1] : List Value).toArray s 0 0 (zA 34 ad)) (F0 m 116 ls [.int s1, .int s0]) := by
        intro H locs x3 s0 s1 hP hS q_x3 q_s1 qm93 ls hl
        refine lv_iadd hx hb dX8_count_116 ?_
        refine lv_topi (fun v116 _ => ?_)
        refine lv_istore_n (lv' := [(2, .int v116), (0, .ref (ad 0)), (3, .int x3)]) hx hb dX8_count_117 rfl hl (by decide) rfl (fun ls hl => ?_)
        refine z_iinc (lv' := fun w0 => [(3, .int w0), (2, .int v116), (0, .ref (ad 0))]) hx hb dX8_count_118 hl (k := 2) rfl (by decide) (fun _ => rfl) (by decide) (by omega) (fun v118 ls h118 hl => ?_)
        refine lv_goto (tgt := 93) hx hb dX8_count_121 (by decide) ?_
        exact ih93 _ _ v116 v118 hP hS (by omega) (by omega) _ (lv_sub hl [2, 1, 0] rfl)
      intro H locs x2 x3 hP hS q_x3 hm ls hl
      refine lv_iload_n hx hb dX8_count_93 rfl (lv_at hl 2 rfl) ?_
      refine lv_aload_n hx hb dX8_count_94 rfl (lv_at hl 0 rfl) ?_
      obtain ⟨v95, v95a, v95b, v95c, v95d, v95e, v95f, v95g, v95h, v95i, v95j, v95k, v95l, v95m, v95n, v95o, e95, h95, h95a, h95b, h95c, h95d, h95e, h95f, h95g, h95h, h95i, h95j, h95k, h95l, h95m, h95n, h95o, h95p, h95q, h95r, h95s, h95t, h95u⟩ := mg_Mo hO
      refine va_get (ci := 8) (C := RX8) (T := TX8) (N := 49) (v := .int v95a) hx hb hts inX8 hown hK hP 0 (zw_at (by decide) e95) rfl 4 (by decide) fl135 (fun _ h => h) rfl dX8_count_95 ?_
      refine z_icmp_ge (tgt := 124) hx hb dX8_count_98 (by decide) (fun c98 => ?_) (fun c98 => ?_)
      · skip
        refine lv_iload_n hx hb dX8_count_124 rfl (lv_at hl 1 rfl) ?_
        exact z_reti hx hb hr hlocks hP hS dX8_count_125 ⟨⟨hO, hPP⟩, trivial⟩
      · skip
        refine lv_iload_n hx hb dX8_count_101 rfl (lv_at hl 1 rfl) ?_
        refine lv_aload_n hx hb dX8_count_102 rfl (lv_at hl 0 rfl) ?_
        refine va_get (ci := 8) (C := RX8) (T := TX8) (N := 49) (v := .ref (ad 5)) hx hb hts inX8 hown hK hP 0 (zw_at (by decide) e95) rfl 6 (by decide) fl23 (fun _ h => h) rfl dX8_count_103 ?_
        refine lv_iload_n hx hb dX8_count_106 rfl (lv_at hl 2 rfl) ?_
        obtain ⟨f107, e107⟩ := mg_Sh hO
        refine z_zald hx hb hK hP (q0 := 5) 1 (by decide) e107 rfl (by omega) dX8_count_107 (fun v107 r107 => ?_)
        refine z_if_eq (tgt := 115) hx hb dX8_count_108 (by decide) (fun c108 => ?_) (fun c108 => ?_)
        · skip
          refine z_ic hx hb dX8_count_115 (by decide) (fun v115 h115 => ?_)
          exact J116 _ _ x3 x2 v115 hP hS (by omega) (by omega) (by omega) _ (lv_sub hl [0, 2] rfl)
        · skip
          refine z_ic hx hb dX8_count_111 (by decide) (fun v111 h111 => ?_)
          refine lv_goto (tgt := 116) hx hb dX8_count_112 (by decide) ?_
          exact J116 _ _ x3 x2 v111 hP hS (by omega) (by omega) (by omega) _ (lv_sub hl [0, 2] rfl)
  have L55 : ∀ N55 : Nat, ∀ (H : Heap) (locs : List Loc) (x2 : Int32) (x3 : Int32), va_P D vwCl (zw 34 ad ce) H → va_S (zA 34 ad) s.heap H locs → (0 ≤ x3.toInt ∧ x3.toInt ≤ 8) → (9 - x3.toInt ≤ (N55 : Int)) → ∀ ls : Array Slot, lv_has ls 4 [(0, .ref (ad 0)), (2, .int x2), (3, .int x3)] → W p l e { frames := 0, cells := 0, slots := 0, locals := 0 } s m ([.ref (ad 0), .int p1] : List Value).toArray below meth c H locs 0 0 (MQ below (zQi D 34 ad (fun r ce => (mOK cy ad cnt nd wn S By Ah ce ∧ PP ce) ∧ (True))) ([.ref (ad 0), .int p1] : List Value).toArray s 0 0 (zA 34 ad)) (F0 m 55 ls []) := by
    intro N55
    induction N55 with
    | zero =>
      intro H locs x2 x3 hP hS q_x3 hm ls hl
      exfalso; omega
    | succ N55 ih55 =>
      have J76 : ∀ (H : Heap) (locs : List Loc) (x3 : Int32) (s0 : Int32) (s1 : Int32), va_P D vwCl (zw 34 ad ce) H → va_S (zA 34 ad) s.heap H locs → (0 ≤ x3.toInt ∧ x3.toInt ≤ 7) → (0 ≤ s1.toInt ∧ s1.toInt ≤ 1) → (9 - x3.toInt ≤ (N55 : Int) + 1) → ∀ ls : Array Slot, lv_has ls 4 [(0, .ref (ad 0)), (3, .int x3)] → W p l e { frames := 0, cells := 0, slots := 0, locals := 0 } s m ([.ref (ad 0), .int p1] : List Value).toArray below meth c H locs 0 0 (MQ below (zQi D 34 ad (fun r ce => (mOK cy ad cnt nd wn S By Ah ce ∧ PP ce) ∧ (True))) ([.ref (ad 0), .int p1] : List Value).toArray s 0 0 (zA 34 ad)) (F0 m 76 ls [.int s1, .int s0]) := by
        intro H locs x3 s0 s1 hP hS q_x3 q_s1 qm55 ls hl
        refine lv_iadd hx hb dX8_count_76 ?_
        refine lv_topi (fun v76 _ => ?_)
        refine lv_istore_n (lv' := [(2, .int v76), (0, .ref (ad 0)), (3, .int x3)]) hx hb dX8_count_77 rfl hl (by decide) rfl (fun ls hl => ?_)
        refine z_iinc (lv' := fun w0 => [(3, .int w0), (2, .int v76), (0, .ref (ad 0))]) hx hb dX8_count_78 hl (k := 2) rfl (by decide) (fun _ => rfl) (by decide) (by omega) (fun v78 ls h78 hl => ?_)
        refine lv_goto (tgt := 55) hx hb dX8_count_81 (by decide) ?_
        exact ih55 _ _ v76 v78 hP hS (by omega) (by omega) _ (lv_sub hl [2, 1, 0] rfl)
      intro H locs x2 x3 hP hS q_x3 hm ls hl
      refine lv_iload_n hx hb dX8_count_55 rfl (lv_at hl 2 rfl) ?_
      refine z_bi hx hb dX8_count_56 (by decide) (fun v56 h56 => ?_)
      refine z_icmp_ge (tgt := 84) hx hb dX8_count_58 (by decide) (fun c58 => ?_) (fun c58 => ?_)
      · skip
        refine lv_iload_n hx hb dX8_count_84 rfl (lv_at hl 1 rfl) ?_
        exact z_reti hx hb hr hlocks hP hS dX8_count_85 ⟨⟨hO, hPP⟩, trivial⟩
      · skip
        refine lv_iload_n hx hb dX8_count_61 rfl (lv_at hl 1 rfl) ?_
        refine lv_aload_n hx hb dX8_count_62 rfl (lv_at hl 0 rfl) ?_
        obtain ⟨v63, v63a, v63b, v63c, v63d, v63e, v63f, v63g, v63h, v63i, v63j, v63k, v63l, v63m, v63n, v63o, e63, h63, h63a, h63b, h63c, h63d, h63e, h63f, h63g, h63h, h63i, h63j, h63k, h63l, h63m, h63n, h63o, h63p, h63q, h63r, h63s, h63t, h63u⟩ := mg_Mo hO
        refine va_get (ci := 8) (C := RX8) (T := TX8) (N := 49) (v := .ref (ad 2)) hx hb hts inX8 hown hK hP 0 (zw_at (by decide) e63) rfl 2 (by decide) fl13 (fun _ h => h) rfl dX8_count_63 ?_
        refine lv_iload_n hx hb dX8_count_66 rfl (lv_at hl 2 rfl) ?_
        obtain ⟨f67, e67⟩ := mg_Dn hO
        refine z_zald hx hb hK hP (q0 := 2) 1 (by decide) e67 rfl (by omega) dX8_count_67 (fun v67 r67 => ?_)
        refine z_if_eq (tgt := 75) hx hb dX8_count_68 (by decide) (fun c68 => ?_) (fun c68 => ?_)
        · skip
          refine z_ic hx hb dX8_count_75 (by decide) (fun v75 h75 => ?_)
          exact J76 _ _ x3 x2 v75 hP hS (by omega) (by omega) (by omega) _ (lv_sub hl [0, 2] rfl)
        · skip
          refine z_ic hx hb dX8_count_71 (by decide) (fun v71 h71 => ?_)
          refine lv_goto (tgt := 76) hx hb dX8_count_72 (by decide) ?_
          exact J76 _ _ x3 x2 v71 hP hS (by omega) (by omega) (by omega) _ (lv_sub hl [0, 2] rfl)
  intro ls hl
  have hl : lv_has ls 4 [(0, .ref (ad 0)), (1, .int p1)] := hl
  refine z_ic hx hb dX8_count_0 (by decide) (fun v0 h0 => ?_)
  refine lv_istore_n (lv' := [(2, .int v0), (0, .ref (ad 0)), (1, .int p1)]) hx hb dX8_count_1 rfl hl (by decide) rfl (fun ls hl => ?_)
  refine lv_iload_n hx hb dX8_count_2 rfl (lv_at hl 2 rfl) ?_
  by_cases w3 : p1.toInt < 0 ∨ 7 < p1.toInt
  · skip
    refine lv_tableOut (tgt := 146) hx hb dX8_count_3 w3 (by decide) ?_
    refine z_bi hx hb dX8_count_146 (by decide) (fun v146 h146 => ?_)
    exact z_reti hx hb hr hlocks hP hS dX8_count_148 ⟨⟨hO, hPP⟩, trivial⟩
  have w148 : p1.toInt = 0 ∨ p1.toInt = 1 ∨ p1.toInt = 2 ∨ p1.toInt = 3 ∨ p1.toInt = 4 ∨ p1.toInt = 5 ∨ p1.toInt = 6 ∨ p1.toInt = 7 := by omega
  rcases w148 with w148 | w148 | w148 | w148 | w148 | w148 | w148 | w148
  · skip
    refine lv_tableIn (off := 45) (tgt := 48) hx hb dX8_count_3 (by omega) (by omega) (by rw [w148]; rfl) (by decide) ?_
    refine lv_aload_n hx hb dX8_count_48 rfl (lv_at hl 1 rfl) ?_
    obtain ⟨v49, v49a, v49b, v49c, v49d, v49e, v49f, v49g, v49h, v49i, v49j, v49k, v49l, v49m, v49n, v49o, e49, h49, h49a, h49b, h49c, h49d, h49e, h49f, h49g, h49h, h49i, h49j, h49k, h49l, h49m, h49n, h49o, h49p, h49q, h49r, h49s, h49t, h49u⟩ := mg_Mo hO
    refine va_get (ci := 8) (C := RX8) (T := TX8) (N := 49) (v := .int v49) hx hb hts inX8 hown hK hP 0 (zw_at (by decide) e49) rfl 0 (by decide) fl121 (fun _ h => h) rfl dX8_count_49 ?_
    exact z_reti hx hb hr hlocks hP hS dX8_count_52 ⟨⟨hO, hPP⟩, trivial⟩
  · skip
    refine lv_tableIn (off := 50) (tgt := 53) hx hb dX8_count_3 (by omega) (by omega) (by rw [w148]; rfl) (by decide) ?_
    refine z_ic hx hb dX8_count_53 (by decide) (fun v53 h53 => ?_)
    refine lv_istore_n (lv' := [(3, .int v53), (2, .int v0), (0, .ref (ad 0)), (1, .int p1)]) hx hb dX8_count_54 rfl hl (by decide) rfl (fun ls hl => ?_)
    exact L55 10 _ _ v0 v53 hP hS (by omega) (by omega) _ (lv_sub hl [2, 1, 0] rfl)
  · skip
    refine lv_tableIn (off := 83) (tgt := 86) hx hb dX8_count_3 (by omega) (by omega) (by rw [w148]; rfl) (by decide) ?_
    refine lv_aload_n hx hb dX8_count_86 rfl (lv_at hl 1 rfl) ?_
    obtain ⟨v87, v87a, v87b, v87c, v87d, v87e, v87f, v87g, v87h, v87i, v87j, v87k, v87l, v87m, v87n, v87o, e87, h87, h87a, h87b, h87c, h87d, h87e, h87f, h87g, h87h, h87i, h87j, h87k, h87l, h87m, h87n, h87o, h87p, h87q, h87r, h87s, h87t, h87u⟩ := mg_Mo hO
    refine va_get (ci := 8) (C := RX8) (T := TX8) (N := 49) (v := .int v87a) hx hb hts inX8 hown hK hP 0 (zw_at (by decide) e87) rfl 4 (by decide) fl135 (fun _ h => h) rfl dX8_count_87 ?_
    exact z_reti hx hb hr hlocks hP hS dX8_count_90 ⟨⟨hO, hPP⟩, trivial⟩
  · skip
    refine lv_tableIn (off := 88) (tgt := 91) hx hb dX8_count_3 (by omega) (by omega) (by rw [w148]; rfl) (by decide) ?_
    refine z_ic hx hb dX8_count_91 (by decide) (fun v91 h91 => ?_)
    refine lv_istore_n (lv' := [(3, .int v91), (2, .int v0), (0, .ref (ad 0)), (1, .int p1)]) hx hb dX8_count_92 rfl hl (by decide) rfl (fun ls hl => ?_)
    exact L93 8 _ _ v0 v91 hP hS (by omega) (by omega) _ (lv_sub hl [2, 1, 0] rfl)
  · skip
    refine lv_tableIn (off := 123) (tgt := 126) hx hb dX8_count_3 (by omega) (by omega) (by rw [w148]; rfl) (by decide) ?_
    refine lv_aload_n hx hb dX8_count_126 rfl (lv_at hl 1 rfl) ?_
    obtain ⟨v127, v127a, v127b, v127c, v127d, v127e, v127f, v127g, v127h, v127i, v127j, v127k, v127l, v127m, v127n, v127o, e127, h127, h127a, h127b, h127c, h127d, h127e, h127f, h127g, h127h, h127i, h127j, h127k, h127l, h127m, h127n, h127o, h127p, h127q, h127r, h127s, h127t, h127u⟩ := mg_Mo hO
    refine va_get (ci := 8) (C := RX8) (T := TX8) (N := 49) (v := .int v127b) hx hb hts inX8 hown hK hP 0 (zw_at (by decide) e127) rfl 7 (by decide) fl142 (fun _ h => h) rfl dX8_count_127 ?_
    exact z_reti hx hb hr hlocks hP hS dX8_count_130 ⟨⟨hO, hPP⟩, trivial⟩
  · skip
    refine lv_tableIn (off := 128) (tgt := 131) hx hb dX8_count_3 (by omega) (by omega) (by rw [w148]; rfl) (by decide) ?_
    refine lv_aload_n hx hb dX8_count_131 rfl (lv_at hl 1 rfl) ?_
    obtain ⟨v132, v132a, v132b, v132c, v132d, v132e, v132f, v132g, v132h, v132i, v132j, v132k, v132l, v132m, v132n, v132o, e132, h132, h132a, h132b, h132c, h132d, h132e, h132f, h132g, h132h, h132i, h132j, h132k, h132l, h132m, h132n, h132o, h132p, h132q, h132r, h132s, h132t, h132u⟩ := mg_Mo hO
    refine va_get (ci := 8) (C := RX8) (T := TX8) (N := 49) (v := .int v132c) hx hb hts inX8 hown hK hP 0 (zw_at (by decide) e132) rfl 10 (by decide) fl146 (fun _ h => h) rfl dX8_count_132 ?_
    exact z_reti hx hb hr hlocks hP hS dX8_count_135 ⟨⟨hO, hPP⟩, trivial⟩
  · skip
    refine lv_tableIn (off := 133) (tgt := 136) hx hb dX8_count_3 (by omega) (by omega) (by rw [w148]; rfl) (by decide) ?_
    refine lv_aload_n hx hb dX8_count_136 rfl (lv_at hl 1 rfl) ?_
    obtain ⟨v137, v137a, v137b, v137c, v137d, v137e, v137f, v137g, v137h, v137i, v137j, v137k, v137l, v137m, v137n, v137o, e137, h137, h137a, h137b, h137c, h137d, h137e, h137f, h137g, h137h, h137i, h137j, h137k, h137l, h137m, h137n, h137o, h137p, h137q, h137r, h137s, h137t, h137u⟩ := mg_Mo hO
    refine va_get (ci := 8) (C := RX8) (T := TX8) (N := 49) (v := .int v137n) hx hb hts inX8 hown hK hP 0 (zw_at (by decide) e137) rfl 35 (by decide) fl129 (fun _ h => h) rfl dX8_count_137 ?_
    exact z_reti hx hb hr hlocks hP hS dX8_count_140 ⟨⟨hO, hPP⟩, trivial⟩
  · skip
    refine lv_tableIn (off := 138) (tgt := 141) hx hb dX8_count_3 (by omega) (by omega) (by rw [w148]; rfl) (by decide) ?_
    refine lv_aload_n hx hb dX8_count_141 rfl (lv_at hl 1 rfl) ?_
    obtain ⟨v142, v142a, v142b, v142c, v142d, v142e, v142f, v142g, v142h, v142i, v142j, v142k, v142l, v142m, v142n, v142o, e142, h142, h142a, h142b, h142c, h142d, h142e, h142f, h142g, h142h, h142i, h142j, h142k, h142l, h142m, h142n, h142o, h142p, h142q, h142r, h142s, h142t, h142u⟩ := mg_Mo hO
    refine va_get (ci := 8) (C := RX8) (T := TX8) (N := 49) (v := .int v142o) hx hb hts inX8 hown hK hP 0 (zw_at (by decide) e142) rfl 48 (by decide) fl266 (fun _ h => h) rfl dX8_count_142 ?_
    exact z_reti hx hb hr hlocks hP hS dX8_count_145 ⟨⟨hO, hPP⟩, trivial⟩
set_option maxHeartbeats 8000000 in
set_option maxRecDepth 100000 in
theorem c_X8_digest (l : Launch) (D : va_G) (cy : Nat → ClassId) (ad : Nat → Nat) (cnt : Nat → Nat) (nd : Nat) (wn : Nat) (S : Nat → Int32) (By : Nat → Int32) (Ah : Nat → Int32) (PP : (Nat → va_E) → Prop) (hJ : zJ 34 ad) : zM l D (mT cy) 34 ad (fun c1 => mOK cy ad cnt nd wn S By Ah c1 ∧ PP c1) yX8_digest vsX8_digest { frames := 1, cells := 0, slots := 0, locals := 23 } ([.ref (ad 0)] : List Value) (zQl D 34 ad (fun r ce => (mOK cy ad cnt nd wn S By Ah ce ∧ PP ce) ∧ (True))) := by
  refine z_of (cc := cX8_digest) (maxL := 5) (ret := (some .long)) (by decide) rfl (Nat.le_of_ble_eq_true rfl) ?_
  intro p e s m below meth c hx hb hr hts hown hlocks hml hK hN ce hOK hP
  have hown : s.vm.findClass RX8 = some m.cls := hown
  have hS : va_S (zA 34 ad) s.heap s.heap [] := va_S.rf
  obtain ⟨hO, hPP⟩ := hOK
  have inX8 : ∀ w ∈ u_ws RX8 TX8 49, w ∈ vsX8_digest := fun w h => List.mem_cons_of_mem _ (inlX8 w h)
  have fl129 := hts (.fieldLink RX8 129 "GroundKeeperModel" "walkers" "I") (List.mem_cons_of_mem _ mw_425)
  have L33 : ∀ N33 : Nat, ∀ (H : Heap) (locs : List Loc) (x1 : Int64) (x3 : Int32), va_P D vwCl (zw 34 ad ce) H → va_S (zA 34 ad) s.heap H locs → (0 ≤ x3.toInt ∧ x3.toInt ≤ 6) → (7 - x3.toInt ≤ (N33 : Int)) → ∀ ls : Array Slot, lv_has ls 5 [(0, .ref (ad 0)), (1, .long x1), (3, .int x3)] → W p l e { frames := 1, cells := 0, slots := 0, locals := 23 } s m ([.ref (ad 0)] : List Value).toArray below meth c H locs 0 0 (MQ below (zQl D 34 ad (fun r ce => (mOK cy ad cnt nd wn S By Ah ce ∧ PP ce) ∧ (True))) ([.ref (ad 0)] : List Value).toArray s 0 0 (zA 34 ad)) (F0 m 33 ls []) := by
    intro N33
    induction N33 with
    | zero =>
      intro H locs x1 x3 hP hS q_x3 hm ls hl
      exfalso; omega
    | succ N33 ih33 =>
      have L44 : ∀ N44 : Nat, ∀ (H : Heap) (locs : List Loc) (x1 : Int64) (x3 : Int32) (x4 : Int32), va_P D vwCl (zw 34 ad ce) H → va_S (zA 34 ad) s.heap H locs → (0 ≤ x3.toInt ∧ x3.toInt ≤ 5) → (0 ≤ x4.toInt ∧ x4.toInt ≤ 9) → (7 - x3.toInt ≤ (N33 : Int) + 1) → (10 - x4.toInt ≤ (N44 : Int)) → ∀ ls : Array Slot, lv_has ls 5 [(0, .ref (ad 0)), (1, .long x1), (3, .int x3), (4, .int x4)] → W p l e { frames := 1, cells := 0, slots := 0, locals := 23 } s m ([.ref (ad 0)] : List Value).toArray below meth c H locs 0 0 (MQ below (zQl D 34 ad (fun r ce => (mOK cy ad cnt nd wn S By Ah ce ∧ PP ce) ∧ (True))) ([.ref (ad 0)] : List Value).toArray s 0 0 (zA 34 ad)) (F0 m 44 ls []) := by
        intro N44
        induction N44 with
        | zero =>
          intro H locs x1 x3 x4 hP hS q_x3 q_x4 qm33 hm ls hl
          exfalso; omega
        | succ N44 ih44 =>
          intro H locs x1 x3 x4 hP hS q_x3 q_x4 qm33 hm ls hl
          refine lv_iload hx hb dX8_digest_44 (lv_at hl 3 rfl) ?_
          refine z_bi hx hb dX8_digest_46 (by decide) (fun v46 h46 => ?_)
          refine z_icmp_ge (tgt := 72) hx hb dX8_digest_48 (by decide) (fun c48 => ?_) (fun c48 => ?_)
          · skip
            refine z_iinc (lv' := fun w0 => [(3, .int w0), (0, .ref (ad 0)), (1, .long x1), (4, .int x4)]) hx hb dX8_digest_72 hl (k := 2) rfl (by decide) (fun _ => rfl) (by decide) (by omega) (fun v72 ls h72 hl => ?_)
            refine lv_goto (tgt := 33) hx hb dX8_digest_75 (by decide) ?_
            exact ih33 _ _ x1 v72 hP hS (by omega) (by omega) _ (lv_sub hl [1, 2, 0] rfl)
          · skip
            refine lv_ldc2 hx hb hown (hts (.constantLong RX8 277 (31)) (List.mem_cons_of_mem _ mw_464)) dX8_digest_51 ?_
            refine lv_topl (fun v51 _ => ?_)
            refine lv_lload_n hx hb dX8_digest_54 rfl (lv_at hl 1 rfl) ?_
            refine lv_lmul hx hb dX8_digest_55 ?_
            refine lv_topl (fun v55 _ => ?_)
            refine lv_aload_n hx hb dX8_digest_56 rfl (lv_at hl 0 rfl) ?_
            refine lv_iload_n hx hb dX8_digest_57 rfl (lv_at hl 2 rfl) ?_
            refine lv_iload hx hb dX8_digest_58 (lv_at hl 3 rfl) ?_
            obtain ⟨v60, v60a, v60b, v60c, v60d, v60e, v60f, v60g, v60h, v60i, v60j, v60k, v60l, v60m, v60n, v60o, e60, h60, h60a, h60b, h60c, h60d, h60e, h60f, h60g, h60h, h60i, h60j, h60k, h60l, h60m, h60n, h60o, h60p, h60q, h60r, h60s, h60t, h60u⟩ := mg_Mo hO
            refine z_ciP (z_rV (q0 := 0) (As := [.int x3, .int x4]) (rest := [.long v55]) ⟨hx, hb, hml, hown, hts⟩ (c_X8_aboutOf l D cy ad cnt nd wn S By Ah (fun c1 => c1 = ce) hJ x3 x4 (by omega)) (cwV 2 hts (g_V mw_475 mw_476 mw_477 mw_324 mw_478) rfl rfl rfl (by decide +kernel) ⟨Nat.le_of_ble_eq_true rfl, Nat.le_of_ble_eq_true rfl⟩) hK hN ⟨hO, rfl⟩ hP (by decide) e60 rfl rfl hl.1 rfl (Nat.le_of_ble_eq_true rfl) dX8_digest_60 ⟨Nat.zero_le _, Nat.zero_le _⟩) hS (fun _ h => h.2) (fun v60p H locs h60v hP hS => ?_)
            refine lv_i2l hx hb dX8_digest_63 rfl ?_
            refine lv_topl (fun v63 _ => ?_)
            refine lv_ladd hx hb dX8_digest_64 ?_
            refine lv_topl (fun v64 _ => ?_)
            refine lv_lstore_n (lv' := [(1, .long v64), (0, .ref (ad 0)), (3, .int x3), (4, .int x4)]) hx hb dX8_digest_65 rfl hl (by decide) rfl (fun ls hl => ?_)
            refine z_iinc (lv' := fun w0 => [(4, .int w0), (1, .long v64), (0, .ref (ad 0)), (3, .int x3)]) hx hb dX8_digest_66 hl (k := 3) rfl (by decide) (fun _ => rfl) (by decide) (by omega) (fun v66 ls h66 hl => ?_)
            refine lv_goto (tgt := 44) hx hb dX8_digest_69 (by decide) ?_
            exact ih44 _ _ v64 x3 v66 hP hS (by omega) (by omega) (by omega) (by omega) _ (lv_sub hl [2, 1, 3, 0] rfl)
      intro H locs x1 x3 hP hS q_x3 hm ls hl
      refine lv_iload_n hx hb dX8_digest_33 rfl (lv_at hl 2 rfl) ?_
      refine lv_aload_n hx hb dX8_digest_34 rfl (lv_at hl 0 rfl) ?_
      obtain ⟨v35, v35a, v35b, v35c, v35d, v35e, v35f, v35g, v35h, v35i, v35j, v35k, v35l, v35m, v35n, v35o, e35, h35, h35a, h35b, h35c, h35d, h35e, h35f, h35g, h35h, h35i, h35j, h35k, h35l, h35m, h35n, h35o, h35p, h35q, h35r, h35s, h35t, h35u⟩ := mg_Mo hO
      refine va_get (ci := 8) (C := RX8) (T := TX8) (N := 49) (v := .int v35n) hx hb hts inX8 hown hK hP 0 (zw_at (by decide) e35) rfl 35 (by decide) fl129 (fun _ h => h) rfl dX8_digest_35 ?_
      refine z_icmp_ge (tgt := 78) hx hb dX8_digest_38 (by decide) (fun c38 => ?_) (fun c38 => ?_)
      · skip
        refine lv_lload_n hx hb dX8_digest_78 rfl (lv_at hl 1 rfl) ?_
        exact z_retl hx hb hr hlocks hP hS dX8_digest_79 ⟨⟨hO, hPP⟩, trivial⟩
      · skip
        refine z_ic hx hb dX8_digest_41 (by decide) (fun v41 h41 => ?_)
        refine lv_istore (lv' := [(4, .int v41), (0, .ref (ad 0)), (1, .long x1), (3, .int x3)]) hx hb dX8_digest_42 hl (by decide) rfl (fun ls hl => ?_)
        exact L44 11 _ _ x1 x3 v41 hP hS (by omega) (by omega) (by omega) (by omega) _ (lv_sub hl [1, 2, 3, 0] rfl)
  have L6 : ∀ N6 : Nat, ∀ (H : Heap) (locs : List Loc) (x1 : Int64) (x3 : Int32), va_P D vwCl (zw 34 ad ce) H → va_S (zA 34 ad) s.heap H locs → (0 ≤ x3.toInt ∧ x3.toInt ≤ 8) → (9 - x3.toInt ≤ (N6 : Int)) → ∀ ls : Array Slot, lv_has ls 5 [(0, .ref (ad 0)), (1, .long x1), (3, .int x3)] → W p l e { frames := 1, cells := 0, slots := 0, locals := 23 } s m ([.ref (ad 0)] : List Value).toArray below meth c H locs 0 0 (MQ below (zQl D 34 ad (fun r ce => (mOK cy ad cnt nd wn S By Ah ce ∧ PP ce) ∧ (True))) ([.ref (ad 0)] : List Value).toArray s 0 0 (zA 34 ad)) (F0 m 6 ls []) := by
    intro N6
    induction N6 with
    | zero =>
      intro H locs x1 x3 hP hS q_x3 hm ls hl
      exfalso; omega
    | succ N6 ih6 =>
      intro H locs x1 x3 hP hS q_x3 hm ls hl
      refine lv_iload_n hx hb dX8_digest_6 rfl (lv_at hl 2 rfl) ?_
      refine z_bi hx hb dX8_digest_7 (by decide) (fun v7 h7 => ?_)
      refine z_icmp_ge (tgt := 31) hx hb dX8_digest_9 (by decide) (fun c9 => ?_) (fun c9 => ?_)
      · skip
        refine z_ic hx hb dX8_digest_31 (by decide) (fun v31 h31 => ?_)
        refine lv_istore_n (lv' := [(3, .int v31), (0, .ref (ad 0)), (1, .long x1)]) hx hb dX8_digest_32 rfl hl (by decide) rfl (fun ls hl => ?_)
        exact L33 8 _ _ x1 v31 hP hS (by omega) (by omega) _ (lv_sub hl [1, 2, 0] rfl)
      · skip
        refine lv_ldc2 hx hb hown (hts (.constantLong RX8 277 (31)) (List.mem_cons_of_mem _ mw_464)) dX8_digest_12 ?_
        refine lv_topl (fun v12 _ => ?_)
        refine lv_lload_n hx hb dX8_digest_15 rfl (lv_at hl 1 rfl) ?_
        refine lv_lmul hx hb dX8_digest_16 ?_
        refine lv_topl (fun v16 _ => ?_)
        refine lv_aload_n hx hb dX8_digest_17 rfl (lv_at hl 0 rfl) ?_
        refine lv_iload_n hx hb dX8_digest_18 rfl (lv_at hl 2 rfl) ?_
        obtain ⟨v19, v19a, v19b, v19c, v19d, v19e, v19f, v19g, v19h, v19i, v19j, v19k, v19l, v19m, v19n, v19o, e19, h19, h19a, h19b, h19c, h19d, h19e, h19f, h19g, h19h, h19i, h19j, h19k, h19l, h19m, h19n, h19o, h19p, h19q, h19r, h19s, h19t, h19u⟩ := mg_Mo hO
        refine z_ciP (z_rV (q0 := 0) (As := [.int x3]) (rest := [.long v16]) ⟨hx, hb, hml, hown, hts⟩ (c_X8_count l D cy ad cnt nd wn S By Ah (fun c1 => c1 = ce) hJ x3) (cwV 1 hts (g_V mw_479 mw_480 mw_481 mw_324 mw_482) rfl rfl rfl (by decide +kernel) ⟨Nat.le_of_ble_eq_true rfl, Nat.le_of_ble_eq_true rfl⟩) hK hN ⟨hO, rfl⟩ hP (by decide) e19 rfl rfl hl.1 rfl (Nat.le_of_ble_eq_true rfl) dX8_digest_19 ⟨Nat.zero_le _, Nat.zero_le _⟩) hS (fun _ h => h.2) (fun v19p H locs h19v hP hS => ?_)
        refine lv_i2l hx hb dX8_digest_22 rfl ?_
        refine lv_topl (fun v22 _ => ?_)
        refine lv_ladd hx hb dX8_digest_23 ?_
        refine lv_topl (fun v23 _ => ?_)
        refine lv_lstore_n (lv' := [(1, .long v23), (0, .ref (ad 0)), (3, .int x3)]) hx hb dX8_digest_24 rfl hl (by decide) rfl (fun ls hl => ?_)
        refine z_iinc (lv' := fun w0 => [(3, .int w0), (1, .long v23), (0, .ref (ad 0))]) hx hb dX8_digest_25 hl (k := 2) rfl (by decide) (fun _ => rfl) (by decide) (by omega) (fun v25 ls h25 hl => ?_)
        refine lv_goto (tgt := 6) hx hb dX8_digest_28 (by decide) ?_
        exact ih6 _ _ v23 v25 hP hS (by omega) (by omega) _ (lv_sub hl [2, 1, 0] rfl)
  intro ls hl
  have hl : lv_has ls 5 [(0, .ref (ad 0))] := hl
  refine lv_ldc2 hx hb hown (hts (.constantLong RX8 275 (89)) (List.mem_cons_of_mem _ mw_465)) dX8_digest_0 ?_
  refine lv_topl (fun v0 _ => ?_)
  refine lv_lstore_n (lv' := [(1, .long v0), (0, .ref (ad 0))]) hx hb dX8_digest_3 rfl hl (by decide) rfl (fun ls hl => ?_)
  refine z_ic hx hb dX8_digest_4 (by decide) (fun v4 h4 => ?_)
  refine lv_istore_n (lv' := [(3, .int v4), (1, .long v0), (0, .ref (ad 0))]) hx hb dX8_digest_5 rfl hl (by decide) rfl (fun ls hl => ?_)
  exact L6 10 _ _ v0 v4 hP hS (by omega) (by omega) _ (lv_sub hl [2, 1, 0] rfl)
set_option maxHeartbeats 8000000 in
set_option maxRecDepth 100000 in
theorem c_X8_box (l : Launch) (D : va_G) (cy : Nat → ClassId) (ad : Nat → Nat) (cnt : Nat → Nat) (nd : Nat) (wn : Nat) (S : Nat → Int32) (By : Nat → Int32) (Ah : Nat → Int32) (hJ : zJ 34 ad) (p1 : Int32) (p2 : Int32) (p3 : Int32) (p4 : Int32) (p5 : Int32) : zM l D (mT cy) 34 ad (mOK cy ad cnt nd wn S By Ah) yX8_box vsX8_box { frames := 3, cells := 0, slots := 0, locals := 68 } ([.ref (ad 0), .int p1, .int p2, .int p3, .int p4, .int p5] : List Value) (zQi D 34 ad (fun r ce => mOK cy ad cnt nd wn S By Ah ce ∧ (True))) := by
  refine z_of (cc := cX8_box) (maxL := 7) (ret := (some .int)) (by decide) rfl (Nat.le_of_ble_eq_true rfl) ?_
  intro p e s m below meth c hx hb hr hts hown hlocks hml hK hN ce hOK hP
  have hown : s.vm.findClass RX8 = some m.cls := hown
  have hS : va_S (zA 34 ad) s.heap s.heap [] := va_S.rf
  have hO := hOK
  have inX8 : ∀ w ∈ u_ws RX8 TX8 49, w ∈ vsX8_box := fun w h => List.mem_cons_of_mem _ (inlX8 w h)
  have fl13 := hts (.fieldLink RX8 13 "GroundKeeperModel" "isDown" "[Z") (List.mem_cons_of_mem _ mw_340)
  have fl17 := hts (.fieldLink RX8 17 "GroundKeeperModel" "box" "[I") (List.mem_cons_of_mem _ mw_336)
  have fl74 := hts (.fieldLink RX8 74 "GroundKeeperModel" "wl" "[I") (List.mem_cons_of_mem _ mw_422)
  have fl77 := hts (.fieldLink RX8 77 "GroundKeeperModel" "wx" "[I") (List.mem_cons_of_mem _ mw_423)
  have fl80 := hts (.fieldLink RX8 80 "GroundKeeperModel" "wy" "[I") (List.mem_cons_of_mem _ mw_424)
  have fl129 := hts (.fieldLink RX8 129 "GroundKeeperModel" "walkers" "I") (List.mem_cons_of_mem _ mw_425)
  have L97 : ∀ N97 : Nat, ∀ (H : Heap) (locs : List Loc) (ce : Nat → va_E) (x1 : Int32) (x2 : Int32) (x3 : Int32) (x4 : Int32) (x5 : Int32) (x6 : Int32), va_P D vwCl (zw 34 ad ce) H → va_S (zA 34 ad) s.heap H locs → mOK cy ad cnt nd wn S By Ah ce → (0 ≤ x6.toInt ∧ x6.toInt ≤ 8) → (9 - x6.toInt ≤ (N97 : Int)) → ∀ ls : Array Slot, lv_has ls 7 [(0, .ref (ad 0)), (1, .int x1), (2, .int x2), (3, .int x3), (4, .int x4), (5, .int x5), (6, .int x6)] → W p l e { frames := 3, cells := 0, slots := 0, locals := 68 } s m ([.ref (ad 0), .int p1, .int p2, .int p3, .int p4, .int p5] : List Value).toArray below meth c H locs 0 0 (MQ below (zQi D 34 ad (fun r ce => mOK cy ad cnt nd wn S By Ah ce ∧ (True))) ([.ref (ad 0), .int p1, .int p2, .int p3, .int p4, .int p5] : List Value).toArray s 0 0 (zA 34 ad)) (F0 m 97 ls []) := by
    intro N97
    induction N97 with
    | zero =>
      intro H locs ce x1 x2 x3 x4 x5 x6 hP hS hO q_x6 hm ls hl
      exfalso; omega
    | succ N97 ih97 =>
      intro H locs ce x1 x2 x3 x4 x5 x6 hP hS hO q_x6 hm ls hl
      refine lv_iload hx hb dX8_box_97 (lv_at hl 6 rfl) ?_
      refine z_bi hx hb dX8_box_99 (by decide) (fun v99 h99 => ?_)
      refine z_icmp_ge (tgt := 147) hx hb dX8_box_101 (by decide) (fun c101 => ?_) (fun c101 => ?_)
      · skip
        refine z_bi hx hb dX8_box_147 (by decide) (fun v147 h147 => ?_)
        exact z_reti hx hb hr hlocks hP hS dX8_box_149 ⟨hO, trivial⟩
      · skip
        refine lv_aload_n hx hb dX8_box_104 rfl (lv_at hl 0 rfl) ?_
        obtain ⟨v105, v105a, v105b, v105c, v105d, v105e, v105f, v105g, v105h, v105i, v105j, v105k, v105l, v105m, v105n, v105o, e105, h105, h105a, h105b, h105c, h105d, h105e, h105f, h105g, h105h, h105i, h105j, h105k, h105l, h105m, h105n, h105o, h105p, h105q, h105r, h105s, h105t, h105u⟩ := mg_Mo hO
        refine va_get (ci := 8) (C := RX8) (T := TX8) (N := 49) (v := .ref (ad 2)) hx hb hts inX8 hown hK hP 0 (zw_at (by decide) e105) rfl 2 (by decide) fl13 (fun _ h => h) rfl dX8_box_105 ?_
        refine lv_iload hx hb dX8_box_108 (lv_at hl 6 rfl) ?_
        obtain ⟨f110, e110⟩ := mg_Dn hO
        refine z_zald hx hb hK hP (q0 := 2) 1 (by decide) e110 rfl (by omega) dX8_box_110 (fun v110 r110 => ?_)
        refine z_if_ne (tgt := 141) hx hb dX8_box_111 (by decide) (fun c111 => ?_) (fun c111 => ?_)
        · skip
          refine z_iinc (lv' := fun w0 => [(6, .int w0), (0, .ref (ad 0)), (1, .int x1), (2, .int x2), (3, .int x3), (4, .int x4), (5, .int x5)]) hx hb dX8_box_141 hl (k := 6) rfl (by decide) (fun _ => rfl) (by decide) (by omega) (fun v141 ls h141 hl => ?_)
          refine lv_goto (tgt := 97) hx hb dX8_box_144 (by decide) ?_
          exact ih97 _ _ _ x1 x2 x3 x4 x5 v141 hP hS hO (by omega) (by omega) _ (lv_sub hl [1, 2, 3, 4, 5, 6, 0] rfl)
        · skip
          refine lv_aload_n hx hb dX8_box_114 rfl (lv_at hl 0 rfl) ?_
          refine va_get (ci := 8) (C := RX8) (T := TX8) (N := 49) (v := .ref (ad 2)) hx hb hts inX8 hown hK hP 0 (zw_at (by decide) e105) rfl 2 (by decide) fl13 (fun _ h => h) rfl dX8_box_115 ?_
          refine lv_iload hx hb dX8_box_118 (lv_at hl 6 rfl) ?_
          refine z_ic hx hb dX8_box_120 (by decide) (fun v120 h120 => ?_)
          refine z_zast hx hb hK hJ hP hS (q0 := 2) 1 (by decide) e110 rfl (z_in (by omega) (by omega)) dX8_box_121 (fun ce H locs e121 h121 hP hS => ?_)
          have hO := z_up (OKK := mK cy ad cnt nd wn S By Ah) 2 hO h121 (by rw [e121]; exact mE_Dn |>.mpr ⟨_, rfl⟩)
          have e121a := (h121 0 (by omega)).trans e105
          refine lv_aload_n hx hb dX8_box_122 rfl (lv_at hl 0 rfl) ?_
          refine va_get (ci := 8) (C := RX8) (T := TX8) (N := 49) (v := .ref (ad 3)) hx hb hts inX8 hown hK hP 0 (zw_at (by decide) e121a) rfl 3 (by decide) fl17 (fun _ h => h) rfl dX8_box_123 ?_
          refine lv_iload hx hb dX8_box_126 (lv_at hl 6 rfl) ?_
          refine lv_iload_n hx hb dX8_box_128 rfl (lv_at hl 1 rfl) ?_
          refine lv_iload_n hx hb dX8_box_129 rfl (lv_at hl 2 rfl) ?_
          refine lv_iload_n hx hb dX8_box_130 rfl (lv_at hl 3 rfl) ?_
          refine lv_iload hx hb dX8_box_131 (lv_at hl 4 rfl) ?_
          refine lv_iload hx hb dX8_box_133 (lv_at hl 5 rfl) ?_
          refine z_cv (z_rS (As := [.ref (ad 3), .int x6, .int x1, .int x2, .int x3, .int x4, .int x5]) (rest := []) ⟨hx, hb, hml, hown, hts⟩ (c_X8_lays_Bx l D cy ad cnt nd wn S By Ah hJ x6 x1 x2 x3 x4 x5 (by omega)) (va_cwS 7 hts (g_S mw_483 mw_484 mw_324 mw_485) rfl rfl rfl (by decide +kernel) ⟨Nat.le_of_ble_eq_true rfl, Nat.le_of_ble_eq_true rfl⟩) hK hN hO hP rfl hl.1 rfl (Nat.le_of_ble_eq_true rfl) dX8_box_135 ⟨Nat.zero_le _, Nat.zero_le _⟩) hS (fun ce H locs h135 hP hS => ?_)
          obtain ⟨hO, h135a⟩ := h135
          refine lv_iload hx hb dX8_box_138 (lv_at hl 6 rfl) ?_
          exact z_reti hx hb hr hlocks hP hS dX8_box_140 ⟨hO, trivial⟩
  have L19 : ∀ N19 : Nat, ∀ (H : Heap) (locs : List Loc) (ce : Nat → va_E) (x1 : Int32) (x2 : Int32) (x3 : Int32) (x4 : Int32) (x5 : Int32) (x6 : Int32), va_P D vwCl (zw 34 ad ce) H → va_S (zA 34 ad) s.heap H locs → mOK cy ad cnt nd wn S By Ah ce → (0 ≤ x6.toInt ∧ x6.toInt ≤ 6) → (7 - x6.toInt ≤ (N19 : Int)) → ∀ ls : Array Slot, lv_has ls 7 [(0, .ref (ad 0)), (1, .int x1), (2, .int x2), (3, .int x3), (4, .int x4), (5, .int x5), (6, .int x6)] → W p l e { frames := 3, cells := 0, slots := 0, locals := 68 } s m ([.ref (ad 0), .int p1, .int p2, .int p3, .int p4, .int p5] : List Value).toArray below meth c H locs 0 0 (MQ below (zQi D 34 ad (fun r ce => mOK cy ad cnt nd wn S By Ah ce ∧ (True))) ([.ref (ad 0), .int p1, .int p2, .int p3, .int p4, .int p5] : List Value).toArray s 0 0 (zA 34 ad)) (F0 m 19 ls []) := by
    intro N19
    induction N19 with
    | zero =>
      intro H locs ce x1 x2 x3 x4 x5 x6 hP hS hO q_x6 hm ls hl
      exfalso; omega
    | succ N19 ih19 =>
      have J88 : ∀ (H : Heap) (locs : List Loc) (ce : Nat → va_E) (x1 : Int32) (x2 : Int32) (x3 : Int32) (x4 : Int32) (x5 : Int32) (x6 : Int32), va_P D vwCl (zw 34 ad ce) H → va_S (zA 34 ad) s.heap H locs → mOK cy ad cnt nd wn S By Ah ce → (0 ≤ x6.toInt ∧ x6.toInt ≤ 5) → (7 - x6.toInt ≤ (N19 : Int) + 1) → ∀ ls : Array Slot, lv_has ls 7 [(0, .ref (ad 0)), (1, .int x1), (2, .int x2), (3, .int x3), (4, .int x4), (5, .int x5), (6, .int x6)] → W p l e { frames := 3, cells := 0, slots := 0, locals := 68 } s m ([.ref (ad 0), .int p1, .int p2, .int p3, .int p4, .int p5] : List Value).toArray below meth c H locs 0 0 (MQ below (zQi D 34 ad (fun r ce => mOK cy ad cnt nd wn S By Ah ce ∧ (True))) ([.ref (ad 0), .int p1, .int p2, .int p3, .int p4, .int p5] : List Value).toArray s 0 0 (zA 34 ad)) (F0 m 88 ls []) := by
        intro H locs ce x1 x2 x3 x4 x5 x6 hP hS hO q_x6 qm19 ls hl
        refine z_iinc (lv' := fun w0 => [(6, .int w0), (0, .ref (ad 0)), (1, .int x1), (2, .int x2), (3, .int x3), (4, .int x4), (5, .int x5)]) hx hb dX8_box_88 hl (k := 6) rfl (by decide) (fun _ => rfl) (by decide) (by omega) (fun v88 ls h88 hl => ?_)
        refine lv_goto (tgt := 19) hx hb dX8_box_91 (by decide) ?_
        exact ih19 _ _ _ x1 x2 x3 x4 x5 v88 hP hS hO (by omega) (by omega) _ (lv_sub hl [1, 2, 3, 4, 5, 6, 0] rfl)
      intro H locs ce x1 x2 x3 x4 x5 x6 hP hS hO q_x6 hm ls hl
      refine lv_iload hx hb dX8_box_19 (lv_at hl 6 rfl) ?_
      refine lv_aload_n hx hb dX8_box_21 rfl (lv_at hl 0 rfl) ?_
      obtain ⟨v22, v22a, v22b, v22c, v22d, v22e, v22f, v22g, v22h, v22i, v22j, v22k, v22l, v22m, v22n, v22o, e22, h22, h22a, h22b, h22c, h22d, h22e, h22f, h22g, h22h, h22i, h22j, h22k, h22l, h22m, h22n, h22o, h22p, h22q, h22r, h22s, h22t, h22u⟩ := mg_Mo hO
      refine va_get (ci := 8) (C := RX8) (T := TX8) (N := 49) (v := .int v22n) hx hb hts inX8 hown hK hP 0 (zw_at (by decide) e22) rfl 35 (by decide) fl129 (fun _ h => h) rfl dX8_box_22 ?_
      refine z_icmp_ge (tgt := 94) hx hb dX8_box_25 (by decide) (fun c25 => ?_) (fun c25 => ?_)
      · skip
        refine z_ic hx hb dX8_box_94 (by decide) (fun v94 h94 => ?_)
        refine lv_istore (lv' := [(6, .int v94), (0, .ref (ad 0)), (1, .int x1), (2, .int x2), (3, .int x3), (4, .int x4), (5, .int x5)]) hx hb dX8_box_95 hl (by decide) rfl (fun ls hl => ?_)
        exact L97 10 _ _ _ x1 x2 x3 x4 x5 v94 hP hS hO (by omega) (by omega) _ (lv_sub hl [1, 2, 3, 4, 5, 6, 0] rfl)
      · skip
        refine lv_aload_n hx hb dX8_box_28 rfl (lv_at hl 0 rfl) ?_
        refine va_get (ci := 8) (C := RX8) (T := TX8) (N := 49) (v := .ref (ad 22)) hx hb hts inX8 hown hK hP 0 (zw_at (by decide) e22) rfl 36 (by decide) fl74 (fun _ h => h) rfl dX8_box_29 ?_
        refine lv_iload hx hb dX8_box_32 (lv_at hl 6 rfl) ?_
        obtain ⟨f34, e34⟩ := mg_Wl hO
        refine z_iald hx hb hK hP (q0 := 22) 0 (by decide) e34 rfl (by omega) dX8_box_34 (fun v34 r34 => ?_)
        refine lv_iload_n hx hb dX8_box_35 rfl (lv_at hl 1 rfl) ?_
        refine z_icmp_ne (tgt := 88) hx hb dX8_box_36 (by decide) (fun c36 => ?_) (fun c36 => ?_)
        · skip
          exact J88 _ _ _ x1 x2 x3 x4 x5 x6 hP hS hO (by omega) (by omega) _ (lv_sub hl [0, 1, 2, 3, 4, 5, 6] rfl)
        · skip
          refine lv_aload_n hx hb dX8_box_39 rfl (lv_at hl 0 rfl) ?_
          refine va_get (ci := 8) (C := RX8) (T := TX8) (N := 49) (v := .ref (ad 23)) hx hb hts inX8 hown hK hP 0 (zw_at (by decide) e22) rfl 37 (by decide) fl77 (fun _ h => h) rfl dX8_box_40 ?_
          refine lv_iload hx hb dX8_box_43 (lv_at hl 6 rfl) ?_
          obtain ⟨f45, e45⟩ := mg_Wx hO
          refine z_iald hx hb hK hP (q0 := 23) 0 (by decide) e45 rfl (by omega) dX8_box_45 (fun v45 r45 => ?_)
          refine lv_iload_n hx hb dX8_box_46 rfl (lv_at hl 2 rfl) ?_
          refine z_icmp_le (tgt := 88) hx hb dX8_box_47 (by decide) (fun c47 => ?_) (fun c47 => ?_)
          · skip
            exact J88 _ _ _ x1 x2 x3 x4 x5 x6 hP hS hO (by omega) (by omega) _ (lv_sub hl [0, 1, 2, 3, 4, 5, 6] rfl)
          · skip
            refine lv_aload_n hx hb dX8_box_50 rfl (lv_at hl 0 rfl) ?_
            refine va_get (ci := 8) (C := RX8) (T := TX8) (N := 49) (v := .ref (ad 23)) hx hb hts inX8 hown hK hP 0 (zw_at (by decide) e22) rfl 37 (by decide) fl77 (fun _ h => h) rfl dX8_box_51 ?_
            refine lv_iload hx hb dX8_box_54 (lv_at hl 6 rfl) ?_
            refine z_iald hx hb hK hP (q0 := 23) 0 (by decide) e45 rfl (by omega) dX8_box_56 (fun v56 r56 => ?_)
            have h56 : v56.toInt = v45.toInt := z_same r56 r45
            refine lv_iload hx hb dX8_box_57 (lv_at hl 4 rfl) ?_
            refine z_icmp_ge (tgt := 88) hx hb dX8_box_59 (by decide) (fun c59 => ?_) (fun c59 => ?_)
            · skip
              exact J88 _ _ _ x1 x2 x3 x4 x5 x6 hP hS hO (by omega) (by omega) _ (lv_sub hl [0, 1, 2, 3, 4, 5, 6] rfl)
            · skip
              refine lv_aload_n hx hb dX8_box_62 rfl (lv_at hl 0 rfl) ?_
              refine va_get (ci := 8) (C := RX8) (T := TX8) (N := 49) (v := .ref (ad 24)) hx hb hts inX8 hown hK hP 0 (zw_at (by decide) e22) rfl 38 (by decide) fl80 (fun _ h => h) rfl dX8_box_63 ?_
              refine lv_iload hx hb dX8_box_66 (lv_at hl 6 rfl) ?_
              obtain ⟨f68, e68⟩ := mg_Wz hO
              refine z_iald hx hb hK hP (q0 := 24) 0 (by decide) e68 rfl (by omega) dX8_box_68 (fun v68 r68 => ?_)
              refine lv_iload_n hx hb dX8_box_69 rfl (lv_at hl 3 rfl) ?_
              refine z_icmp_le (tgt := 88) hx hb dX8_box_70 (by decide) (fun c70 => ?_) (fun c70 => ?_)
              · skip
                exact J88 _ _ _ x1 x2 x3 x4 x5 x6 hP hS hO (by omega) (by omega) _ (lv_sub hl [0, 1, 2, 3, 4, 5, 6] rfl)
              · skip
                refine lv_aload_n hx hb dX8_box_73 rfl (lv_at hl 0 rfl) ?_
                refine va_get (ci := 8) (C := RX8) (T := TX8) (N := 49) (v := .ref (ad 24)) hx hb hts inX8 hown hK hP 0 (zw_at (by decide) e22) rfl 38 (by decide) fl80 (fun _ h => h) rfl dX8_box_74 ?_
                refine lv_iload hx hb dX8_box_77 (lv_at hl 6 rfl) ?_
                refine z_iald hx hb hK hP (q0 := 24) 0 (by decide) e68 rfl (by omega) dX8_box_79 (fun v79 r79 => ?_)
                have h79 : v79.toInt = v68.toInt := z_same r79 r68
                refine lv_iload hx hb dX8_box_80 (lv_at hl 5 rfl) ?_
                refine z_icmp_ge (tgt := 88) hx hb dX8_box_82 (by decide) (fun c82 => ?_) (fun c82 => ?_)
                · skip
                  exact J88 _ _ _ x1 x2 x3 x4 x5 x6 hP hS hO (by omega) (by omega) _ (lv_sub hl [0, 1, 2, 3, 4, 5, 6] rfl)
                · skip
                  refine z_bi hx hb dX8_box_85 (by decide) (fun v85 h85 => ?_)
                  exact z_reti hx hb hr hlocks hP hS dX8_box_87 ⟨hO, trivial⟩
  intro ls hl
  have hl : lv_has ls 7 [(0, .ref (ad 0)), (1, .int p1), (2, .int p2), (3, .int p3), (4, .int p4), (5, .int p5)] := hl
  refine lv_iload_n hx hb dX8_box_0 rfl (lv_at hl 1 rfl) ?_
  refine lv_iload_n hx hb dX8_box_1 rfl (lv_at hl 2 rfl) ?_
  refine lv_iload_n hx hb dX8_box_2 rfl (lv_at hl 3 rfl) ?_
  refine lv_iload hx hb dX8_box_3 (lv_at hl 4 rfl) ?_
  refine lv_iload hx hb dX8_box_5 (lv_at hl 5 rfl) ?_
  refine z_ciP (z_rS (As := [.int p1, .int p2, .int p3, .int p4, .int p5]) (rest := []) ⟨hx, hb, hml, hown, hts⟩ (c_X8_isField l D (mT cy) 34 ad (fun c1 => c1 = ce) p1 p2 p3 p4 p5) (va_cwS 5 hts (g_S mw_486 mw_487 mw_324 mw_488) rfl rfl rfl (by decide +kernel) ⟨Nat.le_of_ble_eq_true rfl, Nat.le_of_ble_eq_true rfl⟩) hK hN rfl hP rfl hl.1 rfl (Nat.le_of_ble_eq_true rfl) dX8_box_7 ⟨Nat.zero_le _, Nat.zero_le _⟩) hS (fun _ h => h) (fun v7 H locs h7 hP hS => ?_)
  refine z_if_ne (tgt := 16) hx hb dX8_box_10 (by decide) (fun c10 => ?_) (fun c10 => ?_)
  · skip
    refine z_ic hx hb dX8_box_16 (by decide) (fun v16 h16 => ?_)
    refine lv_istore (lv' := [(6, .int v16), (0, .ref (ad 0)), (1, .int p1), (2, .int p2), (3, .int p3), (4, .int p4), (5, .int p5)]) hx hb dX8_box_17 hl (by decide) rfl (fun ls hl => ?_)
    exact L19 8 _ _ _ p1 p2 p3 p4 p5 v16 hP hS hO (by omega) (by omega) _ (lv_sub hl [1, 2, 3, 4, 5, 6, 0] rfl)
  · skip
    refine z_bi hx hb dX8_box_13 (by decide) (fun v13 h13 => ?_)
    exact z_reti hx hb hr hlocks hP hS dX8_box_15 ⟨hO, trivial⟩
set_option maxHeartbeats 8000000 in
set_option maxRecDepth 100000 in
theorem c_X8_take (l : Launch) (D : va_G) (cy : Nat → ClassId) (ad : Nat → Nat) (cnt : Nat → Nat) (nd : Nat) (wn : Nat) (S : Nat → Int32) (By : Nat → Int32) (Ah : Nat → Int32) (hJ : zJ 34 ad) (p1 : Int32) : zM l D (mT cy) 34 ad (mOK cy ad cnt nd wn S By Ah) yX8_take vsX8_take { frames := 1, cells := 0, slots := 0, locals := 22 } ([.ref (ad 0), .int p1] : List Value) (zQi D 34 ad (fun r ce => mOK cy ad cnt nd wn S By Ah ce ∧ (True))) := by
  refine z_of (cc := cX8_take) (maxL := 2) (ret := (some .int)) (by decide) rfl (Nat.le_of_ble_eq_true rfl) ?_
  intro p e s m below meth c hx hb hr hts hown hlocks hml hK hN ce hOK hP
  have hown : s.vm.findClass RX8 = some m.cls := hown
  have hS : va_S (zA 34 ad) s.heap s.heap [] := va_S.rf
  have hO := hOK
  have inX8 : ∀ w ∈ u_ws RX8 TX8 49, w ∈ vsX8_take := fun w h => List.mem_cons_of_mem _ (inlX8 w h)
  have fl13 := hts (.fieldLink RX8 13 "GroundKeeperModel" "isDown" "[Z") (List.mem_cons_of_mem _ mw_340)
  intro ls hl
  have hl : lv_has ls 2 [(0, .ref (ad 0)), (1, .int p1)] := hl
  refine lv_iload_n hx hb dX8_take_0 rfl (lv_at hl 1 rfl) ?_
  refine z_ic hx hb dX8_take_1 (by decide) (fun v1 h1 => ?_)
  refine z_bi hx hb dX8_take_2 (by decide) (fun v2 h2 => ?_)
  refine z_ciP (z_rS (As := [.int p1, .int v1, .int v2]) (rest := []) ⟨hx, hb, hml, hown, hts⟩ (c_X8_in l D (mT cy) 34 ad (fun c1 => c1 = ce) p1 v1 v2) (va_cwS 3 hts (g_S mw_322 mw_323 mw_324 mw_325) rfl rfl rfl (by decide +kernel) ⟨Nat.le_of_ble_eq_true rfl, Nat.le_of_ble_eq_true rfl⟩) hK hN rfl hP rfl hl.1 rfl (Nat.le_of_ble_eq_true rfl) dX8_take_4 ⟨Nat.zero_le _, Nat.zero_le _⟩) hS (fun _ h => h) (fun v4 H locs h4 hP hS => ?_)
  refine z_if_ne (tgt := 13) hx hb dX8_take_7 (by decide) (fun c7 => ?_) (fun c7 => ?_)
  · skip
    refine lv_aload_n hx hb dX8_take_13 rfl (lv_at hl 0 rfl) ?_
    obtain ⟨v14, v14a, v14b, v14c, v14d, v14e, v14f, v14g, v14h, v14i, v14j, v14k, v14l, v14m, v14n, v14o, e14, h14, h14a, h14b, h14c, h14d, h14e, h14f, h14g, h14h, h14i, h14j, h14k, h14l, h14m, h14n, h14o, h14p, h14q, h14r, h14s, h14t, h14u⟩ := mg_Mo hO
    refine va_get (ci := 8) (C := RX8) (T := TX8) (N := 49) (v := .ref (ad 2)) hx hb hts inX8 hown hK hP 0 (zw_at (by decide) e14) rfl 2 (by decide) fl13 (fun _ h => h) rfl dX8_take_14 ?_
    refine lv_iload_n hx hb dX8_take_17 rfl (lv_at hl 1 rfl) ?_
    obtain ⟨f18, e18⟩ := mg_Dn hO
    refine z_zald hx hb hK hP (q0 := 2) 1 (by decide) e18 rfl (by omega) dX8_take_18 (fun v18 r18 => ?_)
    refine z_if_ne (tgt := 25) hx hb dX8_take_19 (by decide) (fun c19 => ?_) (fun c19 => ?_)
    · skip
      refine lv_aload_n hx hb dX8_take_25 rfl (lv_at hl 0 rfl) ?_
      refine va_get (ci := 8) (C := RX8) (T := TX8) (N := 49) (v := .ref (ad 2)) hx hb hts inX8 hown hK hP 0 (zw_at (by decide) e14) rfl 2 (by decide) fl13 (fun _ h => h) rfl dX8_take_26 ?_
      refine lv_iload_n hx hb dX8_take_29 rfl (lv_at hl 1 rfl) ?_
      refine z_ic hx hb dX8_take_30 (by decide) (fun v30 h30 => ?_)
      refine z_zast hx hb hK hJ hP hS (q0 := 2) 1 (by decide) e18 rfl (z_in (by omega) (by omega)) dX8_take_31 (fun ce H locs e31 h31 hP hS => ?_)
      have hO := z_up (OKK := mK cy ad cnt nd wn S By Ah) 2 hO h31 (by rw [e31]; exact mE_Dn |>.mpr ⟨_, rfl⟩)
      have e31a := (h31 0 (by omega)).trans e14
      refine z_ic hx hb dX8_take_32 (by decide) (fun v32 h32 => ?_)
      exact z_reti hx hb hr hlocks hP hS dX8_take_33 ⟨hO, trivial⟩
    · skip
      refine z_bi hx hb dX8_take_22 (by decide) (fun v22 h22 => ?_)
      exact z_reti hx hb hr hlocks hP hS dX8_take_24 ⟨hO, trivial⟩
  · skip
    refine z_bi hx hb dX8_take_10 (by decide) (fun v10 h10 => ?_)
    exact z_reti hx hb hr hlocks hP hS dX8_take_12 ⟨hO, trivial⟩
set_option maxHeartbeats 8000000 in
set_option maxRecDepth 100000 in
theorem c_X8_shut (l : Launch) (D : va_G) (cy : Nat → ClassId) (ad : Nat → Nat) (cnt : Nat → Nat) (nd : Nat) (wn : Nat) (S : Nat → Int32) (By : Nat → Int32) (Ah : Nat → Int32) (hJ : zJ 34 ad) (p1 : Int32) (p2 : Int32) (q_p2 : 0 ≤ p2.toInt ∧ p2.toInt ≤ 1) : zM l D (mT cy) 34 ad (mOK cy ad cnt nd wn S By Ah) yX8_shut vsX8_shut { frames := 2, cells := 0, slots := 0, locals := 46 } ([.ref (ad 0), .int p1, .int p2] : List Value) (zQi D 34 ad (fun r ce => mOK cy ad cnt nd wn S By Ah ce ∧ (True))) := by
  refine z_of (cc := cX8_shut) (maxL := 4) (ret := (some .int)) (by decide) rfl (Nat.le_of_ble_eq_true rfl) ?_
  intro p e s m below meth c hx hb hr hts hown hlocks hml hK hN ce hOK hP
  have hown : s.vm.findClass RX8 = some m.cls := hown
  have hS : va_S (zA 34 ad) s.heap s.heap [] := va_S.rf
  have hO := hOK
  have inX8 : ∀ w ∈ u_ws RX8 TX8 49, w ∈ vsX8_shut := fun w h => List.mem_cons_of_mem _ (inlX8 w h)
  have fl20 := hts (.fieldLink RX8 20 "GroundKeeperModel" "door" "[I") (List.mem_cons_of_mem _ mw_346)
  have fl23 := hts (.fieldLink RX8 23 "GroundKeeperModel" "isShut" "[Z") (List.mem_cons_of_mem _ mw_347)
  have fl74 := hts (.fieldLink RX8 74 "GroundKeeperModel" "wl" "[I") (List.mem_cons_of_mem _ mw_422)
  have fl77 := hts (.fieldLink RX8 77 "GroundKeeperModel" "wx" "[I") (List.mem_cons_of_mem _ mw_423)
  have fl80 := hts (.fieldLink RX8 80 "GroundKeeperModel" "wy" "[I") (List.mem_cons_of_mem _ mw_424)
  have fl129 := hts (.fieldLink RX8 129 "GroundKeeperModel" "walkers" "I") (List.mem_cons_of_mem _ mw_425)
  have fl135 := hts (.fieldLink RX8 135 "GroundKeeperModel" "doors" "I") (List.mem_cons_of_mem _ mw_348)
  have J82 : ∀ (H : Heap) (locs : List Loc) (ce : Nat → va_E) (x1 : Int32) (x2 : Int32), va_P D vwCl (zw 34 ad ce) H → va_S (zA 34 ad) s.heap H locs → mOK cy ad cnt nd wn S By Ah ce → (0 ≤ x1.toInt ∧ x1.toInt ≤ 5) → (0 ≤ x2.toInt ∧ x2.toInt ≤ 1) → ∀ ls : Array Slot, lv_has ls 4 [(0, .ref (ad 0)), (1, .int x1), (2, .int x2)] → W p l e { frames := 2, cells := 0, slots := 0, locals := 46 } s m ([.ref (ad 0), .int p1, .int p2] : List Value).toArray below meth c H locs 0 0 (MQ below (zQi D 34 ad (fun r ce => mOK cy ad cnt nd wn S By Ah ce ∧ (True))) ([.ref (ad 0), .int p1, .int p2] : List Value).toArray s 0 0 (zA 34 ad)) (F0 m 82 ls []) := by
    intro H locs ce x1 x2 hP hS hO q_x1 q_x2 ls hl
    refine lv_aload_n hx hb dX8_shut_82 rfl (lv_at hl 0 rfl) ?_
    obtain ⟨v83, v83a, v83b, v83c, v83d, v83e, v83f, v83g, v83h, v83i, v83j, v83k, v83l, v83m, v83n, v83o, e83, h83, h83a, h83b, h83c, h83d, h83e, h83f, h83g, h83h, h83i, h83j, h83k, h83l, h83m, h83n, h83o, h83p, h83q, h83r, h83s, h83t, h83u⟩ := mg_Mo hO
    refine va_get (ci := 8) (C := RX8) (T := TX8) (N := 49) (v := .ref (ad 5)) hx hb hts inX8 hown hK hP 0 (zw_at (by decide) e83) rfl 6 (by decide) fl23 (fun _ h => h) rfl dX8_shut_83 ?_
    refine lv_iload_n hx hb dX8_shut_86 rfl (lv_at hl 1 rfl) ?_
    refine lv_iload_n hx hb dX8_shut_87 rfl (lv_at hl 2 rfl) ?_
    obtain ⟨f88, e88⟩ := mg_Sh hO
    refine z_zast hx hb hK hJ hP hS (q0 := 5) 1 (by decide) e88 rfl (z_in (by omega) (by omega)) dX8_shut_88 (fun ce H locs e88a h88a hP hS => ?_)
    have hO := z_up (OKK := mK cy ad cnt nd wn S By Ah) 5 hO h88a (by rw [e88a]; exact mE_Sh |>.mpr ⟨_, rfl⟩)
    have e88b := (h88a 0 (by omega)).trans e83
    refine z_ic hx hb dX8_shut_89 (by decide) (fun v89 h89 => ?_)
    exact z_reti hx hb hr hlocks hP hS dX8_shut_90 ⟨hO, trivial⟩
  have L32 : ∀ N32 : Nat, ∀ (H : Heap) (locs : List Loc) (ce : Nat → va_E) (x1 : Int32) (x2 : Int32) (x3 : Int32), va_P D vwCl (zw 34 ad ce) H → va_S (zA 34 ad) s.heap H locs → mOK cy ad cnt nd wn S By Ah ce → (0 ≤ x1.toInt ∧ x1.toInt ≤ 5) → (0 ≤ x2.toInt ∧ x2.toInt ≤ 1) → (0 ≤ x3.toInt ∧ x3.toInt ≤ 6) → (7 - x3.toInt ≤ (N32 : Int)) → ∀ ls : Array Slot, lv_has ls 4 [(0, .ref (ad 0)), (1, .int x1), (2, .int x2), (3, .int x3)] → W p l e { frames := 2, cells := 0, slots := 0, locals := 46 } s m ([.ref (ad 0), .int p1, .int p2] : List Value).toArray below meth c H locs 0 0 (MQ below (zQi D 34 ad (fun r ce => mOK cy ad cnt nd wn S By Ah ce ∧ (True))) ([.ref (ad 0), .int p1, .int p2] : List Value).toArray s 0 0 (zA 34 ad)) (F0 m 32 ls []) := by
    intro N32
    induction N32 with
    | zero =>
      intro H locs ce x1 x2 x3 hP hS hO q_x1 q_x2 q_x3 hm ls hl
      exfalso; omega
    | succ N32 ih32 =>
      intro H locs ce x1 x2 x3 hP hS hO q_x1 q_x2 q_x3 hm ls hl
      refine lv_iload_n hx hb dX8_shut_32 rfl (lv_at hl 3 rfl) ?_
      refine lv_aload_n hx hb dX8_shut_33 rfl (lv_at hl 0 rfl) ?_
      obtain ⟨v34, v34a, v34b, v34c, v34d, v34e, v34f, v34g, v34h, v34i, v34j, v34k, v34l, v34m, v34n, v34o, e34, h34, h34a, h34b, h34c, h34d, h34e, h34f, h34g, h34h, h34i, h34j, h34k, h34l, h34m, h34n, h34o, h34p, h34q, h34r, h34s, h34t, h34u⟩ := mg_Mo hO
      refine va_get (ci := 8) (C := RX8) (T := TX8) (N := 49) (v := .int v34n) hx hb hts inX8 hown hK hP 0 (zw_at (by decide) e34) rfl 35 (by decide) fl129 (fun _ h => h) rfl dX8_shut_34 ?_
      refine z_icmp_ge (tgt := 82) hx hb dX8_shut_37 (by decide) (fun c37 => ?_) (fun c37 => ?_)
      · skip
        exact J82 _ _ _ x1 x2 hP hS hO (by omega) (by omega) _ (lv_sub hl [0, 1, 2] rfl)
      · skip
        refine lv_iload_n hx hb dX8_shut_40 rfl (lv_at hl 2 rfl) ?_
        refine z_if_eq (tgt := 82) hx hb dX8_shut_41 (by decide) (fun c41 => ?_) (fun c41 => ?_)
        · skip
          exact J82 _ _ _ x1 x2 hP hS hO (by omega) (by omega) _ (lv_sub hl [0, 1, 2] rfl)
        · skip
          refine lv_aload_n hx hb dX8_shut_44 rfl (lv_at hl 0 rfl) ?_
          refine va_get (ci := 8) (C := RX8) (T := TX8) (N := 49) (v := .ref (ad 4)) hx hb hts inX8 hown hK hP 0 (zw_at (by decide) e34) rfl 5 (by decide) fl20 (fun _ h => h) rfl dX8_shut_45 ?_
          refine lv_iload_n hx hb dX8_shut_48 rfl (lv_at hl 1 rfl) ?_
          refine lv_aload_n hx hb dX8_shut_49 rfl (lv_at hl 0 rfl) ?_
          refine va_get (ci := 8) (C := RX8) (T := TX8) (N := 49) (v := .ref (ad 22)) hx hb hts inX8 hown hK hP 0 (zw_at (by decide) e34) rfl 36 (by decide) fl74 (fun _ h => h) rfl dX8_shut_50 ?_
          refine lv_iload_n hx hb dX8_shut_53 rfl (lv_at hl 3 rfl) ?_
          obtain ⟨f54, e54⟩ := mg_Wl hO
          refine z_iald hx hb hK hP (q0 := 22) 0 (by decide) e54 rfl (by omega) dX8_shut_54 (fun v54 r54 => ?_)
          refine lv_aload_n hx hb dX8_shut_55 rfl (lv_at hl 0 rfl) ?_
          refine va_get (ci := 8) (C := RX8) (T := TX8) (N := 49) (v := .ref (ad 23)) hx hb hts inX8 hown hK hP 0 (zw_at (by decide) e34) rfl 37 (by decide) fl77 (fun _ h => h) rfl dX8_shut_56 ?_
          refine lv_iload_n hx hb dX8_shut_59 rfl (lv_at hl 3 rfl) ?_
          obtain ⟨f60, e60⟩ := mg_Wx hO
          refine z_iald hx hb hK hP (q0 := 23) 0 (by decide) e60 rfl (by omega) dX8_shut_60 (fun v60 r60 => ?_)
          refine lv_aload_n hx hb dX8_shut_61 rfl (lv_at hl 0 rfl) ?_
          refine va_get (ci := 8) (C := RX8) (T := TX8) (N := 49) (v := .ref (ad 24)) hx hb hts inX8 hown hK hP 0 (zw_at (by decide) e34) rfl 38 (by decide) fl80 (fun _ h => h) rfl dX8_shut_62 ?_
          refine lv_iload_n hx hb dX8_shut_65 rfl (lv_at hl 3 rfl) ?_
          obtain ⟨f66, e66⟩ := mg_Wz hO
          refine z_iald hx hb hK hP (q0 := 24) 0 (by decide) e66 rfl (by omega) dX8_shut_66 (fun v66 r66 => ?_)
          refine z_ciP (z_rS (As := [.ref (ad 4), .int x1, .int v54, .int v60, .int v66]) (rest := []) ⟨hx, hb, hml, hown, hts⟩ (c_X8_isOn_Dr l D cy ad cnt nd wn S By Ah (fun c1 => c1 = ce) hJ x1 v54 v60 v66 (by omega)) (va_cwS 5 hts (g_S mw_387 mw_388 mw_324 mw_389) rfl rfl rfl (by decide +kernel) ⟨Nat.le_of_ble_eq_true rfl, Nat.le_of_ble_eq_true rfl⟩) hK hN ⟨hO, rfl⟩ hP rfl hl.1 rfl (Nat.le_of_ble_eq_true rfl) dX8_shut_67 ⟨Nat.zero_le _, Nat.zero_le _⟩) hS (fun _ h => h.2) (fun v67 H locs h67 hP hS => ?_)
          refine z_if_eq (tgt := 76) hx hb dX8_shut_70 (by decide) (fun c70 => ?_) (fun c70 => ?_)
          · skip
            refine z_iinc (lv' := fun w0 => [(3, .int w0), (0, .ref (ad 0)), (1, .int x1), (2, .int x2)]) hx hb dX8_shut_76 hl (k := 3) rfl (by decide) (fun _ => rfl) (by decide) (by omega) (fun v76 ls h76 hl => ?_)
            refine lv_goto (tgt := 32) hx hb dX8_shut_79 (by decide) ?_
            exact ih32 _ _ _ x1 x2 v76 hP hS hO (by omega) (by omega) (by omega) (by omega) _ (lv_sub hl [1, 2, 3, 0] rfl)
          · skip
            refine z_bi hx hb dX8_shut_73 (by decide) (fun v73 h73 => ?_)
            exact z_reti hx hb hr hlocks hP hS dX8_shut_75 ⟨hO, trivial⟩
  intro ls hl
  have hl : lv_has ls 4 [(0, .ref (ad 0)), (1, .int p1), (2, .int p2)] := hl
  refine lv_iload_n hx hb dX8_shut_0 rfl (lv_at hl 1 rfl) ?_
  refine z_ic hx hb dX8_shut_1 (by decide) (fun v1 h1 => ?_)
  refine lv_aload_n hx hb dX8_shut_2 rfl (lv_at hl 0 rfl) ?_
  obtain ⟨v3, v3a, v3b, v3c, v3d, v3e, v3f, v3g, v3h, v3i, v3j, v3k, v3l, v3m, v3n, v3o, e3, h3, h3a, h3b, h3c, h3d, h3e, h3f, h3g, h3h, h3i, h3j, h3k, h3l, h3m, h3n, h3o, h3p, h3q, h3r, h3s, h3t, h3u⟩ := mg_Mo hO
  refine va_get (ci := 8) (C := RX8) (T := TX8) (N := 49) (v := .int v3a) hx hb hts inX8 hown hK hP 0 (zw_at (by decide) e3) rfl 4 (by decide) fl135 (fun _ h => h) rfl dX8_shut_3 ?_
  refine z_ic hx hb dX8_shut_6 (by decide) (fun v6 h6 => ?_)
  refine z_subE hx hb dX8_shut_7 (by omega) (fun v7 h7 => ?_)
  refine z_ciP (z_rS (As := [.int p1, .int v1, .int v7]) (rest := []) ⟨hx, hb, hml, hown, hts⟩ (c_X8_in l D (mT cy) 34 ad (fun c1 => c1 = ce) p1 v1 v7) (va_cwS 3 hts (g_S mw_322 mw_323 mw_324 mw_325) rfl rfl rfl (by decide +kernel) ⟨Nat.le_of_ble_eq_true rfl, Nat.le_of_ble_eq_true rfl⟩) hK hN rfl hP rfl hl.1 rfl (Nat.le_of_ble_eq_true rfl) dX8_shut_8 ⟨Nat.zero_le _, Nat.zero_le _⟩) hS (fun _ h => h) (fun v8 H locs h8 hP hS => ?_)
  refine z_if_ne (tgt := 17) hx hb dX8_shut_11 (by decide) (fun c11 => ?_) (fun c11 => ?_)
  · skip
    refine lv_aload_n hx hb dX8_shut_17 rfl (lv_at hl 0 rfl) ?_
    refine va_get (ci := 8) (C := RX8) (T := TX8) (N := 49) (v := .ref (ad 5)) hx hb hts inX8 hown hK hP 0 (zw_at (by decide) e3) rfl 6 (by decide) fl23 (fun _ h => h) rfl dX8_shut_18 ?_
    refine lv_iload_n hx hb dX8_shut_21 rfl (lv_at hl 1 rfl) ?_
    obtain ⟨f22, e22⟩ := mg_Sh hO
    refine z_zald hx hb hK hP (q0 := 5) 1 (by decide) e22 rfl (by omega) dX8_shut_22 (fun v22 r22 => ?_)
    refine lv_iload_n hx hb dX8_shut_23 rfl (lv_at hl 2 rfl) ?_
    refine z_icmp_ne (tgt := 30) hx hb dX8_shut_24 (by decide) (fun c24 => ?_) (fun c24 => ?_)
    · skip
      refine z_ic hx hb dX8_shut_30 (by decide) (fun v30 h30 => ?_)
      refine lv_istore_n (lv' := [(3, .int v30), (0, .ref (ad 0)), (1, .int p1), (2, .int p2)]) hx hb dX8_shut_31 rfl hl (by decide) rfl (fun ls hl => ?_)
      exact L32 8 _ _ _ p1 p2 v30 hP hS hO (by omega) (by omega) (by omega) (by omega) _ (lv_sub hl [1, 2, 3, 0] rfl)
    · skip
      refine z_bi hx hb dX8_shut_27 (by decide) (fun v27 h27 => ?_)
      exact z_reti hx hb hr hlocks hP hS dX8_shut_29 ⟨hO, trivial⟩
  · skip
    refine z_bi hx hb dX8_shut_14 (by decide) (fun v14 h14 => ?_)
    exact z_reti hx hb hr hlocks hP hS dX8_shut_16 ⟨hO, trivial⟩
set_option maxHeartbeats 8000000 in
set_option maxRecDepth 100000 in
theorem c_X8_walker (l : Launch) (D : va_G) (cy : Nat → ClassId) (ad : Nat → Nat) (cnt : Nat → Nat) (nd : Nat) (wn : Nat) (S : Nat → Int32) (By : Nat → Int32) (Ah : Nat → Int32) (hJ : zJ 34 ad) (p1 : Int32) (p2 : Int32) (p3 : Int32) : zM l D (mT cy) 34 ad (mOK cy ad cnt nd wn S By Ah) yX8_walker vsX8_walker { frames := 3, cells := 0, slots := 0, locals := 71 } ([.ref (ad 0), .int p1, .int p2, .int p3] : List Value) (zQi D 34 ad (fun r ce => mOK cy ad cnt nd wn S By Ah ce ∧ (True))) := by
  refine z_of (cc := cX8_walker) (maxL := 6) (ret := (some .int)) (by decide) rfl (Nat.le_of_ble_eq_true rfl) ?_
  intro p e s m below meth c hx hb hr hts hown hlocks hml hK hN ce hOK hP
  have hown : s.vm.findClass RX8 = some m.cls := hown
  have hS : va_S (zA 34 ad) s.heap s.heap [] := va_S.rf
  have hO := hOK
  have inX8 : ∀ w ∈ u_ws RX8 TX8 49, w ∈ vsX8_walker := fun w h => List.mem_cons_of_mem _ (inlX8 w h)
  have fl20 := hts (.fieldLink RX8 20 "GroundKeeperModel" "door" "[I") (List.mem_cons_of_mem _ mw_346)
  have fl23 := hts (.fieldLink RX8 23 "GroundKeeperModel" "isShut" "[Z") (List.mem_cons_of_mem _ mw_347)
  have fl74 := hts (.fieldLink RX8 74 "GroundKeeperModel" "wl" "[I") (List.mem_cons_of_mem _ mw_422)
  have fl77 := hts (.fieldLink RX8 77 "GroundKeeperModel" "wx" "[I") (List.mem_cons_of_mem _ mw_423)
  have fl80 := hts (.fieldLink RX8 80 "GroundKeeperModel" "wy" "[I") (List.mem_cons_of_mem _ mw_424)
  have fl129 := hts (.fieldLink RX8 129 "GroundKeeperModel" "walkers" "I") (List.mem_cons_of_mem _ mw_425)
  have fl135 := hts (.fieldLink RX8 135 "GroundKeeperModel" "doors" "I") (List.mem_cons_of_mem _ mw_348)
  have L43 : ∀ N43 : Nat, ∀ (H : Heap) (locs : List Loc) (ce : Nat → va_E) (x1 : Int32) (x2 : Int32) (x3 : Int32) (x4 : Int32) (x5 : Int32), va_P D vwCl (zw 34 ad ce) H → va_S (zA 34 ad) s.heap H locs → mOK cy ad cnt nd wn S By Ah ce → (0 ≤ x4.toInt ∧ x4.toInt ≤ 1) → (0 ≤ x5.toInt ∧ x5.toInt ≤ 6) → (7 - x5.toInt ≤ (N43 : Int)) → ∀ ls : Array Slot, lv_has ls 6 [(0, .ref (ad 0)), (1, .int x1), (2, .int x2), (3, .int x3), (4, .int x4), (5, .int x5)] → W p l e { frames := 3, cells := 0, slots := 0, locals := 71 } s m ([.ref (ad 0), .int p1, .int p2, .int p3] : List Value).toArray below meth c H locs 0 0 (MQ below (zQi D 34 ad (fun r ce => mOK cy ad cnt nd wn S By Ah ce ∧ (True))) ([.ref (ad 0), .int p1, .int p2, .int p3] : List Value).toArray s 0 0 (zA 34 ad)) (F0 m 43 ls []) := by
    intro N43
    induction N43 with
    | zero =>
      intro H locs ce x1 x2 x3 x4 x5 hP hS hO q_x4 q_x5 hm ls hl
      exfalso; omega
    | succ N43 ih43 =>
      have J87 : ∀ (H : Heap) (locs : List Loc) (ce : Nat → va_E) (x1 : Int32) (x2 : Int32) (x3 : Int32) (x5 : Int32) (s0 : Int32), va_P D vwCl (zw 34 ad ce) H → va_S (zA 34 ad) s.heap H locs → mOK cy ad cnt nd wn S By Ah ce → (0 ≤ x5.toInt ∧ x5.toInt ≤ 5) → (0 ≤ s0.toInt ∧ s0.toInt ≤ 1) → (7 - x5.toInt ≤ (N43 : Int) + 1) → ∀ ls : Array Slot, lv_has ls 6 [(0, .ref (ad 0)), (1, .int x1), (2, .int x2), (3, .int x3), (5, .int x5)] → W p l e { frames := 3, cells := 0, slots := 0, locals := 71 } s m ([.ref (ad 0), .int p1, .int p2, .int p3] : List Value).toArray below meth c H locs 0 0 (MQ below (zQi D 34 ad (fun r ce => mOK cy ad cnt nd wn S By Ah ce ∧ (True))) ([.ref (ad 0), .int p1, .int p2, .int p3] : List Value).toArray s 0 0 (zA 34 ad)) (F0 m 87 ls [.int s0]) := by
        intro H locs ce x1 x2 x3 x5 s0 hP hS hO q_x5 q_s0 qm43 ls hl
        refine lv_istore (lv' := [(4, .int s0), (0, .ref (ad 0)), (1, .int x1), (2, .int x2), (3, .int x3), (5, .int x5)]) hx hb dX8_walker_87 hl (by decide) rfl (fun ls hl => ?_)
        refine z_iinc (lv' := fun w0 => [(5, .int w0), (4, .int s0), (0, .ref (ad 0)), (1, .int x1), (2, .int x2), (3, .int x3)]) hx hb dX8_walker_89 hl (k := 5) rfl (by decide) (fun _ => rfl) (by decide) (by omega) (fun v89 ls h89 hl => ?_)
        refine lv_goto (tgt := 43) hx hb dX8_walker_92 (by decide) ?_
        exact ih43 _ _ _ x1 x2 x3 s0 v89 hP hS hO (by omega) (by omega) (by omega) _ (lv_sub hl [2, 3, 4, 5, 1, 0] rfl)
      have J86 : ∀ (H : Heap) (locs : List Loc) (ce : Nat → va_E) (x1 : Int32) (x2 : Int32) (x3 : Int32) (x5 : Int32), va_P D vwCl (zw 34 ad ce) H → va_S (zA 34 ad) s.heap H locs → mOK cy ad cnt nd wn S By Ah ce → (0 ≤ x5.toInt ∧ x5.toInt ≤ 5) → (7 - x5.toInt ≤ (N43 : Int) + 1) → ∀ ls : Array Slot, lv_has ls 6 [(0, .ref (ad 0)), (1, .int x1), (2, .int x2), (3, .int x3), (5, .int x5)] → W p l e { frames := 3, cells := 0, slots := 0, locals := 71 } s m ([.ref (ad 0), .int p1, .int p2, .int p3] : List Value).toArray below meth c H locs 0 0 (MQ below (zQi D 34 ad (fun r ce => mOK cy ad cnt nd wn S By Ah ce ∧ (True))) ([.ref (ad 0), .int p1, .int p2, .int p3] : List Value).toArray s 0 0 (zA 34 ad)) (F0 m 86 ls []) := by
        intro H locs ce x1 x2 x3 x5 hP hS hO q_x5 qm43 ls hl
        refine z_ic hx hb dX8_walker_86 (by decide) (fun v86 h86 => ?_)
        exact J87 _ _ _ x1 x2 x3 x5 v86 hP hS hO (by omega) (by omega) (by omega) _ (lv_sub hl [0, 1, 2, 3, 4] rfl)
      have J82 : ∀ (H : Heap) (locs : List Loc) (ce : Nat → va_E) (x1 : Int32) (x2 : Int32) (x3 : Int32) (x5 : Int32), va_P D vwCl (zw 34 ad ce) H → va_S (zA 34 ad) s.heap H locs → mOK cy ad cnt nd wn S By Ah ce → (0 ≤ x5.toInt ∧ x5.toInt ≤ 5) → (7 - x5.toInt ≤ (N43 : Int) + 1) → ∀ ls : Array Slot, lv_has ls 6 [(0, .ref (ad 0)), (1, .int x1), (2, .int x2), (3, .int x3), (5, .int x5)] → W p l e { frames := 3, cells := 0, slots := 0, locals := 71 } s m ([.ref (ad 0), .int p1, .int p2, .int p3] : List Value).toArray below meth c H locs 0 0 (MQ below (zQi D 34 ad (fun r ce => mOK cy ad cnt nd wn S By Ah ce ∧ (True))) ([.ref (ad 0), .int p1, .int p2, .int p3] : List Value).toArray s 0 0 (zA 34 ad)) (F0 m 82 ls []) := by
        intro H locs ce x1 x2 x3 x5 hP hS hO q_x5 qm43 ls hl
        refine z_ic hx hb dX8_walker_82 (by decide) (fun v82 h82 => ?_)
        refine lv_goto (tgt := 87) hx hb dX8_walker_83 (by decide) ?_
        exact J87 _ _ _ x1 x2 x3 x5 v82 hP hS hO (by omega) (by omega) (by omega) _ (lv_sub hl [0, 1, 2, 3, 4] rfl)
      intro H locs ce x1 x2 x3 x4 x5 hP hS hO q_x4 q_x5 hm ls hl
      refine lv_iload hx hb dX8_walker_43 (lv_at hl 5 rfl) ?_
      refine lv_aload_n hx hb dX8_walker_45 rfl (lv_at hl 0 rfl) ?_
      obtain ⟨v46, v46a, v46b, v46c, v46d, v46e, v46f, v46g, v46h, v46i, v46j, v46k, v46l, v46m, v46n, v46o, e46, h46, h46a, h46b, h46c, h46d, h46e, h46f, h46g, h46h, h46i, h46j, h46k, h46l, h46m, h46n, h46o, h46p, h46q, h46r, h46s, h46t, h46u⟩ := mg_Mo hO
      refine va_get (ci := 8) (C := RX8) (T := TX8) (N := 49) (v := .int v46a) hx hb hts inX8 hown hK hP 0 (zw_at (by decide) e46) rfl 4 (by decide) fl135 (fun _ h => h) rfl dX8_walker_46 ?_
      refine z_icmp_ge (tgt := 95) hx hb dX8_walker_49 (by decide) (fun c49 => ?_) (fun c49 => ?_)
      · skip
        refine lv_iload hx hb dX8_walker_95 (lv_at hl 4 rfl) ?_
        refine z_if_ne (tgt := 103) hx hb dX8_walker_97 (by decide) (fun c97 => ?_) (fun c97 => ?_)
        · skip
          refine lv_aload_n hx hb dX8_walker_103 rfl (lv_at hl 0 rfl) ?_
          refine va_get (ci := 8) (C := RX8) (T := TX8) (N := 49) (v := .int v46n) hx hb hts inX8 hown hK hP 0 (zw_at (by decide) e46) rfl 35 (by decide) fl129 (fun _ h => h) rfl dX8_walker_104 ?_
          refine z_bi hx hb dX8_walker_107 (by decide) (fun v107 h107 => ?_)
          refine z_icmp_ne (tgt := 115) hx hb dX8_walker_109 (by decide) (fun c109 => ?_) (fun c109 => ?_)
          · skip
            refine lv_aload_n hx hb dX8_walker_115 rfl (lv_at hl 0 rfl) ?_
            refine va_get (ci := 8) (C := RX8) (T := TX8) (N := 49) (v := .ref (ad 22)) hx hb hts inX8 hown hK hP 0 (zw_at (by decide) e46) rfl 36 (by decide) fl74 (fun _ h => h) rfl dX8_walker_116 ?_
            refine lv_aload_n hx hb dX8_walker_119 rfl (lv_at hl 0 rfl) ?_
            refine va_get (ci := 8) (C := RX8) (T := TX8) (N := 49) (v := .int v46n) hx hb hts inX8 hown hK hP 0 (zw_at (by decide) e46) rfl 35 (by decide) fl129 (fun _ h => h) rfl dX8_walker_120 ?_
            refine lv_iload_n hx hb dX8_walker_123 rfl (lv_at hl 1 rfl) ?_
            obtain ⟨f124, e124⟩ := mg_Wl hO
            refine z_iast hx hb hK hJ hP hS (q0 := 22) 0 (by decide) e124 rfl (z_in (by omega) (by omega)) dX8_walker_124 (fun ce H locs e124a h124a hP hS => ?_)
            have hO := z_up (OKK := mK cy ad cnt nd wn S By Ah) 22 hO h124a (by rw [e124a]; exact mE_Wl |>.mpr ⟨_, rfl⟩)
            have e124b := (h124a 0 (by omega)).trans e46
            refine lv_aload_n hx hb dX8_walker_125 rfl (lv_at hl 0 rfl) ?_
            refine va_get (ci := 8) (C := RX8) (T := TX8) (N := 49) (v := .ref (ad 23)) hx hb hts inX8 hown hK hP 0 (zw_at (by decide) e124b) rfl 37 (by decide) fl77 (fun _ h => h) rfl dX8_walker_126 ?_
            refine lv_aload_n hx hb dX8_walker_129 rfl (lv_at hl 0 rfl) ?_
            refine va_get (ci := 8) (C := RX8) (T := TX8) (N := 49) (v := .int v46n) hx hb hts inX8 hown hK hP 0 (zw_at (by decide) e124b) rfl 35 (by decide) fl129 (fun _ h => h) rfl dX8_walker_130 ?_
            refine lv_iload_n hx hb dX8_walker_133 rfl (lv_at hl 2 rfl) ?_
            obtain ⟨f134, e134⟩ := mg_Wx hO
            refine z_iast hx hb hK hJ hP hS (q0 := 23) 0 (by decide) e134 rfl (z_in (by omega) (by omega)) dX8_walker_134 (fun ce H locs e134a h134a hP hS => ?_)
            have hO := z_up (OKK := mK cy ad cnt nd wn S By Ah) 23 hO h134a (by rw [e134a]; exact mE_Wx |>.mpr ⟨_, rfl⟩)
            have e134b := (h134a 0 (by omega)).trans e124b
            refine lv_aload_n hx hb dX8_walker_135 rfl (lv_at hl 0 rfl) ?_
            refine va_get (ci := 8) (C := RX8) (T := TX8) (N := 49) (v := .ref (ad 24)) hx hb hts inX8 hown hK hP 0 (zw_at (by decide) e134b) rfl 38 (by decide) fl80 (fun _ h => h) rfl dX8_walker_136 ?_
            refine lv_aload_n hx hb dX8_walker_139 rfl (lv_at hl 0 rfl) ?_
            refine va_get (ci := 8) (C := RX8) (T := TX8) (N := 49) (v := .int v46n) hx hb hts inX8 hown hK hP 0 (zw_at (by decide) e134b) rfl 35 (by decide) fl129 (fun _ h => h) rfl dX8_walker_140 ?_
            refine lv_iload_n hx hb dX8_walker_143 rfl (lv_at hl 3 rfl) ?_
            obtain ⟨f144, e144⟩ := mg_Wz hO
            refine z_iast hx hb hK hJ hP hS (q0 := 24) 0 (by decide) e144 rfl (z_in (by omega) (by omega)) dX8_walker_144 (fun ce H locs e144a h144a hP hS => ?_)
            have hO := z_up (OKK := mK cy ad cnt nd wn S By Ah) 24 hO h144a (by rw [e144a]; exact mE_Wz |>.mpr ⟨_, rfl⟩)
            have e144b := (h144a 0 (by omega)).trans e134b
            refine lv_aload_n hx hb dX8_walker_145 rfl (lv_at hl 0 rfl) ?_
            refine lv_dup hx hb dX8_walker_146 rfl ?_
            refine va_get (ci := 8) (C := RX8) (T := TX8) (N := 49) (v := .int v46n) hx hb hts inX8 hown hK hP 0 (zw_at (by decide) e144b) rfl 35 (by decide) fl129 (fun _ h => h) rfl dX8_walker_147 ?_
            refine z_ic hx hb dX8_walker_150 (by decide) (fun v150 h150 => ?_)
            refine z_addE hx hb dX8_walker_151 (by omega) (fun v151 h151 => ?_)
            refine z_put (q0 := 0) (ci := 8) (C := RX8) (T := TX8) (N := 49) hx hb hts inX8 tyX8 tyX8_ok nmX8 hown hK hJ hP hS (by decide) e144b rfl 35 (by decide) fl129 (fun _ h => h) rfl (ty := .int) (by decide +kernel) rfl rfl (Nat.le_of_ble_eq_true rfl) (fs1 := [.int v46, .ref (ad 1), .ref (ad 2), .ref (ad 3), .int v46a, .ref (ad 4), .ref (ad 5), .int v46b, .ref (ad 6), .ref (ad 7), .int v46c, .ref (ad 8), .int v46d, .int v46e, .int v46f, .int v46g, .int v46h, .int v46i, .int v46j, .ref (ad 9), .ref (ad 10), .int v46k, .ref (ad 11), .ref (ad 12), .ref (ad 13), .ref (ad 14), .ref (ad 15), .ref (ad 16), .ref (ad 17), .int v46l, .ref (ad 18), .int v46m, .ref (ad 19), .ref (ad 20), .ref (ad 21), .int v151, .ref (ad 22), .ref (ad 23), .ref (ad 24), .ref (ad 25), .ref (ad 26), .ref (ad 27), .ref (ad 28), .ref (ad 29), .ref (ad 30), .ref (ad 31), .ref (ad 32), .ref (ad 33), .int v46o]) rfl dX8_walker_152 (fun ce H locs e152 h152 hP hS => ?_)
            have hO := z_up (OKK := mK cy ad cnt nd wn S By Ah) 0 hO h152 (by rw [e152]; exact mE_Mo |>.mpr ⟨v46, v46a, v46b, v46c, v46d, v46e, v46f, v46g, v46h, v46i, v46j, v46k, v46l, v46m, v151, v46o, rfl, h46, h46a, h46b, h46c, h46d, h46e, h46f, h46g, h46h, h46i, h46j, h46k, h46l, h46m, h46n, h46o, h46p, h46q, h46r, h46s, by omega, by omega⟩)
            refine lv_aload_n hx hb dX8_walker_155 rfl (lv_at hl 0 rfl) ?_
            refine va_get (ci := 8) (C := RX8) (T := TX8) (N := 49) (v := .int v151) hx hb hts inX8 hown hK hP 0 (zw_at (by decide) e152) rfl 35 (by decide) fl129 (fun _ h => h) rfl dX8_walker_156 ?_
            refine z_ic hx hb dX8_walker_159 (by decide) (fun v159 h159 => ?_)
            refine z_subE hx hb dX8_walker_160 (by omega) (fun v160 h160 => ?_)
            exact z_reti hx hb hr hlocks hP hS dX8_walker_161 ⟨hO, trivial⟩
          · skip
            refine z_bi hx hb dX8_walker_112 (by decide) (fun v112 h112 => ?_)
            exact z_reti hx hb hr hlocks hP hS dX8_walker_114 ⟨hO, trivial⟩
        · skip
          refine z_bi hx hb dX8_walker_100 (by decide) (fun v100 h100 => ?_)
          exact z_reti hx hb hr hlocks hP hS dX8_walker_102 ⟨hO, trivial⟩
      · skip
        refine lv_iload hx hb dX8_walker_52 (lv_at hl 4 rfl) ?_
        refine z_if_eq (tgt := 86) hx hb dX8_walker_54 (by decide) (fun c54 => ?_) (fun c54 => ?_)
        · skip
          exact J86 _ _ _ x1 x2 x3 x5 hP hS hO (by omega) (by omega) _ (lv_sub hl [0, 1, 2, 3, 5] rfl)
        · skip
          refine lv_aload_n hx hb dX8_walker_57 rfl (lv_at hl 0 rfl) ?_
          refine va_get (ci := 8) (C := RX8) (T := TX8) (N := 49) (v := .ref (ad 5)) hx hb hts inX8 hown hK hP 0 (zw_at (by decide) e46) rfl 6 (by decide) fl23 (fun _ h => h) rfl dX8_walker_58 ?_
          refine lv_iload hx hb dX8_walker_61 (lv_at hl 5 rfl) ?_
          obtain ⟨f63, e63⟩ := mg_Sh hO
          refine z_zald hx hb hK hP (q0 := 5) 1 (by decide) e63 rfl (by omega) dX8_walker_63 (fun v63 r63 => ?_)
          refine z_if_eq (tgt := 82) hx hb dX8_walker_64 (by decide) (fun c64 => ?_) (fun c64 => ?_)
          · skip
            exact J82 _ _ _ x1 x2 x3 x5 hP hS hO (by omega) (by omega) _ (lv_sub hl [0, 1, 2, 3, 5] rfl)
          · skip
            refine lv_aload_n hx hb dX8_walker_67 rfl (lv_at hl 0 rfl) ?_
            refine va_get (ci := 8) (C := RX8) (T := TX8) (N := 49) (v := .ref (ad 4)) hx hb hts inX8 hown hK hP 0 (zw_at (by decide) e46) rfl 5 (by decide) fl20 (fun _ h => h) rfl dX8_walker_68 ?_
            refine lv_iload hx hb dX8_walker_71 (lv_at hl 5 rfl) ?_
            refine lv_iload_n hx hb dX8_walker_73 rfl (lv_at hl 1 rfl) ?_
            refine lv_iload_n hx hb dX8_walker_74 rfl (lv_at hl 2 rfl) ?_
            refine lv_iload_n hx hb dX8_walker_75 rfl (lv_at hl 3 rfl) ?_
            refine z_ciP (z_rS (As := [.ref (ad 4), .int x5, .int x1, .int x2, .int x3]) (rest := []) ⟨hx, hb, hml, hown, hts⟩ (c_X8_isOn_Dr l D cy ad cnt nd wn S By Ah (fun c1 => c1 = ce) hJ x5 x1 x2 x3 (by omega)) (va_cwS 5 hts (g_S mw_387 mw_388 mw_324 mw_389) rfl rfl rfl (by decide +kernel) ⟨Nat.le_of_ble_eq_true rfl, Nat.le_of_ble_eq_true rfl⟩) hK hN ⟨hO, rfl⟩ hP rfl hl.1 rfl (Nat.le_of_ble_eq_true rfl) dX8_walker_76 ⟨Nat.zero_le _, Nat.zero_le _⟩) hS (fun _ h => h.2) (fun v76 H locs h76 hP hS => ?_)
            refine z_if_ne (tgt := 86) hx hb dX8_walker_79 (by decide) (fun c79 => ?_) (fun c79 => ?_)
            · skip
              exact J86 _ _ _ x1 x2 x3 x5 hP hS hO (by omega) (by omega) _ (lv_sub hl [0, 1, 2, 3, 5] rfl)
            · skip
              exact J82 _ _ _ x1 x2 x3 x5 hP hS hO (by omega) (by omega) _ (lv_sub hl [0, 1, 2, 3, 5] rfl)
  have J38 : ∀ (H : Heap) (locs : List Loc) (ce : Nat → va_E) (x1 : Int32) (x2 : Int32) (x3 : Int32) (s0 : Int32), va_P D vwCl (zw 34 ad ce) H → va_S (zA 34 ad) s.heap H locs → mOK cy ad cnt nd wn S By Ah ce → (0 ≤ s0.toInt ∧ s0.toInt ≤ 1) → ∀ ls : Array Slot, lv_has ls 6 [(0, .ref (ad 0)), (1, .int x1), (2, .int x2), (3, .int x3)] → W p l e { frames := 3, cells := 0, slots := 0, locals := 71 } s m ([.ref (ad 0), .int p1, .int p2, .int p3] : List Value).toArray below meth c H locs 0 0 (MQ below (zQi D 34 ad (fun r ce => mOK cy ad cnt nd wn S By Ah ce ∧ (True))) ([.ref (ad 0), .int p1, .int p2, .int p3] : List Value).toArray s 0 0 (zA 34 ad)) (F0 m 38 ls [.int s0]) := by
    intro H locs ce x1 x2 x3 s0 hP hS hO q_s0 ls hl
    refine lv_istore (lv' := [(4, .int s0), (0, .ref (ad 0)), (1, .int x1), (2, .int x2), (3, .int x3)]) hx hb dX8_walker_38 hl (by decide) rfl (fun ls hl => ?_)
    refine z_ic hx hb dX8_walker_40 (by decide) (fun v40 h40 => ?_)
    refine lv_istore (lv' := [(5, .int v40), (4, .int s0), (0, .ref (ad 0)), (1, .int x1), (2, .int x2), (3, .int x3)]) hx hb dX8_walker_41 hl (by decide) rfl (fun ls hl => ?_)
    exact L43 8 _ _ _ x1 x2 x3 s0 v40 hP hS hO (by omega) (by omega) (by omega) _ (lv_sub hl [2, 3, 4, 5, 1, 0] rfl)
  have J37 : ∀ (H : Heap) (locs : List Loc) (ce : Nat → va_E) (x1 : Int32) (x2 : Int32) (x3 : Int32), va_P D vwCl (zw 34 ad ce) H → va_S (zA 34 ad) s.heap H locs → mOK cy ad cnt nd wn S By Ah ce → ∀ ls : Array Slot, lv_has ls 6 [(0, .ref (ad 0)), (1, .int x1), (2, .int x2), (3, .int x3)] → W p l e { frames := 3, cells := 0, slots := 0, locals := 71 } s m ([.ref (ad 0), .int p1, .int p2, .int p3] : List Value).toArray below meth c H locs 0 0 (MQ below (zQi D 34 ad (fun r ce => mOK cy ad cnt nd wn S By Ah ce ∧ (True))) ([.ref (ad 0), .int p1, .int p2, .int p3] : List Value).toArray s 0 0 (zA 34 ad)) (F0 m 37 ls []) := by
    intro H locs ce x1 x2 x3 hP hS hO ls hl
    refine z_ic hx hb dX8_walker_37 (by decide) (fun v37 h37 => ?_)
    exact J38 _ _ _ x1 x2 x3 v37 hP hS hO (by omega) _ (lv_sub hl [0, 1, 2, 3] rfl)
  intro ls hl
  have hl : lv_has ls 6 [(0, .ref (ad 0)), (1, .int p1), (2, .int p2), (3, .int p3)] := hl
  refine lv_iload_n hx hb dX8_walker_0 rfl (lv_at hl 1 rfl) ?_
  refine lv_iload_n hx hb dX8_walker_1 rfl (lv_at hl 2 rfl) ?_
  refine lv_iload_n hx hb dX8_walker_2 rfl (lv_at hl 3 rfl) ?_
  refine z_ciP (z_rS (As := [.int p1, .int p2, .int p3]) (rest := []) ⟨hx, hb, hml, hown, hts⟩ (c_X8_isPlace l D (mT cy) 34 ad (fun c1 => c1 = ce) p1 p2 p3) (va_cwS 3 hts (g_S mw_326 mw_327 mw_324 mw_328) rfl rfl rfl (by decide +kernel) ⟨Nat.le_of_ble_eq_true rfl, Nat.le_of_ble_eq_true rfl⟩) hK hN rfl hP rfl hl.1 rfl (Nat.le_of_ble_eq_true rfl) dX8_walker_3 ⟨Nat.zero_le _, Nat.zero_le _⟩) hS (fun _ h => h) (fun v3 H locs h3 hP hS => ?_)
  refine z_if_ne (tgt := 12) hx hb dX8_walker_6 (by decide) (fun c6 => ?_) (fun c6 => ?_)
  · skip
    refine lv_aload_n hx hb dX8_walker_12 rfl (lv_at hl 0 rfl) ?_
    refine lv_iload_n hx hb dX8_walker_13 rfl (lv_at hl 1 rfl) ?_
    refine lv_iload_n hx hb dX8_walker_14 rfl (lv_at hl 2 rfl) ?_
    refine lv_iload_n hx hb dX8_walker_15 rfl (lv_at hl 3 rfl) ?_
    obtain ⟨v16, v16a, v16b, v16c, v16d, v16e, v16f, v16g, v16h, v16i, v16j, v16k, v16l, v16m, v16n, v16o, e16, h16, h16a, h16b, h16c, h16d, h16e, h16f, h16g, h16h, h16i, h16j, h16k, h16l, h16m, h16n, h16o, h16p, h16q, h16r, h16s, h16t, h16u⟩ := mg_Mo hO
    refine z_ciP (z_rV (q0 := 0) (As := [.int p1, .int p2, .int p3]) (rest := []) ⟨hx, hb, hml, hown, hts⟩ (c_X8_isGround l D cy ad cnt nd wn S By Ah (fun c1 => c1 = ce) hJ p1 p2 p3) (cwV 3 hts (g_V mw_390 mw_391 mw_392 mw_324 mw_393) rfl rfl rfl (by decide +kernel) ⟨Nat.le_of_ble_eq_true rfl, Nat.le_of_ble_eq_true rfl⟩) hK hN ⟨hO, rfl⟩ hP (by decide) e16 rfl rfl hl.1 rfl (Nat.le_of_ble_eq_true rfl) dX8_walker_16 ⟨Nat.zero_le _, Nat.zero_le _⟩) hS (fun _ h => h.2) (fun v16p H locs h16v hP hS => ?_)
    refine z_if_eq (tgt := 37) hx hb dX8_walker_19 (by decide) (fun c19 => ?_) (fun c19 => ?_)
    · skip
      exact J37 _ _ _ p1 p2 p3 hP hS hO _ (lv_sub hl [0, 1, 2, 3] rfl)
    · skip
      refine lv_aload_n hx hb dX8_walker_22 rfl (lv_at hl 0 rfl) ?_
      refine z_ic hx hb dX8_walker_23 (by decide) (fun v23 h23 => ?_)
      refine lv_iload_n hx hb dX8_walker_24 rfl (lv_at hl 1 rfl) ?_
      refine lv_iload_n hx hb dX8_walker_25 rfl (lv_at hl 2 rfl) ?_
      refine lv_iload_n hx hb dX8_walker_26 rfl (lv_at hl 3 rfl) ?_
      refine z_ciP (z_rV (q0 := 0) (As := [.int v23, .int p1, .int p2, .int p3]) (rest := []) ⟨hx, hb, hml, hown, hts⟩ (c_X8_isTaken l D cy ad cnt nd wn S By Ah (fun c1 => c1 = ce) hJ v23 p1 p2 p3) (cwV 4 hts (g_V mw_439 mw_440 mw_441 mw_324 mw_442) rfl rfl rfl (by decide +kernel) ⟨Nat.le_of_ble_eq_true rfl, Nat.le_of_ble_eq_true rfl⟩) hK hN ⟨hO, rfl⟩ hP (by decide) e16 rfl rfl hl.1 rfl (Nat.le_of_ble_eq_true rfl) dX8_walker_27 ⟨Nat.zero_le _, Nat.zero_le _⟩) hS (fun _ h => h.2) (fun v27 H locs h27 hP hS => ?_)
      refine z_if_ne (tgt := 37) hx hb dX8_walker_30 (by decide) (fun c30 => ?_) (fun c30 => ?_)
      · skip
        exact J37 _ _ _ p1 p2 p3 hP hS hO _ (lv_sub hl [0, 1, 2, 3] rfl)
      · skip
        refine z_ic hx hb dX8_walker_33 (by decide) (fun v33 h33 => ?_)
        refine lv_goto (tgt := 38) hx hb dX8_walker_34 (by decide) ?_
        exact J38 _ _ _ p1 p2 p3 v33 hP hS hO (by omega) _ (lv_sub hl [0, 1, 2, 3] rfl)
  · skip
    refine z_bi hx hb dX8_walker_9 (by decide) (fun v9 h9 => ?_)
    exact z_reti hx hb hr hlocks hP hS dX8_walker_11 ⟨hO, trivial⟩
set_option maxHeartbeats 8000000 in
set_option maxRecDepth 100000 in
theorem c_X8_room (l : Launch) (D : va_G) (cy : Nat → ClassId) (ad : Nat → Nat) (cnt : Nat → Nat) (nd : Nat) (wn : Nat) (S : Nat → Int32) (By : Nat → Int32) (Ah : Nat → Int32) (hJ : zJ 34 ad) (p1 : Int32) (p2 : Int32) (p3 : Int32) (p4 : Int32) (p5 : Int32) : zM l D (mT cy) 34 ad (mOK cy ad cnt nd wn S By Ah) yX8_room vsX8_room { frames := 3, cells := 0, slots := 0, locals := 68 } ([.ref (ad 0), .int p1, .int p2, .int p3, .int p4, .int p5] : List Value) (zQi D 34 ad (fun r ce => mtopP cy ad cnt (0 ≤ p1.toInt ∧ p1.toInt ≤ 2 ∧ 0 ≤ p2.toInt ∧ p2.toInt ≤ 100 ∧ 0 ≤ p3.toInt ∧ p3.toInt ≤ 100 ∧ 0 ≤ p1.toInt ∧ p1.toInt ≤ 2 ∧ 0 ≤ p4.toInt ∧ p4.toInt ≤ 100 ∧ 0 ≤ p5.toInt ∧ p5.toInt ≤ 100 ∧ p2.toInt < p4.toInt ∧ p3.toInt < p5.toInt) 4 12 r ce)) := by
  refine z_of (cc := cX8_room) (maxL := 6) (ret := (some .int)) (by decide) rfl (Nat.le_of_ble_eq_true rfl) ?_
  intro p e s m below meth c hx hb hr hts hown hlocks hml hK hN ce hOK hP
  have hown : s.vm.findClass RX8 = some m.cls := hown
  have hS : va_S (zA 34 ad) s.heap s.heap [] := va_S.rf
  have hO := hOK
  have inX8 : ∀ w ∈ u_ws RX8 TX8 49, w ∈ vsX8_room := fun w h => List.mem_cons_of_mem _ (inlX8 w h)
  have fl7 := hts (.fieldLink RX8 7 "GroundKeeperModel" "room" "[I") (List.mem_cons_of_mem _ mw_339)
  have fl121 := hts (.fieldLink RX8 121 "GroundKeeperModel" "rooms" "I") (List.mem_cons_of_mem _ mw_343)
  intro ls hl
  have hl : lv_has ls 6 [(0, .ref (ad 0)), (1, .int p1), (2, .int p2), (3, .int p3), (4, .int p4), (5, .int p5)] := hl
  refine lv_iload_n hx hb dX8_room_0 rfl (lv_at hl 1 rfl) ?_
  refine lv_iload_n hx hb dX8_room_1 rfl (lv_at hl 2 rfl) ?_
  refine lv_iload_n hx hb dX8_room_2 rfl (lv_at hl 3 rfl) ?_
  refine lv_iload hx hb dX8_room_3 (lv_at hl 4 rfl) ?_
  refine lv_iload hx hb dX8_room_5 (lv_at hl 5 rfl) ?_
  refine z_ciP (z_rS (As := [.int p1, .int p2, .int p3, .int p4, .int p5]) (rest := []) ⟨hx, hb, hml, hown, hts⟩ (c_X8_isField l D (mT cy) 34 ad (fun c1 => c1 = ce) p1 p2 p3 p4 p5) (va_cwS 5 hts (g_S mw_486 mw_487 mw_324 mw_488) rfl rfl rfl (by decide +kernel) ⟨Nat.le_of_ble_eq_true rfl, Nat.le_of_ble_eq_true rfl⟩) hK hN rfl hP rfl hl.1 rfl (Nat.le_of_ble_eq_true rfl) dX8_room_7 ⟨Nat.zero_le _, Nat.zero_le _⟩) hS (fun _ h => h) (fun v7 H locs h7 hP hS => ?_)
  refine z_if_ne (tgt := 16) hx hb dX8_room_10 (by decide) (fun c10 => ?_) (fun c10 => ?_)
  · skip
    refine lv_aload_n hx hb dX8_room_16 rfl (lv_at hl 0 rfl) ?_
    obtain ⟨v17, v17a, v17b, v17c, v17d, v17e, v17f, v17g, v17h, v17i, v17j, v17k, v17l, v17m, v17n, v17o, e17, h17, h17a, h17b, h17c, h17d, h17e, h17f, h17g, h17h, h17i, h17j, h17k, h17l, h17m, h17n, h17o, h17p, h17q, h17r, h17s, h17t, h17u⟩ := mg_Mo hO
    refine va_get (ci := 8) (C := RX8) (T := TX8) (N := 49) (v := .int v17) hx hb hts inX8 hown hK hP 0 (zw_at (by decide) e17) rfl 0 (by decide) fl121 (fun _ h => h) rfl dX8_room_17 ?_
    refine z_bi hx hb dX8_room_20 (by decide) (fun v20 h20 => ?_)
    refine z_icmp_ne (tgt := 28) hx hb dX8_room_22 (by decide) (fun c22 => ?_) (fun c22 => ?_)
    · skip
      refine lv_aload_n hx hb dX8_room_28 rfl (lv_at hl 0 rfl) ?_
      refine va_get (ci := 8) (C := RX8) (T := TX8) (N := 49) (v := .ref (ad 1)) hx hb hts inX8 hown hK hP 0 (zw_at (by decide) e17) rfl 1 (by decide) fl7 (fun _ h => h) rfl dX8_room_29 ?_
      refine lv_aload_n hx hb dX8_room_32 rfl (lv_at hl 0 rfl) ?_
      refine va_get (ci := 8) (C := RX8) (T := TX8) (N := 49) (v := .int v17) hx hb hts inX8 hown hK hP 0 (zw_at (by decide) e17) rfl 0 (by decide) fl121 (fun _ h => h) rfl dX8_room_33 ?_
      refine lv_iload_n hx hb dX8_room_36 rfl (lv_at hl 1 rfl) ?_
      refine lv_iload_n hx hb dX8_room_37 rfl (lv_at hl 2 rfl) ?_
      refine lv_iload_n hx hb dX8_room_38 rfl (lv_at hl 3 rfl) ?_
      refine lv_iload hx hb dX8_room_39 (lv_at hl 4 rfl) ?_
      refine lv_iload hx hb dX8_room_41 (lv_at hl 5 rfl) ?_
      refine z_cv (z_rS (As := [.ref (ad 1), .int v17, .int p1, .int p2, .int p3, .int p4, .int p5]) (rest := []) ⟨hx, hb, hml, hown, hts⟩ (c_X8_lays_Rm l D cy ad cnt nd wn S By Ah hJ v17 p1 p2 p3 p4 p5 (by omega)) (va_cwS 7 hts (g_S mw_483 mw_484 mw_324 mw_485) rfl rfl rfl (by decide +kernel) ⟨Nat.le_of_ble_eq_true rfl, Nat.le_of_ble_eq_true rfl⟩) hK hN hO hP rfl hl.1 rfl (Nat.le_of_ble_eq_true rfl) dX8_room_43 ⟨Nat.zero_le _, Nat.zero_le _⟩) hS (fun ce H locs h43 hP hS => ?_)
      obtain ⟨hO, h43a⟩ := h43
      refine lv_aload_n hx hb dX8_room_46 rfl (lv_at hl 0 rfl) ?_
      refine lv_dup hx hb dX8_room_47 rfl ?_
      obtain ⟨v48, v48a, v48b, v48c, v48d, v48e, v48f, v48g, v48h, v48i, v48j, v48k, v48l, v48m, v48n, v48o, e48, h48, h48a, h48b, h48c, h48d, h48e, h48f, h48g, h48h, h48i, h48j, h48k, h48l, h48m, h48n, h48o, h48p, h48q, h48r, h48s, h48t, h48u⟩ := mg_Mo hO
      refine va_get (ci := 8) (C := RX8) (T := TX8) (N := 49) (v := .int v48) hx hb hts inX8 hown hK hP 0 (zw_at (by decide) e48) rfl 0 (by decide) fl121 (fun _ h => h) rfl dX8_room_48 ?_
      refine z_ic hx hb dX8_room_51 (by decide) (fun v51 h51 => ?_)
      refine z_addE hx hb dX8_room_52 (by omega) (fun v52 h52 => ?_)
      refine z_put (q0 := 0) (ci := 8) (C := RX8) (T := TX8) (N := 49) hx hb hts inX8 tyX8 tyX8_ok nmX8 hown hK hJ hP hS (by decide) e48 rfl 0 (by decide) fl121 (fun _ h => h) rfl (ty := .int) (by decide +kernel) rfl rfl (Nat.le_of_ble_eq_true rfl) (fs1 := [.int v52, .ref (ad 1), .ref (ad 2), .ref (ad 3), .int v48a, .ref (ad 4), .ref (ad 5), .int v48b, .ref (ad 6), .ref (ad 7), .int v48c, .ref (ad 8), .int v48d, .int v48e, .int v48f, .int v48g, .int v48h, .int v48i, .int v48j, .ref (ad 9), .ref (ad 10), .int v48k, .ref (ad 11), .ref (ad 12), .ref (ad 13), .ref (ad 14), .ref (ad 15), .ref (ad 16), .ref (ad 17), .int v48l, .ref (ad 18), .int v48m, .ref (ad 19), .ref (ad 20), .ref (ad 21), .int v48n, .ref (ad 22), .ref (ad 23), .ref (ad 24), .ref (ad 25), .ref (ad 26), .ref (ad 27), .ref (ad 28), .ref (ad 29), .ref (ad 30), .ref (ad 31), .ref (ad 32), .ref (ad 33), .int v48o]) rfl dX8_room_53 (fun ce H locs e53 h53 hP hS => ?_)
      have hu1 : va_up cnt 4 (cnt 4 + 1) 1 = cnt 1 := by simp [va_up]
      have hu4 : va_up cnt 4 (cnt 4 + 1) 4 = cnt 4 + 1 := by simp [va_up]
      have hu6 : va_up cnt 4 (cnt 4 + 1) 6 = cnt 6 := by simp [va_up]
      have hu7 : va_up cnt 4 (cnt 4 + 1) 7 = cnt 7 := by simp [va_up]
      have hO := z_up2 (OKK := mK cy ad cnt nd wn S By Ah) (OKL := mK cy ad (va_up cnt 4 (cnt 4 + 1)) nd wn S By Ah) 0 hO h53 (fun q e _ h => mK_cnt (by assumption) h) (by rw [e53]; exact mE_Mo |>.mpr ⟨v52, v48a, v48b, v48c, v48d, v48e, v48f, v48g, v48h, v48i, v48j, v48k, v48l, v48m, v48n, v48o, rfl, by omega, by omega, by omega, by omega, by omega, by omega, by omega, by omega, by omega, by omega, by omega, by omega, by omega, by omega, by omega, by omega, by omega, by omega, h48r, h48s, h48t, h48u⟩)
      refine lv_aload_n hx hb dX8_room_56 rfl (lv_at hl 0 rfl) ?_
      refine va_get (ci := 8) (C := RX8) (T := TX8) (N := 49) (v := .int v52) hx hb hts inX8 hown hK hP 0 (zw_at (by decide) e53) rfl 0 (by decide) fl121 (fun _ h => h) rfl dX8_room_57 ?_
      refine z_ic hx hb dX8_room_60 (by decide) (fun v60 h60 => ?_)
      refine z_subE hx hb dX8_room_61 (by omega) (fun v61 h61 => ?_)
      exact z_reti hx hb hr hlocks hP hS dX8_room_62 ⟨fun h => by exfalso; omega, fun _ => ⟨fun h => by exfalso; omega, fun _ => ⟨by omega, ⟨_, _, _, _, _, hO⟩⟩⟩⟩
    · skip
      refine z_bi hx hb dX8_room_25 (by decide) (fun v25 h25 => ?_)
      exact z_reti hx hb hr hlocks hP hS dX8_room_27 ⟨fun h => by exfalso; omega, fun _ => ⟨fun _ => ⟨by omega, ⟨_, _, _, _, _, hO⟩⟩, fun h => by exfalso; omega⟩⟩
  · skip
    refine z_bi hx hb dX8_room_13 (by decide) (fun v13 h13 => ?_)
    exact z_reti hx hb hr hlocks hP hS dX8_room_15 ⟨fun _ => ⟨by omega, ⟨_, _, _, _, _, hO⟩⟩, fun h => by exfalso; omega⟩
set_option maxHeartbeats 8000000 in
set_option maxRecDepth 100000 in
theorem c_X8_door (l : Launch) (D : va_G) (cy : Nat → ClassId) (ad : Nat → Nat) (cnt : Nat → Nat) (nd : Nat) (wn : Nat) (S : Nat → Int32) (By : Nat → Int32) (Ah : Nat → Int32) (hJ : zJ 34 ad) (p1 : Int32) (p2 : Int32) (p3 : Int32) (p4 : Int32) (p5 : Int32) : zM l D (mT cy) 34 ad (mOK cy ad cnt nd wn S By Ah) yX8_door vsX8_door { frames := 3, cells := 0, slots := 0, locals := 68 } ([.ref (ad 0), .int p1, .int p2, .int p3, .int p4, .int p5] : List Value) (zQi D 34 ad (fun r ce => mtopP cy ad cnt (0 ≤ p1.toInt ∧ p1.toInt ≤ 2 ∧ 0 ≤ p2.toInt ∧ p2.toInt ≤ 100 ∧ 0 ≤ p3.toInt ∧ p3.toInt ≤ 100 ∧ 0 ≤ p1.toInt ∧ p1.toInt ≤ 2 ∧ 0 ≤ p4.toInt ∧ p4.toInt ≤ 100 ∧ 0 ≤ p5.toInt ∧ p5.toInt ≤ 100 ∧ ((p2.toInt = p4.toInt ∧ ¬ p3.toInt = p5.toInt) ∨ (¬ p2.toInt = p4.toInt ∧ p3.toInt = p5.toInt))) 6 6 r ce)) := by
  refine z_of (cc := cX8_door) (maxL := 6) (ret := (some .int)) (by decide) rfl (Nat.le_of_ble_eq_true rfl) ?_
  intro p e s m below meth c hx hb hr hts hown hlocks hml hK hN ce hOK hP
  have hown : s.vm.findClass RX8 = some m.cls := hown
  have hS : va_S (zA 34 ad) s.heap s.heap [] := va_S.rf
  have hO := hOK
  have inX8 : ∀ w ∈ u_ws RX8 TX8 49, w ∈ vsX8_door := fun w h => List.mem_cons_of_mem _ (inlX8 w h)
  have fl20 := hts (.fieldLink RX8 20 "GroundKeeperModel" "door" "[I") (List.mem_cons_of_mem _ mw_346)
  have fl135 := hts (.fieldLink RX8 135 "GroundKeeperModel" "doors" "I") (List.mem_cons_of_mem _ mw_348)
  intro ls hl
  have hl : lv_has ls 6 [(0, .ref (ad 0)), (1, .int p1), (2, .int p2), (3, .int p3), (4, .int p4), (5, .int p5)] := hl
  refine lv_iload_n hx hb dX8_door_0 rfl (lv_at hl 1 rfl) ?_
  refine lv_iload_n hx hb dX8_door_1 rfl (lv_at hl 2 rfl) ?_
  refine lv_iload_n hx hb dX8_door_2 rfl (lv_at hl 3 rfl) ?_
  refine lv_iload hx hb dX8_door_3 (lv_at hl 4 rfl) ?_
  refine lv_iload hx hb dX8_door_5 (lv_at hl 5 rfl) ?_
  refine z_ciP (z_rS (As := [.int p1, .int p2, .int p3, .int p4, .int p5]) (rest := []) ⟨hx, hb, hml, hown, hts⟩ (c_X8_isLine l D (mT cy) 34 ad (fun c1 => c1 = ce) p1 p2 p3 p4 p5) (va_cwS 5 hts (g_S mw_489 mw_490 mw_324 mw_491) rfl rfl rfl (by decide +kernel) ⟨Nat.le_of_ble_eq_true rfl, Nat.le_of_ble_eq_true rfl⟩) hK hN rfl hP rfl hl.1 rfl (Nat.le_of_ble_eq_true rfl) dX8_door_7 ⟨Nat.zero_le _, Nat.zero_le _⟩) hS (fun _ h => h) (fun v7 H locs h7 hP hS => ?_)
  refine z_if_ne (tgt := 16) hx hb dX8_door_10 (by decide) (fun c10 => ?_) (fun c10 => ?_)
  · skip
    refine lv_aload_n hx hb dX8_door_16 rfl (lv_at hl 0 rfl) ?_
    obtain ⟨v17, v17a, v17b, v17c, v17d, v17e, v17f, v17g, v17h, v17i, v17j, v17k, v17l, v17m, v17n, v17o, e17, h17, h17a, h17b, h17c, h17d, h17e, h17f, h17g, h17h, h17i, h17j, h17k, h17l, h17m, h17n, h17o, h17p, h17q, h17r, h17s, h17t, h17u⟩ := mg_Mo hO
    refine va_get (ci := 8) (C := RX8) (T := TX8) (N := 49) (v := .int v17a) hx hb hts inX8 hown hK hP 0 (zw_at (by decide) e17) rfl 4 (by decide) fl135 (fun _ h => h) rfl dX8_door_17 ?_
    refine z_bi hx hb dX8_door_20 (by decide) (fun v20 h20 => ?_)
    refine z_icmp_ne (tgt := 28) hx hb dX8_door_22 (by decide) (fun c22 => ?_) (fun c22 => ?_)
    · skip
      refine lv_aload_n hx hb dX8_door_28 rfl (lv_at hl 0 rfl) ?_
      refine va_get (ci := 8) (C := RX8) (T := TX8) (N := 49) (v := .ref (ad 4)) hx hb hts inX8 hown hK hP 0 (zw_at (by decide) e17) rfl 5 (by decide) fl20 (fun _ h => h) rfl dX8_door_29 ?_
      refine lv_aload_n hx hb dX8_door_32 rfl (lv_at hl 0 rfl) ?_
      refine va_get (ci := 8) (C := RX8) (T := TX8) (N := 49) (v := .int v17a) hx hb hts inX8 hown hK hP 0 (zw_at (by decide) e17) rfl 4 (by decide) fl135 (fun _ h => h) rfl dX8_door_33 ?_
      refine lv_iload_n hx hb dX8_door_36 rfl (lv_at hl 1 rfl) ?_
      refine lv_iload_n hx hb dX8_door_37 rfl (lv_at hl 2 rfl) ?_
      refine lv_iload_n hx hb dX8_door_38 rfl (lv_at hl 3 rfl) ?_
      refine lv_iload hx hb dX8_door_39 (lv_at hl 4 rfl) ?_
      refine lv_iload hx hb dX8_door_41 (lv_at hl 5 rfl) ?_
      refine z_cv (z_rS (As := [.ref (ad 4), .int v17a, .int p1, .int p2, .int p3, .int p4, .int p5]) (rest := []) ⟨hx, hb, hml, hown, hts⟩ (c_X8_lays_Dr l D cy ad cnt nd wn S By Ah hJ v17a p1 p2 p3 p4 p5 (by omega)) (va_cwS 7 hts (g_S mw_483 mw_484 mw_324 mw_485) rfl rfl rfl (by decide +kernel) ⟨Nat.le_of_ble_eq_true rfl, Nat.le_of_ble_eq_true rfl⟩) hK hN hO hP rfl hl.1 rfl (Nat.le_of_ble_eq_true rfl) dX8_door_43 ⟨Nat.zero_le _, Nat.zero_le _⟩) hS (fun ce H locs h43 hP hS => ?_)
      obtain ⟨hO, h43a⟩ := h43
      refine lv_aload_n hx hb dX8_door_46 rfl (lv_at hl 0 rfl) ?_
      refine lv_dup hx hb dX8_door_47 rfl ?_
      obtain ⟨v48, v48a, v48b, v48c, v48d, v48e, v48f, v48g, v48h, v48i, v48j, v48k, v48l, v48m, v48n, v48o, e48, h48, h48a, h48b, h48c, h48d, h48e, h48f, h48g, h48h, h48i, h48j, h48k, h48l, h48m, h48n, h48o, h48p, h48q, h48r, h48s, h48t, h48u⟩ := mg_Mo hO
      refine va_get (ci := 8) (C := RX8) (T := TX8) (N := 49) (v := .int v48a) hx hb hts inX8 hown hK hP 0 (zw_at (by decide) e48) rfl 4 (by decide) fl135 (fun _ h => h) rfl dX8_door_48 ?_
      refine z_ic hx hb dX8_door_51 (by decide) (fun v51 h51 => ?_)
      refine z_addE hx hb dX8_door_52 (by omega) (fun v52 h52 => ?_)
      refine z_put (q0 := 0) (ci := 8) (C := RX8) (T := TX8) (N := 49) hx hb hts inX8 tyX8 tyX8_ok nmX8 hown hK hJ hP hS (by decide) e48 rfl 4 (by decide) fl135 (fun _ h => h) rfl (ty := .int) (by decide +kernel) rfl rfl (Nat.le_of_ble_eq_true rfl) (fs1 := [.int v48, .ref (ad 1), .ref (ad 2), .ref (ad 3), .int v52, .ref (ad 4), .ref (ad 5), .int v48b, .ref (ad 6), .ref (ad 7), .int v48c, .ref (ad 8), .int v48d, .int v48e, .int v48f, .int v48g, .int v48h, .int v48i, .int v48j, .ref (ad 9), .ref (ad 10), .int v48k, .ref (ad 11), .ref (ad 12), .ref (ad 13), .ref (ad 14), .ref (ad 15), .ref (ad 16), .ref (ad 17), .int v48l, .ref (ad 18), .int v48m, .ref (ad 19), .ref (ad 20), .ref (ad 21), .int v48n, .ref (ad 22), .ref (ad 23), .ref (ad 24), .ref (ad 25), .ref (ad 26), .ref (ad 27), .ref (ad 28), .ref (ad 29), .ref (ad 30), .ref (ad 31), .ref (ad 32), .ref (ad 33), .int v48o]) rfl dX8_door_53 (fun ce H locs e53 h53 hP hS => ?_)
      have hu1 : va_up cnt 6 (cnt 6 + 1) 1 = cnt 1 := by simp [va_up]
      have hu4 : va_up cnt 6 (cnt 6 + 1) 4 = cnt 4 := by simp [va_up]
      have hu6 : va_up cnt 6 (cnt 6 + 1) 6 = cnt 6 + 1 := by simp [va_up]
      have hu7 : va_up cnt 6 (cnt 6 + 1) 7 = cnt 7 := by simp [va_up]
      have hO := z_up2 (OKK := mK cy ad cnt nd wn S By Ah) (OKL := mK cy ad (va_up cnt 6 (cnt 6 + 1)) nd wn S By Ah) 0 hO h53 (fun q e _ h => mK_cnt (by assumption) h) (by rw [e53]; exact mE_Mo |>.mpr ⟨v48, v52, v48b, v48c, v48d, v48e, v48f, v48g, v48h, v48i, v48j, v48k, v48l, v48m, v48n, v48o, rfl, by omega, by omega, by omega, by omega, by omega, by omega, by omega, by omega, by omega, by omega, by omega, by omega, by omega, by omega, by omega, by omega, by omega, by omega, h48r, h48s, h48t, h48u⟩)
      refine lv_aload_n hx hb dX8_door_56 rfl (lv_at hl 0 rfl) ?_
      refine va_get (ci := 8) (C := RX8) (T := TX8) (N := 49) (v := .int v52) hx hb hts inX8 hown hK hP 0 (zw_at (by decide) e53) rfl 4 (by decide) fl135 (fun _ h => h) rfl dX8_door_57 ?_
      refine z_ic hx hb dX8_door_60 (by decide) (fun v60 h60 => ?_)
      refine z_subE hx hb dX8_door_61 (by omega) (fun v61 h61 => ?_)
      exact z_reti hx hb hr hlocks hP hS dX8_door_62 ⟨fun h => by exfalso; omega, fun _ => ⟨fun h => by exfalso; omega, fun _ => ⟨by omega, ⟨_, _, _, _, _, hO⟩⟩⟩⟩
    · skip
      refine z_bi hx hb dX8_door_25 (by decide) (fun v25 h25 => ?_)
      exact z_reti hx hb hr hlocks hP hS dX8_door_27 ⟨fun h => by exfalso; omega, fun _ => ⟨fun _ => ⟨by omega, ⟨_, _, _, _, _, hO⟩⟩, fun h => by exfalso; omega⟩⟩
  · skip
    refine z_bi hx hb dX8_door_13 (by decide) (fun v13 h13 => ?_)
    exact z_reti hx hb hr hlocks hP hS dX8_door_15 ⟨fun _ => ⟨by omega, ⟨_, _, _, _, _, hO⟩⟩, fun h => by exfalso; omega⟩
set_option maxHeartbeats 8000000 in
set_option maxRecDepth 100000 in
theorem c_X8_ledge (l : Launch) (D : va_G) (cy : Nat → ClassId) (ad : Nat → Nat) (cnt : Nat → Nat) (nd : Nat) (wn : Nat) (S : Nat → Int32) (By : Nat → Int32) (Ah : Nat → Int32) (hJ : zJ 34 ad) (p1 : Int32) (p2 : Int32) (p3 : Int32) (p4 : Int32) (p5 : Int32) (p6 : Int32) (q_p6 : 0 ≤ p6.toInt ∧ p6.toInt ≤ 1) : zM l D (mT cy) 34 ad (mOK cy ad cnt nd wn S By Ah) yX8_ledge vsX8_ledge { frames := 3, cells := 0, slots := 0, locals := 68 } ([.ref (ad 0), .int p1, .int p2, .int p3, .int p4, .int p5, .int p6] : List Value) (zQi D 34 ad (fun r ce => mtopP cy ad cnt (0 ≤ p1.toInt ∧ p1.toInt ≤ 2 ∧ 0 ≤ p2.toInt ∧ p2.toInt ≤ 100 ∧ 0 ≤ p3.toInt ∧ p3.toInt ≤ 100 ∧ 0 ≤ p1.toInt ∧ p1.toInt ≤ 2 ∧ 0 ≤ p4.toInt ∧ p4.toInt ≤ 100 ∧ 0 ≤ p5.toInt ∧ p5.toInt ≤ 100 ∧ ((p2.toInt = p4.toInt ∧ ¬ p3.toInt = p5.toInt) ∨ (¬ p2.toInt = p4.toInt ∧ p3.toInt = p5.toInt))) 7 6 r ce)) := by
  refine z_of (cc := cX8_ledge) (maxL := 7) (ret := (some .int)) (by decide) rfl (Nat.le_of_ble_eq_true rfl) ?_
  intro p e s m below meth c hx hb hr hts hown hlocks hml hK hN ce hOK hP
  have hown : s.vm.findClass RX8 = some m.cls := hown
  have hS : va_S (zA 34 ad) s.heap s.heap [] := va_S.rf
  have hO := hOK
  have inX8 : ∀ w ∈ u_ws RX8 TX8 49, w ∈ vsX8_ledge := fun w h => List.mem_cons_of_mem _ (inlX8 w h)
  have fl26 := hts (.fieldLink RX8 26 "GroundKeeperModel" "ledge" "[I") (List.mem_cons_of_mem _ mw_344)
  have fl29 := hts (.fieldLink RX8 29 "GroundKeeperModel" "rises" "[Z") (List.mem_cons_of_mem _ mw_345)
  have fl142 := hts (.fieldLink RX8 142 "GroundKeeperModel" "ledges" "I") (List.mem_cons_of_mem _ mw_349)
  intro ls hl
  have hl : lv_has ls 7 [(0, .ref (ad 0)), (1, .int p1), (2, .int p2), (3, .int p3), (4, .int p4), (5, .int p5), (6, .int p6)] := hl
  refine lv_iload_n hx hb dX8_ledge_0 rfl (lv_at hl 1 rfl) ?_
  refine lv_iload_n hx hb dX8_ledge_1 rfl (lv_at hl 2 rfl) ?_
  refine lv_iload_n hx hb dX8_ledge_2 rfl (lv_at hl 3 rfl) ?_
  refine lv_iload hx hb dX8_ledge_3 (lv_at hl 4 rfl) ?_
  refine lv_iload hx hb dX8_ledge_5 (lv_at hl 5 rfl) ?_
  refine z_ciP (z_rS (As := [.int p1, .int p2, .int p3, .int p4, .int p5]) (rest := []) ⟨hx, hb, hml, hown, hts⟩ (c_X8_isLine l D (mT cy) 34 ad (fun c1 => c1 = ce) p1 p2 p3 p4 p5) (va_cwS 5 hts (g_S mw_489 mw_490 mw_324 mw_491) rfl rfl rfl (by decide +kernel) ⟨Nat.le_of_ble_eq_true rfl, Nat.le_of_ble_eq_true rfl⟩) hK hN rfl hP rfl hl.1 rfl (Nat.le_of_ble_eq_true rfl) dX8_ledge_7 ⟨Nat.zero_le _, Nat.zero_le _⟩) hS (fun _ h => h) (fun v7 H locs h7 hP hS => ?_)
  refine z_if_ne (tgt := 16) hx hb dX8_ledge_10 (by decide) (fun c10 => ?_) (fun c10 => ?_)
  · skip
    refine lv_aload_n hx hb dX8_ledge_16 rfl (lv_at hl 0 rfl) ?_
    obtain ⟨v17, v17a, v17b, v17c, v17d, v17e, v17f, v17g, v17h, v17i, v17j, v17k, v17l, v17m, v17n, v17o, e17, h17, h17a, h17b, h17c, h17d, h17e, h17f, h17g, h17h, h17i, h17j, h17k, h17l, h17m, h17n, h17o, h17p, h17q, h17r, h17s, h17t, h17u⟩ := mg_Mo hO
    refine va_get (ci := 8) (C := RX8) (T := TX8) (N := 49) (v := .int v17b) hx hb hts inX8 hown hK hP 0 (zw_at (by decide) e17) rfl 7 (by decide) fl142 (fun _ h => h) rfl dX8_ledge_17 ?_
    refine z_bi hx hb dX8_ledge_20 (by decide) (fun v20 h20 => ?_)
    refine z_icmp_ne (tgt := 28) hx hb dX8_ledge_22 (by decide) (fun c22 => ?_) (fun c22 => ?_)
    · skip
      refine lv_aload_n hx hb dX8_ledge_28 rfl (lv_at hl 0 rfl) ?_
      refine va_get (ci := 8) (C := RX8) (T := TX8) (N := 49) (v := .ref (ad 6)) hx hb hts inX8 hown hK hP 0 (zw_at (by decide) e17) rfl 8 (by decide) fl26 (fun _ h => h) rfl dX8_ledge_29 ?_
      refine lv_aload_n hx hb dX8_ledge_32 rfl (lv_at hl 0 rfl) ?_
      refine va_get (ci := 8) (C := RX8) (T := TX8) (N := 49) (v := .int v17b) hx hb hts inX8 hown hK hP 0 (zw_at (by decide) e17) rfl 7 (by decide) fl142 (fun _ h => h) rfl dX8_ledge_33 ?_
      refine lv_iload_n hx hb dX8_ledge_36 rfl (lv_at hl 1 rfl) ?_
      refine lv_iload_n hx hb dX8_ledge_37 rfl (lv_at hl 2 rfl) ?_
      refine lv_iload_n hx hb dX8_ledge_38 rfl (lv_at hl 3 rfl) ?_
      refine lv_iload hx hb dX8_ledge_39 (lv_at hl 4 rfl) ?_
      refine lv_iload hx hb dX8_ledge_41 (lv_at hl 5 rfl) ?_
      refine z_cv (z_rS (As := [.ref (ad 6), .int v17b, .int p1, .int p2, .int p3, .int p4, .int p5]) (rest := []) ⟨hx, hb, hml, hown, hts⟩ (c_X8_lays_Lg l D cy ad cnt nd wn S By Ah hJ v17b p1 p2 p3 p4 p5 (by omega)) (va_cwS 7 hts (g_S mw_483 mw_484 mw_324 mw_485) rfl rfl rfl (by decide +kernel) ⟨Nat.le_of_ble_eq_true rfl, Nat.le_of_ble_eq_true rfl⟩) hK hN hO hP rfl hl.1 rfl (Nat.le_of_ble_eq_true rfl) dX8_ledge_43 ⟨Nat.zero_le _, Nat.zero_le _⟩) hS (fun ce H locs h43 hP hS => ?_)
      obtain ⟨hO, h43a⟩ := h43
      refine lv_aload_n hx hb dX8_ledge_46 rfl (lv_at hl 0 rfl) ?_
      obtain ⟨v47, v47a, v47b, v47c, v47d, v47e, v47f, v47g, v47h, v47i, v47j, v47k, v47l, v47m, v47n, v47o, e47, h47, h47a, h47b, h47c, h47d, h47e, h47f, h47g, h47h, h47i, h47j, h47k, h47l, h47m, h47n, h47o, h47p, h47q, h47r, h47s, h47t, h47u⟩ := mg_Mo hO
      refine va_get (ci := 8) (C := RX8) (T := TX8) (N := 49) (v := .ref (ad 7)) hx hb hts inX8 hown hK hP 0 (zw_at (by decide) e47) rfl 9 (by decide) fl29 (fun _ h => h) rfl dX8_ledge_47 ?_
      refine lv_aload_n hx hb dX8_ledge_50 rfl (lv_at hl 0 rfl) ?_
      refine va_get (ci := 8) (C := RX8) (T := TX8) (N := 49) (v := .int v47b) hx hb hts inX8 hown hK hP 0 (zw_at (by decide) e47) rfl 7 (by decide) fl142 (fun _ h => h) rfl dX8_ledge_51 ?_
      refine lv_iload hx hb dX8_ledge_54 (lv_at hl 6 rfl) ?_
      obtain ⟨f56, e56⟩ := mg_Ri hO
      refine z_zast hx hb hK hJ hP hS (q0 := 7) 1 (by decide) e56 rfl (z_in (by omega) (by omega)) dX8_ledge_56 (fun ce H locs e56a h56a hP hS => ?_)
      have hO := z_up (OKK := mK cy ad cnt nd wn S By Ah) 7 hO h56a (by rw [e56a]; exact mE_Ri |>.mpr ⟨_, rfl⟩)
      have e56b := (h56a 0 (by omega)).trans e47
      refine lv_aload_n hx hb dX8_ledge_57 rfl (lv_at hl 0 rfl) ?_
      refine lv_dup hx hb dX8_ledge_58 rfl ?_
      refine va_get (ci := 8) (C := RX8) (T := TX8) (N := 49) (v := .int v47b) hx hb hts inX8 hown hK hP 0 (zw_at (by decide) e56b) rfl 7 (by decide) fl142 (fun _ h => h) rfl dX8_ledge_59 ?_
      refine z_ic hx hb dX8_ledge_62 (by decide) (fun v62 h62 => ?_)
      refine z_addE hx hb dX8_ledge_63 (by omega) (fun v63 h63 => ?_)
      refine z_put (q0 := 0) (ci := 8) (C := RX8) (T := TX8) (N := 49) hx hb hts inX8 tyX8 tyX8_ok nmX8 hown hK hJ hP hS (by decide) e56b rfl 7 (by decide) fl142 (fun _ h => h) rfl (ty := .int) (by decide +kernel) rfl rfl (Nat.le_of_ble_eq_true rfl) (fs1 := [.int v47, .ref (ad 1), .ref (ad 2), .ref (ad 3), .int v47a, .ref (ad 4), .ref (ad 5), .int v63, .ref (ad 6), .ref (ad 7), .int v47c, .ref (ad 8), .int v47d, .int v47e, .int v47f, .int v47g, .int v47h, .int v47i, .int v47j, .ref (ad 9), .ref (ad 10), .int v47k, .ref (ad 11), .ref (ad 12), .ref (ad 13), .ref (ad 14), .ref (ad 15), .ref (ad 16), .ref (ad 17), .int v47l, .ref (ad 18), .int v47m, .ref (ad 19), .ref (ad 20), .ref (ad 21), .int v47n, .ref (ad 22), .ref (ad 23), .ref (ad 24), .ref (ad 25), .ref (ad 26), .ref (ad 27), .ref (ad 28), .ref (ad 29), .ref (ad 30), .ref (ad 31), .ref (ad 32), .ref (ad 33), .int v47o]) rfl dX8_ledge_64 (fun ce H locs e64 h64 hP hS => ?_)
      have hu1 : va_up cnt 7 (cnt 7 + 1) 1 = cnt 1 := by simp [va_up]
      have hu4 : va_up cnt 7 (cnt 7 + 1) 4 = cnt 4 := by simp [va_up]
      have hu6 : va_up cnt 7 (cnt 7 + 1) 6 = cnt 6 := by simp [va_up]
      have hu7 : va_up cnt 7 (cnt 7 + 1) 7 = cnt 7 + 1 := by simp [va_up]
      have hO := z_up2 (OKK := mK cy ad cnt nd wn S By Ah) (OKL := mK cy ad (va_up cnt 7 (cnt 7 + 1)) nd wn S By Ah) 0 hO h64 (fun q e _ h => mK_cnt (by assumption) h) (by rw [e64]; exact mE_Mo |>.mpr ⟨v47, v47a, v63, v47c, v47d, v47e, v47f, v47g, v47h, v47i, v47j, v47k, v47l, v47m, v47n, v47o, rfl, by omega, by omega, by omega, by omega, by omega, by omega, by omega, by omega, by omega, by omega, by omega, by omega, by omega, by omega, by omega, by omega, by omega, by omega, h47r, h47s, h47t, h47u⟩)
      refine lv_aload_n hx hb dX8_ledge_67 rfl (lv_at hl 0 rfl) ?_
      refine va_get (ci := 8) (C := RX8) (T := TX8) (N := 49) (v := .int v63) hx hb hts inX8 hown hK hP 0 (zw_at (by decide) e64) rfl 7 (by decide) fl142 (fun _ h => h) rfl dX8_ledge_68 ?_
      refine z_ic hx hb dX8_ledge_71 (by decide) (fun v71 h71 => ?_)
      refine z_subE hx hb dX8_ledge_72 (by omega) (fun v72 h72 => ?_)
      exact z_reti hx hb hr hlocks hP hS dX8_ledge_73 ⟨fun h => by exfalso; omega, fun _ => ⟨fun h => by exfalso; omega, fun _ => ⟨by omega, ⟨_, _, _, _, _, hO⟩⟩⟩⟩
    · skip
      refine z_bi hx hb dX8_ledge_25 (by decide) (fun v25 h25 => ?_)
      exact z_reti hx hb hr hlocks hP hS dX8_ledge_27 ⟨fun h => by exfalso; omega, fun _ => ⟨fun _ => ⟨by omega, ⟨_, _, _, _, _, hO⟩⟩, fun h => by exfalso; omega⟩⟩
  · skip
    refine z_bi hx hb dX8_ledge_13 (by decide) (fun v13 h13 => ?_)
    exact z_reti hx hb hr hlocks hP hS dX8_ledge_15 ⟨fun _ => ⟨by omega, ⟨_, _, _, _, _, hO⟩⟩, fun h => by exfalso; omega⟩
set_option maxHeartbeats 8000000 in
set_option maxRecDepth 100000 in
theorem c_X8_ladder (l : Launch) (D : va_G) (cy : Nat → ClassId) (ad : Nat → Nat) (cnt : Nat → Nat) (nd : Nat) (wn : Nat) (S : Nat → Int32) (By : Nat → Int32) (Ah : Nat → Int32) (hJ : zJ 34 ad) (p1 : Int32) (p2 : Int32) (p3 : Int32) (p4 : Int32) (p5 : Int32) (p6 : Int32) (p7 : Int32) : zM l D (mT cy) 34 ad (mOK cy ad cnt nd wn S By Ah) yX8_ladder vsX8_ladder { frames := 2, cells := 0, slots := 0, locals := 44 } ([.ref (ad 0), .int p1, .int p2, .int p3, .int p4, .int p5, .int p6, .int p7] : List Value) (zQi D 34 ad (fun r ce => mtopP cy ad cnt (0 ≤ p1.toInt ∧ p1.toInt ≤ 2 ∧ 0 ≤ p2.toInt ∧ p2.toInt ≤ 100 ∧ 0 ≤ p3.toInt ∧ p3.toInt ≤ 100 ∧ 0 ≤ p4.toInt ∧ p4.toInt ≤ 2 ∧ 0 ≤ p5.toInt ∧ p5.toInt ≤ 100 ∧ 0 ≤ p6.toInt ∧ p6.toInt ≤ 100 ∧ ¬ p1.toInt = p4.toInt ∧ 0 ≤ p7.toInt ∧ p7.toInt ≤ 1000000) 1 6 r ce)) := by
  refine z_of (cc := cX8_ladder) (maxL := 8) (ret := (some .int)) (by decide) rfl (Nat.le_of_ble_eq_true rfl) ?_
  intro p e s m below meth c hx hb hr hts hown hlocks hml hK hN ce hOK hP
  have hown : s.vm.findClass RX8 = some m.cls := hown
  have hS : va_S (zA 34 ad) s.heap s.heap [] := va_S.rf
  have hO := hOK
  have inX8 : ∀ w ∈ u_ws RX8 TX8 49, w ∈ vsX8_ladder := fun w h => List.mem_cons_of_mem _ (inlX8 w h)
  have fl32 := hts (.fieldLink RX8 32 "GroundKeeperModel" "ladder" "[I") (List.mem_cons_of_mem _ mw_377)
  have fl146 := hts (.fieldLink RX8 146 "GroundKeeperModel" "ladders" "I") (List.mem_cons_of_mem _ mw_378)
  intro ls hl
  have hl : lv_has ls 8 [(0, .ref (ad 0)), (1, .int p1), (2, .int p2), (3, .int p3), (4, .int p4), (5, .int p5), (6, .int p6), (7, .int p7)] := hl
  refine lv_iload_n hx hb dX8_ladder_0 rfl (lv_at hl 1 rfl) ?_
  refine lv_iload_n hx hb dX8_ladder_1 rfl (lv_at hl 2 rfl) ?_
  refine lv_iload_n hx hb dX8_ladder_2 rfl (lv_at hl 3 rfl) ?_
  refine z_ciP (z_rS (As := [.int p1, .int p2, .int p3]) (rest := []) ⟨hx, hb, hml, hown, hts⟩ (c_X8_isPlace l D (mT cy) 34 ad (fun c1 => c1 = ce) p1 p2 p3) (va_cwS 3 hts (g_S mw_326 mw_327 mw_324 mw_328) rfl rfl rfl (by decide +kernel) ⟨Nat.le_of_ble_eq_true rfl, Nat.le_of_ble_eq_true rfl⟩) hK hN rfl hP rfl hl.1 rfl (Nat.le_of_ble_eq_true rfl) dX8_ladder_3 ⟨Nat.zero_le _, Nat.zero_le _⟩) hS (fun _ h => h) (fun v3 H locs h3 hP hS => ?_)
  refine z_if_eq (tgt := 38) hx hb dX8_ladder_6 (by decide) (fun c6 => ?_) (fun c6 => ?_)
  · skip
    refine z_bi hx hb dX8_ladder_38 (by decide) (fun v38 h38 => ?_)
    exact z_reti hx hb hr hlocks hP hS dX8_ladder_40 ⟨fun _ => ⟨by omega, ⟨_, _, _, _, _, hO⟩⟩, fun h => by exfalso; omega⟩
  · skip
    refine lv_iload hx hb dX8_ladder_9 (lv_at hl 4 rfl) ?_
    refine lv_iload hx hb dX8_ladder_11 (lv_at hl 5 rfl) ?_
    refine lv_iload hx hb dX8_ladder_13 (lv_at hl 6 rfl) ?_
    refine z_ciP (z_rS (As := [.int p4, .int p5, .int p6]) (rest := []) ⟨hx, hb, hml, hown, hts⟩ (c_X8_isPlace l D (mT cy) 34 ad (fun c1 => c1 = ce) p4 p5 p6) (va_cwS 3 hts (g_S mw_326 mw_327 mw_324 mw_328) rfl rfl rfl (by decide +kernel) ⟨Nat.le_of_ble_eq_true rfl, Nat.le_of_ble_eq_true rfl⟩) hK hN rfl hP rfl hl.1 rfl (Nat.le_of_ble_eq_true rfl) dX8_ladder_15 ⟨Nat.zero_le _, Nat.zero_le _⟩) hS (fun _ h => h) (fun v15 H locs h15 hP hS => ?_)
    refine z_if_eq (tgt := 38) hx hb dX8_ladder_18 (by decide) (fun c18 => ?_) (fun c18 => ?_)
    · skip
      refine z_bi hx hb dX8_ladder_38 (by decide) (fun v38 h38 => ?_)
      exact z_reti hx hb hr hlocks hP hS dX8_ladder_40 ⟨fun _ => ⟨by omega, ⟨_, _, _, _, _, hO⟩⟩, fun h => by exfalso; omega⟩
    · skip
      refine lv_iload_n hx hb dX8_ladder_21 rfl (lv_at hl 1 rfl) ?_
      refine lv_iload hx hb dX8_ladder_22 (lv_at hl 4 rfl) ?_
      refine z_icmp_eq (tgt := 38) hx hb dX8_ladder_24 (by decide) (fun c24 => ?_) (fun c24 => ?_)
      · skip
        refine z_bi hx hb dX8_ladder_38 (by decide) (fun v38 h38 => ?_)
        exact z_reti hx hb hr hlocks hP hS dX8_ladder_40 ⟨fun _ => ⟨by omega, ⟨_, _, _, _, _, hO⟩⟩, fun h => by exfalso; omega⟩
      · skip
        refine lv_iload hx hb dX8_ladder_27 (lv_at hl 7 rfl) ?_
        refine z_ic hx hb dX8_ladder_29 (by decide) (fun v29 h29 => ?_)
        refine z_ldc (k := 1000000) hx hb hown (hts (.constant RX8 145 (1000000)) (List.mem_cons_of_mem _ mw_466)) dX8_ladder_30 (by decide) (fun v30 h30 => ?_)
        refine z_ciP (z_rS (As := [.int p7, .int v29, .int v30]) (rest := []) ⟨hx, hb, hml, hown, hts⟩ (c_X8_in l D (mT cy) 34 ad (fun c1 => c1 = ce) p7 v29 v30) (va_cwS 3 hts (g_S mw_322 mw_323 mw_324 mw_325) rfl rfl rfl (by decide +kernel) ⟨Nat.le_of_ble_eq_true rfl, Nat.le_of_ble_eq_true rfl⟩) hK hN rfl hP rfl hl.1 rfl (Nat.le_of_ble_eq_true rfl) dX8_ladder_32 ⟨Nat.zero_le _, Nat.zero_le _⟩) hS (fun _ h => h) (fun v32 H locs h32 hP hS => ?_)
        refine z_if_ne (tgt := 41) hx hb dX8_ladder_35 (by decide) (fun c35 => ?_) (fun c35 => ?_)
        · skip
          refine lv_aload_n hx hb dX8_ladder_41 rfl (lv_at hl 0 rfl) ?_
          obtain ⟨v42, v42a, v42b, v42c, v42d, v42e, v42f, v42g, v42h, v42i, v42j, v42k, v42l, v42m, v42n, v42o, e42, h42, h42a, h42b, h42c, h42d, h42e, h42f, h42g, h42h, h42i, h42j, h42k, h42l, h42m, h42n, h42o, h42p, h42q, h42r, h42s, h42t, h42u⟩ := mg_Mo hO
          refine va_get (ci := 8) (C := RX8) (T := TX8) (N := 49) (v := .int v42c) hx hb hts inX8 hown hK hP 0 (zw_at (by decide) e42) rfl 10 (by decide) fl146 (fun _ h => h) rfl dX8_ladder_42 ?_
          refine z_bi hx hb dX8_ladder_45 (by decide) (fun v45 h45 => ?_)
          refine z_icmp_ne (tgt := 53) hx hb dX8_ladder_47 (by decide) (fun c47 => ?_) (fun c47 => ?_)
          · skip
            refine lv_aload_n hx hb dX8_ladder_53 rfl (lv_at hl 0 rfl) ?_
            refine va_get (ci := 8) (C := RX8) (T := TX8) (N := 49) (v := .ref (ad 8)) hx hb hts inX8 hown hK hP 0 (zw_at (by decide) e42) rfl 11 (by decide) fl32 (fun _ h => h) rfl dX8_ladder_54 ?_
            refine z_bi hx hb dX8_ladder_57 (by decide) (fun v57 h57 => ?_)
            refine lv_aload_n hx hb dX8_ladder_59 rfl (lv_at hl 0 rfl) ?_
            refine va_get (ci := 8) (C := RX8) (T := TX8) (N := 49) (v := .int v42c) hx hb hts inX8 hown hK hP 0 (zw_at (by decide) e42) rfl 10 (by decide) fl146 (fun _ h => h) rfl dX8_ladder_60 ?_
            refine z_mulJ hx hb 7 dX8_ladder_63 (by omega) (by omega) (fun v63 h63 => ?_)
            refine lv_iload_n hx hb dX8_ladder_64 rfl (lv_at hl 1 rfl) ?_
            obtain ⟨f65, e65⟩ := mg_Ld hO
            refine z_iast hx hb hK hJ hP hS (q0 := 8) 0 (by decide) e65 rfl (z_in (by omega) (by omega)) dX8_ladder_65 (fun ce H locs e65a h65a hP hS => ?_)
            have hO := z_up (OKK := mK cy ad cnt nd wn S By Ah) 8 hO h65a (by rw [e65a]; exact mE_Ld |>.mpr ⟨_, rfl⟩)
            have e65b := (h65a 0 (by omega)).trans e42
            refine lv_aload_n hx hb dX8_ladder_66 rfl (lv_at hl 0 rfl) ?_
            refine va_get (ci := 8) (C := RX8) (T := TX8) (N := 49) (v := .ref (ad 8)) hx hb hts inX8 hown hK hP 0 (zw_at (by decide) e65b) rfl 11 (by decide) fl32 (fun _ h => h) rfl dX8_ladder_67 ?_
            refine z_bi hx hb dX8_ladder_70 (by decide) (fun v70 h70 => ?_)
            refine lv_aload_n hx hb dX8_ladder_72 rfl (lv_at hl 0 rfl) ?_
            refine va_get (ci := 8) (C := RX8) (T := TX8) (N := 49) (v := .int v42c) hx hb hts inX8 hown hK hP 0 (zw_at (by decide) e65b) rfl 10 (by decide) fl146 (fun _ h => h) rfl dX8_ladder_73 ?_
            refine z_mulJ hx hb 7 dX8_ladder_76 (by omega) (by omega) (fun v76 h76 => ?_)
            refine z_ic hx hb dX8_ladder_77 (by decide) (fun v77 h77 => ?_)
            refine z_addE hx hb dX8_ladder_78 (by omega) (fun v78 h78 => ?_)
            refine lv_iload_n hx hb dX8_ladder_79 rfl (lv_at hl 2 rfl) ?_
            obtain ⟨f80, e80⟩ := mg_Ld hO
            refine z_iast hx hb hK hJ hP hS (q0 := 8) 0 (by decide) e80 rfl (z_in (by omega) (by omega)) dX8_ladder_80 (fun ce H locs e80a h80a hP hS => ?_)
            have hO := z_up (OKK := mK cy ad cnt nd wn S By Ah) 8 hO h80a (by rw [e80a]; exact mE_Ld |>.mpr ⟨_, rfl⟩)
            have e80b := (h80a 0 (by omega)).trans e65b
            refine lv_aload_n hx hb dX8_ladder_81 rfl (lv_at hl 0 rfl) ?_
            refine va_get (ci := 8) (C := RX8) (T := TX8) (N := 49) (v := .ref (ad 8)) hx hb hts inX8 hown hK hP 0 (zw_at (by decide) e80b) rfl 11 (by decide) fl32 (fun _ h => h) rfl dX8_ladder_82 ?_
            refine z_bi hx hb dX8_ladder_85 (by decide) (fun v85 h85 => ?_)
            refine lv_aload_n hx hb dX8_ladder_87 rfl (lv_at hl 0 rfl) ?_
            refine va_get (ci := 8) (C := RX8) (T := TX8) (N := 49) (v := .int v42c) hx hb hts inX8 hown hK hP 0 (zw_at (by decide) e80b) rfl 10 (by decide) fl146 (fun _ h => h) rfl dX8_ladder_88 ?_
            refine z_mulJ hx hb 7 dX8_ladder_91 (by omega) (by omega) (fun v91 h91 => ?_)
            refine z_ic hx hb dX8_ladder_92 (by decide) (fun v92 h92 => ?_)
            refine z_addE hx hb dX8_ladder_93 (by omega) (fun v93 h93 => ?_)
            refine lv_iload_n hx hb dX8_ladder_94 rfl (lv_at hl 3 rfl) ?_
            obtain ⟨f95, e95⟩ := mg_Ld hO
            refine z_iast hx hb hK hJ hP hS (q0 := 8) 0 (by decide) e95 rfl (z_in (by omega) (by omega)) dX8_ladder_95 (fun ce H locs e95a h95a hP hS => ?_)
            have hO := z_up (OKK := mK cy ad cnt nd wn S By Ah) 8 hO h95a (by rw [e95a]; exact mE_Ld |>.mpr ⟨_, rfl⟩)
            have e95b := (h95a 0 (by omega)).trans e80b
            refine lv_aload_n hx hb dX8_ladder_96 rfl (lv_at hl 0 rfl) ?_
            refine va_get (ci := 8) (C := RX8) (T := TX8) (N := 49) (v := .ref (ad 8)) hx hb hts inX8 hown hK hP 0 (zw_at (by decide) e95b) rfl 11 (by decide) fl32 (fun _ h => h) rfl dX8_ladder_97 ?_
            refine z_bi hx hb dX8_ladder_100 (by decide) (fun v100 h100 => ?_)
            refine lv_aload_n hx hb dX8_ladder_102 rfl (lv_at hl 0 rfl) ?_
            refine va_get (ci := 8) (C := RX8) (T := TX8) (N := 49) (v := .int v42c) hx hb hts inX8 hown hK hP 0 (zw_at (by decide) e95b) rfl 10 (by decide) fl146 (fun _ h => h) rfl dX8_ladder_103 ?_
            refine z_mulJ hx hb 7 dX8_ladder_106 (by omega) (by omega) (fun v106 h106 => ?_)
            refine z_ic hx hb dX8_ladder_107 (by decide) (fun v107 h107 => ?_)
            refine z_addE hx hb dX8_ladder_108 (by omega) (fun v108 h108 => ?_)
            refine lv_iload hx hb dX8_ladder_109 (lv_at hl 4 rfl) ?_
            obtain ⟨f111, e111⟩ := mg_Ld hO
            refine z_iast hx hb hK hJ hP hS (q0 := 8) 0 (by decide) e111 rfl (z_in (by omega) (by omega)) dX8_ladder_111 (fun ce H locs e111a h111a hP hS => ?_)
            have hO := z_up (OKK := mK cy ad cnt nd wn S By Ah) 8 hO h111a (by rw [e111a]; exact mE_Ld |>.mpr ⟨_, rfl⟩)
            have e111b := (h111a 0 (by omega)).trans e95b
            refine lv_aload_n hx hb dX8_ladder_112 rfl (lv_at hl 0 rfl) ?_
            refine va_get (ci := 8) (C := RX8) (T := TX8) (N := 49) (v := .ref (ad 8)) hx hb hts inX8 hown hK hP 0 (zw_at (by decide) e111b) rfl 11 (by decide) fl32 (fun _ h => h) rfl dX8_ladder_113 ?_
            refine z_bi hx hb dX8_ladder_116 (by decide) (fun v116 h116 => ?_)
            refine lv_aload_n hx hb dX8_ladder_118 rfl (lv_at hl 0 rfl) ?_
            refine va_get (ci := 8) (C := RX8) (T := TX8) (N := 49) (v := .int v42c) hx hb hts inX8 hown hK hP 0 (zw_at (by decide) e111b) rfl 10 (by decide) fl146 (fun _ h => h) rfl dX8_ladder_119 ?_
            refine z_mulJ hx hb 7 dX8_ladder_122 (by omega) (by omega) (fun v122 h122 => ?_)
            refine z_ic hx hb dX8_ladder_123 (by decide) (fun v123 h123 => ?_)
            refine z_addE hx hb dX8_ladder_124 (by omega) (fun v124 h124 => ?_)
            refine lv_iload hx hb dX8_ladder_125 (lv_at hl 5 rfl) ?_
            obtain ⟨f127, e127⟩ := mg_Ld hO
            refine z_iast hx hb hK hJ hP hS (q0 := 8) 0 (by decide) e127 rfl (z_in (by omega) (by omega)) dX8_ladder_127 (fun ce H locs e127a h127a hP hS => ?_)
            have hO := z_up (OKK := mK cy ad cnt nd wn S By Ah) 8 hO h127a (by rw [e127a]; exact mE_Ld |>.mpr ⟨_, rfl⟩)
            have e127b := (h127a 0 (by omega)).trans e111b
            refine lv_aload_n hx hb dX8_ladder_128 rfl (lv_at hl 0 rfl) ?_
            refine va_get (ci := 8) (C := RX8) (T := TX8) (N := 49) (v := .ref (ad 8)) hx hb hts inX8 hown hK hP 0 (zw_at (by decide) e127b) rfl 11 (by decide) fl32 (fun _ h => h) rfl dX8_ladder_129 ?_
            refine z_bi hx hb dX8_ladder_132 (by decide) (fun v132 h132 => ?_)
            refine lv_aload_n hx hb dX8_ladder_134 rfl (lv_at hl 0 rfl) ?_
            refine va_get (ci := 8) (C := RX8) (T := TX8) (N := 49) (v := .int v42c) hx hb hts inX8 hown hK hP 0 (zw_at (by decide) e127b) rfl 10 (by decide) fl146 (fun _ h => h) rfl dX8_ladder_135 ?_
            refine z_mulJ hx hb 7 dX8_ladder_138 (by omega) (by omega) (fun v138 h138 => ?_)
            refine z_ic hx hb dX8_ladder_139 (by decide) (fun v139 h139 => ?_)
            refine z_addE hx hb dX8_ladder_140 (by omega) (fun v140 h140 => ?_)
            refine lv_iload hx hb dX8_ladder_141 (lv_at hl 6 rfl) ?_
            obtain ⟨f143, e143⟩ := mg_Ld hO
            refine z_iast hx hb hK hJ hP hS (q0 := 8) 0 (by decide) e143 rfl (z_in (by omega) (by omega)) dX8_ladder_143 (fun ce H locs e143a h143a hP hS => ?_)
            have hO := z_up (OKK := mK cy ad cnt nd wn S By Ah) 8 hO h143a (by rw [e143a]; exact mE_Ld |>.mpr ⟨_, rfl⟩)
            have e143b := (h143a 0 (by omega)).trans e127b
            refine lv_aload_n hx hb dX8_ladder_144 rfl (lv_at hl 0 rfl) ?_
            refine va_get (ci := 8) (C := RX8) (T := TX8) (N := 49) (v := .ref (ad 8)) hx hb hts inX8 hown hK hP 0 (zw_at (by decide) e143b) rfl 11 (by decide) fl32 (fun _ h => h) rfl dX8_ladder_145 ?_
            refine z_bi hx hb dX8_ladder_148 (by decide) (fun v148 h148 => ?_)
            refine lv_aload_n hx hb dX8_ladder_150 rfl (lv_at hl 0 rfl) ?_
            refine va_get (ci := 8) (C := RX8) (T := TX8) (N := 49) (v := .int v42c) hx hb hts inX8 hown hK hP 0 (zw_at (by decide) e143b) rfl 10 (by decide) fl146 (fun _ h => h) rfl dX8_ladder_151 ?_
            refine z_mulJ hx hb 7 dX8_ladder_154 (by omega) (by omega) (fun v154 h154 => ?_)
            refine z_bi hx hb dX8_ladder_155 (by decide) (fun v155 h155 => ?_)
            refine z_addE hx hb dX8_ladder_157 (by omega) (fun v157 h157 => ?_)
            refine lv_iload hx hb dX8_ladder_158 (lv_at hl 7 rfl) ?_
            obtain ⟨f160, e160⟩ := mg_Ld hO
            refine z_iast hx hb hK hJ hP hS (q0 := 8) 0 (by decide) e160 rfl (z_in (by omega) (by omega)) dX8_ladder_160 (fun ce H locs e160a h160a hP hS => ?_)
            have hO := z_up (OKK := mK cy ad cnt nd wn S By Ah) 8 hO h160a (by rw [e160a]; exact mE_Ld |>.mpr ⟨_, rfl⟩)
            have e160b := (h160a 0 (by omega)).trans e143b
            refine lv_aload_n hx hb dX8_ladder_161 rfl (lv_at hl 0 rfl) ?_
            refine lv_dup hx hb dX8_ladder_162 rfl ?_
            refine va_get (ci := 8) (C := RX8) (T := TX8) (N := 49) (v := .int v42c) hx hb hts inX8 hown hK hP 0 (zw_at (by decide) e160b) rfl 10 (by decide) fl146 (fun _ h => h) rfl dX8_ladder_163 ?_
            refine z_ic hx hb dX8_ladder_166 (by decide) (fun v166 h166 => ?_)
            refine z_addE hx hb dX8_ladder_167 (by omega) (fun v167 h167 => ?_)
            refine z_put (q0 := 0) (ci := 8) (C := RX8) (T := TX8) (N := 49) hx hb hts inX8 tyX8 tyX8_ok nmX8 hown hK hJ hP hS (by decide) e160b rfl 10 (by decide) fl146 (fun _ h => h) rfl (ty := .int) (by decide +kernel) rfl rfl (Nat.le_of_ble_eq_true rfl) (fs1 := [.int v42, .ref (ad 1), .ref (ad 2), .ref (ad 3), .int v42a, .ref (ad 4), .ref (ad 5), .int v42b, .ref (ad 6), .ref (ad 7), .int v167, .ref (ad 8), .int v42d, .int v42e, .int v42f, .int v42g, .int v42h, .int v42i, .int v42j, .ref (ad 9), .ref (ad 10), .int v42k, .ref (ad 11), .ref (ad 12), .ref (ad 13), .ref (ad 14), .ref (ad 15), .ref (ad 16), .ref (ad 17), .int v42l, .ref (ad 18), .int v42m, .ref (ad 19), .ref (ad 20), .ref (ad 21), .int v42n, .ref (ad 22), .ref (ad 23), .ref (ad 24), .ref (ad 25), .ref (ad 26), .ref (ad 27), .ref (ad 28), .ref (ad 29), .ref (ad 30), .ref (ad 31), .ref (ad 32), .ref (ad 33), .int v42o]) rfl dX8_ladder_168 (fun ce H locs e168 h168 hP hS => ?_)
            have hu1 : va_up cnt 1 (cnt 1 + 1) 1 = cnt 1 + 1 := by simp [va_up]
            have hu4 : va_up cnt 1 (cnt 1 + 1) 4 = cnt 4 := by simp [va_up]
            have hu6 : va_up cnt 1 (cnt 1 + 1) 6 = cnt 6 := by simp [va_up]
            have hu7 : va_up cnt 1 (cnt 1 + 1) 7 = cnt 7 := by simp [va_up]
            have hO := z_up2 (OKK := mK cy ad cnt nd wn S By Ah) (OKL := mK cy ad (va_up cnt 1 (cnt 1 + 1)) nd wn S By Ah) 0 hO h168 (fun q e _ h => mK_cnt (by assumption) h) (by rw [e168]; exact mE_Mo |>.mpr ⟨v42, v42a, v42b, v167, v42d, v42e, v42f, v42g, v42h, v42i, v42j, v42k, v42l, v42m, v42n, v42o, rfl, by omega, by omega, by omega, by omega, by omega, by omega, by omega, by omega, by omega, by omega, by omega, by omega, by omega, by omega, by omega, by omega, by omega, by omega, h42r, h42s, h42t, h42u⟩)
            refine lv_aload_n hx hb dX8_ladder_171 rfl (lv_at hl 0 rfl) ?_
            refine va_get (ci := 8) (C := RX8) (T := TX8) (N := 49) (v := .int v167) hx hb hts inX8 hown hK hP 0 (zw_at (by decide) e168) rfl 10 (by decide) fl146 (fun _ h => h) rfl dX8_ladder_172 ?_
            refine z_ic hx hb dX8_ladder_175 (by decide) (fun v175 h175 => ?_)
            refine z_subE hx hb dX8_ladder_176 (by omega) (fun v176 h176 => ?_)
            exact z_reti hx hb hr hlocks hP hS dX8_ladder_177 ⟨fun h => by exfalso; omega, fun _ => ⟨fun h => by exfalso; omega, fun _ => ⟨by omega, ⟨_, _, _, _, _, hO⟩⟩⟩⟩
          · skip
            refine z_bi hx hb dX8_ladder_50 (by decide) (fun v50 h50 => ?_)
            exact z_reti hx hb hr hlocks hP hS dX8_ladder_52 ⟨fun h => by exfalso; omega, fun _ => ⟨fun _ => ⟨by omega, ⟨_, _, _, _, _, hO⟩⟩, fun h => by exfalso; omega⟩⟩
        · skip
          refine z_bi hx hb dX8_ladder_38 (by decide) (fun v38 h38 => ?_)
          exact z_reti hx hb hr hlocks hP hS dX8_ladder_40 ⟨fun _ => ⟨by omega, ⟨_, _, _, _, _, hO⟩⟩, fun h => by exfalso; omega⟩
