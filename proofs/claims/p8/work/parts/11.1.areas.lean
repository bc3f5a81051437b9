set_option maxHeartbeats 8000000 in
set_option maxRecDepth 100000 in
theorem c_X0_holds (l : Launch) (D : va_G) (cy : Nat → ClassId) (ad : Nat → Nat) (cnt : Nat → Nat) (B : Nat) (PP : (Nat → va_E) → Prop) (hJ : zJ 73 ad) (k0 : Nat) (p1 : Int32) (p2 : Int32) (p3 : Int32) (q_k0 : k0 < 32) : zM l D (gT cy) 73 ad (fun c1 => gOK cy ad cnt B c1 ∧ PP c1) yX0_holds vsX0_holds { frames := 0, cells := 0, slots := 0, locals := 0 } ([.ref (ad (12 + k0)), .int p1, .int p2, .int p3] : List Value) (zQi D 73 ad (fun r ce => (gOK cy ad cnt B ce ∧ PP ce) ∧ (0 ≤ r.toInt ∧ r.toInt ≤ 1))) := by
  refine z_of (cc := cX0_holds) (maxL := 4) (ret := (some .boolean)) (by decide) rfl (Nat.le_of_ble_eq_true rfl) ?_
  intro p e s m below meth c hx hb hr hts hown hlocks hml hK hN ce hOK hP
  have hown : s.vm.findClass RX0 = some m.cls := hown
  have hS : va_S (zA 73 ad) s.heap s.heap [] := va_S.rf
  obtain ⟨hO, hPP⟩ := hOK
  have inX0 : ∀ w ∈ u_ws RX0 TX0 6, w ∈ vsX0_holds := fun w h => List.mem_cons_of_mem _ (inlX0 w h)
  have fl7 := hts (.fieldLink RX0 7 "GroundKeeper$Area" "level" "I") (List.mem_cons_of_mem _ mw_13)
  have fl19 := hts (.fieldLink RX0 19 "GroundKeeper$Area" "x0" "I") (List.mem_cons_of_mem _ mw_14)
  have fl22 := hts (.fieldLink RX0 22 "GroundKeeper$Area" "y0" "I") (List.mem_cons_of_mem _ mw_15)
  have fl28 := hts (.fieldLink RX0 28 "GroundKeeper$Area" "x1" "I") (List.mem_cons_of_mem _ mw_16)
  have fl31 := hts (.fieldLink RX0 31 "GroundKeeper$Area" "y1" "I") (List.mem_cons_of_mem _ mw_17)
  intro ls hl
  have hl : lv_has ls 4 [(0, .ref (ad (12 + k0))), (1, .int p1), (2, .int p2), (3, .int p3)] := hl
  refine lv_aload_n hx hb dX0_holds_0 rfl (lv_at hl 0 rfl) ?_
  obtain ⟨v1, v1a, v1b, v1c, v1d, v1e, e1⟩ := gg_Ar hO (j := k0) (by omega)
  refine va_get (ci := 0) (C := RX0) (T := TX0) (N := 6) (v := .int v1) hx hb hts inX0 hown hK hP (12 + k0) (zw_at (by omega) e1) rfl 0 (by decide) fl7 (fun _ h => h) rfl dX0_holds_1 ?_
  refine lv_iload_n hx hb dX0_holds_4 rfl (lv_at hl 1 rfl) ?_
  refine z_icmp_ne (tgt := 44) hx hb dX0_holds_5 (by decide) (fun c5 => ?_) (fun c5 => ?_)
  · skip
    refine z_ic hx hb dX0_holds_44 (by decide) (fun v44 h44 => ?_)
    exact z_retz hx hb hr hlocks hP hS dX0_holds_45 (by omega) ⟨⟨hO, hPP⟩, (by omega)⟩
  · skip
    refine lv_aload_n hx hb dX0_holds_8 rfl (lv_at hl 0 rfl) ?_
    refine va_get (ci := 0) (C := RX0) (T := TX0) (N := 6) (v := .int v1a) hx hb hts inX0 hown hK hP (12 + k0) (zw_at (by omega) e1) rfl 1 (by decide) fl19 (fun _ h => h) rfl dX0_holds_9 ?_
    refine lv_iload_n hx hb dX0_holds_12 rfl (lv_at hl 2 rfl) ?_
    refine z_icmp_gt (tgt := 44) hx hb dX0_holds_13 (by decide) (fun c13 => ?_) (fun c13 => ?_)
    · skip
      refine z_ic hx hb dX0_holds_44 (by decide) (fun v44 h44 => ?_)
      exact z_retz hx hb hr hlocks hP hS dX0_holds_45 (by omega) ⟨⟨hO, hPP⟩, (by omega)⟩
    · skip
      refine lv_iload_n hx hb dX0_holds_16 rfl (lv_at hl 2 rfl) ?_
      refine lv_aload_n hx hb dX0_holds_17 rfl (lv_at hl 0 rfl) ?_
      refine va_get (ci := 0) (C := RX0) (T := TX0) (N := 6) (v := .int v1c) hx hb hts inX0 hown hK hP (12 + k0) (zw_at (by omega) e1) rfl 3 (by decide) fl28 (fun _ h => h) rfl dX0_holds_18 ?_
      refine z_icmp_gt (tgt := 44) hx hb dX0_holds_21 (by decide) (fun c21 => ?_) (fun c21 => ?_)
      · skip
        refine z_ic hx hb dX0_holds_44 (by decide) (fun v44 h44 => ?_)
        exact z_retz hx hb hr hlocks hP hS dX0_holds_45 (by omega) ⟨⟨hO, hPP⟩, (by omega)⟩
      · skip
        refine lv_aload_n hx hb dX0_holds_24 rfl (lv_at hl 0 rfl) ?_
        refine va_get (ci := 0) (C := RX0) (T := TX0) (N := 6) (v := .int v1b) hx hb hts inX0 hown hK hP (12 + k0) (zw_at (by omega) e1) rfl 2 (by decide) fl22 (fun _ h => h) rfl dX0_holds_25 ?_
        refine lv_iload_n hx hb dX0_holds_28 rfl (lv_at hl 3 rfl) ?_
        refine z_icmp_gt (tgt := 44) hx hb dX0_holds_29 (by decide) (fun c29 => ?_) (fun c29 => ?_)
        · skip
          refine z_ic hx hb dX0_holds_44 (by decide) (fun v44 h44 => ?_)
          exact z_retz hx hb hr hlocks hP hS dX0_holds_45 (by omega) ⟨⟨hO, hPP⟩, (by omega)⟩
        · skip
          refine lv_iload_n hx hb dX0_holds_32 rfl (lv_at hl 3 rfl) ?_
          refine lv_aload_n hx hb dX0_holds_33 rfl (lv_at hl 0 rfl) ?_
          refine va_get (ci := 0) (C := RX0) (T := TX0) (N := 6) (v := .int v1d) hx hb hts inX0 hown hK hP (12 + k0) (zw_at (by omega) e1) rfl 4 (by decide) fl31 (fun _ h => h) rfl dX0_holds_34 ?_
          refine z_icmp_gt (tgt := 44) hx hb dX0_holds_37 (by decide) (fun c37 => ?_) (fun c37 => ?_)
          · skip
            refine z_ic hx hb dX0_holds_44 (by decide) (fun v44 h44 => ?_)
            exact z_retz hx hb hr hlocks hP hS dX0_holds_45 (by omega) ⟨⟨hO, hPP⟩, (by omega)⟩
          · skip
            refine z_ic hx hb dX0_holds_40 (by decide) (fun v40 h40 => ?_)
            refine lv_goto (tgt := 45) hx hb dX0_holds_41 (by decide) ?_
            exact z_retz hx hb hr hlocks hP hS dX0_holds_45 (by omega) ⟨⟨hO, hPP⟩, (by omega)⟩
set_option maxHeartbeats 8000000 in
set_option maxRecDepth 100000 in
theorem c_X0_encloses (l : Launch) (D : va_G) (cy : Nat → ClassId) (ad : Nat → Nat) (cnt : Nat → Nat) (B : Nat) (PP : (Nat → va_E) → Prop) (hJ : zJ 73 ad) (k0 : Nat) (p1 : Int32) (p2 : Int32) (p3 : Int32) (q_k0 : k0 < 32) : zM l D (gT cy) 73 ad (fun c1 => gOK cy ad cnt B c1 ∧ PP c1) yX0_encloses vsX0_encloses { frames := 0, cells := 0, slots := 0, locals := 0 } ([.ref (ad (12 + k0)), .int p1, .int p2, .int p3] : List Value) (zQi D 73 ad (fun r ce => (gOK cy ad cnt B ce ∧ PP ce) ∧ (0 ≤ r.toInt ∧ r.toInt ≤ 1))) := by
  refine z_of (cc := cX0_encloses) (maxL := 4) (ret := (some .boolean)) (by decide) rfl (Nat.le_of_ble_eq_true rfl) ?_
  intro p e s m below meth c hx hb hr hts hown hlocks hml hK hN ce hOK hP
  have hown : s.vm.findClass RX0 = some m.cls := hown
  have hS : va_S (zA 73 ad) s.heap s.heap [] := va_S.rf
  obtain ⟨hO, hPP⟩ := hOK
  have inX0 : ∀ w ∈ u_ws RX0 TX0 6, w ∈ vsX0_encloses := fun w h => List.mem_cons_of_mem _ (inlX0 w h)
  have fl7 := hts (.fieldLink RX0 7 "GroundKeeper$Area" "level" "I") (List.mem_cons_of_mem _ mw_13)
  have fl19 := hts (.fieldLink RX0 19 "GroundKeeper$Area" "x0" "I") (List.mem_cons_of_mem _ mw_14)
  have fl22 := hts (.fieldLink RX0 22 "GroundKeeper$Area" "y0" "I") (List.mem_cons_of_mem _ mw_15)
  have fl28 := hts (.fieldLink RX0 28 "GroundKeeper$Area" "x1" "I") (List.mem_cons_of_mem _ mw_16)
  have fl31 := hts (.fieldLink RX0 31 "GroundKeeper$Area" "y1" "I") (List.mem_cons_of_mem _ mw_17)
  intro ls hl
  have hl : lv_has ls 4 [(0, .ref (ad (12 + k0))), (1, .int p1), (2, .int p2), (3, .int p3)] := hl
  refine lv_aload_n hx hb dX0_encloses_0 rfl (lv_at hl 0 rfl) ?_
  obtain ⟨v1, v1a, v1b, v1c, v1d, v1e, e1⟩ := gg_Ar hO (j := k0) (by omega)
  refine va_get (ci := 0) (C := RX0) (T := TX0) (N := 6) (v := .int v1) hx hb hts inX0 hown hK hP (12 + k0) (zw_at (by omega) e1) rfl 0 (by decide) fl7 (fun _ h => h) rfl dX0_encloses_1 ?_
  refine lv_iload_n hx hb dX0_encloses_4 rfl (lv_at hl 1 rfl) ?_
  refine z_icmp_ne (tgt := 44) hx hb dX0_encloses_5 (by decide) (fun c5 => ?_) (fun c5 => ?_)
  · skip
    refine z_ic hx hb dX0_encloses_44 (by decide) (fun v44 h44 => ?_)
    exact z_retz hx hb hr hlocks hP hS dX0_encloses_45 (by omega) ⟨⟨hO, hPP⟩, (by omega)⟩
  · skip
    refine lv_aload_n hx hb dX0_encloses_8 rfl (lv_at hl 0 rfl) ?_
    refine va_get (ci := 0) (C := RX0) (T := TX0) (N := 6) (v := .int v1a) hx hb hts inX0 hown hK hP (12 + k0) (zw_at (by omega) e1) rfl 1 (by decide) fl19 (fun _ h => h) rfl dX0_encloses_9 ?_
    refine lv_iload_n hx hb dX0_encloses_12 rfl (lv_at hl 2 rfl) ?_
    refine z_icmp_ge (tgt := 44) hx hb dX0_encloses_13 (by decide) (fun c13 => ?_) (fun c13 => ?_)
    · skip
      refine z_ic hx hb dX0_encloses_44 (by decide) (fun v44 h44 => ?_)
      exact z_retz hx hb hr hlocks hP hS dX0_encloses_45 (by omega) ⟨⟨hO, hPP⟩, (by omega)⟩
    · skip
      refine lv_iload_n hx hb dX0_encloses_16 rfl (lv_at hl 2 rfl) ?_
      refine lv_aload_n hx hb dX0_encloses_17 rfl (lv_at hl 0 rfl) ?_
      refine va_get (ci := 0) (C := RX0) (T := TX0) (N := 6) (v := .int v1c) hx hb hts inX0 hown hK hP (12 + k0) (zw_at (by omega) e1) rfl 3 (by decide) fl28 (fun _ h => h) rfl dX0_encloses_18 ?_
      refine z_icmp_ge (tgt := 44) hx hb dX0_encloses_21 (by decide) (fun c21 => ?_) (fun c21 => ?_)
      · skip
        refine z_ic hx hb dX0_encloses_44 (by decide) (fun v44 h44 => ?_)
        exact z_retz hx hb hr hlocks hP hS dX0_encloses_45 (by omega) ⟨⟨hO, hPP⟩, (by omega)⟩
      · skip
        refine lv_aload_n hx hb dX0_encloses_24 rfl (lv_at hl 0 rfl) ?_
        refine va_get (ci := 0) (C := RX0) (T := TX0) (N := 6) (v := .int v1b) hx hb hts inX0 hown hK hP (12 + k0) (zw_at (by omega) e1) rfl 2 (by decide) fl22 (fun _ h => h) rfl dX0_encloses_25 ?_
        refine lv_iload_n hx hb dX0_encloses_28 rfl (lv_at hl 3 rfl) ?_
        refine z_icmp_ge (tgt := 44) hx hb dX0_encloses_29 (by decide) (fun c29 => ?_) (fun c29 => ?_)
        · skip
          refine z_ic hx hb dX0_encloses_44 (by decide) (fun v44 h44 => ?_)
          exact z_retz hx hb hr hlocks hP hS dX0_encloses_45 (by omega) ⟨⟨hO, hPP⟩, (by omega)⟩
        · skip
          refine lv_iload_n hx hb dX0_encloses_32 rfl (lv_at hl 3 rfl) ?_
          refine lv_aload_n hx hb dX0_encloses_33 rfl (lv_at hl 0 rfl) ?_
          refine va_get (ci := 0) (C := RX0) (T := TX0) (N := 6) (v := .int v1d) hx hb hts inX0 hown hK hP (12 + k0) (zw_at (by omega) e1) rfl 4 (by decide) fl31 (fun _ h => h) rfl dX0_encloses_34 ?_
          refine z_icmp_ge (tgt := 44) hx hb dX0_encloses_37 (by decide) (fun c37 => ?_) (fun c37 => ?_)
          · skip
            refine z_ic hx hb dX0_encloses_44 (by decide) (fun v44 h44 => ?_)
            exact z_retz hx hb hr hlocks hP hS dX0_encloses_45 (by omega) ⟨⟨hO, hPP⟩, (by omega)⟩
          · skip
            refine z_ic hx hb dX0_encloses_40 (by decide) (fun v40 h40 => ?_)
            refine lv_goto (tgt := 45) hx hb dX0_encloses_41 (by decide) ?_
            exact z_retz hx hb hr hlocks hP hS dX0_encloses_45 (by omega) ⟨⟨hO, hPP⟩, (by omega)⟩
set_option maxHeartbeats 8000000 in
set_option maxRecDepth 100000 in
theorem c_X0_corner (l : Launch) (D : va_G) (cy : Nat → ClassId) (ad : Nat → Nat) (cnt : Nat → Nat) (B : Nat) (PP : (Nat → va_E) → Prop) (hJ : zJ 73 ad) (k0 : Nat) (p1 : Int32) (q_k0 : k0 < 32) : zM l D (gT cy) 73 ad (fun c1 => gOK cy ad cnt B c1 ∧ PP c1) yX0_corner vsX0_corner { frames := 1, cells := 0, slots := 0, locals := 22 } ([.ref (ad (12 + k0)), .int p1] : List Value) (zQi D 73 ad (fun r ce => (gOK cy ad cnt B ce ∧ PP ce) ∧ (True))) := by
  refine z_of (cc := cX0_corner) (maxL := 2) (ret := (some .int)) (by decide) rfl (Nat.le_of_ble_eq_true rfl) ?_
  intro p e s m below meth c hx hb hr hts hown hlocks hml hK hN ce hOK hP
  have hown : s.vm.findClass RX0 = some m.cls := hown
  have hS : va_S (zA 73 ad) s.heap s.heap [] := va_S.rf
  obtain ⟨hO, hPP⟩ := hOK
  have inX0 : ∀ w ∈ u_ws RX0 TX0 6, w ∈ vsX0_corner := fun w h => List.mem_cons_of_mem _ (inlX0 w h)
  have fl7 := hts (.fieldLink RX0 7 "GroundKeeper$Area" "level" "I") (List.mem_cons_of_mem _ mw_13)
  have fl19 := hts (.fieldLink RX0 19 "GroundKeeper$Area" "x0" "I") (List.mem_cons_of_mem _ mw_14)
  have fl22 := hts (.fieldLink RX0 22 "GroundKeeper$Area" "y0" "I") (List.mem_cons_of_mem _ mw_15)
  have fl28 := hts (.fieldLink RX0 28 "GroundKeeper$Area" "x1" "I") (List.mem_cons_of_mem _ mw_16)
  have fl31 := hts (.fieldLink RX0 31 "GroundKeeper$Area" "y1" "I") (List.mem_cons_of_mem _ mw_17)
  have J41 : ∀ (H : Heap) (locs : List Loc) (s0 : Int32) (s1 : Int32) (s2 : Int32), va_P D vwCl (zw 73 ad ce) H → va_S (zA 73 ad) s.heap H locs → ∀ ls : Array Slot, lv_has ls 2 [] → W p l e { frames := 1, cells := 0, slots := 0, locals := 22 } s m ([.ref (ad (12 + k0)), .int p1] : List Value).toArray below meth c H locs 0 0 (MQ below (zQi D 73 ad (fun r ce => (gOK cy ad cnt B ce ∧ PP ce) ∧ (True))) ([.ref (ad (12 + k0)), .int p1] : List Value).toArray s 0 0 (zA 73 ad)) (F0 m 41 ls [.int s2, .int s1, .int s0]) := by
    intro H locs s0 s1 s2 hP hS ls hl
    refine z_ciP (z_rN (As := [.int s0, .int s1, .int s2]) (rest := []) ⟨hx, hb, hml, hown, hts⟩ (c_X7_placeAt l D (gT cy) 73 ad (fun c1 => c1 = ce) s0 s1 s2) (va_cnB 3 hts (g_C mw_29) rfl rfl rfl (hN (.methodLinkNest RX0 34 yX7_placeAt RX7) (by simp [nwL])) (hts (.initialized RX7) (List.mem_cons_of_mem _ mw_2)) (by decide +kernel) ⟨Nat.le_of_ble_eq_true rfl, Nat.le_of_ble_eq_true rfl⟩) (hts (.static yX7_placeAt) (List.mem_cons_of_mem _ mw_18)) hK hN rfl hP rfl hl.1 rfl (Nat.le_of_ble_eq_true rfl) dX0_corner_41 ⟨Nat.zero_le _, Nat.zero_le _⟩) hS (fun _ h => h) (fun v41 H locs h41 hP hS => ?_)
    exact z_reti hx hb hr hlocks hP hS dX0_corner_44 ⟨⟨hO, hPP⟩, trivial⟩
  have J25 : ∀ (H : Heap) (locs : List Loc) (j0 : Nat) (x1 : Int32) (s0 : Int32) (s1 : Int32), va_P D vwCl (zw 73 ad ce) H → va_S (zA 73 ad) s.heap H locs → (j0 < 32) → ∀ ls : Array Slot, lv_has ls 2 [(0, .ref (ad (12 + j0))), (1, .int x1)] → W p l e { frames := 1, cells := 0, slots := 0, locals := 22 } s m ([.ref (ad (12 + k0)), .int p1] : List Value).toArray below meth c H locs 0 0 (MQ below (zQi D 73 ad (fun r ce => (gOK cy ad cnt B ce ∧ PP ce) ∧ (True))) ([.ref (ad (12 + k0)), .int p1] : List Value).toArray s 0 0 (zA 73 ad)) (F0 m 25 ls [.int s1, .int s0]) := by
    intro H locs j0 x1 s0 s1 hP hS q_j0 ls hl
    refine lv_iload_n hx hb dX0_corner_25 rfl (lv_at hl 1 rfl) ?_
    refine z_ic hx hb dX0_corner_26 (by decide) (fun v26 h26 => ?_)
    refine z_icmp_lt (tgt := 37) hx hb dX0_corner_27 (by decide) (fun c27 => ?_) (fun c27 => ?_)
    · skip
      refine lv_aload_n hx hb dX0_corner_37 rfl (lv_at hl 0 rfl) ?_
      obtain ⟨v38, v38a, v38b, v38c, v38d, v38e, e38⟩ := gg_Ar hO (j := j0) (by omega)
      refine va_get (ci := 0) (C := RX0) (T := TX0) (N := 6) (v := .int v38b) hx hb hts inX0 hown hK hP (12 + j0) (zw_at (by omega) e38) rfl 2 (by decide) fl22 (fun _ h => h) rfl dX0_corner_38 ?_
      exact J41 _ _ s0 s1 v38b hP hS _ (lv_sub hl [] rfl)
    · skip
      refine lv_aload_n hx hb dX0_corner_30 rfl (lv_at hl 0 rfl) ?_
      obtain ⟨v31, v31a, v31b, v31c, v31d, v31e, e31⟩ := gg_Ar hO (j := j0) (by omega)
      refine va_get (ci := 0) (C := RX0) (T := TX0) (N := 6) (v := .int v31d) hx hb hts inX0 hown hK hP (12 + j0) (zw_at (by omega) e31) rfl 4 (by decide) fl31 (fun _ h => h) rfl dX0_corner_31 ?_
      refine lv_goto (tgt := 41) hx hb dX0_corner_34 (by decide) ?_
      exact J41 _ _ s0 s1 v31d hP hS _ (lv_sub hl [] rfl)
  have J14 : ∀ (H : Heap) (locs : List Loc) (j0 : Nat) (x1 : Int32) (s0 : Int32), va_P D vwCl (zw 73 ad ce) H → va_S (zA 73 ad) s.heap H locs → (j0 < 32) → (1 ≤ x1.toInt ∧ x1.toInt ≤ 2) → ∀ ls : Array Slot, lv_has ls 2 [(0, .ref (ad (12 + j0))), (1, .int x1)] → W p l e { frames := 1, cells := 0, slots := 0, locals := 22 } s m ([.ref (ad (12 + k0)), .int p1] : List Value).toArray below meth c H locs 0 0 (MQ below (zQi D 73 ad (fun r ce => (gOK cy ad cnt B ce ∧ PP ce) ∧ (True))) ([.ref (ad (12 + k0)), .int p1] : List Value).toArray s 0 0 (zA 73 ad)) (F0 m 14 ls [.int s0]) := by
    intro H locs j0 x1 s0 hP hS q_j0 q_x1 ls hl
    refine lv_aload_n hx hb dX0_corner_14 rfl (lv_at hl 0 rfl) ?_
    obtain ⟨v15, v15a, v15b, v15c, v15d, v15e, e15⟩ := gg_Ar hO (j := j0) (by omega)
    refine va_get (ci := 0) (C := RX0) (T := TX0) (N := 6) (v := .int v15c) hx hb hts inX0 hown hK hP (12 + j0) (zw_at (by omega) e15) rfl 3 (by decide) fl28 (fun _ h => h) rfl dX0_corner_15 ?_
    refine lv_goto (tgt := 25) hx hb dX0_corner_18 (by decide) ?_
    exact J25 _ _ j0 x1 s0 v15c hP hS (by omega) _ (lv_sub hl [0, 1] rfl)
  intro ls hl
  have hl : lv_has ls 2 [(0, .ref (ad (12 + k0))), (1, .int p1)] := hl
  refine lv_aload_n hx hb dX0_corner_0 rfl (lv_at hl 0 rfl) ?_
  obtain ⟨v1, v1a, v1b, v1c, v1d, v1e, e1⟩ := gg_Ar hO (j := k0) (by omega)
  refine va_get (ci := 0) (C := RX0) (T := TX0) (N := 6) (v := .int v1) hx hb hts inX0 hown hK hP (12 + k0) (zw_at (by omega) e1) rfl 0 (by decide) fl7 (fun _ h => h) rfl dX0_corner_1 ?_
  refine lv_iload_n hx hb dX0_corner_4 rfl (lv_at hl 1 rfl) ?_
  refine z_ic hx hb dX0_corner_5 (by decide) (fun v5 h5 => ?_)
  refine z_icmp_eq (tgt := 14) hx hb dX0_corner_6 (by decide) (fun c6 => ?_) (fun c6 => ?_)
  · skip
    exact J14 _ _ k0 p1 v1 hP hS (by omega) (by omega) _ (lv_sub hl [0, 1] rfl)
  · skip
    refine lv_iload_n hx hb dX0_corner_9 rfl (lv_at hl 1 rfl) ?_
    refine z_ic hx hb dX0_corner_10 (by decide) (fun v10 h10 => ?_)
    refine z_icmp_ne (tgt := 21) hx hb dX0_corner_11 (by decide) (fun c11 => ?_) (fun c11 => ?_)
    · skip
      refine lv_aload_n hx hb dX0_corner_21 rfl (lv_at hl 0 rfl) ?_
      refine va_get (ci := 0) (C := RX0) (T := TX0) (N := 6) (v := .int v1a) hx hb hts inX0 hown hK hP (12 + k0) (zw_at (by omega) e1) rfl 1 (by decide) fl19 (fun _ h => h) rfl dX0_corner_22 ?_
      exact J25 _ _ k0 p1 v1 v1a hP hS (by omega) _ (lv_sub hl [0, 1] rfl)
    · skip
      exact J14 _ _ k0 p1 v1 hP hS (by omega) (by omega) _ (lv_sub hl [0, 1] rfl)
set_option maxHeartbeats 8000000 in
set_option maxRecDepth 100000 in
theorem c_X0_lay (l : Launch) (D : va_G) (cy : Nat → ClassId) (ad : Nat → Nat) (cnt : Nat → Nat) (B : Nat) (hJ : zJ 73 ad) (k0 : Nat) (p1 : Int32) (p2 : Int32) (p3 : Int32) (p4 : Int32) (p5 : Int32) (q_k0 : k0 < 32) : zM l D (gT cy) 73 ad (gOK cy ad cnt B) yX0_lay vsX0_lay { frames := 1, cells := 0, slots := 0, locals := 21 } ([.ref (ad (12 + k0)), .int p1, .int p2, .int p3, .int p4, .int p5] : List Value) (zQv D 73 ad (fun ce => gOK cy ad cnt B ce ∧ (True))) := by
  refine z_of (cc := cX0_lay) (maxL := 6) (ret := none) (by decide) rfl (Nat.le_of_ble_eq_true rfl) ?_
  intro p e s m below meth c hx hb hr hts hown hlocks hml hK hN ce hOK hP
  have hown : s.vm.findClass RX0 = some m.cls := hown
  have hS : va_S (zA 73 ad) s.heap s.heap [] := va_S.rf
  have hO := hOK
  have inX0 : ∀ w ∈ u_ws RX0 TX0 6, w ∈ vsX0_lay := fun w h => List.mem_cons_of_mem _ (inlX0 w h)
  have fl7 := hts (.fieldLink RX0 7 "GroundKeeper$Area" "level" "I") (List.mem_cons_of_mem _ mw_13)
  have fl19 := hts (.fieldLink RX0 19 "GroundKeeper$Area" "x0" "I") (List.mem_cons_of_mem _ mw_14)
  have fl22 := hts (.fieldLink RX0 22 "GroundKeeper$Area" "y0" "I") (List.mem_cons_of_mem _ mw_15)
  have fl28 := hts (.fieldLink RX0 28 "GroundKeeper$Area" "x1" "I") (List.mem_cons_of_mem _ mw_16)
  have fl31 := hts (.fieldLink RX0 31 "GroundKeeper$Area" "y1" "I") (List.mem_cons_of_mem _ mw_17)
  intro ls hl
  have hl : lv_has ls 6 [(0, .ref (ad (12 + k0))), (1, .int p1), (2, .int p2), (3, .int p3), (4, .int p4), (5, .int p5)] := hl
  refine lv_aload_n hx hb dX0_lay_0 rfl (lv_at hl 0 rfl) ?_
  refine lv_iload_n hx hb dX0_lay_1 rfl (lv_at hl 1 rfl) ?_
  obtain ⟨v2, v2a, v2b, v2c, v2d, v2e, e2⟩ := gg_Ar hO (j := k0) (by omega)
  refine z_put (q0 := (12 + k0)) (ci := 0) (C := RX0) (T := TX0) (N := 6) hx hb hts inX0 tyX0 tyX0_ok nmX0 hown hK hJ hP hS (by omega) e2 rfl 0 (by decide) fl7 (fun _ h => h) rfl (ty := .int) (by decide +kernel) rfl rfl (Nat.le_of_ble_eq_true rfl) (fs1 := [.int p1, .int v2a, .int v2b, .int v2c, .int v2d, .int v2e]) rfl dX0_lay_2 (fun ce H locs e2a h2 hP hS => ?_)
  have hO := z_up (OKK := gK cy ad cnt B) (12 + k0) hO h2 (by rw [e2a]; exact gE_Ar (by omega) |>.mpr ⟨p1, v2a, v2b, v2c, v2d, v2e, rfl⟩)
  refine lv_aload_n hx hb dX0_lay_5 rfl (lv_at hl 0 rfl) ?_
  refine lv_iload_n hx hb dX0_lay_6 rfl (lv_at hl 2 rfl) ?_
  refine lv_iload hx hb dX0_lay_7 (lv_at hl 4 rfl) ?_
  refine va_mmin hx hb (by rw [hml]; exact hl.1.symm) hown (hts (.methodLink RX0 13 Lib.Math.min.name) (List.mem_cons_of_mem _ mw_19)) (hts (.static Lib.Math.min.name) (List.mem_cons_of_mem _ mw_20)) (hts (.initialized "java/lang/Math") (List.mem_cons_of_mem _ mw_21)) (hts (.code Lib.Math.min.name Lib.Math.min.code 2 (some .int)) (List.mem_cons_of_mem _ mw_22)) (Nat.le_of_ble_eq_true rfl) (Nat.le_of_ble_eq_true rfl) (Nat.zero_le _) (Nat.zero_le _) dX0_lay_9 ?_
  refine lv_topi (fun v9 _ => ?_)
  refine z_put (q0 := (12 + k0)) (ci := 0) (C := RX0) (T := TX0) (N := 6) hx hb hts inX0 tyX0 tyX0_ok nmX0 hown hK hJ hP hS (by omega) e2a rfl 1 (by decide) fl19 (fun _ h => h) rfl (ty := .int) (by decide +kernel) rfl rfl (Nat.le_of_ble_eq_true rfl) (fs1 := [.int p1, .int v9, .int v2b, .int v2c, .int v2d, .int v2e]) rfl dX0_lay_12 (fun ce H locs e12 h12 hP hS => ?_)
  have hO := z_up (OKK := gK cy ad cnt B) (12 + k0) hO h12 (by rw [e12]; exact gE_Ar (by omega) |>.mpr ⟨p1, v9, v2b, v2c, v2d, v2e, rfl⟩)
  refine lv_aload_n hx hb dX0_lay_15 rfl (lv_at hl 0 rfl) ?_
  refine lv_iload_n hx hb dX0_lay_16 rfl (lv_at hl 3 rfl) ?_
  refine lv_iload hx hb dX0_lay_17 (lv_at hl 5 rfl) ?_
  refine va_mmin hx hb (by rw [hml]; exact hl.1.symm) hown (hts (.methodLink RX0 13 Lib.Math.min.name) (List.mem_cons_of_mem _ mw_19)) (hts (.static Lib.Math.min.name) (List.mem_cons_of_mem _ mw_20)) (hts (.initialized "java/lang/Math") (List.mem_cons_of_mem _ mw_21)) (hts (.code Lib.Math.min.name Lib.Math.min.code 2 (some .int)) (List.mem_cons_of_mem _ mw_22)) (Nat.le_of_ble_eq_true rfl) (Nat.le_of_ble_eq_true rfl) (Nat.zero_le _) (Nat.zero_le _) dX0_lay_19 ?_
  refine lv_topi (fun v19 _ => ?_)
  refine z_put (q0 := (12 + k0)) (ci := 0) (C := RX0) (T := TX0) (N := 6) hx hb hts inX0 tyX0 tyX0_ok nmX0 hown hK hJ hP hS (by omega) e12 rfl 2 (by decide) fl22 (fun _ h => h) rfl (ty := .int) (by decide +kernel) rfl rfl (Nat.le_of_ble_eq_true rfl) (fs1 := [.int p1, .int v9, .int v19, .int v2c, .int v2d, .int v2e]) rfl dX0_lay_22 (fun ce H locs e22 h22 hP hS => ?_)
  have hO := z_up (OKK := gK cy ad cnt B) (12 + k0) hO h22 (by rw [e22]; exact gE_Ar (by omega) |>.mpr ⟨p1, v9, v19, v2c, v2d, v2e, rfl⟩)
  refine lv_aload_n hx hb dX0_lay_25 rfl (lv_at hl 0 rfl) ?_
  refine lv_iload_n hx hb dX0_lay_26 rfl (lv_at hl 2 rfl) ?_
  refine lv_iload hx hb dX0_lay_27 (lv_at hl 4 rfl) ?_
  refine va_mmax hx hb (by rw [hml]; exact hl.1.symm) hown (hts (.methodLink RX0 25 Lib.Math.max.name) (List.mem_cons_of_mem _ mw_23)) (hts (.static Lib.Math.max.name) (List.mem_cons_of_mem _ mw_24)) (hts (.initialized "java/lang/Math") (List.mem_cons_of_mem _ mw_21)) (hts (.code Lib.Math.max.name Lib.Math.max.code 2 (some .int)) (List.mem_cons_of_mem _ mw_25)) (Nat.le_of_ble_eq_true rfl) (Nat.le_of_ble_eq_true rfl) (Nat.zero_le _) (Nat.zero_le _) dX0_lay_29 ?_
  refine lv_topi (fun v29 _ => ?_)
  refine z_put (q0 := (12 + k0)) (ci := 0) (C := RX0) (T := TX0) (N := 6) hx hb hts inX0 tyX0 tyX0_ok nmX0 hown hK hJ hP hS (by omega) e22 rfl 3 (by decide) fl28 (fun _ h => h) rfl (ty := .int) (by decide +kernel) rfl rfl (Nat.le_of_ble_eq_true rfl) (fs1 := [.int p1, .int v9, .int v19, .int v29, .int v2d, .int v2e]) rfl dX0_lay_32 (fun ce H locs e32 h32 hP hS => ?_)
  have hO := z_up (OKK := gK cy ad cnt B) (12 + k0) hO h32 (by rw [e32]; exact gE_Ar (by omega) |>.mpr ⟨p1, v9, v19, v29, v2d, v2e, rfl⟩)
  refine lv_aload_n hx hb dX0_lay_35 rfl (lv_at hl 0 rfl) ?_
  refine lv_iload_n hx hb dX0_lay_36 rfl (lv_at hl 3 rfl) ?_
  refine lv_iload hx hb dX0_lay_37 (lv_at hl 5 rfl) ?_
  refine va_mmax hx hb (by rw [hml]; exact hl.1.symm) hown (hts (.methodLink RX0 25 Lib.Math.max.name) (List.mem_cons_of_mem _ mw_23)) (hts (.static Lib.Math.max.name) (List.mem_cons_of_mem _ mw_24)) (hts (.initialized "java/lang/Math") (List.mem_cons_of_mem _ mw_21)) (hts (.code Lib.Math.max.name Lib.Math.max.code 2 (some .int)) (List.mem_cons_of_mem _ mw_25)) (Nat.le_of_ble_eq_true rfl) (Nat.le_of_ble_eq_true rfl) (Nat.zero_le _) (Nat.zero_le _) dX0_lay_39 ?_
  refine lv_topi (fun v39 _ => ?_)
  refine z_put (q0 := (12 + k0)) (ci := 0) (C := RX0) (T := TX0) (N := 6) hx hb hts inX0 tyX0 tyX0_ok nmX0 hown hK hJ hP hS (by omega) e32 rfl 4 (by decide) fl31 (fun _ h => h) rfl (ty := .int) (by decide +kernel) rfl rfl (Nat.le_of_ble_eq_true rfl) (fs1 := [.int p1, .int v9, .int v19, .int v29, .int v39, .int v2e]) rfl dX0_lay_42 (fun ce H locs e42 h42 hP hS => ?_)
  have hO := z_up (OKK := gK cy ad cnt B) (12 + k0) hO h42 (by rw [e42]; exact gE_Ar (by omega) |>.mpr ⟨p1, v9, v19, v29, v39, v2e, rfl⟩)
  exact z_retv hx hb hr hlocks hP hS dX0_lay_45 ⟨hO, trivial⟩
set_option maxHeartbeats 8000000 in
set_option maxRecDepth 100000 in
theorem c_X1_countOn_Bo (l : Launch) (D : va_G) (cy : Nat → ClassId) (ad : Nat → Nat) (cnt : Nat → Nat) (B : Nat) (PP : (Nat → va_E) → Prop) (hJ : zJ 73 ad) : zM l D (gT cy) 73 ad (fun c1 => gOK cy ad cnt B c1 ∧ PP c1) yX1_countOn vsX1_countOn { frames := 0, cells := 0, slots := 0, locals := 0 } ([.ref (ad 5)] : List Value) (zQi D 73 ad (fun r ce => (gOK cy ad cnt B ce ∧ PP ce) ∧ (True))) := by
  refine z_of (cc := cX1_countOn) (maxL := 3) (ret := (some .int)) (by decide) rfl (Nat.le_of_ble_eq_true rfl) ?_
  intro p e s m below meth c hx hb hr hts hown hlocks hml hK hN ce hOK hP
  have hown : s.vm.findClass RX1 = some m.cls := hown
  have hS : va_S (zA 73 ad) s.heap s.heap [] := va_S.rf
  obtain ⟨hO, hPP⟩ := hOK
  have inX0 : ∀ w ∈ u_ws RX0 TX0 6, w ∈ vsX1_countOn := fun w h => List.mem_cons_of_mem _ (inlX0 w h)
  have inX1 : ∀ w ∈ u_ws RX1 TX1 2, w ∈ vsX1_countOn := fun w h => List.mem_cons_of_mem _ (inlX1 w h)
  have fl11 := hts (.fieldLink RX1 11 "GroundKeeper$Areas" "all" "[LGroundKeeper$Area;") (List.mem_cons_of_mem _ mw_26)
  have fl26 := hts (.fieldLink RX1 26 "GroundKeeper$Area" "on" "Z") (List.mem_cons_of_mem _ mw_27)
  have L4 : ∀ N4 : Nat, ∀ (H : Heap) (locs : List Loc) (x1 : Int32) (x2 : Int32), va_P D vwCl (zw 73 ad ce) H → va_S (zA 73 ad) s.heap H locs → (0 ≤ x2.toInt ∧ x2.toInt ≤ 8) → (9 - x2.toInt ≤ (N4 : Int)) → ∀ ls : Array Slot, lv_has ls 3 [(0, .ref (ad 5)), (1, .int x1), (2, .int x2)] → W p l e { frames := 0, cells := 0, slots := 0, locals := 0 } s m ([.ref (ad 5)] : List Value).toArray below meth c H locs 0 0 (MQ below (zQi D 73 ad (fun r ce => (gOK cy ad cnt B ce ∧ PP ce) ∧ (True))) ([.ref (ad 5)] : List Value).toArray s 0 0 (zA 73 ad)) (F0 m 4 ls []) := by
    intro N4
    induction N4 with
    | zero =>
      intro H locs x1 x2 hP hS q_x2 hm ls hl
      exfalso; omega
    | succ N4 ih4 =>
      have J28 : ∀ (H : Heap) (locs : List Loc) (x1 : Int32) (x2 : Int32), va_P D vwCl (zw 73 ad ce) H → va_S (zA 73 ad) s.heap H locs → (0 ≤ x2.toInt ∧ x2.toInt ≤ 7) → (9 - x2.toInt ≤ (N4 : Int) + 1) → ∀ ls : Array Slot, lv_has ls 3 [(0, .ref (ad 5)), (1, .int x1), (2, .int x2)] → W p l e { frames := 0, cells := 0, slots := 0, locals := 0 } s m ([.ref (ad 5)] : List Value).toArray below meth c H locs 0 0 (MQ below (zQi D 73 ad (fun r ce => (gOK cy ad cnt B ce ∧ PP ce) ∧ (True))) ([.ref (ad 5)] : List Value).toArray s 0 0 (zA 73 ad)) (F0 m 28 ls []) := by
        intro H locs x1 x2 hP hS q_x2 qm4 ls hl
        refine z_iinc (lv' := fun w0 => [(2, .int w0), (0, .ref (ad 5)), (1, .int x1)]) hx hb dX1_countOn_28 hl (k := 2) rfl (by decide) (fun _ => rfl) (by decide) (by omega) (fun v28 ls h28 hl => ?_)
        refine lv_goto (tgt := 4) hx hb dX1_countOn_31 (by decide) ?_
        exact ih4 _ _ x1 v28 hP hS (by omega) (by omega) _ (lv_sub hl [1, 2, 0] rfl)
      intro H locs x1 x2 hP hS q_x2 hm ls hl
      refine lv_iload_n hx hb dX1_countOn_4 rfl (lv_at hl 2 rfl) ?_
      refine lv_aload_n hx hb dX1_countOn_5 rfl (lv_at hl 0 rfl) ?_
      obtain ⟨v6, e6⟩ := gg_Bo hO
      refine va_get (ci := 1) (C := RX1) (T := TX1) (N := 2) (v := .ref (ad 9)) hx hb hts inX1 hown hK hP 5 (zw_at (by decide) e6) rfl 0 (by decide) fl11 (fun _ h => h) rfl dX1_countOn_6 ?_
      obtain ⟨f9, e9, h9⟩ := gg_BoA hO
      refine va_alen hx hb hK hP 9 2 (zw_at (by decide) e9) rfl (v := nI 8) rfl dX1_countOn_9 ?_
      refine lv_topi (fun v9 h9a => ?_)
      have h9a : v9.toInt = 8 := by rw [h9a]; rfl
      refine z_icmp_ge (tgt := 34) hx hb dX1_countOn_10 (by decide) (fun c10 => ?_) (fun c10 => ?_)
      · skip
        refine lv_iload_n hx hb dX1_countOn_34 rfl (lv_at hl 1 rfl) ?_
        exact z_reti hx hb hr hlocks hP hS dX1_countOn_35 ⟨⟨hO, hPP⟩, trivial⟩
      · skip
        refine lv_aload_n hx hb dX1_countOn_13 rfl (lv_at hl 0 rfl) ?_
        refine va_get (ci := 1) (C := RX1) (T := TX1) (N := 2) (v := .ref (ad 9)) hx hb hts inX1 hown hK hP 5 (zw_at (by decide) e6) rfl 0 (by decide) fl11 (fun _ h => h) rfl dX1_countOn_14 ?_
        refine lv_iload_n hx hb dX1_countOn_17 rfl (lv_at hl 2 rfl) ?_
        refine z_ald (g := fun j0 => 12 + (12 + j0)) hx hb hK hP (q0 := 9) 2 (by decide) e9 rfl (by omega) h9 dX1_countOn_18 (fun j18 h18 => ?_)
        obtain ⟨v19, v19a, v19b, v19c, v19d, v19e, e19⟩ := gg_Ar hO (j := (12 + j18)) (by omega)
        refine va_get (ci := 0) (C := RX0) (T := TX0) (N := 6) (v := .int v19e) hx hb hts inX0 hown hK hP (12 + (12 + j18)) (zw_at (by omega) e19) rfl 5 (by decide) fl26 (fun _ h => h) rfl dX1_countOn_19 ?_
        refine z_if_eq (tgt := 28) hx hb dX1_countOn_22 (by decide) (fun c22 => ?_) (fun c22 => ?_)
        · skip
          exact J28 _ _ x1 x2 hP hS (by omega) (by omega) _ (lv_sub hl [0, 1, 2] rfl)
        · skip
          obtain ⟨v25, v25_e⟩ : ∃ y : Int32, y = x1 + Int32.ofInt (1) := ⟨_, rfl⟩
          refine lv_iinc (v := v25) (lv' := [(1, .int v25), (0, .ref (ad 5)), (2, .int x2)]) hx hb dX1_countOn_25 hl (k := 1) rfl v25_e.symm (by decide) rfl (fun ls hl => ?_)
          exact J28 _ _ v25 x2 hP hS (by omega) (by omega) _ (lv_sub hl [1, 0, 2] rfl)
  intro ls hl
  have hl : lv_has ls 3 [(0, .ref (ad 5))] := hl
  refine z_ic hx hb dX1_countOn_0 (by decide) (fun v0 h0 => ?_)
  refine lv_istore_n (lv' := [(1, .int v0), (0, .ref (ad 5))]) hx hb dX1_countOn_1 rfl hl (by decide) rfl (fun ls hl => ?_)
  refine z_ic hx hb dX1_countOn_2 (by decide) (fun v2 h2 => ?_)
  refine lv_istore_n (lv' := [(2, .int v2), (1, .int v0), (0, .ref (ad 5))]) hx hb dX1_countOn_3 rfl hl (by decide) rfl (fun ls hl => ?_)
  exact L4 10 _ _ v0 v2 hP hS (by omega) (by omega) _ (lv_sub hl [2, 1, 0] rfl)
set_option maxHeartbeats 8000000 in
set_option maxRecDepth 100000 in
theorem c_X1_countOn_Do (l : Launch) (D : va_G) (cy : Nat → ClassId) (ad : Nat → Nat) (cnt : Nat → Nat) (B : Nat) (PP : (Nat → va_E) → Prop) (hJ : zJ 73 ad) : zM l D (gT cy) 73 ad (fun c1 => gOK cy ad cnt B c1 ∧ PP c1) yX1_countOn vsX1_countOn { frames := 0, cells := 0, slots := 0, locals := 0 } ([.ref (ad 6)] : List Value) (zQi D 73 ad (fun r ce => (gOK cy ad cnt B ce ∧ PP ce) ∧ (True))) := by
  refine z_of (cc := cX1_countOn) (maxL := 3) (ret := (some .int)) (by decide) rfl (Nat.le_of_ble_eq_true rfl) ?_
  intro p e s m below meth c hx hb hr hts hown hlocks hml hK hN ce hOK hP
  have hown : s.vm.findClass RX1 = some m.cls := hown
  have hS : va_S (zA 73 ad) s.heap s.heap [] := va_S.rf
  obtain ⟨hO, hPP⟩ := hOK
  have inX0 : ∀ w ∈ u_ws RX0 TX0 6, w ∈ vsX1_countOn := fun w h => List.mem_cons_of_mem _ (inlX0 w h)
  have inX1 : ∀ w ∈ u_ws RX1 TX1 2, w ∈ vsX1_countOn := fun w h => List.mem_cons_of_mem _ (inlX1 w h)
  have fl11 := hts (.fieldLink RX1 11 "GroundKeeper$Areas" "all" "[LGroundKeeper$Area;") (List.mem_cons_of_mem _ mw_26)
  have fl26 := hts (.fieldLink RX1 26 "GroundKeeper$Area" "on" "Z") (List.mem_cons_of_mem _ mw_27)
  have L4 : ∀ N4 : Nat, ∀ (H : Heap) (locs : List Loc) (x1 : Int32) (x2 : Int32), va_P D vwCl (zw 73 ad ce) H → va_S (zA 73 ad) s.heap H locs → (0 ≤ x2.toInt ∧ x2.toInt ≤ 6) → (7 - x2.toInt ≤ (N4 : Int)) → ∀ ls : Array Slot, lv_has ls 3 [(0, .ref (ad 6)), (1, .int x1), (2, .int x2)] → W p l e { frames := 0, cells := 0, slots := 0, locals := 0 } s m ([.ref (ad 6)] : List Value).toArray below meth c H locs 0 0 (MQ below (zQi D 73 ad (fun r ce => (gOK cy ad cnt B ce ∧ PP ce) ∧ (True))) ([.ref (ad 6)] : List Value).toArray s 0 0 (zA 73 ad)) (F0 m 4 ls []) := by
    intro N4
    induction N4 with
    | zero =>
      intro H locs x1 x2 hP hS q_x2 hm ls hl
      exfalso; omega
    | succ N4 ih4 =>
      have J28 : ∀ (H : Heap) (locs : List Loc) (x1 : Int32) (x2 : Int32), va_P D vwCl (zw 73 ad ce) H → va_S (zA 73 ad) s.heap H locs → (0 ≤ x2.toInt ∧ x2.toInt ≤ 5) → (7 - x2.toInt ≤ (N4 : Int) + 1) → ∀ ls : Array Slot, lv_has ls 3 [(0, .ref (ad 6)), (1, .int x1), (2, .int x2)] → W p l e { frames := 0, cells := 0, slots := 0, locals := 0 } s m ([.ref (ad 6)] : List Value).toArray below meth c H locs 0 0 (MQ below (zQi D 73 ad (fun r ce => (gOK cy ad cnt B ce ∧ PP ce) ∧ (True))) ([.ref (ad 6)] : List Value).toArray s 0 0 (zA 73 ad)) (F0 m 28 ls []) := by
        intro H locs x1 x2 hP hS q_x2 qm4 ls hl
        refine z_iinc (lv' := fun w0 => [(2, .int w0), (0, .ref (ad 6)), (1, .int x1)]) hx hb dX1_countOn_28 hl (k := 2) rfl (by decide) (fun _ => rfl) (by decide) (by omega) (fun v28 ls h28 hl => ?_)
        refine lv_goto (tgt := 4) hx hb dX1_countOn_31 (by decide) ?_
        exact ih4 _ _ x1 v28 hP hS (by omega) (by omega) _ (lv_sub hl [1, 2, 0] rfl)
      intro H locs x1 x2 hP hS q_x2 hm ls hl
      refine lv_iload_n hx hb dX1_countOn_4 rfl (lv_at hl 2 rfl) ?_
      refine lv_aload_n hx hb dX1_countOn_5 rfl (lv_at hl 0 rfl) ?_
      obtain ⟨v6, e6, h6, h6a, h6b⟩ := gg_Do hO
      refine va_get (ci := 1) (C := RX1) (T := TX1) (N := 2) (v := .ref (ad 10)) hx hb hts inX1 hown hK hP 6 (zw_at (by decide) e6) rfl 0 (by decide) fl11 (fun _ h => h) rfl dX1_countOn_6 ?_
      obtain ⟨f9, e9, h9⟩ := gg_DoA hO
      refine va_alen hx hb hK hP 10 2 (zw_at (by decide) e9) rfl (v := nI 6) rfl dX1_countOn_9 ?_
      refine lv_topi (fun v9 h9a => ?_)
      have h9a : v9.toInt = 6 := by rw [h9a]; rfl
      refine z_icmp_ge (tgt := 34) hx hb dX1_countOn_10 (by decide) (fun c10 => ?_) (fun c10 => ?_)
      · skip
        refine lv_iload_n hx hb dX1_countOn_34 rfl (lv_at hl 1 rfl) ?_
        exact z_reti hx hb hr hlocks hP hS dX1_countOn_35 ⟨⟨hO, hPP⟩, trivial⟩
      · skip
        refine lv_aload_n hx hb dX1_countOn_13 rfl (lv_at hl 0 rfl) ?_
        refine va_get (ci := 1) (C := RX1) (T := TX1) (N := 2) (v := .ref (ad 10)) hx hb hts inX1 hown hK hP 6 (zw_at (by decide) e6) rfl 0 (by decide) fl11 (fun _ h => h) rfl dX1_countOn_14 ?_
        refine lv_iload_n hx hb dX1_countOn_17 rfl (lv_at hl 2 rfl) ?_
        refine z_ald (g := fun j0 => 12 + (20 + j0)) hx hb hK hP (q0 := 10) 2 (by decide) e9 rfl (by omega) h9 dX1_countOn_18 (fun j18 h18 => ?_)
        obtain ⟨v19, v19a, v19b, v19c, v19d, v19e, e19⟩ := gg_Ar hO (j := (20 + j18)) (by omega)
        refine va_get (ci := 0) (C := RX0) (T := TX0) (N := 6) (v := .int v19e) hx hb hts inX0 hown hK hP (12 + (20 + j18)) (zw_at (by omega) e19) rfl 5 (by decide) fl26 (fun _ h => h) rfl dX1_countOn_19 ?_
        refine z_if_eq (tgt := 28) hx hb dX1_countOn_22 (by decide) (fun c22 => ?_) (fun c22 => ?_)
        · skip
          exact J28 _ _ x1 x2 hP hS (by omega) (by omega) _ (lv_sub hl [0, 1, 2] rfl)
        · skip
          obtain ⟨v25, v25_e⟩ : ∃ y : Int32, y = x1 + Int32.ofInt (1) := ⟨_, rfl⟩
          refine lv_iinc (v := v25) (lv' := [(1, .int v25), (0, .ref (ad 6)), (2, .int x2)]) hx hb dX1_countOn_25 hl (k := 1) rfl v25_e.symm (by decide) rfl (fun ls hl => ?_)
          exact J28 _ _ v25 x2 hP hS (by omega) (by omega) _ (lv_sub hl [1, 0, 2] rfl)
  intro ls hl
  have hl : lv_has ls 3 [(0, .ref (ad 6))] := hl
  refine z_ic hx hb dX1_countOn_0 (by decide) (fun v0 h0 => ?_)
  refine lv_istore_n (lv' := [(1, .int v0), (0, .ref (ad 6))]) hx hb dX1_countOn_1 rfl hl (by decide) rfl (fun ls hl => ?_)
  refine z_ic hx hb dX1_countOn_2 (by decide) (fun v2 h2 => ?_)
  refine lv_istore_n (lv' := [(2, .int v2), (1, .int v0), (0, .ref (ad 6))]) hx hb dX1_countOn_3 rfl hl (by decide) rfl (fun ls hl => ?_)
  exact L4 8 _ _ v0 v2 hP hS (by omega) (by omega) _ (lv_sub hl [2, 1, 0] rfl)
set_option maxHeartbeats 8000000 in
set_option maxRecDepth 100000 in
theorem c_X1_add_Ro (l : Launch) (D : va_G) (cy : Nat → ClassId) (ad : Nat → Nat) (cnt : Nat → Nat) (B : Nat) (hJ : zJ 73 ad) (p1 : Int32) (p2 : Int32) (p3 : Int32) (p4 : Int32) (p5 : Int32) (p6 : Int32) (q_p6 : 0 ≤ p6.toInt ∧ p6.toInt ≤ 1) : zM l D (gT cy) 73 ad (gOK cy ad cnt B) yX1_add vsX1_add { frames := 2, cells := 0, slots := 0, locals := 46 } ([.ref (ad 4), .int p1, .int p2, .int p3, .int p4, .int p5, .int p6] : List Value) (zQi D 73 ad (fun r ce => addP cy ad cnt B 4 12 r ce)) := by
  refine z_of (cc := cX1_add) (maxL := 7) (ret := (some .int)) (by decide) rfl (Nat.le_of_ble_eq_true rfl) ?_
  intro p e s m below meth c hx hb hr hts hown hlocks hml hK hN ce hOK hP
  have hown : s.vm.findClass RX1 = some m.cls := hown
  have hS : va_S (zA 73 ad) s.heap s.heap [] := va_S.rf
  have hO := hOK
  have inX0 : ∀ w ∈ u_ws RX0 TX0 6, w ∈ vsX1_add := fun w h => List.mem_cons_of_mem _ (inlX0 w h)
  have inX1 : ∀ w ∈ u_ws RX1 TX1 2, w ∈ vsX1_add := fun w h => List.mem_cons_of_mem _ (inlX1 w h)
  have fl11 := hts (.fieldLink RX1 11 "GroundKeeper$Areas" "all" "[LGroundKeeper$Area;") (List.mem_cons_of_mem _ mw_26)
  have fl18 := hts (.fieldLink RX1 18 "GroundKeeper$Areas" "size" "I") (List.mem_cons_of_mem _ mw_28)
  have fl26 := hts (.fieldLink RX1 26 "GroundKeeper$Area" "on" "Z") (List.mem_cons_of_mem _ mw_27)
  intro ls hl
  have hl : lv_has ls 7 [(0, .ref (ad 4)), (1, .int p1), (2, .int p2), (3, .int p3), (4, .int p4), (5, .int p5), (6, .int p6)] := hl
  refine lv_aload_n hx hb dX1_add_0 rfl (lv_at hl 0 rfl) ?_
  obtain ⟨v1, e1, h1, h1a, h1b⟩ := gg_Ro hO
  refine va_get (ci := 1) (C := RX1) (T := TX1) (N := 2) (v := .int v1) hx hb hts inX1 hown hK hP 4 (zw_at (by decide) e1) rfl 1 (by decide) fl18 (fun _ h => h) rfl dX1_add_1 ?_
  refine lv_aload_n hx hb dX1_add_4 rfl (lv_at hl 0 rfl) ?_
  refine va_get (ci := 1) (C := RX1) (T := TX1) (N := 2) (v := .ref (ad 8)) hx hb hts inX1 hown hK hP 4 (zw_at (by decide) e1) rfl 0 (by decide) fl11 (fun _ h => h) rfl dX1_add_5 ?_
  obtain ⟨f8, e8, h8⟩ := gg_RoA hO
  refine va_alen hx hb hK hP 8 2 (zw_at (by decide) e8) rfl (v := nI 12) rfl dX1_add_8 ?_
  refine lv_topi (fun v8 h8a => ?_)
  have h8a : v8.toInt = 12 := by rw [h8a]; rfl
  refine z_icmp_lt (tgt := 15) hx hb dX1_add_9 (by decide) (fun c9 => ?_) (fun c9 => ?_)
  · skip
    refine lv_aload_n hx hb dX1_add_15 rfl (lv_at hl 0 rfl) ?_
    refine va_get (ci := 1) (C := RX1) (T := TX1) (N := 2) (v := .ref (ad 8)) hx hb hts inX1 hown hK hP 4 (zw_at (by decide) e1) rfl 0 (by decide) fl11 (fun _ h => h) rfl dX1_add_16 ?_
    refine lv_aload_n hx hb dX1_add_19 rfl (lv_at hl 0 rfl) ?_
    refine va_get (ci := 1) (C := RX1) (T := TX1) (N := 2) (v := .int v1) hx hb hts inX1 hown hK hP 4 (zw_at (by decide) e1) rfl 1 (by decide) fl18 (fun _ h => h) rfl dX1_add_20 ?_
    refine z_ald (g := fun j0 => 12 + j0) hx hb hK hP (q0 := 8) 2 (by decide) e8 rfl (by omega) h8 dX1_add_23 (fun j23 h23 => ?_)
    refine lv_iload_n hx hb dX1_add_24 rfl (lv_at hl 1 rfl) ?_
    refine lv_iload_n hx hb dX1_add_25 rfl (lv_at hl 2 rfl) ?_
    refine lv_iload_n hx hb dX1_add_26 rfl (lv_at hl 3 rfl) ?_
    refine lv_iload hx hb dX1_add_27 (lv_at hl 4 rfl) ?_
    refine lv_iload hx hb dX1_add_29 (lv_at hl 5 rfl) ?_
    obtain ⟨v31, v31a, v31b, v31c, v31d, v31e, e31⟩ := gg_Ar hO (j := j23) (by omega)
    refine z_cv (z_rV (q0 := (12 + j23)) (As := [.int p1, .int p2, .int p3, .int p4, .int p5]) (rest := []) ⟨hx, hb, hml, hown, hts⟩ (c_X0_lay l D cy ad cnt B hJ j23 p1 p2 p3 p4 p5 (by omega)) (cwV 5 hts (g_V mw_30 mw_31 mw_32 mw_33 mw_34) rfl rfl rfl (by decide +kernel) ⟨Nat.le_of_ble_eq_true rfl, Nat.le_of_ble_eq_true rfl⟩) hK hN hO hP (by omega) e31 rfl rfl hl.1 rfl (Nat.le_of_ble_eq_true rfl) dX1_add_31 ⟨Nat.zero_le _, Nat.zero_le _⟩) hS (fun ce H locs h31 hP hS => ?_)
    obtain ⟨hO, h31a⟩ := h31
    refine lv_aload_n hx hb dX1_add_34 rfl (lv_at hl 0 rfl) ?_
    obtain ⟨v35, e35, h35, h35a, h35b⟩ := gg_Ro hO
    refine va_get (ci := 1) (C := RX1) (T := TX1) (N := 2) (v := .ref (ad 8)) hx hb hts inX1 hown hK hP 4 (zw_at (by decide) e35) rfl 0 (by decide) fl11 (fun _ h => h) rfl dX1_add_35 ?_
    refine lv_aload_n hx hb dX1_add_38 rfl (lv_at hl 0 rfl) ?_
    refine va_get (ci := 1) (C := RX1) (T := TX1) (N := 2) (v := .int v35) hx hb hts inX1 hown hK hP 4 (zw_at (by decide) e35) rfl 1 (by decide) fl18 (fun _ h => h) rfl dX1_add_39 ?_
    obtain ⟨f42, e42, h42⟩ := gg_RoA hO
    refine z_ald (g := fun j0 => 12 + j0) hx hb hK hP (q0 := 8) 2 (by decide) e42 rfl (by omega) h42 dX1_add_42 (fun j42 h42a => ?_)
    refine lv_iload hx hb dX1_add_43 (lv_at hl 6 rfl) ?_
    obtain ⟨v45, v45a, v45b, v45c, v45d, v45e, e45⟩ := gg_Ar hO (j := j42) (by omega)
    refine z_put (q0 := (12 + j42)) (ci := 0) (C := RX0) (T := TX0) (N := 6) hx hb hts inX0 tyX0 tyX0_ok nmX0 hown hK hJ hP hS (by omega) e45 rfl 5 (by decide) fl26 (fun _ h => h) rfl (ty := .boolean) (by decide +kernel) (z_nb (by omega)) (z_fb (by omega)) (Nat.le_of_ble_eq_true rfl) (fs1 := [.int v45, .int v45a, .int v45b, .int v45c, .int v45d, .int p6]) rfl dX1_add_45 (fun ce H locs e45a h45 hP hS => ?_)
    have hO := z_up (OKK := gK cy ad cnt B) (12 + j42) hO h45 (by rw [e45a]; exact gE_Ar (by omega) |>.mpr ⟨v45, v45a, v45b, v45c, v45d, p6, rfl⟩)
    have e45b := (h45 4 (by omega)).trans e35
    have e45c := (h45 8 (by omega)).trans e42
    refine lv_aload_n hx hb dX1_add_48 rfl (lv_at hl 0 rfl) ?_
    refine lv_dup hx hb dX1_add_49 rfl ?_
    refine va_get (ci := 1) (C := RX1) (T := TX1) (N := 2) (v := .int v35) hx hb hts inX1 hown hK hP 4 (zw_at (by decide) e45b) rfl 1 (by decide) fl18 (fun _ h => h) rfl dX1_add_50 ?_
    refine z_ic hx hb dX1_add_53 (by decide) (fun v53 h53 => ?_)
    refine z_addE hx hb dX1_add_54 (by omega) (fun v54 h54 => ?_)
    refine z_put (q0 := 4) (ci := 1) (C := RX1) (T := TX1) (N := 2) hx hb hts inX1 tyX1 tyX1_ok nmX1 hown hK hJ hP hS (by decide) e45b rfl 1 (by decide) fl18 (fun _ h => h) rfl (ty := .int) (by decide +kernel) rfl rfl (Nat.le_of_ble_eq_true rfl) (fs1 := [.ref (ad 8), .int v54]) rfl dX1_add_55 (fun ce H locs e55 h55 hP hS => ?_)
    have hu : va_up cnt 4 (cnt 4 + 1) 4 = cnt 4 + 1 := by simp [va_up]
    have hO := z_up2 (OKK := gK cy ad cnt B) (OKL := gK cy ad (va_up cnt 4 (cnt 4 + 1)) B) 4 hO h55 (fun q e _ h => gK_cnt4 (by assumption) h) (by rw [e55]; exact gE_Ro |>.mpr ⟨v54, rfl, by omega, by omega, by omega⟩)
    have e55a := (h55 8 (by omega)).trans e45c
    have e55b := (h55 (12 + j42) (by omega)).trans e45a
    refine lv_aload_n hx hb dX1_add_58 rfl (lv_at hl 0 rfl) ?_
    refine va_get (ci := 1) (C := RX1) (T := TX1) (N := 2) (v := .int v54) hx hb hts inX1 hown hK hP 4 (zw_at (by decide) e55) rfl 1 (by decide) fl18 (fun _ h => h) rfl dX1_add_59 ?_
    refine z_ic hx hb dX1_add_62 (by decide) (fun v62 h62 => ?_)
    refine z_subE hx hb dX1_add_63 (by omega) (fun v63 h63 => ?_)
    exact z_reti hx hb hr hlocks hP hS dX1_add_64 ⟨fun h => by exfalso; omega, fun _ => ⟨by omega, hO⟩⟩
  · skip
    refine z_bi hx hb dX1_add_12 (by decide) (fun v12 h12 => ?_)
    exact z_reti hx hb hr hlocks hP hS dX1_add_14 ⟨fun _ => ⟨by omega, hO⟩, fun h => by exfalso; omega⟩
set_option maxHeartbeats 8000000 in
set_option maxRecDepth 100000 in
theorem c_X1_add_Do (l : Launch) (D : va_G) (cy : Nat → ClassId) (ad : Nat → Nat) (cnt : Nat → Nat) (B : Nat) (hJ : zJ 73 ad) (p1 : Int32) (p2 : Int32) (p3 : Int32) (p4 : Int32) (p5 : Int32) (p6 : Int32) (q_p6 : 0 ≤ p6.toInt ∧ p6.toInt ≤ 1) : zM l D (gT cy) 73 ad (gOK cy ad cnt B) yX1_add vsX1_add { frames := 2, cells := 0, slots := 0, locals := 46 } ([.ref (ad 6), .int p1, .int p2, .int p3, .int p4, .int p5, .int p6] : List Value) (zQi D 73 ad (fun r ce => addP cy ad cnt B 6 6 r ce)) := by
  refine z_of (cc := cX1_add) (maxL := 7) (ret := (some .int)) (by decide) rfl (Nat.le_of_ble_eq_true rfl) ?_
  intro p e s m below meth c hx hb hr hts hown hlocks hml hK hN ce hOK hP
  have hown : s.vm.findClass RX1 = some m.cls := hown
  have hS : va_S (zA 73 ad) s.heap s.heap [] := va_S.rf
  have hO := hOK
  have inX0 : ∀ w ∈ u_ws RX0 TX0 6, w ∈ vsX1_add := fun w h => List.mem_cons_of_mem _ (inlX0 w h)
  have inX1 : ∀ w ∈ u_ws RX1 TX1 2, w ∈ vsX1_add := fun w h => List.mem_cons_of_mem _ (inlX1 w h)
  have fl11 := hts (.fieldLink RX1 11 "GroundKeeper$Areas" "all" "[LGroundKeeper$Area;") (List.mem_cons_of_mem _ mw_26)
  have fl18 := hts (.fieldLink RX1 18 "GroundKeeper$Areas" "size" "I") (List.mem_cons_of_mem _ mw_28)
  have fl26 := hts (.fieldLink RX1 26 "GroundKeeper$Area" "on" "Z") (List.mem_cons_of_mem _ mw_27)
  intro ls hl
  have hl : lv_has ls 7 [(0, .ref (ad 6)), (1, .int p1), (2, .int p2), (3, .int p3), (4, .int p4), (5, .int p5), (6, .int p6)] := hl
  refine lv_aload_n hx hb dX1_add_0 rfl (lv_at hl 0 rfl) ?_
  obtain ⟨v1, e1, h1, h1a, h1b⟩ := gg_Do hO
  refine va_get (ci := 1) (C := RX1) (T := TX1) (N := 2) (v := .int v1) hx hb hts inX1 hown hK hP 6 (zw_at (by decide) e1) rfl 1 (by decide) fl18 (fun _ h => h) rfl dX1_add_1 ?_
  refine lv_aload_n hx hb dX1_add_4 rfl (lv_at hl 0 rfl) ?_
  refine va_get (ci := 1) (C := RX1) (T := TX1) (N := 2) (v := .ref (ad 10)) hx hb hts inX1 hown hK hP 6 (zw_at (by decide) e1) rfl 0 (by decide) fl11 (fun _ h => h) rfl dX1_add_5 ?_
  obtain ⟨f8, e8, h8⟩ := gg_DoA hO
  refine va_alen hx hb hK hP 10 2 (zw_at (by decide) e8) rfl (v := nI 6) rfl dX1_add_8 ?_
  refine lv_topi (fun v8 h8a => ?_)
  have h8a : v8.toInt = 6 := by rw [h8a]; rfl
  refine z_icmp_lt (tgt := 15) hx hb dX1_add_9 (by decide) (fun c9 => ?_) (fun c9 => ?_)
  · skip
    refine lv_aload_n hx hb dX1_add_15 rfl (lv_at hl 0 rfl) ?_
    refine va_get (ci := 1) (C := RX1) (T := TX1) (N := 2) (v := .ref (ad 10)) hx hb hts inX1 hown hK hP 6 (zw_at (by decide) e1) rfl 0 (by decide) fl11 (fun _ h => h) rfl dX1_add_16 ?_
    refine lv_aload_n hx hb dX1_add_19 rfl (lv_at hl 0 rfl) ?_
    refine va_get (ci := 1) (C := RX1) (T := TX1) (N := 2) (v := .int v1) hx hb hts inX1 hown hK hP 6 (zw_at (by decide) e1) rfl 1 (by decide) fl18 (fun _ h => h) rfl dX1_add_20 ?_
    refine z_ald (g := fun j0 => 12 + (20 + j0)) hx hb hK hP (q0 := 10) 2 (by decide) e8 rfl (by omega) h8 dX1_add_23 (fun j23 h23 => ?_)
    refine lv_iload_n hx hb dX1_add_24 rfl (lv_at hl 1 rfl) ?_
    refine lv_iload_n hx hb dX1_add_25 rfl (lv_at hl 2 rfl) ?_
    refine lv_iload_n hx hb dX1_add_26 rfl (lv_at hl 3 rfl) ?_
    refine lv_iload hx hb dX1_add_27 (lv_at hl 4 rfl) ?_
    refine lv_iload hx hb dX1_add_29 (lv_at hl 5 rfl) ?_
    obtain ⟨v31, v31a, v31b, v31c, v31d, v31e, e31⟩ := gg_Ar hO (j := (20 + j23)) (by omega)
    refine z_cv (z_rV (q0 := (12 + (20 + j23))) (As := [.int p1, .int p2, .int p3, .int p4, .int p5]) (rest := []) ⟨hx, hb, hml, hown, hts⟩ (c_X0_lay l D cy ad cnt B hJ (20 + j23) p1 p2 p3 p4 p5 (by omega)) (cwV 5 hts (g_V mw_30 mw_31 mw_32 mw_33 mw_34) rfl rfl rfl (by decide +kernel) ⟨Nat.le_of_ble_eq_true rfl, Nat.le_of_ble_eq_true rfl⟩) hK hN hO hP (by omega) e31 rfl rfl hl.1 rfl (Nat.le_of_ble_eq_true rfl) dX1_add_31 ⟨Nat.zero_le _, Nat.zero_le _⟩) hS (fun ce H locs h31 hP hS => ?_)
    obtain ⟨hO, h31a⟩ := h31
    refine lv_aload_n hx hb dX1_add_34 rfl (lv_at hl 0 rfl) ?_
    obtain ⟨v35, e35, h35, h35a, h35b⟩ := gg_Do hO
    refine va_get (ci := 1) (C := RX1) (T := TX1) (N := 2) (v := .ref (ad 10)) hx hb hts inX1 hown hK hP 6 (zw_at (by decide) e35) rfl 0 (by decide) fl11 (fun _ h => h) rfl dX1_add_35 ?_
    refine lv_aload_n hx hb dX1_add_38 rfl (lv_at hl 0 rfl) ?_
    refine va_get (ci := 1) (C := RX1) (T := TX1) (N := 2) (v := .int v35) hx hb hts inX1 hown hK hP 6 (zw_at (by decide) e35) rfl 1 (by decide) fl18 (fun _ h => h) rfl dX1_add_39 ?_
    obtain ⟨f42, e42, h42⟩ := gg_DoA hO
    refine z_ald (g := fun j0 => 12 + (20 + j0)) hx hb hK hP (q0 := 10) 2 (by decide) e42 rfl (by omega) h42 dX1_add_42 (fun j42 h42a => ?_)
    refine lv_iload hx hb dX1_add_43 (lv_at hl 6 rfl) ?_
    obtain ⟨v45, v45a, v45b, v45c, v45d, v45e, e45⟩ := gg_Ar hO (j := (20 + j42)) (by omega)
    refine z_put (q0 := (12 + (20 + j42))) (ci := 0) (C := RX0) (T := TX0) (N := 6) hx hb hts inX0 tyX0 tyX0_ok nmX0 hown hK hJ hP hS (by omega) e45 rfl 5 (by decide) fl26 (fun _ h => h) rfl (ty := .boolean) (by decide +kernel) (z_nb (by omega)) (z_fb (by omega)) (Nat.le_of_ble_eq_true rfl) (fs1 := [.int v45, .int v45a, .int v45b, .int v45c, .int v45d, .int p6]) rfl dX1_add_45 (fun ce H locs e45a h45 hP hS => ?_)
    have hO := z_up (OKK := gK cy ad cnt B) (12 + (20 + j42)) hO h45 (by rw [e45a]; exact gE_Ar (by omega) |>.mpr ⟨v45, v45a, v45b, v45c, v45d, p6, rfl⟩)
    have e45b := (h45 6 (by omega)).trans e35
    have e45c := (h45 10 (by omega)).trans e42
    refine lv_aload_n hx hb dX1_add_48 rfl (lv_at hl 0 rfl) ?_
    refine lv_dup hx hb dX1_add_49 rfl ?_
    refine va_get (ci := 1) (C := RX1) (T := TX1) (N := 2) (v := .int v35) hx hb hts inX1 hown hK hP 6 (zw_at (by decide) e45b) rfl 1 (by decide) fl18 (fun _ h => h) rfl dX1_add_50 ?_
    refine z_ic hx hb dX1_add_53 (by decide) (fun v53 h53 => ?_)
    refine z_addE hx hb dX1_add_54 (by omega) (fun v54 h54 => ?_)
    refine z_put (q0 := 6) (ci := 1) (C := RX1) (T := TX1) (N := 2) hx hb hts inX1 tyX1 tyX1_ok nmX1 hown hK hJ hP hS (by decide) e45b rfl 1 (by decide) fl18 (fun _ h => h) rfl (ty := .int) (by decide +kernel) rfl rfl (Nat.le_of_ble_eq_true rfl) (fs1 := [.ref (ad 10), .int v54]) rfl dX1_add_55 (fun ce H locs e55 h55 hP hS => ?_)
    have hu : va_up cnt 6 (cnt 6 + 1) 6 = cnt 6 + 1 := by simp [va_up]
    have hO := z_up2 (OKK := gK cy ad cnt B) (OKL := gK cy ad (va_up cnt 6 (cnt 6 + 1)) B) 6 hO h55 (fun q e _ h => gK_cnt6 (by assumption) h) (by rw [e55]; exact gE_Do |>.mpr ⟨v54, rfl, by omega, by omega, by omega⟩)
    have e55a := (h55 10 (by omega)).trans e45c
    have e55b := (h55 (12 + (20 + j42)) (by omega)).trans e45a
    refine lv_aload_n hx hb dX1_add_58 rfl (lv_at hl 0 rfl) ?_
    refine va_get (ci := 1) (C := RX1) (T := TX1) (N := 2) (v := .int v54) hx hb hts inX1 hown hK hP 6 (zw_at (by decide) e55) rfl 1 (by decide) fl18 (fun _ h => h) rfl dX1_add_59 ?_
    refine z_ic hx hb dX1_add_62 (by decide) (fun v62 h62 => ?_)
    refine z_subE hx hb dX1_add_63 (by omega) (fun v63 h63 => ?_)
    exact z_reti hx hb hr hlocks hP hS dX1_add_64 ⟨fun h => by exfalso; omega, fun _ => ⟨by omega, hO⟩⟩
  · skip
    refine z_bi hx hb dX1_add_12 (by decide) (fun v12 h12 => ?_)
    exact z_reti hx hb hr hlocks hP hS dX1_add_14 ⟨fun _ => ⟨by omega, hO⟩, fun h => by exfalso; omega⟩
set_option maxHeartbeats 8000000 in
set_option maxRecDepth 100000 in
theorem c_X1_add_Lg (l : Launch) (D : va_G) (cy : Nat → ClassId) (ad : Nat → Nat) (cnt : Nat → Nat) (B : Nat) (hJ : zJ 73 ad) (p1 : Int32) (p2 : Int32) (p3 : Int32) (p4 : Int32) (p5 : Int32) (p6 : Int32) (q_p6 : 0 ≤ p6.toInt ∧ p6.toInt ≤ 1) : zM l D (gT cy) 73 ad (gOK cy ad cnt B) yX1_add vsX1_add { frames := 2, cells := 0, slots := 0, locals := 46 } ([.ref (ad 7), .int p1, .int p2, .int p3, .int p4, .int p5, .int p6] : List Value) (zQi D 73 ad (fun r ce => addP cy ad cnt B 7 6 r ce)) := by
  refine z_of (cc := cX1_add) (maxL := 7) (ret := (some .int)) (by decide) rfl (Nat.le_of_ble_eq_true rfl) ?_
  intro p e s m below meth c hx hb hr hts hown hlocks hml hK hN ce hOK hP
  have hown : s.vm.findClass RX1 = some m.cls := hown
  have hS : va_S (zA 73 ad) s.heap s.heap [] := va_S.rf
  have hO := hOK
  have inX0 : ∀ w ∈ u_ws RX0 TX0 6, w ∈ vsX1_add := fun w h => List.mem_cons_of_mem _ (inlX0 w h)
  have inX1 : ∀ w ∈ u_ws RX1 TX1 2, w ∈ vsX1_add := fun w h => List.mem_cons_of_mem _ (inlX1 w h)
  have fl11 := hts (.fieldLink RX1 11 "GroundKeeper$Areas" "all" "[LGroundKeeper$Area;") (List.mem_cons_of_mem _ mw_26)
  have fl18 := hts (.fieldLink RX1 18 "GroundKeeper$Areas" "size" "I") (List.mem_cons_of_mem _ mw_28)
  have fl26 := hts (.fieldLink RX1 26 "GroundKeeper$Area" "on" "Z") (List.mem_cons_of_mem _ mw_27)
  intro ls hl
  have hl : lv_has ls 7 [(0, .ref (ad 7)), (1, .int p1), (2, .int p2), (3, .int p3), (4, .int p4), (5, .int p5), (6, .int p6)] := hl
  refine lv_aload_n hx hb dX1_add_0 rfl (lv_at hl 0 rfl) ?_
  obtain ⟨v1, e1, h1, h1a, h1b⟩ := gg_Lg hO
  refine va_get (ci := 1) (C := RX1) (T := TX1) (N := 2) (v := .int v1) hx hb hts inX1 hown hK hP 7 (zw_at (by decide) e1) rfl 1 (by decide) fl18 (fun _ h => h) rfl dX1_add_1 ?_
  refine lv_aload_n hx hb dX1_add_4 rfl (lv_at hl 0 rfl) ?_
  refine va_get (ci := 1) (C := RX1) (T := TX1) (N := 2) (v := .ref (ad 11)) hx hb hts inX1 hown hK hP 7 (zw_at (by decide) e1) rfl 0 (by decide) fl11 (fun _ h => h) rfl dX1_add_5 ?_
  obtain ⟨f8, e8, h8⟩ := gg_LgA hO
  refine va_alen hx hb hK hP 11 2 (zw_at (by decide) e8) rfl (v := nI 6) rfl dX1_add_8 ?_
  refine lv_topi (fun v8 h8a => ?_)
  have h8a : v8.toInt = 6 := by rw [h8a]; rfl
  refine z_icmp_lt (tgt := 15) hx hb dX1_add_9 (by decide) (fun c9 => ?_) (fun c9 => ?_)
  · skip
    refine lv_aload_n hx hb dX1_add_15 rfl (lv_at hl 0 rfl) ?_
    refine va_get (ci := 1) (C := RX1) (T := TX1) (N := 2) (v := .ref (ad 11)) hx hb hts inX1 hown hK hP 7 (zw_at (by decide) e1) rfl 0 (by decide) fl11 (fun _ h => h) rfl dX1_add_16 ?_
    refine lv_aload_n hx hb dX1_add_19 rfl (lv_at hl 0 rfl) ?_
    refine va_get (ci := 1) (C := RX1) (T := TX1) (N := 2) (v := .int v1) hx hb hts inX1 hown hK hP 7 (zw_at (by decide) e1) rfl 1 (by decide) fl18 (fun _ h => h) rfl dX1_add_20 ?_
    refine z_ald (g := fun j0 => 12 + (26 + j0)) hx hb hK hP (q0 := 11) 2 (by decide) e8 rfl (by omega) h8 dX1_add_23 (fun j23 h23 => ?_)
    refine lv_iload_n hx hb dX1_add_24 rfl (lv_at hl 1 rfl) ?_
    refine lv_iload_n hx hb dX1_add_25 rfl (lv_at hl 2 rfl) ?_
    refine lv_iload_n hx hb dX1_add_26 rfl (lv_at hl 3 rfl) ?_
    refine lv_iload hx hb dX1_add_27 (lv_at hl 4 rfl) ?_
    refine lv_iload hx hb dX1_add_29 (lv_at hl 5 rfl) ?_
    obtain ⟨v31, v31a, v31b, v31c, v31d, v31e, e31⟩ := gg_Ar hO (j := (26 + j23)) (by omega)
    refine z_cv (z_rV (q0 := (12 + (26 + j23))) (As := [.int p1, .int p2, .int p3, .int p4, .int p5]) (rest := []) ⟨hx, hb, hml, hown, hts⟩ (c_X0_lay l D cy ad cnt B hJ (26 + j23) p1 p2 p3 p4 p5 (by omega)) (cwV 5 hts (g_V mw_30 mw_31 mw_32 mw_33 mw_34) rfl rfl rfl (by decide +kernel) ⟨Nat.le_of_ble_eq_true rfl, Nat.le_of_ble_eq_true rfl⟩) hK hN hO hP (by omega) e31 rfl rfl hl.1 rfl (Nat.le_of_ble_eq_true rfl) dX1_add_31 ⟨Nat.zero_le _, Nat.zero_le _⟩) hS (fun ce H locs h31 hP hS => ?_)
    obtain ⟨hO, h31a⟩ := h31
    refine lv_aload_n hx hb dX1_add_34 rfl (lv_at hl 0 rfl) ?_
    obtain ⟨v35, e35, h35, h35a, h35b⟩ := gg_Lg hO
    refine va_get (ci := 1) (C := RX1) (T := TX1) (N := 2) (v := .ref (ad 11)) hx hb hts inX1 hown hK hP 7 (zw_at (by decide) e35) rfl 0 (by decide) fl11 (fun _ h => h) rfl dX1_add_35 ?_
    refine lv_aload_n hx hb dX1_add_38 rfl (lv_at hl 0 rfl) ?_
    refine va_get (ci := 1) (C := RX1) (T := TX1) (N := 2) (v := .int v35) hx hb hts inX1 hown hK hP 7 (zw_at (by decide) e35) rfl 1 (by decide) fl18 (fun _ h => h) rfl dX1_add_39 ?_
    obtain ⟨f42, e42, h42⟩ := gg_LgA hO
    refine z_ald (g := fun j0 => 12 + (26 + j0)) hx hb hK hP (q0 := 11) 2 (by decide) e42 rfl (by omega) h42 dX1_add_42 (fun j42 h42a => ?_)
    refine lv_iload hx hb dX1_add_43 (lv_at hl 6 rfl) ?_
    obtain ⟨v45, v45a, v45b, v45c, v45d, v45e, e45⟩ := gg_Ar hO (j := (26 + j42)) (by omega)
    refine z_put (q0 := (12 + (26 + j42))) (ci := 0) (C := RX0) (T := TX0) (N := 6) hx hb hts inX0 tyX0 tyX0_ok nmX0 hown hK hJ hP hS (by omega) e45 rfl 5 (by decide) fl26 (fun _ h => h) rfl (ty := .boolean) (by decide +kernel) (z_nb (by omega)) (z_fb (by omega)) (Nat.le_of_ble_eq_true rfl) (fs1 := [.int v45, .int v45a, .int v45b, .int v45c, .int v45d, .int p6]) rfl dX1_add_45 (fun ce H locs e45a h45 hP hS => ?_)
    have hO := z_up (OKK := gK cy ad cnt B) (12 + (26 + j42)) hO h45 (by rw [e45a]; exact gE_Ar (by omega) |>.mpr ⟨v45, v45a, v45b, v45c, v45d, p6, rfl⟩)
    have e45b := (h45 7 (by omega)).trans e35
    have e45c := (h45 11 (by omega)).trans e42
    refine lv_aload_n hx hb dX1_add_48 rfl (lv_at hl 0 rfl) ?_
    refine lv_dup hx hb dX1_add_49 rfl ?_
    refine va_get (ci := 1) (C := RX1) (T := TX1) (N := 2) (v := .int v35) hx hb hts inX1 hown hK hP 7 (zw_at (by decide) e45b) rfl 1 (by decide) fl18 (fun _ h => h) rfl dX1_add_50 ?_
    refine z_ic hx hb dX1_add_53 (by decide) (fun v53 h53 => ?_)
    refine z_addE hx hb dX1_add_54 (by omega) (fun v54 h54 => ?_)
    refine z_put (q0 := 7) (ci := 1) (C := RX1) (T := TX1) (N := 2) hx hb hts inX1 tyX1 tyX1_ok nmX1 hown hK hJ hP hS (by decide) e45b rfl 1 (by decide) fl18 (fun _ h => h) rfl (ty := .int) (by decide +kernel) rfl rfl (Nat.le_of_ble_eq_true rfl) (fs1 := [.ref (ad 11), .int v54]) rfl dX1_add_55 (fun ce H locs e55 h55 hP hS => ?_)
    have hu : va_up cnt 7 (cnt 7 + 1) 7 = cnt 7 + 1 := by simp [va_up]
    have hO := z_up2 (OKK := gK cy ad cnt B) (OKL := gK cy ad (va_up cnt 7 (cnt 7 + 1)) B) 7 hO h55 (fun q e _ h => gK_cnt7 (by assumption) h) (by rw [e55]; exact gE_Lg |>.mpr ⟨v54, rfl, by omega, by omega, by omega⟩)
    have e55a := (h55 11 (by omega)).trans e45c
    have e55b := (h55 (12 + (26 + j42)) (by omega)).trans e45a
    refine lv_aload_n hx hb dX1_add_58 rfl (lv_at hl 0 rfl) ?_
    refine va_get (ci := 1) (C := RX1) (T := TX1) (N := 2) (v := .int v54) hx hb hts inX1 hown hK hP 7 (zw_at (by decide) e55) rfl 1 (by decide) fl18 (fun _ h => h) rfl dX1_add_59 ?_
    refine z_ic hx hb dX1_add_62 (by decide) (fun v62 h62 => ?_)
    refine z_subE hx hb dX1_add_63 (by omega) (fun v63 h63 => ?_)
    exact z_reti hx hb hr hlocks hP hS dX1_add_64 ⟨fun h => by exfalso; omega, fun _ => ⟨by omega, hO⟩⟩
  · skip
    refine z_bi hx hb dX1_add_12 (by decide) (fun v12 h12 => ?_)
    exact z_reti hx hb hr hlocks hP hS dX1_add_14 ⟨fun _ => ⟨by omega, hO⟩, fun h => by exfalso; omega⟩
set_option maxHeartbeats 8000000 in
set_option maxRecDepth 100000 in
theorem c_X1_putDown_Bo (l : Launch) (D : va_G) (cy : Nat → ClassId) (ad : Nat → Nat) (cnt : Nat → Nat) (B : Nat) (hJ : zJ 73 ad) (p1 : Int32) (p2 : Int32) (p3 : Int32) (p4 : Int32) (p5 : Int32) : zM l D (gT cy) 73 ad (gOK cy ad cnt B) yX1_putDown vsX1_putDown { frames := 2, cells := 0, slots := 0, locals := 46 } ([.ref (ad 5), .int p1, .int p2, .int p3, .int p4, .int p5] : List Value) (zQi D 73 ad (fun r ce => gOK cy ad cnt B ce ∧ (True))) := by
  refine z_of (cc := cX1_putDown) (maxL := 7) (ret := (some .int)) (by decide) rfl (Nat.le_of_ble_eq_true rfl) ?_
  intro p e s m below meth c hx hb hr hts hown hlocks hml hK hN ce hOK hP
  have hown : s.vm.findClass RX1 = some m.cls := hown
  have hS : va_S (zA 73 ad) s.heap s.heap [] := va_S.rf
  have hO := hOK
  have inX0 : ∀ w ∈ u_ws RX0 TX0 6, w ∈ vsX1_putDown := fun w h => List.mem_cons_of_mem _ (inlX0 w h)
  have inX1 : ∀ w ∈ u_ws RX1 TX1 2, w ∈ vsX1_putDown := fun w h => List.mem_cons_of_mem _ (inlX1 w h)
  have fl11 := hts (.fieldLink RX1 11 "GroundKeeper$Areas" "all" "[LGroundKeeper$Area;") (List.mem_cons_of_mem _ mw_26)
  have fl26 := hts (.fieldLink RX1 26 "GroundKeeper$Area" "on" "Z") (List.mem_cons_of_mem _ mw_27)
  have L3 : ∀ N3 : Nat, ∀ (H : Heap) (locs : List Loc) (ce : Nat → va_E) (x1 : Int32) (x2 : Int32) (x3 : Int32) (x4 : Int32) (x5 : Int32) (x6 : Int32), va_P D vwCl (zw 73 ad ce) H → va_S (zA 73 ad) s.heap H locs → gOK cy ad cnt B ce → (0 ≤ x6.toInt ∧ x6.toInt ≤ 8) → (9 - x6.toInt ≤ (N3 : Int)) → ∀ ls : Array Slot, lv_has ls 7 [(0, .ref (ad 5)), (1, .int x1), (2, .int x2), (3, .int x3), (4, .int x4), (5, .int x5), (6, .int x6)] → W p l e { frames := 2, cells := 0, slots := 0, locals := 46 } s m ([.ref (ad 5), .int p1, .int p2, .int p3, .int p4, .int p5] : List Value).toArray below meth c H locs 0 0 (MQ below (zQi D 73 ad (fun r ce => gOK cy ad cnt B ce ∧ (True))) ([.ref (ad 5), .int p1, .int p2, .int p3, .int p4, .int p5] : List Value).toArray s 0 0 (zA 73 ad)) (F0 m 3 ls []) := by
    intro N3
    induction N3 with
    | zero =>
      intro H locs ce x1 x2 x3 x4 x5 x6 hP hS hO q_x6 hm ls hl
      exfalso; omega
    | succ N3 ih3 =>
      intro H locs ce x1 x2 x3 x4 x5 x6 hP hS hO q_x6 hm ls hl
      refine lv_iload hx hb dX1_putDown_3 (lv_at hl 6 rfl) ?_
      refine lv_aload_n hx hb dX1_putDown_5 rfl (lv_at hl 0 rfl) ?_
      obtain ⟨v6, e6⟩ := gg_Bo hO
      refine va_get (ci := 1) (C := RX1) (T := TX1) (N := 2) (v := .ref (ad 9)) hx hb hts inX1 hown hK hP 5 (zw_at (by decide) e6) rfl 0 (by decide) fl11 (fun _ h => h) rfl dX1_putDown_6 ?_
      obtain ⟨f9, e9, h9⟩ := gg_BoA hO
      refine va_alen hx hb hK hP 9 2 (zw_at (by decide) e9) rfl (v := nI 8) rfl dX1_putDown_9 ?_
      refine lv_topi (fun v9 h9a => ?_)
      have h9a : v9.toInt = 8 := by rw [h9a]; rfl
      refine z_icmp_ge (tgt := 63) hx hb dX1_putDown_10 (by decide) (fun c10 => ?_) (fun c10 => ?_)
      · skip
        refine z_bi hx hb dX1_putDown_63 (by decide) (fun v63 h63 => ?_)
        exact z_reti hx hb hr hlocks hP hS dX1_putDown_65 ⟨hO, trivial⟩
      · skip
        refine lv_aload_n hx hb dX1_putDown_13 rfl (lv_at hl 0 rfl) ?_
        refine va_get (ci := 1) (C := RX1) (T := TX1) (N := 2) (v := .ref (ad 9)) hx hb hts inX1 hown hK hP 5 (zw_at (by decide) e6) rfl 0 (by decide) fl11 (fun _ h => h) rfl dX1_putDown_14 ?_
        refine lv_iload hx hb dX1_putDown_17 (lv_at hl 6 rfl) ?_
        refine z_ald (g := fun j0 => 12 + (12 + j0)) hx hb hK hP (q0 := 9) 2 (by decide) e9 rfl (by omega) h9 dX1_putDown_19 (fun j19 h19 => ?_)
        obtain ⟨v20, v20a, v20b, v20c, v20d, v20e, e20⟩ := gg_Ar hO (j := (12 + j19)) (by omega)
        refine va_get (ci := 0) (C := RX0) (T := TX0) (N := 6) (v := .int v20e) hx hb hts inX0 hown hK hP (12 + (12 + j19)) (zw_at (by omega) e20) rfl 5 (by decide) fl26 (fun _ h => h) rfl dX1_putDown_20 ?_
        refine z_if_ne (tgt := 57) hx hb dX1_putDown_23 (by decide) (fun c23 => ?_) (fun c23 => ?_)
        · skip
          refine z_iinc (lv' := fun w0 => [(6, .int w0), (0, .ref (ad 5)), (1, .int x1), (2, .int x2), (3, .int x3), (4, .int x4), (5, .int x5)]) hx hb dX1_putDown_57 hl (k := 6) rfl (by decide) (fun _ => rfl) (by decide) (by omega) (fun v57 ls h57 hl => ?_)
          refine lv_goto (tgt := 3) hx hb dX1_putDown_60 (by decide) ?_
          exact ih3 _ _ _ x1 x2 x3 x4 x5 v57 hP hS hO (by omega) (by omega) _ (lv_sub hl [1, 2, 3, 4, 5, 6, 0] rfl)
        · skip
          refine lv_aload_n hx hb dX1_putDown_26 rfl (lv_at hl 0 rfl) ?_
          refine va_get (ci := 1) (C := RX1) (T := TX1) (N := 2) (v := .ref (ad 9)) hx hb hts inX1 hown hK hP 5 (zw_at (by decide) e6) rfl 0 (by decide) fl11 (fun _ h => h) rfl dX1_putDown_27 ?_
          refine lv_iload hx hb dX1_putDown_30 (lv_at hl 6 rfl) ?_
          refine z_ald (g := fun j0 => 12 + (12 + j0)) hx hb hK hP (q0 := 9) 2 (by decide) e9 rfl (by omega) h9 dX1_putDown_32 (fun j32 h32 => ?_)
          refine lv_iload_n hx hb dX1_putDown_33 rfl (lv_at hl 1 rfl) ?_
          refine lv_iload_n hx hb dX1_putDown_34 rfl (lv_at hl 2 rfl) ?_
          refine lv_iload_n hx hb dX1_putDown_35 rfl (lv_at hl 3 rfl) ?_
          refine lv_iload hx hb dX1_putDown_36 (lv_at hl 4 rfl) ?_
          refine lv_iload hx hb dX1_putDown_38 (lv_at hl 5 rfl) ?_
          obtain ⟨v40, v40a, v40b, v40c, v40d, v40e, e40⟩ := gg_Ar hO (j := (12 + j32)) (by omega)
          refine z_cv (z_rV (q0 := (12 + (12 + j32))) (As := [.int x1, .int x2, .int x3, .int x4, .int x5]) (rest := []) ⟨hx, hb, hml, hown, hts⟩ (c_X0_lay l D cy ad cnt B hJ (12 + j32) x1 x2 x3 x4 x5 (by omega)) (cwV 5 hts (g_V mw_30 mw_31 mw_32 mw_33 mw_34) rfl rfl rfl (by decide +kernel) ⟨Nat.le_of_ble_eq_true rfl, Nat.le_of_ble_eq_true rfl⟩) hK hN hO hP (by omega) e40 rfl rfl hl.1 rfl (Nat.le_of_ble_eq_true rfl) dX1_putDown_40 ⟨Nat.zero_le _, Nat.zero_le _⟩) hS (fun ce H locs h40 hP hS => ?_)
          obtain ⟨hO, h40a⟩ := h40
          refine lv_aload_n hx hb dX1_putDown_43 rfl (lv_at hl 0 rfl) ?_
          obtain ⟨v44, e44⟩ := gg_Bo hO
          refine va_get (ci := 1) (C := RX1) (T := TX1) (N := 2) (v := .ref (ad 9)) hx hb hts inX1 hown hK hP 5 (zw_at (by decide) e44) rfl 0 (by decide) fl11 (fun _ h => h) rfl dX1_putDown_44 ?_
          refine lv_iload hx hb dX1_putDown_47 (lv_at hl 6 rfl) ?_
          obtain ⟨f49, e49, h49⟩ := gg_BoA hO
          refine z_ald (g := fun j0 => 12 + (12 + j0)) hx hb hK hP (q0 := 9) 2 (by decide) e49 rfl (by omega) h49 dX1_putDown_49 (fun j49 h49a => ?_)
          refine z_ic hx hb dX1_putDown_50 (by decide) (fun v50 h50 => ?_)
          obtain ⟨v51, v51a, v51b, v51c, v51d, v51e, e51⟩ := gg_Ar hO (j := (12 + j49)) (by omega)
          refine z_put (q0 := (12 + (12 + j49))) (ci := 0) (C := RX0) (T := TX0) (N := 6) hx hb hts inX0 tyX0 tyX0_ok nmX0 hown hK hJ hP hS (by omega) e51 rfl 5 (by decide) fl26 (fun _ h => h) rfl (ty := .boolean) (by decide +kernel) (z_nb (by omega)) (z_fb (by omega)) (Nat.le_of_ble_eq_true rfl) (fs1 := [.int v51, .int v51a, .int v51b, .int v51c, .int v51d, .int v50]) rfl dX1_putDown_51 (fun ce H locs e51a h51 hP hS => ?_)
          have hO := z_up (OKK := gK cy ad cnt B) (12 + (12 + j49)) hO h51 (by rw [e51a]; exact gE_Ar (by omega) |>.mpr ⟨v51, v51a, v51b, v51c, v51d, v50, rfl⟩)
          have e51b := (h51 5 (by omega)).trans e44
          have e51c := (h51 9 (by omega)).trans e49
          refine lv_iload hx hb dX1_putDown_54 (lv_at hl 6 rfl) ?_
          exact z_reti hx hb hr hlocks hP hS dX1_putDown_56 ⟨hO, trivial⟩
  intro ls hl
  have hl : lv_has ls 7 [(0, .ref (ad 5)), (1, .int p1), (2, .int p2), (3, .int p3), (4, .int p4), (5, .int p5)] := hl
  refine z_ic hx hb dX1_putDown_0 (by decide) (fun v0 h0 => ?_)
  refine lv_istore (lv' := [(6, .int v0), (0, .ref (ad 5)), (1, .int p1), (2, .int p2), (3, .int p3), (4, .int p4), (5, .int p5)]) hx hb dX1_putDown_1 hl (by decide) rfl (fun ls hl => ?_)
  exact L3 10 _ _ _ p1 p2 p3 p4 p5 v0 hP hS hO (by omega) (by omega) _ (lv_sub hl [1, 2, 3, 4, 5, 6, 0] rfl)
