set_option maxHeartbeats 8000000 in
set_option maxRecDepth 100000 in
theorem c_X2_avoidNothing (l : Launch) (D : va_G) (cy : Nat → ClassId) (ad : Nat → Nat) (cnt : Nat → Nat) (B : Nat) (hJ : zJ 73 ad) : zM l D (gT cy) 73 ad (gOK cy ad cnt B) yX2_avoidNothing vsX2_avoidNothing { frames := 0, cells := 0, slots := 0, locals := 0 } ([.ref (ad 2)] : List Value) (zQv D 73 ad (fun ce => gOK cy ad cnt B ce ∧ (True))) := by
  refine z_of (cc := cX2_avoidNothing) (maxL := 1) (ret := none) (by decide) rfl (Nat.le_of_ble_eq_true rfl) ?_
  intro p e s m below meth c hx hb hr hts hown hlocks hml hK hN ce hOK hP
  have hown : s.vm.findClass RX2 = some m.cls := hown
  have hS : va_S (zA 73 ad) s.heap s.heap [] := va_S.rf
  have hO := hOK
  have inX2 : ∀ w ∈ u_ws RX2 TX2 9, w ∈ vsX2_avoidNothing := fun w h => List.mem_cons_of_mem _ (inlX2 w h)
  have fl32 := hts (.fieldLink RX2 32 "GroundKeeper$Finder" "avoidedSize" "I") (List.mem_cons_of_mem _ mw_123)
  intro ls hl
  have hl : lv_has ls 1 [(0, .ref (ad 2))] := hl
  refine lv_aload_n hx hb dX2_avoidNothing_0 rfl (lv_at hl 0 rfl) ?_
  refine z_ic hx hb dX2_avoidNothing_1 (by decide) (fun v1 h1 => ?_)
  obtain ⟨v2, v2a, v2b, e2, h2, h2a, h2b, h2c, h2d, h2e⟩ := gg_Fi hO
  refine z_put (q0 := 2) (ci := 2) (C := RX2) (T := TX2) (N := 9) hx hb hts inX2 tyX2 tyX2_ok nmX2 hown hK hJ hP hS (by decide) e2 rfl 8 (by decide) fl32 (fun _ h => h) rfl (ty := .int) (by decide +kernel) rfl rfl (Nat.le_of_ble_eq_true rfl) (fs1 := [.ref (ad 1), .ref (ad 47), .ref (ad 48), .ref (ad 49), .ref (ad 50), .int v2, .int v2a, .ref (ad 51), .int v1]) rfl dX2_avoidNothing_2 (fun ce H locs e2a h2f hP hS => ?_)
  have hO := z_up (OKK := gK cy ad cnt B) 2 hO h2f (by rw [e2a]; exact gE_Fi |>.mpr ⟨v2, v2a, v1, rfl, h2, h2a, h2b, h2c, by omega, by omega⟩)
  exact z_retv hx hb hr hlocks hP hS dX2_avoidNothing_5 ⟨hO, trivial⟩
set_option maxHeartbeats 8000000 in
set_option maxRecDepth 100000 in
theorem c_X2_avoid (l : Launch) (D : va_G) (cy : Nat → ClassId) (ad : Nat → Nat) (cnt : Nat → Nat) (B : Nat) (hJ : zJ 73 ad) (p1 : Int32) : zM l D (gT cy) 73 ad (gOK cy ad cnt B) yX2_avoid vsX2_avoid { frames := 0, cells := 0, slots := 0, locals := 0 } ([.ref (ad 2), .int p1] : List Value) (zQv D 73 ad (fun ce => gOK cy ad cnt B ce ∧ (True))) := by
  refine z_of (cc := cX2_avoid) (maxL := 2) (ret := none) (by decide) rfl (Nat.le_of_ble_eq_true rfl) ?_
  intro p e s m below meth c hx hb hr hts hown hlocks hml hK hN ce hOK hP
  have hown : s.vm.findClass RX2 = some m.cls := hown
  have hS : va_S (zA 73 ad) s.heap s.heap [] := va_S.rf
  have hO := hOK
  have inX2 : ∀ w ∈ u_ws RX2 TX2 9, w ∈ vsX2_avoid := fun w h => List.mem_cons_of_mem _ (inlX2 w h)
  have fl29 := hts (.fieldLink RX2 29 "GroundKeeper$Finder" "avoided" "[I") (List.mem_cons_of_mem _ mw_124)
  have fl32 := hts (.fieldLink RX2 32 "GroundKeeper$Finder" "avoidedSize" "I") (List.mem_cons_of_mem _ mw_123)
  intro ls hl
  have hl : lv_has ls 2 [(0, .ref (ad 2)), (1, .int p1)] := hl
  refine lv_aload_n hx hb dX2_avoid_0 rfl (lv_at hl 0 rfl) ?_
  obtain ⟨v1, v1a, v1b, e1, h1, h1a, h1b, h1c, h1d, h1e⟩ := gg_Fi hO
  refine va_get (ci := 2) (C := RX2) (T := TX2) (N := 9) (v := .int v1b) hx hb hts inX2 hown hK hP 2 (zw_at (by decide) e1) rfl 8 (by decide) fl32 (fun _ h => h) rfl dX2_avoid_1 ?_
  refine z_bi hx hb dX2_avoid_4 (by decide) (fun v4 h4 => ?_)
  refine z_icmp_ge (tgt := 29) hx hb dX2_avoid_6 (by decide) (fun c6 => ?_) (fun c6 => ?_)
  · skip
    exact z_retv hx hb hr hlocks hP hS dX2_avoid_29 ⟨hO, trivial⟩
  · skip
    refine lv_aload_n hx hb dX2_avoid_9 rfl (lv_at hl 0 rfl) ?_
    refine va_get (ci := 2) (C := RX2) (T := TX2) (N := 9) (v := .ref (ad 51)) hx hb hts inX2 hown hK hP 2 (zw_at (by decide) e1) rfl 7 (by decide) fl29 (fun _ h => h) rfl dX2_avoid_10 ?_
    refine lv_aload_n hx hb dX2_avoid_13 rfl (lv_at hl 0 rfl) ?_
    refine va_get (ci := 2) (C := RX2) (T := TX2) (N := 9) (v := .int v1b) hx hb hts inX2 hown hK hP 2 (zw_at (by decide) e1) rfl 8 (by decide) fl32 (fun _ h => h) rfl dX2_avoid_14 ?_
    refine lv_iload_n hx hb dX2_avoid_17 rfl (lv_at hl 1 rfl) ?_
    obtain ⟨f18, e18⟩ := gg_Av hO
    refine z_iast hx hb hK hJ hP hS (q0 := 51) 0 (by decide) e18 rfl (z_in (by omega) (by omega)) dX2_avoid_18 (fun ce H locs e18a h18a hP hS => ?_)
    have hO := z_up (OKK := gK cy ad cnt B) 51 hO h18a (by rw [e18a]; exact gE_Av |>.mpr ⟨_, rfl⟩)
    have e18b := (h18a 2 (by omega)).trans e1
    refine lv_aload_n hx hb dX2_avoid_19 rfl (lv_at hl 0 rfl) ?_
    refine lv_dup hx hb dX2_avoid_20 rfl ?_
    refine va_get (ci := 2) (C := RX2) (T := TX2) (N := 9) (v := .int v1b) hx hb hts inX2 hown hK hP 2 (zw_at (by decide) e18b) rfl 8 (by decide) fl32 (fun _ h => h) rfl dX2_avoid_21 ?_
    refine z_ic hx hb dX2_avoid_24 (by decide) (fun v24 h24 => ?_)
    refine z_addE hx hb dX2_avoid_25 (by omega) (fun v25 h25 => ?_)
    refine z_put (q0 := 2) (ci := 2) (C := RX2) (T := TX2) (N := 9) hx hb hts inX2 tyX2 tyX2_ok nmX2 hown hK hJ hP hS (by decide) e18b rfl 8 (by decide) fl32 (fun _ h => h) rfl (ty := .int) (by decide +kernel) rfl rfl (Nat.le_of_ble_eq_true rfl) (fs1 := [.ref (ad 1), .ref (ad 47), .ref (ad 48), .ref (ad 49), .ref (ad 50), .int v1, .int v1a, .ref (ad 51), .int v25]) rfl dX2_avoid_26 (fun ce H locs e26 h26 hP hS => ?_)
    have hO := z_up (OKK := gK cy ad cnt B) 2 hO h26 (by rw [e26]; exact gE_Fi |>.mpr ⟨v1, v1a, v25, rfl, h1, h1a, h1b, h1c, by omega, by omega⟩)
    exact z_retv hx hb hr hlocks hP hS dX2_avoid_29 ⟨hO, trivial⟩
set_option maxHeartbeats 8000000 in
set_option maxRecDepth 100000 in
theorem c_X2_foundLength (l : Launch) (D : va_G) (cy : Nat → ClassId) (ad : Nat → Nat) (cnt : Nat → Nat) (B : Nat) (PP : (Nat → va_E) → Prop) (hJ : zJ 73 ad) : zM l D (gT cy) 73 ad (fun c1 => gOK cy ad cnt B c1 ∧ PP c1) yX2_foundLength vsX2_foundLength { frames := 0, cells := 0, slots := 0, locals := 0 } ([.ref (ad 2)] : List Value) (zQi D 73 ad (fun r ce => (gOK cy ad cnt B ce ∧ PP ce) ∧ (True))) := by
  refine z_of (cc := cX2_foundLength) (maxL := 1) (ret := (some .int)) (by decide) rfl (Nat.le_of_ble_eq_true rfl) ?_
  intro p e s m below meth c hx hb hr hts hown hlocks hml hK hN ce hOK hP
  have hown : s.vm.findClass RX2 = some m.cls := hown
  have hS : va_S (zA 73 ad) s.heap s.heap [] := va_S.rf
  obtain ⟨hO, hPP⟩ := hOK
  have inX2 : ∀ w ∈ u_ws RX2 TX2 9, w ∈ vsX2_foundLength := fun w h => List.mem_cons_of_mem _ (inlX2 w h)
  have fl19 := hts (.fieldLink RX2 19 "GroundKeeper$Finder" "lengths" "[I") (List.mem_cons_of_mem _ mw_125)
  intro ls hl
  have hl : lv_has ls 1 [(0, .ref (ad 2))] := hl
  refine lv_aload_n hx hb dX2_foundLength_0 rfl (lv_at hl 0 rfl) ?_
  obtain ⟨v1, v1a, v1b, e1, h1, h1a, h1b, h1c, h1d, h1e⟩ := gg_Fi hO
  refine va_get (ci := 2) (C := RX2) (T := TX2) (N := 9) (v := .ref (ad 48)) hx hb hts inX2 hown hK hP 2 (zw_at (by decide) e1) rfl 2 (by decide) fl19 (fun _ h => h) rfl dX2_foundLength_1 ?_
  refine z_ic hx hb dX2_foundLength_4 (by decide) (fun v4 h4 => ?_)
  obtain ⟨f5, e5⟩ := gg_Ln hO
  refine z_iald hx hb hK hP (q0 := 48) 0 (by decide) e5 rfl (by omega) dX2_foundLength_5 (fun v5 h5a => ?_)
  exact z_reti hx hb hr hlocks hP hS dX2_foundLength_6 ⟨⟨hO, hPP⟩, trivial⟩
set_option maxHeartbeats 8000000 in
set_option maxRecDepth 100000 in
theorem c_X2_countRoomCorners (l : Launch) (D : va_G) (cy : Nat → ClassId) (ad : Nat → Nat) (cnt : Nat → Nat) (B : Nat) (PP : (Nat → va_E) → Prop) (hJ : zJ 73 ad) : zM l D (gT cy) 73 ad (fun c1 => gOK cy ad cnt B c1 ∧ PP c1) yX2_countRoomCorners vsX2_countRoomCorners { frames := 0, cells := 0, slots := 0, locals := 0 } ([.ref (ad 2)] : List Value) (zQi D 73 ad (fun r ce => (gOK cy ad cnt B ce ∧ PP ce) ∧ (True))) := by
  refine z_of (cc := cX2_countRoomCorners) (maxL := 3) (ret := (some .int)) (by decide) rfl (Nat.le_of_ble_eq_true rfl) ?_
  intro p e s m below meth c hx hb hr hts hown hlocks hml hK hN ce hOK hP
  have hown : s.vm.findClass RX2 = some m.cls := hown
  have hS : va_S (zA 73 ad) s.heap s.heap [] := va_S.rf
  obtain ⟨hO, hPP⟩ := hOK
  have inX2 : ∀ w ∈ u_ws RX2 TX2 9, w ∈ vsX2_countRoomCorners := fun w h => List.mem_cons_of_mem _ (inlX2 w h)
  have fl19 := hts (.fieldLink RX2 19 "GroundKeeper$Finder" "lengths" "[I") (List.mem_cons_of_mem _ mw_125)
  have fl51 := hts (.fieldLink RX2 51 "GroundKeeper$Finder" "roomCornersEnd" "I") (List.mem_cons_of_mem _ mw_126)
  have L4 : ∀ N4 : Nat, ∀ (H : Heap) (locs : List Loc) (x1 : Int32) (x2 : Int32), va_P D vwCl (zw 73 ad ce) H → va_S (zA 73 ad) s.heap H locs → (2 ≤ x2.toInt ∧ x2.toInt ≤ 94) → (95 - x2.toInt ≤ (N4 : Int)) → ∀ ls : Array Slot, lv_has ls 3 [(0, .ref (ad 2)), (1, .int x1), (2, .int x2)] → W p l e { frames := 0, cells := 0, slots := 0, locals := 0 } s m ([.ref (ad 2)] : List Value).toArray below meth c H locs 0 0 (MQ below (zQi D 73 ad (fun r ce => (gOK cy ad cnt B ce ∧ PP ce) ∧ (True))) ([.ref (ad 2)] : List Value).toArray s 0 0 (zA 73 ad)) (F0 m 4 ls []) := by
    intro N4
    induction N4 with
    | zero =>
      intro H locs x1 x2 hP hS q_x2 hm ls hl
      exfalso; omega
    | succ N4 ih4 =>
      have J25 : ∀ (H : Heap) (locs : List Loc) (x1 : Int32) (x2 : Int32), va_P D vwCl (zw 73 ad ce) H → va_S (zA 73 ad) s.heap H locs → (2 ≤ x2.toInt ∧ x2.toInt ≤ 93) → (95 - x2.toInt ≤ (N4 : Int) + 1) → ∀ ls : Array Slot, lv_has ls 3 [(0, .ref (ad 2)), (1, .int x1), (2, .int x2)] → W p l e { frames := 0, cells := 0, slots := 0, locals := 0 } s m ([.ref (ad 2)] : List Value).toArray below meth c H locs 0 0 (MQ below (zQi D 73 ad (fun r ce => (gOK cy ad cnt B ce ∧ PP ce) ∧ (True))) ([.ref (ad 2)] : List Value).toArray s 0 0 (zA 73 ad)) (F0 m 25 ls []) := by
        intro H locs x1 x2 hP hS q_x2 qm4 ls hl
        refine z_iinc (lv' := fun w0 => [(2, .int w0), (0, .ref (ad 2)), (1, .int x1)]) hx hb dX2_countRoomCorners_25 hl (k := 2) rfl (by decide) (fun _ => rfl) (by decide) (by omega) (fun v25 ls h25 hl => ?_)
        refine lv_goto (tgt := 4) hx hb dX2_countRoomCorners_28 (by decide) ?_
        exact ih4 _ _ x1 v25 hP hS (by omega) (by omega) _ (lv_sub hl [1, 2, 0] rfl)
      intro H locs x1 x2 hP hS q_x2 hm ls hl
      refine lv_iload_n hx hb dX2_countRoomCorners_4 rfl (lv_at hl 2 rfl) ?_
      refine lv_aload_n hx hb dX2_countRoomCorners_5 rfl (lv_at hl 0 rfl) ?_
      obtain ⟨v6, v6a, v6b, e6, h6, h6a, h6b, h6c, h6d, h6e⟩ := gg_Fi hO
      refine va_get (ci := 2) (C := RX2) (T := TX2) (N := 9) (v := .int v6a) hx hb hts inX2 hown hK hP 2 (zw_at (by decide) e6) rfl 6 (by decide) fl51 (fun _ h => h) rfl dX2_countRoomCorners_6 ?_
      refine z_icmp_ge (tgt := 31) hx hb dX2_countRoomCorners_9 (by decide) (fun c9 => ?_) (fun c9 => ?_)
      · skip
        refine lv_iload_n hx hb dX2_countRoomCorners_31 rfl (lv_at hl 1 rfl) ?_
        exact z_reti hx hb hr hlocks hP hS dX2_countRoomCorners_32 ⟨⟨hO, hPP⟩, trivial⟩
      · skip
        refine lv_aload_n hx hb dX2_countRoomCorners_12 rfl (lv_at hl 0 rfl) ?_
        refine va_get (ci := 2) (C := RX2) (T := TX2) (N := 9) (v := .ref (ad 48)) hx hb hts inX2 hown hK hP 2 (zw_at (by decide) e6) rfl 2 (by decide) fl19 (fun _ h => h) rfl dX2_countRoomCorners_13 ?_
        refine lv_iload_n hx hb dX2_countRoomCorners_16 rfl (lv_at hl 2 rfl) ?_
        obtain ⟨f17, e17⟩ := gg_Ln hO
        refine z_iald hx hb hK hP (q0 := 48) 0 (by decide) e17 rfl (by omega) dX2_countRoomCorners_17 (fun v17 h17a => ?_)
        refine z_ic hx hb dX2_countRoomCorners_18 (by decide) (fun v18 h18 => ?_)
        refine z_icmp_eq (tgt := 25) hx hb dX2_countRoomCorners_19 (by decide) (fun c19 => ?_) (fun c19 => ?_)
        · skip
          exact J25 _ _ x1 x2 hP hS (by omega) (by omega) _ (lv_sub hl [0, 1, 2] rfl)
        · skip
          obtain ⟨v22, v22_e⟩ : ∃ y : Int32, y = x1 + Int32.ofInt (1) := ⟨_, rfl⟩
          refine lv_iinc (v := v22) (lv' := [(1, .int v22), (0, .ref (ad 2)), (2, .int x2)]) hx hb dX2_countRoomCorners_22 hl (k := 1) rfl v22_e.symm (by decide) rfl (fun ls hl => ?_)
          exact J25 _ _ v22 x2 hP hS (by omega) (by omega) _ (lv_sub hl [1, 0, 2] rfl)
  intro ls hl
  have hl : lv_has ls 3 [(0, .ref (ad 2))] := hl
  refine z_ic hx hb dX2_countRoomCorners_0 (by decide) (fun v0 h0 => ?_)
  refine lv_istore_n (lv' := [(1, .int v0), (0, .ref (ad 2))]) hx hb dX2_countRoomCorners_1 rfl hl (by decide) rfl (fun ls hl => ?_)
  refine z_ic hx hb dX2_countRoomCorners_2 (by decide) (fun v2 h2 => ?_)
  refine lv_istore_n (lv' := [(2, .int v2), (1, .int v0), (0, .ref (ad 2))]) hx hb dX2_countRoomCorners_3 rfl hl (by decide) rfl (fun ls hl => ?_)
  exact L4 94 _ _ v0 v2 hP hS (by omega) (by omega) _ (lv_sub hl [2, 1, 0] rfl)
set_option maxHeartbeats 8000000 in
set_option maxRecDepth 100000 in
theorem c_X2_nearest (l : Launch) (D : va_G) (cy : Nat → ClassId) (ad : Nat → Nat) (cnt : Nat → Nat) (B : Nat) (PP : (Nat → va_E) → Prop) (hJ : zJ 73 ad) : zM l D (gT cy) 73 ad (fun c1 => gOK cy ad cnt B c1 ∧ PP c1) yX2_nearest vsX2_nearest { frames := 0, cells := 0, slots := 0, locals := 0 } ([.ref (ad 2)] : List Value) (zQi D 73 ad (fun r ce => (gOK cy ad cnt B ce ∧ PP ce) ∧ (-1 ≤ r.toInt ∧ r.toInt ≤ 93))) := by
  refine z_of (cc := cX2_nearest) (maxL := 4) (ret := (some .int)) (by decide) rfl (Nat.le_of_ble_eq_true rfl) ?_
  intro p e s m below meth c hx hb hr hts hown hlocks hml hK hN ce hOK hP
  have hown : s.vm.findClass RX2 = some m.cls := hown
  have hS : va_S (zA 73 ad) s.heap s.heap [] := va_S.rf
  obtain ⟨hO, hPP⟩ := hOK
  have inX2 : ∀ w ∈ u_ws RX2 TX2 9, w ∈ vsX2_nearest := fun w h => List.mem_cons_of_mem _ (inlX2 w h)
  have fl19 := hts (.fieldLink RX2 19 "GroundKeeper$Finder" "lengths" "[I") (List.mem_cons_of_mem _ mw_125)
  have fl25 := hts (.fieldLink RX2 25 "GroundKeeper$Finder" "settled" "[Z") (List.mem_cons_of_mem _ mw_127)
  have fl40 := hts (.fieldLink RX2 40 "GroundKeeper$Finder" "size" "I") (List.mem_cons_of_mem _ mw_128)
  have L4 : ∀ N4 : Nat, ∀ (H : Heap) (locs : List Loc) (x1 : Int32) (x2 : Int32), va_P D vwCl (zw 73 ad ce) H → va_S (zA 73 ad) s.heap H locs → (-1 ≤ x1.toInt ∧ x1.toInt ≤ 93) → (0 ≤ x2.toInt ∧ x2.toInt ≤ 94) → (95 - x2.toInt ≤ (N4 : Int)) → ∀ ls : Array Slot, lv_has ls 4 [(0, .ref (ad 2)), (1, .int x1), (2, .int x2)] → W p l e { frames := 0, cells := 0, slots := 0, locals := 0 } s m ([.ref (ad 2)] : List Value).toArray below meth c H locs 0 0 (MQ below (zQi D 73 ad (fun r ce => (gOK cy ad cnt B ce ∧ PP ce) ∧ (-1 ≤ r.toInt ∧ r.toInt ≤ 93))) ([.ref (ad 2)] : List Value).toArray s 0 0 (zA 73 ad)) (F0 m 4 ls []) := by
    intro N4
    induction N4 with
    | zero =>
      intro H locs x1 x2 hP hS q_x1 q_x2 hm ls hl
      exfalso; omega
    | succ N4 ih4 =>
      have J63 : ∀ (H : Heap) (locs : List Loc) (x1 : Int32) (x2 : Int32), va_P D vwCl (zw 73 ad ce) H → va_S (zA 73 ad) s.heap H locs → (-1 ≤ x1.toInt ∧ x1.toInt ≤ 93) → (0 ≤ x2.toInt ∧ x2.toInt ≤ 93) → (95 - x2.toInt ≤ (N4 : Int) + 1) → ∀ ls : Array Slot, lv_has ls 4 [(0, .ref (ad 2)), (1, .int x1), (2, .int x2)] → W p l e { frames := 0, cells := 0, slots := 0, locals := 0 } s m ([.ref (ad 2)] : List Value).toArray below meth c H locs 0 0 (MQ below (zQi D 73 ad (fun r ce => (gOK cy ad cnt B ce ∧ PP ce) ∧ (-1 ≤ r.toInt ∧ r.toInt ≤ 93))) ([.ref (ad 2)] : List Value).toArray s 0 0 (zA 73 ad)) (F0 m 63 ls []) := by
        intro H locs x1 x2 hP hS q_x1 q_x2 qm4 ls hl
        refine z_iinc (lv' := fun w0 => [(2, .int w0), (0, .ref (ad 2)), (1, .int x1)]) hx hb dX2_nearest_63 hl (k := 2) rfl (by decide) (fun _ => rfl) (by decide) (by omega) (fun v63 ls h63 hl => ?_)
        refine lv_goto (tgt := 4) hx hb dX2_nearest_66 (by decide) ?_
        exact ih4 _ _ x1 v63 hP hS (by omega) (by omega) (by omega) _ (lv_sub hl [1, 2, 0] rfl)
      have J61 : ∀ (H : Heap) (locs : List Loc) (x2 : Int32), va_P D vwCl (zw 73 ad ce) H → va_S (zA 73 ad) s.heap H locs → (0 ≤ x2.toInt ∧ x2.toInt ≤ 93) → (95 - x2.toInt ≤ (N4 : Int) + 1) → ∀ ls : Array Slot, lv_has ls 4 [(0, .ref (ad 2)), (2, .int x2)] → W p l e { frames := 0, cells := 0, slots := 0, locals := 0 } s m ([.ref (ad 2)] : List Value).toArray below meth c H locs 0 0 (MQ below (zQi D 73 ad (fun r ce => (gOK cy ad cnt B ce ∧ PP ce) ∧ (-1 ≤ r.toInt ∧ r.toInt ≤ 93))) ([.ref (ad 2)] : List Value).toArray s 0 0 (zA 73 ad)) (F0 m 61 ls []) := by
        intro H locs x2 hP hS q_x2 qm4 ls hl
        refine lv_iload_n hx hb dX2_nearest_61 rfl (lv_at hl 1 rfl) ?_
        refine lv_istore_n (lv' := [(1, .int x2), (0, .ref (ad 2)), (2, .int x2)]) hx hb dX2_nearest_62 rfl hl (by decide) rfl (fun ls hl => ?_)
        exact J63 _ _ x2 x2 hP hS (by omega) (by omega) (by omega) _ (lv_sub hl [1, 0, 2] rfl)
      have J36 : ∀ (H : Heap) (locs : List Loc) (x1 : Int32) (x2 : Int32) (s0 : Int32), va_P D vwCl (zw 73 ad ce) H → va_S (zA 73 ad) s.heap H locs → (-1 ≤ x1.toInt ∧ x1.toInt ≤ 93) → (0 ≤ x2.toInt ∧ x2.toInt ≤ 93) → (0 ≤ s0.toInt ∧ s0.toInt ≤ 1) → (95 - x2.toInt ≤ (N4 : Int) + 1) → ∀ ls : Array Slot, lv_has ls 4 [(0, .ref (ad 2)), (1, .int x1), (2, .int x2)] → W p l e { frames := 0, cells := 0, slots := 0, locals := 0 } s m ([.ref (ad 2)] : List Value).toArray below meth c H locs 0 0 (MQ below (zQi D 73 ad (fun r ce => (gOK cy ad cnt B ce ∧ PP ce) ∧ (-1 ≤ r.toInt ∧ r.toInt ≤ 93))) ([.ref (ad 2)] : List Value).toArray s 0 0 (zA 73 ad)) (F0 m 36 ls [.int s0]) := by
        intro H locs x1 x2 s0 hP hS q_x1 q_x2 q_s0 qm4 ls hl
        refine lv_istore_n (lv' := [(3, .int s0), (0, .ref (ad 2)), (1, .int x1), (2, .int x2)]) hx hb dX2_nearest_36 rfl hl (by decide) rfl (fun ls hl => ?_)
        refine lv_iload_n hx hb dX2_nearest_37 rfl (lv_at hl 0 rfl) ?_
        refine z_if_eq (tgt := 63) hx hb dX2_nearest_38 (by decide) (fun c38 => ?_) (fun c38 => ?_)
        · skip
          exact J63 _ _ x1 x2 hP hS (by omega) (by omega) (by omega) _ (lv_sub hl [1, 2, 3] rfl)
        · skip
          refine lv_iload_n hx hb dX2_nearest_41 rfl (lv_at hl 2 rfl) ?_
          refine z_ic hx hb dX2_nearest_42 (by decide) (fun v42 h42 => ?_)
          refine z_icmp_eq (tgt := 61) hx hb dX2_nearest_43 (by decide) (fun c43 => ?_) (fun c43 => ?_)
          · skip
            exact J61 _ _ x2 hP hS (by omega) (by omega) _ (lv_sub hl [1, 3] rfl)
          · skip
            refine lv_aload_n hx hb dX2_nearest_46 rfl (lv_at hl 1 rfl) ?_
            obtain ⟨v47, v47a, v47b, e47, h47, h47a, h47b, h47c, h47d, h47e⟩ := gg_Fi hO
            refine va_get (ci := 2) (C := RX2) (T := TX2) (N := 9) (v := .ref (ad 48)) hx hb hts inX2 hown hK hP 2 (zw_at (by decide) e47) rfl 2 (by decide) fl19 (fun _ h => h) rfl dX2_nearest_47 ?_
            refine lv_iload_n hx hb dX2_nearest_50 rfl (lv_at hl 3 rfl) ?_
            obtain ⟨f51, e51⟩ := gg_Ln hO
            refine z_iald hx hb hK hP (q0 := 48) 0 (by decide) e51 rfl (by omega) dX2_nearest_51 (fun v51 h51a => ?_)
            refine lv_aload_n hx hb dX2_nearest_52 rfl (lv_at hl 1 rfl) ?_
            refine va_get (ci := 2) (C := RX2) (T := TX2) (N := 9) (v := .ref (ad 48)) hx hb hts inX2 hown hK hP 2 (zw_at (by decide) e47) rfl 2 (by decide) fl19 (fun _ h => h) rfl dX2_nearest_53 ?_
            refine lv_iload_n hx hb dX2_nearest_56 rfl (lv_at hl 2 rfl) ?_
            refine z_iald hx hb hK hP (q0 := 48) 0 (by decide) e51 rfl (by omega) dX2_nearest_57 (fun v57 h57 => ?_)
            refine z_icmp_ge (tgt := 63) hx hb dX2_nearest_58 (by decide) (fun c58 => ?_) (fun c58 => ?_)
            · skip
              exact J63 _ _ x1 x2 hP hS (by omega) (by omega) (by omega) _ (lv_sub hl [1, 2, 3] rfl)
            · skip
              exact J61 _ _ x2 hP hS (by omega) (by omega) _ (lv_sub hl [1, 3] rfl)
      have J35 : ∀ (H : Heap) (locs : List Loc) (x1 : Int32) (x2 : Int32), va_P D vwCl (zw 73 ad ce) H → va_S (zA 73 ad) s.heap H locs → (-1 ≤ x1.toInt ∧ x1.toInt ≤ 93) → (0 ≤ x2.toInt ∧ x2.toInt ≤ 93) → (95 - x2.toInt ≤ (N4 : Int) + 1) → ∀ ls : Array Slot, lv_has ls 4 [(0, .ref (ad 2)), (1, .int x1), (2, .int x2)] → W p l e { frames := 0, cells := 0, slots := 0, locals := 0 } s m ([.ref (ad 2)] : List Value).toArray below meth c H locs 0 0 (MQ below (zQi D 73 ad (fun r ce => (gOK cy ad cnt B ce ∧ PP ce) ∧ (-1 ≤ r.toInt ∧ r.toInt ≤ 93))) ([.ref (ad 2)] : List Value).toArray s 0 0 (zA 73 ad)) (F0 m 35 ls []) := by
        intro H locs x1 x2 hP hS q_x1 q_x2 qm4 ls hl
        refine z_ic hx hb dX2_nearest_35 (by decide) (fun v35 h35 => ?_)
        exact J36 _ _ x1 x2 v35 hP hS (by omega) (by omega) (by omega) (by omega) _ (lv_sub hl [0, 1, 2] rfl)
      intro H locs x1 x2 hP hS q_x1 q_x2 hm ls hl
      refine lv_iload_n hx hb dX2_nearest_4 rfl (lv_at hl 2 rfl) ?_
      refine lv_aload_n hx hb dX2_nearest_5 rfl (lv_at hl 0 rfl) ?_
      obtain ⟨v6, v6a, v6b, e6, h6, h6a, h6b, h6c, h6d, h6e⟩ := gg_Fi hO
      refine va_get (ci := 2) (C := RX2) (T := TX2) (N := 9) (v := .int v6) hx hb hts inX2 hown hK hP 2 (zw_at (by decide) e6) rfl 5 (by decide) fl40 (fun _ h => h) rfl dX2_nearest_6 ?_
      refine z_icmp_ge (tgt := 69) hx hb dX2_nearest_9 (by decide) (fun c9 => ?_) (fun c9 => ?_)
      · skip
        refine lv_iload_n hx hb dX2_nearest_69 rfl (lv_at hl 1 rfl) ?_
        exact z_reti hx hb hr hlocks hP hS dX2_nearest_70 ⟨⟨hO, hPP⟩, (by omega)⟩
      · skip
        refine lv_aload_n hx hb dX2_nearest_12 rfl (lv_at hl 0 rfl) ?_
        refine va_get (ci := 2) (C := RX2) (T := TX2) (N := 9) (v := .ref (ad 50)) hx hb hts inX2 hown hK hP 2 (zw_at (by decide) e6) rfl 4 (by decide) fl25 (fun _ h => h) rfl dX2_nearest_13 ?_
        refine lv_iload_n hx hb dX2_nearest_16 rfl (lv_at hl 2 rfl) ?_
        obtain ⟨f17, e17⟩ := gg_St hO
        refine z_zald hx hb hK hP (q0 := 50) 1 (by decide) e17 rfl (by omega) dX2_nearest_17 (fun v17 h17a => ?_)
        refine z_if_ne (tgt := 35) hx hb dX2_nearest_18 (by decide) (fun c18 => ?_) (fun c18 => ?_)
        · skip
          exact J35 _ _ x1 x2 hP hS (by omega) (by omega) (by omega) _ (lv_sub hl [0, 1, 2] rfl)
        · skip
          refine lv_aload_n hx hb dX2_nearest_21 rfl (lv_at hl 0 rfl) ?_
          refine va_get (ci := 2) (C := RX2) (T := TX2) (N := 9) (v := .ref (ad 48)) hx hb hts inX2 hown hK hP 2 (zw_at (by decide) e6) rfl 2 (by decide) fl19 (fun _ h => h) rfl dX2_nearest_22 ?_
          refine lv_iload_n hx hb dX2_nearest_25 rfl (lv_at hl 2 rfl) ?_
          obtain ⟨f26, e26⟩ := gg_Ln hO
          refine z_iald hx hb hK hP (q0 := 48) 0 (by decide) e26 rfl (by omega) dX2_nearest_26 (fun v26 h26a => ?_)
          refine z_ic hx hb dX2_nearest_27 (by decide) (fun v27 h27 => ?_)
          refine z_icmp_eq (tgt := 35) hx hb dX2_nearest_28 (by decide) (fun c28 => ?_) (fun c28 => ?_)
          · skip
            exact J35 _ _ x1 x2 hP hS (by omega) (by omega) (by omega) _ (lv_sub hl [0, 1, 2] rfl)
          · skip
            refine z_ic hx hb dX2_nearest_31 (by decide) (fun v31 h31 => ?_)
            refine lv_goto (tgt := 36) hx hb dX2_nearest_32 (by decide) ?_
            exact J36 _ _ x1 x2 v31 hP hS (by omega) (by omega) (by omega) (by omega) _ (lv_sub hl [0, 1, 2] rfl)
  intro ls hl
  have hl : lv_has ls 4 [(0, .ref (ad 2))] := hl
  refine z_ic hx hb dX2_nearest_0 (by decide) (fun v0 h0 => ?_)
  refine lv_istore_n (lv' := [(1, .int v0), (0, .ref (ad 2))]) hx hb dX2_nearest_1 rfl hl (by decide) rfl (fun ls hl => ?_)
  refine z_ic hx hb dX2_nearest_2 (by decide) (fun v2 h2 => ?_)
  refine lv_istore_n (lv' := [(2, .int v2), (1, .int v0), (0, .ref (ad 2))]) hx hb dX2_nearest_3 rfl hl (by decide) rfl (fun ls hl => ?_)
  exact L4 96 _ _ v0 v2 hP hS (by omega) (by omega) (by omega) _ (lv_sub hl [2, 1, 0] rfl)
set_option maxHeartbeats 8000000 in
set_option maxRecDepth 100000 in
theorem c_X2_addNode (l : Launch) (D : va_G) (cy : Nat → ClassId) (ad : Nat → Nat) (cnt : Nat → Nat) (B : Nat) (hJ : zJ 73 ad) (p1 : Int32) : zM l D (gT cy) 73 ad (gOK cy ad cnt B) yX2_addNode vsX2_addNode { frames := 0, cells := 0, slots := 0, locals := 0 } ([.ref (ad 2), .int p1] : List Value) (zQv D 73 ad (fun ce => gOK cy ad cnt B ce ∧ (True))) := by
  refine z_of (cc := cX2_addNode) (maxL := 2) (ret := none) (by decide) rfl (Nat.le_of_ble_eq_true rfl) ?_
  intro p e s m below meth c hx hb hr hts hown hlocks hml hK hN ce hOK hP
  have hown : s.vm.findClass RX2 = some m.cls := hown
  have hS : va_S (zA 73 ad) s.heap s.heap [] := va_S.rf
  have hO := hOK
  have inX2 : ∀ w ∈ u_ws RX2 TX2 9, w ∈ vsX2_addNode := fun w h => List.mem_cons_of_mem _ (inlX2 w h)
  have fl15 := hts (.fieldLink RX2 15 "GroundKeeper$Finder" "places" "[I") (List.mem_cons_of_mem _ mw_129)
  have fl19 := hts (.fieldLink RX2 19 "GroundKeeper$Finder" "lengths" "[I") (List.mem_cons_of_mem _ mw_125)
  have fl22 := hts (.fieldLink RX2 22 "GroundKeeper$Finder" "cameFrom" "[I") (List.mem_cons_of_mem _ mw_130)
  have fl25 := hts (.fieldLink RX2 25 "GroundKeeper$Finder" "settled" "[Z") (List.mem_cons_of_mem _ mw_127)
  have fl40 := hts (.fieldLink RX2 40 "GroundKeeper$Finder" "size" "I") (List.mem_cons_of_mem _ mw_128)
  intro ls hl
  have hl : lv_has ls 2 [(0, .ref (ad 2)), (1, .int p1)] := hl
  refine lv_aload_n hx hb dX2_addNode_0 rfl (lv_at hl 0 rfl) ?_
  obtain ⟨v1, v1a, v1b, e1, h1, h1a, h1b, h1c, h1d, h1e⟩ := gg_Fi hO
  refine va_get (ci := 2) (C := RX2) (T := TX2) (N := 9) (v := .int v1) hx hb hts inX2 hown hK hP 2 (zw_at (by decide) e1) rfl 5 (by decide) fl40 (fun _ h => h) rfl dX2_addNode_1 ?_
  refine z_bi hx hb dX2_addNode_4 (by decide) (fun v4 h4 => ?_)
  refine z_icmp_ge (tgt := 59) hx hb dX2_addNode_6 (by decide) (fun c6 => ?_) (fun c6 => ?_)
  · skip
    exact z_retv hx hb hr hlocks hP hS dX2_addNode_59 ⟨hO, trivial⟩
  · skip
    refine lv_aload_n hx hb dX2_addNode_9 rfl (lv_at hl 0 rfl) ?_
    refine va_get (ci := 2) (C := RX2) (T := TX2) (N := 9) (v := .ref (ad 47)) hx hb hts inX2 hown hK hP 2 (zw_at (by decide) e1) rfl 1 (by decide) fl15 (fun _ h => h) rfl dX2_addNode_10 ?_
    refine lv_aload_n hx hb dX2_addNode_13 rfl (lv_at hl 0 rfl) ?_
    refine va_get (ci := 2) (C := RX2) (T := TX2) (N := 9) (v := .int v1) hx hb hts inX2 hown hK hP 2 (zw_at (by decide) e1) rfl 5 (by decide) fl40 (fun _ h => h) rfl dX2_addNode_14 ?_
    refine lv_iload_n hx hb dX2_addNode_17 rfl (lv_at hl 1 rfl) ?_
    obtain ⟨f18, e18⟩ := gg_Pl hO
    refine z_iast hx hb hK hJ hP hS (q0 := 47) 0 (by decide) e18 rfl (z_in (by omega) (by omega)) dX2_addNode_18 (fun ce H locs e18a h18a hP hS => ?_)
    have hO := z_up (OKK := gK cy ad cnt B) 47 hO h18a (by rw [e18a]; exact gE_Pl |>.mpr ⟨_, rfl⟩)
    have e18b := (h18a 2 (by omega)).trans e1
    refine lv_aload_n hx hb dX2_addNode_19 rfl (lv_at hl 0 rfl) ?_
    refine va_get (ci := 2) (C := RX2) (T := TX2) (N := 9) (v := .ref (ad 48)) hx hb hts inX2 hown hK hP 2 (zw_at (by decide) e18b) rfl 2 (by decide) fl19 (fun _ h => h) rfl dX2_addNode_20 ?_
    refine lv_aload_n hx hb dX2_addNode_23 rfl (lv_at hl 0 rfl) ?_
    refine va_get (ci := 2) (C := RX2) (T := TX2) (N := 9) (v := .int v1) hx hb hts inX2 hown hK hP 2 (zw_at (by decide) e18b) rfl 5 (by decide) fl40 (fun _ h => h) rfl dX2_addNode_24 ?_
    refine z_ic hx hb dX2_addNode_27 (by decide) (fun v27 h27 => ?_)
    obtain ⟨f28, e28⟩ := gg_Ln hO
    refine z_iast hx hb hK hJ hP hS (q0 := 48) 0 (by decide) e28 rfl (z_in (by omega) (by omega)) dX2_addNode_28 (fun ce H locs e28a h28a hP hS => ?_)
    have hO := z_up (OKK := gK cy ad cnt B) 48 hO h28a (by rw [e28a]; exact gE_Ln |>.mpr ⟨_, rfl⟩)
    have e28b := (h28a 2 (by omega)).trans e18b
    refine lv_aload_n hx hb dX2_addNode_29 rfl (lv_at hl 0 rfl) ?_
    refine va_get (ci := 2) (C := RX2) (T := TX2) (N := 9) (v := .ref (ad 49)) hx hb hts inX2 hown hK hP 2 (zw_at (by decide) e28b) rfl 3 (by decide) fl22 (fun _ h => h) rfl dX2_addNode_30 ?_
    refine lv_aload_n hx hb dX2_addNode_33 rfl (lv_at hl 0 rfl) ?_
    refine va_get (ci := 2) (C := RX2) (T := TX2) (N := 9) (v := .int v1) hx hb hts inX2 hown hK hP 2 (zw_at (by decide) e28b) rfl 5 (by decide) fl40 (fun _ h => h) rfl dX2_addNode_34 ?_
    refine z_ic hx hb dX2_addNode_37 (by decide) (fun v37 h37 => ?_)
    obtain ⟨f38, e38, h38⟩ := gg_Cf hO
    refine z_iast hx hb hK hJ hP hS (q0 := 49) 0 (by decide) e38 rfl (z_in (by omega) (by omega)) dX2_addNode_38 (fun ce H locs e38a h38a hP hS => ?_)
    have hO := z_up (OKK := gK cy ad cnt B) 49 hO h38a (by rw [e38a]; exact gE_Cf |>.mpr ⟨_, rfl, fun i0 i1 => z_updc h38 (by omega) i0 i1⟩)
    have e38b := (h38a 2 (by omega)).trans e28b
    refine lv_aload_n hx hb dX2_addNode_39 rfl (lv_at hl 0 rfl) ?_
    refine va_get (ci := 2) (C := RX2) (T := TX2) (N := 9) (v := .ref (ad 50)) hx hb hts inX2 hown hK hP 2 (zw_at (by decide) e38b) rfl 4 (by decide) fl25 (fun _ h => h) rfl dX2_addNode_40 ?_
    refine lv_aload_n hx hb dX2_addNode_43 rfl (lv_at hl 0 rfl) ?_
    refine va_get (ci := 2) (C := RX2) (T := TX2) (N := 9) (v := .int v1) hx hb hts inX2 hown hK hP 2 (zw_at (by decide) e38b) rfl 5 (by decide) fl40 (fun _ h => h) rfl dX2_addNode_44 ?_
    refine z_ic hx hb dX2_addNode_47 (by decide) (fun v47 h47 => ?_)
    obtain ⟨f48, e48⟩ := gg_St hO
    refine z_zast hx hb hK hJ hP hS (q0 := 50) 1 (by decide) e48 rfl (z_in (by omega) (by omega)) dX2_addNode_48 (fun ce H locs e48a h48a hP hS => ?_)
    have hO := z_up (OKK := gK cy ad cnt B) 50 hO h48a (by rw [e48a]; exact gE_St |>.mpr ⟨_, rfl⟩)
    have e48b := (h48a 2 (by omega)).trans e38b
    refine lv_aload_n hx hb dX2_addNode_49 rfl (lv_at hl 0 rfl) ?_
    refine lv_dup hx hb dX2_addNode_50 rfl ?_
    refine va_get (ci := 2) (C := RX2) (T := TX2) (N := 9) (v := .int v1) hx hb hts inX2 hown hK hP 2 (zw_at (by decide) e48b) rfl 5 (by decide) fl40 (fun _ h => h) rfl dX2_addNode_51 ?_
    refine z_ic hx hb dX2_addNode_54 (by decide) (fun v54 h54 => ?_)
    refine z_addE hx hb dX2_addNode_55 (by omega) (fun v55 h55 => ?_)
    refine z_put (q0 := 2) (ci := 2) (C := RX2) (T := TX2) (N := 9) hx hb hts inX2 tyX2 tyX2_ok nmX2 hown hK hJ hP hS (by decide) e48b rfl 5 (by decide) fl40 (fun _ h => h) rfl (ty := .int) (by decide +kernel) rfl rfl (Nat.le_of_ble_eq_true rfl) (fs1 := [.ref (ad 1), .ref (ad 47), .ref (ad 48), .ref (ad 49), .ref (ad 50), .int v55, .int v1a, .ref (ad 51), .int v1b]) rfl dX2_addNode_56 (fun ce H locs e56 h56 hP hS => ?_)
    have hO := z_up (OKK := gK cy ad cnt B) 2 hO h56 (by rw [e56]; exact gE_Fi |>.mpr ⟨v55, v1a, v1b, rfl, by omega, by omega, h1b, h1c, h1d, h1e⟩)
    exact z_retv hx hb hr hlocks hP hS dX2_addNode_59 ⟨hO, trivial⟩
set_option maxHeartbeats 8000000 in
set_option maxRecDepth 100000 in
theorem c_X2_addIfFree (l : Launch) (D : va_G) (cy : Nat → ClassId) (ad : Nat → Nat) (cnt : Nat → Nat) (B : Nat) (hJ : zJ 73 ad) (p1 : Int32) : zM l D (gT cy) 73 ad (gOK cy ad cnt B) yX2_addIfFree vsX2_addIfFree { frames := 2, cells := 0, slots := 0, locals := 48 } ([.ref (ad 2), .int p1] : List Value) (zQv D 73 ad (fun ce => gOK cy ad cnt B ce ∧ (True))) := by
  refine z_of (cc := cX2_addIfFree) (maxL := 3) (ret := none) (by decide) rfl (Nat.le_of_ble_eq_true rfl) ?_
  intro p e s m below meth c hx hb hr hts hown hlocks hml hK hN ce hOK hP
  have hown : s.vm.findClass RX2 = some m.cls := hown
  have hS : va_S (zA 73 ad) s.heap s.heap [] := va_S.rf
  have hO := hOK
  have inX2 : ∀ w ∈ u_ws RX2 TX2 9, w ∈ vsX2_addIfFree := fun w h => List.mem_cons_of_mem _ (inlX2 w h)
  have fl9 := hts (.fieldLink RX2 9 "GroundKeeper$Finder" "ground" "LGroundKeeper$Ground;") (List.mem_cons_of_mem _ mw_131)
  have fl29 := hts (.fieldLink RX2 29 "GroundKeeper$Finder" "avoided" "[I") (List.mem_cons_of_mem _ mw_124)
  have fl32 := hts (.fieldLink RX2 32 "GroundKeeper$Finder" "avoidedSize" "I") (List.mem_cons_of_mem _ mw_123)
  have L2 : ∀ N2 : Nat, ∀ (H : Heap) (locs : List Loc) (ce : Nat → va_E) (x1 : Int32) (x2 : Int32), va_P D vwCl (zw 73 ad ce) H → va_S (zA 73 ad) s.heap H locs → gOK cy ad cnt B ce → (0 ≤ x2.toInt ∧ x2.toInt ≤ 6) → (7 - x2.toInt ≤ (N2 : Int)) → ∀ ls : Array Slot, lv_has ls 3 [(0, .ref (ad 2)), (1, .int x1), (2, .int x2)] → W p l e { frames := 2, cells := 0, slots := 0, locals := 48 } s m ([.ref (ad 2), .int p1] : List Value).toArray below meth c H locs 0 0 (MQ below (zQv D 73 ad (fun ce => gOK cy ad cnt B ce ∧ (True))) ([.ref (ad 2), .int p1] : List Value).toArray s 0 0 (zA 73 ad)) (F0 m 2 ls []) := by
    intro N2
    induction N2 with
    | zero =>
      intro H locs ce x1 x2 hP hS hO q_x2 hm ls hl
      exfalso; omega
    | succ N2 ih2 =>
      intro H locs ce x1 x2 hP hS hO q_x2 hm ls hl
      refine lv_iload_n hx hb dX2_addIfFree_2 rfl (lv_at hl 2 rfl) ?_
      refine lv_aload_n hx hb dX2_addIfFree_3 rfl (lv_at hl 0 rfl) ?_
      obtain ⟨v4, v4a, v4b, e4, h4, h4a, h4b, h4c, h4d, h4e⟩ := gg_Fi hO
      refine va_get (ci := 2) (C := RX2) (T := TX2) (N := 9) (v := .int v4b) hx hb hts inX2 hown hK hP 2 (zw_at (by decide) e4) rfl 8 (by decide) fl32 (fun _ h => h) rfl dX2_addIfFree_4 ?_
      refine z_icmp_ge (tgt := 27) hx hb dX2_addIfFree_7 (by decide) (fun c7 => ?_) (fun c7 => ?_)
      · skip
        refine lv_aload_n hx hb dX2_addIfFree_27 rfl (lv_at hl 0 rfl) ?_
        refine va_get (ci := 2) (C := RX2) (T := TX2) (N := 9) (v := .ref (ad 1)) hx hb hts inX2 hown hK hP 2 (zw_at (by decide) e4) rfl 0 (by decide) fl9 (fun _ h => h) rfl dX2_addIfFree_28 ?_
        refine lv_iload_n hx hb dX2_addIfFree_31 rfl (lv_at hl 1 rfl) ?_
        obtain ⟨v32, e32, h32, h32a, h32b⟩ := gg_Gr hO
        refine z_ciP (z_rV (q0 := 1) (As := [.int x1]) (rest := []) ⟨hx, hb, hml, hown, hts⟩ (c_X3_isGround l D cy ad cnt B (fun c1 => c1 = ce) hJ x1) (cwV 1 hts (g_V mw_142 mw_120 mw_121 mw_84 mw_122) rfl rfl rfl (by decide +kernel) ⟨Nat.le_of_ble_eq_true rfl, Nat.le_of_ble_eq_true rfl⟩) hK hN ⟨hO, rfl⟩ hP (by decide) e32 rfl rfl hl.1 rfl (Nat.le_of_ble_eq_true rfl) dX2_addIfFree_32 ⟨Nat.zero_le _, Nat.zero_le _⟩) hS (fun _ h => h.2) (fun v32a H locs h32c hP hS => ?_)
        refine z_if_eq (tgt := 43) hx hb dX2_addIfFree_35 (by decide) (fun c35 => ?_) (fun c35 => ?_)
        · skip
          exact z_retv hx hb hr hlocks hP hS dX2_addIfFree_43 ⟨hO, trivial⟩
        · skip
          refine lv_aload_n hx hb dX2_addIfFree_38 rfl (lv_at hl 0 rfl) ?_
          refine lv_iload_n hx hb dX2_addIfFree_39 rfl (lv_at hl 1 rfl) ?_
          refine z_cv (z_rV (q0 := 2) (As := [.int x1]) (rest := []) ⟨hx, hb, hml, hown, hts⟩ (c_X2_addNode l D cy ad cnt B hJ x1) (cwV 1 hts (g_V mw_143 mw_144 mw_145 mw_146 mw_147) rfl rfl rfl (by decide +kernel) ⟨Nat.le_of_ble_eq_true rfl, Nat.le_of_ble_eq_true rfl⟩) hK hN hO hP (by decide) e4 rfl rfl hl.1 rfl (Nat.le_of_ble_eq_true rfl) dX2_addIfFree_40 ⟨Nat.zero_le _, Nat.zero_le _⟩) hS (fun ce H locs h40 hP hS => ?_)
          obtain ⟨hO, h40a⟩ := h40
          exact z_retv hx hb hr hlocks hP hS dX2_addIfFree_43 ⟨hO, trivial⟩
      · skip
        refine lv_aload_n hx hb dX2_addIfFree_10 rfl (lv_at hl 0 rfl) ?_
        refine va_get (ci := 2) (C := RX2) (T := TX2) (N := 9) (v := .ref (ad 51)) hx hb hts inX2 hown hK hP 2 (zw_at (by decide) e4) rfl 7 (by decide) fl29 (fun _ h => h) rfl dX2_addIfFree_11 ?_
        refine lv_iload_n hx hb dX2_addIfFree_14 rfl (lv_at hl 2 rfl) ?_
        obtain ⟨f15, e15⟩ := gg_Av hO
        refine z_iald hx hb hK hP (q0 := 51) 0 (by decide) e15 rfl (by omega) dX2_addIfFree_15 (fun v15 h15a => ?_)
        refine lv_iload_n hx hb dX2_addIfFree_16 rfl (lv_at hl 1 rfl) ?_
        refine z_icmp_ne (tgt := 21) hx hb dX2_addIfFree_17 (by decide) (fun c17 => ?_) (fun c17 => ?_)
        · skip
          refine z_iinc (lv' := fun w0 => [(2, .int w0), (0, .ref (ad 2)), (1, .int x1)]) hx hb dX2_addIfFree_21 hl (k := 2) rfl (by decide) (fun _ => rfl) (by decide) (by omega) (fun v21 ls h21 hl => ?_)
          refine lv_goto (tgt := 2) hx hb dX2_addIfFree_24 (by decide) ?_
          exact ih2 _ _ _ x1 v21 hP hS hO (by omega) (by omega) _ (lv_sub hl [1, 2, 0] rfl)
        · skip
          exact z_retv hx hb hr hlocks hP hS dX2_addIfFree_20 ⟨hO, trivial⟩
  intro ls hl
  have hl : lv_has ls 3 [(0, .ref (ad 2)), (1, .int p1)] := hl
  refine z_ic hx hb dX2_addIfFree_0 (by decide) (fun v0 h0 => ?_)
  refine lv_istore_n (lv' := [(2, .int v0), (0, .ref (ad 2)), (1, .int p1)]) hx hb dX2_addIfFree_1 rfl hl (by decide) rfl (fun ls hl => ?_)
  exact L2 8 _ _ _ p1 v0 hP hS hO (by omega) (by omega) _ (lv_sub hl [1, 2, 0] rfl)
set_option maxHeartbeats 8000000 in
set_option maxRecDepth 100000 in
theorem c_X2_gather (l : Launch) (D : va_G) (cy : Nat → ClassId) (ad : Nat → Nat) (cnt : Nat → Nat) (B : Nat) (hJ : zJ 73 ad) (p1 : Int32) (p2 : Int32) : zM l D (gT cy) 73 ad (gOK cy ad cnt B) yX2_gather vsX2_gather { frames := 3, cells := 0, slots := 0, locals := 70 } ([.ref (ad 2), .int p1, .int p2] : List Value) (zQv D 73 ad (fun ce => gOK cy ad cnt B ce ∧ (True))) := by
  refine z_of (cc := cX2_gather) (maxL := 5) (ret := none) (by decide) rfl (Nat.le_of_ble_eq_true rfl) ?_
  intro p e s m below meth c hx hb hr hts hown hlocks hml hK hN ce hOK hP
  have hown : s.vm.findClass RX2 = some m.cls := hown
  have hS : va_S (zA 73 ad) s.heap s.heap [] := va_S.rf
  have hO := hOK
  have inX0 : ∀ w ∈ u_ws RX0 TX0 6, w ∈ vsX2_gather := fun w h => List.mem_cons_of_mem _ (inlX0 w h)
  have inX1 : ∀ w ∈ u_ws RX1 TX1 2, w ∈ vsX2_gather := fun w h => List.mem_cons_of_mem _ (inlX1 w h)
  have inX2 : ∀ w ∈ u_ws RX2 TX2 9, w ∈ vsX2_gather := fun w h => List.mem_cons_of_mem _ (inlX2 w h)
  have inX3 : ∀ w ∈ u_ws RX3 TX3 9, w ∈ vsX2_gather := fun w h => List.mem_cons_of_mem _ (inlX3 w h)
  have fl9 := hts (.fieldLink RX2 9 "GroundKeeper$Finder" "ground" "LGroundKeeper$Ground;") (List.mem_cons_of_mem _ mw_131)
  have fl40 := hts (.fieldLink RX2 40 "GroundKeeper$Finder" "size" "I") (List.mem_cons_of_mem _ mw_128)
  have fl51 := hts (.fieldLink RX2 51 "GroundKeeper$Finder" "roomCornersEnd" "I") (List.mem_cons_of_mem _ mw_126)
  have fl61 := hts (.fieldLink RX2 61 "GroundKeeper$Ground" "rooms" "LGroundKeeper$Areas;") (List.mem_cons_of_mem _ mw_132)
  have fl67 := hts (.fieldLink RX2 67 "GroundKeeper$Areas" "size" "I") (List.mem_cons_of_mem _ mw_133)
  have fl70 := hts (.fieldLink RX2 70 "GroundKeeper$Areas" "all" "[LGroundKeeper$Area;") (List.mem_cons_of_mem _ mw_134)
  have fl83 := hts (.fieldLink RX2 83 "GroundKeeper$Ground" "boxes" "LGroundKeeper$Areas;") (List.mem_cons_of_mem _ mw_135)
  have fl86 := hts (.fieldLink RX2 86 "GroundKeeper$Area" "on" "Z") (List.mem_cons_of_mem _ mw_136)
  have fl90 := hts (.fieldLink RX2 90 "GroundKeeper$Ground" "ladderSize" "I") (List.mem_cons_of_mem _ mw_137)
  have fl93 := hts (.fieldLink RX2 93 "GroundKeeper$Ground" "ladderFrom" "[I") (List.mem_cons_of_mem _ mw_138)
  have fl96 := hts (.fieldLink RX2 96 "GroundKeeper$Ground" "ladderTo" "[I") (List.mem_cons_of_mem _ mw_139)
  have L123 : ∀ N123 : Nat, ∀ (H : Heap) (locs : List Loc) (ce : Nat → va_E) (x3 : Int32), va_P D vwCl (zw 73 ad ce) H → va_S (zA 73 ad) s.heap H locs → gOK cy ad cnt B ce → (0 ≤ x3.toInt ∧ x3.toInt ≤ 6) → (7 - x3.toInt ≤ (N123 : Int)) → ∀ ls : Array Slot, lv_has ls 5 [(0, .ref (ad 2)), (3, .int x3)] → W p l e { frames := 3, cells := 0, slots := 0, locals := 70 } s m ([.ref (ad 2), .int p1, .int p2] : List Value).toArray below meth c H locs 0 0 (MQ below (zQv D 73 ad (fun ce => gOK cy ad cnt B ce ∧ (True))) ([.ref (ad 2), .int p1, .int p2] : List Value).toArray s 0 0 (zA 73 ad)) (F0 m 123 ls []) := by
    intro N123
    induction N123 with
    | zero =>
      intro H locs ce x3 hP hS hO q_x3 hm ls hl
      exfalso; omega
    | succ N123 ih123 =>
      intro H locs ce x3 hP hS hO q_x3 hm ls hl
      refine lv_iload_n hx hb dX2_gather_123 rfl (lv_at hl 1 rfl) ?_
      refine lv_aload_n hx hb dX2_gather_124 rfl (lv_at hl 0 rfl) ?_
      obtain ⟨v125, v125a, v125b, e125, h125, h125a, h125b, h125c, h125d, h125e⟩ := gg_Fi hO
      refine va_get (ci := 2) (C := RX2) (T := TX2) (N := 9) (v := .ref (ad 1)) hx hb hts inX2 hown hK hP 2 (zw_at (by decide) e125) rfl 0 (by decide) fl9 (fun _ h => h) rfl dX2_gather_125 ?_
      obtain ⟨v128, e128, h128, h128a, h128b⟩ := gg_Gr hO
      refine va_get (ci := 3) (C := RX3) (T := TX3) (N := 9) (v := .int v128) hx hb hts inX3 hown hK hP 1 (zw_at (by decide) e128) rfl 7 (by decide) fl90 (fun _ h => h) rfl dX2_gather_128 ?_
      refine z_icmp_ge (tgt := 166) hx hb dX2_gather_131 (by decide) (fun c131 => ?_) (fun c131 => ?_)
      · skip
        exact z_retv hx hb hr hlocks hP hS dX2_gather_166 ⟨hO, trivial⟩
      · skip
        refine lv_aload_n hx hb dX2_gather_134 rfl (lv_at hl 0 rfl) ?_
        refine lv_aload_n hx hb dX2_gather_135 rfl (lv_at hl 0 rfl) ?_
        refine va_get (ci := 2) (C := RX2) (T := TX2) (N := 9) (v := .ref (ad 1)) hx hb hts inX2 hown hK hP 2 (zw_at (by decide) e125) rfl 0 (by decide) fl9 (fun _ h => h) rfl dX2_gather_136 ?_
        refine va_get (ci := 3) (C := RX3) (T := TX3) (N := 9) (v := .ref (ad 44)) hx hb hts inX3 hown hK hP 1 (zw_at (by decide) e128) rfl 4 (by decide) fl93 (fun _ h => h) rfl dX2_gather_139 ?_
        refine lv_iload_n hx hb dX2_gather_142 rfl (lv_at hl 1 rfl) ?_
        obtain ⟨f143, e143⟩ := gg_L0 hO
        refine z_iald hx hb hK hP (q0 := 44) 0 (by decide) e143 rfl (by omega) dX2_gather_143 (fun v143 h143a => ?_)
        refine z_cv (z_rV (q0 := 2) (As := [.int v143]) (rest := []) ⟨hx, hb, hml, hown, hts⟩ (c_X2_addIfFree l D cy ad cnt B hJ v143) (cwV 1 hts (g_V mw_148 mw_149 mw_150 mw_146 mw_151) rfl rfl rfl (by decide +kernel) ⟨Nat.le_of_ble_eq_true rfl, Nat.le_of_ble_eq_true rfl⟩) hK hN hO hP (by decide) e125 rfl rfl hl.1 rfl (Nat.le_of_ble_eq_true rfl) dX2_gather_144 ⟨Nat.zero_le _, Nat.zero_le _⟩) hS (fun ce H locs h144 hP hS => ?_)
        obtain ⟨hO, h144a⟩ := h144
        refine lv_aload_n hx hb dX2_gather_147 rfl (lv_at hl 0 rfl) ?_
        refine lv_aload_n hx hb dX2_gather_148 rfl (lv_at hl 0 rfl) ?_
        obtain ⟨v149, v149a, v149b, e149, h149, h149a, h149b, h149c, h149d, h149e⟩ := gg_Fi hO
        refine va_get (ci := 2) (C := RX2) (T := TX2) (N := 9) (v := .ref (ad 1)) hx hb hts inX2 hown hK hP 2 (zw_at (by decide) e149) rfl 0 (by decide) fl9 (fun _ h => h) rfl dX2_gather_149 ?_
        obtain ⟨v152, e152, h152, h152a, h152b⟩ := gg_Gr hO
        refine va_get (ci := 3) (C := RX3) (T := TX3) (N := 9) (v := .ref (ad 45)) hx hb hts inX3 hown hK hP 1 (zw_at (by decide) e152) rfl 5 (by decide) fl96 (fun _ h => h) rfl dX2_gather_152 ?_
        refine lv_iload_n hx hb dX2_gather_155 rfl (lv_at hl 1 rfl) ?_
        obtain ⟨f156, e156⟩ := gg_L1 hO
        refine z_iald hx hb hK hP (q0 := 45) 0 (by decide) e156 rfl (by omega) dX2_gather_156 (fun v156 h156a => ?_)
        refine z_cv (z_rV (q0 := 2) (As := [.int v156]) (rest := []) ⟨hx, hb, hml, hown, hts⟩ (c_X2_addIfFree l D cy ad cnt B hJ v156) (cwV 1 hts (g_V mw_148 mw_149 mw_150 mw_146 mw_151) rfl rfl rfl (by decide +kernel) ⟨Nat.le_of_ble_eq_true rfl, Nat.le_of_ble_eq_true rfl⟩) hK hN hO hP (by decide) e149 rfl rfl hl.1 rfl (Nat.le_of_ble_eq_true rfl) dX2_gather_157 ⟨Nat.zero_le _, Nat.zero_le _⟩) hS (fun ce H locs h157 hP hS => ?_)
        obtain ⟨hO, h157a⟩ := h157
        refine z_iinc (lv' := fun w0 => [(3, .int w0), (0, .ref (ad 2))]) hx hb dX2_gather_160 hl (k := 1) rfl (by decide) (fun _ => rfl) (by decide) (by omega) (fun v160 ls h160 hl => ?_)
        refine lv_goto (tgt := 123) hx hb dX2_gather_163 (by decide) ?_
        exact ih123 _ _ _ v160 hP hS hO (by omega) (by omega) _ (lv_sub hl [1, 0] rfl)
  have L73 : ∀ N73 : Nat, ∀ (H : Heap) (locs : List Loc) (ce : Nat → va_E) (x3 : Int32), va_P D vwCl (zw 73 ad ce) H → va_S (zA 73 ad) s.heap H locs → gOK cy ad cnt B ce → (0 ≤ x3.toInt ∧ x3.toInt ≤ 32) → (33 - x3.toInt ≤ (N73 : Int)) → ∀ ls : Array Slot, lv_has ls 5 [(0, .ref (ad 2)), (3, .int x3)] → W p l e { frames := 3, cells := 0, slots := 0, locals := 70 } s m ([.ref (ad 2), .int p1, .int p2] : List Value).toArray below meth c H locs 0 0 (MQ below (zQv D 73 ad (fun ce => gOK cy ad cnt B ce ∧ (True))) ([.ref (ad 2), .int p1, .int p2] : List Value).toArray s 0 0 (zA 73 ad)) (F0 m 73 ls []) := by
    intro N73
    induction N73 with
    | zero =>
      intro H locs ce x3 hP hS hO q_x3 hm ls hl
      exfalso; omega
    | succ N73 ih73 =>
      have J115 : ∀ (H : Heap) (locs : List Loc) (ce : Nat → va_E) (x3 : Int32), va_P D vwCl (zw 73 ad ce) H → va_S (zA 73 ad) s.heap H locs → gOK cy ad cnt B ce → (0 ≤ x3.toInt ∧ x3.toInt ≤ 31) → (33 - x3.toInt ≤ (N73 : Int) + 1) → ∀ ls : Array Slot, lv_has ls 5 [(0, .ref (ad 2)), (3, .int x3)] → W p l e { frames := 3, cells := 0, slots := 0, locals := 70 } s m ([.ref (ad 2), .int p1, .int p2] : List Value).toArray below meth c H locs 0 0 (MQ below (zQv D 73 ad (fun ce => gOK cy ad cnt B ce ∧ (True))) ([.ref (ad 2), .int p1, .int p2] : List Value).toArray s 0 0 (zA 73 ad)) (F0 m 115 ls []) := by
        intro H locs ce x3 hP hS hO q_x3 qm73 ls hl
        refine z_iinc (lv' := fun w0 => [(3, .int w0), (0, .ref (ad 2))]) hx hb dX2_gather_115 hl (k := 1) rfl (by decide) (fun _ => rfl) (by decide) (by omega) (fun v115 ls h115 hl => ?_)
        refine lv_goto (tgt := 73) hx hb dX2_gather_118 (by decide) ?_
        exact ih73 _ _ _ v115 hP hS hO (by omega) (by omega) _ (lv_sub hl [1, 0] rfl)
      intro H locs ce x3 hP hS hO q_x3 hm ls hl
      refine lv_iload_n hx hb dX2_gather_73 rfl (lv_at hl 1 rfl) ?_
      refine z_bi hx hb dX2_gather_74 (by decide) (fun v74 h74 => ?_)
      refine z_icmp_ge (tgt := 121) hx hb dX2_gather_76 (by decide) (fun c76 => ?_) (fun c76 => ?_)
      · skip
        refine z_ic hx hb dX2_gather_121 (by decide) (fun v121 h121 => ?_)
        refine lv_istore_n (lv' := [(3, .int v121), (0, .ref (ad 2))]) hx hb dX2_gather_122 rfl hl (by decide) rfl (fun ls hl => ?_)
        exact L123 8 _ _ _ v121 hP hS hO (by omega) (by omega) _ (lv_sub hl [1, 0] rfl)
      · skip
        refine lv_aload_n hx hb dX2_gather_79 rfl (lv_at hl 0 rfl) ?_
        obtain ⟨v80, v80a, v80b, e80, h80, h80a, h80b, h80c, h80d, h80e⟩ := gg_Fi hO
        refine va_get (ci := 2) (C := RX2) (T := TX2) (N := 9) (v := .ref (ad 1)) hx hb hts inX2 hown hK hP 2 (zw_at (by decide) e80) rfl 0 (by decide) fl9 (fun _ h => h) rfl dX2_gather_80 ?_
        obtain ⟨v83, e83, h83, h83a, h83b⟩ := gg_Gr hO
        refine va_get (ci := 3) (C := RX3) (T := TX3) (N := 9) (v := .ref (ad 5)) hx hb hts inX3 hown hK hP 1 (zw_at (by decide) e83) rfl 1 (by decide) fl83 (fun _ h => h) rfl dX2_gather_83 ?_
        obtain ⟨v86, e86⟩ := gg_Bo hO
        refine va_get (ci := 1) (C := RX1) (T := TX1) (N := 2) (v := .ref (ad 9)) hx hb hts inX1 hown hK hP 5 (zw_at (by decide) e86) rfl 0 (by decide) fl70 (fun _ h => h) rfl dX2_gather_86 ?_
        refine lv_iload_n hx hb dX2_gather_89 rfl (lv_at hl 1 rfl) ?_
        refine z_ic hx hb dX2_gather_90 (by decide) (fun v90 h90 => ?_)
        refine z_divK hx hb 4 dX2_gather_91 (by omega) (by decide) (by decide) (by omega) (fun v91 h91 => ?_)
        obtain ⟨f92, e92, h92⟩ := gg_BoA hO
        refine z_ald (g := fun j0 => 12 + (12 + j0)) hx hb hK hP (q0 := 9) 2 (by decide) e92 rfl (by omega) h92 dX2_gather_92 (fun j92 h92a => ?_)
        refine lv_astore (lv' := [(4, .ref (ad (12 + (12 + j92)))), (0, .ref (ad 2)), (3, .int x3)]) hx hb dX2_gather_93 hl (by decide) rfl (fun ls hl => ?_)
        refine lv_aload hx hb dX2_gather_95 (lv_at hl 0 rfl) ?_
        obtain ⟨v97, v97a, v97b, v97c, v97d, v97e, e97⟩ := gg_Ar hO (j := (12 + j92)) (by omega)
        refine va_get (ci := 0) (C := RX0) (T := TX0) (N := 6) (v := .int v97e) hx hb hts inX0 hown hK hP (12 + (12 + j92)) (zw_at (by omega) e97) rfl 5 (by decide) fl86 (fun _ h => h) rfl dX2_gather_97 ?_
        refine z_if_eq (tgt := 115) hx hb dX2_gather_100 (by decide) (fun c100 => ?_) (fun c100 => ?_)
        · skip
          exact J115 _ _ _ x3 hP hS hO (by omega) (by omega) _ (lv_sub hl [1, 2] rfl)
        · skip
          refine lv_aload_n hx hb dX2_gather_103 rfl (lv_at hl 1 rfl) ?_
          refine lv_aload hx hb dX2_gather_104 (lv_at hl 0 rfl) ?_
          refine lv_iload_n hx hb dX2_gather_106 rfl (lv_at hl 2 rfl) ?_
          refine z_ic hx hb dX2_gather_107 (by decide) (fun v107 h107 => ?_)
          refine z_remK hx hb 4 dX2_gather_108 (by omega) (by decide) (by decide) (fun v108 => ?_)
          refine z_ciP (z_rV (q0 := (12 + (12 + j92))) (As := [.int v108]) (rest := [.ref (ad 2)]) ⟨hx, hb, hml, hown, hts⟩ (c_X0_corner l D cy ad cnt B (fun c1 => c1 = ce) hJ (12 + j92) v108 (by omega)) (cwV 1 hts (g_V mw_152 mw_153 mw_154 mw_33 mw_155) rfl rfl rfl (by decide +kernel) ⟨Nat.le_of_ble_eq_true rfl, Nat.le_of_ble_eq_true rfl⟩) hK hN ⟨hO, rfl⟩ hP (by omega) e97 rfl rfl hl.1 rfl (Nat.le_of_ble_eq_true rfl) dX2_gather_109 ⟨Nat.zero_le _, Nat.zero_le _⟩) hS (fun _ h => h.2) (fun v109 H locs h109 hP hS => ?_)
          refine z_cv (z_rV (q0 := 2) (As := [.int v109]) (rest := []) ⟨hx, hb, hml, hown, hts⟩ (c_X2_addIfFree l D cy ad cnt B hJ v109) (cwV 1 hts (g_V mw_148 mw_149 mw_150 mw_146 mw_151) rfl rfl rfl (by decide +kernel) ⟨Nat.le_of_ble_eq_true rfl, Nat.le_of_ble_eq_true rfl⟩) hK hN hO hP (by decide) e80 rfl rfl hl.1 rfl (Nat.le_of_ble_eq_true rfl) dX2_gather_112 ⟨Nat.zero_le _, Nat.zero_le _⟩) hS (fun ce H locs h112 hP hS => ?_)
          obtain ⟨hO, h112a⟩ := h112
          exact J115 _ _ _ x3 hP hS hO (by omega) (by omega) _ (lv_sub hl [1, 2] rfl)
  have L17 : ∀ N17 : Nat, ∀ (H : Heap) (locs : List Loc) (ce : Nat → va_E) (x3 : Int32), va_P D vwCl (zw 73 ad ce) H → va_S (zA 73 ad) s.heap H locs → gOK cy ad cnt B ce → (0 ≤ x3.toInt ∧ x3.toInt ≤ 48) → (49 - x3.toInt ≤ (N17 : Int)) → ∀ ls : Array Slot, lv_has ls 5 [(0, .ref (ad 2)), (3, .int x3)] → W p l e { frames := 3, cells := 0, slots := 0, locals := 70 } s m ([.ref (ad 2), .int p1, .int p2] : List Value).toArray below meth c H locs 0 0 (MQ below (zQv D 73 ad (fun ce => gOK cy ad cnt B ce ∧ (True))) ([.ref (ad 2), .int p1, .int p2] : List Value).toArray s 0 0 (zA 73 ad)) (F0 m 17 ls []) := by
    intro N17
    induction N17 with
    | zero =>
      intro H locs ce x3 hP hS hO q_x3 hm ls hl
      exfalso; omega
    | succ N17 ih17 =>
      intro H locs ce x3 hP hS hO q_x3 hm ls hl
      refine lv_iload_n hx hb dX2_gather_17 rfl (lv_at hl 1 rfl) ?_
      refine lv_aload_n hx hb dX2_gather_18 rfl (lv_at hl 0 rfl) ?_
      obtain ⟨v19, v19a, v19b, e19, h19, h19a, h19b, h19c, h19d, h19e⟩ := gg_Fi hO
      refine va_get (ci := 2) (C := RX2) (T := TX2) (N := 9) (v := .ref (ad 1)) hx hb hts inX2 hown hK hP 2 (zw_at (by decide) e19) rfl 0 (by decide) fl9 (fun _ h => h) rfl dX2_gather_19 ?_
      obtain ⟨v22, e22, h22, h22a, h22b⟩ := gg_Gr hO
      refine va_get (ci := 3) (C := RX3) (T := TX3) (N := 9) (v := .ref (ad 4)) hx hb hts inX3 hown hK hP 1 (zw_at (by decide) e22) rfl 0 (by decide) fl61 (fun _ h => h) rfl dX2_gather_22 ?_
      obtain ⟨v25, e25, h25, h25a, h25b⟩ := gg_Ro hO
      refine va_get (ci := 1) (C := RX1) (T := TX1) (N := 2) (v := .int v25) hx hb hts inX1 hown hK hP 4 (zw_at (by decide) e25) rfl 1 (by decide) fl67 (fun _ h => h) rfl dX2_gather_25 ?_
      refine z_ic hx hb dX2_gather_28 (by decide) (fun v28 h28 => ?_)
      refine z_mulK hx hb 4 dX2_gather_29 (by omega) (by omega) (fun v29 h29 => ?_)
      refine z_icmp_ge (tgt := 63) hx hb dX2_gather_30 (by decide) (fun c30 => ?_) (fun c30 => ?_)
      · skip
        refine lv_aload_n hx hb dX2_gather_63 rfl (lv_at hl 0 rfl) ?_
        refine lv_aload_n hx hb dX2_gather_64 rfl (lv_at hl 0 rfl) ?_
        refine va_get (ci := 2) (C := RX2) (T := TX2) (N := 9) (v := .int v19) hx hb hts inX2 hown hK hP 2 (zw_at (by decide) e19) rfl 5 (by decide) fl40 (fun _ h => h) rfl dX2_gather_65 ?_
        refine z_put (q0 := 2) (ci := 2) (C := RX2) (T := TX2) (N := 9) hx hb hts inX2 tyX2 tyX2_ok nmX2 hown hK hJ hP hS (by decide) e19 rfl 6 (by decide) fl51 (fun _ h => h) rfl (ty := .int) (by decide +kernel) rfl rfl (Nat.le_of_ble_eq_true rfl) (fs1 := [.ref (ad 1), .ref (ad 47), .ref (ad 48), .ref (ad 49), .ref (ad 50), .int v19, .int v19, .ref (ad 51), .int v19b]) rfl dX2_gather_68 (fun ce H locs e68 h68 hP hS => ?_)
        have hO := z_up (OKK := gK cy ad cnt B) 2 hO h68 (by rw [e68]; exact gE_Fi |>.mpr ⟨v19, v19, v19b, rfl, h19, h19a, by omega, by omega, h19d, h19e⟩)
        have e68a := (h68 1 (by omega)).trans e22
        have e68b := (h68 4 (by omega)).trans e25
        refine z_ic hx hb dX2_gather_71 (by decide) (fun v71 h71 => ?_)
        refine lv_istore_n (lv' := [(3, .int v71), (0, .ref (ad 2))]) hx hb dX2_gather_72 rfl hl (by decide) rfl (fun ls hl => ?_)
        exact L73 34 _ _ _ v71 hP hS hO (by omega) (by omega) _ (lv_sub hl [1, 0] rfl)
      · skip
        refine lv_aload_n hx hb dX2_gather_33 rfl (lv_at hl 0 rfl) ?_
        refine lv_aload_n hx hb dX2_gather_34 rfl (lv_at hl 0 rfl) ?_
        refine va_get (ci := 2) (C := RX2) (T := TX2) (N := 9) (v := .ref (ad 1)) hx hb hts inX2 hown hK hP 2 (zw_at (by decide) e19) rfl 0 (by decide) fl9 (fun _ h => h) rfl dX2_gather_35 ?_
        refine va_get (ci := 3) (C := RX3) (T := TX3) (N := 9) (v := .ref (ad 4)) hx hb hts inX3 hown hK hP 1 (zw_at (by decide) e22) rfl 0 (by decide) fl61 (fun _ h => h) rfl dX2_gather_38 ?_
        refine va_get (ci := 1) (C := RX1) (T := TX1) (N := 2) (v := .ref (ad 8)) hx hb hts inX1 hown hK hP 4 (zw_at (by decide) e25) rfl 0 (by decide) fl70 (fun _ h => h) rfl dX2_gather_41 ?_
        refine lv_iload_n hx hb dX2_gather_44 rfl (lv_at hl 1 rfl) ?_
        refine z_ic hx hb dX2_gather_45 (by decide) (fun v45 h45 => ?_)
        refine z_divK hx hb 4 dX2_gather_46 (by omega) (by decide) (by decide) (by omega) (fun v46 h46 => ?_)
        obtain ⟨f47, e47, h47⟩ := gg_RoA hO
        refine z_ald (g := fun j0 => 12 + j0) hx hb hK hP (q0 := 8) 2 (by decide) e47 rfl (by omega) h47 dX2_gather_47 (fun j47 h47a => ?_)
        refine lv_iload_n hx hb dX2_gather_48 rfl (lv_at hl 1 rfl) ?_
        refine z_ic hx hb dX2_gather_49 (by decide) (fun v49 h49 => ?_)
        refine z_remK hx hb 4 dX2_gather_50 (by omega) (by decide) (by decide) (fun v50 => ?_)
        obtain ⟨v51, v51a, v51b, v51c, v51d, v51e, e51⟩ := gg_Ar hO (j := j47) (by omega)
        refine z_ciP (z_rV (q0 := (12 + j47)) (As := [.int v50]) (rest := [.ref (ad 2)]) ⟨hx, hb, hml, hown, hts⟩ (c_X0_corner l D cy ad cnt B (fun c1 => c1 = ce) hJ j47 v50 (by omega)) (cwV 1 hts (g_V mw_152 mw_153 mw_154 mw_33 mw_155) rfl rfl rfl (by decide +kernel) ⟨Nat.le_of_ble_eq_true rfl, Nat.le_of_ble_eq_true rfl⟩) hK hN ⟨hO, rfl⟩ hP (by omega) e51 rfl rfl hl.1 rfl (Nat.le_of_ble_eq_true rfl) dX2_gather_51 ⟨Nat.zero_le _, Nat.zero_le _⟩) hS (fun _ h => h.2) (fun v51f H locs h51 hP hS => ?_)
        refine z_cv (z_rV (q0 := 2) (As := [.int v51f]) (rest := []) ⟨hx, hb, hml, hown, hts⟩ (c_X2_addIfFree l D cy ad cnt B hJ v51f) (cwV 1 hts (g_V mw_148 mw_149 mw_150 mw_146 mw_151) rfl rfl rfl (by decide +kernel) ⟨Nat.le_of_ble_eq_true rfl, Nat.le_of_ble_eq_true rfl⟩) hK hN hO hP (by decide) e19 rfl rfl hl.1 rfl (Nat.le_of_ble_eq_true rfl) dX2_gather_54 ⟨Nat.zero_le _, Nat.zero_le _⟩) hS (fun ce H locs h54 hP hS => ?_)
        obtain ⟨hO, h54a⟩ := h54
        refine z_iinc (lv' := fun w0 => [(3, .int w0), (0, .ref (ad 2))]) hx hb dX2_gather_57 hl (k := 1) rfl (by decide) (fun _ => rfl) (by decide) (by omega) (fun v57 ls h57 hl => ?_)
        refine lv_goto (tgt := 17) hx hb dX2_gather_60 (by decide) ?_
        exact ih17 _ _ _ v57 hP hS hO (by omega) (by omega) _ (lv_sub hl [1, 0] rfl)
  intro ls hl
  have hl : lv_has ls 5 [(0, .ref (ad 2)), (1, .int p1), (2, .int p2)] := hl
  refine lv_aload_n hx hb dX2_gather_0 rfl (lv_at hl 0 rfl) ?_
  refine z_ic hx hb dX2_gather_1 (by decide) (fun v1 h1 => ?_)
  obtain ⟨v2, v2a, v2b, e2, h2, h2a, h2b, h2c, h2d, h2e⟩ := gg_Fi hO
  refine z_put (q0 := 2) (ci := 2) (C := RX2) (T := TX2) (N := 9) hx hb hts inX2 tyX2 tyX2_ok nmX2 hown hK hJ hP hS (by decide) e2 rfl 5 (by decide) fl40 (fun _ h => h) rfl (ty := .int) (by decide +kernel) rfl rfl (Nat.le_of_ble_eq_true rfl) (fs1 := [.ref (ad 1), .ref (ad 47), .ref (ad 48), .ref (ad 49), .ref (ad 50), .int v1, .int v2a, .ref (ad 51), .int v2b]) rfl dX2_gather_2 (fun ce H locs e2a h2f hP hS => ?_)
  have hO := z_up (OKK := gK cy ad cnt B) 2 hO h2f (by rw [e2a]; exact gE_Fi |>.mpr ⟨v1, v2a, v2b, rfl, by omega, by omega, h2b, h2c, h2d, h2e⟩)
  refine lv_aload_n hx hb dX2_gather_5 rfl (lv_at hl 0 rfl) ?_
  refine lv_iload_n hx hb dX2_gather_6 rfl (lv_at hl 1 rfl) ?_
  refine z_cv (z_rV (q0 := 2) (As := [.int p1]) (rest := []) ⟨hx, hb, hml, hown, hts⟩ (c_X2_addNode l D cy ad cnt B hJ p1) (cwV 1 hts (g_V mw_143 mw_144 mw_145 mw_146 mw_147) rfl rfl rfl (by decide +kernel) ⟨Nat.le_of_ble_eq_true rfl, Nat.le_of_ble_eq_true rfl⟩) hK hN hO hP (by decide) e2a rfl rfl hl.1 rfl (Nat.le_of_ble_eq_true rfl) dX2_gather_7 ⟨Nat.zero_le _, Nat.zero_le _⟩) hS (fun ce H locs h7 hP hS => ?_)
  obtain ⟨hO, h7a⟩ := h7
  refine lv_aload_n hx hb dX2_gather_10 rfl (lv_at hl 0 rfl) ?_
  refine lv_iload_n hx hb dX2_gather_11 rfl (lv_at hl 2 rfl) ?_
  obtain ⟨v12, v12a, v12b, e12, h12, h12a, h12b, h12c, h12d, h12e⟩ := gg_Fi hO
  refine z_cv (z_rV (q0 := 2) (As := [.int p2]) (rest := []) ⟨hx, hb, hml, hown, hts⟩ (c_X2_addNode l D cy ad cnt B hJ p2) (cwV 1 hts (g_V mw_143 mw_144 mw_145 mw_146 mw_147) rfl rfl rfl (by decide +kernel) ⟨Nat.le_of_ble_eq_true rfl, Nat.le_of_ble_eq_true rfl⟩) hK hN hO hP (by decide) e12 rfl rfl hl.1 rfl (Nat.le_of_ble_eq_true rfl) dX2_gather_12 ⟨Nat.zero_le _, Nat.zero_le _⟩) hS (fun ce H locs h12f hP hS => ?_)
  obtain ⟨hO, h12g⟩ := h12f
  refine z_ic hx hb dX2_gather_15 (by decide) (fun v15 h15 => ?_)
  refine lv_istore_n (lv' := [(3, .int v15), (0, .ref (ad 2)), (1, .int p1), (2, .int p2)]) hx hb dX2_gather_16 rfl hl (by decide) rfl (fun ls hl => ?_)
  exact L17 50 _ _ _ v15 hP hS hO (by omega) (by omega) _ (lv_sub hl [1, 0] rfl)
set_option maxHeartbeats 8000000 in
set_option maxRecDepth 100000 in
theorem c_X2_spreadFrom (l : Launch) (D : va_G) (cy : Nat → ClassId) (ad : Nat → Nat) (cnt : Nat → Nat) (B : Nat) (hJ : zJ 73 ad) (p1 : Int32) (q_p1 : 0 ≤ p1.toInt ∧ p1.toInt ≤ 93) : zM l D (gT cy) 73 ad (gOK cy ad cnt B) yX2_spreadFrom vsX2_spreadFrom { frames := 3, cells := 0, slots := 0, locals := 70 } ([.ref (ad 2), .int p1] : List Value) (zQv D 73 ad (fun ce => gOK cy ad cnt B ce ∧ (True))) := by
  refine z_of (cc := cX2_spreadFrom) (maxL := 6) (ret := none) (by decide) rfl (Nat.le_of_ble_eq_true rfl) ?_
  intro p e s m below meth c hx hb hr hts hown hlocks hml hK hN ce hOK hP
  have hown : s.vm.findClass RX2 = some m.cls := hown
  have hS : va_S (zA 73 ad) s.heap s.heap [] := va_S.rf
  have hO := hOK
  have inX2 : ∀ w ∈ u_ws RX2 TX2 9, w ∈ vsX2_spreadFrom := fun w h => List.mem_cons_of_mem _ (inlX2 w h)
  have fl9 := hts (.fieldLink RX2 9 "GroundKeeper$Finder" "ground" "LGroundKeeper$Ground;") (List.mem_cons_of_mem _ mw_131)
  have fl15 := hts (.fieldLink RX2 15 "GroundKeeper$Finder" "places" "[I") (List.mem_cons_of_mem _ mw_129)
  have fl19 := hts (.fieldLink RX2 19 "GroundKeeper$Finder" "lengths" "[I") (List.mem_cons_of_mem _ mw_125)
  have fl22 := hts (.fieldLink RX2 22 "GroundKeeper$Finder" "cameFrom" "[I") (List.mem_cons_of_mem _ mw_130)
  have fl25 := hts (.fieldLink RX2 25 "GroundKeeper$Finder" "settled" "[Z") (List.mem_cons_of_mem _ mw_127)
  have fl40 := hts (.fieldLink RX2 40 "GroundKeeper$Finder" "size" "I") (List.mem_cons_of_mem _ mw_128)
  have L2 : ∀ N2 : Nat, ∀ (H : Heap) (locs : List Loc) (ce : Nat → va_E) (x1 : Int32) (x2 : Int32), va_P D vwCl (zw 73 ad ce) H → va_S (zA 73 ad) s.heap H locs → gOK cy ad cnt B ce → (0 ≤ x1.toInt ∧ x1.toInt ≤ 93) → (0 ≤ x2.toInt ∧ x2.toInt ≤ 94) → (95 - x2.toInt ≤ (N2 : Int)) → ∀ ls : Array Slot, lv_has ls 6 [(0, .ref (ad 2)), (1, .int x1), (2, .int x2)] → W p l e { frames := 3, cells := 0, slots := 0, locals := 70 } s m ([.ref (ad 2), .int p1] : List Value).toArray below meth c H locs 0 0 (MQ below (zQv D 73 ad (fun ce => gOK cy ad cnt B ce ∧ (True))) ([.ref (ad 2), .int p1] : List Value).toArray s 0 0 (zA 73 ad)) (F0 m 2 ls []) := by
    intro N2
    induction N2 with
    | zero =>
      intro H locs ce x1 x2 hP hS hO q_x1 q_x2 hm ls hl
      exfalso; omega
    | succ N2 ih2 =>
      have J131 : ∀ (H : Heap) (locs : List Loc) (ce : Nat → va_E) (x1 : Int32) (x2 : Int32), va_P D vwCl (zw 73 ad ce) H → va_S (zA 73 ad) s.heap H locs → gOK cy ad cnt B ce → (0 ≤ x1.toInt ∧ x1.toInt ≤ 93) → (0 ≤ x2.toInt ∧ x2.toInt ≤ 93) → (95 - x2.toInt ≤ (N2 : Int) + 1) → ∀ ls : Array Slot, lv_has ls 6 [(0, .ref (ad 2)), (1, .int x1), (2, .int x2)] → W p l e { frames := 3, cells := 0, slots := 0, locals := 70 } s m ([.ref (ad 2), .int p1] : List Value).toArray below meth c H locs 0 0 (MQ below (zQv D 73 ad (fun ce => gOK cy ad cnt B ce ∧ (True))) ([.ref (ad 2), .int p1] : List Value).toArray s 0 0 (zA 73 ad)) (F0 m 131 ls []) := by
        intro H locs ce x1 x2 hP hS hO q_x1 q_x2 qm2 ls hl
        refine z_iinc (lv' := fun w0 => [(2, .int w0), (0, .ref (ad 2)), (1, .int x1)]) hx hb dX2_spreadFrom_131 hl (k := 2) rfl (by decide) (fun _ => rfl) (by decide) (by omega) (fun v131 ls h131 hl => ?_)
        refine lv_goto (tgt := 2) hx hb dX2_spreadFrom_134 (by decide) ?_
        exact ih2 _ _ _ x1 v131 hP hS hO (by omega) (by omega) (by omega) _ (lv_sub hl [1, 2, 0] rfl)
      have J86 : ∀ (H : Heap) (locs : List Loc) (ce : Nat → va_E) (x1 : Int32) (x2 : Int32) (x4 : Int32) (s0 : Int32), va_P D vwCl (zw 73 ad ce) H → va_S (zA 73 ad) s.heap H locs → gOK cy ad cnt B ce → (0 ≤ x1.toInt ∧ x1.toInt ≤ 93) → (0 ≤ x2.toInt ∧ x2.toInt ≤ 93) → (0 ≤ s0.toInt ∧ s0.toInt ≤ 1) → (95 - x2.toInt ≤ (N2 : Int) + 1) → ∀ ls : Array Slot, lv_has ls 6 [(0, .ref (ad 2)), (1, .int x1), (2, .int x2), (4, .int x4)] → W p l e { frames := 3, cells := 0, slots := 0, locals := 70 } s m ([.ref (ad 2), .int p1] : List Value).toArray below meth c H locs 0 0 (MQ below (zQv D 73 ad (fun ce => gOK cy ad cnt B ce ∧ (True))) ([.ref (ad 2), .int p1] : List Value).toArray s 0 0 (zA 73 ad)) (F0 m 86 ls [.int s0]) := by
        intro H locs ce x1 x2 x4 s0 hP hS hO q_x1 q_x2 q_s0 qm2 ls hl
        refine lv_istore (lv' := [(5, .int s0), (0, .ref (ad 2)), (1, .int x1), (2, .int x2), (4, .int x4)]) hx hb dX2_spreadFrom_86 hl (by decide) rfl (fun ls hl => ?_)
        refine lv_iload hx hb dX2_spreadFrom_88 (lv_at hl 0 rfl) ?_
        refine z_if_eq (tgt := 131) hx hb dX2_spreadFrom_90 (by decide) (fun c90 => ?_) (fun c90 => ?_)
        · skip
          exact J131 _ _ _ x1 x2 hP hS hO (by omega) (by omega) (by omega) _ (lv_sub hl [1, 2, 3] rfl)
        · skip
          refine lv_aload_n hx hb dX2_spreadFrom_93 rfl (lv_at hl 1 rfl) ?_
          obtain ⟨v94, v94a, v94b, e94, h94, h94a, h94b, h94c, h94d, h94e⟩ := gg_Fi hO
          refine va_get (ci := 2) (C := RX2) (T := TX2) (N := 9) (v := .ref (ad 1)) hx hb hts inX2 hown hK hP 2 (zw_at (by decide) e94) rfl 0 (by decide) fl9 (fun _ h => h) rfl dX2_spreadFrom_94 ?_
          refine lv_aload_n hx hb dX2_spreadFrom_97 rfl (lv_at hl 1 rfl) ?_
          refine va_get (ci := 2) (C := RX2) (T := TX2) (N := 9) (v := .ref (ad 47)) hx hb hts inX2 hown hK hP 2 (zw_at (by decide) e94) rfl 1 (by decide) fl15 (fun _ h => h) rfl dX2_spreadFrom_98 ?_
          refine lv_iload_n hx hb dX2_spreadFrom_101 rfl (lv_at hl 2 rfl) ?_
          obtain ⟨f102, e102⟩ := gg_Pl hO
          refine z_iald hx hb hK hP (q0 := 47) 0 (by decide) e102 rfl (by omega) dX2_spreadFrom_102 (fun v102 h102a => ?_)
          refine lv_aload_n hx hb dX2_spreadFrom_103 rfl (lv_at hl 1 rfl) ?_
          refine va_get (ci := 2) (C := RX2) (T := TX2) (N := 9) (v := .ref (ad 47)) hx hb hts inX2 hown hK hP 2 (zw_at (by decide) e94) rfl 1 (by decide) fl15 (fun _ h => h) rfl dX2_spreadFrom_104 ?_
          refine lv_iload_n hx hb dX2_spreadFrom_107 rfl (lv_at hl 3 rfl) ?_
          refine z_iald hx hb hK hP (q0 := 47) 0 (by decide) e102 rfl (by omega) dX2_spreadFrom_108 (fun v108 h108 => ?_)
          obtain ⟨v109, e109, h109, h109a, h109b⟩ := gg_Gr hO
          refine z_ci (z_rV (q0 := 1) (As := [.int v102, .int v108]) (rest := []) ⟨hx, hb, hml, hown, hts⟩ (c_X3_judge l D cy ad cnt B hJ v102 v108) (cwV 2 hts (g_V mw_156 mw_157 mw_158 mw_84 mw_159) rfl rfl rfl (by decide +kernel) ⟨Nat.le_of_ble_eq_true rfl, Nat.le_of_ble_eq_true rfl⟩) hK hN hO hP (by decide) e109 rfl rfl hl.1 rfl (Nat.le_of_ble_eq_true rfl) dX2_spreadFrom_109 ⟨Nat.zero_le _, Nat.zero_le _⟩) hS (fun v109a ce H locs h109c hP hS => ?_)
          obtain ⟨hO, h109d⟩ := h109c
          refine z_ic hx hb dX2_spreadFrom_112 (by decide) (fun v112 h112 => ?_)
          refine z_icmp_ne (tgt := 131) hx hb dX2_spreadFrom_113 (by decide) (fun c113 => ?_) (fun c113 => ?_)
          · skip
            exact J131 _ _ _ x1 x2 hP hS hO (by omega) (by omega) (by omega) _ (lv_sub hl [1, 2, 3] rfl)
          · skip
            refine lv_aload_n hx hb dX2_spreadFrom_116 rfl (lv_at hl 1 rfl) ?_
            obtain ⟨v117, v117a, v117b, e117, h117, h117a, h117b, h117c, h117d, h117e⟩ := gg_Fi hO
            refine va_get (ci := 2) (C := RX2) (T := TX2) (N := 9) (v := .ref (ad 48)) hx hb hts inX2 hown hK hP 2 (zw_at (by decide) e117) rfl 2 (by decide) fl19 (fun _ h => h) rfl dX2_spreadFrom_117 ?_
            refine lv_iload_n hx hb dX2_spreadFrom_120 rfl (lv_at hl 3 rfl) ?_
            refine lv_iload hx hb dX2_spreadFrom_121 (lv_at hl 4 rfl) ?_
            obtain ⟨f123, e123⟩ := gg_Ln hO
            refine z_iast hx hb hK hJ hP hS (q0 := 48) 0 (by decide) e123 rfl (z_in (by omega) (by omega)) dX2_spreadFrom_123 (fun ce H locs e123a h123a hP hS => ?_)
            have hO := z_up (OKK := gK cy ad cnt B) 48 hO h123a (by rw [e123a]; exact gE_Ln |>.mpr ⟨_, rfl⟩)
            have e123b := (h123a 2 (by omega)).trans e117
            refine lv_aload_n hx hb dX2_spreadFrom_124 rfl (lv_at hl 1 rfl) ?_
            refine va_get (ci := 2) (C := RX2) (T := TX2) (N := 9) (v := .ref (ad 49)) hx hb hts inX2 hown hK hP 2 (zw_at (by decide) e123b) rfl 3 (by decide) fl22 (fun _ h => h) rfl dX2_spreadFrom_125 ?_
            refine lv_iload_n hx hb dX2_spreadFrom_128 rfl (lv_at hl 3 rfl) ?_
            refine lv_iload_n hx hb dX2_spreadFrom_129 rfl (lv_at hl 2 rfl) ?_
            obtain ⟨f130, e130, h130⟩ := gg_Cf hO
            refine z_iast hx hb hK hJ hP hS (q0 := 49) 0 (by decide) e130 rfl (z_in (by omega) (by omega)) dX2_spreadFrom_130 (fun ce H locs e130a h130a hP hS => ?_)
            have hO := z_up (OKK := gK cy ad cnt B) 49 hO h130a (by rw [e130a]; exact gE_Cf |>.mpr ⟨_, rfl, fun i0 i1 => z_updc h130 (by omega) i0 i1⟩)
            have e130b := (h130a 2 (by omega)).trans e123b
            exact J131 _ _ _ x1 x2 hP hS hO (by omega) (by omega) (by omega) _ (lv_sub hl [1, 2, 3] rfl)
      have J81 : ∀ (H : Heap) (locs : List Loc) (ce : Nat → va_E) (x1 : Int32) (x2 : Int32) (x4 : Int32), va_P D vwCl (zw 73 ad ce) H → va_S (zA 73 ad) s.heap H locs → gOK cy ad cnt B ce → (0 ≤ x1.toInt ∧ x1.toInt ≤ 93) → (0 ≤ x2.toInt ∧ x2.toInt ≤ 93) → (95 - x2.toInt ≤ (N2 : Int) + 1) → ∀ ls : Array Slot, lv_has ls 6 [(0, .ref (ad 2)), (1, .int x1), (2, .int x2), (4, .int x4)] → W p l e { frames := 3, cells := 0, slots := 0, locals := 70 } s m ([.ref (ad 2), .int p1] : List Value).toArray below meth c H locs 0 0 (MQ below (zQv D 73 ad (fun ce => gOK cy ad cnt B ce ∧ (True))) ([.ref (ad 2), .int p1] : List Value).toArray s 0 0 (zA 73 ad)) (F0 m 81 ls []) := by
        intro H locs ce x1 x2 x4 hP hS hO q_x1 q_x2 qm2 ls hl
        refine z_ic hx hb dX2_spreadFrom_81 (by decide) (fun v81 h81 => ?_)
        refine lv_goto (tgt := 86) hx hb dX2_spreadFrom_82 (by decide) ?_
        exact J86 _ _ _ x1 x2 x4 v81 hP hS hO (by omega) (by omega) (by omega) (by omega) _ (lv_sub hl [0, 1, 2, 3] rfl)
      intro H locs ce x1 x2 hP hS hO q_x1 q_x2 hm ls hl
      refine lv_iload_n hx hb dX2_spreadFrom_2 rfl (lv_at hl 2 rfl) ?_
      refine lv_aload_n hx hb dX2_spreadFrom_3 rfl (lv_at hl 0 rfl) ?_
      obtain ⟨v4, v4a, v4b, e4, h4, h4a, h4b, h4c, h4d, h4e⟩ := gg_Fi hO
      refine va_get (ci := 2) (C := RX2) (T := TX2) (N := 9) (v := .int v4) hx hb hts inX2 hown hK hP 2 (zw_at (by decide) e4) rfl 5 (by decide) fl40 (fun _ h => h) rfl dX2_spreadFrom_4 ?_
      refine z_icmp_ge (tgt := 137) hx hb dX2_spreadFrom_7 (by decide) (fun c7 => ?_) (fun c7 => ?_)
      · skip
        exact z_retv hx hb hr hlocks hP hS dX2_spreadFrom_137 ⟨hO, trivial⟩
      · skip
        refine lv_aload_n hx hb dX2_spreadFrom_10 rfl (lv_at hl 0 rfl) ?_
        refine va_get (ci := 2) (C := RX2) (T := TX2) (N := 9) (v := .ref (ad 50)) hx hb hts inX2 hown hK hP 2 (zw_at (by decide) e4) rfl 4 (by decide) fl25 (fun _ h => h) rfl dX2_spreadFrom_11 ?_
        refine lv_iload_n hx hb dX2_spreadFrom_14 rfl (lv_at hl 2 rfl) ?_
        obtain ⟨f15, e15⟩ := gg_St hO
        refine z_zald hx hb hK hP (q0 := 50) 1 (by decide) e15 rfl (by omega) dX2_spreadFrom_15 (fun v15 h15a => ?_)
        refine z_if_eq (tgt := 22) hx hb dX2_spreadFrom_16 (by decide) (fun c16 => ?_) (fun c16 => ?_)
        · skip
          refine lv_aload_n hx hb dX2_spreadFrom_22 rfl (lv_at hl 0 rfl) ?_
          refine va_get (ci := 2) (C := RX2) (T := TX2) (N := 9) (v := .ref (ad 1)) hx hb hts inX2 hown hK hP 2 (zw_at (by decide) e4) rfl 0 (by decide) fl9 (fun _ h => h) rfl dX2_spreadFrom_23 ?_
          refine lv_aload_n hx hb dX2_spreadFrom_26 rfl (lv_at hl 0 rfl) ?_
          refine va_get (ci := 2) (C := RX2) (T := TX2) (N := 9) (v := .ref (ad 47)) hx hb hts inX2 hown hK hP 2 (zw_at (by decide) e4) rfl 1 (by decide) fl15 (fun _ h => h) rfl dX2_spreadFrom_27 ?_
          refine lv_iload_n hx hb dX2_spreadFrom_30 rfl (lv_at hl 1 rfl) ?_
          obtain ⟨f31, e31⟩ := gg_Pl hO
          refine z_iald hx hb hK hP (q0 := 47) 0 (by decide) e31 rfl (by omega) dX2_spreadFrom_31 (fun v31 h31a => ?_)
          refine lv_aload_n hx hb dX2_spreadFrom_32 rfl (lv_at hl 0 rfl) ?_
          refine va_get (ci := 2) (C := RX2) (T := TX2) (N := 9) (v := .ref (ad 47)) hx hb hts inX2 hown hK hP 2 (zw_at (by decide) e4) rfl 1 (by decide) fl15 (fun _ h => h) rfl dX2_spreadFrom_33 ?_
          refine lv_iload_n hx hb dX2_spreadFrom_36 rfl (lv_at hl 2 rfl) ?_
          refine z_iald hx hb hK hP (q0 := 47) 0 (by decide) e31 rfl (by omega) dX2_spreadFrom_37 (fun v37 h37 => ?_)
          obtain ⟨v38, e38, h38, h38a, h38b⟩ := gg_Gr hO
          refine z_ciP (z_rV (q0 := 1) (As := [.int v31, .int v37]) (rest := []) ⟨hx, hb, hml, hown, hts⟩ (c_X3_stepLength l D cy ad cnt B (fun c1 => c1 = ce) hJ v31 v37) (cwV 2 hts (g_V mw_160 mw_161 mw_162 mw_84 mw_163) rfl rfl rfl (by decide +kernel) ⟨Nat.le_of_ble_eq_true rfl, Nat.le_of_ble_eq_true rfl⟩) hK hN ⟨hO, rfl⟩ hP (by decide) e38 rfl rfl hl.1 rfl (Nat.le_of_ble_eq_true rfl) dX2_spreadFrom_38 ⟨Nat.zero_le _, Nat.zero_le _⟩) hS (fun _ h => h.2) (fun v38a H locs h38c hP hS => ?_)
          refine lv_istore_n (lv' := [(3, .int v38a), (0, .ref (ad 2)), (1, .int x1), (2, .int x2)]) hx hb dX2_spreadFrom_41 rfl hl (by decide) rfl (fun ls hl => ?_)
          refine lv_iload_n hx hb dX2_spreadFrom_42 rfl (lv_at hl 0 rfl) ?_
          refine z_ic hx hb dX2_spreadFrom_43 (by decide) (fun v43 h43 => ?_)
          refine z_icmp_ne (tgt := 50) hx hb dX2_spreadFrom_44 (by decide) (fun c44 => ?_) (fun c44 => ?_)
          · skip
            refine lv_aload_n hx hb dX2_spreadFrom_50 rfl (lv_at hl 1 rfl) ?_
            refine va_get (ci := 2) (C := RX2) (T := TX2) (N := 9) (v := .ref (ad 48)) hx hb hts inX2 hown hK hP 2 (zw_at (by decide) e4) rfl 2 (by decide) fl19 (fun _ h => h) rfl dX2_spreadFrom_51 ?_
            refine lv_iload_n hx hb dX2_spreadFrom_54 rfl (lv_at hl 2 rfl) ?_
            obtain ⟨f55, e55⟩ := gg_Ln hO
            refine z_iald hx hb hK hP (q0 := 48) 0 (by decide) e55 rfl (by omega) dX2_spreadFrom_55 (fun v55 h55a => ?_)
            refine lv_iload_n hx hb dX2_spreadFrom_56 rfl (lv_at hl 0 rfl) ?_
            refine lv_iadd hx hb dX2_spreadFrom_57 ?_
            refine lv_topi (fun v57 _ => ?_)
            refine lv_istore (lv' := [(4, .int v57), (3, .int v38a), (0, .ref (ad 2)), (1, .int x1), (2, .int x2)]) hx hb dX2_spreadFrom_58 hl (by decide) rfl (fun ls hl => ?_)
            refine lv_aload_n hx hb dX2_spreadFrom_60 rfl (lv_at hl 2 rfl) ?_
            refine va_get (ci := 2) (C := RX2) (T := TX2) (N := 9) (v := .ref (ad 48)) hx hb hts inX2 hown hK hP 2 (zw_at (by decide) e4) rfl 2 (by decide) fl19 (fun _ h => h) rfl dX2_spreadFrom_61 ?_
            refine lv_iload_n hx hb dX2_spreadFrom_64 rfl (lv_at hl 4 rfl) ?_
            refine z_iald hx hb hK hP (q0 := 48) 0 (by decide) e55 rfl (by omega) dX2_spreadFrom_65 (fun v65 h65 => ?_)
            refine z_ic hx hb dX2_spreadFrom_66 (by decide) (fun v66 h66 => ?_)
            refine z_icmp_eq (tgt := 81) hx hb dX2_spreadFrom_67 (by decide) (fun c67 => ?_) (fun c67 => ?_)
            · skip
              exact J81 _ _ _ x1 x2 v57 hP hS hO (by omega) (by omega) (by omega) _ (lv_sub hl [2, 3, 4, 0] rfl)
            · skip
              refine lv_iload hx hb dX2_spreadFrom_70 (lv_at hl 0 rfl) ?_
              refine lv_aload_n hx hb dX2_spreadFrom_72 rfl (lv_at hl 2 rfl) ?_
              refine va_get (ci := 2) (C := RX2) (T := TX2) (N := 9) (v := .ref (ad 48)) hx hb hts inX2 hown hK hP 2 (zw_at (by decide) e4) rfl 2 (by decide) fl19 (fun _ h => h) rfl dX2_spreadFrom_73 ?_
              refine lv_iload_n hx hb dX2_spreadFrom_76 rfl (lv_at hl 4 rfl) ?_
              refine z_iald hx hb hK hP (q0 := 48) 0 (by decide) e55 rfl (by omega) dX2_spreadFrom_77 (fun v77 h77 => ?_)
              have h77a : v77.toInt = v65.toInt := z_same h77 h65
              refine z_icmp_ge (tgt := 85) hx hb dX2_spreadFrom_78 (by decide) (fun c78 => ?_) (fun c78 => ?_)
              · skip
                refine z_ic hx hb dX2_spreadFrom_85 (by decide) (fun v85 h85 => ?_)
                exact J86 _ _ _ x1 x2 v57 v85 hP hS hO (by omega) (by omega) (by omega) (by omega) _ (lv_sub hl [2, 3, 4, 0] rfl)
              · skip
                exact J81 _ _ _ x1 x2 v57 hP hS hO (by omega) (by omega) (by omega) _ (lv_sub hl [2, 3, 4, 0] rfl)
          · skip
            refine lv_goto (tgt := 131) hx hb dX2_spreadFrom_47 (by decide) ?_
            exact J131 _ _ _ x1 x2 hP hS hO (by omega) (by omega) (by omega) _ (lv_sub hl [1, 2, 3] rfl)
        · skip
          refine lv_goto (tgt := 131) hx hb dX2_spreadFrom_19 (by decide) ?_
          exact J131 _ _ _ x1 x2 hP hS hO (by omega) (by omega) (by omega) _ (lv_sub hl [0, 1, 2] rfl)
  intro ls hl
  have hl : lv_has ls 6 [(0, .ref (ad 2)), (1, .int p1)] := hl
  refine z_ic hx hb dX2_spreadFrom_0 (by decide) (fun v0 h0 => ?_)
  refine lv_istore_n (lv' := [(2, .int v0), (0, .ref (ad 2)), (1, .int p1)]) hx hb dX2_spreadFrom_1 rfl hl (by decide) rfl (fun ls hl => ?_)
  exact L2 96 _ _ _ p1 v0 hP hS hO (by omega) (by omega) (by omega) _ (lv_sub hl [1, 2, 0] rfl)
set_option maxHeartbeats 8000000 in
set_option maxRecDepth 100000 in
theorem c_X2_explore (l : Launch) (D : va_G) (cy : Nat → ClassId) (ad : Nat → Nat) (cnt : Nat → Nat) (B : Nat) (hJ : zJ 73 ad) (p1 : Int32) (p2 : Int32) (p3 : Int32) (q_p3 : 0 ≤ p3.toInt ∧ p3.toInt ≤ 1) : zM l D (gT cy) 73 ad (gOK cy ad cnt B) yX2_explore vsX2_explore { frames := 4, cells := 0, slots := 0, locals := 95 } ([.ref (ad 2), .int p1, .int p2, .int p3] : List Value) (zQv D 73 ad (fun ce => gOK cy ad cnt B ce ∧ (True))) := by
  refine z_of (cc := cX2_explore) (maxL := 6) (ret := none) (by decide) rfl (Nat.le_of_ble_eq_true rfl) ?_
  intro p e s m below meth c hx hb hr hts hown hlocks hml hK hN ce hOK hP
  have hown : s.vm.findClass RX2 = some m.cls := hown
  have hS : va_S (zA 73 ad) s.heap s.heap [] := va_S.rf
  have hO := hOK
  have inX2 : ∀ w ∈ u_ws RX2 TX2 9, w ∈ vsX2_explore := fun w h => List.mem_cons_of_mem _ (inlX2 w h)
  have fl19 := hts (.fieldLink RX2 19 "GroundKeeper$Finder" "lengths" "[I") (List.mem_cons_of_mem _ mw_125)
  have fl25 := hts (.fieldLink RX2 25 "GroundKeeper$Finder" "settled" "[Z") (List.mem_cons_of_mem _ mw_127)
  have fl40 := hts (.fieldLink RX2 40 "GroundKeeper$Finder" "size" "I") (List.mem_cons_of_mem _ mw_128)
  have L16 : ∀ N16 : Nat, ∀ (H : Heap) (locs : List Loc) (ce : Nat → va_E) (x3 : Int32) (x4 : Int32), va_P D vwCl (zw 73 ad ce) H → va_S (zA 73 ad) s.heap H locs → gOK cy ad cnt B ce → (0 ≤ x3.toInt ∧ x3.toInt ≤ 1) → (0 ≤ x4.toInt ∧ x4.toInt ≤ 94) → (95 - x4.toInt ≤ (N16 : Int)) → ∀ ls : Array Slot, lv_has ls 6 [(0, .ref (ad 2)), (3, .int x3), (4, .int x4)] → W p l e { frames := 4, cells := 0, slots := 0, locals := 95 } s m ([.ref (ad 2), .int p1, .int p2, .int p3] : List Value).toArray below meth c H locs 0 0 (MQ below (zQv D 73 ad (fun ce => gOK cy ad cnt B ce ∧ (True))) ([.ref (ad 2), .int p1, .int p2, .int p3] : List Value).toArray s 0 0 (zA 73 ad)) (F0 m 16 ls []) := by
    intro N16
    induction N16 with
    | zero =>
      intro H locs ce x3 x4 hP hS hO q_x3 q_x4 hm ls hl
      exfalso; omega
    | succ N16 ih16 =>
      have J48 : ∀ (H : Heap) (locs : List Loc) (ce : Nat → va_E) (x3 : Int32) (x4 : Int32) (x5 : Int32), va_P D vwCl (zw 73 ad ce) H → va_S (zA 73 ad) s.heap H locs → gOK cy ad cnt B ce → (0 ≤ x3.toInt ∧ x3.toInt ≤ 1) → (0 ≤ x4.toInt ∧ x4.toInt ≤ 93) → (0 ≤ x5.toInt ∧ x5.toInt ≤ 93) → (95 - x4.toInt ≤ (N16 : Int) + 1) → ∀ ls : Array Slot, lv_has ls 6 [(0, .ref (ad 2)), (3, .int x3), (4, .int x4), (5, .int x5)] → W p l e { frames := 4, cells := 0, slots := 0, locals := 95 } s m ([.ref (ad 2), .int p1, .int p2, .int p3] : List Value).toArray below meth c H locs 0 0 (MQ below (zQv D 73 ad (fun ce => gOK cy ad cnt B ce ∧ (True))) ([.ref (ad 2), .int p1, .int p2, .int p3] : List Value).toArray s 0 0 (zA 73 ad)) (F0 m 48 ls []) := by
        intro H locs ce x3 x4 x5 hP hS hO q_x3 q_x4 q_x5 qm16 ls hl
        refine lv_aload_n hx hb dX2_explore_48 rfl (lv_at hl 0 rfl) ?_
        obtain ⟨v49, v49a, v49b, e49, h49, h49a, h49b, h49c, h49d, h49e⟩ := gg_Fi hO
        refine va_get (ci := 2) (C := RX2) (T := TX2) (N := 9) (v := .ref (ad 50)) hx hb hts inX2 hown hK hP 2 (zw_at (by decide) e49) rfl 4 (by decide) fl25 (fun _ h => h) rfl dX2_explore_49 ?_
        refine lv_iload hx hb dX2_explore_52 (lv_at hl 3 rfl) ?_
        refine z_ic hx hb dX2_explore_54 (by decide) (fun v54 h54 => ?_)
        obtain ⟨f55, e55⟩ := gg_St hO
        refine z_zast hx hb hK hJ hP hS (q0 := 50) 1 (by decide) e55 rfl (z_in (by omega) (by omega)) dX2_explore_55 (fun ce H locs e55a h55a hP hS => ?_)
        have hO := z_up (OKK := gK cy ad cnt B) 50 hO h55a (by rw [e55a]; exact gE_St |>.mpr ⟨_, rfl⟩)
        have e55b := (h55a 2 (by omega)).trans e49
        refine lv_aload_n hx hb dX2_explore_56 rfl (lv_at hl 0 rfl) ?_
        refine lv_iload hx hb dX2_explore_57 (lv_at hl 3 rfl) ?_
        refine z_cv (z_rV (q0 := 2) (As := [.int x5]) (rest := []) ⟨hx, hb, hml, hown, hts⟩ (c_X2_spreadFrom l D cy ad cnt B hJ x5 (by omega)) (cwV 1 hts (g_V mw_164 mw_165 mw_166 mw_146 mw_167) rfl rfl rfl (by decide +kernel) ⟨Nat.le_of_ble_eq_true rfl, Nat.le_of_ble_eq_true rfl⟩) hK hN hO hP (by decide) e55b rfl rfl hl.1 rfl (Nat.le_of_ble_eq_true rfl) dX2_explore_59 ⟨Nat.zero_le _, Nat.zero_le _⟩) hS (fun ce H locs h59 hP hS => ?_)
        obtain ⟨hO, h59a⟩ := h59
        refine z_iinc (lv' := fun w0 => [(4, .int w0), (0, .ref (ad 2)), (3, .int x3), (5, .int x5)]) hx hb dX2_explore_62 hl (k := 2) rfl (by decide) (fun _ => rfl) (by decide) (by omega) (fun v62 ls h62 hl => ?_)
        refine lv_goto (tgt := 16) hx hb dX2_explore_65 (by decide) ?_
        exact ih16 _ _ _ x3 v62 hP hS hO (by omega) (by omega) (by omega) _ (lv_sub hl [1, 2, 0] rfl)
      intro H locs ce x3 x4 hP hS hO q_x3 q_x4 hm ls hl
      refine lv_iload hx hb dX2_explore_16 (lv_at hl 2 rfl) ?_
      refine lv_aload_n hx hb dX2_explore_18 rfl (lv_at hl 0 rfl) ?_
      obtain ⟨v19, v19a, v19b, e19, h19, h19a, h19b, h19c, h19d, h19e⟩ := gg_Fi hO
      refine va_get (ci := 2) (C := RX2) (T := TX2) (N := 9) (v := .int v19) hx hb hts inX2 hown hK hP 2 (zw_at (by decide) e19) rfl 5 (by decide) fl40 (fun _ h => h) rfl dX2_explore_19 ?_
      refine z_icmp_ge (tgt := 68) hx hb dX2_explore_22 (by decide) (fun c22 => ?_) (fun c22 => ?_)
      · skip
        exact z_retv hx hb hr hlocks hP hS dX2_explore_68 ⟨hO, trivial⟩
      · skip
        refine lv_aload_n hx hb dX2_explore_25 rfl (lv_at hl 0 rfl) ?_
        refine z_ciP (z_rV (q0 := 2) (As := []) (rest := []) ⟨hx, hb, hml, hown, hts⟩ (c_X2_nearest l D cy ad cnt B (fun c1 => c1 = ce) hJ) (cwV 0 hts (g_V mw_168 mw_169 mw_170 mw_146 mw_171) rfl rfl rfl (by decide +kernel) ⟨Nat.le_of_ble_eq_true rfl, Nat.le_of_ble_eq_true rfl⟩) hK hN ⟨hO, rfl⟩ hP (by decide) e19 rfl rfl hl.1 rfl (Nat.le_of_ble_eq_true rfl) dX2_explore_26 ⟨Nat.zero_le _, Nat.zero_le _⟩) hS (fun _ h => h.2) (fun v26 H locs h26 hP hS => ?_)
        refine lv_istore (lv' := [(5, .int v26), (0, .ref (ad 2)), (3, .int x3), (4, .int x4)]) hx hb dX2_explore_29 hl (by decide) rfl (fun ls hl => ?_)
        refine lv_iload hx hb dX2_explore_31 (lv_at hl 0 rfl) ?_
        refine z_ic hx hb dX2_explore_33 (by decide) (fun v33 h33 => ?_)
        refine z_icmp_eq (tgt := 47) hx hb dX2_explore_34 (by decide) (fun c34 => ?_) (fun c34 => ?_)
        · skip
          exact z_retv hx hb hr hlocks hP hS dX2_explore_47 ⟨hO, trivial⟩
        · skip
          refine lv_iload hx hb dX2_explore_37 (lv_at hl 0 rfl) ?_
          refine z_ic hx hb dX2_explore_39 (by decide) (fun v39 h39 => ?_)
          refine z_icmp_ne (tgt := 48) hx hb dX2_explore_40 (by decide) (fun c40 => ?_) (fun c40 => ?_)
          · skip
            exact J48 _ _ _ x3 x4 v26 hP hS hO (by omega) (by omega) (by omega) (by omega) _ (lv_sub hl [1, 2, 3, 0] rfl)
          · skip
            refine lv_iload_n hx hb dX2_explore_43 rfl (lv_at hl 2 rfl) ?_
            refine z_if_ne (tgt := 48) hx hb dX2_explore_44 (by decide) (fun c44 => ?_) (fun c44 => ?_)
            · skip
              exact J48 _ _ _ x3 x4 v26 hP hS hO (by omega) (by omega) (by omega) (by omega) _ (lv_sub hl [1, 2, 3, 0] rfl)
            · skip
              exact z_retv hx hb hr hlocks hP hS dX2_explore_47 ⟨hO, trivial⟩
  intro ls hl
  have hl : lv_has ls 6 [(0, .ref (ad 2)), (1, .int p1), (2, .int p2), (3, .int p3)] := hl
  refine lv_aload_n hx hb dX2_explore_0 rfl (lv_at hl 0 rfl) ?_
  refine lv_iload_n hx hb dX2_explore_1 rfl (lv_at hl 1 rfl) ?_
  refine lv_iload_n hx hb dX2_explore_2 rfl (lv_at hl 2 rfl) ?_
  obtain ⟨v3, v3a, v3b, e3, h3, h3a, h3b, h3c, h3d, h3e⟩ := gg_Fi hO
  refine z_cv (z_rV (q0 := 2) (As := [.int p1, .int p2]) (rest := []) ⟨hx, hb, hml, hown, hts⟩ (c_X2_gather l D cy ad cnt B hJ p1 p2) (cwV 2 hts (g_V mw_172 mw_173 mw_174 mw_146 mw_175) rfl rfl rfl (by decide +kernel) ⟨Nat.le_of_ble_eq_true rfl, Nat.le_of_ble_eq_true rfl⟩) hK hN hO hP (by decide) e3 rfl rfl hl.1 rfl (Nat.le_of_ble_eq_true rfl) dX2_explore_3 ⟨Nat.zero_le _, Nat.zero_le _⟩) hS (fun ce H locs h3f hP hS => ?_)
  obtain ⟨hO, h3g⟩ := h3f
  refine lv_aload_n hx hb dX2_explore_6 rfl (lv_at hl 0 rfl) ?_
  obtain ⟨v7, v7a, v7b, e7, h7, h7a, h7b, h7c, h7d, h7e⟩ := gg_Fi hO
  refine va_get (ci := 2) (C := RX2) (T := TX2) (N := 9) (v := .ref (ad 48)) hx hb hts inX2 hown hK hP 2 (zw_at (by decide) e7) rfl 2 (by decide) fl19 (fun _ h => h) rfl dX2_explore_7 ?_
  refine z_ic hx hb dX2_explore_10 (by decide) (fun v10 h10 => ?_)
  refine z_ic hx hb dX2_explore_11 (by decide) (fun v11 h11 => ?_)
  obtain ⟨f12, e12⟩ := gg_Ln hO
  refine z_iast hx hb hK hJ hP hS (q0 := 48) 0 (by decide) e12 rfl (z_in (by omega) (by omega)) dX2_explore_12 (fun ce H locs e12a h12a hP hS => ?_)
  have hO := z_up (OKK := gK cy ad cnt B) 48 hO h12a (by rw [e12a]; exact gE_Ln |>.mpr ⟨_, rfl⟩)
  have e12b := (h12a 2 (by omega)).trans e7
  refine z_ic hx hb dX2_explore_13 (by decide) (fun v13 h13 => ?_)
  refine lv_istore (lv' := [(4, .int v13), (0, .ref (ad 2)), (1, .int p1), (2, .int p2), (3, .int p3)]) hx hb dX2_explore_14 hl (by decide) rfl (fun ls hl => ?_)
  exact L16 96 _ _ _ p3 v13 hP hS hO (by omega) (by omega) (by omega) _ (lv_sub hl [1, 4, 0] rfl)
set_option maxHeartbeats 8000000 in
set_option maxRecDepth 100000 in
theorem c_X2_writeWay (l : Launch) (D : va_G) (cy : Nat → ClassId) (ad : Nat → Nat) (cnt : Nat → Nat) (B : Nat) (hJ : zJ 73 ad) (a1 : Nat) (q_a1 : a1 < 7) : zM l D (gT cy) 73 ad (gOK cy ad cnt B) yX2_writeWay vsX2_writeWay { frames := 0, cells := 0, slots := 0, locals := 0 } ([.ref (ad 2), .ref (ad (59 + a1))] : List Value) (zQv D 73 ad (fun ce => gOK cy ad cnt B ce ∧ (True))) := by
  refine z_of (cc := cX2_writeWay) (maxL := 5) (ret := none) (by decide) rfl (Nat.le_of_ble_eq_true rfl) ?_
  intro p e s m below meth c hx hb hr hts hown hlocks hml hK hN ce hOK hP
  have hown : s.vm.findClass RX2 = some m.cls := hown
  have hS : va_S (zA 73 ad) s.heap s.heap [] := va_S.rf
  have hO := hOK
  have inX2 : ∀ w ∈ u_ws RX2 TX2 9, w ∈ vsX2_writeWay := fun w h => List.mem_cons_of_mem _ (inlX2 w h)
  have inX5 : ∀ w ∈ u_ws RX5 TX5 2, w ∈ vsX2_writeWay := fun w h => List.mem_cons_of_mem _ (inlX5 w h)
  have fl15 := hts (.fieldLink RX2 15 "GroundKeeper$Finder" "places" "[I") (List.mem_cons_of_mem _ mw_129)
  have fl22 := hts (.fieldLink RX2 22 "GroundKeeper$Finder" "cameFrom" "[I") (List.mem_cons_of_mem _ mw_130)
  have fl54 := hts (.fieldLink RX2 54 "GroundKeeper$Row" "size" "I") (List.mem_cons_of_mem _ mw_140)
  have fl57 := hts (.fieldLink RX2 57 "GroundKeeper$Row" "places" "[I") (List.mem_cons_of_mem _ mw_141)
  have L39 : ∀ N39 : Nat, ∀ (H : Heap) (locs : List Loc) (ce : Nat → va_E) (j1 : Nat) (x3 : Int32) (x4 : Int32), va_P D vwCl (zw 73 ad ce) H → va_S (zA 73 ad) s.heap H locs → gOK cy ad cnt B ce → (j1 < 7) → (0 ≤ x3.toInt ∧ x3.toInt ≤ 93) → (-1 ≤ x4.toInt ∧ x4.toInt ≤ 93) → (x4.toInt - (-2) ≤ (N39 : Int)) → ∀ ls : Array Slot, lv_has ls 5 [(0, .ref (ad 2)), (1, .ref (ad (59 + j1))), (3, .int x3), (4, .int x4)] → W p l e { frames := 0, cells := 0, slots := 0, locals := 0 } s m ([.ref (ad 2), .ref (ad (59 + a1))] : List Value).toArray below meth c H locs 0 0 (MQ below (zQv D 73 ad (fun ce => gOK cy ad cnt B ce ∧ (True))) ([.ref (ad 2), .ref (ad (59 + a1))] : List Value).toArray s 0 0 (zA 73 ad)) (F0 m 39 ls []) := by
    intro N39
    induction N39 with
    | zero =>
      intro H locs ce j1 x3 x4 hP hS hO q_j1 q_x3 q_x4 hm ls hl
      exfalso; omega
    | succ N39 ih39 =>
      intro H locs ce j1 x3 x4 hP hS hO q_j1 q_x3 q_x4 hm ls hl
      refine lv_iload hx hb dX2_writeWay_39 (lv_at hl 3 rfl) ?_
      refine z_if_lt (tgt := 70) hx hb dX2_writeWay_41 (by decide) (fun c41 => ?_) (fun c41 => ?_)
      · skip
        exact z_retv hx hb hr hlocks hP hS dX2_writeWay_70 ⟨hO, trivial⟩
      · skip
        refine lv_aload_n hx hb dX2_writeWay_44 rfl (lv_at hl 1 rfl) ?_
        obtain ⟨v45, e45, h45, h45a⟩ := gg_Rw hO (j := j1) (by omega)
        refine va_get (ci := 5) (C := RX5) (T := TX5) (N := 2) (v := .ref (ad (66 + j1))) hx hb hts inX5 hown hK hP (59 + j1) (zw_at (by omega) e45) rfl 0 (by decide) fl57 (fun _ h => h) rfl dX2_writeWay_45 ?_
        refine lv_iload hx hb dX2_writeWay_48 (lv_at hl 3 rfl) ?_
        refine lv_aload_n hx hb dX2_writeWay_50 rfl (lv_at hl 0 rfl) ?_
        obtain ⟨v51, v51a, v51b, e51, h51, h51a, h51b, h51c, h51d, h51e⟩ := gg_Fi hO
        refine va_get (ci := 2) (C := RX2) (T := TX2) (N := 9) (v := .ref (ad 47)) hx hb hts inX2 hown hK hP 2 (zw_at (by decide) e51) rfl 1 (by decide) fl15 (fun _ h => h) rfl dX2_writeWay_51 ?_
        refine lv_iload_n hx hb dX2_writeWay_54 rfl (lv_at hl 2 rfl) ?_
        obtain ⟨f55, e55⟩ := gg_Pl hO
        refine z_iald hx hb hK hP (q0 := 47) 0 (by decide) e55 rfl (by omega) dX2_writeWay_55 (fun v55 h55a => ?_)
        obtain ⟨f56, e56⟩ := gg_Rp hO (j := j1) (by omega)
        refine z_iast hx hb hK hJ hP hS (q0 := (66 + j1)) 0 (by omega) e56 rfl (z_in (by omega) (by omega)) dX2_writeWay_56 (fun ce H locs e56a h56a hP hS => ?_)
        have hO := z_up (OKK := gK cy ad cnt B) (66 + j1) hO h56a (by rw [e56a]; exact gE_Rp (by omega) |>.mpr ⟨_, rfl⟩)
        have e56b := (h56a (59 + j1) (by omega)).trans e45
        have e56c := (h56a 2 (by omega)).trans e51
        have e56d := (h56a 47 (by omega)).trans e55
        refine lv_aload_n hx hb dX2_writeWay_57 rfl (lv_at hl 0 rfl) ?_
        refine va_get (ci := 2) (C := RX2) (T := TX2) (N := 9) (v := .ref (ad 49)) hx hb hts inX2 hown hK hP 2 (zw_at (by decide) e56c) rfl 3 (by decide) fl22 (fun _ h => h) rfl dX2_writeWay_58 ?_
        refine lv_iload_n hx hb dX2_writeWay_61 rfl (lv_at hl 2 rfl) ?_
        obtain ⟨f62, e62, h62⟩ := gg_Cf hO
        refine z_iald hx hb hK hP (q0 := 49) 0 (by decide) e62 rfl (by omega) dX2_writeWay_62 (fun v62 h62a => ?_)
        have h62b : 0 ≤ v62.toInt ∧ v62.toInt ≤ 93 := by obtain ⟨i0, _, i1, i2⟩ := h62a; rw [i2]; exact h62 i0 i1
        refine lv_istore_n (lv' := [(3, .int v62), (0, .ref (ad 2)), (1, .ref (ad (59 + j1))), (4, .int x4)]) hx hb dX2_writeWay_63 rfl hl (by decide) rfl (fun ls hl => ?_)
        refine z_iinc (lv' := fun w0 => [(4, .int w0), (3, .int v62), (0, .ref (ad 2)), (1, .ref (ad (59 + j1)))]) hx hb dX2_writeWay_64 hl (k := 3) rfl (by decide) (fun _ => rfl) (by decide) (by omega) (fun v64 ls h64 hl => ?_)
        refine lv_goto (tgt := 39) hx hb dX2_writeWay_67 (by decide) ?_
        exact ih39 _ _ _ j1 v62 v64 hP hS hO (by omega) (by omega) (by omega) (by omega) _ (lv_sub hl [2, 3, 1, 0] rfl)
  have J27 : ∀ (H : Heap) (locs : List Loc) (ce : Nat → va_E) (j1 : Nat) (x2 : Int32), va_P D vwCl (zw 73 ad ce) H → va_S (zA 73 ad) s.heap H locs → gOK cy ad cnt B ce → (j1 < 7) → (1 ≤ x2.toInt ∧ x2.toInt ≤ 94) → ∀ ls : Array Slot, lv_has ls 5 [(0, .ref (ad 2)), (1, .ref (ad (59 + j1))), (2, .int x2)] → W p l e { frames := 0, cells := 0, slots := 0, locals := 0 } s m ([.ref (ad 2), .ref (ad (59 + a1))] : List Value).toArray below meth c H locs 0 0 (MQ below (zQv D 73 ad (fun ce => gOK cy ad cnt B ce ∧ (True))) ([.ref (ad 2), .ref (ad (59 + a1))] : List Value).toArray s 0 0 (zA 73 ad)) (F0 m 27 ls []) := by
    intro H locs ce j1 x2 hP hS hO q_j1 q_x2 ls hl
    refine lv_aload_n hx hb dX2_writeWay_27 rfl (lv_at hl 1 rfl) ?_
    refine lv_iload_n hx hb dX2_writeWay_28 rfl (lv_at hl 2 rfl) ?_
    obtain ⟨v29, e29, h29, h29a⟩ := gg_Rw hO (j := j1) (by omega)
    refine z_put (q0 := (59 + j1)) (ci := 5) (C := RX5) (T := TX5) (N := 2) hx hb hts inX5 tyX5 tyX5_ok nmX5 hown hK hJ hP hS (by omega) e29 rfl 1 (by decide) fl54 (fun _ h => h) rfl (ty := .int) (by decide +kernel) rfl rfl (Nat.le_of_ble_eq_true rfl) (fs1 := [.ref (ad (66 + j1)), .int x2]) rfl dX2_writeWay_29 (fun ce H locs e29a h29b hP hS => ?_)
    have hO := z_up (OKK := gK cy ad cnt B) (59 + j1) hO h29b (by rw [e29a]; exact gE_Rw (by omega) |>.mpr ⟨x2, rfl, by omega, by omega⟩)
    refine z_ic hx hb dX2_writeWay_32 (by decide) (fun v32 h32 => ?_)
    refine lv_istore_n (lv' := [(3, .int v32), (0, .ref (ad 2)), (1, .ref (ad (59 + j1))), (2, .int x2)]) hx hb dX2_writeWay_33 rfl hl (by decide) rfl (fun ls hl => ?_)
    refine lv_iload_n hx hb dX2_writeWay_34 rfl (lv_at hl 3 rfl) ?_
    refine z_ic hx hb dX2_writeWay_35 (by decide) (fun v35 h35 => ?_)
    refine z_subE hx hb dX2_writeWay_36 (by omega) (fun v36 h36 => ?_)
    refine lv_istore (lv' := [(4, .int v36), (3, .int v32), (0, .ref (ad 2)), (1, .ref (ad (59 + j1))), (2, .int x2)]) hx hb dX2_writeWay_37 hl (by decide) rfl (fun ls hl => ?_)
    exact L39 96 _ _ _ j1 v32 v36 hP hS hO (by omega) (by omega) (by omega) (by omega) _ (lv_sub hl [2, 3, 1, 0] rfl)
  have L4 : ∀ N4 : Nat, ∀ (H : Heap) (locs : List Loc) (ce : Nat → va_E) (j1 : Nat) (x2 : Int32) (x3 : Int32), va_P D vwCl (zw 73 ad ce) H → va_S (zA 73 ad) s.heap H locs → gOK cy ad cnt B ce → (j1 < 7) → (1 ≤ x2.toInt ∧ x2.toInt ≤ 94) → (0 ≤ x3.toInt ∧ x3.toInt ≤ 93) → (95 - x2.toInt ≤ (N4 : Int)) → ∀ ls : Array Slot, lv_has ls 5 [(0, .ref (ad 2)), (1, .ref (ad (59 + j1))), (2, .int x2), (3, .int x3)] → W p l e { frames := 0, cells := 0, slots := 0, locals := 0 } s m ([.ref (ad 2), .ref (ad (59 + a1))] : List Value).toArray below meth c H locs 0 0 (MQ below (zQv D 73 ad (fun ce => gOK cy ad cnt B ce ∧ (True))) ([.ref (ad 2), .ref (ad (59 + a1))] : List Value).toArray s 0 0 (zA 73 ad)) (F0 m 4 ls []) := by
    intro N4
    induction N4 with
    | zero =>
      intro H locs ce j1 x2 x3 hP hS hO q_j1 q_x2 q_x3 hm ls hl
      exfalso; omega
    | succ N4 ih4 =>
      intro H locs ce j1 x2 x3 hP hS hO q_j1 q_x2 q_x3 hm ls hl
      refine lv_iload_n hx hb dX2_writeWay_4 rfl (lv_at hl 3 rfl) ?_
      refine z_if_eq (tgt := 27) hx hb dX2_writeWay_5 (by decide) (fun c5 => ?_) (fun c5 => ?_)
      · skip
        exact J27 _ _ _ j1 x2 hP hS hO (by omega) (by omega) _ (lv_sub hl [0, 1, 2] rfl)
      · skip
        refine lv_iload_n hx hb dX2_writeWay_8 rfl (lv_at hl 2 rfl) ?_
        refine z_bi hx hb dX2_writeWay_9 (by decide) (fun v9 h9 => ?_)
        refine z_icmp_ge (tgt := 27) hx hb dX2_writeWay_11 (by decide) (fun c11 => ?_) (fun c11 => ?_)
        · skip
          exact J27 _ _ _ j1 x2 hP hS hO (by omega) (by omega) _ (lv_sub hl [0, 1, 2] rfl)
        · skip
          refine z_iinc (lv' := fun w0 => [(2, .int w0), (0, .ref (ad 2)), (1, .ref (ad (59 + j1))), (3, .int x3)]) hx hb dX2_writeWay_14 hl (k := 2) rfl (by decide) (fun _ => rfl) (by decide) (by omega) (fun v14 ls h14 hl => ?_)
          refine lv_aload_n hx hb dX2_writeWay_17 rfl (lv_at hl 1 rfl) ?_
          obtain ⟨v18, v18a, v18b, e18, h18, h18a, h18b, h18c, h18d, h18e⟩ := gg_Fi hO
          refine va_get (ci := 2) (C := RX2) (T := TX2) (N := 9) (v := .ref (ad 49)) hx hb hts inX2 hown hK hP 2 (zw_at (by decide) e18) rfl 3 (by decide) fl22 (fun _ h => h) rfl dX2_writeWay_18 ?_
          refine lv_iload_n hx hb dX2_writeWay_21 rfl (lv_at hl 3 rfl) ?_
          obtain ⟨f22, e22, h22⟩ := gg_Cf hO
          refine z_iald hx hb hK hP (q0 := 49) 0 (by decide) e22 rfl (by omega) dX2_writeWay_22 (fun v22 h22a => ?_)
          have h22b : 0 ≤ v22.toInt ∧ v22.toInt ≤ 93 := by obtain ⟨i0, _, i1, i2⟩ := h22a; rw [i2]; exact h22 i0 i1
          refine lv_istore_n (lv' := [(3, .int v22), (2, .int v14), (0, .ref (ad 2)), (1, .ref (ad (59 + j1)))]) hx hb dX2_writeWay_23 rfl hl (by decide) rfl (fun ls hl => ?_)
          refine lv_goto (tgt := 4) hx hb dX2_writeWay_24 (by decide) ?_
          exact ih4 _ _ _ j1 v14 v22 hP hS hO (by omega) (by omega) (by omega) (by omega) _ (lv_sub hl [2, 3, 1, 0] rfl)
  intro ls hl
  have hl : lv_has ls 5 [(0, .ref (ad 2)), (1, .ref (ad (59 + a1)))] := hl
  refine z_ic hx hb dX2_writeWay_0 (by decide) (fun v0 h0 => ?_)
  refine lv_istore_n (lv' := [(2, .int v0), (0, .ref (ad 2)), (1, .ref (ad (59 + a1)))]) hx hb dX2_writeWay_1 rfl hl (by decide) rfl (fun ls hl => ?_)
  refine z_ic hx hb dX2_writeWay_2 (by decide) (fun v2 h2 => ?_)
  refine lv_istore_n (lv' := [(3, .int v2), (2, .int v0), (0, .ref (ad 2)), (1, .ref (ad (59 + a1)))]) hx hb dX2_writeWay_3 rfl hl (by decide) rfl (fun ls hl => ?_)
  exact L4 95 _ _ _ a1 v0 v2 hP hS hO (by omega) (by omega) (by omega) (by omega) _ (lv_sub hl [2, 3, 1, 0] rfl)
