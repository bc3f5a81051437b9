set_option maxHeartbeats 8000000 in
set_option maxRecDepth 100000 in
theorem c_X6_ahead (l : Launch) (D : va_G) (cy : Nat → ClassId) (ad : Nat → Nat) (cnt : Nat → Nat) (B : Nat) (PP : (Nat → va_E) → Prop) (hJ : zJ 73 ad) (k0 : Nat) (q_k0 : k0 < 6) : zM l D (gT cy) 73 ad (fun c1 => gOK cy ad cnt B c1 ∧ PP c1) yX6_ahead vsX6_ahead { frames := 0, cells := 0, slots := 0, locals := 0 } ([.ref (ad (53 + k0))] : List Value) (zQi D 73 ad (fun r ce => (gOK cy ad cnt B ce ∧ PP ce) ∧ (True))) := by
  refine z_of (cc := cX6_ahead) (maxL := 1) (ret := (some .int)) (by decide) rfl (Nat.le_of_ble_eq_true rfl) ?_
  intro p e s m below meth c hx hb hr hts hown hlocks hml hK hN ce hOK hP
  have hown : s.vm.findClass RX6 = some m.cls := hown
  have hS : va_S (zA 73 ad) s.heap s.heap [] := va_S.rf
  obtain ⟨hO, hPP⟩ := hOK
  have inX5 : ∀ w ∈ u_ws RX5 TX5 2, w ∈ vsX6_ahead := fun w h => List.mem_cons_of_mem _ (inlX5 w h)
  have inX6 : ∀ w ∈ u_ws RX6 TX6 8, w ∈ vsX6_ahead := fun w h => List.mem_cons_of_mem _ (inlX6 w h)
  have fl10 := hts (.fieldLink RX6 10 "GroundKeeper$Walker" "row" "LGroundKeeper$Row;") (List.mem_cons_of_mem _ mw_176)
  have fl16 := hts (.fieldLink RX6 16 "GroundKeeper$Row" "size" "I") (List.mem_cons_of_mem _ mw_177)
  have fl20 := hts (.fieldLink RX6 20 "GroundKeeper$Walker" "passed" "I") (List.mem_cons_of_mem _ mw_178)
  intro ls hl
  have hl : lv_has ls 1 [(0, .ref (ad (53 + k0)))] := hl
  refine lv_aload_n hx hb dX6_ahead_0 rfl (lv_at hl 0 rfl) ?_
  obtain ⟨v1, v1a, v1b, v1c, v1d, v1e, v1f, e1, h1, h1a, h1b⟩ := gg_Wk hO (j := k0) (by omega)
  refine va_get (ci := 6) (C := RX6) (T := TX6) (N := 8) (v := .ref (ad (59 + k0))) hx hb hts inX6 hown hK hP (53 + k0) (zw_at (by omega) e1) rfl 0 (by decide) fl10 (fun _ h => h) rfl dX6_ahead_1 ?_
  obtain ⟨v4, e4, h4, h4a⟩ := gg_Rw hO (j := k0) (by omega)
  refine va_get (ci := 5) (C := RX5) (T := TX5) (N := 2) (v := .int v4) hx hb hts inX5 hown hK hP (59 + k0) (zw_at (by omega) e4) rfl 1 (by decide) fl16 (fun _ h => h) rfl dX6_ahead_4 ?_
  refine lv_aload_n hx hb dX6_ahead_7 rfl (lv_at hl 0 rfl) ?_
  refine va_get (ci := 6) (C := RX6) (T := TX6) (N := 8) (v := .int v1) hx hb hts inX6 hown hK hP (53 + k0) (zw_at (by omega) e1) rfl 1 (by decide) fl20 (fun _ h => h) rfl dX6_ahead_8 ?_
  refine z_subE hx hb dX6_ahead_11 (by omega) (fun v11 h11 => ?_)
  exact z_reti hx hb hr hlocks hP hS dX6_ahead_12 ⟨⟨hO, hPP⟩, trivial⟩
set_option maxHeartbeats 8000000 in
set_option maxRecDepth 100000 in
theorem c_X6_nextPlace (l : Launch) (D : va_G) (cy : Nat → ClassId) (ad : Nat → Nat) (cnt : Nat → Nat) (B : Nat) (PP : (Nat → va_E) → Prop) (hJ : zJ 73 ad) (k0 : Nat) (q_k0 : k0 < 6) : zM l D (gT cy) 73 ad (fun c1 => gOK cy ad cnt B c1 ∧ PP c1) yX6_nextPlace vsX6_nextPlace { frames := 0, cells := 0, slots := 0, locals := 0 } ([.ref (ad (53 + k0))] : List Value) (zQi D 73 ad (fun r ce => (gOK cy ad cnt B ce ∧ PP ce) ∧ (True))) := by
  refine z_of (cc := cX6_nextPlace) (maxL := 1) (ret := (some .int)) (by decide) rfl (Nat.le_of_ble_eq_true rfl) ?_
  intro p e s m below meth c hx hb hr hts hown hlocks hml hK hN ce hOK hP
  have hown : s.vm.findClass RX6 = some m.cls := hown
  have hS : va_S (zA 73 ad) s.heap s.heap [] := va_S.rf
  obtain ⟨hO, hPP⟩ := hOK
  have inX5 : ∀ w ∈ u_ws RX5 TX5 2, w ∈ vsX6_nextPlace := fun w h => List.mem_cons_of_mem _ (inlX5 w h)
  have inX6 : ∀ w ∈ u_ws RX6 TX6 8, w ∈ vsX6_nextPlace := fun w h => List.mem_cons_of_mem _ (inlX6 w h)
  have fl10 := hts (.fieldLink RX6 10 "GroundKeeper$Walker" "row" "LGroundKeeper$Row;") (List.mem_cons_of_mem _ mw_176)
  have fl16 := hts (.fieldLink RX6 16 "GroundKeeper$Row" "size" "I") (List.mem_cons_of_mem _ mw_177)
  have fl20 := hts (.fieldLink RX6 20 "GroundKeeper$Walker" "passed" "I") (List.mem_cons_of_mem _ mw_178)
  have fl23 := hts (.fieldLink RX6 23 "GroundKeeper$Row" "places" "[I") (List.mem_cons_of_mem _ mw_179)
  have fl27 := hts (.fieldLink RX6 27 "GroundKeeper$Walker" "place" "I") (List.mem_cons_of_mem _ mw_180)
  intro ls hl
  have hl : lv_has ls 1 [(0, .ref (ad (53 + k0)))] := hl
  refine lv_aload_n hx hb dX6_nextPlace_0 rfl (lv_at hl 0 rfl) ?_
  obtain ⟨v1, v1a, v1b, v1c, v1d, v1e, v1f, e1, h1, h1a, h1b⟩ := gg_Wk hO (j := k0) (by omega)
  refine va_get (ci := 6) (C := RX6) (T := TX6) (N := 8) (v := .int v1) hx hb hts inX6 hown hK hP (53 + k0) (zw_at (by omega) e1) rfl 1 (by decide) fl20 (fun _ h => h) rfl dX6_nextPlace_1 ?_
  refine lv_aload_n hx hb dX6_nextPlace_4 rfl (lv_at hl 0 rfl) ?_
  refine va_get (ci := 6) (C := RX6) (T := TX6) (N := 8) (v := .ref (ad (59 + k0))) hx hb hts inX6 hown hK hP (53 + k0) (zw_at (by omega) e1) rfl 0 (by decide) fl10 (fun _ h => h) rfl dX6_nextPlace_5 ?_
  obtain ⟨v8, e8, h8, h8a⟩ := gg_Rw hO (j := k0) (by omega)
  refine va_get (ci := 5) (C := RX5) (T := TX5) (N := 2) (v := .int v8) hx hb hts inX5 hown hK hP (59 + k0) (zw_at (by omega) e8) rfl 1 (by decide) fl16 (fun _ h => h) rfl dX6_nextPlace_8 ?_
  refine z_icmp_ge (tgt := 29) hx hb dX6_nextPlace_11 (by decide) (fun c11 => ?_) (fun c11 => ?_)
  · skip
    refine lv_aload_n hx hb dX6_nextPlace_29 rfl (lv_at hl 0 rfl) ?_
    refine va_get (ci := 6) (C := RX6) (T := TX6) (N := 8) (v := .int v1a) hx hb hts inX6 hown hK hP (53 + k0) (zw_at (by omega) e1) rfl 2 (by decide) fl27 (fun _ h => h) rfl dX6_nextPlace_30 ?_
    exact z_reti hx hb hr hlocks hP hS dX6_nextPlace_33 ⟨⟨hO, hPP⟩, trivial⟩
  · skip
    refine lv_aload_n hx hb dX6_nextPlace_14 rfl (lv_at hl 0 rfl) ?_
    refine va_get (ci := 6) (C := RX6) (T := TX6) (N := 8) (v := .ref (ad (59 + k0))) hx hb hts inX6 hown hK hP (53 + k0) (zw_at (by omega) e1) rfl 0 (by decide) fl10 (fun _ h => h) rfl dX6_nextPlace_15 ?_
    refine va_get (ci := 5) (C := RX5) (T := TX5) (N := 2) (v := .ref (ad (66 + k0))) hx hb hts inX5 hown hK hP (59 + k0) (zw_at (by omega) e8) rfl 0 (by decide) fl23 (fun _ h => h) rfl dX6_nextPlace_18 ?_
    refine lv_aload_n hx hb dX6_nextPlace_21 rfl (lv_at hl 0 rfl) ?_
    refine va_get (ci := 6) (C := RX6) (T := TX6) (N := 8) (v := .int v1) hx hb hts inX6 hown hK hP (53 + k0) (zw_at (by omega) e1) rfl 1 (by decide) fl20 (fun _ h => h) rfl dX6_nextPlace_22 ?_
    obtain ⟨f25, e25⟩ := gg_Rp hO (j := k0) (by omega)
    refine z_iald hx hb hK hP (q0 := (66 + k0)) 0 (by omega) e25 rfl (by omega) dX6_nextPlace_25 (fun v25 h25a => ?_)
    refine lv_goto (tgt := 33) hx hb dX6_nextPlace_26 (by decide) ?_
    exact z_reti hx hb hr hlocks hP hS dX6_nextPlace_33 ⟨⟨hO, hPP⟩, trivial⟩
set_option maxHeartbeats 8000000 in
set_option maxRecDepth 100000 in
theorem c_X6_lastPlace (l : Launch) (D : va_G) (cy : Nat → ClassId) (ad : Nat → Nat) (cnt : Nat → Nat) (B : Nat) (PP : (Nat → va_E) → Prop) (hJ : zJ 73 ad) (k0 : Nat) (q_k0 : k0 < 6) : zM l D (gT cy) 73 ad (fun c1 => gOK cy ad cnt B c1 ∧ PP c1) yX6_lastPlace vsX6_lastPlace { frames := 0, cells := 0, slots := 0, locals := 0 } ([.ref (ad (53 + k0))] : List Value) (zQi D 73 ad (fun r ce => (gOK cy ad cnt B ce ∧ PP ce) ∧ (True))) := by
  refine z_of (cc := cX6_lastPlace) (maxL := 1) (ret := (some .int)) (by decide) rfl (Nat.le_of_ble_eq_true rfl) ?_
  intro p e s m below meth c hx hb hr hts hown hlocks hml hK hN ce hOK hP
  have hown : s.vm.findClass RX6 = some m.cls := hown
  have hS : va_S (zA 73 ad) s.heap s.heap [] := va_S.rf
  obtain ⟨hO, hPP⟩ := hOK
  have inX5 : ∀ w ∈ u_ws RX5 TX5 2, w ∈ vsX6_lastPlace := fun w h => List.mem_cons_of_mem _ (inlX5 w h)
  have inX6 : ∀ w ∈ u_ws RX6 TX6 8, w ∈ vsX6_lastPlace := fun w h => List.mem_cons_of_mem _ (inlX6 w h)
  have fl10 := hts (.fieldLink RX6 10 "GroundKeeper$Walker" "row" "LGroundKeeper$Row;") (List.mem_cons_of_mem _ mw_176)
  have fl16 := hts (.fieldLink RX6 16 "GroundKeeper$Row" "size" "I") (List.mem_cons_of_mem _ mw_177)
  have fl20 := hts (.fieldLink RX6 20 "GroundKeeper$Walker" "passed" "I") (List.mem_cons_of_mem _ mw_178)
  have fl23 := hts (.fieldLink RX6 23 "GroundKeeper$Row" "places" "[I") (List.mem_cons_of_mem _ mw_179)
  have fl27 := hts (.fieldLink RX6 27 "GroundKeeper$Walker" "place" "I") (List.mem_cons_of_mem _ mw_180)
  intro ls hl
  have hl : lv_has ls 1 [(0, .ref (ad (53 + k0)))] := hl
  refine lv_aload_n hx hb dX6_lastPlace_0 rfl (lv_at hl 0 rfl) ?_
  obtain ⟨v1, v1a, v1b, v1c, v1d, v1e, v1f, e1, h1, h1a, h1b⟩ := gg_Wk hO (j := k0) (by omega)
  refine va_get (ci := 6) (C := RX6) (T := TX6) (N := 8) (v := .int v1) hx hb hts inX6 hown hK hP (53 + k0) (zw_at (by omega) e1) rfl 1 (by decide) fl20 (fun _ h => h) rfl dX6_lastPlace_1 ?_
  refine lv_aload_n hx hb dX6_lastPlace_4 rfl (lv_at hl 0 rfl) ?_
  refine va_get (ci := 6) (C := RX6) (T := TX6) (N := 8) (v := .ref (ad (59 + k0))) hx hb hts inX6 hown hK hP (53 + k0) (zw_at (by omega) e1) rfl 0 (by decide) fl10 (fun _ h => h) rfl dX6_lastPlace_5 ?_
  obtain ⟨v8, e8, h8, h8a⟩ := gg_Rw hO (j := k0) (by omega)
  refine va_get (ci := 5) (C := RX5) (T := TX5) (N := 2) (v := .int v8) hx hb hts inX5 hown hK hP (59 + k0) (zw_at (by omega) e8) rfl 1 (by decide) fl16 (fun _ h => h) rfl dX6_lastPlace_8 ?_
  refine z_icmp_ge (tgt := 34) hx hb dX6_lastPlace_11 (by decide) (fun c11 => ?_) (fun c11 => ?_)
  · skip
    refine lv_aload_n hx hb dX6_lastPlace_34 rfl (lv_at hl 0 rfl) ?_
    refine va_get (ci := 6) (C := RX6) (T := TX6) (N := 8) (v := .int v1a) hx hb hts inX6 hown hK hP (53 + k0) (zw_at (by omega) e1) rfl 2 (by decide) fl27 (fun _ h => h) rfl dX6_lastPlace_35 ?_
    exact z_reti hx hb hr hlocks hP hS dX6_lastPlace_38 ⟨⟨hO, hPP⟩, trivial⟩
  · skip
    refine lv_aload_n hx hb dX6_lastPlace_14 rfl (lv_at hl 0 rfl) ?_
    refine va_get (ci := 6) (C := RX6) (T := TX6) (N := 8) (v := .ref (ad (59 + k0))) hx hb hts inX6 hown hK hP (53 + k0) (zw_at (by omega) e1) rfl 0 (by decide) fl10 (fun _ h => h) rfl dX6_lastPlace_15 ?_
    refine va_get (ci := 5) (C := RX5) (T := TX5) (N := 2) (v := .ref (ad (66 + k0))) hx hb hts inX5 hown hK hP (59 + k0) (zw_at (by omega) e8) rfl 0 (by decide) fl23 (fun _ h => h) rfl dX6_lastPlace_18 ?_
    refine lv_aload_n hx hb dX6_lastPlace_21 rfl (lv_at hl 0 rfl) ?_
    refine va_get (ci := 6) (C := RX6) (T := TX6) (N := 8) (v := .ref (ad (59 + k0))) hx hb hts inX6 hown hK hP (53 + k0) (zw_at (by omega) e1) rfl 0 (by decide) fl10 (fun _ h => h) rfl dX6_lastPlace_22 ?_
    refine va_get (ci := 5) (C := RX5) (T := TX5) (N := 2) (v := .int v8) hx hb hts inX5 hown hK hP (59 + k0) (zw_at (by omega) e8) rfl 1 (by decide) fl16 (fun _ h => h) rfl dX6_lastPlace_25 ?_
    refine z_ic hx hb dX6_lastPlace_28 (by decide) (fun v28 h28 => ?_)
    refine z_subE hx hb dX6_lastPlace_29 (by omega) (fun v29 h29 => ?_)
    obtain ⟨f30, e30⟩ := gg_Rp hO (j := k0) (by omega)
    refine z_iald hx hb hK hP (q0 := (66 + k0)) 0 (by omega) e30 rfl (by omega) dX6_lastPlace_30 (fun v30 h30a => ?_)
    refine lv_goto (tgt := 38) hx hb dX6_lastPlace_31 (by decide) ?_
    exact z_reti hx hb hr hlocks hP hS dX6_lastPlace_38 ⟨⟨hO, hPP⟩, trivial⟩
set_option maxHeartbeats 8000000 in
set_option maxRecDepth 100000 in
theorem c_X6_beginRow (l : Launch) (D : va_G) (cy : Nat → ClassId) (ad : Nat → Nat) (cnt : Nat → Nat) (B : Nat) (hJ : zJ 73 ad) (hB : 1 ≤ B) (k0 : Nat) (q_k0 : k0 < 6) : zM l D (gT cy) 73 ad (gOK cy ad cnt B) yX6_beginRow vsX6_beginRow { frames := 0, cells := 0, slots := 0, locals := 0 } ([.ref (ad (53 + k0))] : List Value) (zQv D 73 ad (fun ce => gOK cy ad cnt B ce ∧ (True))) := by
  refine z_of (cc := cX6_beginRow) (maxL := 1) (ret := none) (by decide) rfl (Nat.le_of_ble_eq_true rfl) ?_
  intro p e s m below meth c hx hb hr hts hown hlocks hml hK hN ce hOK hP
  have hown : s.vm.findClass RX6 = some m.cls := hown
  have hS : va_S (zA 73 ad) s.heap s.heap [] := va_S.rf
  have hO := hOK
  have inX6 : ∀ w ∈ u_ws RX6 TX6 8, w ∈ vsX6_beginRow := fun w h => List.mem_cons_of_mem _ (inlX6 w h)
  have fl20 := hts (.fieldLink RX6 20 "GroundKeeper$Walker" "passed" "I") (List.mem_cons_of_mem _ mw_178)
  intro ls hl
  have hl : lv_has ls 1 [(0, .ref (ad (53 + k0)))] := hl
  refine lv_aload_n hx hb dX6_beginRow_0 rfl (lv_at hl 0 rfl) ?_
  refine z_ic hx hb dX6_beginRow_1 (by decide) (fun v1 h1 => ?_)
  obtain ⟨v2, v2a, v2b, v2c, v2d, v2e, v2f, e2, h2, h2a, h2b⟩ := gg_Wk hO (j := k0) (by omega)
  refine z_put (q0 := (53 + k0)) (ci := 6) (C := RX6) (T := TX6) (N := 8) hx hb hts inX6 tyX6 tyX6_ok nmX6 hown hK hJ hP hS (by omega) e2 rfl 1 (by decide) fl20 (fun _ h => h) rfl (ty := .int) (by decide +kernel) rfl rfl (Nat.le_of_ble_eq_true rfl) (fs1 := [.ref (ad (59 + k0)), .int v1, .int v2a, .int v2b, .int v2c, .int v2d, .int v2e, .int v2f]) rfl dX6_beginRow_2 (fun ce H locs e2a h2c hP hS => ?_)
  have hO := z_up (OKK := gK cy ad cnt B) (53 + k0) hO h2c (by rw [e2a]; exact gE_Wk (by omega) |>.mpr ⟨v1, v2a, v2b, v2c, v2d, v2e, v2f, rfl, by omega, by omega, by omega⟩)
  exact z_retv hx hb hr hlocks hP hS dX6_beginRow_5 ⟨hO, trivial⟩
set_option maxHeartbeats 8000000 in
set_option maxRecDepth 100000 in
theorem c_X6_dropRow (l : Launch) (D : va_G) (cy : Nat → ClassId) (ad : Nat → Nat) (cnt : Nat → Nat) (B : Nat) (hJ : zJ 73 ad) (k0 : Nat) (q_k0 : k0 < 6) : zM l D (gT cy) 73 ad (gOK cy ad cnt B) yX6_dropRow vsX6_dropRow { frames := 0, cells := 0, slots := 0, locals := 0 } ([.ref (ad (53 + k0))] : List Value) (zQv D 73 ad (fun ce => gOK cy ad cnt B ce ∧ (True))) := by
  refine z_of (cc := cX6_dropRow) (maxL := 1) (ret := none) (by decide) rfl (Nat.le_of_ble_eq_true rfl) ?_
  intro p e s m below meth c hx hb hr hts hown hlocks hml hK hN ce hOK hP
  have hown : s.vm.findClass RX6 = some m.cls := hown
  have hS : va_S (zA 73 ad) s.heap s.heap [] := va_S.rf
  have hO := hOK
  have inX5 : ∀ w ∈ u_ws RX5 TX5 2, w ∈ vsX6_dropRow := fun w h => List.mem_cons_of_mem _ (inlX5 w h)
  have inX6 : ∀ w ∈ u_ws RX6 TX6 8, w ∈ vsX6_dropRow := fun w h => List.mem_cons_of_mem _ (inlX6 w h)
  have fl10 := hts (.fieldLink RX6 10 "GroundKeeper$Walker" "row" "LGroundKeeper$Row;") (List.mem_cons_of_mem _ mw_176)
  have fl16 := hts (.fieldLink RX6 16 "GroundKeeper$Row" "size" "I") (List.mem_cons_of_mem _ mw_177)
  have fl20 := hts (.fieldLink RX6 20 "GroundKeeper$Walker" "passed" "I") (List.mem_cons_of_mem _ mw_178)
  intro ls hl
  have hl : lv_has ls 1 [(0, .ref (ad (53 + k0)))] := hl
  refine lv_aload_n hx hb dX6_dropRow_0 rfl (lv_at hl 0 rfl) ?_
  obtain ⟨v1, v1a, v1b, v1c, v1d, v1e, v1f, e1, h1, h1a, h1b⟩ := gg_Wk hO (j := k0) (by omega)
  refine va_get (ci := 6) (C := RX6) (T := TX6) (N := 8) (v := .ref (ad (59 + k0))) hx hb hts inX6 hown hK hP (53 + k0) (zw_at (by omega) e1) rfl 0 (by decide) fl10 (fun _ h => h) rfl dX6_dropRow_1 ?_
  refine z_ic hx hb dX6_dropRow_4 (by decide) (fun v4 h4 => ?_)
  obtain ⟨v5, e5, h5, h5a⟩ := gg_Rw hO (j := k0) (by omega)
  refine z_put (q0 := (59 + k0)) (ci := 5) (C := RX5) (T := TX5) (N := 2) hx hb hts inX5 tyX5 tyX5_ok nmX5 hown hK hJ hP hS (by omega) e5 rfl 1 (by decide) fl16 (fun _ h => h) rfl (ty := .int) (by decide +kernel) rfl rfl (Nat.le_of_ble_eq_true rfl) (fs1 := [.ref (ad (66 + k0)), .int v4]) rfl dX6_dropRow_5 (fun ce H locs e5a h5b hP hS => ?_)
  have hO := z_up (OKK := gK cy ad cnt B) (59 + k0) hO h5b (by rw [e5a]; exact gE_Rw (by omega) |>.mpr ⟨v4, rfl, by omega, by omega⟩)
  have e5b := (h5b (53 + k0) (by omega)).trans e1
  refine lv_aload_n hx hb dX6_dropRow_8 rfl (lv_at hl 0 rfl) ?_
  refine z_ic hx hb dX6_dropRow_9 (by decide) (fun v9 h9 => ?_)
  refine z_put (q0 := (53 + k0)) (ci := 6) (C := RX6) (T := TX6) (N := 8) hx hb hts inX6 tyX6 tyX6_ok nmX6 hown hK hJ hP hS (by omega) e5b rfl 1 (by decide) fl20 (fun _ h => h) rfl (ty := .int) (by decide +kernel) rfl rfl (Nat.le_of_ble_eq_true rfl) (fs1 := [.ref (ad (59 + k0)), .int v9, .int v1a, .int v1b, .int v1c, .int v1d, .int v1e, .int v1f]) rfl dX6_dropRow_10 (fun ce H locs e10 h10 hP hS => ?_)
  have hO := z_up (OKK := gK cy ad cnt B) (53 + k0) hO h10 (by rw [e10]; exact gE_Wk (by omega) |>.mpr ⟨v9, v1a, v1b, v1c, v1d, v1e, v1f, rfl, by omega, by omega, by omega⟩)
  have e10a := (h10 (59 + k0) (by omega)).trans e5a
  exact z_retv hx hb hr hlocks hP hS dX6_dropRow_13 ⟨hO, trivial⟩
set_option maxHeartbeats 8000000 in
set_option maxRecDepth 100000 in
theorem c_X6_stepOn (l : Launch) (D : va_G) (cy : Nat → ClassId) (ad : Nat → Nat) (cnt : Nat → Nat) (B : Nat) (hJ : zJ 73 ad) (hB : B + 1 ≤ 1000000) (k0 : Nat) (p1 : Int32) (q_k0 : k0 < 6) : zM l D (gT cy) 73 ad (gOK cy ad cnt B) yX6_stepOn vsX6_stepOn { frames := 1, cells := 0, slots := 0, locals := 20 } ([.ref (ad (53 + k0)), .int p1] : List Value) (zQv D 73 ad (fun ce => gOK cy ad cnt (B + 1) ce ∧ (True))) := by
  refine z_of (cc := cX6_stepOn) (maxL := 2) (ret := none) (by decide) rfl (Nat.le_of_ble_eq_true rfl) ?_
  intro p e s m below meth c hx hb hr hts hown hlocks hml hK hN ce hOK hP
  have hown : s.vm.findClass RX6 = some m.cls := hown
  have hS : va_S (zA 73 ad) s.heap s.heap [] := va_S.rf
  have hO := hOK
  have inX6 : ∀ w ∈ u_ws RX6 TX6 8, w ∈ vsX6_stepOn := fun w h => List.mem_cons_of_mem _ (inlX6 w h)
  have fl20 := hts (.fieldLink RX6 20 "GroundKeeper$Walker" "passed" "I") (List.mem_cons_of_mem _ mw_178)
  have fl27 := hts (.fieldLink RX6 27 "GroundKeeper$Walker" "place" "I") (List.mem_cons_of_mem _ mw_180)
  have fl34 := hts (.fieldLink RX6 34 "GroundKeeper$Walker" "waits" "I") (List.mem_cons_of_mem _ mw_181)
  have fl37 := hts (.fieldLink RX6 37 "GroundKeeper$Walker" "steps" "I") (List.mem_cons_of_mem _ mw_182)
  have fl40 := hts (.fieldLink RX6 40 "GroundKeeper$Walker" "length" "I") (List.mem_cons_of_mem _ mw_183)
  intro ls hl
  have hl : lv_has ls 2 [(0, .ref (ad (53 + k0))), (1, .int p1)] := hl
  refine lv_aload_n hx hb dX6_stepOn_0 rfl (lv_at hl 0 rfl) ?_
  refine lv_aload_n hx hb dX6_stepOn_1 rfl (lv_at hl 0 rfl) ?_
  obtain ⟨v2, v2a, v2b, v2c, v2d, v2e, v2f, e2, h2, h2a, h2b⟩ := gg_Wk hO (j := k0) (by omega)
  refine z_ciP (z_rV (q0 := (53 + k0)) (As := []) (rest := [.ref (ad (53 + k0))]) ⟨hx, hb, hml, hown, hts⟩ (c_X6_nextPlace l D cy ad cnt B (fun c1 => c1 = ce) hJ k0 (by omega)) (cwV 0 hts (g_V mw_193 mw_194 mw_195 mw_196 mw_197) rfl rfl rfl (by decide +kernel) ⟨Nat.le_of_ble_eq_true rfl, Nat.le_of_ble_eq_true rfl⟩) hK hN ⟨hO, rfl⟩ hP (by omega) e2 rfl rfl hl.1 rfl (Nat.le_of_ble_eq_true rfl) dX6_stepOn_2 ⟨Nat.zero_le _, Nat.zero_le _⟩) hS (fun _ h => h.2) (fun v2g H locs h2c hP hS => ?_)
  refine z_put (q0 := (53 + k0)) (ci := 6) (C := RX6) (T := TX6) (N := 8) hx hb hts inX6 tyX6 tyX6_ok nmX6 hown hK hJ hP hS (by omega) e2 rfl 2 (by decide) fl27 (fun _ h => h) rfl (ty := .int) (by decide +kernel) rfl rfl (Nat.le_of_ble_eq_true rfl) (fs1 := [.ref (ad (59 + k0)), .int v2, .int v2g, .int v2b, .int v2c, .int v2d, .int v2e, .int v2f]) rfl dX6_stepOn_5 (fun ce H locs e5 h5 hP hS => ?_)
  have hO := z_up (OKK := gK cy ad cnt B) (53 + k0) hO h5 (by rw [e5]; exact gE_Wk (by omega) |>.mpr ⟨v2, v2g, v2b, v2c, v2d, v2e, v2f, rfl, h2, h2a, h2b⟩)
  refine lv_aload_n hx hb dX6_stepOn_8 rfl (lv_at hl 0 rfl) ?_
  refine lv_dup hx hb dX6_stepOn_9 rfl ?_
  refine va_get (ci := 6) (C := RX6) (T := TX6) (N := 8) (v := .int v2) hx hb hts inX6 hown hK hP (53 + k0) (zw_at (by omega) e5) rfl 1 (by decide) fl20 (fun _ h => h) rfl dX6_stepOn_10 ?_
  refine z_ic hx hb dX6_stepOn_13 (by decide) (fun v13 h13 => ?_)
  refine z_addE hx hb dX6_stepOn_14 (by omega) (fun v14 h14 => ?_)
  refine z_put (q0 := (53 + k0)) (ci := 6) (C := RX6) (T := TX6) (N := 8) hx hb hts inX6 tyX6 tyX6_ok nmX6 hown hK hJ hP hS (by omega) e5 rfl 1 (by decide) fl20 (fun _ h => h) rfl (ty := .int) (by decide +kernel) rfl rfl (Nat.le_of_ble_eq_true rfl) (fs1 := [.ref (ad (59 + k0)), .int v14, .int v2g, .int v2b, .int v2c, .int v2d, .int v2e, .int v2f]) rfl dX6_stepOn_15 (fun ce H locs e15 h15 hP hS => ?_)
  have hO := z_up2 (OKK := gK cy ad cnt B) (OKL := gK cy ad cnt (B + 1)) (53 + k0) hO h15 (fun q e _ h => gK_B (Nat.le_succ B) h) (by rw [e15]; exact gE_Wk (by omega) |>.mpr ⟨v14, v2g, v2b, v2c, v2d, v2e, v2f, rfl, by omega, by omega, by omega⟩)
  refine lv_aload_n hx hb dX6_stepOn_18 rfl (lv_at hl 0 rfl) ?_
  refine z_ic hx hb dX6_stepOn_19 (by decide) (fun v19 h19 => ?_)
  refine z_put (q0 := (53 + k0)) (ci := 6) (C := RX6) (T := TX6) (N := 8) hx hb hts inX6 tyX6 tyX6_ok nmX6 hown hK hJ hP hS (by omega) e15 rfl 3 (by decide) fl34 (fun _ h => h) rfl (ty := .int) (by decide +kernel) rfl rfl (Nat.le_of_ble_eq_true rfl) (fs1 := [.ref (ad (59 + k0)), .int v14, .int v2g, .int v19, .int v2c, .int v2d, .int v2e, .int v2f]) rfl dX6_stepOn_20 (fun ce H locs e20 h20 hP hS => ?_)
  have hO := z_up (OKK := gK cy ad cnt (B + 1)) (53 + k0) hO h20 (by rw [e20]; exact gE_Wk (by omega) |>.mpr ⟨v14, v2g, v19, v2c, v2d, v2e, v2f, rfl, by omega, by omega, by omega⟩)
  refine lv_aload_n hx hb dX6_stepOn_23 rfl (lv_at hl 0 rfl) ?_
  refine lv_dup hx hb dX6_stepOn_24 rfl ?_
  refine va_get (ci := 6) (C := RX6) (T := TX6) (N := 8) (v := .int v2d) hx hb hts inX6 hown hK hP (53 + k0) (zw_at (by omega) e20) rfl 5 (by decide) fl37 (fun _ h => h) rfl dX6_stepOn_25 ?_
  refine z_ic hx hb dX6_stepOn_28 (by decide) (fun v28 h28 => ?_)
  refine lv_iadd hx hb dX6_stepOn_29 ?_
  refine lv_topi (fun v29 _ => ?_)
  refine z_put (q0 := (53 + k0)) (ci := 6) (C := RX6) (T := TX6) (N := 8) hx hb hts inX6 tyX6 tyX6_ok nmX6 hown hK hJ hP hS (by omega) e20 rfl 5 (by decide) fl37 (fun _ h => h) rfl (ty := .int) (by decide +kernel) rfl rfl (Nat.le_of_ble_eq_true rfl) (fs1 := [.ref (ad (59 + k0)), .int v14, .int v2g, .int v19, .int v2c, .int v29, .int v2e, .int v2f]) rfl dX6_stepOn_30 (fun ce H locs e30 h30 hP hS => ?_)
  have hO := z_up (OKK := gK cy ad cnt (B + 1)) (53 + k0) hO h30 (by rw [e30]; exact gE_Wk (by omega) |>.mpr ⟨v14, v2g, v19, v2c, v29, v2e, v2f, rfl, by omega, by omega, by omega⟩)
  refine lv_aload_n hx hb dX6_stepOn_33 rfl (lv_at hl 0 rfl) ?_
  refine lv_dup hx hb dX6_stepOn_34 rfl ?_
  refine va_get (ci := 6) (C := RX6) (T := TX6) (N := 8) (v := .int v2e) hx hb hts inX6 hown hK hP (53 + k0) (zw_at (by omega) e30) rfl 6 (by decide) fl40 (fun _ h => h) rfl dX6_stepOn_35 ?_
  refine lv_iload_n hx hb dX6_stepOn_38 rfl (lv_at hl 1 rfl) ?_
  refine lv_iadd hx hb dX6_stepOn_39 ?_
  refine lv_topi (fun v39 _ => ?_)
  refine z_put (q0 := (53 + k0)) (ci := 6) (C := RX6) (T := TX6) (N := 8) hx hb hts inX6 tyX6 tyX6_ok nmX6 hown hK hJ hP hS (by omega) e30 rfl 6 (by decide) fl40 (fun _ h => h) rfl (ty := .int) (by decide +kernel) rfl rfl (Nat.le_of_ble_eq_true rfl) (fs1 := [.ref (ad (59 + k0)), .int v14, .int v2g, .int v19, .int v2c, .int v29, .int v39, .int v2f]) rfl dX6_stepOn_40 (fun ce H locs e40 h40 hP hS => ?_)
  have hO := z_up (OKK := gK cy ad cnt (B + 1)) (53 + k0) hO h40 (by rw [e40]; exact gE_Wk (by omega) |>.mpr ⟨v14, v2g, v19, v2c, v29, v39, v2f, rfl, by omega, by omega, by omega⟩)
  exact z_retv hx hb hr hlocks hP hS dX6_stepOn_43 ⟨hO, trivial⟩
set_option maxHeartbeats 8000000 in
set_option maxRecDepth 100000 in
theorem c_X7_isTaken (l : Launch) (D : va_G) (cy : Nat → ClassId) (ad : Nat → Nat) (cnt : Nat → Nat) (B : Nat) (PP : (Nat → va_E) → Prop) (hJ : zJ 73 ad) (p1 : Int32) (p2 : Int32) : zM l D (gT cy) 73 ad (fun c1 => gOK cy ad cnt B c1 ∧ PP c1) yX7_isTaken vsX7_isTaken { frames := 0, cells := 0, slots := 0, locals := 0 } ([.ref (ad 0), .int p1, .int p2] : List Value) (zQi D 73 ad (fun r ce => (gOK cy ad cnt B ce ∧ PP ce) ∧ (0 ≤ r.toInt ∧ r.toInt ≤ 1))) := by
  refine z_of (cc := cX7_isTaken) (maxL := 4) (ret := (some .boolean)) (by decide) rfl (Nat.le_of_ble_eq_true rfl) ?_
  intro p e s m below meth c hx hb hr hts hown hlocks hml hK hN ce hOK hP
  have hown : s.vm.findClass RX7 = some m.cls := hown
  have hS : va_S (zA 73 ad) s.heap s.heap [] := va_S.rf
  obtain ⟨hO, hPP⟩ := hOK
  have inX6 : ∀ w ∈ u_ws RX6 TX6 8, w ∈ vsX7_isTaken := fun w h => List.mem_cons_of_mem _ (inlX6 w h)
  have inX7 : ∀ w ∈ u_ws RX7 TX7 6, w ∈ vsX7_isTaken := fun w h => List.mem_cons_of_mem _ (inlX7 w h)
  have fl34 := hts (.fieldLink RX7 34 "GroundKeeper" "walkers" "[LGroundKeeper$Walker;") (List.mem_cons_of_mem _ mw_184)
  have fl53 := hts (.fieldLink RX7 53 "GroundKeeper" "walkerSize" "I") (List.mem_cons_of_mem _ mw_185)
  have fl57 := hts (.fieldLink RX7 57 "GroundKeeper$Walker" "place" "I") (List.mem_cons_of_mem _ mw_186)
  have L2 : ∀ N2 : Nat, ∀ (H : Heap) (locs : List Loc) (x1 : Int32) (x2 : Int32) (x3 : Int32), va_P D vwCl (zw 73 ad ce) H → va_S (zA 73 ad) s.heap H locs → (0 ≤ x3.toInt ∧ x3.toInt ≤ 6) → (7 - x3.toInt ≤ (N2 : Int)) → ∀ ls : Array Slot, lv_has ls 4 [(0, .ref (ad 0)), (1, .int x1), (2, .int x2), (3, .int x3)] → W p l e { frames := 0, cells := 0, slots := 0, locals := 0 } s m ([.ref (ad 0), .int p1, .int p2] : List Value).toArray below meth c H locs 0 0 (MQ below (zQi D 73 ad (fun r ce => (gOK cy ad cnt B ce ∧ PP ce) ∧ (0 ≤ r.toInt ∧ r.toInt ≤ 1))) ([.ref (ad 0), .int p1, .int p2] : List Value).toArray s 0 0 (zA 73 ad)) (F0 m 2 ls []) := by
    intro N2
    induction N2 with
    | zero =>
      intro H locs x1 x2 x3 hP hS q_x3 hm ls hl
      exfalso; omega
    | succ N2 ih2 =>
      have J30 : ∀ (H : Heap) (locs : List Loc) (x1 : Int32) (x2 : Int32) (x3 : Int32), va_P D vwCl (zw 73 ad ce) H → va_S (zA 73 ad) s.heap H locs → (0 ≤ x3.toInt ∧ x3.toInt ≤ 5) → (7 - x3.toInt ≤ (N2 : Int) + 1) → ∀ ls : Array Slot, lv_has ls 4 [(0, .ref (ad 0)), (1, .int x1), (2, .int x2), (3, .int x3)] → W p l e { frames := 0, cells := 0, slots := 0, locals := 0 } s m ([.ref (ad 0), .int p1, .int p2] : List Value).toArray below meth c H locs 0 0 (MQ below (zQi D 73 ad (fun r ce => (gOK cy ad cnt B ce ∧ PP ce) ∧ (0 ≤ r.toInt ∧ r.toInt ≤ 1))) ([.ref (ad 0), .int p1, .int p2] : List Value).toArray s 0 0 (zA 73 ad)) (F0 m 30 ls []) := by
        intro H locs x1 x2 x3 hP hS q_x3 qm2 ls hl
        refine z_iinc (lv' := fun w0 => [(3, .int w0), (0, .ref (ad 0)), (1, .int x1), (2, .int x2)]) hx hb dX7_isTaken_30 hl (k := 3) rfl (by decide) (fun _ => rfl) (by decide) (by omega) (fun v30 ls h30 hl => ?_)
        refine lv_goto (tgt := 2) hx hb dX7_isTaken_33 (by decide) ?_
        exact ih2 _ _ x1 x2 v30 hP hS (by omega) (by omega) _ (lv_sub hl [1, 2, 3, 0] rfl)
      intro H locs x1 x2 x3 hP hS q_x3 hm ls hl
      refine lv_iload_n hx hb dX7_isTaken_2 rfl (lv_at hl 3 rfl) ?_
      refine lv_aload_n hx hb dX7_isTaken_3 rfl (lv_at hl 0 rfl) ?_
      obtain ⟨v4, v4a, e4, h4, h4a⟩ := gg_GK hO
      refine va_get (ci := 7) (C := RX7) (T := TX7) (N := 6) (v := .int v4) hx hb hts inX7 hown hK hP 0 (zw_at (by decide) e4) rfl 4 (by decide) fl53 (fun _ h => h) rfl dX7_isTaken_4 ?_
      refine z_icmp_ge (tgt := 36) hx hb dX7_isTaken_7 (by decide) (fun c7 => ?_) (fun c7 => ?_)
      · skip
        refine z_ic hx hb dX7_isTaken_36 (by decide) (fun v36 h36 => ?_)
        exact z_retz hx hb hr hlocks hP hS dX7_isTaken_37 (by omega) ⟨⟨hO, hPP⟩, (by omega)⟩
      · skip
        refine lv_iload_n hx hb dX7_isTaken_10 rfl (lv_at hl 3 rfl) ?_
        refine lv_iload_n hx hb dX7_isTaken_11 rfl (lv_at hl 2 rfl) ?_
        refine z_icmp_eq (tgt := 30) hx hb dX7_isTaken_12 (by decide) (fun c12 => ?_) (fun c12 => ?_)
        · skip
          exact J30 _ _ x1 x2 x3 hP hS (by omega) (by omega) _ (lv_sub hl [0, 1, 2, 3] rfl)
        · skip
          refine lv_aload_n hx hb dX7_isTaken_15 rfl (lv_at hl 0 rfl) ?_
          refine va_get (ci := 7) (C := RX7) (T := TX7) (N := 6) (v := .ref (ad 52)) hx hb hts inX7 hown hK hP 0 (zw_at (by decide) e4) rfl 3 (by decide) fl34 (fun _ h => h) rfl dX7_isTaken_16 ?_
          refine lv_iload_n hx hb dX7_isTaken_19 rfl (lv_at hl 3 rfl) ?_
          obtain ⟨f20, e20, h20⟩ := gg_Wa hO
          refine z_ald (g := fun j0 => 53 + j0) hx hb hK hP (q0 := 52) 3 (by decide) e20 rfl (by omega) h20 dX7_isTaken_20 (fun j20 h20a => ?_)
          obtain ⟨v21, v21a, v21b, v21c, v21d, v21e, v21f, e21, h21, h21a, h21b⟩ := gg_Wk hO (j := j20) (by omega)
          refine va_get (ci := 6) (C := RX6) (T := TX6) (N := 8) (v := .int v21a) hx hb hts inX6 hown hK hP (53 + j20) (zw_at (by omega) e21) rfl 2 (by decide) fl57 (fun _ h => h) rfl dX7_isTaken_21 ?_
          refine lv_iload_n hx hb dX7_isTaken_24 rfl (lv_at hl 1 rfl) ?_
          refine z_icmp_ne (tgt := 30) hx hb dX7_isTaken_25 (by decide) (fun c25 => ?_) (fun c25 => ?_)
          · skip
            exact J30 _ _ x1 x2 x3 hP hS (by omega) (by omega) _ (lv_sub hl [0, 1, 2, 3] rfl)
          · skip
            refine z_ic hx hb dX7_isTaken_28 (by decide) (fun v28 h28 => ?_)
            exact z_retz hx hb hr hlocks hP hS dX7_isTaken_29 (by omega) ⟨⟨hO, hPP⟩, (by omega)⟩
  intro ls hl
  have hl : lv_has ls 4 [(0, .ref (ad 0)), (1, .int p1), (2, .int p2)] := hl
  refine z_ic hx hb dX7_isTaken_0 (by decide) (fun v0 h0 => ?_)
  refine lv_istore_n (lv' := [(3, .int v0), (0, .ref (ad 0)), (1, .int p1), (2, .int p2)]) hx hb dX7_isTaken_1 rfl hl (by decide) rfl (fun ls hl => ?_)
  exact L2 8 _ _ p1 p2 v0 hP hS (by omega) (by omega) _ (lv_sub hl [1, 2, 3, 0] rfl)
set_option maxHeartbeats 8000000 in
set_option maxRecDepth 100000 in
theorem c_X7_anyStandsOn (l : Launch) (D : va_G) (cy : Nat → ClassId) (ad : Nat → Nat) (cnt : Nat → Nat) (B : Nat) (PP : (Nat → va_E) → Prop) (hJ : zJ 73 ad) (a1 : Nat) (q_a1 : a1 < 32) : zM l D (gT cy) 73 ad (fun c1 => gOK cy ad cnt B c1 ∧ PP c1) yX7_anyStandsOn vsX7_anyStandsOn { frames := 1, cells := 0, slots := 0, locals := 23 } ([.ref (ad 0), .ref (ad (12 + a1))] : List Value) (zQi D 73 ad (fun r ce => (gOK cy ad cnt B ce ∧ PP ce) ∧ (0 ≤ r.toInt ∧ r.toInt ≤ 1))) := by
  refine z_of (cc := cX7_anyStandsOn) (maxL := 4) (ret := (some .boolean)) (by decide) rfl (Nat.le_of_ble_eq_true rfl) ?_
  intro p e s m below meth c hx hb hr hts hown hlocks hml hK hN ce hOK hP
  have hown : s.vm.findClass RX7 = some m.cls := hown
  have hS : va_S (zA 73 ad) s.heap s.heap [] := va_S.rf
  obtain ⟨hO, hPP⟩ := hOK
  have inX6 : ∀ w ∈ u_ws RX6 TX6 8, w ∈ vsX7_anyStandsOn := fun w h => List.mem_cons_of_mem _ (inlX6 w h)
  have inX7 : ∀ w ∈ u_ws RX7 TX7 6, w ∈ vsX7_anyStandsOn := fun w h => List.mem_cons_of_mem _ (inlX7 w h)
  have fl34 := hts (.fieldLink RX7 34 "GroundKeeper" "walkers" "[LGroundKeeper$Walker;") (List.mem_cons_of_mem _ mw_184)
  have fl53 := hts (.fieldLink RX7 53 "GroundKeeper" "walkerSize" "I") (List.mem_cons_of_mem _ mw_185)
  have fl57 := hts (.fieldLink RX7 57 "GroundKeeper$Walker" "place" "I") (List.mem_cons_of_mem _ mw_186)
  have L2 : ∀ N2 : Nat, ∀ (H : Heap) (locs : List Loc) (j1 : Nat) (x2 : Int32), va_P D vwCl (zw 73 ad ce) H → va_S (zA 73 ad) s.heap H locs → (j1 < 32) → (0 ≤ x2.toInt ∧ x2.toInt ≤ 6) → (7 - x2.toInt ≤ (N2 : Int)) → ∀ ls : Array Slot, lv_has ls 4 [(0, .ref (ad 0)), (1, .ref (ad (12 + j1))), (2, .int x2)] → W p l e { frames := 1, cells := 0, slots := 0, locals := 23 } s m ([.ref (ad 0), .ref (ad (12 + a1))] : List Value).toArray below meth c H locs 0 0 (MQ below (zQi D 73 ad (fun r ce => (gOK cy ad cnt B ce ∧ PP ce) ∧ (0 ≤ r.toInt ∧ r.toInt ≤ 1))) ([.ref (ad 0), .ref (ad (12 + a1))] : List Value).toArray s 0 0 (zA 73 ad)) (F0 m 2 ls []) := by
    intro N2
    induction N2 with
    | zero =>
      intro H locs j1 x2 hP hS q_j1 q_x2 hm ls hl
      exfalso; omega
    | succ N2 ih2 =>
      intro H locs j1 x2 hP hS q_j1 q_x2 hm ls hl
      refine lv_iload_n hx hb dX7_anyStandsOn_2 rfl (lv_at hl 2 rfl) ?_
      refine lv_aload_n hx hb dX7_anyStandsOn_3 rfl (lv_at hl 0 rfl) ?_
      obtain ⟨v4, v4a, e4, h4, h4a⟩ := gg_GK hO
      refine va_get (ci := 7) (C := RX7) (T := TX7) (N := 6) (v := .int v4) hx hb hts inX7 hown hK hP 0 (zw_at (by decide) e4) rfl 4 (by decide) fl53 (fun _ h => h) rfl dX7_anyStandsOn_4 ?_
      refine z_icmp_ge (tgt := 47) hx hb dX7_anyStandsOn_7 (by decide) (fun c7 => ?_) (fun c7 => ?_)
      · skip
        refine z_ic hx hb dX7_anyStandsOn_47 (by decide) (fun v47 h47 => ?_)
        exact z_retz hx hb hr hlocks hP hS dX7_anyStandsOn_48 (by omega) ⟨⟨hO, hPP⟩, (by omega)⟩
      · skip
        refine lv_aload_n hx hb dX7_anyStandsOn_10 rfl (lv_at hl 0 rfl) ?_
        refine va_get (ci := 7) (C := RX7) (T := TX7) (N := 6) (v := .ref (ad 52)) hx hb hts inX7 hown hK hP 0 (zw_at (by decide) e4) rfl 3 (by decide) fl34 (fun _ h => h) rfl dX7_anyStandsOn_11 ?_
        refine lv_iload_n hx hb dX7_anyStandsOn_14 rfl (lv_at hl 2 rfl) ?_
        obtain ⟨f15, e15, h15⟩ := gg_Wa hO
        refine z_ald (g := fun j0 => 53 + j0) hx hb hK hP (q0 := 52) 3 (by decide) e15 rfl (by omega) h15 dX7_anyStandsOn_15 (fun j15 h15a => ?_)
        obtain ⟨v16, v16a, v16b, v16c, v16d, v16e, v16f, e16, h16, h16a, h16b⟩ := gg_Wk hO (j := j15) (by omega)
        refine va_get (ci := 6) (C := RX6) (T := TX6) (N := 8) (v := .int v16a) hx hb hts inX6 hown hK hP (53 + j15) (zw_at (by omega) e16) rfl 2 (by decide) fl57 (fun _ h => h) rfl dX7_anyStandsOn_16 ?_
        refine lv_istore_n (lv' := [(3, .int v16a), (0, .ref (ad 0)), (1, .ref (ad (12 + j1))), (2, .int x2)]) hx hb dX7_anyStandsOn_19 rfl hl (by decide) rfl (fun ls hl => ?_)
        refine lv_aload_n hx hb dX7_anyStandsOn_20 rfl (lv_at hl 2 rfl) ?_
        refine lv_iload_n hx hb dX7_anyStandsOn_21 rfl (lv_at hl 0 rfl) ?_
        refine z_ciP (z_rS (As := [.int v16a]) (rest := [.ref (ad (12 + j1))]) ⟨hx, hb, hml, hown, hts⟩ (c_X7_levelOf l D (gT cy) 73 ad (fun c1 => c1 = ce) v16a) (va_cwS 1 hts (g_S mw_4 mw_5 mw_2 mw_6) rfl rfl rfl (by decide +kernel) ⟨Nat.le_of_ble_eq_true rfl, Nat.le_of_ble_eq_true rfl⟩) hK hN rfl hP rfl hl.1 rfl (Nat.le_of_ble_eq_true rfl) dX7_anyStandsOn_22 ⟨Nat.zero_le _, Nat.zero_le _⟩) hS (fun _ h => h) (fun v22 H locs h22 hP hS => ?_)
        refine lv_iload_n hx hb dX7_anyStandsOn_25 rfl (lv_at hl 0 rfl) ?_
        refine z_ciP (z_rS (As := [.int v16a]) (rest := [.int v22, .ref (ad (12 + j1))]) ⟨hx, hb, hml, hown, hts⟩ (c_X7_xOf l D (gT cy) 73 ad (fun c1 => c1 = ce) v16a) (va_cwS 1 hts (g_S mw_10 mw_11 mw_2 mw_12) rfl rfl rfl (by decide +kernel) ⟨Nat.le_of_ble_eq_true rfl, Nat.le_of_ble_eq_true rfl⟩) hK hN rfl hP rfl hl.1 rfl (Nat.le_of_ble_eq_true rfl) dX7_anyStandsOn_26 ⟨Nat.zero_le _, Nat.zero_le _⟩) hS (fun _ h => h) (fun v26 H locs h26 hP hS => ?_)
        refine lv_iload_n hx hb dX7_anyStandsOn_29 rfl (lv_at hl 0 rfl) ?_
        refine z_ciP (z_rS (As := [.int v16a]) (rest := [.int v26, .int v22, .ref (ad (12 + j1))]) ⟨hx, hb, hml, hown, hts⟩ (c_X7_yOf l D (gT cy) 73 ad (fun c1 => c1 = ce) v16a) (va_cwS 1 hts (g_S mw_7 mw_8 mw_2 mw_9) rfl rfl rfl (by decide +kernel) ⟨Nat.le_of_ble_eq_true rfl, Nat.le_of_ble_eq_true rfl⟩) hK hN rfl hP rfl hl.1 rfl (Nat.le_of_ble_eq_true rfl) dX7_anyStandsOn_30 ⟨Nat.zero_le _, Nat.zero_le _⟩) hS (fun _ h => h) (fun v30 H locs h30 hP hS => ?_)
        obtain ⟨v33, v33a, v33b, v33c, v33d, v33e, e33⟩ := gg_Ar hO (j := j1) (by omega)
        refine z_ciP (z_rV (q0 := (12 + j1)) (As := [.int v22, .int v26, .int v30]) (rest := []) ⟨hx, hb, hml, hown, hts⟩ (c_X0_holds l D cy ad cnt B (fun c1 => c1 = ce) hJ j1 v22 v26 v30 (by omega)) (cwV 3 hts (g_V mw_198 mw_73 mw_74 mw_33 mw_75) rfl rfl rfl (by decide +kernel) ⟨Nat.le_of_ble_eq_true rfl, Nat.le_of_ble_eq_true rfl⟩) hK hN ⟨hO, rfl⟩ hP (by omega) e33 rfl rfl hl.1 rfl (Nat.le_of_ble_eq_true rfl) dX7_anyStandsOn_33 ⟨Nat.zero_le _, Nat.zero_le _⟩) hS (fun _ h => h.2) (fun v33f H locs h33 hP hS => ?_)
        refine z_if_eq (tgt := 41) hx hb dX7_anyStandsOn_36 (by decide) (fun c36 => ?_) (fun c36 => ?_)
        · skip
          refine z_iinc (lv' := fun w0 => [(2, .int w0), (3, .int v16a), (0, .ref (ad 0)), (1, .ref (ad (12 + j1)))]) hx hb dX7_anyStandsOn_41 hl (k := 3) rfl (by decide) (fun _ => rfl) (by decide) (by omega) (fun v41 ls h41 hl => ?_)
          refine lv_goto (tgt := 2) hx hb dX7_anyStandsOn_44 (by decide) ?_
          exact ih2 _ _ j1 v41 hP hS (by omega) (by omega) (by omega) _ (lv_sub hl [2, 3, 0] rfl)
        · skip
          refine z_ic hx hb dX7_anyStandsOn_39 (by decide) (fun v39 h39 => ?_)
          exact z_retz hx hb hr hlocks hP hS dX7_anyStandsOn_40 (by omega) ⟨⟨hO, hPP⟩, (by omega)⟩
  intro ls hl
  have hl : lv_has ls 4 [(0, .ref (ad 0)), (1, .ref (ad (12 + a1)))] := hl
  refine z_ic hx hb dX7_anyStandsOn_0 (by decide) (fun v0 h0 => ?_)
  refine lv_istore_n (lv' := [(2, .int v0), (0, .ref (ad 0)), (1, .ref (ad (12 + a1)))]) hx hb dX7_anyStandsOn_1 rfl hl (by decide) rfl (fun ls hl => ?_)
  exact L2 8 _ _ a1 v0 hP hS (by omega) (by omega) (by omega) _ (lv_sub hl [1, 2, 0] rfl)
set_option maxHeartbeats 8000000 in
set_option maxRecDepth 100000 in
theorem c_X7_avoidOthers (l : Launch) (D : va_G) (cy : Nat → ClassId) (ad : Nat → Nat) (cnt : Nat → Nat) (B : Nat) (hJ : zJ 73 ad) (p1 : Int32) (q_p1 : 0 ≤ p1.toInt ∧ p1.toInt ≤ 5) : zM l D (gT cy) 73 ad (gOK cy ad cnt B) yX7_avoidOthers vsX7_avoidOthers { frames := 1, cells := 0, slots := 0, locals := 21 } ([.ref (ad 0), .int p1] : List Value) (zQv D 73 ad (fun ce => gOK cy ad cnt B ce ∧ (True))) := by
  refine z_of (cc := cX7_avoidOthers) (maxL := 3) (ret := none) (by decide) rfl (Nat.le_of_ble_eq_true rfl) ?_
  intro p e s m below meth c hx hb hr hts hown hlocks hml hK hN ce hOK hP
  have hown : s.vm.findClass RX7 = some m.cls := hown
  have hS : va_S (zA 73 ad) s.heap s.heap [] := va_S.rf
  have hO := hOK
  have inX6 : ∀ w ∈ u_ws RX6 TX6 8, w ∈ vsX7_avoidOthers := fun w h => List.mem_cons_of_mem _ (inlX6 w h)
  have inX7 : ∀ w ∈ u_ws RX7 TX7 6, w ∈ vsX7_avoidOthers := fun w h => List.mem_cons_of_mem _ (inlX7 w h)
  have fl21 := hts (.fieldLink RX7 21 "GroundKeeper" "finder" "LGroundKeeper$Finder;") (List.mem_cons_of_mem _ mw_187)
  have fl34 := hts (.fieldLink RX7 34 "GroundKeeper" "walkers" "[LGroundKeeper$Walker;") (List.mem_cons_of_mem _ mw_184)
  have fl53 := hts (.fieldLink RX7 53 "GroundKeeper" "walkerSize" "I") (List.mem_cons_of_mem _ mw_185)
  have fl57 := hts (.fieldLink RX7 57 "GroundKeeper$Walker" "place" "I") (List.mem_cons_of_mem _ mw_186)
  have L9 : ∀ N9 : Nat, ∀ (H : Heap) (locs : List Loc) (ce : Nat → va_E) (x1 : Int32) (x2 : Int32), va_P D vwCl (zw 73 ad ce) H → va_S (zA 73 ad) s.heap H locs → gOK cy ad cnt B ce → (0 ≤ x1.toInt ∧ x1.toInt ≤ 5) → (0 ≤ x2.toInt ∧ x2.toInt ≤ 6) → (7 - x2.toInt ≤ (N9 : Int)) → ∀ ls : Array Slot, lv_has ls 3 [(0, .ref (ad 0)), (1, .int x1), (2, .int x2)] → W p l e { frames := 1, cells := 0, slots := 0, locals := 21 } s m ([.ref (ad 0), .int p1] : List Value).toArray below meth c H locs 0 0 (MQ below (zQv D 73 ad (fun ce => gOK cy ad cnt B ce ∧ (True))) ([.ref (ad 0), .int p1] : List Value).toArray s 0 0 (zA 73 ad)) (F0 m 9 ls []) := by
    intro N9
    induction N9 with
    | zero =>
      intro H locs ce x1 x2 hP hS hO q_x1 q_x2 hm ls hl
      exfalso; omega
    | succ N9 ih9 =>
      have J59 : ∀ (H : Heap) (locs : List Loc) (ce : Nat → va_E) (x1 : Int32) (x2 : Int32), va_P D vwCl (zw 73 ad ce) H → va_S (zA 73 ad) s.heap H locs → gOK cy ad cnt B ce → (0 ≤ x1.toInt ∧ x1.toInt ≤ 5) → (0 ≤ x2.toInt ∧ x2.toInt ≤ 5) → (7 - x2.toInt ≤ (N9 : Int) + 1) → ∀ ls : Array Slot, lv_has ls 3 [(0, .ref (ad 0)), (1, .int x1), (2, .int x2)] → W p l e { frames := 1, cells := 0, slots := 0, locals := 21 } s m ([.ref (ad 0), .int p1] : List Value).toArray below meth c H locs 0 0 (MQ below (zQv D 73 ad (fun ce => gOK cy ad cnt B ce ∧ (True))) ([.ref (ad 0), .int p1] : List Value).toArray s 0 0 (zA 73 ad)) (F0 m 59 ls []) := by
        intro H locs ce x1 x2 hP hS hO q_x1 q_x2 qm9 ls hl
        refine z_iinc (lv' := fun w0 => [(2, .int w0), (0, .ref (ad 0)), (1, .int x1)]) hx hb dX7_avoidOthers_59 hl (k := 2) rfl (by decide) (fun _ => rfl) (by decide) (by omega) (fun v59 ls h59 hl => ?_)
        refine lv_goto (tgt := 9) hx hb dX7_avoidOthers_62 (by decide) ?_
        exact ih9 _ _ _ x1 v59 hP hS hO (by omega) (by omega) (by omega) _ (lv_sub hl [1, 2, 0] rfl)
      intro H locs ce x1 x2 hP hS hO q_x1 q_x2 hm ls hl
      refine lv_iload_n hx hb dX7_avoidOthers_9 rfl (lv_at hl 2 rfl) ?_
      refine lv_aload_n hx hb dX7_avoidOthers_10 rfl (lv_at hl 0 rfl) ?_
      obtain ⟨v11, v11a, e11, h11, h11a⟩ := gg_GK hO
      refine va_get (ci := 7) (C := RX7) (T := TX7) (N := 6) (v := .int v11) hx hb hts inX7 hown hK hP 0 (zw_at (by decide) e11) rfl 4 (by decide) fl53 (fun _ h => h) rfl dX7_avoidOthers_11 ?_
      refine z_icmp_ge (tgt := 65) hx hb dX7_avoidOthers_14 (by decide) (fun c14 => ?_) (fun c14 => ?_)
      · skip
        exact z_retv hx hb hr hlocks hP hS dX7_avoidOthers_65 ⟨hO, trivial⟩
      · skip
        refine lv_iload_n hx hb dX7_avoidOthers_17 rfl (lv_at hl 2 rfl) ?_
        refine lv_iload_n hx hb dX7_avoidOthers_18 rfl (lv_at hl 1 rfl) ?_
        refine z_icmp_eq (tgt := 59) hx hb dX7_avoidOthers_19 (by decide) (fun c19 => ?_) (fun c19 => ?_)
        · skip
          exact J59 _ _ _ x1 x2 hP hS hO (by omega) (by omega) (by omega) _ (lv_sub hl [0, 1, 2] rfl)
        · skip
          refine lv_aload_n hx hb dX7_avoidOthers_22 rfl (lv_at hl 0 rfl) ?_
          refine va_get (ci := 7) (C := RX7) (T := TX7) (N := 6) (v := .ref (ad 52)) hx hb hts inX7 hown hK hP 0 (zw_at (by decide) e11) rfl 3 (by decide) fl34 (fun _ h => h) rfl dX7_avoidOthers_23 ?_
          refine lv_iload_n hx hb dX7_avoidOthers_26 rfl (lv_at hl 2 rfl) ?_
          obtain ⟨f27, e27, h27⟩ := gg_Wa hO
          refine z_ald (g := fun j0 => 53 + j0) hx hb hK hP (q0 := 52) 3 (by decide) e27 rfl (by omega) h27 dX7_avoidOthers_27 (fun j27 h27a => ?_)
          obtain ⟨v28, v28a, v28b, v28c, v28d, v28e, v28f, e28, h28, h28a, h28b⟩ := gg_Wk hO (j := j27) (by omega)
          refine va_get (ci := 6) (C := RX6) (T := TX6) (N := 8) (v := .int v28a) hx hb hts inX6 hown hK hP (53 + j27) (zw_at (by omega) e28) rfl 2 (by decide) fl57 (fun _ h => h) rfl dX7_avoidOthers_28 ?_
          refine lv_aload_n hx hb dX7_avoidOthers_31 rfl (lv_at hl 0 rfl) ?_
          refine va_get (ci := 7) (C := RX7) (T := TX7) (N := 6) (v := .ref (ad 52)) hx hb hts inX7 hown hK hP 0 (zw_at (by decide) e11) rfl 3 (by decide) fl34 (fun _ h => h) rfl dX7_avoidOthers_32 ?_
          refine lv_iload_n hx hb dX7_avoidOthers_35 rfl (lv_at hl 1 rfl) ?_
          refine z_ald (g := fun j0 => 53 + j0) hx hb hK hP (q0 := 52) 3 (by decide) e27 rfl (by omega) h27 dX7_avoidOthers_36 (fun j36 h36 => ?_)
          obtain ⟨v37, v37a, v37b, v37c, v37d, v37e, v37f, e37, h37, h37a, h37b⟩ := gg_Wk hO (j := j36) (by omega)
          refine z_ciP (z_rV (q0 := (53 + j36)) (As := []) (rest := [.int v28a]) ⟨hx, hb, hml, hown, hts⟩ (c_X6_lastPlace l D cy ad cnt B (fun c1 => c1 = ce) hJ j36 (by omega)) (cwV 0 hts (g_V mw_199 mw_200 mw_201 mw_196 mw_202) rfl rfl rfl (by decide +kernel) ⟨Nat.le_of_ble_eq_true rfl, Nat.le_of_ble_eq_true rfl⟩) hK hN ⟨hO, rfl⟩ hP (by omega) e37 rfl rfl hl.1 rfl (Nat.le_of_ble_eq_true rfl) dX7_avoidOthers_37 ⟨Nat.zero_le _, Nat.zero_le _⟩) hS (fun _ h => h.2) (fun v37g H locs h37c hP hS => ?_)
          refine z_icmp_eq (tgt := 59) hx hb dX7_avoidOthers_40 (by decide) (fun c40 => ?_) (fun c40 => ?_)
          · skip
            exact J59 _ _ _ x1 x2 hP hS hO (by omega) (by omega) (by omega) _ (lv_sub hl [0, 1, 2] rfl)
          · skip
            refine lv_aload_n hx hb dX7_avoidOthers_43 rfl (lv_at hl 0 rfl) ?_
            refine va_get (ci := 7) (C := RX7) (T := TX7) (N := 6) (v := .ref (ad 2)) hx hb hts inX7 hown hK hP 0 (zw_at (by decide) e11) rfl 1 (by decide) fl21 (fun _ h => h) rfl dX7_avoidOthers_44 ?_
            refine lv_aload_n hx hb dX7_avoidOthers_47 rfl (lv_at hl 0 rfl) ?_
            refine va_get (ci := 7) (C := RX7) (T := TX7) (N := 6) (v := .ref (ad 52)) hx hb hts inX7 hown hK hP 0 (zw_at (by decide) e11) rfl 3 (by decide) fl34 (fun _ h => h) rfl dX7_avoidOthers_48 ?_
            refine lv_iload_n hx hb dX7_avoidOthers_51 rfl (lv_at hl 2 rfl) ?_
            refine z_ald (g := fun j0 => 53 + j0) hx hb hK hP (q0 := 52) 3 (by decide) e27 rfl (by omega) h27 dX7_avoidOthers_52 (fun j52 h52 => ?_)
            obtain ⟨v53, v53a, v53b, v53c, v53d, v53e, v53f, e53, h53, h53a, h53b⟩ := gg_Wk hO (j := j52) (by omega)
            refine va_get (ci := 6) (C := RX6) (T := TX6) (N := 8) (v := .int v53a) hx hb hts inX6 hown hK hP (53 + j52) (zw_at (by omega) e53) rfl 2 (by decide) fl57 (fun _ h => h) rfl dX7_avoidOthers_53 ?_
            obtain ⟨v56, v56a, v56b, e56, h56, h56a, h56b, h56c, h56d, h56e⟩ := gg_Fi hO
            refine z_cv (z_rV (q0 := 2) (As := [.int v53a]) (rest := []) ⟨hx, hb, hml, hown, hts⟩ (c_X2_avoid l D cy ad cnt B hJ v53a) (cwV 1 hts (g_V mw_203 mw_204 mw_205 mw_146 mw_206) rfl rfl rfl (by decide +kernel) ⟨Nat.le_of_ble_eq_true rfl, Nat.le_of_ble_eq_true rfl⟩) hK hN hO hP (by decide) e56 rfl rfl hl.1 rfl (Nat.le_of_ble_eq_true rfl) dX7_avoidOthers_56 ⟨Nat.zero_le _, Nat.zero_le _⟩) hS (fun ce H locs h56f hP hS => ?_)
            obtain ⟨hO, h56g⟩ := h56f
            exact J59 _ _ _ x1 x2 hP hS hO (by omega) (by omega) (by omega) _ (lv_sub hl [0, 1, 2] rfl)
  intro ls hl
  have hl : lv_has ls 3 [(0, .ref (ad 0)), (1, .int p1)] := hl
  refine lv_aload_n hx hb dX7_avoidOthers_0 rfl (lv_at hl 0 rfl) ?_
  obtain ⟨v1, v1a, e1, h1, h1a⟩ := gg_GK hO
  refine va_get (ci := 7) (C := RX7) (T := TX7) (N := 6) (v := .ref (ad 2)) hx hb hts inX7 hown hK hP 0 (zw_at (by decide) e1) rfl 1 (by decide) fl21 (fun _ h => h) rfl dX7_avoidOthers_1 ?_
  obtain ⟨v4, v4a, v4b, e4, h4, h4a, h4b, h4c, h4d, h4e⟩ := gg_Fi hO
  refine z_cv (z_rV (q0 := 2) (As := []) (rest := []) ⟨hx, hb, hml, hown, hts⟩ (c_X2_avoidNothing l D cy ad cnt B hJ) (cwV 0 hts (g_V mw_207 mw_208 mw_209 mw_146 mw_210) rfl rfl rfl (by decide +kernel) ⟨Nat.le_of_ble_eq_true rfl, Nat.le_of_ble_eq_true rfl⟩) hK hN hO hP (by decide) e4 rfl rfl hl.1 rfl (Nat.le_of_ble_eq_true rfl) dX7_avoidOthers_4 ⟨Nat.zero_le _, Nat.zero_le _⟩) hS (fun ce H locs h4f hP hS => ?_)
  obtain ⟨hO, h4g⟩ := h4f
  refine z_ic hx hb dX7_avoidOthers_7 (by decide) (fun v7 h7 => ?_)
  refine lv_istore_n (lv' := [(2, .int v7), (0, .ref (ad 0)), (1, .int p1)]) hx hb dX7_avoidOthers_8 rfl hl (by decide) rfl (fun ls hl => ?_)
  exact L9 8 _ _ _ p1 v7 hP hS hO (by omega) (by omega) (by omega) _ (lv_sub hl [1, 2, 0] rfl)
set_option maxHeartbeats 8000000 in
set_option maxRecDepth 100000 in
theorem c_X7_takeTurn (l : Launch) (D : va_G) (cy : Nat → ClassId) (ad : Nat → Nat) (cnt : Nat → Nat) (B : Nat) (hJ : zJ 73 ad) (hB : 1 ≤ B ∧ B + 1 ≤ 1000000) (p1 : Int32) (q_p1 : 0 ≤ p1.toInt ∧ p1.toInt ≤ 5) : zM l D (gT cy) 73 ad (gOK cy ad cnt B) yX7_takeTurn vsX7_takeTurn { frames := 5, cells := 0, slots := 0, locals := 120 } ([.ref (ad 0), .int p1] : List Value) (zQv D 73 ad (fun ce => gOK cy ad cnt (B + 1) ce ∧ (True))) := by
  refine z_of (cc := cX7_takeTurn) (maxL := 4) (ret := none) (by decide) rfl (Nat.le_of_ble_eq_true rfl) ?_
  intro p e s m below meth c hx hb hr hts hown hlocks hml hK hN ce hOK hP
  have hown : s.vm.findClass RX7 = some m.cls := hown
  have hS : va_S (zA 73 ad) s.heap s.heap [] := va_S.rf
  have hO := hOK
  have inX6 : ∀ w ∈ u_ws RX6 TX6 8, w ∈ vsX7_takeTurn := fun w h => List.mem_cons_of_mem _ (inlX6 w h)
  have inX7 : ∀ w ∈ u_ws RX7 TX7 6, w ∈ vsX7_takeTurn := fun w h => List.mem_cons_of_mem _ (inlX7 w h)
  have fl12 := hts (.fieldLink RX7 12 "GroundKeeper" "ground" "LGroundKeeper$Ground;") (List.mem_cons_of_mem _ mw_188)
  have fl21 := hts (.fieldLink RX7 21 "GroundKeeper" "finder" "LGroundKeeper$Finder;") (List.mem_cons_of_mem _ mw_187)
  have fl34 := hts (.fieldLink RX7 34 "GroundKeeper" "walkers" "[LGroundKeeper$Walker;") (List.mem_cons_of_mem _ mw_184)
  have fl57 := hts (.fieldLink RX7 57 "GroundKeeper$Walker" "place" "I") (List.mem_cons_of_mem _ mw_186)
  have fl156 := hts (.fieldLink RX7 156 "GroundKeeper$Walker" "stuck" "Z") (List.mem_cons_of_mem _ mw_189)
  have fl162 := hts (.fieldLink RX7 162 "GroundKeeper$Walker" "row" "LGroundKeeper$Row;") (List.mem_cons_of_mem _ mw_190)
  have fl178 := hts (.fieldLink RX7 178 "GroundKeeper$Walker" "waits" "I") (List.mem_cons_of_mem _ mw_191)
  have fl187 := hts (.fieldLink RX7 187 "GroundKeeper$Walker" "looks" "I") (List.mem_cons_of_mem _ mw_192)
  have J62 : ∀ (H : Heap) (locs : List Loc) (ce : Nat → va_E) (x1 : Int32) (j2 : Nat), va_P D vwCl (zw 73 ad ce) H → va_S (zA 73 ad) s.heap H locs → gOK cy ad cnt B ce → (0 ≤ x1.toInt ∧ x1.toInt ≤ 5) → (j2 < 6) → ∀ ls : Array Slot, lv_has ls 4 [(0, .ref (ad 0)), (1, .int x1), (2, .ref (ad (53 + j2)))] → W p l e { frames := 5, cells := 0, slots := 0, locals := 120 } s m ([.ref (ad 0), .int p1] : List Value).toArray below meth c H locs 0 0 (MQ below (zQv D 73 ad (fun ce => gOK cy ad cnt (B + 1) ce ∧ (True))) ([.ref (ad 0), .int p1] : List Value).toArray s 0 0 (zA 73 ad)) (F0 m 62 ls []) := by
    intro H locs ce x1 j2 hP hS hO q_x1 q_j2 ls hl
    refine lv_aload_n hx hb dX7_takeTurn_62 rfl (lv_at hl 2 rfl) ?_
    refine lv_dup hx hb dX7_takeTurn_63 rfl ?_
    obtain ⟨v64, v64a, v64b, v64c, v64d, v64e, v64f, e64, h64, h64a, h64b⟩ := gg_Wk hO (j := j2) (by omega)
    refine va_get (ci := 6) (C := RX6) (T := TX6) (N := 8) (v := .int v64b) hx hb hts inX6 hown hK hP (53 + j2) (zw_at (by omega) e64) rfl 3 (by decide) fl178 (fun _ h => h) rfl dX7_takeTurn_64 ?_
    refine z_ic hx hb dX7_takeTurn_67 (by decide) (fun v67 h67 => ?_)
    refine lv_iadd hx hb dX7_takeTurn_68 ?_
    refine lv_topi (fun v68 _ => ?_)
    refine z_put (q0 := (53 + j2)) (ci := 6) (C := RX6) (T := TX6) (N := 8) hx hb hts inX6 tyX6 tyX6_ok nmX6 hown hK hJ hP hS (by omega) e64 rfl 3 (by decide) fl178 (fun _ h => h) rfl (ty := .int) (by decide +kernel) rfl rfl (Nat.le_of_ble_eq_true rfl) (fs1 := [.ref (ad (59 + j2)), .int v64, .int v64a, .int v68, .int v64c, .int v64d, .int v64e, .int v64f]) rfl dX7_takeTurn_69 (fun ce H locs e69 h69 hP hS => ?_)
    have hO := z_up (OKK := gK cy ad cnt B) (53 + j2) hO h69 (by rw [e69]; exact gE_Wk (by omega) |>.mpr ⟨v64, v64a, v68, v64c, v64d, v64e, v64f, rfl, h64, h64a, h64b⟩)
    refine lv_aload_n hx hb dX7_takeTurn_72 rfl (lv_at hl 2 rfl) ?_
    refine va_get (ci := 6) (C := RX6) (T := TX6) (N := 8) (v := .int v68) hx hb hts inX6 hown hK hP (53 + j2) (zw_at (by omega) e69) rfl 3 (by decide) fl178 (fun _ h => h) rfl dX7_takeTurn_73 ?_
    refine z_ic hx hb dX7_takeTurn_76 (by decide) (fun v76 h76 => ?_)
    refine z_icmp_ge (tgt := 81) hx hb dX7_takeTurn_77 (by decide) (fun c77 => ?_) (fun c77 => ?_)
    · skip
      refine lv_aload_n hx hb dX7_takeTurn_81 rfl (lv_at hl 2 rfl) ?_
      refine z_ic hx hb dX7_takeTurn_82 (by decide) (fun v82 h82 => ?_)
      refine z_put (q0 := (53 + j2)) (ci := 6) (C := RX6) (T := TX6) (N := 8) hx hb hts inX6 tyX6 tyX6_ok nmX6 hown hK hJ hP hS (by omega) e69 rfl 3 (by decide) fl178 (fun _ h => h) rfl (ty := .int) (by decide +kernel) rfl rfl (Nat.le_of_ble_eq_true rfl) (fs1 := [.ref (ad (59 + j2)), .int v64, .int v64a, .int v82, .int v64c, .int v64d, .int v64e, .int v64f]) rfl dX7_takeTurn_83 (fun ce H locs e83 h83 hP hS => ?_)
      have hO := z_up (OKK := gK cy ad cnt B) (53 + j2) hO h83 (by rw [e83]; exact gE_Wk (by omega) |>.mpr ⟨v64, v64a, v82, v64c, v64d, v64e, v64f, rfl, h64, h64a, h64b⟩)
      refine lv_aload_n hx hb dX7_takeTurn_86 rfl (lv_at hl 2 rfl) ?_
      refine lv_dup hx hb dX7_takeTurn_87 rfl ?_
      refine va_get (ci := 6) (C := RX6) (T := TX6) (N := 8) (v := .int v64f) hx hb hts inX6 hown hK hP (53 + j2) (zw_at (by omega) e83) rfl 7 (by decide) fl187 (fun _ h => h) rfl dX7_takeTurn_88 ?_
      refine z_ic hx hb dX7_takeTurn_91 (by decide) (fun v91 h91 => ?_)
      refine lv_iadd hx hb dX7_takeTurn_92 ?_
      refine lv_topi (fun v92 _ => ?_)
      refine z_put (q0 := (53 + j2)) (ci := 6) (C := RX6) (T := TX6) (N := 8) hx hb hts inX6 tyX6 tyX6_ok nmX6 hown hK hJ hP hS (by omega) e83 rfl 7 (by decide) fl187 (fun _ h => h) rfl (ty := .int) (by decide +kernel) rfl rfl (Nat.le_of_ble_eq_true rfl) (fs1 := [.ref (ad (59 + j2)), .int v64, .int v64a, .int v82, .int v64c, .int v64d, .int v64e, .int v92]) rfl dX7_takeTurn_93 (fun ce H locs e93 h93 hP hS => ?_)
      have hO := z_up (OKK := gK cy ad cnt B) (53 + j2) hO h93 (by rw [e93]; exact gE_Wk (by omega) |>.mpr ⟨v64, v64a, v82, v64c, v64d, v64e, v92, rfl, h64, h64a, h64b⟩)
      refine lv_aload_n hx hb dX7_takeTurn_96 rfl (lv_at hl 0 rfl) ?_
      refine lv_iload_n hx hb dX7_takeTurn_97 rfl (lv_at hl 1 rfl) ?_
      obtain ⟨v98, v98a, e98, h98, h98a⟩ := gg_GK hO
      refine z_cv (z_rV (q0 := 0) (As := [.int x1]) (rest := []) ⟨hx, hb, hml, hown, hts⟩ (c_X7_avoidOthers l D cy ad cnt B hJ x1 (by omega)) (cwV 1 hts (g_V mw_211 mw_212 mw_213 mw_2 mw_214) rfl rfl rfl (by decide +kernel) ⟨Nat.le_of_ble_eq_true rfl, Nat.le_of_ble_eq_true rfl⟩) hK hN hO hP (by decide) e98 rfl rfl hl.1 rfl (Nat.le_of_ble_eq_true rfl) dX7_takeTurn_98 ⟨Nat.zero_le _, Nat.zero_le _⟩) hS (fun ce H locs h98b hP hS => ?_)
      obtain ⟨hO, h98c⟩ := h98b
      refine lv_aload_n hx hb dX7_takeTurn_101 rfl (lv_at hl 0 rfl) ?_
      obtain ⟨v102, v102a, e102, h102, h102a⟩ := gg_GK hO
      refine va_get (ci := 7) (C := RX7) (T := TX7) (N := 6) (v := .ref (ad 2)) hx hb hts inX7 hown hK hP 0 (zw_at (by decide) e102) rfl 1 (by decide) fl21 (fun _ h => h) rfl dX7_takeTurn_102 ?_
      refine lv_aload_n hx hb dX7_takeTurn_105 rfl (lv_at hl 2 rfl) ?_
      obtain ⟨v106, v106a, v106b, v106c, v106d, v106e, v106f, e106, h106, h106a, h106b⟩ := gg_Wk hO (j := j2) (by omega)
      refine va_get (ci := 6) (C := RX6) (T := TX6) (N := 8) (v := .int v106a) hx hb hts inX6 hown hK hP (53 + j2) (zw_at (by omega) e106) rfl 2 (by decide) fl57 (fun _ h => h) rfl dX7_takeTurn_106 ?_
      refine lv_aload_n hx hb dX7_takeTurn_109 rfl (lv_at hl 2 rfl) ?_
      refine z_ciP (z_rV (q0 := (53 + j2)) (As := []) (rest := [.int v106a, .ref (ad 2)]) ⟨hx, hb, hml, hown, hts⟩ (c_X6_lastPlace l D cy ad cnt B (fun c1 => c1 = ce) hJ j2 (by omega)) (cwV 0 hts (g_V mw_199 mw_200 mw_201 mw_196 mw_202) rfl rfl rfl (by decide +kernel) ⟨Nat.le_of_ble_eq_true rfl, Nat.le_of_ble_eq_true rfl⟩) hK hN ⟨hO, rfl⟩ hP (by omega) e106 rfl rfl hl.1 rfl (Nat.le_of_ble_eq_true rfl) dX7_takeTurn_110 ⟨Nat.zero_le _, Nat.zero_le _⟩) hS (fun _ h => h.2) (fun v110 H locs h110 hP hS => ?_)
      refine z_ic hx hb dX7_takeTurn_113 (by decide) (fun v113 h113 => ?_)
      obtain ⟨v114, v114a, v114b, e114, h114, h114a, h114b, h114c, h114d, h114e⟩ := gg_Fi hO
      refine z_cv (z_rV (q0 := 2) (As := [.int v106a, .int v110, .int v113]) (rest := []) ⟨hx, hb, hml, hown, hts⟩ (c_X2_explore l D cy ad cnt B hJ v106a v110 v113 (by omega)) (cwV 3 hts (g_V mw_215 mw_216 mw_217 mw_146 mw_218) rfl rfl rfl (by decide +kernel) ⟨Nat.le_of_ble_eq_true rfl, Nat.le_of_ble_eq_true rfl⟩) hK hN hO hP (by decide) e114 rfl rfl hl.1 rfl (Nat.le_of_ble_eq_true rfl) dX7_takeTurn_114 ⟨Nat.zero_le _, Nat.zero_le _⟩) hS (fun ce H locs h114f hP hS => ?_)
      obtain ⟨hO, h114g⟩ := h114f
      refine lv_aload_n hx hb dX7_takeTurn_117 rfl (lv_at hl 0 rfl) ?_
      obtain ⟨v118, v118a, e118, h118, h118a⟩ := gg_GK hO
      refine va_get (ci := 7) (C := RX7) (T := TX7) (N := 6) (v := .ref (ad 2)) hx hb hts inX7 hown hK hP 0 (zw_at (by decide) e118) rfl 1 (by decide) fl21 (fun _ h => h) rfl dX7_takeTurn_118 ?_
      obtain ⟨v121, v121a, v121b, e121, h121, h121a, h121b, h121c, h121d, h121e⟩ := gg_Fi hO
      refine z_ciP (z_rV (q0 := 2) (As := []) (rest := []) ⟨hx, hb, hml, hown, hts⟩ (c_X2_foundLength l D cy ad cnt B (fun c1 => c1 = ce) hJ) (cwV 0 hts (g_V mw_219 mw_220 mw_221 mw_146 mw_222) rfl rfl rfl (by decide +kernel) ⟨Nat.le_of_ble_eq_true rfl, Nat.le_of_ble_eq_true rfl⟩) hK hN ⟨hO, rfl⟩ hP (by decide) e121 rfl rfl hl.1 rfl (Nat.le_of_ble_eq_true rfl) dX7_takeTurn_121 ⟨Nat.zero_le _, Nat.zero_le _⟩) hS (fun _ h => h.2) (fun v121c H locs h121f hP hS => ?_)
      refine z_ic hx hb dX7_takeTurn_124 (by decide) (fun v124 h124 => ?_)
      refine z_icmp_ne (tgt := 140) hx hb dX7_takeTurn_125 (by decide) (fun c125 => ?_) (fun c125 => ?_)
      · skip
        refine lv_aload_n hx hb dX7_takeTurn_140 rfl (lv_at hl 0 rfl) ?_
        refine va_get (ci := 7) (C := RX7) (T := TX7) (N := 6) (v := .ref (ad 2)) hx hb hts inX7 hown hK hP 0 (zw_at (by decide) e118) rfl 1 (by decide) fl21 (fun _ h => h) rfl dX7_takeTurn_141 ?_
        refine lv_aload_n hx hb dX7_takeTurn_144 rfl (lv_at hl 2 rfl) ?_
        obtain ⟨v145, v145a, v145b, v145c, v145d, v145e, v145f, e145, h145, h145a, h145b⟩ := gg_Wk hO (j := j2) (by omega)
        refine va_get (ci := 6) (C := RX6) (T := TX6) (N := 8) (v := .ref (ad (59 + j2))) hx hb hts inX6 hown hK hP (53 + j2) (zw_at (by omega) e145) rfl 0 (by decide) fl162 (fun _ h => h) rfl dX7_takeTurn_145 ?_
        refine z_cv (z_rV (q0 := 2) (As := [.ref (ad (59 + j2))]) (rest := []) ⟨hx, hb, hml, hown, hts⟩ (c_X2_writeWay l D cy ad cnt B hJ j2 (by omega)) (cwV 1 hts (g_V mw_223 mw_224 mw_225 mw_146 mw_226) rfl rfl rfl (by decide +kernel) ⟨Nat.le_of_ble_eq_true rfl, Nat.le_of_ble_eq_true rfl⟩) hK hN hO hP (by decide) e121 rfl rfl hl.1 rfl (Nat.le_of_ble_eq_true rfl) dX7_takeTurn_148 ⟨Nat.zero_le _, Nat.zero_le _⟩) hS (fun ce H locs h148 hP hS => ?_)
        obtain ⟨hO, h148a⟩ := h148
        refine lv_aload_n hx hb dX7_takeTurn_151 rfl (lv_at hl 2 rfl) ?_
        obtain ⟨v152, v152a, v152b, v152c, v152d, v152e, v152f, e152, h152, h152a, h152b⟩ := gg_Wk hO (j := j2) (by omega)
        refine z_cv (z_rV (q0 := (53 + j2)) (As := []) (rest := []) ⟨hx, hb, hml, hown, hts⟩ (c_X6_beginRow l D cy ad cnt B hJ (by omega) j2 (by omega)) (cwV 0 hts (g_V mw_227 mw_228 mw_229 mw_196 mw_230) rfl rfl rfl (by decide +kernel) ⟨Nat.le_of_ble_eq_true rfl, Nat.le_of_ble_eq_true rfl⟩) hK hN hO hP (by omega) e152 rfl rfl hl.1 rfl (Nat.le_of_ble_eq_true rfl) dX7_takeTurn_152 ⟨Nat.zero_le _, Nat.zero_le _⟩) hS (fun ce H locs h152c hP hS => ?_)
        obtain ⟨hO, h152d⟩ := h152c
        exact z_retv hx hb hr hlocks hP hS dX7_takeTurn_155 ⟨(by first | exact hO | exact gOK_mono (by omega) hO), trivial⟩
      · skip
        refine lv_aload_n hx hb dX7_takeTurn_128 rfl (lv_at hl 2 rfl) ?_
        obtain ⟨v129, v129a, v129b, v129c, v129d, v129e, v129f, e129, h129, h129a, h129b⟩ := gg_Wk hO (j := j2) (by omega)
        refine z_cv (z_rV (q0 := (53 + j2)) (As := []) (rest := []) ⟨hx, hb, hml, hown, hts⟩ (c_X6_dropRow l D cy ad cnt B hJ j2 (by omega)) (cwV 0 hts (g_V mw_231 mw_232 mw_233 mw_196 mw_234) rfl rfl rfl (by decide +kernel) ⟨Nat.le_of_ble_eq_true rfl, Nat.le_of_ble_eq_true rfl⟩) hK hN hO hP (by omega) e129 rfl rfl hl.1 rfl (Nat.le_of_ble_eq_true rfl) dX7_takeTurn_129 ⟨Nat.zero_le _, Nat.zero_le _⟩) hS (fun ce H locs h129c hP hS => ?_)
        obtain ⟨hO, h129d⟩ := h129c
        refine lv_aload_n hx hb dX7_takeTurn_132 rfl (lv_at hl 2 rfl) ?_
        refine z_ic hx hb dX7_takeTurn_133 (by decide) (fun v133 h133 => ?_)
        obtain ⟨v134, v134a, v134b, v134c, v134d, v134e, v134f, e134, h134, h134a, h134b⟩ := gg_Wk hO (j := j2) (by omega)
        refine z_put (q0 := (53 + j2)) (ci := 6) (C := RX6) (T := TX6) (N := 8) hx hb hts inX6 tyX6 tyX6_ok nmX6 hown hK hJ hP hS (by omega) e134 rfl 4 (by decide) fl156 (fun _ h => h) rfl (ty := .boolean) (by decide +kernel) (z_nb (by omega)) (z_fb (by omega)) (Nat.le_of_ble_eq_true rfl) (fs1 := [.ref (ad (59 + j2)), .int v134, .int v134a, .int v134b, .int v133, .int v134d, .int v134e, .int v134f]) rfl dX7_takeTurn_134 (fun ce H locs e134a h134c hP hS => ?_)
        have hO := z_up (OKK := gK cy ad cnt B) (53 + j2) hO h134c (by rw [e134a]; exact gE_Wk (by omega) |>.mpr ⟨v134, v134a, v134b, v133, v134d, v134e, v134f, rfl, h134, h134a, h134b⟩)
        refine lv_goto (tgt := 155) hx hb dX7_takeTurn_137 (by decide) ?_
        exact z_retv hx hb hr hlocks hP hS dX7_takeTurn_155 ⟨(by first | exact hO | exact gOK_mono (by omega) hO), trivial⟩
    · skip
      exact z_retv hx hb hr hlocks hP hS dX7_takeTurn_80 ⟨(by first | exact hO | exact gOK_mono (by omega) hO), trivial⟩
  intro ls hl
  have hl : lv_has ls 4 [(0, .ref (ad 0)), (1, .int p1)] := hl
  refine lv_aload_n hx hb dX7_takeTurn_0 rfl (lv_at hl 0 rfl) ?_
  obtain ⟨v1, v1a, e1, h1, h1a⟩ := gg_GK hO
  refine va_get (ci := 7) (C := RX7) (T := TX7) (N := 6) (v := .ref (ad 52)) hx hb hts inX7 hown hK hP 0 (zw_at (by decide) e1) rfl 3 (by decide) fl34 (fun _ h => h) rfl dX7_takeTurn_1 ?_
  refine lv_iload_n hx hb dX7_takeTurn_4 rfl (lv_at hl 1 rfl) ?_
  obtain ⟨f5, e5, h5⟩ := gg_Wa hO
  refine z_ald (g := fun j0 => 53 + j0) hx hb hK hP (q0 := 52) 3 (by decide) e5 rfl (by omega) h5 dX7_takeTurn_5 (fun j5 h5a => ?_)
  refine lv_astore_n (lv' := [(2, .ref (ad (53 + j5))), (0, .ref (ad 0)), (1, .int p1)]) hx hb dX7_takeTurn_6 rfl hl (by decide) rfl (fun ls hl => ?_)
  refine lv_aload_n hx hb dX7_takeTurn_7 rfl (lv_at hl 0 rfl) ?_
  obtain ⟨v8, v8a, v8b, v8c, v8d, v8e, v8f, e8, h8, h8a, h8b⟩ := gg_Wk hO (j := j5) (by omega)
  refine z_ciP (z_rV (q0 := (53 + j5)) (As := []) (rest := []) ⟨hx, hb, hml, hown, hts⟩ (c_X6_ahead l D cy ad cnt B (fun c1 => c1 = ce) hJ j5 (by omega)) (cwV 0 hts (g_V mw_235 mw_236 mw_237 mw_196 mw_238) rfl rfl rfl (by decide +kernel) ⟨Nat.le_of_ble_eq_true rfl, Nat.le_of_ble_eq_true rfl⟩) hK hN ⟨hO, rfl⟩ hP (by omega) e8 rfl rfl hl.1 rfl (Nat.le_of_ble_eq_true rfl) dX7_takeTurn_8 ⟨Nat.zero_le _, Nat.zero_le _⟩) hS (fun _ h => h.2) (fun v8g H locs h8c hP hS => ?_)
  refine z_if_ne (tgt := 15) hx hb dX7_takeTurn_11 (by decide) (fun c11 => ?_) (fun c11 => ?_)
  · skip
    refine lv_aload_n hx hb dX7_takeTurn_15 rfl (lv_at hl 0 rfl) ?_
    refine z_ciP (z_rV (q0 := (53 + j5)) (As := []) (rest := []) ⟨hx, hb, hml, hown, hts⟩ (c_X6_nextPlace l D cy ad cnt B (fun c1 => c1 = ce) hJ j5 (by omega)) (cwV 0 hts (g_V mw_239 mw_194 mw_195 mw_196 mw_197) rfl rfl rfl (by decide +kernel) ⟨Nat.le_of_ble_eq_true rfl, Nat.le_of_ble_eq_true rfl⟩) hK hN ⟨hO, rfl⟩ hP (by omega) e8 rfl rfl hl.1 rfl (Nat.le_of_ble_eq_true rfl) dX7_takeTurn_16 ⟨Nat.zero_le _, Nat.zero_le _⟩) hS (fun _ h => h.2) (fun v16 H locs h16 hP hS => ?_)
    refine lv_istore_n (lv' := [(3, .int v16), (2, .ref (ad (53 + j5))), (0, .ref (ad 0)), (1, .int p1)]) hx hb dX7_takeTurn_19 rfl hl (by decide) rfl (fun ls hl => ?_)
    refine lv_aload_n hx hb dX7_takeTurn_20 rfl (lv_at hl 2 rfl) ?_
    refine va_get (ci := 7) (C := RX7) (T := TX7) (N := 6) (v := .ref (ad 1)) hx hb hts inX7 hown hK hP 0 (zw_at (by decide) e1) rfl 0 (by decide) fl12 (fun _ h => h) rfl dX7_takeTurn_21 ?_
    refine lv_aload_n hx hb dX7_takeTurn_24 rfl (lv_at hl 1 rfl) ?_
    refine va_get (ci := 6) (C := RX6) (T := TX6) (N := 8) (v := .int v8a) hx hb hts inX6 hown hK hP (53 + j5) (zw_at (by omega) e8) rfl 2 (by decide) fl57 (fun _ h => h) rfl dX7_takeTurn_25 ?_
    refine lv_iload_n hx hb dX7_takeTurn_28 rfl (lv_at hl 0 rfl) ?_
    obtain ⟨v29, e29, h29, h29a, h29b⟩ := gg_Gr hO
    refine z_ci (z_rV (q0 := 1) (As := [.int v8a, .int v16]) (rest := []) ⟨hx, hb, hml, hown, hts⟩ (c_X3_judge l D cy ad cnt B hJ v8a v16) (cwV 2 hts (g_V mw_240 mw_157 mw_158 mw_84 mw_159) rfl rfl rfl (by decide +kernel) ⟨Nat.le_of_ble_eq_true rfl, Nat.le_of_ble_eq_true rfl⟩) hK hN hO hP (by decide) e29 rfl rfl hl.1 rfl (Nat.le_of_ble_eq_true rfl) dX7_takeTurn_29 ⟨Nat.zero_le _, Nat.zero_le _⟩) hS (fun v29a ce H locs h29c hP hS => ?_)
    obtain ⟨hO, h29d⟩ := h29c
    refine z_ic hx hb dX7_takeTurn_32 (by decide) (fun v32 h32 => ?_)
    refine z_icmp_ne (tgt := 62) hx hb dX7_takeTurn_33 (by decide) (fun c33 => ?_) (fun c33 => ?_)
    · skip
      exact J62 _ _ _ p1 j5 hP hS hO (by omega) (by omega) _ (lv_sub hl [2, 3, 1] rfl)
    · skip
      refine lv_aload_n hx hb dX7_takeTurn_36 rfl (lv_at hl 2 rfl) ?_
      refine lv_iload_n hx hb dX7_takeTurn_37 rfl (lv_at hl 0 rfl) ?_
      refine lv_iload_n hx hb dX7_takeTurn_38 rfl (lv_at hl 3 rfl) ?_
      obtain ⟨v39, v39a, e39, h39, h39a⟩ := gg_GK hO
      refine z_ciP (z_rV (q0 := 0) (As := [.int v16, .int p1]) (rest := []) ⟨hx, hb, hml, hown, hts⟩ (c_X7_isTaken l D cy ad cnt B (fun c1 => c1 = ce) hJ v16 p1) (cwV 2 hts (g_V mw_241 mw_242 mw_243 mw_2 mw_244) rfl rfl rfl (by decide +kernel) ⟨Nat.le_of_ble_eq_true rfl, Nat.le_of_ble_eq_true rfl⟩) hK hN ⟨hO, rfl⟩ hP (by decide) e39 rfl rfl hl.1 rfl (Nat.le_of_ble_eq_true rfl) dX7_takeTurn_39 ⟨Nat.zero_le _, Nat.zero_le _⟩) hS (fun _ h => h.2) (fun v39b H locs h39b hP hS => ?_)
      refine z_if_ne (tgt := 62) hx hb dX7_takeTurn_42 (by decide) (fun c42 => ?_) (fun c42 => ?_)
      · skip
        exact J62 _ _ _ p1 j5 hP hS hO (by omega) (by omega) _ (lv_sub hl [2, 3, 1] rfl)
      · skip
        refine lv_aload_n hx hb dX7_takeTurn_45 rfl (lv_at hl 1 rfl) ?_
        refine lv_aload_n hx hb dX7_takeTurn_46 rfl (lv_at hl 2 rfl) ?_
        refine va_get (ci := 7) (C := RX7) (T := TX7) (N := 6) (v := .ref (ad 1)) hx hb hts inX7 hown hK hP 0 (zw_at (by decide) e39) rfl 0 (by decide) fl12 (fun _ h => h) rfl dX7_takeTurn_47 ?_
        refine lv_aload_n hx hb dX7_takeTurn_50 rfl (lv_at hl 1 rfl) ?_
        obtain ⟨v51, v51a, v51b, v51c, v51d, v51e, v51f, e51, h51, h51a, h51b⟩ := gg_Wk hO (j := j5) (by omega)
        refine va_get (ci := 6) (C := RX6) (T := TX6) (N := 8) (v := .int v51a) hx hb hts inX6 hown hK hP (53 + j5) (zw_at (by omega) e51) rfl 2 (by decide) fl57 (fun _ h => h) rfl dX7_takeTurn_51 ?_
        refine lv_iload_n hx hb dX7_takeTurn_54 rfl (lv_at hl 0 rfl) ?_
        obtain ⟨v55, e55, h55, h55a, h55b⟩ := gg_Gr hO
        refine z_ciP (z_rV (q0 := 1) (As := [.int v51a, .int v16]) (rest := [.ref (ad (53 + j5))]) ⟨hx, hb, hml, hown, hts⟩ (c_X3_stepLength l D cy ad cnt B (fun c1 => c1 = ce) hJ v51a v16) (cwV 2 hts (g_V mw_245 mw_161 mw_162 mw_84 mw_163) rfl rfl rfl (by decide +kernel) ⟨Nat.le_of_ble_eq_true rfl, Nat.le_of_ble_eq_true rfl⟩) hK hN ⟨hO, rfl⟩ hP (by decide) e55 rfl rfl hl.1 rfl (Nat.le_of_ble_eq_true rfl) dX7_takeTurn_55 ⟨Nat.zero_le _, Nat.zero_le _⟩) hS (fun _ h => h.2) (fun v55a H locs h55c hP hS => ?_)
        refine z_cv (z_rV (q0 := (53 + j5)) (As := [.int v55a]) (rest := []) ⟨hx, hb, hml, hown, hts⟩ (c_X6_stepOn l D cy ad cnt B hJ (by omega) j5 v55a (by omega)) (cwV 1 hts (g_V mw_246 mw_247 mw_248 mw_196 mw_249) rfl rfl rfl (by decide +kernel) ⟨Nat.le_of_ble_eq_true rfl, Nat.le_of_ble_eq_true rfl⟩) hK hN hO hP (by omega) e51 rfl rfl hl.1 rfl (Nat.le_of_ble_eq_true rfl) dX7_takeTurn_58 ⟨Nat.zero_le _, Nat.zero_le _⟩) hS (fun ce H locs h58 hP hS => ?_)
        obtain ⟨hO, h58a⟩ := h58
        exact z_retv hx hb hr hlocks hP hS dX7_takeTurn_61 ⟨(by first | exact hO | exact gOK_mono (by omega) hO), trivial⟩
  · skip
    exact z_retv hx hb hr hlocks hP hS dX7_takeTurn_14 ⟨(by first | exact hO | exact gOK_mono (by omega) hO), trivial⟩
