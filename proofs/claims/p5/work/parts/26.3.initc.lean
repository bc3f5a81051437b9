
theorem arO_in {cy : Nat → ClassId} {ad adc : Nat → Nat} {ce cec : Nat → va_E} {k n N : Nat} (h : arO cy adc cec 0 1 N) (heq : ce k = cec 0) (hadn : ∀ j, j < N + 1 → ad (n + j) = adc (j + 1)) (hcen : ∀ j, j < N + 1 → ce (n + j) = cec (j + 1)) : arO cy ad ce k n N := by
  obtain ⟨h1, ⟨f, h2, h3⟩, h4⟩ := h
  refine ⟨?_, ⟨f, ?_, fun i hi => ?_⟩, fun i hi => ?_⟩
  · rw [heq, h1]
    have := hadn 0 (by omega)
    rw [show n + 0 = n from rfl] at this
    rw [this]
  · have := hcen 0 (by omega)
    rw [show n + 0 = n from rfl] at this
    rw [this]; exact h2
  · rw [h3 i hi, show n + 1 + i = n + (i + 1) by omega, hadn (i + 1) (by omega), show 1 + 1 + i = i + 1 + 1 by omega]
  · rw [show n + 1 + i = n + (i + 1) by omega, hcen (i + 1) (by omega), show i + 1 + 1 = 1 + 1 + i by omega]; exact h4 i hi
set_option maxHeartbeats 8000000 in
set_option maxRecDepth 100000 in
theorem c_X2_init (l : Launch) (D : va_G) (cy : Nat → ClassId) (sz h0 : Nat) (g9 : Nat) : iM l D cy yX2_init vsX2_init { frames := 1, cells := 5, slots := 382, locals := 12 } (5) (382) (5) sz h0 (.inr (2, [.null, .null, .null, .null, .null, .int 0, .int 0, .null, .int 0])) [.ref g9] (fun u => p2 cy g9 u.1 u.2) := by
  refine i_of (cc := cX2_init) (maxL := 2) (by decide) rfl rfl (Nat.le_of_ble_eq_true rfl) ?_
  intro p e s m below meth c hx hb hr hts hown hlocks hml hin hK hN hX hsz ad ce ha e0 h0l hP hD hS hA ls hl
  have hown : s.vm.findClass RX2 = some m.cls := hown
  have inX2 : ∀ w ∈ u_ws RX2 TX2 9, w ∈ vsX2_init := fun w h => List.mem_cons_of_mem _ (inlX2 w h)
  have fl9 := hts (.fieldLink RX2 9 "GroundKeeper$Finder" "ground" "LGroundKeeper$Ground;") (List.mem_cons_of_mem _ mw_131)
  have fl15 := hts (.fieldLink RX2 15 "GroundKeeper$Finder" "places" "[I") (List.mem_cons_of_mem _ mw_129)
  have fl19 := hts (.fieldLink RX2 19 "GroundKeeper$Finder" "lengths" "[I") (List.mem_cons_of_mem _ mw_125)
  have fl22 := hts (.fieldLink RX2 22 "GroundKeeper$Finder" "cameFrom" "[I") (List.mem_cons_of_mem _ mw_130)
  have fl25 := hts (.fieldLink RX2 25 "GroundKeeper$Finder" "settled" "[Z") (List.mem_cons_of_mem _ mw_127)
  have fl29 := hts (.fieldLink RX2 29 "GroundKeeper$Finder" "avoided" "[I") (List.mem_cons_of_mem _ mw_124)
  have hl : lv_has ls 2 [(0, .ref h0), (1, .ref g9)] := hl
  refine lv_aload_n hx hb dX2_init_0 rfl (lv_at hl 0 rfl) ?_
  refine W.objInit hx hb hown (hts (.methodLink RX2 3 objectInit) (List.mem_cons_of_mem _ mw_511)) (hts (.instanceMethod objectInit) (List.mem_cons_of_mem _ mw_493)) (hts (.code objectInit ⟨#[0xb1]⟩ 1 none) (List.mem_cons_of_mem _ mw_494)) rfl (by rw [hml]; exact hl.1) rfl dX2_init_1 (Nat.le_of_ble_eq_true rfl) (Nat.le_of_ble_eq_true rfl) ?_
  refine W.eq (g2 := F0 m 4 ls []) rfl ?_
  refine lv_aload_n hx hb dX2_init_4 rfl (lv_at hl 0 rfl) ?_
  refine lv_aload_n hx hb dX2_init_5 rfl (lv_at hl 1 rfl) ?_
  refine y_putF (ci := 2) (C := RX2) (T := TX2) (N := 9) hx hb hts inX2 tyX2 tyX2_ok nmX2 hown hK hP hD hS 0 (by decide) ha e0 rfl 0 (by decide) fl9 (fun _ h => h) rfl hin rfl (ty := (.object "GroundKeeper$Ground")) (by decide +kernel) rfl rfl (Nat.le_of_ble_eq_true rfl) (fs1 := [.ref g9, .null, .null, .null, .null, .int 0, .int 0, .null, .int 0]) rfl dX2_init_6 (fun ce H locs h0e hne hP hD hS => ?_)
  have e0 := h0e
  refine lv_aload_n hx hb dX2_init_9 rfl (lv_at hl 0 rfl) ?_
  refine z_bi hx hb dX2_init_10 (by decide) (fun v10 h10 => ?_)
  refine y_newI hx hb (hts (.arrayClass .int) (List.mem_cons_of_mem _ mw_498)) hK 0 rfl hP hD hS hA 94 (by omega) (by decide) (by decide) (by decide) dX2_init_12 (fun q12 H ad ce haq had heq hce hP hD hS => ?_)
  have ha := (had 0 (by decide)).trans ha
  have e0 := (hce 0 (by decide)).trans e0
  have a1 := haq
  have e1 := heq
  refine y_putF (ci := 2) (C := RX2) (T := TX2) (N := 9) hx hb hts inX2 tyX2 tyX2_ok nmX2 hown hK hP hD hS 0 (by decide) ha e0 rfl 1 (by decide) fl15 (fun _ h => h) rfl hin rfl (ty := (.array .int)) (by decide +kernel) rfl rfl (Nat.le_of_ble_eq_true rfl) (fs1 := [.ref g9, .ref q12, .null, .null, .null, .int 0, .int 0, .null, .int 0]) rfl dX2_init_14 (fun ce H locs h0e hne hP hD hS => ?_)
  have e1 := (hne 1 (by decide)).trans e1
  have e0 := h0e
  refine lv_aload_n hx hb dX2_init_17 rfl (lv_at hl 0 rfl) ?_
  refine z_bi hx hb dX2_init_18 (by decide) (fun v18 h18 => ?_)
  refine y_newI hx hb (hts (.arrayClass .int) (List.mem_cons_of_mem _ mw_498)) hK 0 rfl hP hD hS hA 94 (by omega) (by decide) (by decide) (by decide) dX2_init_20 (fun q20 H ad ce haq had heq hce hP hD hS => ?_)
  have ha := (had 0 (by decide)).trans ha
  have a1 := (had 1 (by decide)).trans a1
  have e0 := (hce 0 (by decide)).trans e0
  have e1 := (hce 1 (by decide)).trans e1
  have a2 := haq
  have e2 := heq
  refine y_putF (ci := 2) (C := RX2) (T := TX2) (N := 9) hx hb hts inX2 tyX2 tyX2_ok nmX2 hown hK hP hD hS 0 (by decide) ha e0 rfl 2 (by decide) fl19 (fun _ h => h) rfl hin rfl (ty := (.array .int)) (by decide +kernel) rfl rfl (Nat.le_of_ble_eq_true rfl) (fs1 := [.ref g9, .ref q12, .ref q20, .null, .null, .int 0, .int 0, .null, .int 0]) rfl dX2_init_22 (fun ce H locs h0e hne hP hD hS => ?_)
  have e1 := (hne 1 (by decide)).trans e1
  have e2 := (hne 2 (by decide)).trans e2
  have e0 := h0e
  refine lv_aload_n hx hb dX2_init_25 rfl (lv_at hl 0 rfl) ?_
  refine z_bi hx hb dX2_init_26 (by decide) (fun v26 h26 => ?_)
  refine y_newI hx hb (hts (.arrayClass .int) (List.mem_cons_of_mem _ mw_498)) hK 0 rfl hP hD hS hA 94 (by omega) (by decide) (by decide) (by decide) dX2_init_28 (fun q28 H ad ce haq had heq hce hP hD hS => ?_)
  have ha := (had 0 (by decide)).trans ha
  have a1 := (had 1 (by decide)).trans a1
  have a2 := (had 2 (by decide)).trans a2
  have e0 := (hce 0 (by decide)).trans e0
  have e1 := (hce 1 (by decide)).trans e1
  have e2 := (hce 2 (by decide)).trans e2
  have a3 := haq
  have e3 := heq
  refine y_putF (ci := 2) (C := RX2) (T := TX2) (N := 9) hx hb hts inX2 tyX2 tyX2_ok nmX2 hown hK hP hD hS 0 (by decide) ha e0 rfl 3 (by decide) fl22 (fun _ h => h) rfl hin rfl (ty := (.array .int)) (by decide +kernel) rfl rfl (Nat.le_of_ble_eq_true rfl) (fs1 := [.ref g9, .ref q12, .ref q20, .ref q28, .null, .int 0, .int 0, .null, .int 0]) rfl dX2_init_30 (fun ce H locs h0e hne hP hD hS => ?_)
  have e1 := (hne 1 (by decide)).trans e1
  have e2 := (hne 2 (by decide)).trans e2
  have e3 := (hne 3 (by decide)).trans e3
  have e0 := h0e
  refine lv_aload_n hx hb dX2_init_33 rfl (lv_at hl 0 rfl) ?_
  refine z_bi hx hb dX2_init_34 (by decide) (fun v34 h34 => ?_)
  refine y_newZ hx hb (hts (.arrayClass .boolean) (List.mem_cons_of_mem _ mw_512)) hK 1 rfl hP hD hS hA 94 (by omega) (by decide) (by decide) (by decide) dX2_init_36 (fun q36 H ad ce haq had heq hce hP hD hS => ?_)
  have ha := (had 0 (by decide)).trans ha
  have a1 := (had 1 (by decide)).trans a1
  have a2 := (had 2 (by decide)).trans a2
  have a3 := (had 3 (by decide)).trans a3
  have e0 := (hce 0 (by decide)).trans e0
  have e1 := (hce 1 (by decide)).trans e1
  have e2 := (hce 2 (by decide)).trans e2
  have e3 := (hce 3 (by decide)).trans e3
  have a4 := haq
  have e4 := heq
  refine y_putF (ci := 2) (C := RX2) (T := TX2) (N := 9) hx hb hts inX2 tyX2 tyX2_ok nmX2 hown hK hP hD hS 0 (by decide) ha e0 rfl 4 (by decide) fl25 (fun _ h => h) rfl hin rfl (ty := (.array .boolean)) (by decide +kernel) rfl rfl (Nat.le_of_ble_eq_true rfl) (fs1 := [.ref g9, .ref q12, .ref q20, .ref q28, .ref q36, .int 0, .int 0, .null, .int 0]) rfl dX2_init_38 (fun ce H locs h0e hne hP hD hS => ?_)
  have e1 := (hne 1 (by decide)).trans e1
  have e2 := (hne 2 (by decide)).trans e2
  have e3 := (hne 3 (by decide)).trans e3
  have e4 := (hne 4 (by decide)).trans e4
  have e0 := h0e
  refine lv_aload_n hx hb dX2_init_41 rfl (lv_at hl 0 rfl) ?_
  refine z_bi hx hb dX2_init_42 (by decide) (fun v42 h42 => ?_)
  refine y_newI hx hb (hts (.arrayClass .int) (List.mem_cons_of_mem _ mw_498)) hK 0 rfl hP hD hS hA 6 (by omega) (by decide) (by decide) (by decide) dX2_init_44 (fun q44 H ad ce haq had heq hce hP hD hS => ?_)
  have ha := (had 0 (by decide)).trans ha
  have a1 := (had 1 (by decide)).trans a1
  have a2 := (had 2 (by decide)).trans a2
  have a3 := (had 3 (by decide)).trans a3
  have a4 := (had 4 (by decide)).trans a4
  have e0 := (hce 0 (by decide)).trans e0
  have e1 := (hce 1 (by decide)).trans e1
  have e2 := (hce 2 (by decide)).trans e2
  have e3 := (hce 3 (by decide)).trans e3
  have e4 := (hce 4 (by decide)).trans e4
  have a5 := haq
  have e5 := heq
  refine y_putF (ci := 2) (C := RX2) (T := TX2) (N := 9) hx hb hts inX2 tyX2 tyX2_ok nmX2 hown hK hP hD hS 0 (by decide) ha e0 rfl 7 (by decide) fl29 (fun _ h => h) rfl hin rfl (ty := (.array .int)) (by decide +kernel) rfl rfl (Nat.le_of_ble_eq_true rfl) (fs1 := [.ref g9, .ref q12, .ref q20, .ref q28, .ref q36, .int 0, .int 0, .ref q44, .int 0]) rfl dX2_init_46 (fun ce H locs h0e hne hP hD hS => ?_)
  have e1 := (hne 1 (by decide)).trans e1
  have e2 := (hne 2 (by decide)).trans e2
  have e3 := (hne 3 (by decide)).trans e3
  have e4 := (hne 4 (by decide)).trans e4
  have e5 := (hne 5 (by decide)).trans e5
  have e0 := h0e
  refine i_ret (k := 5) hx hb hr hlocks hP hD ha hS dX2_init_49 (Nat.le_of_ble_eq_true rfl) (Nat.le_of_ble_eq_true rfl) ⟨?_, e1, e2, e3, e4, e5⟩
  show ce 0 = _
  rw [e0, ← a1, ← a2, ← a3, ← a4, ← a5]
def p3 (cy : Nat → ClassId) (ad : Nat → Nat) (ce : Nat → va_E) : Prop := ce 0 = .inr (3, [.ref (ad 1), .ref (ad 15), .ref (ad 25), .ref (ad 33), .ref (ad 41), .ref (ad 42), .ref (ad 43), .int 0, .ref (ad 44)]) ∧ arO cy ad ce 1 2 12 ∧ arO cy ad ce 15 16 8 ∧ arO cy ad ce 25 26 6 ∧ arO cy ad ce 33 34 6 ∧ ce 41 = iI cy 6 ∧ ce 42 = iI cy 6 ∧ ce 43 = iI cy 6 ∧ ce 44 = .inr (4, [.int 0, .int 0, .int 0, .int 0, .int 0, .int 0, .int 0, .int 0, .int 0, .int 0])
set_option maxHeartbeats 8000000 in
set_option maxRecDepth 100000 in
theorem c_X3_init (l : Launch) (D : va_G) (cy : Nat → ClassId) (sz h0 : Nat) : iM l D cy yX3_init vsX3_init { frames := 3, cells := 44, slots := 260, locals := 54 } (44) (260) (44) sz h0 (.inr (3, [.null, .null, .null, .null, .null, .null, .null, .int 0, .null])) [] (fun u => p3 cy u.1 u.2) := by
  refine i_of (cc := cX3_init) (maxL := 1) (by decide) rfl rfl (Nat.le_of_ble_eq_true rfl) ?_
  intro p e s m below meth c hx hb hr hts hown hlocks hml hin hK hN hX hsz ad ce ha e0 h0l hP hD hS hA ls hl
  have hown : s.vm.findClass RX3 = some m.cls := hown
  have inX1 : ∀ w ∈ u_ws RX1 TX1 2, w ∈ vsX3_init := fun w h => List.mem_cons_of_mem _ (inlX1 w h)
  have inX3 : ∀ w ∈ u_ws RX3 TX3 9, w ∈ vsX3_init := fun w h => List.mem_cons_of_mem _ (inlX3 w h)
  have inX4 : ∀ w ∈ u_ws RX4 TX4 10, w ∈ vsX3_init := fun w h => List.mem_cons_of_mem _ (inlX4 w h)
  have fl14 := hts (.fieldLink RX3 14 "GroundKeeper$Ground" "rooms" "LGroundKeeper$Areas;") (List.mem_cons_of_mem _ mw_59)
  have fl20 := hts (.fieldLink RX3 20 "GroundKeeper$Ground" "boxes" "LGroundKeeper$Areas;") (List.mem_cons_of_mem _ mw_60)
  have fl23 := hts (.fieldLink RX3 23 "GroundKeeper$Ground" "doors" "LGroundKeeper$Areas;") (List.mem_cons_of_mem _ mw_64)
  have fl26 := hts (.fieldLink RX3 26 "GroundKeeper$Ground" "ledges" "LGroundKeeper$Areas;") (List.mem_cons_of_mem _ mw_71)
  have fl29 := hts (.fieldLink RX3 29 "GroundKeeper$Ground" "ladderFrom" "[I") (List.mem_cons_of_mem _ mw_55)
  have fl33 := hts (.fieldLink RX3 33 "GroundKeeper$Ground" "ladderTo" "[I") (List.mem_cons_of_mem _ mw_56)
  have fl36 := hts (.fieldLink RX3 36 "GroundKeeper$Ground" "ladderCost" "[I") (List.mem_cons_of_mem _ mw_57)
  have fl42 := hts (.fieldLink RX3 42 "GroundKeeper$Ground" "leg" "LGroundKeeper$Leg;") (List.mem_cons_of_mem _ mw_67)
  have hl : lv_has ls 1 [(0, .ref h0)] := hl
  refine lv_aload_n hx hb dX3_init_0 rfl (lv_at hl 0 rfl) ?_
  refine W.objInit hx hb hown (hts (.methodLink RX3 3 objectInit) (List.mem_cons_of_mem _ mw_513)) (hts (.instanceMethod objectInit) (List.mem_cons_of_mem _ mw_493)) (hts (.code objectInit ⟨#[0xb1]⟩ 1 none) (List.mem_cons_of_mem _ mw_494)) rfl (by rw [hml]; exact hl.1) rfl dX3_init_1 (Nat.le_of_ble_eq_true rfl) (Nat.le_of_ble_eq_true rfl) ?_
  refine W.eq (g2 := F0 m 4 ls []) rfl ?_
  refine lv_aload_n hx hb dX3_init_4 rfl (lv_at hl 0 rfl) ?_
  refine y_new (ci := 1) (C := RX1) (T := TX1) (N := 2) (fs := [.null, .int 0]) hx hb hts inX1 tyX1 tyX1_ok hown (hts (.classLink RX3 9 RX1) (List.mem_cons_of_mem _ mw_514)) (hts (.instantiable RX1 2) (List.mem_cons_of_mem _ mw_515)) (hts (.initialized RX1) (List.mem_cons_of_mem _ mw_279)) hK hP hD hS hA rfl (fun j hj => by rcases (show j = 0 ∨ j = 1 by omega) with rfl | rfl <;> rfl) (by decide) (by decide) dX3_init_5 (fun q5 H ad ce haq had heq hce hP hD hS => ?_)
  have ha := (had 0 (by decide)).trans ha
  have e0 := (hce 0 (by decide)).trans e0
  have a1 := haq
  have e1 := heq
  refine lv_dup hx hb dX3_init_8 rfl ?_
  refine z_bi hx hb dX3_init_9 (by decide) (fun v9 h9 => ?_)
  refine i_after (q0 := 1) (m1 := 12 + 1) (mc := 1 + 12) (ms := 12 + 6 * 12) (i_rI (As := [.int v9]) (rest := [.ref q5, .ref h0]) ⟨hx, hb, hml, hown, hts⟩ (c_X1_init l D cy H.size (ad 1) 12 v9 (by omega) (by decide)) (cwI 1 hts (g_C mw_521) rfl rfl rfl (hts (.initialized RX1) (List.mem_cons_of_mem _ mw_279)) (hts (.methodLink RX3 11 yX1_init) (List.mem_cons_of_mem _ mw_516)) (hts (.instanceMethod yX1_init) (List.mem_cons_of_mem _ mw_517)) rfl (by decide +kernel) ⟨Nat.le_of_ble_eq_true rfl, Nat.le_of_ble_eq_true rfl⟩) hK hN hX hP (by decide) e1 rfl hl.1 (by rw [a1]; rfl) (Nat.le_of_ble_eq_true rfl) dX3_init_11 ⟨by decide, by decide⟩) (by decide) hP hD hS hA (fun ad ce H locs adc cec hp hc0 had hce heq hadn hcen hP hD hS => ?_)
  have ha := (had 0 (by decide)).trans ha
  have a1 := (had 1 (by decide)).trans a1
  have e0 := (hce 0 (by decide) (by decide)).trans e0
  have g1 : arO cy ad ce 1 2 12 := arO_in hp heq hadn hcen
  refine y_putF (ci := 3) (C := RX3) (T := TX3) (N := 9) hx hb hts inX3 tyX3 tyX3_ok nmX3 hown hK hP hD hS 0 (by decide) ha e0 rfl 0 (by decide) fl14 (fun _ h => h) rfl hin rfl (ty := (.object "GroundKeeper$Areas")) (by decide +kernel) rfl rfl (Nat.le_of_ble_eq_true rfl) (fs1 := [.ref q5, .null, .null, .null, .null, .null, .null, .int 0, .null]) rfl dX3_init_14 (fun ce H locs h0e hne hP hD hS => ?_)
  have g1 := arO_tr g1 (fun j h => rfl) (fun j h1 h2 => hne j (by omega))
  have e0 := h0e
  refine lv_aload_n hx hb dX3_init_17 rfl (lv_at hl 0 rfl) ?_
  refine y_new (ci := 1) (C := RX1) (T := TX1) (N := 2) (fs := [.null, .int 0]) hx hb hts inX1 tyX1 tyX1_ok hown (hts (.classLink RX3 9 RX1) (List.mem_cons_of_mem _ mw_514)) (hts (.instantiable RX1 2) (List.mem_cons_of_mem _ mw_515)) (hts (.initialized RX1) (List.mem_cons_of_mem _ mw_279)) hK hP hD hS hA rfl (fun j hj => by rcases (show j = 0 ∨ j = 1 by omega) with rfl | rfl <;> rfl) (by decide) (by decide) dX3_init_18 (fun q18 H ad ce haq had heq hce hP hD hS => ?_)
  have ha := (had 0 (by decide)).trans ha
  have a1 := (had 1 (by decide)).trans a1
  have e0 := (hce 0 (by decide)).trans e0
  have g1 := arO_tr g1 (fun j h => had j (by omega)) (fun j h1 h2 => hce j (by omega))
  have a15 := haq
  have e15 := heq
  refine lv_dup hx hb dX3_init_21 rfl ?_
  refine z_bi hx hb dX3_init_22 (by decide) (fun v22 h22 => ?_)
  refine i_after (q0 := 15) (m1 := 8 + 1) (mc := 1 + 8) (ms := 8 + 6 * 8) (i_rI (As := [.int v22]) (rest := [.ref q18, .ref h0]) ⟨hx, hb, hml, hown, hts⟩ (c_X1_init l D cy H.size (ad 15) 8 v22 (by omega) (by decide)) (cwI 1 hts (g_C mw_521) rfl rfl rfl (hts (.initialized RX1) (List.mem_cons_of_mem _ mw_279)) (hts (.methodLink RX3 11 yX1_init) (List.mem_cons_of_mem _ mw_516)) (hts (.instanceMethod yX1_init) (List.mem_cons_of_mem _ mw_517)) rfl (by decide +kernel) ⟨Nat.le_of_ble_eq_true rfl, Nat.le_of_ble_eq_true rfl⟩) hK hN hX hP (by decide) e15 rfl hl.1 (by rw [a15]; rfl) (Nat.le_of_ble_eq_true rfl) dX3_init_24 ⟨by decide, by decide⟩) (by decide) hP hD hS hA (fun ad ce H locs adc cec hp hc0 had hce heq hadn hcen hP hD hS => ?_)
  have ha := (had 0 (by decide)).trans ha
  have a1 := (had 1 (by decide)).trans a1
  have a15 := (had 15 (by decide)).trans a15
  have e0 := (hce 0 (by decide) (by decide)).trans e0
  have g1 := arO_tr g1 (fun j h => had j (by omega)) (fun j h1 h2 => hce j (by omega) (by omega))
  have g15 : arO cy ad ce 15 16 8 := arO_in hp heq hadn hcen
  refine y_putF (ci := 3) (C := RX3) (T := TX3) (N := 9) hx hb hts inX3 tyX3 tyX3_ok nmX3 hown hK hP hD hS 0 (by decide) ha e0 rfl 1 (by decide) fl20 (fun _ h => h) rfl hin rfl (ty := (.object "GroundKeeper$Areas")) (by decide +kernel) rfl rfl (Nat.le_of_ble_eq_true rfl) (fs1 := [.ref q5, .ref q18, .null, .null, .null, .null, .null, .int 0, .null]) rfl dX3_init_27 (fun ce H locs h0e hne hP hD hS => ?_)
  have g1 := arO_tr g1 (fun j h => rfl) (fun j h1 h2 => hne j (by omega))
  have g15 := arO_tr g15 (fun j h => rfl) (fun j h1 h2 => hne j (by omega))
  have e0 := h0e
  refine lv_aload_n hx hb dX3_init_30 rfl (lv_at hl 0 rfl) ?_
  refine y_new (ci := 1) (C := RX1) (T := TX1) (N := 2) (fs := [.null, .int 0]) hx hb hts inX1 tyX1 tyX1_ok hown (hts (.classLink RX3 9 RX1) (List.mem_cons_of_mem _ mw_514)) (hts (.instantiable RX1 2) (List.mem_cons_of_mem _ mw_515)) (hts (.initialized RX1) (List.mem_cons_of_mem _ mw_279)) hK hP hD hS hA rfl (fun j hj => by rcases (show j = 0 ∨ j = 1 by omega) with rfl | rfl <;> rfl) (by decide) (by decide) dX3_init_31 (fun q31 H ad ce haq had heq hce hP hD hS => ?_)
  have ha := (had 0 (by decide)).trans ha
  have a1 := (had 1 (by decide)).trans a1
  have a15 := (had 15 (by decide)).trans a15
  have e0 := (hce 0 (by decide)).trans e0
  have g1 := arO_tr g1 (fun j h => had j (by omega)) (fun j h1 h2 => hce j (by omega))
  have g15 := arO_tr g15 (fun j h => had j (by omega)) (fun j h1 h2 => hce j (by omega))
  have a25 := haq
  have e25 := heq
  refine lv_dup hx hb dX3_init_34 rfl ?_
  refine z_bi hx hb dX3_init_35 (by decide) (fun v35 h35 => ?_)
  refine i_after (q0 := 25) (m1 := 6 + 1) (mc := 1 + 6) (ms := 6 + 6 * 6) (i_rI (As := [.int v35]) (rest := [.ref q31, .ref h0]) ⟨hx, hb, hml, hown, hts⟩ (c_X1_init l D cy H.size (ad 25) 6 v35 (by omega) (by decide)) (cwI 1 hts (g_C mw_521) rfl rfl rfl (hts (.initialized RX1) (List.mem_cons_of_mem _ mw_279)) (hts (.methodLink RX3 11 yX1_init) (List.mem_cons_of_mem _ mw_516)) (hts (.instanceMethod yX1_init) (List.mem_cons_of_mem _ mw_517)) rfl (by decide +kernel) ⟨Nat.le_of_ble_eq_true rfl, Nat.le_of_ble_eq_true rfl⟩) hK hN hX hP (by decide) e25 rfl hl.1 (by rw [a25]; rfl) (Nat.le_of_ble_eq_true rfl) dX3_init_37 ⟨by decide, by decide⟩) (by decide) hP hD hS hA (fun ad ce H locs adc cec hp hc0 had hce heq hadn hcen hP hD hS => ?_)
  have ha := (had 0 (by decide)).trans ha
  have a1 := (had 1 (by decide)).trans a1
  have a15 := (had 15 (by decide)).trans a15
  have a25 := (had 25 (by decide)).trans a25
  have e0 := (hce 0 (by decide) (by decide)).trans e0
  have g1 := arO_tr g1 (fun j h => had j (by omega)) (fun j h1 h2 => hce j (by omega) (by omega))
  have g15 := arO_tr g15 (fun j h => had j (by omega)) (fun j h1 h2 => hce j (by omega) (by omega))
  have g25 : arO cy ad ce 25 26 6 := arO_in hp heq hadn hcen
  refine y_putF (ci := 3) (C := RX3) (T := TX3) (N := 9) hx hb hts inX3 tyX3 tyX3_ok nmX3 hown hK hP hD hS 0 (by decide) ha e0 rfl 2 (by decide) fl23 (fun _ h => h) rfl hin rfl (ty := (.object "GroundKeeper$Areas")) (by decide +kernel) rfl rfl (Nat.le_of_ble_eq_true rfl) (fs1 := [.ref q5, .ref q18, .ref q31, .null, .null, .null, .null, .int 0, .null]) rfl dX3_init_40 (fun ce H locs h0e hne hP hD hS => ?_)
  have g1 := arO_tr g1 (fun j h => rfl) (fun j h1 h2 => hne j (by omega))
  have g15 := arO_tr g15 (fun j h => rfl) (fun j h1 h2 => hne j (by omega))
  have g25 := arO_tr g25 (fun j h => rfl) (fun j h1 h2 => hne j (by omega))
  have e0 := h0e
  refine lv_aload_n hx hb dX3_init_43 rfl (lv_at hl 0 rfl) ?_
  refine y_new (ci := 1) (C := RX1) (T := TX1) (N := 2) (fs := [.null, .int 0]) hx hb hts inX1 tyX1 tyX1_ok hown (hts (.classLink RX3 9 RX1) (List.mem_cons_of_mem _ mw_514)) (hts (.instantiable RX1 2) (List.mem_cons_of_mem _ mw_515)) (hts (.initialized RX1) (List.mem_cons_of_mem _ mw_279)) hK hP hD hS hA rfl (fun j hj => by rcases (show j = 0 ∨ j = 1 by omega) with rfl | rfl <;> rfl) (by decide) (by decide) dX3_init_44 (fun q44 H ad ce haq had heq hce hP hD hS => ?_)
  have ha := (had 0 (by decide)).trans ha
  have a1 := (had 1 (by decide)).trans a1
  have a15 := (had 15 (by decide)).trans a15
  have a25 := (had 25 (by decide)).trans a25
  have e0 := (hce 0 (by decide)).trans e0
  have g1 := arO_tr g1 (fun j h => had j (by omega)) (fun j h1 h2 => hce j (by omega))
  have g15 := arO_tr g15 (fun j h => had j (by omega)) (fun j h1 h2 => hce j (by omega))
  have g25 := arO_tr g25 (fun j h => had j (by omega)) (fun j h1 h2 => hce j (by omega))
  have a33 := haq
  have e33 := heq
  refine lv_dup hx hb dX3_init_47 rfl ?_
  refine z_bi hx hb dX3_init_48 (by decide) (fun v48 h48 => ?_)
  refine i_after (q0 := 33) (m1 := 6 + 1) (mc := 1 + 6) (ms := 6 + 6 * 6) (i_rI (As := [.int v48]) (rest := [.ref q44, .ref h0]) ⟨hx, hb, hml, hown, hts⟩ (c_X1_init l D cy H.size (ad 33) 6 v48 (by omega) (by decide)) (cwI 1 hts (g_C mw_521) rfl rfl rfl (hts (.initialized RX1) (List.mem_cons_of_mem _ mw_279)) (hts (.methodLink RX3 11 yX1_init) (List.mem_cons_of_mem _ mw_516)) (hts (.instanceMethod yX1_init) (List.mem_cons_of_mem _ mw_517)) rfl (by decide +kernel) ⟨Nat.le_of_ble_eq_true rfl, Nat.le_of_ble_eq_true rfl⟩) hK hN hX hP (by decide) e33 rfl hl.1 (by rw [a33]; rfl) (Nat.le_of_ble_eq_true rfl) dX3_init_50 ⟨by decide, by decide⟩) (by decide) hP hD hS hA (fun ad ce H locs adc cec hp hc0 had hce heq hadn hcen hP hD hS => ?_)
  have ha := (had 0 (by decide)).trans ha
  have a1 := (had 1 (by decide)).trans a1
  have a15 := (had 15 (by decide)).trans a15
  have a25 := (had 25 (by decide)).trans a25
  have a33 := (had 33 (by decide)).trans a33
  have e0 := (hce 0 (by decide) (by decide)).trans e0
  have g1 := arO_tr g1 (fun j h => had j (by omega)) (fun j h1 h2 => hce j (by omega) (by omega))
  have g15 := arO_tr g15 (fun j h => had j (by omega)) (fun j h1 h2 => hce j (by omega) (by omega))
  have g25 := arO_tr g25 (fun j h => had j (by omega)) (fun j h1 h2 => hce j (by omega) (by omega))
  have g33 : arO cy ad ce 33 34 6 := arO_in hp heq hadn hcen
  refine y_putF (ci := 3) (C := RX3) (T := TX3) (N := 9) hx hb hts inX3 tyX3 tyX3_ok nmX3 hown hK hP hD hS 0 (by decide) ha e0 rfl 3 (by decide) fl26 (fun _ h => h) rfl hin rfl (ty := (.object "GroundKeeper$Areas")) (by decide +kernel) rfl rfl (Nat.le_of_ble_eq_true rfl) (fs1 := [.ref q5, .ref q18, .ref q31, .ref q44, .null, .null, .null, .int 0, .null]) rfl dX3_init_53 (fun ce H locs h0e hne hP hD hS => ?_)
  have g1 := arO_tr g1 (fun j h => rfl) (fun j h1 h2 => hne j (by omega))
  have g15 := arO_tr g15 (fun j h => rfl) (fun j h1 h2 => hne j (by omega))
  have g25 := arO_tr g25 (fun j h => rfl) (fun j h1 h2 => hne j (by omega))
  have g33 := arO_tr g33 (fun j h => rfl) (fun j h1 h2 => hne j (by omega))
  have e0 := h0e
  refine lv_aload_n hx hb dX3_init_56 rfl (lv_at hl 0 rfl) ?_
  refine z_bi hx hb dX3_init_57 (by decide) (fun v57 h57 => ?_)
  refine y_newI hx hb (hts (.arrayClass .int) (List.mem_cons_of_mem _ mw_498)) hK 0 rfl hP hD hS hA 6 (by omega) (by decide) (by decide) (by decide) dX3_init_59 (fun q59 H ad ce haq had heq hce hP hD hS => ?_)
  have ha := (had 0 (by decide)).trans ha
  have a1 := (had 1 (by decide)).trans a1
  have a15 := (had 15 (by decide)).trans a15
  have a25 := (had 25 (by decide)).trans a25
  have a33 := (had 33 (by decide)).trans a33
  have e0 := (hce 0 (by decide)).trans e0
  have g1 := arO_tr g1 (fun j h => had j (by omega)) (fun j h1 h2 => hce j (by omega))
  have g15 := arO_tr g15 (fun j h => had j (by omega)) (fun j h1 h2 => hce j (by omega))
  have g25 := arO_tr g25 (fun j h => had j (by omega)) (fun j h1 h2 => hce j (by omega))
  have g33 := arO_tr g33 (fun j h => had j (by omega)) (fun j h1 h2 => hce j (by omega))
  have a41 := haq
  have e41 := heq
  refine y_putF (ci := 3) (C := RX3) (T := TX3) (N := 9) hx hb hts inX3 tyX3 tyX3_ok nmX3 hown hK hP hD hS 0 (by decide) ha e0 rfl 4 (by decide) fl29 (fun _ h => h) rfl hin rfl (ty := (.array .int)) (by decide +kernel) rfl rfl (Nat.le_of_ble_eq_true rfl) (fs1 := [.ref q5, .ref q18, .ref q31, .ref q44, .ref q59, .null, .null, .int 0, .null]) rfl dX3_init_61 (fun ce H locs h0e hne hP hD hS => ?_)
  have e41 := (hne 41 (by decide)).trans e41
  have g1 := arO_tr g1 (fun j h => rfl) (fun j h1 h2 => hne j (by omega))
  have g15 := arO_tr g15 (fun j h => rfl) (fun j h1 h2 => hne j (by omega))
  have g25 := arO_tr g25 (fun j h => rfl) (fun j h1 h2 => hne j (by omega))
  have g33 := arO_tr g33 (fun j h => rfl) (fun j h1 h2 => hne j (by omega))
  have e0 := h0e
  refine lv_aload_n hx hb dX3_init_64 rfl (lv_at hl 0 rfl) ?_
  refine z_bi hx hb dX3_init_65 (by decide) (fun v65 h65 => ?_)
  refine y_newI hx hb (hts (.arrayClass .int) (List.mem_cons_of_mem _ mw_498)) hK 0 rfl hP hD hS hA 6 (by omega) (by decide) (by decide) (by decide) dX3_init_67 (fun q67 H ad ce haq had heq hce hP hD hS => ?_)
  have ha := (had 0 (by decide)).trans ha
  have a1 := (had 1 (by decide)).trans a1
  have a15 := (had 15 (by decide)).trans a15
  have a25 := (had 25 (by decide)).trans a25
  have a33 := (had 33 (by decide)).trans a33
  have a41 := (had 41 (by decide)).trans a41
  have e0 := (hce 0 (by decide)).trans e0
  have e41 := (hce 41 (by decide)).trans e41
  have g1 := arO_tr g1 (fun j h => had j (by omega)) (fun j h1 h2 => hce j (by omega))
  have g15 := arO_tr g15 (fun j h => had j (by omega)) (fun j h1 h2 => hce j (by omega))
  have g25 := arO_tr g25 (fun j h => had j (by omega)) (fun j h1 h2 => hce j (by omega))
  have g33 := arO_tr g33 (fun j h => had j (by omega)) (fun j h1 h2 => hce j (by omega))
  have a42 := haq
  have e42 := heq
  refine y_putF (ci := 3) (C := RX3) (T := TX3) (N := 9) hx hb hts inX3 tyX3 tyX3_ok nmX3 hown hK hP hD hS 0 (by decide) ha e0 rfl 5 (by decide) fl33 (fun _ h => h) rfl hin rfl (ty := (.array .int)) (by decide +kernel) rfl rfl (Nat.le_of_ble_eq_true rfl) (fs1 := [.ref q5, .ref q18, .ref q31, .ref q44, .ref q59, .ref q67, .null, .int 0, .null]) rfl dX3_init_69 (fun ce H locs h0e hne hP hD hS => ?_)
  have e41 := (hne 41 (by decide)).trans e41
  have e42 := (hne 42 (by decide)).trans e42
  have g1 := arO_tr g1 (fun j h => rfl) (fun j h1 h2 => hne j (by omega))
  have g15 := arO_tr g15 (fun j h => rfl) (fun j h1 h2 => hne j (by omega))
  have g25 := arO_tr g25 (fun j h => rfl) (fun j h1 h2 => hne j (by omega))
  have g33 := arO_tr g33 (fun j h => rfl) (fun j h1 h2 => hne j (by omega))
  have e0 := h0e
  refine lv_aload_n hx hb dX3_init_72 rfl (lv_at hl 0 rfl) ?_
  refine z_bi hx hb dX3_init_73 (by decide) (fun v73 h73 => ?_)
  refine y_newI hx hb (hts (.arrayClass .int) (List.mem_cons_of_mem _ mw_498)) hK 0 rfl hP hD hS hA 6 (by omega) (by decide) (by decide) (by decide) dX3_init_75 (fun q75 H ad ce haq had heq hce hP hD hS => ?_)
  have ha := (had 0 (by decide)).trans ha
  have a1 := (had 1 (by decide)).trans a1
  have a15 := (had 15 (by decide)).trans a15
  have a25 := (had 25 (by decide)).trans a25
  have a33 := (had 33 (by decide)).trans a33
  have a41 := (had 41 (by decide)).trans a41
  have a42 := (had 42 (by decide)).trans a42
  have e0 := (hce 0 (by decide)).trans e0
  have e41 := (hce 41 (by decide)).trans e41
  have e42 := (hce 42 (by decide)).trans e42
  have g1 := arO_tr g1 (fun j h => had j (by omega)) (fun j h1 h2 => hce j (by omega))
  have g15 := arO_tr g15 (fun j h => had j (by omega)) (fun j h1 h2 => hce j (by omega))
  have g25 := arO_tr g25 (fun j h => had j (by omega)) (fun j h1 h2 => hce j (by omega))
  have g33 := arO_tr g33 (fun j h => had j (by omega)) (fun j h1 h2 => hce j (by omega))
  have a43 := haq
  have e43 := heq
  refine y_putF (ci := 3) (C := RX3) (T := TX3) (N := 9) hx hb hts inX3 tyX3 tyX3_ok nmX3 hown hK hP hD hS 0 (by decide) ha e0 rfl 6 (by decide) fl36 (fun _ h => h) rfl hin rfl (ty := (.array .int)) (by decide +kernel) rfl rfl (Nat.le_of_ble_eq_true rfl) (fs1 := [.ref q5, .ref q18, .ref q31, .ref q44, .ref q59, .ref q67, .ref q75, .int 0, .null]) rfl dX3_init_77 (fun ce H locs h0e hne hP hD hS => ?_)
  have e41 := (hne 41 (by decide)).trans e41
  have e42 := (hne 42 (by decide)).trans e42
  have e43 := (hne 43 (by decide)).trans e43
  have g1 := arO_tr g1 (fun j h => rfl) (fun j h1 h2 => hne j (by omega))
  have g15 := arO_tr g15 (fun j h => rfl) (fun j h1 h2 => hne j (by omega))
  have g25 := arO_tr g25 (fun j h => rfl) (fun j h1 h2 => hne j (by omega))
  have g33 := arO_tr g33 (fun j h => rfl) (fun j h1 h2 => hne j (by omega))
  have e0 := h0e
  refine lv_aload_n hx hb dX3_init_80 rfl (lv_at hl 0 rfl) ?_
  refine y_new (ci := 4) (C := RX4) (T := TX4) (N := 10) (fs := [.int 0, .int 0, .int 0, .int 0, .int 0, .int 0, .int 0, .int 0, .int 0, .int 0]) hx hb hts inX4 tyX4 tyX4_ok hown (hts (.classLink RX3 39 RX4) (List.mem_cons_of_mem _ mw_518)) (hts (.instantiable RX4 10) (List.mem_cons_of_mem _ mw_519)) (hts (.initialized RX4) (List.mem_cons_of_mem _ mw_89)) hK hP hD hS hA rfl (fun j hj => by rcases (show j = 0 ∨ j = 1 ∨ j = 2 ∨ j = 3 ∨ j = 4 ∨ j = 5 ∨ j = 6 ∨ j = 7 ∨ j = 8 ∨ j = 9 by omega) with rfl | rfl | rfl | rfl | rfl | rfl | rfl | rfl | rfl | rfl <;> rfl) (by decide) (by decide) dX3_init_81 (fun q81 H ad ce haq had heq hce hP hD hS => ?_)
  have ha := (had 0 (by decide)).trans ha
  have a1 := (had 1 (by decide)).trans a1
  have a15 := (had 15 (by decide)).trans a15
  have a25 := (had 25 (by decide)).trans a25
  have a33 := (had 33 (by decide)).trans a33
  have a41 := (had 41 (by decide)).trans a41
  have a42 := (had 42 (by decide)).trans a42
  have a43 := (had 43 (by decide)).trans a43
  have e0 := (hce 0 (by decide)).trans e0
  have e41 := (hce 41 (by decide)).trans e41
  have e42 := (hce 42 (by decide)).trans e42
  have e43 := (hce 43 (by decide)).trans e43
  have g1 := arO_tr g1 (fun j h => had j (by omega)) (fun j h1 h2 => hce j (by omega))
  have g15 := arO_tr g15 (fun j h => had j (by omega)) (fun j h1 h2 => hce j (by omega))
  have g25 := arO_tr g25 (fun j h => had j (by omega)) (fun j h1 h2 => hce j (by omega))
  have g33 := arO_tr g33 (fun j h => had j (by omega)) (fun j h1 h2 => hce j (by omega))
  have a44 := haq
  have e44 := heq
  refine lv_dup hx hb dX3_init_84 rfl ?_
  refine i_after (q0 := 44) (m1 := 0) (mc := 0) (ms := 0) (i_rN (As := []) (rest := [.ref q81, .ref h0]) ⟨hx, hb, hml, hown, hts⟩ (c_X4_init l D cy H.size (ad 44) (.inr (4, [.int 0, .int 0, .int 0, .int 0, .int 0, .int 0, .int 0, .int 0, .int 0, .int 0]))) ⟨va_cnB 0 hts (g_C mw_522) rfl rfl rfl (hN (.methodLinkNest RX3 41 yX4_init RX7) (by simp [nwL])) (hts (.initialized RX4) (List.mem_cons_of_mem _ mw_89)) (by decide +kernel) ⟨Nat.le_of_ble_eq_true rfl, Nat.le_of_ble_eq_true rfl⟩, rfl, hts (.instanceMethod yX4_init) (List.mem_cons_of_mem _ mw_520)⟩ hK hN hX hP (by decide) e44 rfl hl.1 (by rw [a44]; rfl) (Nat.le_of_ble_eq_true rfl) dX3_init_85 ⟨by decide, by decide⟩) (by decide) hP hD hS hA (fun ad ce H locs adc cec hp hc0 had hce heq hadn hcen hP hD hS => ?_)
  have ha := (had 0 (by decide)).trans ha
  have a1 := (had 1 (by decide)).trans a1
  have a15 := (had 15 (by decide)).trans a15
  have a25 := (had 25 (by decide)).trans a25
  have a33 := (had 33 (by decide)).trans a33
  have a41 := (had 41 (by decide)).trans a41
  have a42 := (had 42 (by decide)).trans a42
  have a43 := (had 43 (by decide)).trans a43
  have a44 := (had 44 (by decide)).trans a44
  have e0 := (hce 0 (by decide) (by decide)).trans e0
  have e41 := (hce 41 (by decide) (by decide)).trans e41
  have e42 := (hce 42 (by decide) (by decide)).trans e42
  have e43 := (hce 43 (by decide) (by decide)).trans e43
  have g1 := arO_tr g1 (fun j h => had j (by omega)) (fun j h1 h2 => hce j (by omega) (by omega))
  have g15 := arO_tr g15 (fun j h => had j (by omega)) (fun j h1 h2 => hce j (by omega) (by omega))
  have g25 := arO_tr g25 (fun j h => had j (by omega)) (fun j h1 h2 => hce j (by omega) (by omega))
  have g33 := arO_tr g33 (fun j h => had j (by omega)) (fun j h1 h2 => hce j (by omega) (by omega))
  have e44 : ce 44 = .inr (4, [.int 0, .int 0, .int 0, .int 0, .int 0, .int 0, .int 0, .int 0, .int 0, .int 0]) := heq.trans hp
  refine y_putF (ci := 3) (C := RX3) (T := TX3) (N := 9) hx hb hts inX3 tyX3 tyX3_ok nmX3 hown hK hP hD hS 0 (by decide) ha e0 rfl 8 (by decide) fl42 (fun _ h => h) rfl hin rfl (ty := (.object "GroundKeeper$Leg")) (by decide +kernel) rfl rfl (Nat.le_of_ble_eq_true rfl) (fs1 := [.ref q5, .ref q18, .ref q31, .ref q44, .ref q59, .ref q67, .ref q75, .int 0, .ref q81]) rfl dX3_init_88 (fun ce H locs h0e hne hP hD hS => ?_)
  have e41 := (hne 41 (by decide)).trans e41
  have e42 := (hne 42 (by decide)).trans e42
  have e43 := (hne 43 (by decide)).trans e43
  have e44 := (hne 44 (by decide)).trans e44
  have g1 := arO_tr g1 (fun j h => rfl) (fun j h1 h2 => hne j (by omega))
  have g15 := arO_tr g15 (fun j h => rfl) (fun j h1 h2 => hne j (by omega))
  have g25 := arO_tr g25 (fun j h => rfl) (fun j h1 h2 => hne j (by omega))
  have g33 := arO_tr g33 (fun j h => rfl) (fun j h1 h2 => hne j (by omega))
  have e0 := h0e
  refine i_ret (k := 44) hx hb hr hlocks hP hD ha hS dX3_init_91 (Nat.le_of_ble_eq_true rfl) (Nat.le_of_ble_eq_true rfl) ⟨?_, g1, g15, g25, g33, e41, e42, e43, e44⟩
  show ce 0 = _
  rw [e0, ← a1, ← a15, ← a25, ← a33, ← a41, ← a42, ← a43, ← a44]
