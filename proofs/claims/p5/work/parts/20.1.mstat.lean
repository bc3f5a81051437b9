set_option maxHeartbeats 8000000 in
set_option maxRecDepth 100000 in
theorem c_X8_in (l : Launch) (D : va_G) (tys : List (ClassId × FieldType)) (n : Nat) (ad : Nat → Nat) (OK : (Nat → va_E) → Prop) (p0 : Int32) (p1 : Int32) (p2 : Int32) : zM l D tys n ad OK yX8_in vsX8_in { frames := 0, cells := 0, slots := 0, locals := 0 } ([.int p0, .int p1, .int p2] : List Value) (zQi D n ad (fun r ce => OK ce ∧ ((r.toInt = 1 ∧ (p1.toInt ≤ p0.toInt ∧ p0.toInt ≤ p2.toInt)) ∨ (r.toInt = 0 ∧ ¬ (p1.toInt ≤ p0.toInt ∧ p0.toInt ≤ p2.toInt))))) := by
  refine z_of (cc := cX8_in) (maxL := 3) (ret := (some .boolean)) (by decide) rfl (Nat.le_of_ble_eq_true rfl) ?_
  intro p e s m below meth c hx hb hr hts hown hlocks hml hK hN ce hOK hP
  have hown : s.vm.findClass RX8 = some m.cls := hown
  have hS : va_S (zA n ad) s.heap s.heap [] := va_S.rf
  intro ls hl
  have hl : lv_has ls 3 [(0, .int p0), (1, .int p1), (2, .int p2)] := hl
  refine lv_iload_n hx hb dX8_in_0 rfl (lv_at hl 0 rfl) ?_
  refine lv_iload_n hx hb dX8_in_1 rfl (lv_at hl 1 rfl) ?_
  refine z_icmp_lt (tgt := 14) hx hb dX8_in_2 (by decide) (fun c2 => ?_) (fun c2 => ?_)
  · skip
    refine z_ic hx hb dX8_in_14 (by decide) (fun v14 h14 => ?_)
    exact z_retz hx hb hr hlocks hP hS dX8_in_15 (by omega) ⟨hOK, (by omega)⟩
  · skip
    refine lv_iload_n hx hb dX8_in_5 rfl (lv_at hl 0 rfl) ?_
    refine lv_iload_n hx hb dX8_in_6 rfl (lv_at hl 2 rfl) ?_
    refine z_icmp_gt (tgt := 14) hx hb dX8_in_7 (by decide) (fun c7 => ?_) (fun c7 => ?_)
    · skip
      refine z_ic hx hb dX8_in_14 (by decide) (fun v14 h14 => ?_)
      exact z_retz hx hb hr hlocks hP hS dX8_in_15 (by omega) ⟨hOK, (by omega)⟩
    · skip
      refine z_ic hx hb dX8_in_10 (by decide) (fun v10 h10 => ?_)
      refine lv_goto (tgt := 15) hx hb dX8_in_11 (by decide) ?_
      exact z_retz hx hb hr hlocks hP hS dX8_in_15 (by omega) ⟨hOK, (by omega)⟩
set_option maxHeartbeats 8000000 in
set_option maxRecDepth 100000 in
theorem c_X8_isPlace (l : Launch) (D : va_G) (tys : List (ClassId × FieldType)) (n : Nat) (ad : Nat → Nat) (OK : (Nat → va_E) → Prop) (p0 : Int32) (p1 : Int32) (p2 : Int32) : zM l D tys n ad OK yX8_isPlace vsX8_isPlace { frames := 1, cells := 0, slots := 0, locals := 22 } ([.int p0, .int p1, .int p2] : List Value) (zQi D n ad (fun r ce => OK ce ∧ ((r.toInt = 1 ∧ (0 ≤ p0.toInt ∧ p0.toInt ≤ 2 ∧ 0 ≤ p1.toInt ∧ p1.toInt ≤ 100 ∧ 0 ≤ p2.toInt ∧ p2.toInt ≤ 100)) ∨ (r.toInt = 0 ∧ ¬ (0 ≤ p0.toInt ∧ p0.toInt ≤ 2 ∧ 0 ≤ p1.toInt ∧ p1.toInt ≤ 100 ∧ 0 ≤ p2.toInt ∧ p2.toInt ≤ 100))))) := by
  refine z_of (cc := cX8_isPlace) (maxL := 3) (ret := (some .boolean)) (by decide) rfl (Nat.le_of_ble_eq_true rfl) ?_
  intro p e s m below meth c hx hb hr hts hown hlocks hml hK hN ce hOK hP
  have hown : s.vm.findClass RX8 = some m.cls := hown
  have hS : va_S (zA n ad) s.heap s.heap [] := va_S.rf
  intro ls hl
  have hl : lv_has ls 3 [(0, .int p0), (1, .int p1), (2, .int p2)] := hl
  refine lv_iload_n hx hb dX8_isPlace_0 rfl (lv_at hl 0 rfl) ?_
  refine z_ic hx hb dX8_isPlace_1 (by decide) (fun v1 h1 => ?_)
  refine z_ic hx hb dX8_isPlace_2 (by decide) (fun v2 h2 => ?_)
  refine z_ciP (z_rS (As := [.int p0, .int v1, .int v2]) (rest := []) ⟨hx, hb, hml, hown, hts⟩ (c_X8_in l D tys n ad (fun c1 => c1 = ce) p0 v1 v2) (va_cwS 3 hts (g_S mw_322 mw_323 mw_324 mw_325) rfl rfl rfl (by decide +kernel) ⟨Nat.le_of_ble_eq_true rfl, Nat.le_of_ble_eq_true rfl⟩) hK hN rfl hP rfl hl.1 rfl (Nat.le_of_ble_eq_true rfl) dX8_isPlace_3 ⟨Nat.zero_le _, Nat.zero_le _⟩) hS (fun _ h => h) (fun v3 H locs h3 hP hS => ?_)
  refine z_if_eq (tgt := 33) hx hb dX8_isPlace_6 (by decide) (fun c6 => ?_) (fun c6 => ?_)
  · skip
    refine z_ic hx hb dX8_isPlace_33 (by decide) (fun v33 h33 => ?_)
    exact z_retz hx hb hr hlocks hP hS dX8_isPlace_34 (by omega) ⟨hOK, (by omega)⟩
  · skip
    refine lv_iload_n hx hb dX8_isPlace_9 rfl (lv_at hl 1 rfl) ?_
    refine z_ic hx hb dX8_isPlace_10 (by decide) (fun v10 h10 => ?_)
    refine z_bi hx hb dX8_isPlace_11 (by decide) (fun v11 h11 => ?_)
    refine z_ciP (z_rS (As := [.int p1, .int v10, .int v11]) (rest := []) ⟨hx, hb, hml, hown, hts⟩ (c_X8_in l D tys n ad (fun c1 => c1 = ce) p1 v10 v11) (va_cwS 3 hts (g_S mw_322 mw_323 mw_324 mw_325) rfl rfl rfl (by decide +kernel) ⟨Nat.le_of_ble_eq_true rfl, Nat.le_of_ble_eq_true rfl⟩) hK hN rfl hP rfl hl.1 rfl (Nat.le_of_ble_eq_true rfl) dX8_isPlace_13 ⟨Nat.zero_le _, Nat.zero_le _⟩) hS (fun _ h => h) (fun v13 H locs h13 hP hS => ?_)
    refine z_if_eq (tgt := 33) hx hb dX8_isPlace_16 (by decide) (fun c16 => ?_) (fun c16 => ?_)
    · skip
      refine z_ic hx hb dX8_isPlace_33 (by decide) (fun v33 h33 => ?_)
      exact z_retz hx hb hr hlocks hP hS dX8_isPlace_34 (by omega) ⟨hOK, (by omega)⟩
    · skip
      refine lv_iload_n hx hb dX8_isPlace_19 rfl (lv_at hl 2 rfl) ?_
      refine z_ic hx hb dX8_isPlace_20 (by decide) (fun v20 h20 => ?_)
      refine z_bi hx hb dX8_isPlace_21 (by decide) (fun v21 h21 => ?_)
      refine z_ciP (z_rS (As := [.int p2, .int v20, .int v21]) (rest := []) ⟨hx, hb, hml, hown, hts⟩ (c_X8_in l D tys n ad (fun c1 => c1 = ce) p2 v20 v21) (va_cwS 3 hts (g_S mw_322 mw_323 mw_324 mw_325) rfl rfl rfl (by decide +kernel) ⟨Nat.le_of_ble_eq_true rfl, Nat.le_of_ble_eq_true rfl⟩) hK hN rfl hP rfl hl.1 rfl (Nat.le_of_ble_eq_true rfl) dX8_isPlace_23 ⟨Nat.zero_le _, Nat.zero_le _⟩) hS (fun _ h => h) (fun v23 H locs h23 hP hS => ?_)
      refine z_if_eq (tgt := 33) hx hb dX8_isPlace_26 (by decide) (fun c26 => ?_) (fun c26 => ?_)
      · skip
        refine z_ic hx hb dX8_isPlace_33 (by decide) (fun v33 h33 => ?_)
        exact z_retz hx hb hr hlocks hP hS dX8_isPlace_34 (by omega) ⟨hOK, (by omega)⟩
      · skip
        refine z_ic hx hb dX8_isPlace_29 (by decide) (fun v29 h29 => ?_)
        refine lv_goto (tgt := 34) hx hb dX8_isPlace_30 (by decide) ?_
        exact z_retz hx hb hr hlocks hP hS dX8_isPlace_34 (by omega) ⟨hOK, (by omega)⟩
set_option maxHeartbeats 8000000 in
set_option maxRecDepth 100000 in
theorem c_X8_isField (l : Launch) (D : va_G) (tys : List (ClassId × FieldType)) (n : Nat) (ad : Nat → Nat) (OK : (Nat → va_E) → Prop) (p0 : Int32) (p1 : Int32) (p2 : Int32) (p3 : Int32) (p4 : Int32) : zM l D tys n ad OK yX8_isField vsX8_isField { frames := 2, cells := 0, slots := 0, locals := 44 } ([.int p0, .int p1, .int p2, .int p3, .int p4] : List Value) (zQi D n ad (fun r ce => OK ce ∧ ((r.toInt = 1 ∧ (0 ≤ p0.toInt ∧ p0.toInt ≤ 2 ∧ 0 ≤ p1.toInt ∧ p1.toInt ≤ 100 ∧ 0 ≤ p2.toInt ∧ p2.toInt ≤ 100 ∧ 0 ≤ p0.toInt ∧ p0.toInt ≤ 2 ∧ 0 ≤ p3.toInt ∧ p3.toInt ≤ 100 ∧ 0 ≤ p4.toInt ∧ p4.toInt ≤ 100 ∧ p1.toInt < p3.toInt ∧ p2.toInt < p4.toInt)) ∨ (r.toInt = 0 ∧ ¬ (0 ≤ p0.toInt ∧ p0.toInt ≤ 2 ∧ 0 ≤ p1.toInt ∧ p1.toInt ≤ 100 ∧ 0 ≤ p2.toInt ∧ p2.toInt ≤ 100 ∧ 0 ≤ p0.toInt ∧ p0.toInt ≤ 2 ∧ 0 ≤ p3.toInt ∧ p3.toInt ≤ 100 ∧ 0 ≤ p4.toInt ∧ p4.toInt ≤ 100 ∧ p1.toInt < p3.toInt ∧ p2.toInt < p4.toInt))))) := by
  refine z_of (cc := cX8_isField) (maxL := 5) (ret := (some .boolean)) (by decide) rfl (Nat.le_of_ble_eq_true rfl) ?_
  intro p e s m below meth c hx hb hr hts hown hlocks hml hK hN ce hOK hP
  have hown : s.vm.findClass RX8 = some m.cls := hown
  have hS : va_S (zA n ad) s.heap s.heap [] := va_S.rf
  intro ls hl
  have hl : lv_has ls 5 [(0, .int p0), (1, .int p1), (2, .int p2), (3, .int p3), (4, .int p4)] := hl
  refine lv_iload_n hx hb dX8_isField_0 rfl (lv_at hl 0 rfl) ?_
  refine lv_iload_n hx hb dX8_isField_1 rfl (lv_at hl 1 rfl) ?_
  refine lv_iload_n hx hb dX8_isField_2 rfl (lv_at hl 2 rfl) ?_
  refine z_ciP (z_rS (As := [.int p0, .int p1, .int p2]) (rest := []) ⟨hx, hb, hml, hown, hts⟩ (c_X8_isPlace l D tys n ad (fun c1 => c1 = ce) p0 p1 p2) (va_cwS 3 hts (g_S mw_326 mw_327 mw_324 mw_328) rfl rfl rfl (by decide +kernel) ⟨Nat.le_of_ble_eq_true rfl, Nat.le_of_ble_eq_true rfl⟩) hK hN rfl hP rfl hl.1 rfl (Nat.le_of_ble_eq_true rfl) dX8_isField_3 ⟨Nat.zero_le _, Nat.zero_le _⟩) hS (fun _ h => h) (fun v3 H locs h3 hP hS => ?_)
  refine z_if_eq (tgt := 34) hx hb dX8_isField_6 (by decide) (fun c6 => ?_) (fun c6 => ?_)
  · skip
    refine z_ic hx hb dX8_isField_34 (by decide) (fun v34 h34 => ?_)
    exact z_retz hx hb hr hlocks hP hS dX8_isField_35 (by omega) ⟨hOK, (by omega)⟩
  · skip
    refine lv_iload_n hx hb dX8_isField_9 rfl (lv_at hl 0 rfl) ?_
    refine lv_iload_n hx hb dX8_isField_10 rfl (lv_at hl 3 rfl) ?_
    refine lv_iload hx hb dX8_isField_11 (lv_at hl 4 rfl) ?_
    refine z_ciP (z_rS (As := [.int p0, .int p3, .int p4]) (rest := []) ⟨hx, hb, hml, hown, hts⟩ (c_X8_isPlace l D tys n ad (fun c1 => c1 = ce) p0 p3 p4) (va_cwS 3 hts (g_S mw_326 mw_327 mw_324 mw_328) rfl rfl rfl (by decide +kernel) ⟨Nat.le_of_ble_eq_true rfl, Nat.le_of_ble_eq_true rfl⟩) hK hN rfl hP rfl hl.1 rfl (Nat.le_of_ble_eq_true rfl) dX8_isField_13 ⟨Nat.zero_le _, Nat.zero_le _⟩) hS (fun _ h => h) (fun v13 H locs h13 hP hS => ?_)
    refine z_if_eq (tgt := 34) hx hb dX8_isField_16 (by decide) (fun c16 => ?_) (fun c16 => ?_)
    · skip
      refine z_ic hx hb dX8_isField_34 (by decide) (fun v34 h34 => ?_)
      exact z_retz hx hb hr hlocks hP hS dX8_isField_35 (by omega) ⟨hOK, (by omega)⟩
    · skip
      refine lv_iload_n hx hb dX8_isField_19 rfl (lv_at hl 1 rfl) ?_
      refine lv_iload_n hx hb dX8_isField_20 rfl (lv_at hl 3 rfl) ?_
      refine z_icmp_ge (tgt := 34) hx hb dX8_isField_21 (by decide) (fun c21 => ?_) (fun c21 => ?_)
      · skip
        refine z_ic hx hb dX8_isField_34 (by decide) (fun v34 h34 => ?_)
        exact z_retz hx hb hr hlocks hP hS dX8_isField_35 (by omega) ⟨hOK, (by omega)⟩
      · skip
        refine lv_iload_n hx hb dX8_isField_24 rfl (lv_at hl 2 rfl) ?_
        refine lv_iload hx hb dX8_isField_25 (lv_at hl 4 rfl) ?_
        refine z_icmp_ge (tgt := 34) hx hb dX8_isField_27 (by decide) (fun c27 => ?_) (fun c27 => ?_)
        · skip
          refine z_ic hx hb dX8_isField_34 (by decide) (fun v34 h34 => ?_)
          exact z_retz hx hb hr hlocks hP hS dX8_isField_35 (by omega) ⟨hOK, (by omega)⟩
        · skip
          refine z_ic hx hb dX8_isField_30 (by decide) (fun v30 h30 => ?_)
          refine lv_goto (tgt := 35) hx hb dX8_isField_31 (by decide) ?_
          exact z_retz hx hb hr hlocks hP hS dX8_isField_35 (by omega) ⟨hOK, (by omega)⟩
set_option maxHeartbeats 8000000 in
set_option maxRecDepth 100000 in
theorem c_X8_isLine (l : Launch) (D : va_G) (tys : List (ClassId × FieldType)) (n : Nat) (ad : Nat → Nat) (OK : (Nat → va_E) → Prop) (p0 : Int32) (p1 : Int32) (p2 : Int32) (p3 : Int32) (p4 : Int32) : zM l D tys n ad OK yX8_isLine vsX8_isLine { frames := 2, cells := 0, slots := 0, locals := 44 } ([.int p0, .int p1, .int p2, .int p3, .int p4] : List Value) (zQi D n ad (fun r ce => OK ce ∧ ((r.toInt = 1 ∧ (0 ≤ p0.toInt ∧ p0.toInt ≤ 2 ∧ 0 ≤ p1.toInt ∧ p1.toInt ≤ 100 ∧ 0 ≤ p2.toInt ∧ p2.toInt ≤ 100 ∧ 0 ≤ p0.toInt ∧ p0.toInt ≤ 2 ∧ 0 ≤ p3.toInt ∧ p3.toInt ≤ 100 ∧ 0 ≤ p4.toInt ∧ p4.toInt ≤ 100 ∧ ((p1.toInt = p3.toInt ∧ ¬ p2.toInt = p4.toInt) ∨ (¬ p1.toInt = p3.toInt ∧ p2.toInt = p4.toInt)))) ∨ (r.toInt = 0 ∧ ¬ (0 ≤ p0.toInt ∧ p0.toInt ≤ 2 ∧ 0 ≤ p1.toInt ∧ p1.toInt ≤ 100 ∧ 0 ≤ p2.toInt ∧ p2.toInt ≤ 100 ∧ 0 ≤ p0.toInt ∧ p0.toInt ≤ 2 ∧ 0 ≤ p3.toInt ∧ p3.toInt ≤ 100 ∧ 0 ≤ p4.toInt ∧ p4.toInt ≤ 100 ∧ ((p1.toInt = p3.toInt ∧ ¬ p2.toInt = p4.toInt) ∨ (¬ p1.toInt = p3.toInt ∧ p2.toInt = p4.toInt))))))) := by
  refine z_of (cc := cX8_isLine) (maxL := 5) (ret := (some .boolean)) (by decide) rfl (Nat.le_of_ble_eq_true rfl) ?_
  intro p e s m below meth c hx hb hr hts hown hlocks hml hK hN ce hOK hP
  have hown : s.vm.findClass RX8 = some m.cls := hown
  have hS : va_S (zA n ad) s.heap s.heap [] := va_S.rf
  intro ls hl
  have hl : lv_has ls 5 [(0, .int p0), (1, .int p1), (2, .int p2), (3, .int p3), (4, .int p4)] := hl
  refine lv_iload_n hx hb dX8_isLine_0 rfl (lv_at hl 0 rfl) ?_
  refine lv_iload_n hx hb dX8_isLine_1 rfl (lv_at hl 1 rfl) ?_
  refine lv_iload_n hx hb dX8_isLine_2 rfl (lv_at hl 2 rfl) ?_
  refine z_ciP (z_rS (As := [.int p0, .int p1, .int p2]) (rest := []) ⟨hx, hb, hml, hown, hts⟩ (c_X8_isPlace l D tys n ad (fun c1 => c1 = ce) p0 p1 p2) (va_cwS 3 hts (g_S mw_326 mw_327 mw_324 mw_328) rfl rfl rfl (by decide +kernel) ⟨Nat.le_of_ble_eq_true rfl, Nat.le_of_ble_eq_true rfl⟩) hK hN rfl hP rfl hl.1 rfl (Nat.le_of_ble_eq_true rfl) dX8_isLine_3 ⟨Nat.zero_le _, Nat.zero_le _⟩) hS (fun _ h => h) (fun v3 H locs h3 hP hS => ?_)
  refine z_if_eq (tgt := 47) hx hb dX8_isLine_6 (by decide) (fun c6 => ?_) (fun c6 => ?_)
  · skip
    refine z_ic hx hb dX8_isLine_47 (by decide) (fun v47 h47 => ?_)
    exact z_retz hx hb hr hlocks hP hS dX8_isLine_48 (by omega) ⟨hOK, (by omega)⟩
  · skip
    refine lv_iload_n hx hb dX8_isLine_9 rfl (lv_at hl 0 rfl) ?_
    refine lv_iload_n hx hb dX8_isLine_10 rfl (lv_at hl 3 rfl) ?_
    refine lv_iload hx hb dX8_isLine_11 (lv_at hl 4 rfl) ?_
    refine z_ciP (z_rS (As := [.int p0, .int p3, .int p4]) (rest := []) ⟨hx, hb, hml, hown, hts⟩ (c_X8_isPlace l D tys n ad (fun c1 => c1 = ce) p0 p3 p4) (va_cwS 3 hts (g_S mw_326 mw_327 mw_324 mw_328) rfl rfl rfl (by decide +kernel) ⟨Nat.le_of_ble_eq_true rfl, Nat.le_of_ble_eq_true rfl⟩) hK hN rfl hP rfl hl.1 rfl (Nat.le_of_ble_eq_true rfl) dX8_isLine_13 ⟨Nat.zero_le _, Nat.zero_le _⟩) hS (fun _ h => h) (fun v13 H locs h13 hP hS => ?_)
    refine z_if_eq (tgt := 47) hx hb dX8_isLine_16 (by decide) (fun c16 => ?_) (fun c16 => ?_)
    · skip
      refine z_ic hx hb dX8_isLine_47 (by decide) (fun v47 h47 => ?_)
      exact z_retz hx hb hr hlocks hP hS dX8_isLine_48 (by omega) ⟨hOK, (by omega)⟩
    · skip
      refine lv_iload_n hx hb dX8_isLine_19 rfl (lv_at hl 1 rfl) ?_
      refine lv_iload_n hx hb dX8_isLine_20 rfl (lv_at hl 3 rfl) ?_
      refine z_icmp_ne (tgt := 28) hx hb dX8_isLine_21 (by decide) (fun c21 => ?_) (fun c21 => ?_)
      · skip
        refine z_ic hx hb dX8_isLine_28 (by decide) (fun v28 h28 => ?_)
        refine lv_iload_n hx hb dX8_isLine_29 rfl (lv_at hl 2 rfl) ?_
        refine lv_iload hx hb dX8_isLine_30 (lv_at hl 4 rfl) ?_
        refine z_icmp_ne (tgt := 39) hx hb dX8_isLine_32 (by decide) (fun c32 => ?_) (fun c32 => ?_)
        · skip
          refine z_ic hx hb dX8_isLine_39 (by decide) (fun v39 h39 => ?_)
          refine z_icmp_eq (tgt := 47) hx hb dX8_isLine_40 (by decide) (fun c40 => ?_) (fun c40 => ?_)
          · skip
            refine z_ic hx hb dX8_isLine_47 (by decide) (fun v47 h47 => ?_)
            exact z_retz hx hb hr hlocks hP hS dX8_isLine_48 (by omega) ⟨hOK, (by omega)⟩
          · skip
            exfalso; omega
        · skip
          refine z_ic hx hb dX8_isLine_35 (by decide) (fun v35 h35 => ?_)
          refine lv_goto (tgt := 40) hx hb dX8_isLine_36 (by decide) ?_
          refine z_icmp_eq (tgt := 47) hx hb dX8_isLine_40 (by decide) (fun c40 => ?_) (fun c40 => ?_)
          · skip
            exfalso; omega
          · skip
            refine z_ic hx hb dX8_isLine_43 (by decide) (fun v43 h43 => ?_)
            refine lv_goto (tgt := 48) hx hb dX8_isLine_44 (by decide) ?_
            exact z_retz hx hb hr hlocks hP hS dX8_isLine_48 (by omega) ⟨hOK, (by omega)⟩
      · skip
        refine z_ic hx hb dX8_isLine_24 (by decide) (fun v24 h24 => ?_)
        refine lv_goto (tgt := 29) hx hb dX8_isLine_25 (by decide) ?_
        refine lv_iload_n hx hb dX8_isLine_29 rfl (lv_at hl 2 rfl) ?_
        refine lv_iload hx hb dX8_isLine_30 (lv_at hl 4 rfl) ?_
        refine z_icmp_ne (tgt := 39) hx hb dX8_isLine_32 (by decide) (fun c32 => ?_) (fun c32 => ?_)
        · skip
          refine z_ic hx hb dX8_isLine_39 (by decide) (fun v39 h39 => ?_)
          refine z_icmp_eq (tgt := 47) hx hb dX8_isLine_40 (by decide) (fun c40 => ?_) (fun c40 => ?_)
          · skip
            exfalso; omega
          · skip
            refine z_ic hx hb dX8_isLine_43 (by decide) (fun v43 h43 => ?_)
            refine lv_goto (tgt := 48) hx hb dX8_isLine_44 (by decide) ?_
            exact z_retz hx hb hr hlocks hP hS dX8_isLine_48 (by omega) ⟨hOK, (by omega)⟩
        · skip
          refine z_ic hx hb dX8_isLine_35 (by decide) (fun v35 h35 => ?_)
          refine lv_goto (tgt := 40) hx hb dX8_isLine_36 (by decide) ?_
          refine z_icmp_eq (tgt := 47) hx hb dX8_isLine_40 (by decide) (fun c40 => ?_) (fun c40 => ?_)
          · skip
            refine z_ic hx hb dX8_isLine_47 (by decide) (fun v47 h47 => ?_)
            exact z_retz hx hb hr hlocks hP hS dX8_isLine_48 (by omega) ⟨hOK, (by omega)⟩
          · skip
            exfalso; omega
set_option maxHeartbeats 8000000 in
set_option maxRecDepth 100000 in
theorem c_X8_size (l : Launch) (D : va_G) (tys : List (ClassId × FieldType)) (n : Nat) (ad : Nat → Nat) (OK : (Nat → va_E) → Prop) (p0 : Int32) : zM l D tys n ad OK yX8_size vsX8_size { frames := 0, cells := 0, slots := 0, locals := 0 } ([.int p0] : List Value) (zQi D n ad (fun r ce => OK ce ∧ ((¬ p0.toInt = 0 → ¬ r.toInt = 0)))) := by
  refine z_of (cc := cX8_size) (maxL := 1) (ret := (some .int)) (by decide) rfl (Nat.le_of_ble_eq_true rfl) ?_
  intro p e s m below meth c hx hb hr hts hown hlocks hml hK hN ce hOK hP
  have hown : s.vm.findClass RX8 = some m.cls := hown
  have hS : va_S (zA n ad) s.heap s.heap [] := va_S.rf
  intro ls hl
  have hl : lv_has ls 1 [(0, .int p0)] := hl
  refine lv_iload_n hx hb dX8_size_0 rfl (lv_at hl 0 rfl) ?_
  refine z_if_ge (tgt := 9) hx hb dX8_size_1 (by decide) (fun c1 => ?_) (fun c1 => ?_)
  · skip
    refine lv_iload_n hx hb dX8_size_9 rfl (lv_at hl 0 rfl) ?_
    exact z_reti hx hb hr hlocks hP hS dX8_size_10 ⟨hOK, (by omega)⟩
  · skip
    refine lv_iload_n hx hb dX8_size_4 rfl (lv_at hl 0 rfl) ?_
    refine z_neg hx hb dX8_size_5 (fun v5 h5 => ?_)
    refine lv_goto (tgt := 10) hx hb dX8_size_6 (by decide) ?_
    exact z_reti hx hb hr hlocks hP hS dX8_size_10 ⟨hOK, (by omega)⟩
set_option maxHeartbeats 8000000 in
set_option maxRecDepth 100000 in
theorem c_X8_lengthOf (l : Launch) (D : va_G) (tys : List (ClassId × FieldType)) (n : Nat) (ad : Nat → Nat) (OK : (Nat → va_E) → Prop) (p0 : Int32) (p1 : Int32) (p2 : Int32) (p3 : Int32) : zM l D tys n ad OK yX8_lengthOf vsX8_lengthOf { frames := 0, cells := 0, slots := 0, locals := 0 } ([.int p0, .int p1, .int p2, .int p3] : List Value) (zQi D n ad (fun r ce => OK ce ∧ (True))) := by
  refine z_of (cc := cX8_lengthOf) (maxL := 12) (ret := (some .int)) (by decide) rfl (Nat.le_of_ble_eq_true rfl) ?_
  intro p e s m below meth c hx hb hr hts hown hlocks hml hK hN ce hOK hP
  have hown : s.vm.findClass RX8 = some m.cls := hown
  have hS : va_S (zA n ad) s.heap s.heap [] := va_S.rf
  have L30 : ∀ N30 : Nat, ∀ (H : Heap) (locs : List Loc) (x4 : Int64) (x6 : Int64) (x8 : Int64), va_P D vwCl (zw n ad ce) H → va_S (zA n ad) s.heap H locs → (0 ≤ x6.toInt ∧ x6.toInt ≤ 150000) → (0 ≤ x8.toInt ∧ x8.toInt ≤ 150000) → (x6.toInt ≤ x8.toInt) → (x8.toInt - x6.toInt + 1 ≤ (N30 : Int)) → ∀ ls : Array Slot, lv_has ls 12 [(4, .long x4), (6, .long x6), (8, .long x8)] → W p l e { frames := 0, cells := 0, slots := 0, locals := 0 } s m ([.int p0, .int p1, .int p2, .int p3] : List Value).toArray below meth c H locs 0 0 (MQ below (zQi D n ad (fun r ce => OK ce ∧ (True))) ([.int p0, .int p1, .int p2, .int p3] : List Value).toArray s 0 0 (zA n ad)) (F0 m 30 ls []) := by
    intro N30
    induction N30 with
    | zero =>
      intro H locs x4 x6 x8 hP hS q_x6 q_x8 qx0 hm ls hl
      exfalso; omega
    | succ N30 ih30 =>
      intro H locs x4 x6 x8 hP hS q_x6 q_x8 qx0 hm ls hl
      refine lv_lload hx hb dX8_lengthOf_30 (lv_at hl 1 rfl) ?_
      refine lv_lload hx hb dX8_lengthOf_32 (lv_at hl 2 rfl) ?_
      refine z_lcmp hx hb dX8_lengthOf_34 (fun v34 h34 => ?_)
      refine z_if_ge (tgt := 78) hx hb dX8_lengthOf_35 (by decide) (fun c35 => ?_) (fun c35 => ?_)
      · skip
        refine lv_lload hx hb dX8_lengthOf_78 (lv_at hl 1 rfl) ?_
        refine lv_l2i hx hb dX8_lengthOf_80 rfl ?_
        refine lv_topi (fun v80 _ => ?_)
        exact z_reti hx hb hr hlocks hP hS dX8_lengthOf_81 ⟨hOK, trivial⟩
      · skip
        refine lv_lload hx hb dX8_lengthOf_38 (lv_at hl 1 rfl) ?_
        refine lv_lload hx hb dX8_lengthOf_40 (lv_at hl 2 rfl) ?_
        refine z_laddE hx hb dX8_lengthOf_42 (by omega) (fun v42 h42 => ?_)
        refine lv_lconst hx hb dX8_lengthOf_43 rfl ?_
        refine lv_topl (fun v43 h43 => ?_)
        have h43 : v43.toInt = 1 := by rw [h43]; rfl
        refine z_laddE hx hb dX8_lengthOf_44 (by omega) (fun v44 h44 => ?_)
        refine lv_ldc2 hx hb hown (hts (.constantLong RX8 212 (2)) (List.mem_cons_of_mem _ mw_319)) dX8_lengthOf_45 ?_
        refine lv_topl (fun v45 h45 => ?_)
        have h45 : v45.toInt = 2 := by rw [h45]; rfl
        refine z_ldiv2 hx hb dX8_lengthOf_48 (by omega) (by omega) (fun v48 h48 => ?_)
        refine lv_lstore (lv' := [(10, .long v48), (4, .long x4), (6, .long x6), (8, .long x8)]) hx hb dX8_lengthOf_49 hl (by decide) rfl (fun ls hl => ?_)
        refine lv_lload hx hb dX8_lengthOf_51 (lv_at hl 0 rfl) ?_
        refine lv_lload hx hb dX8_lengthOf_53 (lv_at hl 0 rfl) ?_
        refine lv_lmul hx hb dX8_lengthOf_55 ?_
        refine lv_topl (fun v55 _ => ?_)
        refine lv_lload hx hb dX8_lengthOf_56 (lv_at hl 1 rfl) ?_
        refine z_lcmp hx hb dX8_lengthOf_58 (fun v58 h58 => ?_)
        refine z_if_gt (tgt := 69) hx hb dX8_lengthOf_59 (by decide) (fun c59 => ?_) (fun c59 => ?_)
        · skip
          refine lv_lload hx hb dX8_lengthOf_69 (lv_at hl 0 rfl) ?_
          refine lv_lconst hx hb dX8_lengthOf_71 rfl ?_
          refine lv_topl (fun v71 h71 => ?_)
          have h71 : v71.toInt = 1 := by rw [h71]; rfl
          refine z_lsubE hx hb dX8_lengthOf_72 (by omega) (fun v72 h72 => ?_)
          refine lv_lstore (lv' := [(8, .long v72), (10, .long v48), (4, .long x4), (6, .long x6)]) hx hb dX8_lengthOf_73 hl (by decide) rfl (fun ls hl => ?_)
          refine lv_goto (tgt := 30) hx hb dX8_lengthOf_75 (by decide) ?_
          exact ih30 _ _ x4 x6 v72 hP hS (by omega) (by omega) (by omega) (by omega) _ (lv_sub hl [2, 3, 0] rfl)
        · skip
          refine lv_lload hx hb dX8_lengthOf_62 (lv_at hl 0 rfl) ?_
          refine lv_lstore (lv' := [(6, .long v48), (10, .long v48), (4, .long x4), (8, .long x8)]) hx hb dX8_lengthOf_64 hl (by decide) rfl (fun ls hl => ?_)
          refine lv_goto (tgt := 75) hx hb dX8_lengthOf_66 (by decide) ?_
          refine lv_goto (tgt := 30) hx hb dX8_lengthOf_75 (by decide) ?_
          exact ih30 _ _ x4 v48 x8 hP hS (by omega) (by omega) (by omega) (by omega) _ (lv_sub hl [2, 0, 3] rfl)
  intro ls hl
  have hl : lv_has ls 12 [(0, .int p0), (1, .int p1), (2, .int p2), (3, .int p3)] := hl
  refine lv_ldc2 hx hb hown (hts (.constantLong RX8 208 (1000000)) (List.mem_cons_of_mem _ mw_320)) dX8_lengthOf_0 ?_
  refine lv_topl (fun v0 h0 => ?_)
  have h0 : v0.toInt = 1000000 := by rw [h0]; rfl
  refine lv_iload_n hx hb dX8_lengthOf_3 rfl (lv_at hl 2 rfl) ?_
  refine lv_iload_n hx hb dX8_lengthOf_4 rfl (lv_at hl 0 rfl) ?_
  refine lv_isub hx hb dX8_lengthOf_5 ?_
  refine lv_topi (fun v5 _ => ?_)
  refine lv_iload_n hx hb dX8_lengthOf_6 rfl (lv_at hl 2 rfl) ?_
  refine lv_iload_n hx hb dX8_lengthOf_7 rfl (lv_at hl 0 rfl) ?_
  refine lv_isub hx hb dX8_lengthOf_8 ?_
  refine lv_topi (fun v8 _ => ?_)
  refine lv_imul hx hb dX8_lengthOf_9 ?_
  refine lv_topi (fun v9 _ => ?_)
  refine lv_iload_n hx hb dX8_lengthOf_10 rfl (lv_at hl 3 rfl) ?_
  refine lv_iload_n hx hb dX8_lengthOf_11 rfl (lv_at hl 1 rfl) ?_
  refine lv_isub hx hb dX8_lengthOf_12 ?_
  refine lv_topi (fun v12 _ => ?_)
  refine lv_iload_n hx hb dX8_lengthOf_13 rfl (lv_at hl 3 rfl) ?_
  refine lv_iload_n hx hb dX8_lengthOf_14 rfl (lv_at hl 1 rfl) ?_
  refine lv_isub hx hb dX8_lengthOf_15 ?_
  refine lv_topi (fun v15 _ => ?_)
  refine lv_imul hx hb dX8_lengthOf_16 ?_
  refine lv_topi (fun v16 _ => ?_)
  refine lv_iadd hx hb dX8_lengthOf_17 ?_
  refine lv_topi (fun v17 _ => ?_)
  refine lv_i2l hx hb dX8_lengthOf_18 rfl ?_
  refine lv_topl (fun v18 _ => ?_)
  refine lv_lmul hx hb dX8_lengthOf_19 ?_
  refine lv_topl (fun v19 _ => ?_)
  refine lv_lstore (lv' := [(4, .long v19), (0, .int p0), (1, .int p1), (2, .int p2), (3, .int p3)]) hx hb dX8_lengthOf_20 hl (by decide) rfl (fun ls hl => ?_)
  refine lv_lconst hx hb dX8_lengthOf_22 rfl ?_
  refine lv_topl (fun v22 h22 => ?_)
  have h22 : v22.toInt = 0 := by rw [h22]; rfl
  refine lv_lstore (lv' := [(6, .long v22), (4, .long v19), (0, .int p0), (1, .int p1), (2, .int p2), (3, .int p3)]) hx hb dX8_lengthOf_23 hl (by decide) rfl (fun ls hl => ?_)
  refine lv_ldc2 hx hb hown (hts (.constantLong RX8 210 (150000)) (List.mem_cons_of_mem _ mw_321)) dX8_lengthOf_25 ?_
  refine lv_topl (fun v25 h25 => ?_)
  have h25 : v25.toInt = 150000 := by rw [h25]; rfl
  refine lv_lstore (lv' := [(8, .long v25), (6, .long v22), (4, .long v19), (0, .int p0), (1, .int p1), (2, .int p2), (3, .int p3)]) hx hb dX8_lengthOf_28 hl (by decide) rfl (fun ls hl => ?_)
  exact L30 150002 _ _ v19 v22 v25 hP hS (by omega) (by omega) (by omega) (by omega) _ (lv_sub hl [2, 1, 0] rfl)
set_option maxHeartbeats 8000000 in
set_option maxRecDepth 100000 in
theorem c_X8_lays_Rm (l : Launch) (D : va_G) (cy : Nat → ClassId) (ad : Nat → Nat) (cnt : Nat → Nat) (nd : Nat) (wn : Nat) (S : Nat → Int32) (By : Nat → Int32) (Ah : Nat → Int32) (hJ : zJ 34 ad) (p1 : Int32) (p2 : Int32) (p3 : Int32) (p4 : Int32) (p5 : Int32) (p6 : Int32) (q_p1 : 0 ≤ p1.toInt ∧ p1.toInt ≤ 11) : zM l D (mT cy) 34 ad (mOK cy ad cnt nd wn S By Ah) yX8_lays vsX8_lays { frames := 0, cells := 0, slots := 0, locals := 0 } ([.ref (ad 1), .int p1, .int p2, .int p3, .int p4, .int p5, .int p6] : List Value) (zQv D 34 ad (fun ce => mOK cy ad cnt nd wn S By Ah ce ∧ (True))) := by
  refine z_of (cc := cX8_lays) (maxL := 7) (ret := none) (by decide) rfl (Nat.le_of_ble_eq_true rfl) ?_
  intro p e s m below meth c hx hb hr hts hown hlocks hml hK hN ce hOK hP
  have hown : s.vm.findClass RX8 = some m.cls := hown
  have hS : va_S (zA 34 ad) s.heap s.heap [] := va_S.rf
  have hO := hOK
  have J64 : ∀ (H : Heap) (locs : List Loc) (ce : Nat → va_E) (x1 : Int32) (x4 : Int32) (x6 : Int32) (s1 : Int32) (s2 : Int32), va_P D vwCl (zw 34 ad ce) H → va_S (zA 34 ad) s.heap H locs → mOK cy ad cnt nd wn S By Ah ce → (0 ≤ x1.toInt ∧ x1.toInt ≤ 11) → (3 ≤ s1.toInt ∧ s1.toInt ≤ 58) → ∀ ls : Array Slot, lv_has ls 7 [(0, .ref (ad 1)), (1, .int x1), (4, .int x4), (6, .int x6)] → W p l e { frames := 0, cells := 0, slots := 0, locals := 0 } s m ([.ref (ad 1), .int p1, .int p2, .int p3, .int p4, .int p5, .int p6] : List Value).toArray below meth c H locs 0 0 (MQ below (zQv D 34 ad (fun ce => mOK cy ad cnt nd wn S By Ah ce ∧ (True))) ([.ref (ad 1), .int p1, .int p2, .int p3, .int p4, .int p5, .int p6] : List Value).toArray s 0 0 (zA 34 ad)) (F0 m 64 ls [.int s2, .int s1, .ref (ad 1)]) := by
    intro H locs ce x1 x4 x6 s1 s2 hP hS hO q_x1 q_s1 ls hl
    obtain ⟨f64, e64⟩ := mg_Rm hO
    refine z_iast hx hb hK hJ hP hS (q0 := 1) 0 (by decide) e64 rfl (z_in (by omega) (by omega)) dX8_lays_64 (fun ce H locs e64a h64a hP hS => ?_)
    have hO := z_up (OKK := mK cy ad cnt nd wn S By Ah) 1 hO h64a (by rw [e64a]; exact mE_Rm |>.mpr ⟨_, rfl⟩)
    refine lv_aload_n hx hb dX8_lays_65 rfl (lv_at hl 0 rfl) ?_
    refine z_ic hx hb dX8_lays_66 (by decide) (fun v66 h66 => ?_)
    refine lv_iload_n hx hb dX8_lays_67 rfl (lv_at hl 1 rfl) ?_
    refine z_mulJ hx hb 5 dX8_lays_68 (by omega) (by omega) (fun v68 h68 => ?_)
    refine z_ic hx hb dX8_lays_69 (by decide) (fun v69 h69 => ?_)
    refine z_addE hx hb dX8_lays_70 (by omega) (fun v70 h70 => ?_)
    refine lv_iload hx hb dX8_lays_71 (lv_at hl 2 rfl) ?_
    refine lv_iload hx hb dX8_lays_73 (lv_at hl 3 rfl) ?_
    refine z_icmp_ge (tgt := 83) hx hb dX8_lays_75 (by decide) (fun c75 => ?_) (fun c75 => ?_)
    · skip
      refine lv_iload hx hb dX8_lays_83 (lv_at hl 2 rfl) ?_
      obtain ⟨f85, e85⟩ := mg_Rm hO
      refine z_iast hx hb hK hJ hP hS (q0 := 1) 0 (by decide) e85 rfl (z_in (by omega) (by omega)) dX8_lays_85 (fun ce H locs e85a h85a hP hS => ?_)
      have hO := z_up (OKK := mK cy ad cnt nd wn S By Ah) 1 hO h85a (by rw [e85a]; exact mE_Rm |>.mpr ⟨_, rfl⟩)
      exact z_retv hx hb hr hlocks hP hS dX8_lays_86 ⟨hO, trivial⟩
    · skip
      refine lv_iload hx hb dX8_lays_78 (lv_at hl 3 rfl) ?_
      refine lv_goto (tgt := 85) hx hb dX8_lays_80 (by decide) ?_
      obtain ⟨f85, e85⟩ := mg_Rm hO
      refine z_iast hx hb hK hJ hP hS (q0 := 1) 0 (by decide) e85 rfl (z_in (by omega) (by omega)) dX8_lays_85 (fun ce H locs e85a h85a hP hS => ?_)
      have hO := z_up (OKK := mK cy ad cnt nd wn S By Ah) 1 hO h85a (by rw [e85a]; exact mE_Rm |>.mpr ⟨_, rfl⟩)
      exact z_retv hx hb hr hlocks hP hS dX8_lays_86 ⟨hO, trivial⟩
  have J45 : ∀ (H : Heap) (locs : List Loc) (ce : Nat → va_E) (x1 : Int32) (x3 : Int32) (x4 : Int32) (x5 : Int32) (x6 : Int32) (s1 : Int32) (s2 : Int32), va_P D vwCl (zw 34 ad ce) H → va_S (zA 34 ad) s.heap H locs → mOK cy ad cnt nd wn S By Ah ce → (0 ≤ x1.toInt ∧ x1.toInt ≤ 11) → (2 ≤ s1.toInt ∧ s1.toInt ≤ 57) → ∀ ls : Array Slot, lv_has ls 7 [(0, .ref (ad 1)), (1, .int x1), (3, .int x3), (4, .int x4), (5, .int x5), (6, .int x6)] → W p l e { frames := 0, cells := 0, slots := 0, locals := 0 } s m ([.ref (ad 1), .int p1, .int p2, .int p3, .int p4, .int p5, .int p6] : List Value).toArray below meth c H locs 0 0 (MQ below (zQv D 34 ad (fun ce => mOK cy ad cnt nd wn S By Ah ce ∧ (True))) ([.ref (ad 1), .int p1, .int p2, .int p3, .int p4, .int p5, .int p6] : List Value).toArray s 0 0 (zA 34 ad)) (F0 m 45 ls [.int s2, .int s1, .ref (ad 1)]) := by
    intro H locs ce x1 x3 x4 x5 x6 s1 s2 hP hS hO q_x1 q_s1 ls hl
    obtain ⟨f45, e45⟩ := mg_Rm hO
    refine z_iast hx hb hK hJ hP hS (q0 := 1) 0 (by decide) e45 rfl (z_in (by omega) (by omega)) dX8_lays_45 (fun ce H locs e45a h45a hP hS => ?_)
    have hO := z_up (OKK := mK cy ad cnt nd wn S By Ah) 1 hO h45a (by rw [e45a]; exact mE_Rm |>.mpr ⟨_, rfl⟩)
    refine lv_aload_n hx hb dX8_lays_46 rfl (lv_at hl 0 rfl) ?_
    refine z_ic hx hb dX8_lays_47 (by decide) (fun v47 h47 => ?_)
    refine lv_iload_n hx hb dX8_lays_48 rfl (lv_at hl 1 rfl) ?_
    refine z_mulJ hx hb 5 dX8_lays_49 (by omega) (by omega) (fun v49 h49 => ?_)
    refine z_ic hx hb dX8_lays_50 (by decide) (fun v50 h50 => ?_)
    refine z_addE hx hb dX8_lays_51 (by omega) (fun v51 h51 => ?_)
    refine lv_iload_n hx hb dX8_lays_52 rfl (lv_at hl 2 rfl) ?_
    refine lv_iload hx hb dX8_lays_53 (lv_at hl 4 rfl) ?_
    refine z_icmp_ge (tgt := 63) hx hb dX8_lays_55 (by decide) (fun c55 => ?_) (fun c55 => ?_)
    · skip
      refine lv_iload_n hx hb dX8_lays_63 rfl (lv_at hl 2 rfl) ?_
      exact J64 _ _ _ x1 x4 x6 v51 x3 hP hS hO (by omega) (by omega) _ (lv_sub hl [0, 1, 3, 5] rfl)
    · skip
      refine lv_iload hx hb dX8_lays_58 (lv_at hl 4 rfl) ?_
      refine lv_goto (tgt := 64) hx hb dX8_lays_60 (by decide) ?_
      exact J64 _ _ _ x1 x4 x6 v51 x5 hP hS hO (by omega) (by omega) _ (lv_sub hl [0, 1, 3, 5] rfl)
  have J24 : ∀ (H : Heap) (locs : List Loc) (ce : Nat → va_E) (x1 : Int32) (x3 : Int32) (x4 : Int32) (x5 : Int32) (x6 : Int32) (s1 : Int32) (s2 : Int32), va_P D vwCl (zw 34 ad ce) H → va_S (zA 34 ad) s.heap H locs → mOK cy ad cnt nd wn S By Ah ce → (0 ≤ x1.toInt ∧ x1.toInt ≤ 11) → (1 ≤ s1.toInt ∧ s1.toInt ≤ 56) → ∀ ls : Array Slot, lv_has ls 7 [(0, .ref (ad 1)), (1, .int x1), (3, .int x3), (4, .int x4), (5, .int x5), (6, .int x6)] → W p l e { frames := 0, cells := 0, slots := 0, locals := 0 } s m ([.ref (ad 1), .int p1, .int p2, .int p3, .int p4, .int p5, .int p6] : List Value).toArray below meth c H locs 0 0 (MQ below (zQv D 34 ad (fun ce => mOK cy ad cnt nd wn S By Ah ce ∧ (True))) ([.ref (ad 1), .int p1, .int p2, .int p3, .int p4, .int p5, .int p6] : List Value).toArray s 0 0 (zA 34 ad)) (F0 m 24 ls [.int s2, .int s1, .ref (ad 1)]) := by
    intro H locs ce x1 x3 x4 x5 x6 s1 s2 hP hS hO q_x1 q_s1 ls hl
    obtain ⟨f24, e24⟩ := mg_Rm hO
    refine z_iast hx hb hK hJ hP hS (q0 := 1) 0 (by decide) e24 rfl (z_in (by omega) (by omega)) dX8_lays_24 (fun ce H locs e24a h24a hP hS => ?_)
    have hO := z_up (OKK := mK cy ad cnt nd wn S By Ah) 1 hO h24a (by rw [e24a]; exact mE_Rm |>.mpr ⟨_, rfl⟩)
    refine lv_aload_n hx hb dX8_lays_25 rfl (lv_at hl 0 rfl) ?_
    refine z_ic hx hb dX8_lays_26 (by decide) (fun v26 h26 => ?_)
    refine lv_iload_n hx hb dX8_lays_27 rfl (lv_at hl 1 rfl) ?_
    refine z_mulJ hx hb 5 dX8_lays_28 (by omega) (by omega) (fun v28 h28 => ?_)
    refine z_ic hx hb dX8_lays_29 (by decide) (fun v29 h29 => ?_)
    refine z_addE hx hb dX8_lays_30 (by omega) (fun v30 h30 => ?_)
    refine lv_iload hx hb dX8_lays_31 (lv_at hl 3 rfl) ?_
    refine lv_iload hx hb dX8_lays_33 (lv_at hl 5 rfl) ?_
    refine z_icmp_ge (tgt := 43) hx hb dX8_lays_35 (by decide) (fun c35 => ?_) (fun c35 => ?_)
    · skip
      refine lv_iload hx hb dX8_lays_43 (lv_at hl 5 rfl) ?_
      exact J45 _ _ _ x1 x3 x4 x5 x6 v30 x6 hP hS hO (by omega) (by omega) _ (lv_sub hl [0, 1, 2, 3, 4, 5] rfl)
    · skip
      refine lv_iload hx hb dX8_lays_38 (lv_at hl 3 rfl) ?_
      refine lv_goto (tgt := 45) hx hb dX8_lays_40 (by decide) ?_
      exact J45 _ _ _ x1 x3 x4 x5 x6 v30 x4 hP hS hO (by omega) (by omega) _ (lv_sub hl [0, 1, 2, 3, 4, 5] rfl)
  intro ls hl
  have hl : lv_has ls 7 [(0, .ref (ad 1)), (1, .int p1), (2, .int p2), (3, .int p3), (4, .int p4), (5, .int p5), (6, .int p6)] := hl
  refine lv_aload_n hx hb dX8_lays_0 rfl (lv_at hl 0 rfl) ?_
  refine z_ic hx hb dX8_lays_1 (by decide) (fun v1 h1 => ?_)
  refine lv_iload_n hx hb dX8_lays_2 rfl (lv_at hl 1 rfl) ?_
  refine z_mulJ hx hb 5 dX8_lays_3 (by omega) (by omega) (fun v3 h3 => ?_)
  refine lv_iload_n hx hb dX8_lays_4 rfl (lv_at hl 2 rfl) ?_
  obtain ⟨f5, e5⟩ := mg_Rm hO
  refine z_iast hx hb hK hJ hP hS (q0 := 1) 0 (by decide) e5 rfl (z_in (by omega) (by omega)) dX8_lays_5 (fun ce H locs e5a h5a hP hS => ?_)
  have hO := z_up (OKK := mK cy ad cnt nd wn S By Ah) 1 hO h5a (by rw [e5a]; exact mE_Rm |>.mpr ⟨_, rfl⟩)
  refine lv_aload_n hx hb dX8_lays_6 rfl (lv_at hl 0 rfl) ?_
  refine z_ic hx hb dX8_lays_7 (by decide) (fun v7 h7 => ?_)
  refine lv_iload_n hx hb dX8_lays_8 rfl (lv_at hl 1 rfl) ?_
  refine z_mulJ hx hb 5 dX8_lays_9 (by omega) (by omega) (fun v9 h9 => ?_)
  refine z_ic hx hb dX8_lays_10 (by decide) (fun v10 h10 => ?_)
  refine z_addE hx hb dX8_lays_11 (by omega) (fun v11 h11 => ?_)
  refine lv_iload_n hx hb dX8_lays_12 rfl (lv_at hl 3 rfl) ?_
  refine lv_iload hx hb dX8_lays_13 (lv_at hl 5 rfl) ?_
  refine z_icmp_ge (tgt := 22) hx hb dX8_lays_15 (by decide) (fun c15 => ?_) (fun c15 => ?_)
  · skip
    refine lv_iload hx hb dX8_lays_22 (lv_at hl 5 rfl) ?_
    exact J24 _ _ _ p1 p3 p4 p5 p6 v11 p5 hP hS hO (by omega) (by omega) _ (lv_sub hl [0, 1, 3, 4, 5, 6] rfl)
  · skip
    refine lv_iload_n hx hb dX8_lays_18 rfl (lv_at hl 3 rfl) ?_
    refine lv_goto (tgt := 24) hx hb dX8_lays_19 (by decide) ?_
    exact J24 _ _ _ p1 p3 p4 p5 p6 v11 p3 hP hS hO (by omega) (by omega) _ (lv_sub hl [0, 1, 3, 4, 5, 6] rfl)
set_option maxHeartbeats 8000000 in
set_option maxRecDepth 100000 in
theorem c_X8_lays_Bx (l : Launch) (D : va_G) (cy : Nat → ClassId) (ad : Nat → Nat) (cnt : Nat → Nat) (nd : Nat) (wn : Nat) (S : Nat → Int32) (By : Nat → Int32) (Ah : Nat → Int32) (hJ : zJ 34 ad) (p1 : Int32) (p2 : Int32) (p3 : Int32) (p4 : Int32) (p5 : Int32) (p6 : Int32) (q_p1 : 0 ≤ p1.toInt ∧ p1.toInt ≤ 7) : zM l D (mT cy) 34 ad (mOK cy ad cnt nd wn S By Ah) yX8_lays vsX8_lays { frames := 0, cells := 0, slots := 0, locals := 0 } ([.ref (ad 3), .int p1, .int p2, .int p3, .int p4, .int p5, .int p6] : List Value) (zQv D 34 ad (fun ce => mOK cy ad cnt nd wn S By Ah ce ∧ (True))) := by
  refine z_of (cc := cX8_lays) (maxL := 7) (ret := none) (by decide) rfl (Nat.le_of_ble_eq_true rfl) ?_
  intro p e s m below meth c hx hb hr hts hown hlocks hml hK hN ce hOK hP
  have hown : s.vm.findClass RX8 = some m.cls := hown
  have hS : va_S (zA 34 ad) s.heap s.heap [] := va_S.rf
  have hO := hOK
  have J64 : ∀ (H : Heap) (locs : List Loc) (ce : Nat → va_E) (x1 : Int32) (x4 : Int32) (x6 : Int32) (s1 : Int32) (s2 : Int32), va_P D vwCl (zw 34 ad ce) H → va_S (zA 34 ad) s.heap H locs → mOK cy ad cnt nd wn S By Ah ce → (0 ≤ x1.toInt ∧ x1.toInt ≤ 7) → (3 ≤ s1.toInt ∧ s1.toInt ≤ 38) → ∀ ls : Array Slot, lv_has ls 7 [(0, .ref (ad 3)), (1, .int x1), (4, .int x4), (6, .int x6)] → W p l e { frames := 0, cells := 0, slots := 0, locals := 0 } s m ([.ref (ad 3), .int p1, .int p2, .int p3, .int p4, .int p5, .int p6] : List Value).toArray below meth c H locs 0 0 (MQ below (zQv D 34 ad (fun ce => mOK cy ad cnt nd wn S By Ah ce ∧ (True))) ([.ref (ad 3), .int p1, .int p2, .int p3, .int p4, .int p5, .int p6] : List Value).toArray s 0 0 (zA 34 ad)) (F0 m 64 ls [.int s2, .int s1, .ref (ad 3)]) := by
    intro H locs ce x1 x4 x6 s1 s2 hP hS hO q_x1 q_s1 ls hl
    obtain ⟨f64, e64⟩ := mg_Bx hO
    refine z_iast hx hb hK hJ hP hS (q0 := 3) 0 (by decide) e64 rfl (z_in (by omega) (by omega)) dX8_lays_64 (fun ce H locs e64a h64a hP hS => ?_)
    have hO := z_up (OKK := mK cy ad cnt nd wn S By Ah) 3 hO h64a (by rw [e64a]; exact mE_Bx |>.mpr ⟨_, rfl⟩)
    refine lv_aload_n hx hb dX8_lays_65 rfl (lv_at hl 0 rfl) ?_
    refine z_ic hx hb dX8_lays_66 (by decide) (fun v66 h66 => ?_)
    refine lv_iload_n hx hb dX8_lays_67 rfl (lv_at hl 1 rfl) ?_
    refine z_mulJ hx hb 5 dX8_lays_68 (by omega) (by omega) (fun v68 h68 => ?_)
    refine z_ic hx hb dX8_lays_69 (by decide) (fun v69 h69 => ?_)
    refine z_addE hx hb dX8_lays_70 (by omega) (fun v70 h70 => ?_)
    refine lv_iload hx hb dX8_lays_71 (lv_at hl 2 rfl) ?_
    refine lv_iload hx hb dX8_lays_73 (lv_at hl 3 rfl) ?_
    refine z_icmp_ge (tgt := 83) hx hb dX8_lays_75 (by decide) (fun c75 => ?_) (fun c75 => ?_)
    · skip
      refine lv_iload hx hb dX8_lays_83 (lv_at hl 2 rfl) ?_
      obtain ⟨f85, e85⟩ := mg_Bx hO
      refine z_iast hx hb hK hJ hP hS (q0 := 3) 0 (by decide) e85 rfl (z_in (by omega) (by omega)) dX8_lays_85 (fun ce H locs e85a h85a hP hS => ?_)
      have hO := z_up (OKK := mK cy ad cnt nd wn S By Ah) 3 hO h85a (by rw [e85a]; exact mE_Bx |>.mpr ⟨_, rfl⟩)
      exact z_retv hx hb hr hlocks hP hS dX8_lays_86 ⟨hO, trivial⟩
    · skip
      refine lv_iload hx hb dX8_lays_78 (lv_at hl 3 rfl) ?_
      refine lv_goto (tgt := 85) hx hb dX8_lays_80 (by decide) ?_
      obtain ⟨f85, e85⟩ := mg_Bx hO
      refine z_iast hx hb hK hJ hP hS (q0 := 3) 0 (by decide) e85 rfl (z_in (by omega) (by omega)) dX8_lays_85 (fun ce H locs e85a h85a hP hS => ?_)
      have hO := z_up (OKK := mK cy ad cnt nd wn S By Ah) 3 hO h85a (by rw [e85a]; exact mE_Bx |>.mpr ⟨_, rfl⟩)
      exact z_retv hx hb hr hlocks hP hS dX8_lays_86 ⟨hO, trivial⟩
  have J45 : ∀ (H : Heap) (locs : List Loc) (ce : Nat → va_E) (x1 : Int32) (x3 : Int32) (x4 : Int32) (x5 : Int32) (x6 : Int32) (s1 : Int32) (s2 : Int32), va_P D vwCl (zw 34 ad ce) H → va_S (zA 34 ad) s.heap H locs → mOK cy ad cnt nd wn S By Ah ce → (0 ≤ x1.toInt ∧ x1.toInt ≤ 7) → (2 ≤ s1.toInt ∧ s1.toInt ≤ 37) → ∀ ls : Array Slot, lv_has ls 7 [(0, .ref (ad 3)), (1, .int x1), (3, .int x3), (4, .int x4), (5, .int x5), (6, .int x6)] → W p l e { frames := 0, cells := 0, slots := 0, locals := 0 } s m ([.ref (ad 3), .int p1, .int p2, .int p3, .int p4, .int p5, .int p6] : List Value).toArray below meth c H locs 0 0 (MQ below (zQv D 34 ad (fun ce => mOK cy ad cnt nd wn S By Ah ce ∧ (True))) ([.ref (ad 3), .int p1, .int p2, .int p3, .int p4, .int p5, .int p6] : List Value).toArray s 0 0 (zA 34 ad)) (F0 m 45 ls [.int s2, .int s1, .ref (ad 3)]) := by
    intro H locs ce x1 x3 x4 x5 x6 s1 s2 hP hS hO q_x1 q_s1 ls hl
    obtain ⟨f45, e45⟩ := mg_Bx hO
    refine z_iast hx hb hK hJ hP hS (q0 := 3) 0 (by decide) e45 rfl (z_in (by omega) (by omega)) dX8_lays_45 (fun ce H locs e45a h45a hP hS => ?_)
    have hO := z_up (OKK := mK cy ad cnt nd wn S By Ah) 3 hO h45a (by rw [e45a]; exact mE_Bx |>.mpr ⟨_, rfl⟩)
    refine lv_aload_n hx hb dX8_lays_46 rfl (lv_at hl 0 rfl) ?_
    refine z_ic hx hb dX8_lays_47 (by decide) (fun v47 h47 => ?_)
    refine lv_iload_n hx hb dX8_lays_48 rfl (lv_at hl 1 rfl) ?_
    refine z_mulJ hx hb 5 dX8_lays_49 (by omega) (by omega) (fun v49 h49 => ?_)
    refine z_ic hx hb dX8_lays_50 (by decide) (fun v50 h50 => ?_)
    refine z_addE hx hb dX8_lays_51 (by omega) (fun v51 h51 => ?_)
    refine lv_iload_n hx hb dX8_lays_52 rfl (lv_at hl 2 rfl) ?_
    refine lv_iload hx hb dX8_lays_53 (lv_at hl 4 rfl) ?_
    refine z_icmp_ge (tgt := 63) hx hb dX8_lays_55 (by decide) (fun c55 => ?_) (fun c55 => ?_)
    · skip
      refine lv_iload_n hx hb dX8_lays_63 rfl (lv_at hl 2 rfl) ?_
      exact J64 _ _ _ x1 x4 x6 v51 x3 hP hS hO (by omega) (by omega) _ (lv_sub hl [0, 1, 3, 5] rfl)
    · skip
      refine lv_iload hx hb dX8_lays_58 (lv_at hl 4 rfl) ?_
      refine lv_goto (tgt := 64) hx hb dX8_lays_60 (by decide) ?_
      exact J64 _ _ _ x1 x4 x6 v51 x5 hP hS hO (by omega) (by omega) _ (lv_sub hl [0, 1, 3, 5] rfl)
  have J24 : ∀ (H : Heap) (locs : List Loc) (ce : Nat → va_E) (x1 : Int32) (x3 : Int32) (x4 : Int32) (x5 : Int32) (x6 : Int32) (s1 : Int32) (s2 : Int32), va_P D vwCl (zw 34 ad ce) H → va_S (zA 34 ad) s.heap H locs → mOK cy ad cnt nd wn S By Ah ce → (0 ≤ x1.toInt ∧ x1.toInt ≤ 7) → (1 ≤ s1.toInt ∧ s1.toInt ≤ 36) → ∀ ls : Array Slot, lv_has ls 7 [(0, .ref (ad 3)), (1, .int x1), (3, .int x3), (4, .int x4), (5, .int x5), (6, .int x6)] → W p l e { frames := 0, cells := 0, slots := 0, locals := 0 } s m ([.ref (ad 3), .int p1, .int p2, .int p3, .int p4, .int p5, .int p6] : List Value).toArray below meth c H locs 0 0 (MQ below (zQv D 34 ad (fun ce => mOK cy ad cnt nd wn S By Ah ce ∧ (True))) ([.ref (ad 3), .int p1, .int p2, .int p3, .int p4, .int p5, .int p6] : List Value).toArray s 0 0 (zA 34 ad)) (F0 m 24 ls [.int s2, .int s1, .ref (ad 3)]) := by
    intro H locs ce x1 x3 x4 x5 x6 s1 s2 hP hS hO q_x1 q_s1 ls hl
    obtain ⟨f24, e24⟩ := mg_Bx hO
    refine z_iast hx hb hK hJ hP hS (q0 := 3) 0 (by decide) e24 rfl (z_in (by omega) (by omega)) dX8_lays_24 (fun ce H locs e24a h24a hP hS => ?_)
    have hO := z_up (OKK := mK cy ad cnt nd wn S By Ah) 3 hO h24a (by rw [e24a]; exact mE_Bx |>.mpr ⟨_, rfl⟩)
    refine lv_aload_n hx hb dX8_lays_25 rfl (lv_at hl 0 rfl) ?_
    refine z_ic hx hb dX8_lays_26 (by decide) (fun v26 h26 => ?_)
    refine lv_iload_n hx hb dX8_lays_27 rfl (lv_at hl 1 rfl) ?_
    refine z_mulJ hx hb 5 dX8_lays_28 (by omega) (by omega) (fun v28 h28 => ?_)
    refine z_ic hx hb dX8_lays_29 (by decide) (fun v29 h29 => ?_)
    refine z_addE hx hb dX8_lays_30 (by omega) (fun v30 h30 => ?_)
    refine lv_iload hx hb dX8_lays_31 (lv_at hl 3 rfl) ?_
    refine lv_iload hx hb dX8_lays_33 (lv_at hl 5 rfl) ?_
    refine z_icmp_ge (tgt := 43) hx hb dX8_lays_35 (by decide) (fun c35 => ?_) (fun c35 => ?_)
    · skip
      refine lv_iload hx hb dX8_lays_43 (lv_at hl 5 rfl) ?_
      exact J45 _ _ _ x1 x3 x4 x5 x6 v30 x6 hP hS hO (by omega) (by omega) _ (lv_sub hl [0, 1, 2, 3, 4, 5] rfl)
    · skip
      refine lv_iload hx hb dX8_lays_38 (lv_at hl 3 rfl) ?_
      refine lv_goto (tgt := 45) hx hb dX8_lays_40 (by decide) ?_
      exact J45 _ _ _ x1 x3 x4 x5 x6 v30 x4 hP hS hO (by omega) (by omega) _ (lv_sub hl [0, 1, 2, 3, 4, 5] rfl)
  intro ls hl
  have hl : lv_has ls 7 [(0, .ref (ad 3)), (1, .int p1), (2, .int p2), (3, .int p3), (4, .int p4), (5, .int p5), (6, .int p6)] := hl
  refine lv_aload_n hx hb dX8_lays_0 rfl (lv_at hl 0 rfl) ?_
  refine z_ic hx hb dX8_lays_1 (by decide) (fun v1 h1 => ?_)
  refine lv_iload_n hx hb dX8_lays_2 rfl (lv_at hl 1 rfl) ?_
  refine z_mulJ hx hb 5 dX8_lays_3 (by omega) (by omega) (fun v3 h3 => ?_)
  refine lv_iload_n hx hb dX8_lays_4 rfl (lv_at hl 2 rfl) ?_
  obtain ⟨f5, e5⟩ := mg_Bx hO
  refine z_iast hx hb hK hJ hP hS (q0 := 3) 0 (by decide) e5 rfl (z_in (by omega) (by omega)) dX8_lays_5 (fun ce H locs e5a h5a hP hS => ?_)
  have hO := z_up (OKK := mK cy ad cnt nd wn S By Ah) 3 hO h5a (by rw [e5a]; exact mE_Bx |>.mpr ⟨_, rfl⟩)
  refine lv_aload_n hx hb dX8_lays_6 rfl (lv_at hl 0 rfl) ?_
  refine z_ic hx hb dX8_lays_7 (by decide) (fun v7 h7 => ?_)
  refine lv_iload_n hx hb dX8_lays_8 rfl (lv_at hl 1 rfl) ?_
  refine z_mulJ hx hb 5 dX8_lays_9 (by omega) (by omega) (fun v9 h9 => ?_)
  refine z_ic hx hb dX8_lays_10 (by decide) (fun v10 h10 => ?_)
  refine z_addE hx hb dX8_lays_11 (by omega) (fun v11 h11 => ?_)
  refine lv_iload_n hx hb dX8_lays_12 rfl (lv_at hl 3 rfl) ?_
  refine lv_iload hx hb dX8_lays_13 (lv_at hl 5 rfl) ?_
  refine z_icmp_ge (tgt := 22) hx hb dX8_lays_15 (by decide) (fun c15 => ?_) (fun c15 => ?_)
  · skip
    refine lv_iload hx hb dX8_lays_22 (lv_at hl 5 rfl) ?_
    exact J24 _ _ _ p1 p3 p4 p5 p6 v11 p5 hP hS hO (by omega) (by omega) _ (lv_sub hl [0, 1, 3, 4, 5, 6] rfl)
  · skip
    refine lv_iload_n hx hb dX8_lays_18 rfl (lv_at hl 3 rfl) ?_
    refine lv_goto (tgt := 24) hx hb dX8_lays_19 (by decide) ?_
    exact J24 _ _ _ p1 p3 p4 p5 p6 v11 p3 hP hS hO (by omega) (by omega) _ (lv_sub hl [0, 1, 3, 4, 5, 6] rfl)
set_option maxHeartbeats 8000000 in
set_option maxRecDepth 100000 in
theorem c_X8_lays_Dr (l : Launch) (D : va_G) (cy : Nat → ClassId) (ad : Nat → Nat) (cnt : Nat → Nat) (nd : Nat) (wn : Nat) (S : Nat → Int32) (By : Nat → Int32) (Ah : Nat → Int32) (hJ : zJ 34 ad) (p1 : Int32) (p2 : Int32) (p3 : Int32) (p4 : Int32) (p5 : Int32) (p6 : Int32) (q_p1 : 0 ≤ p1.toInt ∧ p1.toInt ≤ 5) : zM l D (mT cy) 34 ad (mOK cy ad cnt nd wn S By Ah) yX8_lays vsX8_lays { frames := 0, cells := 0, slots := 0, locals := 0 } ([.ref (ad 4), .int p1, .int p2, .int p3, .int p4, .int p5, .int p6] : List Value) (zQv D 34 ad (fun ce => mOK cy ad cnt nd wn S By Ah ce ∧ (True))) := by
  refine z_of (cc := cX8_lays) (maxL := 7) (ret := none) (by decide) rfl (Nat.le_of_ble_eq_true rfl) ?_
  intro p e s m below meth c hx hb hr hts hown hlocks hml hK hN ce hOK hP
  have hown : s.vm.findClass RX8 = some m.cls := hown
  have hS : va_S (zA 34 ad) s.heap s.heap [] := va_S.rf
  have hO := hOK
  have J64 : ∀ (H : Heap) (locs : List Loc) (ce : Nat → va_E) (x1 : Int32) (x4 : Int32) (x6 : Int32) (s1 : Int32) (s2 : Int32), va_P D vwCl (zw 34 ad ce) H → va_S (zA 34 ad) s.heap H locs → mOK cy ad cnt nd wn S By Ah ce → (0 ≤ x1.toInt ∧ x1.toInt ≤ 5) → (3 ≤ s1.toInt ∧ s1.toInt ≤ 28) → ∀ ls : Array Slot, lv_has ls 7 [(0, .ref (ad 4)), (1, .int x1), (4, .int x4), (6, .int x6)] → W p l e { frames := 0, cells := 0, slots := 0, locals := 0 } s m ([.ref (ad 4), .int p1, .int p2, .int p3, .int p4, .int p5, .int p6] : List Value).toArray below meth c H locs 0 0 (MQ below (zQv D 34 ad (fun ce => mOK cy ad cnt nd wn S By Ah ce ∧ (True))) ([.ref (ad 4), .int p1, .int p2, .int p3, .int p4, .int p5, .int p6] : List Value).toArray s 0 0 (zA 34 ad)) (F0 m 64 ls [.int s2, .int s1, .ref (ad 4)]) := by
    intro H locs ce x1 x4 x6 s1 s2 hP hS hO q_x1 q_s1 ls hl
    obtain ⟨f64, e64⟩ := mg_Dr hO
    refine z_iast hx hb hK hJ hP hS (q0 := 4) 0 (by decide) e64 rfl (z_in (by omega) (by omega)) dX8_lays_64 (fun ce H locs e64a h64a hP hS => ?_)
    have hO := z_up (OKK := mK cy ad cnt nd wn S By Ah) 4 hO h64a (by rw [e64a]; exact mE_Dr |>.mpr ⟨_, rfl⟩)
    refine lv_aload_n hx hb dX8_lays_65 rfl (lv_at hl 0 rfl) ?_
    refine z_ic hx hb dX8_lays_66 (by decide) (fun v66 h66 => ?_)
    refine lv_iload_n hx hb dX8_lays_67 rfl (lv_at hl 1 rfl) ?_
    refine z_mulJ hx hb 5 dX8_lays_68 (by omega) (by omega) (fun v68 h68 => ?_)
    refine z_ic hx hb dX8_lays_69 (by decide) (fun v69 h69 => ?_)
    refine z_addE hx hb dX8_lays_70 (by omega) (fun v70 h70 => ?_)
    refine lv_iload hx hb dX8_lays_71 (lv_at hl 2 rfl) ?_
    refine lv_iload hx hb dX8_lays_73 (lv_at hl 3 rfl) ?_
    refine z_icmp_ge (tgt := 83) hx hb dX8_lays_75 (by decide) (fun c75 => ?_) (fun c75 => ?_)
    · skip
      refine lv_iload hx hb dX8_lays_83 (lv_at hl 2 rfl) ?_
      obtain ⟨f85, e85⟩ := mg_Dr hO
      refine z_iast hx hb hK hJ hP hS (q0 := 4) 0 (by decide) e85 rfl (z_in (by omega) (by omega)) dX8_lays_85 (fun ce H locs e85a h85a hP hS => ?_)
      have hO := z_up (OKK := mK cy ad cnt nd wn S By Ah) 4 hO h85a (by rw [e85a]; exact mE_Dr |>.mpr ⟨_, rfl⟩)
      exact z_retv hx hb hr hlocks hP hS dX8_lays_86 ⟨hO, trivial⟩
    · skip
      refine lv_iload hx hb dX8_lays_78 (lv_at hl 3 rfl) ?_
      refine lv_goto (tgt := 85) hx hb dX8_lays_80 (by decide) ?_
      obtain ⟨f85, e85⟩ := mg_Dr hO
      refine z_iast hx hb hK hJ hP hS (q0 := 4) 0 (by decide) e85 rfl (z_in (by omega) (by omega)) dX8_lays_85 (fun ce H locs e85a h85a hP hS => ?_)
      have hO := z_up (OKK := mK cy ad cnt nd wn S By Ah) 4 hO h85a (by rw [e85a]; exact mE_Dr |>.mpr ⟨_, rfl⟩)
      exact z_retv hx hb hr hlocks hP hS dX8_lays_86 ⟨hO, trivial⟩
  have J45 : ∀ (H : Heap) (locs : List Loc) (ce : Nat → va_E) (x1 : Int32) (x3 : Int32) (x4 : Int32) (x5 : Int32) (x6 : Int32) (s1 : Int32) (s2 : Int32), va_P D vwCl (zw 34 ad ce) H → va_S (zA 34 ad) s.heap H locs → mOK cy ad cnt nd wn S By Ah ce → (0 ≤ x1.toInt ∧ x1.toInt ≤ 5) → (2 ≤ s1.toInt ∧ s1.toInt ≤ 27) → ∀ ls : Array Slot, lv_has ls 7 [(0, .ref (ad 4)), (1, .int x1), (3, .int x3), (4, .int x4), (5, .int x5), (6, .int x6)] → W p l e { frames := 0, cells := 0, slots := 0, locals := 0 } s m ([.ref (ad 4), .int p1, .int p2, .int p3, .int p4, .int p5, .int p6] : List Value).toArray below meth c H locs 0 0 (MQ below (zQv D 34 ad (fun ce => mOK cy ad cnt nd wn S By Ah ce ∧ (True))) ([.ref (ad 4), .int p1, .int p2, .int p3, .int p4, .int p5, .int p6] : List Value).toArray s 0 0 (zA 34 ad)) (F0 m 45 ls [.int s2, .int s1, .ref (ad 4)]) := by
    intro H locs ce x1 x3 x4 x5 x6 s1 s2 hP hS hO q_x1 q_s1 ls hl
    obtain ⟨f45, e45⟩ := mg_Dr hO
    refine z_iast hx hb hK hJ hP hS (q0 := 4) 0 (by decide) e45 rfl (z_in (by omega) (by omega)) dX8_lays_45 (fun ce H locs e45a h45a hP hS => ?_)
    have hO := z_up (OKK := mK cy ad cnt nd wn S By Ah) 4 hO h45a (by rw [e45a]; exact mE_Dr |>.mpr ⟨_, rfl⟩)
    refine lv_aload_n hx hb dX8_lays_46 rfl (lv_at hl 0 rfl) ?_
    refine z_ic hx hb dX8_lays_47 (by decide) (fun v47 h47 => ?_)
    refine lv_iload_n hx hb dX8_lays_48 rfl (lv_at hl 1 rfl) ?_
    refine z_mulJ hx hb 5 dX8_lays_49 (by omega) (by omega) (fun v49 h49 => ?_)
    refine z_ic hx hb dX8_lays_50 (by decide) (fun v50 h50 => ?_)
    refine z_addE hx hb dX8_lays_51 (by omega) (fun v51 h51 => ?_)
    refine lv_iload_n hx hb dX8_lays_52 rfl (lv_at hl 2 rfl) ?_
    refine lv_iload hx hb dX8_lays_53 (lv_at hl 4 rfl) ?_
    refine z_icmp_ge (tgt := 63) hx hb dX8_lays_55 (by decide) (fun c55 => ?_) (fun c55 => ?_)
    · skip
      refine lv_iload_n hx hb dX8_lays_63 rfl (lv_at hl 2 rfl) ?_
      exact J64 _ _ _ x1 x4 x6 v51 x3 hP hS hO (by omega) (by omega) _ (lv_sub hl [0, 1, 3, 5] rfl)
    · skip
      refine lv_iload hx hb dX8_lays_58 (lv_at hl 4 rfl) ?_
      refine lv_goto (tgt := 64) hx hb dX8_lays_60 (by decide) ?_
      exact J64 _ _ _ x1 x4 x6 v51 x5 hP hS hO (by omega) (by omega) _ (lv_sub hl [0, 1, 3, 5] rfl)
  have J24 : ∀ (H : Heap) (locs : List Loc) (ce : Nat → va_E) (x1 : Int32) (x3 : Int32) (x4 : Int32) (x5 : Int32) (x6 : Int32) (s1 : Int32) (s2 : Int32), va_P D vwCl (zw 34 ad ce) H → va_S (zA 34 ad) s.heap H locs → mOK cy ad cnt nd wn S By Ah ce → (0 ≤ x1.toInt ∧ x1.toInt ≤ 5) → (1 ≤ s1.toInt ∧ s1.toInt ≤ 26) → ∀ ls : Array Slot, lv_has ls 7 [(0, .ref (ad 4)), (1, .int x1), (3, .int x3), (4, .int x4), (5, .int x5), (6, .int x6)] → W p l e { frames := 0, cells := 0, slots := 0, locals := 0 } s m ([.ref (ad 4), .int p1, .int p2, .int p3, .int p4, .int p5, .int p6] : List Value).toArray below meth c H locs 0 0 (MQ below (zQv D 34 ad (fun ce => mOK cy ad cnt nd wn S By Ah ce ∧ (True))) ([.ref (ad 4), .int p1, .int p2, .int p3, .int p4, .int p5, .int p6] : List Value).toArray s 0 0 (zA 34 ad)) (F0 m 24 ls [.int s2, .int s1, .ref (ad 4)]) := by
    intro H locs ce x1 x3 x4 x5 x6 s1 s2 hP hS hO q_x1 q_s1 ls hl
    obtain ⟨f24, e24⟩ := mg_Dr hO
    refine z_iast hx hb hK hJ hP hS (q0 := 4) 0 (by decide) e24 rfl (z_in (by omega) (by omega)) dX8_lays_24 (fun ce H locs e24a h24a hP hS => ?_)
    have hO := z_up (OKK := mK cy ad cnt nd wn S By Ah) 4 hO h24a (by rw [e24a]; exact mE_Dr |>.mpr ⟨_, rfl⟩)
    refine lv_aload_n hx hb dX8_lays_25 rfl (lv_at hl 0 rfl) ?_
    refine z_ic hx hb dX8_lays_26 (by decide) (fun v26 h26 => ?_)
    refine lv_iload_n hx hb dX8_lays_27 rfl (lv_at hl 1 rfl) ?_
    refine z_mulJ hx hb 5 dX8_lays_28 (by omega) (by omega) (fun v28 h28 => ?_)
    refine z_ic hx hb dX8_lays_29 (by decide) (fun v29 h29 => ?_)
    refine z_addE hx hb dX8_lays_30 (by omega) (fun v30 h30 => ?_)
    refine lv_iload hx hb dX8_lays_31 (lv_at hl 3 rfl) ?_
    refine lv_iload hx hb dX8_lays_33 (lv_at hl 5 rfl) ?_
    refine z_icmp_ge (tgt := 43) hx hb dX8_lays_35 (by decide) (fun c35 => ?_) (fun c35 => ?_)
    · skip
      refine lv_iload hx hb dX8_lays_43 (lv_at hl 5 rfl) ?_
      exact J45 _ _ _ x1 x3 x4 x5 x6 v30 x6 hP hS hO (by omega) (by omega) _ (lv_sub hl [0, 1, 2, 3, 4, 5] rfl)
    · skip
      refine lv_iload hx hb dX8_lays_38 (lv_at hl 3 rfl) ?_
      refine lv_goto (tgt := 45) hx hb dX8_lays_40 (by decide) ?_
      exact J45 _ _ _ x1 x3 x4 x5 x6 v30 x4 hP hS hO (by omega) (by omega) _ (lv_sub hl [0, 1, 2, 3, 4, 5] rfl)
  intro ls hl
  have hl : lv_has ls 7 [(0, .ref (ad 4)), (1, .int p1), (2, .int p2), (3, .int p3), (4, .int p4), (5, .int p5), (6, .int p6)] := hl
  refine lv_aload_n hx hb dX8_lays_0 rfl (lv_at hl 0 rfl) ?_
  refine z_ic hx hb dX8_lays_1 (by decide) (fun v1 h1 => ?_)
  refine lv_iload_n hx hb dX8_lays_2 rfl (lv_at hl 1 rfl) ?_
  refine z_mulJ hx hb 5 dX8_lays_3 (by omega) (by omega) (fun v3 h3 => ?_)
  refine lv_iload_n hx hb dX8_lays_4 rfl (lv_at hl 2 rfl) ?_
  obtain ⟨f5, e5⟩ := mg_Dr hO
  refine z_iast hx hb hK hJ hP hS (q0 := 4) 0 (by decide) e5 rfl (z_in (by omega) (by omega)) dX8_lays_5 (fun ce H locs e5a h5a hP hS => ?_)
  have hO := z_up (OKK := mK cy ad cnt nd wn S By Ah) 4 hO h5a (by rw [e5a]; exact mE_Dr |>.mpr ⟨_, rfl⟩)
  refine lv_aload_n hx hb dX8_lays_6 rfl (lv_at hl 0 rfl) ?_
  refine z_ic hx hb dX8_lays_7 (by decide) (fun v7 h7 => ?_)
  refine lv_iload_n hx hb dX8_lays_8 rfl (lv_at hl 1 rfl) ?_
  refine z_mulJ hx hb 5 dX8_lays_9 (by omega) (by omega) (fun v9 h9 => ?_)
  refine z_ic hx hb dX8_lays_10 (by decide) (fun v10 h10 => ?_)
  refine z_addE hx hb dX8_lays_11 (by omega) (fun v11 h11 => ?_)
  refine lv_iload_n hx hb dX8_lays_12 rfl (lv_at hl 3 rfl) ?_
  refine lv_iload hx hb dX8_lays_13 (lv_at hl 5 rfl) ?_
  refine z_icmp_ge (tgt := 22) hx hb dX8_lays_15 (by decide) (fun c15 => ?_) (fun c15 => ?_)
  · skip
    refine lv_iload hx hb dX8_lays_22 (lv_at hl 5 rfl) ?_
    exact J24 _ _ _ p1 p3 p4 p5 p6 v11 p5 hP hS hO (by omega) (by omega) _ (lv_sub hl [0, 1, 3, 4, 5, 6] rfl)
  · skip
    refine lv_iload_n hx hb dX8_lays_18 rfl (lv_at hl 3 rfl) ?_
    refine lv_goto (tgt := 24) hx hb dX8_lays_19 (by decide) ?_
    exact J24 _ _ _ p1 p3 p4 p5 p6 v11 p3 hP hS hO (by omega) (by omega) _ (lv_sub hl [0, 1, 3, 4, 5, 6] rfl)
set_option maxHeartbeats 8000000 in
set_option maxRecDepth 100000 in
theorem c_X8_lays_Lg (l : Launch) (D : va_G) (cy : Nat → ClassId) (ad : Nat → Nat) (cnt : Nat → Nat) (nd : Nat) (wn : Nat) (S : Nat → Int32) (By : Nat → Int32) (Ah : Nat → Int32) (hJ : zJ 34 ad) (p1 : Int32) (p2 : Int32) (p3 : Int32) (p4 : Int32) (p5 : Int32) (p6 : Int32) (q_p1 : 0 ≤ p1.toInt ∧ p1.toInt ≤ 5) : zM l D (mT cy) 34 ad (mOK cy ad cnt nd wn S By Ah) yX8_lays vsX8_lays { frames := 0, cells := 0, slots := 0, locals := 0 } ([.ref (ad 6), .int p1, .int p2, .int p3, .int p4, .int p5, .int p6] : List Value) (zQv D 34 ad (fun ce => mOK cy ad cnt nd wn S By Ah ce ∧ (True))) := by
  refine z_of (cc := cX8_lays) (maxL := 7) (ret := none) (by decide) rfl (Nat.le_of_ble_eq_true rfl) ?_
  intro p e s m below meth c hx hb hr hts hown hlocks hml hK hN ce hOK hP
  have hown : s.vm.findClass RX8 = some m.cls := hown
  have hS : va_S (zA 34 ad) s.heap s.heap [] := va_S.rf
  have hO := hOK
  have J64 : ∀ (H : Heap) (locs : List Loc) (ce : Nat → va_E) (x1 : Int32) (x4 : Int32) (x6 : Int32) (s1 : Int32) (s2 : Int32), va_P D vwCl (zw 34 ad ce) H → va_S (zA 34 ad) s.heap H locs → mOK cy ad cnt nd wn S By Ah ce → (0 ≤ x1.toInt ∧ x1.toInt ≤ 5) → (3 ≤ s1.toInt ∧ s1.toInt ≤ 28) → ∀ ls : Array Slot, lv_has ls 7 [(0, .ref (ad 6)), (1, .int x1), (4, .int x4), (6, .int x6)] → W p l e { frames := 0, cells := 0, slots := 0, locals := 0 } s m ([.ref (ad 6), .int p1, .int p2, .int p3, .int p4, .int p5, .int p6] : List Value).toArray below meth c H locs 0 0 (MQ below (zQv D 34 ad (fun ce => mOK cy ad cnt nd wn S By Ah ce ∧ (True))) ([.ref (ad 6), .int p1, .int p2, .int p3, .int p4, .int p5, .int p6] : List Value).toArray s 0 0 (zA 34 ad)) (F0 m 64 ls [.int s2, .int s1, .ref (ad 6)]) := by
    intro H locs ce x1 x4 x6 s1 s2 hP hS hO q_x1 q_s1 ls hl
    obtain ⟨f64, e64⟩ := mg_Lg hO
    refine z_iast hx hb hK hJ hP hS (q0 := 6) 0 (by decide) e64 rfl (z_in (by omega) (by omega)) dX8_lays_64 (fun ce H locs e64a h64a hP hS => ?_)
    have hO := z_up (OKK := mK cy ad cnt nd wn S By Ah) 6 hO h64a (by rw [e64a]; exact mE_Lg |>.mpr ⟨_, rfl⟩)
    refine lv_aload_n hx hb dX8_lays_65 rfl (lv_at hl 0 rfl) ?_
    refine z_ic hx hb dX8_lays_66 (by decide) (fun v66 h66 => ?_)
    refine lv_iload_n hx hb dX8_lays_67 rfl (lv_at hl 1 rfl) ?_
    refine z_mulJ hx hb 5 dX8_lays_68 (by omega) (by omega) (fun v68 h68 => ?_)
    refine z_ic hx hb dX8_lays_69 (by decide) (fun v69 h69 => ?_)
    refine z_addE hx hb dX8_lays_70 (by omega) (fun v70 h70 => ?_)
    refine lv_iload hx hb dX8_lays_71 (lv_at hl 2 rfl) ?_
    refine lv_iload hx hb dX8_lays_73 (lv_at hl 3 rfl) ?_
    refine z_icmp_ge (tgt := 83) hx hb dX8_lays_75 (by decide) (fun c75 => ?_) (fun c75 => ?_)
    · skip
      refine lv_iload hx hb dX8_lays_83 (lv_at hl 2 rfl) ?_
      obtain ⟨f85, e85⟩ := mg_Lg hO
      refine z_iast hx hb hK hJ hP hS (q0 := 6) 0 (by decide) e85 rfl (z_in (by omega) (by omega)) dX8_lays_85 (fun ce H locs e85a h85a hP hS => ?_)
      have hO := z_up (OKK := mK cy ad cnt nd wn S By Ah) 6 hO h85a (by rw [e85a]; exact mE_Lg |>.mpr ⟨_, rfl⟩)
      exact z_retv hx hb hr hlocks hP hS dX8_lays_86 ⟨hO, trivial⟩
    · skip
      refine lv_iload hx hb dX8_lays_78 (lv_at hl 3 rfl) ?_
      refine lv_goto (tgt := 85) hx hb dX8_lays_80 (by decide) ?_
      obtain ⟨f85, e85⟩ := mg_Lg hO
      refine z_iast hx hb hK hJ hP hS (q0 := 6) 0 (by decide) e85 rfl (z_in (by omega) (by omega)) dX8_lays_85 (fun ce H locs e85a h85a hP hS => ?_)
      have hO := z_up (OKK := mK cy ad cnt nd wn S By Ah) 6 hO h85a (by rw [e85a]; exact mE_Lg |>.mpr ⟨_, rfl⟩)
      exact z_retv hx hb hr hlocks hP hS dX8_lays_86 ⟨hO, trivial⟩
  have J45 : ∀ (H : Heap) (locs : List Loc) (ce : Nat → va_E) (x1 : Int32) (x3 : Int32) (x4 : Int32) (x5 : Int32) (x6 : Int32) (s1 : Int32) (s2 : Int32), va_P D vwCl (zw 34 ad ce) H → va_S (zA 34 ad) s.heap H locs → mOK cy ad cnt nd wn S By Ah ce → (0 ≤ x1.toInt ∧ x1.toInt ≤ 5) → (2 ≤ s1.toInt ∧ s1.toInt ≤ 27) → ∀ ls : Array Slot, lv_has ls 7 [(0, .ref (ad 6)), (1, .int x1), (3, .int x3), (4, .int x4), (5, .int x5), (6, .int x6)] → W p l e { frames := 0, cells := 0, slots := 0, locals := 0 } s m ([.ref (ad 6), .int p1, .int p2, .int p3, .int p4, .int p5, .int p6] : List Value).toArray below meth c H locs 0 0 (MQ below (zQv D 34 ad (fun ce => mOK cy ad cnt nd wn S By Ah ce ∧ (True))) ([.ref (ad 6), .int p1, .int p2, .int p3, .int p4, .int p5, .int p6] : List Value).toArray s 0 0 (zA 34 ad)) (F0 m 45 ls [.int s2, .int s1, .ref (ad 6)]) := by
    intro H locs ce x1 x3 x4 x5 x6 s1 s2 hP hS hO q_x1 q_s1 ls hl
    obtain ⟨f45, e45⟩ := mg_Lg hO
    refine z_iast hx hb hK hJ hP hS (q0 := 6) 0 (by decide) e45 rfl (z_in (by omega) (by omega)) dX8_lays_45 (fun ce H locs e45a h45a hP hS => ?_)
    have hO := z_up (OKK := mK cy ad cnt nd wn S By Ah) 6 hO h45a (by rw [e45a]; exact mE_Lg |>.mpr ⟨_, rfl⟩)
    refine lv_aload_n hx hb dX8_lays_46 rfl (lv_at hl 0 rfl) ?_
    refine z_ic hx hb dX8_lays_47 (by decide) (fun v47 h47 => ?_)
    refine lv_iload_n hx hb dX8_lays_48 rfl (lv_at hl 1 rfl) ?_
    refine z_mulJ hx hb 5 dX8_lays_49 (by omega) (by omega) (fun v49 h49 => ?_)
    refine z_ic hx hb dX8_lays_50 (by decide) (fun v50 h50 => ?_)
    refine z_addE hx hb dX8_lays_51 (by omega) (fun v51 h51 => ?_)
    refine lv_iload_n hx hb dX8_lays_52 rfl (lv_at hl 2 rfl) ?_
    refine lv_iload hx hb dX8_lays_53 (lv_at hl 4 rfl) ?_
    refine z_icmp_ge (tgt := 63) hx hb dX8_lays_55 (by decide) (fun c55 => ?_) (fun c55 => ?_)
    · skip
      refine lv_iload_n hx hb dX8_lays_63 rfl (lv_at hl 2 rfl) ?_
      exact J64 _ _ _ x1 x4 x6 v51 x3 hP hS hO (by omega) (by omega) _ (lv_sub hl [0, 1, 3, 5] rfl)
    · skip
      refine lv_iload hx hb dX8_lays_58 (lv_at hl 4 rfl) ?_
      refine lv_goto (tgt := 64) hx hb dX8_lays_60 (by decide) ?_
      exact J64 _ _ _ x1 x4 x6 v51 x5 hP hS hO (by omega) (by omega) _ (lv_sub hl [0, 1, 3, 5] rfl)
  have J24 : ∀ (H : Heap) (locs : List Loc) (ce : Nat → va_E) (x1 : Int32) (x3 : Int32) (x4 : Int32) (x5 : Int32) (x6 : Int32) (s1 : Int32) (s2 : Int32), va_P D vwCl (zw 34 ad ce) H → va_S (zA 34 ad) s.heap H locs → mOK cy ad cnt nd wn S By Ah ce → (0 ≤ x1.toInt ∧ x1.toInt ≤ 5) → (1 ≤ s1.toInt ∧ s1.toInt ≤ 26) → ∀ ls : Array Slot, lv_has ls 7 [(0, .ref (ad 6)), (1, .int x1), (3, .int x3), (4, .int x4), (5, .int x5), (6, .int x6)] → W p l e { frames := 0, cells := 0, slots := 0, locals := 0 } s m ([.ref (ad 6), .int p1, .int p2, .int p3, .int p4, .int p5, .int p6] : List Value).toArray below meth c H locs 0 0 (MQ below (zQv D 34 ad (fun ce => mOK cy ad cnt nd wn S By Ah ce ∧ (True))) ([.ref (ad 6), .int p1, .int p2, .int p3, .int p4, .int p5, .int p6] : List Value).toArray s 0 0 (zA 34 ad)) (F0 m 24 ls [.int s2, .int s1, .ref (ad 6)]) := by
    intro H locs ce x1 x3 x4 x5 x6 s1 s2 hP hS hO q_x1 q_s1 ls hl
    obtain ⟨f24, e24⟩ := mg_Lg hO
    refine z_iast hx hb hK hJ hP hS (q0 := 6) 0 (by decide) e24 rfl (z_in (by omega) (by omega)) dX8_lays_24 (fun ce H locs e24a h24a hP hS => ?_)
    have hO := z_up (OKK := mK cy ad cnt nd wn S By Ah) 6 hO h24a (by rw [e24a]; exact mE_Lg |>.mpr ⟨_, rfl⟩)
    refine lv_aload_n hx hb dX8_lays_25 rfl (lv_at hl 0 rfl) ?_
    refine z_ic hx hb dX8_lays_26 (by decide) (fun v26 h26 => ?_)
    refine lv_iload_n hx hb dX8_lays_27 rfl (lv_at hl 1 rfl) ?_
    refine z_mulJ hx hb 5 dX8_lays_28 (by omega) (by omega) (fun v28 h28 => ?_)
    refine z_ic hx hb dX8_lays_29 (by decide) (fun v29 h29 => ?_)
    refine z_addE hx hb dX8_lays_30 (by omega) (fun v30 h30 => ?_)
    refine lv_iload hx hb dX8_lays_31 (lv_at hl 3 rfl) ?_
    refine lv_iload hx hb dX8_lays_33 (lv_at hl 5 rfl) ?_
    refine z_icmp_ge (tgt := 43) hx hb dX8_lays_35 (by decide) (fun c35 => ?_) (fun c35 => ?_)
    · skip
      refine lv_iload hx hb dX8_lays_43 (lv_at hl 5 rfl) ?_
      exact J45 _ _ _ x1 x3 x4 x5 x6 v30 x6 hP hS hO (by omega) (by omega) _ (lv_sub hl [0, 1, 2, 3, 4, 5] rfl)
    · skip
      refine lv_iload hx hb dX8_lays_38 (lv_at hl 3 rfl) ?_
      refine lv_goto (tgt := 45) hx hb dX8_lays_40 (by decide) ?_
      exact J45 _ _ _ x1 x3 x4 x5 x6 v30 x4 hP hS hO (by omega) (by omega) _ (lv_sub hl [0, 1, 2, 3, 4, 5] rfl)
  intro ls hl
  have hl : lv_has ls 7 [(0, .ref (ad 6)), (1, .int p1), (2, .int p2), (3, .int p3), (4, .int p4), (5, .int p5), (6, .int p6)] := hl
  refine lv_aload_n hx hb dX8_lays_0 rfl (lv_at hl 0 rfl) ?_
  refine z_ic hx hb dX8_lays_1 (by decide) (fun v1 h1 => ?_)
  refine lv_iload_n hx hb dX8_lays_2 rfl (lv_at hl 1 rfl) ?_
  refine z_mulJ hx hb 5 dX8_lays_3 (by omega) (by omega) (fun v3 h3 => ?_)
  refine lv_iload_n hx hb dX8_lays_4 rfl (lv_at hl 2 rfl) ?_
  obtain ⟨f5, e5⟩ := mg_Lg hO
  refine z_iast hx hb hK hJ hP hS (q0 := 6) 0 (by decide) e5 rfl (z_in (by omega) (by omega)) dX8_lays_5 (fun ce H locs e5a h5a hP hS => ?_)
  have hO := z_up (OKK := mK cy ad cnt nd wn S By Ah) 6 hO h5a (by rw [e5a]; exact mE_Lg |>.mpr ⟨_, rfl⟩)
  refine lv_aload_n hx hb dX8_lays_6 rfl (lv_at hl 0 rfl) ?_
  refine z_ic hx hb dX8_lays_7 (by decide) (fun v7 h7 => ?_)
  refine lv_iload_n hx hb dX8_lays_8 rfl (lv_at hl 1 rfl) ?_
  refine z_mulJ hx hb 5 dX8_lays_9 (by omega) (by omega) (fun v9 h9 => ?_)
  refine z_ic hx hb dX8_lays_10 (by decide) (fun v10 h10 => ?_)
  refine z_addE hx hb dX8_lays_11 (by omega) (fun v11 h11 => ?_)
  refine lv_iload_n hx hb dX8_lays_12 rfl (lv_at hl 3 rfl) ?_
  refine lv_iload hx hb dX8_lays_13 (lv_at hl 5 rfl) ?_
  refine z_icmp_ge (tgt := 22) hx hb dX8_lays_15 (by decide) (fun c15 => ?_) (fun c15 => ?_)
  · skip
    refine lv_iload hx hb dX8_lays_22 (lv_at hl 5 rfl) ?_
    exact J24 _ _ _ p1 p3 p4 p5 p6 v11 p5 hP hS hO (by omega) (by omega) _ (lv_sub hl [0, 1, 3, 4, 5, 6] rfl)
  · skip
    refine lv_iload_n hx hb dX8_lays_18 rfl (lv_at hl 3 rfl) ?_
    refine lv_goto (tgt := 24) hx hb dX8_lays_19 (by decide) ?_
    exact J24 _ _ _ p1 p3 p4 p5 p6 v11 p3 hP hS hO (by omega) (by omega) _ (lv_sub hl [0, 1, 3, 4, 5, 6] rfl)
set_option maxHeartbeats 8000000 in
set_option maxRecDepth 100000 in
theorem c_X8_isInside_Bx (l : Launch) (D : va_G) (cy : Nat → ClassId) (ad : Nat → Nat) (cnt : Nat → Nat) (nd : Nat) (wn : Nat) (S : Nat → Int32) (By : Nat → Int32) (Ah : Nat → Int32) (PP : (Nat → va_E) → Prop) (hJ : zJ 34 ad) (p1 : Int32) (p2 : Int32) (p3 : Int32) (p4 : Int32) (q_p1 : 0 ≤ p1.toInt ∧ p1.toInt ≤ 7) : zM l D (mT cy) 34 ad (fun c1 => mOK cy ad cnt nd wn S By Ah c1 ∧ PP c1) yX8_isInside vsX8_isInside { frames := 0, cells := 0, slots := 0, locals := 0 } ([.ref (ad 3), .int p1, .int p2, .int p3, .int p4] : List Value) (zQi D 34 ad (fun r ce => (mOK cy ad cnt nd wn S By Ah ce ∧ PP ce) ∧ (0 ≤ r.toInt ∧ r.toInt ≤ 1))) := by
  refine z_of (cc := cX8_isInside) (maxL := 5) (ret := (some .boolean)) (by decide) rfl (Nat.le_of_ble_eq_true rfl) ?_
  intro p e s m below meth c hx hb hr hts hown hlocks hml hK hN ce hOK hP
  have hown : s.vm.findClass RX8 = some m.cls := hown
  have hS : va_S (zA 34 ad) s.heap s.heap [] := va_S.rf
  obtain ⟨hO, hPP⟩ := hOK
  intro ls hl
  have hl : lv_has ls 5 [(0, .ref (ad 3)), (1, .int p1), (2, .int p2), (3, .int p3), (4, .int p4)] := hl
  refine lv_aload_n hx hb dX8_isInside_0 rfl (lv_at hl 0 rfl) ?_
  refine z_ic hx hb dX8_isInside_1 (by decide) (fun v1 h1 => ?_)
  refine lv_iload_n hx hb dX8_isInside_2 rfl (lv_at hl 1 rfl) ?_
  refine z_mulJ hx hb 5 dX8_isInside_3 (by omega) (by omega) (fun v3 h3 => ?_)
  obtain ⟨f4, e4⟩ := mg_Bx hO
  refine z_iald hx hb hK hP (q0 := 3) 0 (by decide) e4 rfl (by omega) dX8_isInside_4 (fun v4 h4a => ?_)
  refine lv_iload_n hx hb dX8_isInside_5 rfl (lv_at hl 2 rfl) ?_
  refine z_icmp_ne (tgt := 59) hx hb dX8_isInside_6 (by decide) (fun c6 => ?_) (fun c6 => ?_)
  · skip
    refine z_ic hx hb dX8_isInside_59 (by decide) (fun v59 h59 => ?_)
    exact z_retz hx hb hr hlocks hP hS dX8_isInside_60 (by omega) ⟨⟨hO, hPP⟩, (by omega)⟩
  · skip
    refine lv_iload_n hx hb dX8_isInside_9 rfl (lv_at hl 3 rfl) ?_
    refine lv_aload_n hx hb dX8_isInside_10 rfl (lv_at hl 0 rfl) ?_
    refine z_ic hx hb dX8_isInside_11 (by decide) (fun v11 h11 => ?_)
    refine lv_iload_n hx hb dX8_isInside_12 rfl (lv_at hl 1 rfl) ?_
    refine z_mulJ hx hb 5 dX8_isInside_13 (by omega) (by omega) (fun v13 h13 => ?_)
    refine z_ic hx hb dX8_isInside_14 (by decide) (fun v14 h14 => ?_)
    refine z_addE hx hb dX8_isInside_15 (by omega) (fun v15 h15 => ?_)
    refine z_iald hx hb hK hP (q0 := 3) 0 (by decide) e4 rfl (by omega) dX8_isInside_16 (fun v16 h16 => ?_)
    refine z_icmp_le (tgt := 59) hx hb dX8_isInside_17 (by decide) (fun c17 => ?_) (fun c17 => ?_)
    · skip
      refine z_ic hx hb dX8_isInside_59 (by decide) (fun v59 h59 => ?_)
      exact z_retz hx hb hr hlocks hP hS dX8_isInside_60 (by omega) ⟨⟨hO, hPP⟩, (by omega)⟩
    · skip
      refine lv_iload_n hx hb dX8_isInside_20 rfl (lv_at hl 3 rfl) ?_
      refine lv_aload_n hx hb dX8_isInside_21 rfl (lv_at hl 0 rfl) ?_
      refine z_ic hx hb dX8_isInside_22 (by decide) (fun v22 h22 => ?_)
      refine lv_iload_n hx hb dX8_isInside_23 rfl (lv_at hl 1 rfl) ?_
      refine z_mulJ hx hb 5 dX8_isInside_24 (by omega) (by omega) (fun v24 h24 => ?_)
      refine z_ic hx hb dX8_isInside_25 (by decide) (fun v25 h25 => ?_)
      refine z_addE hx hb dX8_isInside_26 (by omega) (fun v26 h26 => ?_)
      refine z_iald hx hb hK hP (q0 := 3) 0 (by decide) e4 rfl (by omega) dX8_isInside_27 (fun v27 h27 => ?_)
      refine z_icmp_ge (tgt := 59) hx hb dX8_isInside_28 (by decide) (fun c28 => ?_) (fun c28 => ?_)
      · skip
        refine z_ic hx hb dX8_isInside_59 (by decide) (fun v59 h59 => ?_)
        exact z_retz hx hb hr hlocks hP hS dX8_isInside_60 (by omega) ⟨⟨hO, hPP⟩, (by omega)⟩
      · skip
        refine lv_iload hx hb dX8_isInside_31 (lv_at hl 4 rfl) ?_
        refine lv_aload_n hx hb dX8_isInside_33 rfl (lv_at hl 0 rfl) ?_
        refine z_ic hx hb dX8_isInside_34 (by decide) (fun v34 h34 => ?_)
        refine lv_iload_n hx hb dX8_isInside_35 rfl (lv_at hl 1 rfl) ?_
        refine z_mulJ hx hb 5 dX8_isInside_36 (by omega) (by omega) (fun v36 h36 => ?_)
        refine z_ic hx hb dX8_isInside_37 (by decide) (fun v37 h37 => ?_)
        refine z_addE hx hb dX8_isInside_38 (by omega) (fun v38 h38 => ?_)
        refine z_iald hx hb hK hP (q0 := 3) 0 (by decide) e4 rfl (by omega) dX8_isInside_39 (fun v39 h39 => ?_)
        refine z_icmp_le (tgt := 59) hx hb dX8_isInside_40 (by decide) (fun c40 => ?_) (fun c40 => ?_)
        · skip
          refine z_ic hx hb dX8_isInside_59 (by decide) (fun v59 h59 => ?_)
          exact z_retz hx hb hr hlocks hP hS dX8_isInside_60 (by omega) ⟨⟨hO, hPP⟩, (by omega)⟩
        · skip
          refine lv_iload hx hb dX8_isInside_43 (lv_at hl 4 rfl) ?_
          refine lv_aload_n hx hb dX8_isInside_45 rfl (lv_at hl 0 rfl) ?_
          refine z_ic hx hb dX8_isInside_46 (by decide) (fun v46 h46 => ?_)
          refine lv_iload_n hx hb dX8_isInside_47 rfl (lv_at hl 1 rfl) ?_
          refine z_mulJ hx hb 5 dX8_isInside_48 (by omega) (by omega) (fun v48 h48 => ?_)
          refine z_ic hx hb dX8_isInside_49 (by decide) (fun v49 h49 => ?_)
          refine z_addE hx hb dX8_isInside_50 (by omega) (fun v50 h50 => ?_)
          refine z_iald hx hb hK hP (q0 := 3) 0 (by decide) e4 rfl (by omega) dX8_isInside_51 (fun v51 h51 => ?_)
          refine z_icmp_ge (tgt := 59) hx hb dX8_isInside_52 (by decide) (fun c52 => ?_) (fun c52 => ?_)
          · skip
            refine z_ic hx hb dX8_isInside_59 (by decide) (fun v59 h59 => ?_)
            exact z_retz hx hb hr hlocks hP hS dX8_isInside_60 (by omega) ⟨⟨hO, hPP⟩, (by omega)⟩
          · skip
            refine z_ic hx hb dX8_isInside_55 (by decide) (fun v55 h55 => ?_)
            refine lv_goto (tgt := 60) hx hb dX8_isInside_56 (by decide) ?_
            exact z_retz hx hb hr hlocks hP hS dX8_isInside_60 (by omega) ⟨⟨hO, hPP⟩, (by omega)⟩
set_option maxHeartbeats 8000000 in
set_option maxRecDepth 100000 in
theorem c_X8_isOn_Rm (l : Launch) (D : va_G) (cy : Nat → ClassId) (ad : Nat → Nat) (cnt : Nat → Nat) (nd : Nat) (wn : Nat) (S : Nat → Int32) (By : Nat → Int32) (Ah : Nat → Int32) (PP : (Nat → va_E) → Prop) (hJ : zJ 34 ad) (p1 : Int32) (p2 : Int32) (p3 : Int32) (p4 : Int32) (q_p1 : 0 ≤ p1.toInt ∧ p1.toInt ≤ 11) : zM l D (mT cy) 34 ad (fun c1 => mOK cy ad cnt nd wn S By Ah c1 ∧ PP c1) yX8_isOn vsX8_isOn { frames := 1, cells := 0, slots := 0, locals := 22 } ([.ref (ad 1), .int p1, .int p2, .int p3, .int p4] : List Value) (zQi D 34 ad (fun r ce => (mOK cy ad cnt nd wn S By Ah ce ∧ PP ce) ∧ (0 ≤ r.toInt ∧ r.toInt ≤ 1))) := by
  refine z_of (cc := cX8_isOn) (maxL := 5) (ret := (some .boolean)) (by decide) rfl (Nat.le_of_ble_eq_true rfl) ?_
  intro p e s m below meth c hx hb hr hts hown hlocks hml hK hN ce hOK hP
  have hown : s.vm.findClass RX8 = some m.cls := hown
  have hS : va_S (zA 34 ad) s.heap s.heap [] := va_S.rf
  obtain ⟨hO, hPP⟩ := hOK
  intro ls hl
  have hl : lv_has ls 5 [(0, .ref (ad 1)), (1, .int p1), (2, .int p2), (3, .int p3), (4, .int p4)] := hl
  refine lv_aload_n hx hb dX8_isOn_0 rfl (lv_at hl 0 rfl) ?_
  refine z_ic hx hb dX8_isOn_1 (by decide) (fun v1 h1 => ?_)
  refine lv_iload_n hx hb dX8_isOn_2 rfl (lv_at hl 1 rfl) ?_
  refine z_mulJ hx hb 5 dX8_isOn_3 (by omega) (by omega) (fun v3 h3 => ?_)
  obtain ⟨f4, e4⟩ := mg_Rm hO
  refine z_iald hx hb hK hP (q0 := 1) 0 (by decide) e4 rfl (by omega) dX8_isOn_4 (fun v4 h4a => ?_)
  refine lv_iload_n hx hb dX8_isOn_5 rfl (lv_at hl 2 rfl) ?_
  refine z_icmp_ne (tgt := 56) hx hb dX8_isOn_6 (by decide) (fun c6 => ?_) (fun c6 => ?_)
  · skip
    refine z_ic hx hb dX8_isOn_56 (by decide) (fun v56 h56 => ?_)
    exact z_retz hx hb hr hlocks hP hS dX8_isOn_57 (by omega) ⟨⟨hO, hPP⟩, (by omega)⟩
  · skip
    refine lv_iload_n hx hb dX8_isOn_9 rfl (lv_at hl 3 rfl) ?_
    refine lv_aload_n hx hb dX8_isOn_10 rfl (lv_at hl 0 rfl) ?_
    refine z_ic hx hb dX8_isOn_11 (by decide) (fun v11 h11 => ?_)
    refine lv_iload_n hx hb dX8_isOn_12 rfl (lv_at hl 1 rfl) ?_
    refine z_mulJ hx hb 5 dX8_isOn_13 (by omega) (by omega) (fun v13 h13 => ?_)
    refine z_ic hx hb dX8_isOn_14 (by decide) (fun v14 h14 => ?_)
    refine z_addE hx hb dX8_isOn_15 (by omega) (fun v15 h15 => ?_)
    refine z_iald hx hb hK hP (q0 := 1) 0 (by decide) e4 rfl (by omega) dX8_isOn_16 (fun v16 h16 => ?_)
    refine lv_aload_n hx hb dX8_isOn_17 rfl (lv_at hl 0 rfl) ?_
    refine z_ic hx hb dX8_isOn_18 (by decide) (fun v18 h18 => ?_)
    refine lv_iload_n hx hb dX8_isOn_19 rfl (lv_at hl 1 rfl) ?_
    refine z_mulJ hx hb 5 dX8_isOn_20 (by omega) (by omega) (fun v20 h20 => ?_)
    refine z_ic hx hb dX8_isOn_21 (by decide) (fun v21 h21 => ?_)
    refine z_addE hx hb dX8_isOn_22 (by omega) (fun v22 h22 => ?_)
    refine z_iald hx hb hK hP (q0 := 1) 0 (by decide) e4 rfl (by omega) dX8_isOn_23 (fun v23 h23 => ?_)
    refine z_ciP (z_rS (As := [.int p3, .int v16, .int v23]) (rest := []) ⟨hx, hb, hml, hown, hts⟩ (c_X8_in l D (mT cy) 34 ad (fun c1 => c1 = ce) p3 v16 v23) (va_cwS 3 hts (g_S mw_322 mw_323 mw_324 mw_325) rfl rfl rfl (by decide +kernel) ⟨Nat.le_of_ble_eq_true rfl, Nat.le_of_ble_eq_true rfl⟩) hK hN rfl hP rfl hl.1 rfl (Nat.le_of_ble_eq_true rfl) dX8_isOn_24 ⟨Nat.zero_le _, Nat.zero_le _⟩) hS (fun _ h => h) (fun v24 H locs h24 hP hS => ?_)
    refine z_if_eq (tgt := 56) hx hb dX8_isOn_27 (by decide) (fun c27 => ?_) (fun c27 => ?_)
    · skip
      refine z_ic hx hb dX8_isOn_56 (by decide) (fun v56 h56 => ?_)
      exact z_retz hx hb hr hlocks hP hS dX8_isOn_57 (by omega) ⟨⟨hO, hPP⟩, (by omega)⟩
    · skip
      refine lv_iload hx hb dX8_isOn_30 (lv_at hl 4 rfl) ?_
      refine lv_aload_n hx hb dX8_isOn_32 rfl (lv_at hl 0 rfl) ?_
      refine z_ic hx hb dX8_isOn_33 (by decide) (fun v33 h33 => ?_)
      refine lv_iload_n hx hb dX8_isOn_34 rfl (lv_at hl 1 rfl) ?_
      refine z_mulJ hx hb 5 dX8_isOn_35 (by omega) (by omega) (fun v35 h35 => ?_)
      refine z_ic hx hb dX8_isOn_36 (by decide) (fun v36 h36 => ?_)
      refine z_addE hx hb dX8_isOn_37 (by omega) (fun v37 h37 => ?_)
      refine z_iald hx hb hK hP (q0 := 1) 0 (by decide) e4 rfl (by omega) dX8_isOn_38 (fun v38 h38 => ?_)
      refine lv_aload_n hx hb dX8_isOn_39 rfl (lv_at hl 0 rfl) ?_
      refine z_ic hx hb dX8_isOn_40 (by decide) (fun v40 h40 => ?_)
      refine lv_iload_n hx hb dX8_isOn_41 rfl (lv_at hl 1 rfl) ?_
      refine z_mulJ hx hb 5 dX8_isOn_42 (by omega) (by omega) (fun v42 h42 => ?_)
      refine z_ic hx hb dX8_isOn_43 (by decide) (fun v43 h43 => ?_)
      refine z_addE hx hb dX8_isOn_44 (by omega) (fun v44 h44 => ?_)
      refine z_iald hx hb hK hP (q0 := 1) 0 (by decide) e4 rfl (by omega) dX8_isOn_45 (fun v45 h45 => ?_)
      refine z_ciP (z_rS (As := [.int p4, .int v38, .int v45]) (rest := []) ⟨hx, hb, hml, hown, hts⟩ (c_X8_in l D (mT cy) 34 ad (fun c1 => c1 = ce) p4 v38 v45) (va_cwS 3 hts (g_S mw_322 mw_323 mw_324 mw_325) rfl rfl rfl (by decide +kernel) ⟨Nat.le_of_ble_eq_true rfl, Nat.le_of_ble_eq_true rfl⟩) hK hN rfl hP rfl hl.1 rfl (Nat.le_of_ble_eq_true rfl) dX8_isOn_46 ⟨Nat.zero_le _, Nat.zero_le _⟩) hS (fun _ h => h) (fun v46 H locs h46 hP hS => ?_)
      refine z_if_eq (tgt := 56) hx hb dX8_isOn_49 (by decide) (fun c49 => ?_) (fun c49 => ?_)
      · skip
        refine z_ic hx hb dX8_isOn_56 (by decide) (fun v56 h56 => ?_)
        exact z_retz hx hb hr hlocks hP hS dX8_isOn_57 (by omega) ⟨⟨hO, hPP⟩, (by omega)⟩
      · skip
        refine z_ic hx hb dX8_isOn_52 (by decide) (fun v52 h52 => ?_)
        refine lv_goto (tgt := 57) hx hb dX8_isOn_53 (by decide) ?_
        exact z_retz hx hb hr hlocks hP hS dX8_isOn_57 (by omega) ⟨⟨hO, hPP⟩, (by omega)⟩
set_option maxHeartbeats 8000000 in
set_option maxRecDepth 100000 in
theorem c_X8_isOn_Dr (l : Launch) (D : va_G) (cy : Nat → ClassId) (ad : Nat → Nat) (cnt : Nat → Nat) (nd : Nat) (wn : Nat) (S : Nat → Int32) (By : Nat → Int32) (Ah : Nat → Int32) (PP : (Nat → va_E) → Prop) (hJ : zJ 34 ad) (p1 : Int32) (p2 : Int32) (p3 : Int32) (p4 : Int32) (q_p1 : 0 ≤ p1.toInt ∧ p1.toInt ≤ 5) : zM l D (mT cy) 34 ad (fun c1 => mOK cy ad cnt nd wn S By Ah c1 ∧ PP c1) yX8_isOn vsX8_isOn { frames := 1, cells := 0, slots := 0, locals := 22 } ([.ref (ad 4), .int p1, .int p2, .int p3, .int p4] : List Value) (zQi D 34 ad (fun r ce => (mOK cy ad cnt nd wn S By Ah ce ∧ PP ce) ∧ (0 ≤ r.toInt ∧ r.toInt ≤ 1))) := by
  refine z_of (cc := cX8_isOn) (maxL := 5) (ret := (some .boolean)) (by decide) rfl (Nat.le_of_ble_eq_true rfl) ?_
  intro p e s m below meth c hx hb hr hts hown hlocks hml hK hN ce hOK hP
  have hown : s.vm.findClass RX8 = some m.cls := hown
  have hS : va_S (zA 34 ad) s.heap s.heap [] := va_S.rf
  obtain ⟨hO, hPP⟩ := hOK
  intro ls hl
  have hl : lv_has ls 5 [(0, .ref (ad 4)), (1, .int p1), (2, .int p2), (3, .int p3), (4, .int p4)] := hl
  refine lv_aload_n hx hb dX8_isOn_0 rfl (lv_at hl 0 rfl) ?_
  refine z_ic hx hb dX8_isOn_1 (by decide) (fun v1 h1 => ?_)
  refine lv_iload_n hx hb dX8_isOn_2 rfl (lv_at hl 1 rfl) ?_
  refine z_mulJ hx hb 5 dX8_isOn_3 (by omega) (by omega) (fun v3 h3 => ?_)
  obtain ⟨f4, e4⟩ := mg_Dr hO
  refine z_iald hx hb hK hP (q0 := 4) 0 (by decide) e4 rfl (by omega) dX8_isOn_4 (fun v4 h4a => ?_)
  refine lv_iload_n hx hb dX8_isOn_5 rfl (lv_at hl 2 rfl) ?_
  refine z_icmp_ne (tgt := 56) hx hb dX8_isOn_6 (by decide) (fun c6 => ?_) (fun c6 => ?_)
  · skip
    refine z_ic hx hb dX8_isOn_56 (by decide) (fun v56 h56 => ?_)
    exact z_retz hx hb hr hlocks hP hS dX8_isOn_57 (by omega) ⟨⟨hO, hPP⟩, (by omega)⟩
  · skip
    refine lv_iload_n hx hb dX8_isOn_9 rfl (lv_at hl 3 rfl) ?_
    refine lv_aload_n hx hb dX8_isOn_10 rfl (lv_at hl 0 rfl) ?_
    refine z_ic hx hb dX8_isOn_11 (by decide) (fun v11 h11 => ?_)
    refine lv_iload_n hx hb dX8_isOn_12 rfl (lv_at hl 1 rfl) ?_
    refine z_mulJ hx hb 5 dX8_isOn_13 (by omega) (by omega) (fun v13 h13 => ?_)
    refine z_ic hx hb dX8_isOn_14 (by decide) (fun v14 h14 => ?_)
    refine z_addE hx hb dX8_isOn_15 (by omega) (fun v15 h15 => ?_)
    refine z_iald hx hb hK hP (q0 := 4) 0 (by decide) e4 rfl (by omega) dX8_isOn_16 (fun v16 h16 => ?_)
    refine lv_aload_n hx hb dX8_isOn_17 rfl (lv_at hl 0 rfl) ?_
    refine z_ic hx hb dX8_isOn_18 (by decide) (fun v18 h18 => ?_)
    refine lv_iload_n hx hb dX8_isOn_19 rfl (lv_at hl 1 rfl) ?_
    refine z_mulJ hx hb 5 dX8_isOn_20 (by omega) (by omega) (fun v20 h20 => ?_)
    refine z_ic hx hb dX8_isOn_21 (by decide) (fun v21 h21 => ?_)
    refine z_addE hx hb dX8_isOn_22 (by omega) (fun v22 h22 => ?_)
    refine z_iald hx hb hK hP (q0 := 4) 0 (by decide) e4 rfl (by omega) dX8_isOn_23 (fun v23 h23 => ?_)
    refine z_ciP (z_rS (As := [.int p3, .int v16, .int v23]) (rest := []) ⟨hx, hb, hml, hown, hts⟩ (c_X8_in l D (mT cy) 34 ad (fun c1 => c1 = ce) p3 v16 v23) (va_cwS 3 hts (g_S mw_322 mw_323 mw_324 mw_325) rfl rfl rfl (by decide +kernel) ⟨Nat.le_of_ble_eq_true rfl, Nat.le_of_ble_eq_true rfl⟩) hK hN rfl hP rfl hl.1 rfl (Nat.le_of_ble_eq_true rfl) dX8_isOn_24 ⟨Nat.zero_le _, Nat.zero_le _⟩) hS (fun _ h => h) (fun v24 H locs h24 hP hS => ?_)
    refine z_if_eq (tgt := 56) hx hb dX8_isOn_27 (by decide) (fun c27 => ?_) (fun c27 => ?_)
    · skip
      refine z_ic hx hb dX8_isOn_56 (by decide) (fun v56 h56 => ?_)
      exact z_retz hx hb hr hlocks hP hS dX8_isOn_57 (by omega) ⟨⟨hO, hPP⟩, (by omega)⟩
    · skip
      refine lv_iload hx hb dX8_isOn_30 (lv_at hl 4 rfl) ?_
      refine lv_aload_n hx hb dX8_isOn_32 rfl (lv_at hl 0 rfl) ?_
      refine z_ic hx hb dX8_isOn_33 (by decide) (fun v33 h33 => ?_)
      refine lv_iload_n hx hb dX8_isOn_34 rfl (lv_at hl 1 rfl) ?_
      refine z_mulJ hx hb 5 dX8_isOn_35 (by omega) (by omega) (fun v35 h35 => ?_)
      refine z_ic hx hb dX8_isOn_36 (by decide) (fun v36 h36 => ?_)
      refine z_addE hx hb dX8_isOn_37 (by omega) (fun v37 h37 => ?_)
      refine z_iald hx hb hK hP (q0 := 4) 0 (by decide) e4 rfl (by omega) dX8_isOn_38 (fun v38 h38 => ?_)
      refine lv_aload_n hx hb dX8_isOn_39 rfl (lv_at hl 0 rfl) ?_
      refine z_ic hx hb dX8_isOn_40 (by decide) (fun v40 h40 => ?_)
      refine lv_iload_n hx hb dX8_isOn_41 rfl (lv_at hl 1 rfl) ?_
      refine z_mulJ hx hb 5 dX8_isOn_42 (by omega) (by omega) (fun v42 h42 => ?_)
      refine z_ic hx hb dX8_isOn_43 (by decide) (fun v43 h43 => ?_)
      refine z_addE hx hb dX8_isOn_44 (by omega) (fun v44 h44 => ?_)
      refine z_iald hx hb hK hP (q0 := 4) 0 (by decide) e4 rfl (by omega) dX8_isOn_45 (fun v45 h45 => ?_)
      refine z_ciP (z_rS (As := [.int p4, .int v38, .int v45]) (rest := []) ⟨hx, hb, hml, hown, hts⟩ (c_X8_in l D (mT cy) 34 ad (fun c1 => c1 = ce) p4 v38 v45) (va_cwS 3 hts (g_S mw_322 mw_323 mw_324 mw_325) rfl rfl rfl (by decide +kernel) ⟨Nat.le_of_ble_eq_true rfl, Nat.le_of_ble_eq_true rfl⟩) hK hN rfl hP rfl hl.1 rfl (Nat.le_of_ble_eq_true rfl) dX8_isOn_46 ⟨Nat.zero_le _, Nat.zero_le _⟩) hS (fun _ h => h) (fun v46 H locs h46 hP hS => ?_)
      refine z_if_eq (tgt := 56) hx hb dX8_isOn_49 (by decide) (fun c49 => ?_) (fun c49 => ?_)
      · skip
        refine z_ic hx hb dX8_isOn_56 (by decide) (fun v56 h56 => ?_)
        exact z_retz hx hb hr hlocks hP hS dX8_isOn_57 (by omega) ⟨⟨hO, hPP⟩, (by omega)⟩
      · skip
        refine z_ic hx hb dX8_isOn_52 (by decide) (fun v52 h52 => ?_)
        refine lv_goto (tgt := 57) hx hb dX8_isOn_53 (by decide) ?_
        exact z_retz hx hb hr hlocks hP hS dX8_isOn_57 (by omega) ⟨⟨hO, hPP⟩, (by omega)⟩
