set_option maxHeartbeats 8000000 in
set_option maxRecDepth 100000 in
theorem c_X7_isPlace (l : Launch) (D : va_G) (tys : List (ClassId × FieldType)) (n : Nat) (ad : Nat → Nat) (OK : (Nat → va_E) → Prop) (p0 : Int32) (p1 : Int32) (p2 : Int32) : zM l D tys n ad OK yX7_isPlace vsX7_isPlace { frames := 0, cells := 0, slots := 0, locals := 0 } ([.int p0, .int p1, .int p2] : List Value) (zQi D n ad (fun r ce => OK ce ∧ ((r.toInt = 1 ∧ (0 ≤ p0.toInt ∧ p0.toInt ≤ 2 ∧ 0 ≤ p1.toInt ∧ p1.toInt ≤ 100 ∧ 0 ≤ p2.toInt ∧ p2.toInt ≤ 100)) ∨ (r.toInt = 0 ∧ ¬ (0 ≤ p0.toInt ∧ p0.toInt ≤ 2 ∧ 0 ≤ p1.toInt ∧ p1.toInt ≤ 100 ∧ 0 ≤ p2.toInt ∧ p2.toInt ≤ 100))))) := by
  refine z_of (cc := cX7_isPlace) (maxL := 3) (ret := (some .boolean)) (by decide) rfl (Nat.le_of_ble_eq_true rfl) ?_
  intro p e s m below meth c hx hb hr hts hown hlocks hml hK hN ce hOK hP
  have hown : s.vm.findClass RX7 = some m.cls := hown
  have hS : va_S (zA n ad) s.heap s.heap [] := va_S.rf
  intro ls hl
  have hl : lv_has ls 3 [(0, .int p0), (1, .int p1), (2, .int p2)] := hl
  refine lv_iload_n hx hb dX7_isPlace_0 rfl (lv_at hl 0 rfl) ?_
  refine z_if_lt (tgt := 33) hx hb dX7_isPlace_1 (by decide) (fun c1 => ?_) (fun c1 => ?_)
  · skip
    refine z_ic hx hb dX7_isPlace_33 (by decide) (fun v33 h33 => ?_)
    exact z_retz hx hb hr hlocks hP hS dX7_isPlace_34 (by omega) ⟨hOK, (by omega)⟩
  · skip
    refine lv_iload_n hx hb dX7_isPlace_4 rfl (lv_at hl 0 rfl) ?_
    refine z_ic hx hb dX7_isPlace_5 (by decide) (fun v5 h5 => ?_)
    refine z_icmp_ge (tgt := 33) hx hb dX7_isPlace_6 (by decide) (fun c6 => ?_) (fun c6 => ?_)
    · skip
      refine z_ic hx hb dX7_isPlace_33 (by decide) (fun v33 h33 => ?_)
      exact z_retz hx hb hr hlocks hP hS dX7_isPlace_34 (by omega) ⟨hOK, (by omega)⟩
    · skip
      refine lv_iload_n hx hb dX7_isPlace_9 rfl (lv_at hl 1 rfl) ?_
      refine z_if_lt (tgt := 33) hx hb dX7_isPlace_10 (by decide) (fun c10 => ?_) (fun c10 => ?_)
      · skip
        refine z_ic hx hb dX7_isPlace_33 (by decide) (fun v33 h33 => ?_)
        exact z_retz hx hb hr hlocks hP hS dX7_isPlace_34 (by omega) ⟨hOK, (by omega)⟩
      · skip
        refine lv_iload_n hx hb dX7_isPlace_13 rfl (lv_at hl 1 rfl) ?_
        refine z_bi hx hb dX7_isPlace_14 (by decide) (fun v14 h14 => ?_)
        refine z_icmp_gt (tgt := 33) hx hb dX7_isPlace_16 (by decide) (fun c16 => ?_) (fun c16 => ?_)
        · skip
          refine z_ic hx hb dX7_isPlace_33 (by decide) (fun v33 h33 => ?_)
          exact z_retz hx hb hr hlocks hP hS dX7_isPlace_34 (by omega) ⟨hOK, (by omega)⟩
        · skip
          refine lv_iload_n hx hb dX7_isPlace_19 rfl (lv_at hl 2 rfl) ?_
          refine z_if_lt (tgt := 33) hx hb dX7_isPlace_20 (by decide) (fun c20 => ?_) (fun c20 => ?_)
          · skip
            refine z_ic hx hb dX7_isPlace_33 (by decide) (fun v33 h33 => ?_)
            exact z_retz hx hb hr hlocks hP hS dX7_isPlace_34 (by omega) ⟨hOK, (by omega)⟩
          · skip
            refine lv_iload_n hx hb dX7_isPlace_23 rfl (lv_at hl 2 rfl) ?_
            refine z_bi hx hb dX7_isPlace_24 (by decide) (fun v24 h24 => ?_)
            refine z_icmp_gt (tgt := 33) hx hb dX7_isPlace_26 (by decide) (fun c26 => ?_) (fun c26 => ?_)
            · skip
              refine z_ic hx hb dX7_isPlace_33 (by decide) (fun v33 h33 => ?_)
              exact z_retz hx hb hr hlocks hP hS dX7_isPlace_34 (by omega) ⟨hOK, (by omega)⟩
            · skip
              refine z_ic hx hb dX7_isPlace_29 (by decide) (fun v29 h29 => ?_)
              refine lv_goto (tgt := 34) hx hb dX7_isPlace_30 (by decide) ?_
              exact z_retz hx hb hr hlocks hP hS dX7_isPlace_34 (by omega) ⟨hOK, (by omega)⟩
set_option maxHeartbeats 8000000 in
set_option maxRecDepth 100000 in
theorem c_X7_isRectangle (l : Launch) (D : va_G) (tys : List (ClassId × FieldType)) (n : Nat) (ad : Nat → Nat) (OK : (Nat → va_E) → Prop) (p0 : Int32) (p1 : Int32) (p2 : Int32) (p3 : Int32) (p4 : Int32) : zM l D tys n ad OK yX7_isRectangle vsX7_isRectangle { frames := 1, cells := 0, slots := 0, locals := 22 } ([.int p0, .int p1, .int p2, .int p3, .int p4] : List Value) (zQi D n ad (fun r ce => OK ce ∧ ((r.toInt = 1 ∧ (0 ≤ p0.toInt ∧ p0.toInt ≤ 2 ∧ 0 ≤ p1.toInt ∧ p1.toInt ≤ 100 ∧ 0 ≤ p2.toInt ∧ p2.toInt ≤ 100 ∧ 0 ≤ p0.toInt ∧ p0.toInt ≤ 2 ∧ 0 ≤ p3.toInt ∧ p3.toInt ≤ 100 ∧ 0 ≤ p4.toInt ∧ p4.toInt ≤ 100 ∧ p1.toInt < p3.toInt ∧ p2.toInt < p4.toInt)) ∨ (r.toInt = 0 ∧ ¬ (0 ≤ p0.toInt ∧ p0.toInt ≤ 2 ∧ 0 ≤ p1.toInt ∧ p1.toInt ≤ 100 ∧ 0 ≤ p2.toInt ∧ p2.toInt ≤ 100 ∧ 0 ≤ p0.toInt ∧ p0.toInt ≤ 2 ∧ 0 ≤ p3.toInt ∧ p3.toInt ≤ 100 ∧ 0 ≤ p4.toInt ∧ p4.toInt ≤ 100 ∧ p1.toInt < p3.toInt ∧ p2.toInt < p4.toInt))))) := by
  refine z_of (cc := cX7_isRectangle) (maxL := 5) (ret := (some .boolean)) (by decide) rfl (Nat.le_of_ble_eq_true rfl) ?_
  intro p e s m below meth c hx hb hr hts hown hlocks hml hK hN ce hOK hP
  have hown : s.vm.findClass RX7 = some m.cls := hown
  have hS : va_S (zA n ad) s.heap s.heap [] := va_S.rf
  intro ls hl
  have hl : lv_has ls 5 [(0, .int p0), (1, .int p1), (2, .int p2), (3, .int p3), (4, .int p4)] := hl
  refine lv_iload_n hx hb dX7_isRectangle_0 rfl (lv_at hl 0 rfl) ?_
  refine lv_iload_n hx hb dX7_isRectangle_1 rfl (lv_at hl 1 rfl) ?_
  refine lv_iload_n hx hb dX7_isRectangle_2 rfl (lv_at hl 2 rfl) ?_
  refine z_ciP (z_rS (As := [.int p0, .int p1, .int p2]) (rest := []) ⟨hx, hb, hml, hown, hts⟩ (c_X7_isPlace l D tys n ad (fun c1 => c1 = ce) p0 p1 p2) (va_cwS 3 hts (g_S mw_0 mw_1 mw_2 mw_3) rfl rfl rfl (by decide +kernel) ⟨Nat.le_of_ble_eq_true rfl, Nat.le_of_ble_eq_true rfl⟩) hK hN rfl hP rfl hl.1 rfl (Nat.le_of_ble_eq_true rfl) dX7_isRectangle_3 ⟨Nat.zero_le _, Nat.zero_le _⟩) hS (fun _ h => h) (fun v3 H locs h3 hP hS => ?_)
  refine z_if_eq (tgt := 34) hx hb dX7_isRectangle_6 (by decide) (fun c6 => ?_) (fun c6 => ?_)
  · skip
    refine z_ic hx hb dX7_isRectangle_34 (by decide) (fun v34 h34 => ?_)
    exact z_retz hx hb hr hlocks hP hS dX7_isRectangle_35 (by omega) ⟨hOK, (by omega)⟩
  · skip
    refine lv_iload_n hx hb dX7_isRectangle_9 rfl (lv_at hl 0 rfl) ?_
    refine lv_iload_n hx hb dX7_isRectangle_10 rfl (lv_at hl 3 rfl) ?_
    refine lv_iload hx hb dX7_isRectangle_11 (lv_at hl 4 rfl) ?_
    refine z_ciP (z_rS (As := [.int p0, .int p3, .int p4]) (rest := []) ⟨hx, hb, hml, hown, hts⟩ (c_X7_isPlace l D tys n ad (fun c1 => c1 = ce) p0 p3 p4) (va_cwS 3 hts (g_S mw_0 mw_1 mw_2 mw_3) rfl rfl rfl (by decide +kernel) ⟨Nat.le_of_ble_eq_true rfl, Nat.le_of_ble_eq_true rfl⟩) hK hN rfl hP rfl hl.1 rfl (Nat.le_of_ble_eq_true rfl) dX7_isRectangle_13 ⟨Nat.zero_le _, Nat.zero_le _⟩) hS (fun _ h => h) (fun v13 H locs h13 hP hS => ?_)
    refine z_if_eq (tgt := 34) hx hb dX7_isRectangle_16 (by decide) (fun c16 => ?_) (fun c16 => ?_)
    · skip
      refine z_ic hx hb dX7_isRectangle_34 (by decide) (fun v34 h34 => ?_)
      exact z_retz hx hb hr hlocks hP hS dX7_isRectangle_35 (by omega) ⟨hOK, (by omega)⟩
    · skip
      refine lv_iload_n hx hb dX7_isRectangle_19 rfl (lv_at hl 1 rfl) ?_
      refine lv_iload_n hx hb dX7_isRectangle_20 rfl (lv_at hl 3 rfl) ?_
      refine z_icmp_ge (tgt := 34) hx hb dX7_isRectangle_21 (by decide) (fun c21 => ?_) (fun c21 => ?_)
      · skip
        refine z_ic hx hb dX7_isRectangle_34 (by decide) (fun v34 h34 => ?_)
        exact z_retz hx hb hr hlocks hP hS dX7_isRectangle_35 (by omega) ⟨hOK, (by omega)⟩
      · skip
        refine lv_iload_n hx hb dX7_isRectangle_24 rfl (lv_at hl 2 rfl) ?_
        refine lv_iload hx hb dX7_isRectangle_25 (lv_at hl 4 rfl) ?_
        refine z_icmp_ge (tgt := 34) hx hb dX7_isRectangle_27 (by decide) (fun c27 => ?_) (fun c27 => ?_)
        · skip
          refine z_ic hx hb dX7_isRectangle_34 (by decide) (fun v34 h34 => ?_)
          exact z_retz hx hb hr hlocks hP hS dX7_isRectangle_35 (by omega) ⟨hOK, (by omega)⟩
        · skip
          refine z_ic hx hb dX7_isRectangle_30 (by decide) (fun v30 h30 => ?_)
          refine lv_goto (tgt := 35) hx hb dX7_isRectangle_31 (by decide) ?_
          exact z_retz hx hb hr hlocks hP hS dX7_isRectangle_35 (by omega) ⟨hOK, (by omega)⟩
set_option maxHeartbeats 8000000 in
set_option maxRecDepth 100000 in
theorem c_X7_isStraight (l : Launch) (D : va_G) (tys : List (ClassId × FieldType)) (n : Nat) (ad : Nat → Nat) (OK : (Nat → va_E) → Prop) (p0 : Int32) (p1 : Int32) (p2 : Int32) (p3 : Int32) (p4 : Int32) : zM l D tys n ad OK yX7_isStraight vsX7_isStraight { frames := 1, cells := 0, slots := 0, locals := 22 } ([.int p0, .int p1, .int p2, .int p3, .int p4] : List Value) (zQi D n ad (fun r ce => OK ce ∧ ((r.toInt = 1 ∧ (0 ≤ p0.toInt ∧ p0.toInt ≤ 2 ∧ 0 ≤ p1.toInt ∧ p1.toInt ≤ 100 ∧ 0 ≤ p2.toInt ∧ p2.toInt ≤ 100 ∧ 0 ≤ p0.toInt ∧ p0.toInt ≤ 2 ∧ 0 ≤ p3.toInt ∧ p3.toInt ≤ 100 ∧ 0 ≤ p4.toInt ∧ p4.toInt ≤ 100 ∧ ((p1.toInt = p3.toInt ∧ ¬ p2.toInt = p4.toInt) ∨ (¬ p1.toInt = p3.toInt ∧ p2.toInt = p4.toInt)))) ∨ (r.toInt = 0 ∧ ¬ (0 ≤ p0.toInt ∧ p0.toInt ≤ 2 ∧ 0 ≤ p1.toInt ∧ p1.toInt ≤ 100 ∧ 0 ≤ p2.toInt ∧ p2.toInt ≤ 100 ∧ 0 ≤ p0.toInt ∧ p0.toInt ≤ 2 ∧ 0 ≤ p3.toInt ∧ p3.toInt ≤ 100 ∧ 0 ≤ p4.toInt ∧ p4.toInt ≤ 100 ∧ ((p1.toInt = p3.toInt ∧ ¬ p2.toInt = p4.toInt) ∨ (¬ p1.toInt = p3.toInt ∧ p2.toInt = p4.toInt))))))) := by
  refine z_of (cc := cX7_isStraight) (maxL := 5) (ret := (some .boolean)) (by decide) rfl (Nat.le_of_ble_eq_true rfl) ?_
  intro p e s m below meth c hx hb hr hts hown hlocks hml hK hN ce hOK hP
  have hown : s.vm.findClass RX7 = some m.cls := hown
  have hS : va_S (zA n ad) s.heap s.heap [] := va_S.rf
  intro ls hl
  have hl : lv_has ls 5 [(0, .int p0), (1, .int p1), (2, .int p2), (3, .int p3), (4, .int p4)] := hl
  refine lv_iload_n hx hb dX7_isStraight_0 rfl (lv_at hl 0 rfl) ?_
  refine lv_iload_n hx hb dX7_isStraight_1 rfl (lv_at hl 1 rfl) ?_
  refine lv_iload_n hx hb dX7_isStraight_2 rfl (lv_at hl 2 rfl) ?_
  refine z_ciP (z_rS (As := [.int p0, .int p1, .int p2]) (rest := []) ⟨hx, hb, hml, hown, hts⟩ (c_X7_isPlace l D tys n ad (fun c1 => c1 = ce) p0 p1 p2) (va_cwS 3 hts (g_S mw_0 mw_1 mw_2 mw_3) rfl rfl rfl (by decide +kernel) ⟨Nat.le_of_ble_eq_true rfl, Nat.le_of_ble_eq_true rfl⟩) hK hN rfl hP rfl hl.1 rfl (Nat.le_of_ble_eq_true rfl) dX7_isStraight_3 ⟨Nat.zero_le _, Nat.zero_le _⟩) hS (fun _ h => h) (fun v3 H locs h3 hP hS => ?_)
  refine z_if_eq (tgt := 47) hx hb dX7_isStraight_6 (by decide) (fun c6 => ?_) (fun c6 => ?_)
  · skip
    refine z_ic hx hb dX7_isStraight_47 (by decide) (fun v47 h47 => ?_)
    exact z_retz hx hb hr hlocks hP hS dX7_isStraight_48 (by omega) ⟨hOK, (by omega)⟩
  · skip
    refine lv_iload_n hx hb dX7_isStraight_9 rfl (lv_at hl 0 rfl) ?_
    refine lv_iload_n hx hb dX7_isStraight_10 rfl (lv_at hl 3 rfl) ?_
    refine lv_iload hx hb dX7_isStraight_11 (lv_at hl 4 rfl) ?_
    refine z_ciP (z_rS (As := [.int p0, .int p3, .int p4]) (rest := []) ⟨hx, hb, hml, hown, hts⟩ (c_X7_isPlace l D tys n ad (fun c1 => c1 = ce) p0 p3 p4) (va_cwS 3 hts (g_S mw_0 mw_1 mw_2 mw_3) rfl rfl rfl (by decide +kernel) ⟨Nat.le_of_ble_eq_true rfl, Nat.le_of_ble_eq_true rfl⟩) hK hN rfl hP rfl hl.1 rfl (Nat.le_of_ble_eq_true rfl) dX7_isStraight_13 ⟨Nat.zero_le _, Nat.zero_le _⟩) hS (fun _ h => h) (fun v13 H locs h13 hP hS => ?_)
    refine z_if_eq (tgt := 47) hx hb dX7_isStraight_16 (by decide) (fun c16 => ?_) (fun c16 => ?_)
    · skip
      refine z_ic hx hb dX7_isStraight_47 (by decide) (fun v47 h47 => ?_)
      exact z_retz hx hb hr hlocks hP hS dX7_isStraight_48 (by omega) ⟨hOK, (by omega)⟩
    · skip
      refine lv_iload_n hx hb dX7_isStraight_19 rfl (lv_at hl 1 rfl) ?_
      refine lv_iload_n hx hb dX7_isStraight_20 rfl (lv_at hl 3 rfl) ?_
      refine z_icmp_ne (tgt := 28) hx hb dX7_isStraight_21 (by decide) (fun c21 => ?_) (fun c21 => ?_)
      · skip
        refine z_ic hx hb dX7_isStraight_28 (by decide) (fun v28 h28 => ?_)
        refine lv_iload_n hx hb dX7_isStraight_29 rfl (lv_at hl 2 rfl) ?_
        refine lv_iload hx hb dX7_isStraight_30 (lv_at hl 4 rfl) ?_
        refine z_icmp_ne (tgt := 39) hx hb dX7_isStraight_32 (by decide) (fun c32 => ?_) (fun c32 => ?_)
        · skip
          refine z_ic hx hb dX7_isStraight_39 (by decide) (fun v39 h39 => ?_)
          refine z_icmp_eq (tgt := 47) hx hb dX7_isStraight_40 (by decide) (fun c40 => ?_) (fun c40 => ?_)
          · skip
            refine z_ic hx hb dX7_isStraight_47 (by decide) (fun v47 h47 => ?_)
            exact z_retz hx hb hr hlocks hP hS dX7_isStraight_48 (by omega) ⟨hOK, (by omega)⟩
          · skip
            exfalso; omega
        · skip
          refine z_ic hx hb dX7_isStraight_35 (by decide) (fun v35 h35 => ?_)
          refine lv_goto (tgt := 40) hx hb dX7_isStraight_36 (by decide) ?_
          refine z_icmp_eq (tgt := 47) hx hb dX7_isStraight_40 (by decide) (fun c40 => ?_) (fun c40 => ?_)
          · skip
            exfalso; omega
          · skip
            refine z_ic hx hb dX7_isStraight_43 (by decide) (fun v43 h43 => ?_)
            refine lv_goto (tgt := 48) hx hb dX7_isStraight_44 (by decide) ?_
            exact z_retz hx hb hr hlocks hP hS dX7_isStraight_48 (by omega) ⟨hOK, (by omega)⟩
      · skip
        refine z_ic hx hb dX7_isStraight_24 (by decide) (fun v24 h24 => ?_)
        refine lv_goto (tgt := 29) hx hb dX7_isStraight_25 (by decide) ?_
        refine lv_iload_n hx hb dX7_isStraight_29 rfl (lv_at hl 2 rfl) ?_
        refine lv_iload hx hb dX7_isStraight_30 (lv_at hl 4 rfl) ?_
        refine z_icmp_ne (tgt := 39) hx hb dX7_isStraight_32 (by decide) (fun c32 => ?_) (fun c32 => ?_)
        · skip
          refine z_ic hx hb dX7_isStraight_39 (by decide) (fun v39 h39 => ?_)
          refine z_icmp_eq (tgt := 47) hx hb dX7_isStraight_40 (by decide) (fun c40 => ?_) (fun c40 => ?_)
          · skip
            exfalso; omega
          · skip
            refine z_ic hx hb dX7_isStraight_43 (by decide) (fun v43 h43 => ?_)
            refine lv_goto (tgt := 48) hx hb dX7_isStraight_44 (by decide) ?_
            exact z_retz hx hb hr hlocks hP hS dX7_isStraight_48 (by omega) ⟨hOK, (by omega)⟩
        · skip
          refine z_ic hx hb dX7_isStraight_35 (by decide) (fun v35 h35 => ?_)
          refine lv_goto (tgt := 40) hx hb dX7_isStraight_36 (by decide) ?_
          refine z_icmp_eq (tgt := 47) hx hb dX7_isStraight_40 (by decide) (fun c40 => ?_) (fun c40 => ?_)
          · skip
            refine z_ic hx hb dX7_isStraight_47 (by decide) (fun v47 h47 => ?_)
            exact z_retz hx hb hr hlocks hP hS dX7_isStraight_48 (by omega) ⟨hOK, (by omega)⟩
          · skip
            exfalso; omega
set_option maxHeartbeats 8000000 in
set_option maxRecDepth 100000 in
theorem c_X7_placeAt (l : Launch) (D : va_G) (tys : List (ClassId × FieldType)) (n : Nat) (ad : Nat → Nat) (OK : (Nat → va_E) → Prop) (p0 : Int32) (p1 : Int32) (p2 : Int32) : zM l D tys n ad OK yX7_placeAt vsX7_placeAt { frames := 0, cells := 0, slots := 0, locals := 0 } ([.int p0, .int p1, .int p2] : List Value) (zQi D n ad (fun r ce => OK ce ∧ (True))) := by
  refine z_of (cc := cX7_placeAt) (maxL := 3) (ret := (some .int)) (by decide) rfl (Nat.le_of_ble_eq_true rfl) ?_
  intro p e s m below meth c hx hb hr hts hown hlocks hml hK hN ce hOK hP
  have hown : s.vm.findClass RX7 = some m.cls := hown
  have hS : va_S (zA n ad) s.heap s.heap [] := va_S.rf
  intro ls hl
  have hl : lv_has ls 3 [(0, .int p0), (1, .int p1), (2, .int p2)] := hl
  refine lv_iload_n hx hb dX7_placeAt_0 rfl (lv_at hl 0 rfl) ?_
  refine z_bi hx hb dX7_placeAt_1 (by decide) (fun v1 h1 => ?_)
  refine lv_ishl hx hb dX7_placeAt_3 ?_
  refine lv_topi (fun v3 _ => ?_)
  refine lv_iload_n hx hb dX7_placeAt_4 rfl (lv_at hl 2 rfl) ?_
  refine z_bi hx hb dX7_placeAt_5 (by decide) (fun v5 h5 => ?_)
  refine lv_ishl hx hb dX7_placeAt_7 ?_
  refine lv_topi (fun v7 _ => ?_)
  refine lv_ior hx hb dX7_placeAt_8 ?_
  refine lv_topi (fun v8 _ => ?_)
  refine lv_iload_n hx hb dX7_placeAt_9 rfl (lv_at hl 1 rfl) ?_
  refine lv_ior hx hb dX7_placeAt_10 ?_
  refine lv_topi (fun v10 _ => ?_)
  exact z_reti hx hb hr hlocks hP hS dX7_placeAt_11 ⟨hOK, trivial⟩
set_option maxHeartbeats 8000000 in
set_option maxRecDepth 100000 in
theorem c_X7_levelOf (l : Launch) (D : va_G) (tys : List (ClassId × FieldType)) (n : Nat) (ad : Nat → Nat) (OK : (Nat → va_E) → Prop) (p0 : Int32) : zM l D tys n ad OK yX7_levelOf vsX7_levelOf { frames := 0, cells := 0, slots := 0, locals := 0 } ([.int p0] : List Value) (zQi D n ad (fun r ce => OK ce ∧ (True))) := by
  refine z_of (cc := cX7_levelOf) (maxL := 1) (ret := (some .int)) (by decide) rfl (Nat.le_of_ble_eq_true rfl) ?_
  intro p e s m below meth c hx hb hr hts hown hlocks hml hK hN ce hOK hP
  have hown : s.vm.findClass RX7 = some m.cls := hown
  have hS : va_S (zA n ad) s.heap s.heap [] := va_S.rf
  intro ls hl
  have hl : lv_has ls 1 [(0, .int p0)] := hl
  refine lv_iload_n hx hb dX7_levelOf_0 rfl (lv_at hl 0 rfl) ?_
  refine z_bi hx hb dX7_levelOf_1 (by decide) (fun v1 h1 => ?_)
  refine lv_ishr hx hb dX7_levelOf_3 ?_
  refine lv_topi (fun v3 _ => ?_)
  exact z_reti hx hb hr hlocks hP hS dX7_levelOf_4 ⟨hOK, trivial⟩
set_option maxHeartbeats 8000000 in
set_option maxRecDepth 100000 in
theorem c_X7_xOf (l : Launch) (D : va_G) (tys : List (ClassId × FieldType)) (n : Nat) (ad : Nat → Nat) (OK : (Nat → va_E) → Prop) (p0 : Int32) : zM l D tys n ad OK yX7_xOf vsX7_xOf { frames := 0, cells := 0, slots := 0, locals := 0 } ([.int p0] : List Value) (zQi D n ad (fun r ce => OK ce ∧ (True))) := by
  refine z_of (cc := cX7_xOf) (maxL := 1) (ret := (some .int)) (by decide) rfl (Nat.le_of_ble_eq_true rfl) ?_
  intro p e s m below meth c hx hb hr hts hown hlocks hml hK hN ce hOK hP
  have hown : s.vm.findClass RX7 = some m.cls := hown
  have hS : va_S (zA n ad) s.heap s.heap [] := va_S.rf
  intro ls hl
  have hl : lv_has ls 1 [(0, .int p0)] := hl
  refine lv_iload_n hx hb dX7_xOf_0 rfl (lv_at hl 0 rfl) ?_
  refine z_bi hx hb dX7_xOf_1 (by decide) (fun v1 h1 => ?_)
  refine lv_iand hx hb dX7_xOf_3 ?_
  refine lv_topi (fun v3 _ => ?_)
  exact z_reti hx hb hr hlocks hP hS dX7_xOf_4 ⟨hOK, trivial⟩
set_option maxHeartbeats 8000000 in
set_option maxRecDepth 100000 in
theorem c_X7_yOf (l : Launch) (D : va_G) (tys : List (ClassId × FieldType)) (n : Nat) (ad : Nat → Nat) (OK : (Nat → va_E) → Prop) (p0 : Int32) : zM l D tys n ad OK yX7_yOf vsX7_yOf { frames := 0, cells := 0, slots := 0, locals := 0 } ([.int p0] : List Value) (zQi D n ad (fun r ce => OK ce ∧ (True))) := by
  refine z_of (cc := cX7_yOf) (maxL := 1) (ret := (some .int)) (by decide) rfl (Nat.le_of_ble_eq_true rfl) ?_
  intro p e s m below meth c hx hb hr hts hown hlocks hml hK hN ce hOK hP
  have hown : s.vm.findClass RX7 = some m.cls := hown
  have hS : va_S (zA n ad) s.heap s.heap [] := va_S.rf
  intro ls hl
  have hl : lv_has ls 1 [(0, .int p0)] := hl
  refine lv_iload_n hx hb dX7_yOf_0 rfl (lv_at hl 0 rfl) ?_
  refine z_bi hx hb dX7_yOf_1 (by decide) (fun v1 h1 => ?_)
  refine lv_ishr hx hb dX7_yOf_3 ?_
  refine lv_topi (fun v3 _ => ?_)
  refine z_bi hx hb dX7_yOf_4 (by decide) (fun v4 h4 => ?_)
  refine lv_iand hx hb dX7_yOf_6 ?_
  refine lv_topi (fun v6 _ => ?_)
  exact z_reti hx hb hr hlocks hP hS dX7_yOf_7 ⟨hOK, trivial⟩
set_option maxHeartbeats 8000000 in
set_option maxRecDepth 100000 in
theorem c_X7_coordinate (l : Launch) (D : va_G) (tys : List (ClassId × FieldType)) (n : Nat) (ad : Nat → Nat) (OK : (Nat → va_E) → Prop) (p0 : Int32) (p1 : Int32) : zM l D tys n ad OK yX7_coordinate vsX7_coordinate { frames := 1, cells := 0, slots := 0, locals := 20 } ([.int p0, .int p1] : List Value) (zQi D n ad (fun r ce => OK ce ∧ (True))) := by
  refine z_of (cc := cX7_coordinate) (maxL := 2) (ret := (some .int)) (by decide) rfl (Nat.le_of_ble_eq_true rfl) ?_
  intro p e s m below meth c hx hb hr hts hown hlocks hml hK hN ce hOK hP
  have hown : s.vm.findClass RX7 = some m.cls := hown
  have hS : va_S (zA n ad) s.heap s.heap [] := va_S.rf
  intro ls hl
  have hl : lv_has ls 2 [(0, .int p0), (1, .int p1)] := hl
  refine lv_iload_n hx hb dX7_coordinate_0 rfl (lv_at hl 1 rfl) ?_
  refine z_if_ne (tgt := 9) hx hb dX7_coordinate_1 (by decide) (fun c1 => ?_) (fun c1 => ?_)
  · skip
    refine lv_iload_n hx hb dX7_coordinate_9 rfl (lv_at hl 1 rfl) ?_
    refine z_ic hx hb dX7_coordinate_10 (by decide) (fun v10 h10 => ?_)
    refine z_icmp_ne (tgt := 21) hx hb dX7_coordinate_11 (by decide) (fun c11 => ?_) (fun c11 => ?_)
    · skip
      refine lv_iload_n hx hb dX7_coordinate_21 rfl (lv_at hl 0 rfl) ?_
      refine z_ciP (z_rS (As := [.int p0]) (rest := []) ⟨hx, hb, hml, hown, hts⟩ (c_X7_levelOf l D tys n ad (fun c1 => c1 = ce) p0) (va_cwS 1 hts (g_S mw_4 mw_5 mw_2 mw_6) rfl rfl rfl (by decide +kernel) ⟨Nat.le_of_ble_eq_true rfl, Nat.le_of_ble_eq_true rfl⟩) hK hN rfl hP rfl hl.1 rfl (Nat.le_of_ble_eq_true rfl) dX7_coordinate_22 ⟨Nat.zero_le _, Nat.zero_le _⟩) hS (fun _ h => h) (fun v22 H locs h22 hP hS => ?_)
      exact z_reti hx hb hr hlocks hP hS dX7_coordinate_25 ⟨hOK, trivial⟩
    · skip
      refine lv_iload_n hx hb dX7_coordinate_14 rfl (lv_at hl 0 rfl) ?_
      refine z_ciP (z_rS (As := [.int p0]) (rest := []) ⟨hx, hb, hml, hown, hts⟩ (c_X7_yOf l D tys n ad (fun c1 => c1 = ce) p0) (va_cwS 1 hts (g_S mw_7 mw_8 mw_2 mw_9) rfl rfl rfl (by decide +kernel) ⟨Nat.le_of_ble_eq_true rfl, Nat.le_of_ble_eq_true rfl⟩) hK hN rfl hP rfl hl.1 rfl (Nat.le_of_ble_eq_true rfl) dX7_coordinate_15 ⟨Nat.zero_le _, Nat.zero_le _⟩) hS (fun _ h => h) (fun v15 H locs h15 hP hS => ?_)
      refine lv_goto (tgt := 25) hx hb dX7_coordinate_18 (by decide) ?_
      exact z_reti hx hb hr hlocks hP hS dX7_coordinate_25 ⟨hOK, trivial⟩
  · skip
    refine lv_iload_n hx hb dX7_coordinate_4 rfl (lv_at hl 0 rfl) ?_
    refine z_ciP (z_rS (As := [.int p0]) (rest := []) ⟨hx, hb, hml, hown, hts⟩ (c_X7_xOf l D tys n ad (fun c1 => c1 = ce) p0) (va_cwS 1 hts (g_S mw_10 mw_11 mw_2 mw_12) rfl rfl rfl (by decide +kernel) ⟨Nat.le_of_ble_eq_true rfl, Nat.le_of_ble_eq_true rfl⟩) hK hN rfl hP rfl hl.1 rfl (Nat.le_of_ble_eq_true rfl) dX7_coordinate_5 ⟨Nat.zero_le _, Nat.zero_le _⟩) hS (fun _ h => h) (fun v5 H locs h5 hP hS => ?_)
    exact z_reti hx hb hr hlocks hP hS dX7_coordinate_8 ⟨hOK, trivial⟩
set_option maxHeartbeats 8000000 in
set_option maxRecDepth 100000 in
theorem c_X7_rootOf (l : Launch) (D : va_G) (tys : List (ClassId × FieldType)) (n : Nat) (ad : Nat → Nat) (OK : (Nat → va_E) → Prop) (p0 : Int64) : zM l D tys n ad OK yX7_rootOf vsX7_rootOf { frames := 0, cells := 0, slots := 0, locals := 0 } ([.long p0] : List Value) (zQi D n ad (fun r ce => OK ce ∧ (True))) := by
  refine z_of (cc := cX7_rootOf) (maxL := 6) (ret := (some .int)) (by decide) rfl (Nat.le_of_ble_eq_true rfl) ?_
  intro p e s m below meth c hx hb hr hts hown hlocks hml hK hN ce hOK hP
  have hown : s.vm.findClass RX7 = some m.cls := hown
  have hS : va_S (zA n ad) s.heap s.heap [] := va_S.rf
  have L5 : ∀ N5 : Nat, ∀ (H : Heap) (locs : List Loc) (x0 : Int64) (x2 : Int32) (x3 : Int32), va_P D vwCl (zw n ad ce) H → va_S (zA n ad) s.heap H locs → (-1 ≤ x3.toInt ∧ x3.toInt ≤ 17) → (x3.toInt - (-2) ≤ (N5 : Int)) → ∀ ls : Array Slot, lv_has ls 6 [(0, .long x0), (2, .int x2), (3, .int x3)] → W p l e { frames := 0, cells := 0, slots := 0, locals := 0 } s m ([.long p0] : List Value).toArray below meth c H locs 0 0 (MQ below (zQi D n ad (fun r ce => OK ce ∧ (True))) ([.long p0] : List Value).toArray s 0 0 (zA n ad)) (F0 m 5 ls []) := by
    intro N5
    induction N5 with
    | zero =>
      intro H locs x0 x2 x3 hP hS q_x3 hm ls hl
      exfalso; omega
    | succ N5 ih5 =>
      have J31 : ∀ (H : Heap) (locs : List Loc) (x0 : Int64) (x2 : Int32) (x3 : Int32), va_P D vwCl (zw n ad ce) H → va_S (zA n ad) s.heap H locs → (0 ≤ x3.toInt ∧ x3.toInt ≤ 17) → (x3.toInt - (-2) ≤ (N5 : Int) + 1) → ∀ ls : Array Slot, lv_has ls 6 [(0, .long x0), (2, .int x2), (3, .int x3)] → W p l e { frames := 0, cells := 0, slots := 0, locals := 0 } s m ([.long p0] : List Value).toArray below meth c H locs 0 0 (MQ below (zQi D n ad (fun r ce => OK ce ∧ (True))) ([.long p0] : List Value).toArray s 0 0 (zA n ad)) (F0 m 31 ls []) := by
        intro H locs x0 x2 x3 hP hS q_x3 qm5 ls hl
        refine z_iinc (lv' := fun w0 => [(3, .int w0), (0, .long x0), (2, .int x2)]) hx hb dX7_rootOf_31 hl (k := 2) rfl (by decide) (fun _ => rfl) (by decide) (by omega) (fun v31 ls h31 hl => ?_)
        refine lv_goto (tgt := 5) hx hb dX7_rootOf_34 (by decide) ?_
        exact ih5 _ _ x0 x2 v31 hP hS (by omega) (by omega) _ (lv_sub hl [1, 2, 0] rfl)
      intro H locs x0 x2 x3 hP hS q_x3 hm ls hl
      refine lv_iload_n hx hb dX7_rootOf_5 rfl (lv_at hl 2 rfl) ?_
      refine z_if_lt (tgt := 37) hx hb dX7_rootOf_6 (by decide) (fun c6 => ?_) (fun c6 => ?_)
      · skip
        refine lv_iload_n hx hb dX7_rootOf_37 rfl (lv_at hl 1 rfl) ?_
        exact z_reti hx hb hr hlocks hP hS dX7_rootOf_38 ⟨hOK, trivial⟩
      · skip
        refine lv_iload_n hx hb dX7_rootOf_9 rfl (lv_at hl 1 rfl) ?_
        refine z_ic hx hb dX7_rootOf_10 (by decide) (fun v10 h10 => ?_)
        refine lv_iload_n hx hb dX7_rootOf_11 rfl (lv_at hl 2 rfl) ?_
        refine lv_ishl hx hb dX7_rootOf_12 ?_
        refine lv_topi (fun v12 _ => ?_)
        refine lv_iadd hx hb dX7_rootOf_13 ?_
        refine lv_topi (fun v13 _ => ?_)
        refine lv_i2l hx hb dX7_rootOf_14 rfl ?_
        refine lv_topl (fun v14 _ => ?_)
        refine lv_lstore (lv' := [(4, .long v14), (0, .long x0), (2, .int x2), (3, .int x3)]) hx hb dX7_rootOf_15 hl (by decide) rfl (fun ls hl => ?_)
        refine lv_lload hx hb dX7_rootOf_17 (lv_at hl 0 rfl) ?_
        refine lv_lload hx hb dX7_rootOf_19 (lv_at hl 0 rfl) ?_
        refine lv_lmul hx hb dX7_rootOf_21 ?_
        refine lv_topl (fun v21 _ => ?_)
        refine lv_lload_n hx hb dX7_rootOf_22 rfl (lv_at hl 1 rfl) ?_
        refine z_lcmp hx hb dX7_rootOf_23 (fun v23 h23 => ?_)
        refine z_if_gt (tgt := 31) hx hb dX7_rootOf_24 (by decide) (fun c24 => ?_) (fun c24 => ?_)
        · skip
          exact J31 _ _ x0 x2 x3 hP hS (by omega) (by omega) _ (lv_sub hl [1, 2, 3] rfl)
        · skip
          refine lv_lload hx hb dX7_rootOf_27 (lv_at hl 0 rfl) ?_
          refine lv_l2i hx hb dX7_rootOf_29 rfl ?_
          refine lv_topi (fun v29 _ => ?_)
          refine lv_istore_n (lv' := [(2, .int v29), (4, .long v14), (0, .long x0), (3, .int x3)]) hx hb dX7_rootOf_30 rfl hl (by decide) rfl (fun ls hl => ?_)
          exact J31 _ _ x0 v29 x3 hP hS (by omega) (by omega) _ (lv_sub hl [2, 0, 3] rfl)
  intro ls hl
  have hl : lv_has ls 6 [(0, .long p0)] := hl
  refine z_ic hx hb dX7_rootOf_0 (by decide) (fun v0 h0 => ?_)
  refine lv_istore_n (lv' := [(2, .int v0), (0, .long p0)]) hx hb dX7_rootOf_1 rfl hl (by decide) rfl (fun ls hl => ?_)
  refine z_bi hx hb dX7_rootOf_2 (by decide) (fun v2 h2 => ?_)
  refine lv_istore_n (lv' := [(3, .int v2), (2, .int v0), (0, .long p0)]) hx hb dX7_rootOf_4 rfl hl (by decide) rfl (fun ls hl => ?_)
  exact L5 20 _ _ p0 v0 v2 hP hS (by omega) (by omega) _ (lv_sub hl [2, 1, 0] rfl)
