set_option maxHeartbeats 8000000 in
set_option maxRecDepth 100000 in
theorem c_X4_lay (l : Launch) (D : va_G) (cy : Nat → ClassId) (ad : Nat → Nat) (cnt : Nat → Nat) (B : Nat) (hJ : zJ 73 ad) (p1 : Int32) (p2 : Int32) : zM l D (gT cy) 73 ad (gOK cy ad cnt B) yX4_lay vsX4_lay { frames := 1, cells := 0, slots := 0, locals := 21 } ([.ref (ad 3), .int p1, .int p2] : List Value) (zQv D 73 ad (fun ce => gOK cy ad cnt B ce ∧ (True))) := by
  refine z_of (cc := cX4_lay) (maxL := 5) (ret := none) (by decide) rfl (Nat.le_of_ble_eq_true rfl) ?_
  intro p e s m below meth c hx hb hr hts hown hlocks hml hK hN ce hOK hP
  have hown : s.vm.findClass RX4 = some m.cls := hown
  have hS : va_S (zA 73 ad) s.heap s.heap [] := va_S.rf
  have hO := hOK
  have inX4 : ∀ w ∈ u_ws RX4 TX4 10, w ∈ vsX4_lay := fun w h => List.mem_cons_of_mem _ (inlX4 w h)
  have fl13 := hts (.fieldLink RX4 13 "GroundKeeper$Leg" "level" "I") (List.mem_cons_of_mem _ mw_35)
  have fl22 := hts (.fieldLink RX4 22 "GroundKeeper$Leg" "ax" "I") (List.mem_cons_of_mem _ mw_36)
  have fl28 := hts (.fieldLink RX4 28 "GroundKeeper$Leg" "ay" "I") (List.mem_cons_of_mem _ mw_37)
  have fl31 := hts (.fieldLink RX4 31 "GroundKeeper$Leg" "dx" "I") (List.mem_cons_of_mem _ mw_38)
  have fl34 := hts (.fieldLink RX4 34 "GroundKeeper$Leg" "dy" "I") (List.mem_cons_of_mem _ mw_39)
  have fl46 := hts (.fieldLink RX4 46 "GroundKeeper$Leg" "whole" "I") (List.mem_cons_of_mem _ mw_40)
  have fl49 := hts (.fieldLink RX4 49 "GroundKeeper$Leg" "partsPerX" "I") (List.mem_cons_of_mem _ mw_41)
  have fl52 := hts (.fieldLink RX4 52 "GroundKeeper$Leg" "partsPerY" "I") (List.mem_cons_of_mem _ mw_42)
  have J116 : ∀ (H : Heap) (locs : List Loc) (ce : Nat → va_E) (s1 : Int32), va_P D vwCl (zw 73 ad ce) H → va_S (zA 73 ad) s.heap H locs → gOK cy ad cnt B ce → ∀ ls : Array Slot, lv_has ls 5 [] → W p l e { frames := 1, cells := 0, slots := 0, locals := 21 } s m ([.ref (ad 3), .int p1, .int p2] : List Value).toArray below meth c H locs 0 0 (MQ below (zQv D 73 ad (fun ce => gOK cy ad cnt B ce ∧ (True))) ([.ref (ad 3), .int p1, .int p2] : List Value).toArray s 0 0 (zA 73 ad)) (F0 m 116 ls [.int s1, .ref (ad 3)]) := by
    intro H locs ce s1 hP hS hO ls hl
    obtain ⟨v116, v116a, v116b, v116c, v116d, v116e, v116f, v116g, v116h, v116i, e116⟩ := gg_Le hO
    refine z_put (q0 := 3) (ci := 4) (C := RX4) (T := TX4) (N := 10) hx hb hts inX4 tyX4 tyX4_ok nmX4 hown hK hJ hP hS (by decide) e116 rfl 7 (by decide) fl52 (fun _ h => h) rfl (ty := .int) (by decide +kernel) rfl rfl (Nat.le_of_ble_eq_true rfl) (fs1 := [.int v116, .int v116a, .int v116b, .int v116c, .int v116d, .int v116e, .int v116f, .int s1, .int v116h, .int v116i]) rfl dX4_lay_116 (fun ce H locs e116a h116 hP hS => ?_)
    have hO := z_up (OKK := gK cy ad cnt B) 3 hO h116 (by rw [e116a]; exact gE_Le |>.mpr ⟨v116, v116a, v116b, v116c, v116d, v116e, v116f, s1, v116h, v116i, rfl⟩)
    exact z_retv hx hb hr hlocks hP hS dX4_lay_119 ⟨hO, trivial⟩
  have J99 : ∀ (H : Heap) (locs : List Loc) (ce : Nat → va_E) (x3 : Int32) (s1 : Int32), va_P D vwCl (zw 73 ad ce) H → va_S (zA 73 ad) s.heap H locs → gOK cy ad cnt B ce → ∀ ls : Array Slot, lv_has ls 5 [(0, .ref (ad 3)), (3, .int x3)] → W p l e { frames := 1, cells := 0, slots := 0, locals := 21 } s m ([.ref (ad 3), .int p1, .int p2] : List Value).toArray below meth c H locs 0 0 (MQ below (zQv D 73 ad (fun ce => gOK cy ad cnt B ce ∧ (True))) ([.ref (ad 3), .int p1, .int p2] : List Value).toArray s 0 0 (zA 73 ad)) (F0 m 99 ls [.int s1, .ref (ad 3)]) := by
    intro H locs ce x3 s1 hP hS hO ls hl
    obtain ⟨v99, v99a, v99b, v99c, v99d, v99e, v99f, v99g, v99h, v99i, e99⟩ := gg_Le hO
    refine z_put (q0 := 3) (ci := 4) (C := RX4) (T := TX4) (N := 10) hx hb hts inX4 tyX4 tyX4_ok nmX4 hown hK hJ hP hS (by decide) e99 rfl 6 (by decide) fl49 (fun _ h => h) rfl (ty := .int) (by decide +kernel) rfl rfl (Nat.le_of_ble_eq_true rfl) (fs1 := [.int v99, .int v99a, .int v99b, .int v99c, .int v99d, .int v99e, .int s1, .int v99g, .int v99h, .int v99i]) rfl dX4_lay_99 (fun ce H locs e99a h99 hP hS => ?_)
    have hO := z_up (OKK := gK cy ad cnt B) 3 hO h99 (by rw [e99a]; exact gE_Le |>.mpr ⟨v99, v99a, v99b, v99c, v99d, v99e, s1, v99g, v99h, v99i, rfl⟩)
    refine lv_aload_n hx hb dX4_lay_102 rfl (lv_at hl 0 rfl) ?_
    refine lv_aload_n hx hb dX4_lay_103 rfl (lv_at hl 0 rfl) ?_
    refine va_get (ci := 4) (C := RX4) (T := TX4) (N := 10) (v := .int v99d) hx hb hts inX4 hown hK hP 3 (zw_at (by decide) e99a) rfl 4 (by decide) fl34 (fun _ h => h) rfl dX4_lay_104 ?_
    refine z_if_ge (tgt := 115) hx hb dX4_lay_107 (by decide) (fun c107 => ?_) (fun c107 => ?_)
    · skip
      refine lv_iload_n hx hb dX4_lay_115 rfl (lv_at hl 1 rfl) ?_
      exact J116 _ _ _ x3 hP hS hO _ (lv_sub hl [] rfl)
    · skip
      refine lv_iload_n hx hb dX4_lay_110 rfl (lv_at hl 1 rfl) ?_
      refine z_neg hx hb dX4_lay_111 (fun v111 h111 => ?_)
      refine lv_goto (tgt := 116) hx hb dX4_lay_112 (by decide) ?_
      exact J116 _ _ _ v111 hP hS hO _ (lv_sub hl [] rfl)
  intro ls hl
  have hl : lv_has ls 5 [(0, .ref (ad 3)), (1, .int p1), (2, .int p2)] := hl
  refine lv_aload_n hx hb dX4_lay_0 rfl (lv_at hl 0 rfl) ?_
  refine lv_iload_n hx hb dX4_lay_1 rfl (lv_at hl 1 rfl) ?_
  refine z_ciP (z_rN (As := [.int p1]) (rest := [.ref (ad 3)]) ⟨hx, hb, hml, hown, hts⟩ (c_X7_levelOf l D (gT cy) 73 ad (fun c1 => c1 = ce) p1) (va_cnB 1 hts (g_C mw_6) rfl rfl rfl (hN (.methodLinkNest RX4 7 yX7_levelOf RX7) (by simp [nwL])) (hts (.initialized RX7) (List.mem_cons_of_mem _ mw_2)) (by decide +kernel) ⟨Nat.le_of_ble_eq_true rfl, Nat.le_of_ble_eq_true rfl⟩) (hts (.static yX7_levelOf) (List.mem_cons_of_mem _ mw_5)) hK hN rfl hP rfl hl.1 rfl (Nat.le_of_ble_eq_true rfl) dX4_lay_2 ⟨Nat.zero_le _, Nat.zero_le _⟩) hS (fun _ h => h) (fun v2 H locs h2 hP hS => ?_)
  obtain ⟨v5, v5a, v5b, v5c, v5d, v5e, v5f, v5g, v5h, v5i, e5⟩ := gg_Le hO
  refine z_put (q0 := 3) (ci := 4) (C := RX4) (T := TX4) (N := 10) hx hb hts inX4 tyX4 tyX4_ok nmX4 hown hK hJ hP hS (by decide) e5 rfl 0 (by decide) fl13 (fun _ h => h) rfl (ty := .int) (by decide +kernel) rfl rfl (Nat.le_of_ble_eq_true rfl) (fs1 := [.int v2, .int v5a, .int v5b, .int v5c, .int v5d, .int v5e, .int v5f, .int v5g, .int v5h, .int v5i]) rfl dX4_lay_5 (fun ce H locs e5a h5 hP hS => ?_)
  have hO := z_up (OKK := gK cy ad cnt B) 3 hO h5 (by rw [e5a]; exact gE_Le |>.mpr ⟨v2, v5a, v5b, v5c, v5d, v5e, v5f, v5g, v5h, v5i, rfl⟩)
  refine lv_aload_n hx hb dX4_lay_8 rfl (lv_at hl 0 rfl) ?_
  refine lv_iload_n hx hb dX4_lay_9 rfl (lv_at hl 1 rfl) ?_
  refine z_ciP (z_rN (As := [.int p1]) (rest := [.ref (ad 3)]) ⟨hx, hb, hml, hown, hts⟩ (c_X7_xOf l D (gT cy) 73 ad (fun c1 => c1 = ce) p1) (va_cnB 1 hts (g_C mw_12) rfl rfl rfl (hN (.methodLinkNest RX4 19 yX7_xOf RX7) (by simp [nwL])) (hts (.initialized RX7) (List.mem_cons_of_mem _ mw_2)) (by decide +kernel) ⟨Nat.le_of_ble_eq_true rfl, Nat.le_of_ble_eq_true rfl⟩) (hts (.static yX7_xOf) (List.mem_cons_of_mem _ mw_11)) hK hN rfl hP rfl hl.1 rfl (Nat.le_of_ble_eq_true rfl) dX4_lay_10 ⟨Nat.zero_le _, Nat.zero_le _⟩) hS (fun _ h => h) (fun v10 H locs h10 hP hS => ?_)
  refine z_put (q0 := 3) (ci := 4) (C := RX4) (T := TX4) (N := 10) hx hb hts inX4 tyX4 tyX4_ok nmX4 hown hK hJ hP hS (by decide) e5a rfl 1 (by decide) fl22 (fun _ h => h) rfl (ty := .int) (by decide +kernel) rfl rfl (Nat.le_of_ble_eq_true rfl) (fs1 := [.int v2, .int v10, .int v5b, .int v5c, .int v5d, .int v5e, .int v5f, .int v5g, .int v5h, .int v5i]) rfl dX4_lay_13 (fun ce H locs e13 h13 hP hS => ?_)
  have hO := z_up (OKK := gK cy ad cnt B) 3 hO h13 (by rw [e13]; exact gE_Le |>.mpr ⟨v2, v10, v5b, v5c, v5d, v5e, v5f, v5g, v5h, v5i, rfl⟩)
  refine lv_aload_n hx hb dX4_lay_16 rfl (lv_at hl 0 rfl) ?_
  refine lv_iload_n hx hb dX4_lay_17 rfl (lv_at hl 1 rfl) ?_
  refine z_ciP (z_rN (As := [.int p1]) (rest := [.ref (ad 3)]) ⟨hx, hb, hml, hown, hts⟩ (c_X7_yOf l D (gT cy) 73 ad (fun c1 => c1 = ce) p1) (va_cnB 1 hts (g_C mw_9) rfl rfl rfl (hN (.methodLinkNest RX4 25 yX7_yOf RX7) (by simp [nwL])) (hts (.initialized RX7) (List.mem_cons_of_mem _ mw_2)) (by decide +kernel) ⟨Nat.le_of_ble_eq_true rfl, Nat.le_of_ble_eq_true rfl⟩) (hts (.static yX7_yOf) (List.mem_cons_of_mem _ mw_8)) hK hN rfl hP rfl hl.1 rfl (Nat.le_of_ble_eq_true rfl) dX4_lay_18 ⟨Nat.zero_le _, Nat.zero_le _⟩) hS (fun _ h => h) (fun v18 H locs h18 hP hS => ?_)
  refine z_put (q0 := 3) (ci := 4) (C := RX4) (T := TX4) (N := 10) hx hb hts inX4 tyX4 tyX4_ok nmX4 hown hK hJ hP hS (by decide) e13 rfl 2 (by decide) fl28 (fun _ h => h) rfl (ty := .int) (by decide +kernel) rfl rfl (Nat.le_of_ble_eq_true rfl) (fs1 := [.int v2, .int v10, .int v18, .int v5c, .int v5d, .int v5e, .int v5f, .int v5g, .int v5h, .int v5i]) rfl dX4_lay_21 (fun ce H locs e21 h21 hP hS => ?_)
  have hO := z_up (OKK := gK cy ad cnt B) 3 hO h21 (by rw [e21]; exact gE_Le |>.mpr ⟨v2, v10, v18, v5c, v5d, v5e, v5f, v5g, v5h, v5i, rfl⟩)
  refine lv_aload_n hx hb dX4_lay_24 rfl (lv_at hl 0 rfl) ?_
  refine lv_iload_n hx hb dX4_lay_25 rfl (lv_at hl 2 rfl) ?_
  refine z_ciP (z_rN (As := [.int p2]) (rest := [.ref (ad 3)]) ⟨hx, hb, hml, hown, hts⟩ (c_X7_xOf l D (gT cy) 73 ad (fun c1 => c1 = ce) p2) (va_cnB 1 hts (g_C mw_12) rfl rfl rfl (hN (.methodLinkNest RX4 19 yX7_xOf RX7) (by simp [nwL])) (hts (.initialized RX7) (List.mem_cons_of_mem _ mw_2)) (by decide +kernel) ⟨Nat.le_of_ble_eq_true rfl, Nat.le_of_ble_eq_true rfl⟩) (hts (.static yX7_xOf) (List.mem_cons_of_mem _ mw_11)) hK hN rfl hP rfl hl.1 rfl (Nat.le_of_ble_eq_true rfl) dX4_lay_26 ⟨Nat.zero_le _, Nat.zero_le _⟩) hS (fun _ h => h) (fun v26 H locs h26 hP hS => ?_)
  refine lv_aload_n hx hb dX4_lay_29 rfl (lv_at hl 0 rfl) ?_
  refine va_get (ci := 4) (C := RX4) (T := TX4) (N := 10) (v := .int v10) hx hb hts inX4 hown hK hP 3 (zw_at (by decide) e21) rfl 1 (by decide) fl22 (fun _ h => h) rfl dX4_lay_30 ?_
  refine lv_isub hx hb dX4_lay_33 ?_
  refine lv_topi (fun v33 _ => ?_)
  refine z_put (q0 := 3) (ci := 4) (C := RX4) (T := TX4) (N := 10) hx hb hts inX4 tyX4 tyX4_ok nmX4 hown hK hJ hP hS (by decide) e21 rfl 3 (by decide) fl31 (fun _ h => h) rfl (ty := .int) (by decide +kernel) rfl rfl (Nat.le_of_ble_eq_true rfl) (fs1 := [.int v2, .int v10, .int v18, .int v33, .int v5d, .int v5e, .int v5f, .int v5g, .int v5h, .int v5i]) rfl dX4_lay_34 (fun ce H locs e34 h34 hP hS => ?_)
  have hO := z_up (OKK := gK cy ad cnt B) 3 hO h34 (by rw [e34]; exact gE_Le |>.mpr ⟨v2, v10, v18, v33, v5d, v5e, v5f, v5g, v5h, v5i, rfl⟩)
  refine lv_aload_n hx hb dX4_lay_37 rfl (lv_at hl 0 rfl) ?_
  refine lv_iload_n hx hb dX4_lay_38 rfl (lv_at hl 2 rfl) ?_
  refine z_ciP (z_rN (As := [.int p2]) (rest := [.ref (ad 3)]) ⟨hx, hb, hml, hown, hts⟩ (c_X7_yOf l D (gT cy) 73 ad (fun c1 => c1 = ce) p2) (va_cnB 1 hts (g_C mw_9) rfl rfl rfl (hN (.methodLinkNest RX4 25 yX7_yOf RX7) (by simp [nwL])) (hts (.initialized RX7) (List.mem_cons_of_mem _ mw_2)) (by decide +kernel) ⟨Nat.le_of_ble_eq_true rfl, Nat.le_of_ble_eq_true rfl⟩) (hts (.static yX7_yOf) (List.mem_cons_of_mem _ mw_8)) hK hN rfl hP rfl hl.1 rfl (Nat.le_of_ble_eq_true rfl) dX4_lay_39 ⟨Nat.zero_le _, Nat.zero_le _⟩) hS (fun _ h => h) (fun v39 H locs h39 hP hS => ?_)
  refine lv_aload_n hx hb dX4_lay_42 rfl (lv_at hl 0 rfl) ?_
  refine va_get (ci := 4) (C := RX4) (T := TX4) (N := 10) (v := .int v18) hx hb hts inX4 hown hK hP 3 (zw_at (by decide) e34) rfl 2 (by decide) fl28 (fun _ h => h) rfl dX4_lay_43 ?_
  refine lv_isub hx hb dX4_lay_46 ?_
  refine lv_topi (fun v46 _ => ?_)
  refine z_put (q0 := 3) (ci := 4) (C := RX4) (T := TX4) (N := 10) hx hb hts inX4 tyX4 tyX4_ok nmX4 hown hK hJ hP hS (by decide) e34 rfl 4 (by decide) fl34 (fun _ h => h) rfl (ty := .int) (by decide +kernel) rfl rfl (Nat.le_of_ble_eq_true rfl) (fs1 := [.int v2, .int v10, .int v18, .int v33, .int v46, .int v5e, .int v5f, .int v5g, .int v5h, .int v5i]) rfl dX4_lay_47 (fun ce H locs e47 h47 hP hS => ?_)
  have hO := z_up (OKK := gK cy ad cnt B) 3 hO h47 (by rw [e47]; exact gE_Le |>.mpr ⟨v2, v10, v18, v33, v46, v5e, v5f, v5g, v5h, v5i, rfl⟩)
  refine z_ic hx hb dX4_lay_50 (by decide) (fun v50 h50 => ?_)
  refine lv_aload_n hx hb dX4_lay_51 rfl (lv_at hl 0 rfl) ?_
  refine va_get (ci := 4) (C := RX4) (T := TX4) (N := 10) (v := .int v33) hx hb hts inX4 hown hK hP 3 (zw_at (by decide) e47) rfl 3 (by decide) fl31 (fun _ h => h) rfl dX4_lay_52 ?_
  refine va_mabs hx hb (by rw [hml]; exact hl.1.symm) hown (hts (.methodLink RX4 37 Lib.Math.abs.name) (List.mem_cons_of_mem _ mw_43)) (hts (.static Lib.Math.abs.name) (List.mem_cons_of_mem _ mw_44)) (hts (.initialized "java/lang/Math") (List.mem_cons_of_mem _ mw_21)) (hts (.code Lib.Math.abs.name Lib.Math.abs.code 1 (some .int)) (List.mem_cons_of_mem _ mw_45)) (Nat.le_of_ble_eq_true rfl) (Nat.le_of_ble_eq_true rfl) (Nat.zero_le _) (Nat.zero_le _) dX4_lay_55 ?_
  refine lv_topi (fun v55 _ => ?_)
  refine va_mmax hx hb (by rw [hml]; exact hl.1.symm) hown (hts (.methodLink RX4 42 Lib.Math.max.name) (List.mem_cons_of_mem _ mw_46)) (hts (.static Lib.Math.max.name) (List.mem_cons_of_mem _ mw_24)) (hts (.initialized "java/lang/Math") (List.mem_cons_of_mem _ mw_21)) (hts (.code Lib.Math.max.name Lib.Math.max.code 2 (some .int)) (List.mem_cons_of_mem _ mw_25)) (Nat.le_of_ble_eq_true rfl) (Nat.le_of_ble_eq_true rfl) (Nat.zero_le _) (Nat.zero_le _) dX4_lay_58 ?_
  refine lv_topi (fun v58 _ => ?_)
  refine lv_istore_n (lv' := [(3, .int v58), (0, .ref (ad 3)), (1, .int p1), (2, .int p2)]) hx hb dX4_lay_61 rfl hl (by decide) rfl (fun ls hl => ?_)
  refine z_ic hx hb dX4_lay_62 (by decide) (fun v62 h62 => ?_)
  refine lv_aload_n hx hb dX4_lay_63 rfl (lv_at hl 1 rfl) ?_
  refine va_get (ci := 4) (C := RX4) (T := TX4) (N := 10) (v := .int v46) hx hb hts inX4 hown hK hP 3 (zw_at (by decide) e47) rfl 4 (by decide) fl34 (fun _ h => h) rfl dX4_lay_64 ?_
  refine va_mabs hx hb (by rw [hml]; exact hl.1.symm) hown (hts (.methodLink RX4 37 Lib.Math.abs.name) (List.mem_cons_of_mem _ mw_43)) (hts (.static Lib.Math.abs.name) (List.mem_cons_of_mem _ mw_44)) (hts (.initialized "java/lang/Math") (List.mem_cons_of_mem _ mw_21)) (hts (.code Lib.Math.abs.name Lib.Math.abs.code 1 (some .int)) (List.mem_cons_of_mem _ mw_45)) (Nat.le_of_ble_eq_true rfl) (Nat.le_of_ble_eq_true rfl) (Nat.zero_le _) (Nat.zero_le _) dX4_lay_67 ?_
  refine lv_topi (fun v67 _ => ?_)
  refine va_mmax hx hb (by rw [hml]; exact hl.1.symm) hown (hts (.methodLink RX4 42 Lib.Math.max.name) (List.mem_cons_of_mem _ mw_46)) (hts (.static Lib.Math.max.name) (List.mem_cons_of_mem _ mw_24)) (hts (.initialized "java/lang/Math") (List.mem_cons_of_mem _ mw_21)) (hts (.code Lib.Math.max.name Lib.Math.max.code 2 (some .int)) (List.mem_cons_of_mem _ mw_25)) (Nat.le_of_ble_eq_true rfl) (Nat.le_of_ble_eq_true rfl) (Nat.zero_le _) (Nat.zero_le _) dX4_lay_70 ?_
  refine lv_topi (fun v70 _ => ?_)
  refine lv_istore (lv' := [(4, .int v70), (3, .int v58), (0, .ref (ad 3)), (1, .int p1), (2, .int p2)]) hx hb dX4_lay_73 hl (by decide) rfl (fun ls hl => ?_)
  refine lv_aload_n hx hb dX4_lay_75 rfl (lv_at hl 2 rfl) ?_
  refine lv_iload_n hx hb dX4_lay_76 rfl (lv_at hl 1 rfl) ?_
  refine lv_iload hx hb dX4_lay_77 (lv_at hl 0 rfl) ?_
  refine lv_imul hx hb dX4_lay_79 ?_
  refine lv_topi (fun v79 _ => ?_)
  refine z_put (q0 := 3) (ci := 4) (C := RX4) (T := TX4) (N := 10) hx hb hts inX4 tyX4 tyX4_ok nmX4 hown hK hJ hP hS (by decide) e47 rfl 5 (by decide) fl46 (fun _ h => h) rfl (ty := .int) (by decide +kernel) rfl rfl (Nat.le_of_ble_eq_true rfl) (fs1 := [.int v2, .int v10, .int v18, .int v33, .int v46, .int v79, .int v5f, .int v5g, .int v5h, .int v5i]) rfl dX4_lay_80 (fun ce H locs e80 h80 hP hS => ?_)
  have hO := z_up (OKK := gK cy ad cnt B) 3 hO h80 (by rw [e80]; exact gE_Le |>.mpr ⟨v2, v10, v18, v33, v46, v79, v5f, v5g, v5h, v5i, rfl⟩)
  refine lv_aload_n hx hb dX4_lay_83 rfl (lv_at hl 2 rfl) ?_
  refine lv_aload_n hx hb dX4_lay_84 rfl (lv_at hl 2 rfl) ?_
  refine va_get (ci := 4) (C := RX4) (T := TX4) (N := 10) (v := .int v33) hx hb hts inX4 hown hK hP 3 (zw_at (by decide) e80) rfl 3 (by decide) fl31 (fun _ h => h) rfl dX4_lay_85 ?_
  refine z_if_ge (tgt := 97) hx hb dX4_lay_88 (by decide) (fun c88 => ?_) (fun c88 => ?_)
  · skip
    refine lv_iload hx hb dX4_lay_97 (lv_at hl 0 rfl) ?_
    exact J99 _ _ _ v58 v70 hP hS hO _ (lv_sub hl [2, 1] rfl)
  · skip
    refine lv_iload hx hb dX4_lay_91 (lv_at hl 0 rfl) ?_
    refine z_neg hx hb dX4_lay_93 (fun v93 h93 => ?_)
    refine lv_goto (tgt := 99) hx hb dX4_lay_94 (by decide) ?_
    exact J99 _ _ _ v58 v93 hP hS hO _ (lv_sub hl [2, 1] rfl)
set_option maxHeartbeats 8000000 in
set_option maxRecDepth 100000 in
theorem c_X4_meets (l : Launch) (D : va_G) (cy : Nat → ClassId) (ad : Nat → Nat) (cnt : Nat → Nat) (B : Nat) (hJ : zJ 73 ad) (a1 : Nat) (q_a1 : a1 < 32) : zM l D (gT cy) 73 ad (gOK cy ad cnt B) yX4_meets vsX4_meets { frames := 0, cells := 0, slots := 0, locals := 0 } ([.ref (ad 3), .ref (ad (12 + a1))] : List Value) (zQi D 73 ad (fun r ce => gOK cy ad cnt B ce ∧ (0 ≤ r.toInt ∧ r.toInt ≤ 1))) := by
  refine z_of (cc := cX4_meets) (maxL := 4) (ret := (some .boolean)) (by decide) rfl (Nat.le_of_ble_eq_true rfl) ?_
  intro p e s m below meth c hx hb hr hts hown hlocks hml hK hN ce hOK hP
  have hown : s.vm.findClass RX4 = some m.cls := hown
  have hS : va_S (zA 73 ad) s.heap s.heap [] := va_S.rf
  have hO := hOK
  have inX0 : ∀ w ∈ u_ws RX0 TX0 6, w ∈ vsX4_meets := fun w h => List.mem_cons_of_mem _ (inlX0 w h)
  have inX4 : ∀ w ∈ u_ws RX4 TX4 10, w ∈ vsX4_meets := fun w h => List.mem_cons_of_mem _ (inlX4 w h)
  have fl13 := hts (.fieldLink RX4 13 "GroundKeeper$Leg" "level" "I") (List.mem_cons_of_mem _ mw_35)
  have fl22 := hts (.fieldLink RX4 22 "GroundKeeper$Leg" "ax" "I") (List.mem_cons_of_mem _ mw_36)
  have fl28 := hts (.fieldLink RX4 28 "GroundKeeper$Leg" "ay" "I") (List.mem_cons_of_mem _ mw_37)
  have fl31 := hts (.fieldLink RX4 31 "GroundKeeper$Leg" "dx" "I") (List.mem_cons_of_mem _ mw_38)
  have fl34 := hts (.fieldLink RX4 34 "GroundKeeper$Leg" "dy" "I") (List.mem_cons_of_mem _ mw_39)
  have fl46 := hts (.fieldLink RX4 46 "GroundKeeper$Leg" "whole" "I") (List.mem_cons_of_mem _ mw_40)
  have fl49 := hts (.fieldLink RX4 49 "GroundKeeper$Leg" "partsPerX" "I") (List.mem_cons_of_mem _ mw_41)
  have fl52 := hts (.fieldLink RX4 52 "GroundKeeper$Leg" "partsPerY" "I") (List.mem_cons_of_mem _ mw_42)
  have fl55 := hts (.fieldLink RX4 55 "GroundKeeper$Area" "level" "I") (List.mem_cons_of_mem _ mw_47)
  have fl58 := hts (.fieldLink RX4 58 "GroundKeeper$Area" "x0" "I") (List.mem_cons_of_mem _ mw_48)
  have fl61 := hts (.fieldLink RX4 61 "GroundKeeper$Area" "x1" "I") (List.mem_cons_of_mem _ mw_49)
  have fl64 := hts (.fieldLink RX4 64 "GroundKeeper$Area" "y0" "I") (List.mem_cons_of_mem _ mw_50)
  have fl67 := hts (.fieldLink RX4 67 "GroundKeeper$Area" "y1" "I") (List.mem_cons_of_mem _ mw_51)
  have fl70 := hts (.fieldLink RX4 70 "GroundKeeper$Leg" "lo" "I") (List.mem_cons_of_mem _ mw_52)
  have fl73 := hts (.fieldLink RX4 73 "GroundKeeper$Leg" "hi" "I") (List.mem_cons_of_mem _ mw_53)
  have J298 : ∀ (H : Heap) (locs : List Loc) (ce : Nat → va_E), va_P D vwCl (zw 73 ad ce) H → va_S (zA 73 ad) s.heap H locs → gOK cy ad cnt B ce → ∀ ls : Array Slot, lv_has ls 4 [(0, .ref (ad 3))] → W p l e { frames := 0, cells := 0, slots := 0, locals := 0 } s m ([.ref (ad 3), .ref (ad (12 + a1))] : List Value).toArray below meth c H locs 0 0 (MQ below (zQi D 73 ad (fun r ce => gOK cy ad cnt B ce ∧ (0 ≤ r.toInt ∧ r.toInt ≤ 1))) ([.ref (ad 3), .ref (ad (12 + a1))] : List Value).toArray s 0 0 (zA 73 ad)) (F0 m 298 ls []) := by
    intro H locs ce hP hS hO ls hl
    refine lv_aload_n hx hb dX4_meets_298 rfl (lv_at hl 0 rfl) ?_
    obtain ⟨v299, v299a, v299b, v299c, v299d, v299e, v299f, v299g, v299h, v299i, e299⟩ := gg_Le hO
    refine va_get (ci := 4) (C := RX4) (T := TX4) (N := 10) (v := .int v299h) hx hb hts inX4 hown hK hP 3 (zw_at (by decide) e299) rfl 8 (by decide) fl70 (fun _ h => h) rfl dX4_meets_299 ?_
    refine lv_aload_n hx hb dX4_meets_302 rfl (lv_at hl 0 rfl) ?_
    refine va_get (ci := 4) (C := RX4) (T := TX4) (N := 10) (v := .int v299i) hx hb hts inX4 hown hK hP 3 (zw_at (by decide) e299) rfl 9 (by decide) fl73 (fun _ h => h) rfl dX4_meets_303 ?_
    refine z_icmp_gt (tgt := 313) hx hb dX4_meets_306 (by decide) (fun c306 => ?_) (fun c306 => ?_)
    · skip
      refine z_ic hx hb dX4_meets_313 (by decide) (fun v313 h313 => ?_)
      exact z_retz hx hb hr hlocks hP hS dX4_meets_314 (by omega) ⟨hO, (by omega)⟩
    · skip
      refine z_ic hx hb dX4_meets_309 (by decide) (fun v309 h309 => ?_)
      refine lv_goto (tgt := 314) hx hb dX4_meets_310 (by decide) ?_
      exact z_retz hx hb hr hlocks hP hS dX4_meets_314 (by omega) ⟨hO, (by omega)⟩
  have J295 : ∀ (H : Heap) (locs : List Loc) (ce : Nat → va_E) (s1 : Int32), va_P D vwCl (zw 73 ad ce) H → va_S (zA 73 ad) s.heap H locs → gOK cy ad cnt B ce → ∀ ls : Array Slot, lv_has ls 4 [(0, .ref (ad 3))] → W p l e { frames := 0, cells := 0, slots := 0, locals := 0 } s m ([.ref (ad 3), .ref (ad (12 + a1))] : List Value).toArray below meth c H locs 0 0 (MQ below (zQi D 73 ad (fun r ce => gOK cy ad cnt B ce ∧ (0 ≤ r.toInt ∧ r.toInt ≤ 1))) ([.ref (ad 3), .ref (ad (12 + a1))] : List Value).toArray s 0 0 (zA 73 ad)) (F0 m 295 ls [.int s1, .ref (ad 3)]) := by
    intro H locs ce s1 hP hS hO ls hl
    obtain ⟨v295, v295a, v295b, v295c, v295d, v295e, v295f, v295g, v295h, v295i, e295⟩ := gg_Le hO
    refine z_put (q0 := 3) (ci := 4) (C := RX4) (T := TX4) (N := 10) hx hb hts inX4 tyX4 tyX4_ok nmX4 hown hK hJ hP hS (by decide) e295 rfl 9 (by decide) fl73 (fun _ h => h) rfl (ty := .int) (by decide +kernel) rfl rfl (Nat.le_of_ble_eq_true rfl) (fs1 := [.int v295, .int v295a, .int v295b, .int v295c, .int v295d, .int v295e, .int v295f, .int v295g, .int v295h, .int s1]) rfl dX4_meets_295 (fun ce H locs e295a h295 hP hS => ?_)
    have hO := z_up (OKK := gK cy ad cnt B) 3 hO h295 (by rw [e295a]; exact gE_Le |>.mpr ⟨v295, v295a, v295b, v295c, v295d, v295e, v295f, v295g, v295h, s1, rfl⟩)
    exact J298 _ _ _ hP hS hO _ (lv_sub hl [0] rfl)
  have J275 : ∀ (H : Heap) (locs : List Loc) (ce : Nat → va_E) (x3 : Int32) (s1 : Int32), va_P D vwCl (zw 73 ad ce) H → va_S (zA 73 ad) s.heap H locs → gOK cy ad cnt B ce → ∀ ls : Array Slot, lv_has ls 4 [(0, .ref (ad 3)), (3, .int x3)] → W p l e { frames := 0, cells := 0, slots := 0, locals := 0 } s m ([.ref (ad 3), .ref (ad (12 + a1))] : List Value).toArray below meth c H locs 0 0 (MQ below (zQi D 73 ad (fun r ce => gOK cy ad cnt B ce ∧ (0 ≤ r.toInt ∧ r.toInt ≤ 1))) ([.ref (ad 3), .ref (ad (12 + a1))] : List Value).toArray s 0 0 (zA 73 ad)) (F0 m 275 ls [.int s1, .ref (ad 3)]) := by
    intro H locs ce x3 s1 hP hS hO ls hl
    obtain ⟨v275, v275a, v275b, v275c, v275d, v275e, v275f, v275g, v275h, v275i, e275⟩ := gg_Le hO
    refine z_put (q0 := 3) (ci := 4) (C := RX4) (T := TX4) (N := 10) hx hb hts inX4 tyX4 tyX4_ok nmX4 hown hK hJ hP hS (by decide) e275 rfl 8 (by decide) fl70 (fun _ h => h) rfl (ty := .int) (by decide +kernel) rfl rfl (Nat.le_of_ble_eq_true rfl) (fs1 := [.int v275, .int v275a, .int v275b, .int v275c, .int v275d, .int v275e, .int v275f, .int v275g, .int s1, .int v275i]) rfl dX4_meets_275 (fun ce H locs e275a h275 hP hS => ?_)
    have hO := z_up (OKK := gK cy ad cnt B) 3 hO h275 (by rw [e275a]; exact gE_Le |>.mpr ⟨v275, v275a, v275b, v275c, v275d, v275e, v275f, v275g, s1, v275i, rfl⟩)
    refine lv_aload_n hx hb dX4_meets_278 rfl (lv_at hl 0 rfl) ?_
    refine lv_iload_n hx hb dX4_meets_279 rfl (lv_at hl 1 rfl) ?_
    refine lv_aload_n hx hb dX4_meets_280 rfl (lv_at hl 0 rfl) ?_
    refine va_get (ci := 4) (C := RX4) (T := TX4) (N := 10) (v := .int v275i) hx hb hts inX4 hown hK hP 3 (zw_at (by decide) e275a) rfl 9 (by decide) fl73 (fun _ h => h) rfl dX4_meets_281 ?_
    refine z_icmp_ge (tgt := 291) hx hb dX4_meets_284 (by decide) (fun c284 => ?_) (fun c284 => ?_)
    · skip
      refine lv_aload_n hx hb dX4_meets_291 rfl (lv_at hl 0 rfl) ?_
      refine va_get (ci := 4) (C := RX4) (T := TX4) (N := 10) (v := .int v275i) hx hb hts inX4 hown hK hP 3 (zw_at (by decide) e275a) rfl 9 (by decide) fl73 (fun _ h => h) rfl dX4_meets_292 ?_
      exact J295 _ _ _ v275i hP hS hO _ (lv_sub hl [0] rfl)
    · skip
      refine lv_iload_n hx hb dX4_meets_287 rfl (lv_at hl 1 rfl) ?_
      refine lv_goto (tgt := 295) hx hb dX4_meets_288 (by decide) ?_
      exact J295 _ _ _ x3 hP hS hO _ (lv_sub hl [0] rfl)
  have J247 : ∀ (H : Heap) (locs : List Loc) (ce : Nat → va_E) (x2 : Int32) (s0 : Int32), va_P D vwCl (zw 73 ad ce) H → va_S (zA 73 ad) s.heap H locs → gOK cy ad cnt B ce → ∀ ls : Array Slot, lv_has ls 4 [(0, .ref (ad 3)), (2, .int x2)] → W p l e { frames := 0, cells := 0, slots := 0, locals := 0 } s m ([.ref (ad 3), .ref (ad (12 + a1))] : List Value).toArray below meth c H locs 0 0 (MQ below (zQi D 73 ad (fun r ce => gOK cy ad cnt B ce ∧ (0 ≤ r.toInt ∧ r.toInt ≤ 1))) ([.ref (ad 3), .ref (ad (12 + a1))] : List Value).toArray s 0 0 (zA 73 ad)) (F0 m 247 ls [.int s0]) := by
    intro H locs ce x2 s0 hP hS hO ls hl
    refine lv_aload_n hx hb dX4_meets_247 rfl (lv_at hl 0 rfl) ?_
    obtain ⟨v248, v248a, v248b, v248c, v248d, v248e, v248f, v248g, v248h, v248i, e248⟩ := gg_Le hO
    refine va_get (ci := 4) (C := RX4) (T := TX4) (N := 10) (v := .int v248b) hx hb hts inX4 hown hK hP 3 (zw_at (by decide) e248) rfl 2 (by decide) fl28 (fun _ h => h) rfl dX4_meets_248 ?_
    refine lv_isub hx hb dX4_meets_251 ?_
    refine lv_topi (fun v251 _ => ?_)
    refine lv_aload_n hx hb dX4_meets_252 rfl (lv_at hl 0 rfl) ?_
    refine va_get (ci := 4) (C := RX4) (T := TX4) (N := 10) (v := .int v248g) hx hb hts inX4 hown hK hP 3 (zw_at (by decide) e248) rfl 7 (by decide) fl52 (fun _ h => h) rfl dX4_meets_253 ?_
    refine lv_imul hx hb dX4_meets_256 ?_
    refine lv_topi (fun v256 _ => ?_)
    refine lv_istore_n (lv' := [(3, .int v256), (0, .ref (ad 3)), (2, .int x2)]) hx hb dX4_meets_257 rfl hl (by decide) rfl (fun ls hl => ?_)
    refine lv_aload_n hx hb dX4_meets_258 rfl (lv_at hl 1 rfl) ?_
    refine lv_iload_n hx hb dX4_meets_259 rfl (lv_at hl 2 rfl) ?_
    refine lv_aload_n hx hb dX4_meets_260 rfl (lv_at hl 1 rfl) ?_
    refine va_get (ci := 4) (C := RX4) (T := TX4) (N := 10) (v := .int v248h) hx hb hts inX4 hown hK hP 3 (zw_at (by decide) e248) rfl 8 (by decide) fl70 (fun _ h => h) rfl dX4_meets_261 ?_
    refine z_icmp_le (tgt := 271) hx hb dX4_meets_264 (by decide) (fun c264 => ?_) (fun c264 => ?_)
    · skip
      refine lv_aload_n hx hb dX4_meets_271 rfl (lv_at hl 1 rfl) ?_
      refine va_get (ci := 4) (C := RX4) (T := TX4) (N := 10) (v := .int v248h) hx hb hts inX4 hown hK hP 3 (zw_at (by decide) e248) rfl 8 (by decide) fl70 (fun _ h => h) rfl dX4_meets_272 ?_
      exact J275 _ _ _ v256 v248h hP hS hO _ (lv_sub hl [1, 0] rfl)
    · skip
      refine lv_iload_n hx hb dX4_meets_267 rfl (lv_at hl 2 rfl) ?_
      refine lv_goto (tgt := 275) hx hb dX4_meets_268 (by decide) ?_
      exact J275 _ _ _ v256 x2 hP hS hO _ (lv_sub hl [1, 0] rfl)
  have J218 : ∀ (H : Heap) (locs : List Loc) (ce : Nat → va_E) (j1 : Nat) (s0 : Int32), va_P D vwCl (zw 73 ad ce) H → va_S (zA 73 ad) s.heap H locs → gOK cy ad cnt B ce → (j1 < 32) → ∀ ls : Array Slot, lv_has ls 4 [(0, .ref (ad 3)), (1, .ref (ad (12 + j1)))] → W p l e { frames := 0, cells := 0, slots := 0, locals := 0 } s m ([.ref (ad 3), .ref (ad (12 + a1))] : List Value).toArray below meth c H locs 0 0 (MQ below (zQi D 73 ad (fun r ce => gOK cy ad cnt B ce ∧ (0 ≤ r.toInt ∧ r.toInt ≤ 1))) ([.ref (ad 3), .ref (ad (12 + a1))] : List Value).toArray s 0 0 (zA 73 ad)) (F0 m 218 ls [.int s0]) := by
    intro H locs ce j1 s0 hP hS hO q_j1 ls hl
    refine lv_aload_n hx hb dX4_meets_218 rfl (lv_at hl 0 rfl) ?_
    obtain ⟨v219, v219a, v219b, v219c, v219d, v219e, v219f, v219g, v219h, v219i, e219⟩ := gg_Le hO
    refine va_get (ci := 4) (C := RX4) (T := TX4) (N := 10) (v := .int v219b) hx hb hts inX4 hown hK hP 3 (zw_at (by decide) e219) rfl 2 (by decide) fl28 (fun _ h => h) rfl dX4_meets_219 ?_
    refine lv_isub hx hb dX4_meets_222 ?_
    refine lv_topi (fun v222 _ => ?_)
    refine lv_aload_n hx hb dX4_meets_223 rfl (lv_at hl 0 rfl) ?_
    refine va_get (ci := 4) (C := RX4) (T := TX4) (N := 10) (v := .int v219g) hx hb hts inX4 hown hK hP 3 (zw_at (by decide) e219) rfl 7 (by decide) fl52 (fun _ h => h) rfl dX4_meets_224 ?_
    refine lv_imul hx hb dX4_meets_227 ?_
    refine lv_topi (fun v227 _ => ?_)
    refine lv_istore_n (lv' := [(2, .int v227), (0, .ref (ad 3)), (1, .ref (ad (12 + j1)))]) hx hb dX4_meets_228 rfl hl (by decide) rfl (fun ls hl => ?_)
    refine lv_aload_n hx hb dX4_meets_229 rfl (lv_at hl 1 rfl) ?_
    refine va_get (ci := 4) (C := RX4) (T := TX4) (N := 10) (v := .int v219d) hx hb hts inX4 hown hK hP 3 (zw_at (by decide) e219) rfl 4 (by decide) fl34 (fun _ h => h) rfl dX4_meets_230 ?_
    refine z_if_le (tgt := 243) hx hb dX4_meets_233 (by decide) (fun c233 => ?_) (fun c233 => ?_)
    · skip
      refine lv_aload_n hx hb dX4_meets_243 rfl (lv_at hl 2 rfl) ?_
      obtain ⟨v244, v244a, v244b, v244c, v244d, v244e, e244⟩ := gg_Ar hO (j := j1) (by omega)
      refine va_get (ci := 0) (C := RX0) (T := TX0) (N := 6) (v := .int v244b) hx hb hts inX0 hown hK hP (12 + j1) (zw_at (by omega) e244) rfl 2 (by decide) fl64 (fun _ h => h) rfl dX4_meets_244 ?_
      exact J247 _ _ _ v227 v244b hP hS hO _ (lv_sub hl [1, 0] rfl)
    · skip
      refine lv_aload_n hx hb dX4_meets_236 rfl (lv_at hl 2 rfl) ?_
      obtain ⟨v237, v237a, v237b, v237c, v237d, v237e, e237⟩ := gg_Ar hO (j := j1) (by omega)
      refine va_get (ci := 0) (C := RX0) (T := TX0) (N := 6) (v := .int v237d) hx hb hts inX0 hown hK hP (12 + j1) (zw_at (by omega) e237) rfl 4 (by decide) fl67 (fun _ h => h) rfl dX4_meets_237 ?_
      refine lv_goto (tgt := 247) hx hb dX4_meets_240 (by decide) ?_
      exact J247 _ _ _ v227 v237d hP hS hO _ (lv_sub hl [1, 0] rfl)
  have J193 : ∀ (H : Heap) (locs : List Loc) (ce : Nat → va_E) (j1 : Nat), va_P D vwCl (zw 73 ad ce) H → va_S (zA 73 ad) s.heap H locs → gOK cy ad cnt B ce → (j1 < 32) → ∀ ls : Array Slot, lv_has ls 4 [(0, .ref (ad 3)), (1, .ref (ad (12 + j1)))] → W p l e { frames := 0, cells := 0, slots := 0, locals := 0 } s m ([.ref (ad 3), .ref (ad (12 + a1))] : List Value).toArray below meth c H locs 0 0 (MQ below (zQi D 73 ad (fun r ce => gOK cy ad cnt B ce ∧ (0 ≤ r.toInt ∧ r.toInt ≤ 1))) ([.ref (ad 3), .ref (ad (12 + a1))] : List Value).toArray s 0 0 (zA 73 ad)) (F0 m 193 ls []) := by
    intro H locs ce j1 hP hS hO q_j1 ls hl
    refine lv_aload_n hx hb dX4_meets_193 rfl (lv_at hl 0 rfl) ?_
    obtain ⟨v194, v194a, v194b, v194c, v194d, v194e, v194f, v194g, v194h, v194i, e194⟩ := gg_Le hO
    refine va_get (ci := 4) (C := RX4) (T := TX4) (N := 10) (v := .int v194d) hx hb hts inX4 hown hK hP 3 (zw_at (by decide) e194) rfl 4 (by decide) fl34 (fun _ h => h) rfl dX4_meets_194 ?_
    refine z_if_eq (tgt := 298) hx hb dX4_meets_197 (by decide) (fun c197 => ?_) (fun c197 => ?_)
    · skip
      exact J298 _ _ _ hP hS hO _ (lv_sub hl [0] rfl)
    · skip
      refine lv_aload_n hx hb dX4_meets_200 rfl (lv_at hl 0 rfl) ?_
      refine va_get (ci := 4) (C := RX4) (T := TX4) (N := 10) (v := .int v194d) hx hb hts inX4 hown hK hP 3 (zw_at (by decide) e194) rfl 4 (by decide) fl34 (fun _ h => h) rfl dX4_meets_201 ?_
      refine z_if_le (tgt := 214) hx hb dX4_meets_204 (by decide) (fun c204 => ?_) (fun c204 => ?_)
      · skip
        refine lv_aload_n hx hb dX4_meets_214 rfl (lv_at hl 1 rfl) ?_
        obtain ⟨v215, v215a, v215b, v215c, v215d, v215e, e215⟩ := gg_Ar hO (j := j1) (by omega)
        refine va_get (ci := 0) (C := RX0) (T := TX0) (N := 6) (v := .int v215d) hx hb hts inX0 hown hK hP (12 + j1) (zw_at (by omega) e215) rfl 4 (by decide) fl67 (fun _ h => h) rfl dX4_meets_215 ?_
        exact J218 _ _ _ j1 v215d hP hS hO (by omega) _ (lv_sub hl [0, 1] rfl)
      · skip
        refine lv_aload_n hx hb dX4_meets_207 rfl (lv_at hl 1 rfl) ?_
        obtain ⟨v208, v208a, v208b, v208c, v208d, v208e, e208⟩ := gg_Ar hO (j := j1) (by omega)
        refine va_get (ci := 0) (C := RX0) (T := TX0) (N := 6) (v := .int v208b) hx hb hts inX0 hown hK hP (12 + j1) (zw_at (by omega) e208) rfl 2 (by decide) fl64 (fun _ h => h) rfl dX4_meets_208 ?_
        refine lv_goto (tgt := 218) hx hb dX4_meets_211 (by decide) ?_
        exact J218 _ _ _ j1 v208b hP hS hO (by omega) _ (lv_sub hl [0, 1] rfl)
  have J190 : ∀ (H : Heap) (locs : List Loc) (ce : Nat → va_E) (j1 : Nat) (s1 : Int32), va_P D vwCl (zw 73 ad ce) H → va_S (zA 73 ad) s.heap H locs → gOK cy ad cnt B ce → (j1 < 32) → ∀ ls : Array Slot, lv_has ls 4 [(0, .ref (ad 3)), (1, .ref (ad (12 + j1)))] → W p l e { frames := 0, cells := 0, slots := 0, locals := 0 } s m ([.ref (ad 3), .ref (ad (12 + a1))] : List Value).toArray below meth c H locs 0 0 (MQ below (zQi D 73 ad (fun r ce => gOK cy ad cnt B ce ∧ (0 ≤ r.toInt ∧ r.toInt ≤ 1))) ([.ref (ad 3), .ref (ad (12 + a1))] : List Value).toArray s 0 0 (zA 73 ad)) (F0 m 190 ls [.int s1, .ref (ad 3)]) := by
    intro H locs ce j1 s1 hP hS hO q_j1 ls hl
    obtain ⟨v190, v190a, v190b, v190c, v190d, v190e, v190f, v190g, v190h, v190i, e190⟩ := gg_Le hO
    refine z_put (q0 := 3) (ci := 4) (C := RX4) (T := TX4) (N := 10) hx hb hts inX4 tyX4 tyX4_ok nmX4 hown hK hJ hP hS (by decide) e190 rfl 9 (by decide) fl73 (fun _ h => h) rfl (ty := .int) (by decide +kernel) rfl rfl (Nat.le_of_ble_eq_true rfl) (fs1 := [.int v190, .int v190a, .int v190b, .int v190c, .int v190d, .int v190e, .int v190f, .int v190g, .int v190h, .int s1]) rfl dX4_meets_190 (fun ce H locs e190a h190 hP hS => ?_)
    have hO := z_up (OKK := gK cy ad cnt B) 3 hO h190 (by rw [e190a]; exact gE_Le |>.mpr ⟨v190, v190a, v190b, v190c, v190d, v190e, v190f, v190g, v190h, s1, rfl⟩)
    exact J193 _ _ _ j1 hP hS hO (by omega) _ (lv_sub hl [0, 1] rfl)
  have J170 : ∀ (H : Heap) (locs : List Loc) (ce : Nat → va_E) (j1 : Nat) (x3 : Int32) (s1 : Int32), va_P D vwCl (zw 73 ad ce) H → va_S (zA 73 ad) s.heap H locs → gOK cy ad cnt B ce → (j1 < 32) → ∀ ls : Array Slot, lv_has ls 4 [(0, .ref (ad 3)), (1, .ref (ad (12 + j1))), (3, .int x3)] → W p l e { frames := 0, cells := 0, slots := 0, locals := 0 } s m ([.ref (ad 3), .ref (ad (12 + a1))] : List Value).toArray below meth c H locs 0 0 (MQ below (zQi D 73 ad (fun r ce => gOK cy ad cnt B ce ∧ (0 ≤ r.toInt ∧ r.toInt ≤ 1))) ([.ref (ad 3), .ref (ad (12 + a1))] : List Value).toArray s 0 0 (zA 73 ad)) (F0 m 170 ls [.int s1, .ref (ad 3)]) := by
    intro H locs ce j1 x3 s1 hP hS hO q_j1 ls hl
    obtain ⟨v170, v170a, v170b, v170c, v170d, v170e, v170f, v170g, v170h, v170i, e170⟩ := gg_Le hO
    refine z_put (q0 := 3) (ci := 4) (C := RX4) (T := TX4) (N := 10) hx hb hts inX4 tyX4 tyX4_ok nmX4 hown hK hJ hP hS (by decide) e170 rfl 8 (by decide) fl70 (fun _ h => h) rfl (ty := .int) (by decide +kernel) rfl rfl (Nat.le_of_ble_eq_true rfl) (fs1 := [.int v170, .int v170a, .int v170b, .int v170c, .int v170d, .int v170e, .int v170f, .int v170g, .int s1, .int v170i]) rfl dX4_meets_170 (fun ce H locs e170a h170 hP hS => ?_)
    have hO := z_up (OKK := gK cy ad cnt B) 3 hO h170 (by rw [e170a]; exact gE_Le |>.mpr ⟨v170, v170a, v170b, v170c, v170d, v170e, v170f, v170g, s1, v170i, rfl⟩)
    refine lv_aload_n hx hb dX4_meets_173 rfl (lv_at hl 0 rfl) ?_
    refine lv_iload_n hx hb dX4_meets_174 rfl (lv_at hl 2 rfl) ?_
    refine lv_aload_n hx hb dX4_meets_175 rfl (lv_at hl 0 rfl) ?_
    refine va_get (ci := 4) (C := RX4) (T := TX4) (N := 10) (v := .int v170i) hx hb hts inX4 hown hK hP 3 (zw_at (by decide) e170a) rfl 9 (by decide) fl73 (fun _ h => h) rfl dX4_meets_176 ?_
    refine z_icmp_ge (tgt := 186) hx hb dX4_meets_179 (by decide) (fun c179 => ?_) (fun c179 => ?_)
    · skip
      refine lv_aload_n hx hb dX4_meets_186 rfl (lv_at hl 0 rfl) ?_
      refine va_get (ci := 4) (C := RX4) (T := TX4) (N := 10) (v := .int v170i) hx hb hts inX4 hown hK hP 3 (zw_at (by decide) e170a) rfl 9 (by decide) fl73 (fun _ h => h) rfl dX4_meets_187 ?_
      exact J190 _ _ _ j1 v170i hP hS hO (by omega) _ (lv_sub hl [0, 1] rfl)
    · skip
      refine lv_iload_n hx hb dX4_meets_182 rfl (lv_at hl 2 rfl) ?_
      refine lv_goto (tgt := 190) hx hb dX4_meets_183 (by decide) ?_
      exact J190 _ _ _ j1 x3 hP hS hO (by omega) _ (lv_sub hl [0, 1] rfl)
  have J142 : ∀ (H : Heap) (locs : List Loc) (ce : Nat → va_E) (j1 : Nat) (x2 : Int32) (s0 : Int32), va_P D vwCl (zw 73 ad ce) H → va_S (zA 73 ad) s.heap H locs → gOK cy ad cnt B ce → (j1 < 32) → ∀ ls : Array Slot, lv_has ls 4 [(0, .ref (ad 3)), (1, .ref (ad (12 + j1))), (2, .int x2)] → W p l e { frames := 0, cells := 0, slots := 0, locals := 0 } s m ([.ref (ad 3), .ref (ad (12 + a1))] : List Value).toArray below meth c H locs 0 0 (MQ below (zQi D 73 ad (fun r ce => gOK cy ad cnt B ce ∧ (0 ≤ r.toInt ∧ r.toInt ≤ 1))) ([.ref (ad 3), .ref (ad (12 + a1))] : List Value).toArray s 0 0 (zA 73 ad)) (F0 m 142 ls [.int s0]) := by
    intro H locs ce j1 x2 s0 hP hS hO q_j1 ls hl
    refine lv_aload_n hx hb dX4_meets_142 rfl (lv_at hl 0 rfl) ?_
    obtain ⟨v143, v143a, v143b, v143c, v143d, v143e, v143f, v143g, v143h, v143i, e143⟩ := gg_Le hO
    refine va_get (ci := 4) (C := RX4) (T := TX4) (N := 10) (v := .int v143a) hx hb hts inX4 hown hK hP 3 (zw_at (by decide) e143) rfl 1 (by decide) fl22 (fun _ h => h) rfl dX4_meets_143 ?_
    refine lv_isub hx hb dX4_meets_146 ?_
    refine lv_topi (fun v146 _ => ?_)
    refine lv_aload_n hx hb dX4_meets_147 rfl (lv_at hl 0 rfl) ?_
    refine va_get (ci := 4) (C := RX4) (T := TX4) (N := 10) (v := .int v143f) hx hb hts inX4 hown hK hP 3 (zw_at (by decide) e143) rfl 6 (by decide) fl49 (fun _ h => h) rfl dX4_meets_148 ?_
    refine lv_imul hx hb dX4_meets_151 ?_
    refine lv_topi (fun v151 _ => ?_)
    refine lv_istore_n (lv' := [(3, .int v151), (0, .ref (ad 3)), (1, .ref (ad (12 + j1))), (2, .int x2)]) hx hb dX4_meets_152 rfl hl (by decide) rfl (fun ls hl => ?_)
    refine lv_aload_n hx hb dX4_meets_153 rfl (lv_at hl 1 rfl) ?_
    refine lv_iload_n hx hb dX4_meets_154 rfl (lv_at hl 3 rfl) ?_
    refine lv_aload_n hx hb dX4_meets_155 rfl (lv_at hl 1 rfl) ?_
    refine va_get (ci := 4) (C := RX4) (T := TX4) (N := 10) (v := .int v143h) hx hb hts inX4 hown hK hP 3 (zw_at (by decide) e143) rfl 8 (by decide) fl70 (fun _ h => h) rfl dX4_meets_156 ?_
    refine z_icmp_le (tgt := 166) hx hb dX4_meets_159 (by decide) (fun c159 => ?_) (fun c159 => ?_)
    · skip
      refine lv_aload_n hx hb dX4_meets_166 rfl (lv_at hl 1 rfl) ?_
      refine va_get (ci := 4) (C := RX4) (T := TX4) (N := 10) (v := .int v143h) hx hb hts inX4 hown hK hP 3 (zw_at (by decide) e143) rfl 8 (by decide) fl70 (fun _ h => h) rfl dX4_meets_167 ?_
      exact J170 _ _ _ j1 v151 v143h hP hS hO (by omega) _ (lv_sub hl [1, 2, 0] rfl)
    · skip
      refine lv_iload_n hx hb dX4_meets_162 rfl (lv_at hl 3 rfl) ?_
      refine lv_goto (tgt := 170) hx hb dX4_meets_163 (by decide) ?_
      exact J170 _ _ _ j1 v151 x2 hP hS hO (by omega) _ (lv_sub hl [1, 2, 0] rfl)
  have J113 : ∀ (H : Heap) (locs : List Loc) (ce : Nat → va_E) (j1 : Nat) (s0 : Int32), va_P D vwCl (zw 73 ad ce) H → va_S (zA 73 ad) s.heap H locs → gOK cy ad cnt B ce → (j1 < 32) → ∀ ls : Array Slot, lv_has ls 4 [(0, .ref (ad 3)), (1, .ref (ad (12 + j1)))] → W p l e { frames := 0, cells := 0, slots := 0, locals := 0 } s m ([.ref (ad 3), .ref (ad (12 + a1))] : List Value).toArray below meth c H locs 0 0 (MQ below (zQi D 73 ad (fun r ce => gOK cy ad cnt B ce ∧ (0 ≤ r.toInt ∧ r.toInt ≤ 1))) ([.ref (ad 3), .ref (ad (12 + a1))] : List Value).toArray s 0 0 (zA 73 ad)) (F0 m 113 ls [.int s0]) := by
    intro H locs ce j1 s0 hP hS hO q_j1 ls hl
    refine lv_aload_n hx hb dX4_meets_113 rfl (lv_at hl 0 rfl) ?_
    obtain ⟨v114, v114a, v114b, v114c, v114d, v114e, v114f, v114g, v114h, v114i, e114⟩ := gg_Le hO
    refine va_get (ci := 4) (C := RX4) (T := TX4) (N := 10) (v := .int v114a) hx hb hts inX4 hown hK hP 3 (zw_at (by decide) e114) rfl 1 (by decide) fl22 (fun _ h => h) rfl dX4_meets_114 ?_
    refine lv_isub hx hb dX4_meets_117 ?_
    refine lv_topi (fun v117 _ => ?_)
    refine lv_aload_n hx hb dX4_meets_118 rfl (lv_at hl 0 rfl) ?_
    refine va_get (ci := 4) (C := RX4) (T := TX4) (N := 10) (v := .int v114f) hx hb hts inX4 hown hK hP 3 (zw_at (by decide) e114) rfl 6 (by decide) fl49 (fun _ h => h) rfl dX4_meets_119 ?_
    refine lv_imul hx hb dX4_meets_122 ?_
    refine lv_topi (fun v122 _ => ?_)
    refine lv_istore_n (lv' := [(2, .int v122), (0, .ref (ad 3)), (1, .ref (ad (12 + j1)))]) hx hb dX4_meets_123 rfl hl (by decide) rfl (fun ls hl => ?_)
    refine lv_aload_n hx hb dX4_meets_124 rfl (lv_at hl 1 rfl) ?_
    refine va_get (ci := 4) (C := RX4) (T := TX4) (N := 10) (v := .int v114c) hx hb hts inX4 hown hK hP 3 (zw_at (by decide) e114) rfl 3 (by decide) fl31 (fun _ h => h) rfl dX4_meets_125 ?_
    refine z_if_le (tgt := 138) hx hb dX4_meets_128 (by decide) (fun c128 => ?_) (fun c128 => ?_)
    · skip
      refine lv_aload_n hx hb dX4_meets_138 rfl (lv_at hl 2 rfl) ?_
      obtain ⟨v139, v139a, v139b, v139c, v139d, v139e, e139⟩ := gg_Ar hO (j := j1) (by omega)
      refine va_get (ci := 0) (C := RX0) (T := TX0) (N := 6) (v := .int v139a) hx hb hts inX0 hown hK hP (12 + j1) (zw_at (by omega) e139) rfl 1 (by decide) fl58 (fun _ h => h) rfl dX4_meets_139 ?_
      exact J142 _ _ _ j1 v122 v139a hP hS hO (by omega) _ (lv_sub hl [1, 2, 0] rfl)
    · skip
      refine lv_aload_n hx hb dX4_meets_131 rfl (lv_at hl 2 rfl) ?_
      obtain ⟨v132, v132a, v132b, v132c, v132d, v132e, e132⟩ := gg_Ar hO (j := j1) (by omega)
      refine va_get (ci := 0) (C := RX0) (T := TX0) (N := 6) (v := .int v132c) hx hb hts inX0 hown hK hP (12 + j1) (zw_at (by omega) e132) rfl 3 (by decide) fl61 (fun _ h => h) rfl dX4_meets_132 ?_
      refine lv_goto (tgt := 142) hx hb dX4_meets_135 (by decide) ?_
      exact J142 _ _ _ j1 v122 v132c hP hS hO (by omega) _ (lv_sub hl [1, 2, 0] rfl)
  have J75 : ∀ (H : Heap) (locs : List Loc) (ce : Nat → va_E) (j1 : Nat), va_P D vwCl (zw 73 ad ce) H → va_S (zA 73 ad) s.heap H locs → gOK cy ad cnt B ce → (j1 < 32) → ∀ ls : Array Slot, lv_has ls 4 [(0, .ref (ad 3)), (1, .ref (ad (12 + j1)))] → W p l e { frames := 0, cells := 0, slots := 0, locals := 0 } s m ([.ref (ad 3), .ref (ad (12 + a1))] : List Value).toArray below meth c H locs 0 0 (MQ below (zQi D 73 ad (fun r ce => gOK cy ad cnt B ce ∧ (0 ≤ r.toInt ∧ r.toInt ≤ 1))) ([.ref (ad 3), .ref (ad (12 + a1))] : List Value).toArray s 0 0 (zA 73 ad)) (F0 m 75 ls []) := by
    intro H locs ce j1 hP hS hO q_j1 ls hl
    refine lv_aload_n hx hb dX4_meets_75 rfl (lv_at hl 0 rfl) ?_
    refine z_ic hx hb dX4_meets_76 (by decide) (fun v76 h76 => ?_)
    obtain ⟨v77, v77a, v77b, v77c, v77d, v77e, v77f, v77g, v77h, v77i, e77⟩ := gg_Le hO
    refine z_put (q0 := 3) (ci := 4) (C := RX4) (T := TX4) (N := 10) hx hb hts inX4 tyX4 tyX4_ok nmX4 hown hK hJ hP hS (by decide) e77 rfl 8 (by decide) fl70 (fun _ h => h) rfl (ty := .int) (by decide +kernel) rfl rfl (Nat.le_of_ble_eq_true rfl) (fs1 := [.int v77, .int v77a, .int v77b, .int v77c, .int v77d, .int v77e, .int v77f, .int v77g, .int v76, .int v77i]) rfl dX4_meets_77 (fun ce H locs e77a h77 hP hS => ?_)
    have hO := z_up (OKK := gK cy ad cnt B) 3 hO h77 (by rw [e77a]; exact gE_Le |>.mpr ⟨v77, v77a, v77b, v77c, v77d, v77e, v77f, v77g, v76, v77i, rfl⟩)
    refine lv_aload_n hx hb dX4_meets_80 rfl (lv_at hl 0 rfl) ?_
    refine lv_aload_n hx hb dX4_meets_81 rfl (lv_at hl 0 rfl) ?_
    refine va_get (ci := 4) (C := RX4) (T := TX4) (N := 10) (v := .int v77e) hx hb hts inX4 hown hK hP 3 (zw_at (by decide) e77a) rfl 5 (by decide) fl46 (fun _ h => h) rfl dX4_meets_82 ?_
    refine z_put (q0 := 3) (ci := 4) (C := RX4) (T := TX4) (N := 10) hx hb hts inX4 tyX4 tyX4_ok nmX4 hown hK hJ hP hS (by decide) e77a rfl 9 (by decide) fl73 (fun _ h => h) rfl (ty := .int) (by decide +kernel) rfl rfl (Nat.le_of_ble_eq_true rfl) (fs1 := [.int v77, .int v77a, .int v77b, .int v77c, .int v77d, .int v77e, .int v77f, .int v77g, .int v76, .int v77e]) rfl dX4_meets_85 (fun ce H locs e85 h85 hP hS => ?_)
    have hO := z_up (OKK := gK cy ad cnt B) 3 hO h85 (by rw [e85]; exact gE_Le |>.mpr ⟨v77, v77a, v77b, v77c, v77d, v77e, v77f, v77g, v76, v77e, rfl⟩)
    refine lv_aload_n hx hb dX4_meets_88 rfl (lv_at hl 0 rfl) ?_
    refine va_get (ci := 4) (C := RX4) (T := TX4) (N := 10) (v := .int v77c) hx hb hts inX4 hown hK hP 3 (zw_at (by decide) e85) rfl 3 (by decide) fl31 (fun _ h => h) rfl dX4_meets_89 ?_
    refine z_if_eq (tgt := 193) hx hb dX4_meets_92 (by decide) (fun c92 => ?_) (fun c92 => ?_)
    · skip
      exact J193 _ _ _ j1 hP hS hO (by omega) _ (lv_sub hl [0, 1] rfl)
    · skip
      refine lv_aload_n hx hb dX4_meets_95 rfl (lv_at hl 0 rfl) ?_
      refine va_get (ci := 4) (C := RX4) (T := TX4) (N := 10) (v := .int v77c) hx hb hts inX4 hown hK hP 3 (zw_at (by decide) e85) rfl 3 (by decide) fl31 (fun _ h => h) rfl dX4_meets_96 ?_
      refine z_if_le (tgt := 109) hx hb dX4_meets_99 (by decide) (fun c99 => ?_) (fun c99 => ?_)
      · skip
        refine lv_aload_n hx hb dX4_meets_109 rfl (lv_at hl 1 rfl) ?_
        obtain ⟨v110, v110a, v110b, v110c, v110d, v110e, e110⟩ := gg_Ar hO (j := j1) (by omega)
        refine va_get (ci := 0) (C := RX0) (T := TX0) (N := 6) (v := .int v110c) hx hb hts inX0 hown hK hP (12 + j1) (zw_at (by omega) e110) rfl 3 (by decide) fl61 (fun _ h => h) rfl dX4_meets_110 ?_
        exact J113 _ _ _ j1 v110c hP hS hO (by omega) _ (lv_sub hl [0, 1] rfl)
      · skip
        refine lv_aload_n hx hb dX4_meets_102 rfl (lv_at hl 1 rfl) ?_
        obtain ⟨v103, v103a, v103b, v103c, v103d, v103e, e103⟩ := gg_Ar hO (j := j1) (by omega)
        refine va_get (ci := 0) (C := RX0) (T := TX0) (N := 6) (v := .int v103a) hx hb hts inX0 hown hK hP (12 + j1) (zw_at (by omega) e103) rfl 1 (by decide) fl58 (fun _ h => h) rfl dX4_meets_103 ?_
        refine lv_goto (tgt := 113) hx hb dX4_meets_106 (by decide) ?_
        exact J113 _ _ _ j1 v103a hP hS hO (by omega) _ (lv_sub hl [0, 1] rfl)
  have J44 : ∀ (H : Heap) (locs : List Loc) (ce : Nat → va_E) (j1 : Nat), va_P D vwCl (zw 73 ad ce) H → va_S (zA 73 ad) s.heap H locs → gOK cy ad cnt B ce → (j1 < 32) → ∀ ls : Array Slot, lv_has ls 4 [(0, .ref (ad 3)), (1, .ref (ad (12 + j1)))] → W p l e { frames := 0, cells := 0, slots := 0, locals := 0 } s m ([.ref (ad 3), .ref (ad (12 + a1))] : List Value).toArray below meth c H locs 0 0 (MQ below (zQi D 73 ad (fun r ce => gOK cy ad cnt B ce ∧ (0 ≤ r.toInt ∧ r.toInt ≤ 1))) ([.ref (ad 3), .ref (ad (12 + a1))] : List Value).toArray s 0 0 (zA 73 ad)) (F0 m 44 ls []) := by
    intro H locs ce j1 hP hS hO q_j1 ls hl
    refine lv_aload_n hx hb dX4_meets_44 rfl (lv_at hl 0 rfl) ?_
    obtain ⟨v45, v45a, v45b, v45c, v45d, v45e, v45f, v45g, v45h, v45i, e45⟩ := gg_Le hO
    refine va_get (ci := 4) (C := RX4) (T := TX4) (N := 10) (v := .int v45d) hx hb hts inX4 hown hK hP 3 (zw_at (by decide) e45) rfl 4 (by decide) fl34 (fun _ h => h) rfl dX4_meets_45 ?_
    refine z_if_ne (tgt := 75) hx hb dX4_meets_48 (by decide) (fun c48 => ?_) (fun c48 => ?_)
    · skip
      exact J75 _ _ _ j1 hP hS hO (by omega) _ (lv_sub hl [0, 1] rfl)
    · skip
      refine lv_aload_n hx hb dX4_meets_51 rfl (lv_at hl 0 rfl) ?_
      refine va_get (ci := 4) (C := RX4) (T := TX4) (N := 10) (v := .int v45b) hx hb hts inX4 hown hK hP 3 (zw_at (by decide) e45) rfl 2 (by decide) fl28 (fun _ h => h) rfl dX4_meets_52 ?_
      refine lv_aload_n hx hb dX4_meets_55 rfl (lv_at hl 1 rfl) ?_
      obtain ⟨v56, v56a, v56b, v56c, v56d, v56e, e56⟩ := gg_Ar hO (j := j1) (by omega)
      refine va_get (ci := 0) (C := RX0) (T := TX0) (N := 6) (v := .int v56b) hx hb hts inX0 hown hK hP (12 + j1) (zw_at (by omega) e56) rfl 2 (by decide) fl64 (fun _ h => h) rfl dX4_meets_56 ?_
      refine z_icmp_lt (tgt := 73) hx hb dX4_meets_59 (by decide) (fun c59 => ?_) (fun c59 => ?_)
      · skip
        refine z_ic hx hb dX4_meets_73 (by decide) (fun v73 h73 => ?_)
        exact z_retz hx hb hr hlocks hP hS dX4_meets_74 (by omega) ⟨hO, (by omega)⟩
      · skip
        refine lv_aload_n hx hb dX4_meets_62 rfl (lv_at hl 0 rfl) ?_
        refine va_get (ci := 4) (C := RX4) (T := TX4) (N := 10) (v := .int v45b) hx hb hts inX4 hown hK hP 3 (zw_at (by decide) e45) rfl 2 (by decide) fl28 (fun _ h => h) rfl dX4_meets_63 ?_
        refine lv_aload_n hx hb dX4_meets_66 rfl (lv_at hl 1 rfl) ?_
        refine va_get (ci := 0) (C := RX0) (T := TX0) (N := 6) (v := .int v56d) hx hb hts inX0 hown hK hP (12 + j1) (zw_at (by omega) e56) rfl 4 (by decide) fl67 (fun _ h => h) rfl dX4_meets_67 ?_
        refine z_icmp_le (tgt := 75) hx hb dX4_meets_70 (by decide) (fun c70 => ?_) (fun c70 => ?_)
        · skip
          exact J75 _ _ _ j1 hP hS hO (by omega) _ (lv_sub hl [0, 1] rfl)
        · skip
          refine z_ic hx hb dX4_meets_73 (by decide) (fun v73 h73 => ?_)
          exact z_retz hx hb hr hlocks hP hS dX4_meets_74 (by omega) ⟨hO, (by omega)⟩
  intro ls hl
  have hl : lv_has ls 4 [(0, .ref (ad 3)), (1, .ref (ad (12 + a1)))] := hl
  refine lv_aload_n hx hb dX4_meets_0 rfl (lv_at hl 0 rfl) ?_
  obtain ⟨v1, v1a, v1b, v1c, v1d, v1e, v1f, v1g, v1h, v1i, e1⟩ := gg_Le hO
  refine va_get (ci := 4) (C := RX4) (T := TX4) (N := 10) (v := .int v1) hx hb hts inX4 hown hK hP 3 (zw_at (by decide) e1) rfl 0 (by decide) fl13 (fun _ h => h) rfl dX4_meets_1 ?_
  refine lv_aload_n hx hb dX4_meets_4 rfl (lv_at hl 1 rfl) ?_
  obtain ⟨v5, v5a, v5b, v5c, v5d, v5e, e5⟩ := gg_Ar hO (j := a1) (by omega)
  refine va_get (ci := 0) (C := RX0) (T := TX0) (N := 6) (v := .int v5) hx hb hts inX0 hown hK hP (12 + a1) (zw_at (by omega) e5) rfl 0 (by decide) fl55 (fun _ h => h) rfl dX4_meets_5 ?_
  refine z_icmp_eq (tgt := 13) hx hb dX4_meets_8 (by decide) (fun c8 => ?_) (fun c8 => ?_)
  · skip
    refine lv_aload_n hx hb dX4_meets_13 rfl (lv_at hl 0 rfl) ?_
    refine va_get (ci := 4) (C := RX4) (T := TX4) (N := 10) (v := .int v1c) hx hb hts inX4 hown hK hP 3 (zw_at (by decide) e1) rfl 3 (by decide) fl31 (fun _ h => h) rfl dX4_meets_14 ?_
    refine z_if_ne (tgt := 44) hx hb dX4_meets_17 (by decide) (fun c17 => ?_) (fun c17 => ?_)
    · skip
      exact J44 _ _ _ a1 hP hS hO (by omega) _ (lv_sub hl [0, 1] rfl)
    · skip
      refine lv_aload_n hx hb dX4_meets_20 rfl (lv_at hl 0 rfl) ?_
      refine va_get (ci := 4) (C := RX4) (T := TX4) (N := 10) (v := .int v1a) hx hb hts inX4 hown hK hP 3 (zw_at (by decide) e1) rfl 1 (by decide) fl22 (fun _ h => h) rfl dX4_meets_21 ?_
      refine lv_aload_n hx hb dX4_meets_24 rfl (lv_at hl 1 rfl) ?_
      refine va_get (ci := 0) (C := RX0) (T := TX0) (N := 6) (v := .int v5a) hx hb hts inX0 hown hK hP (12 + a1) (zw_at (by omega) e5) rfl 1 (by decide) fl58 (fun _ h => h) rfl dX4_meets_25 ?_
      refine z_icmp_lt (tgt := 42) hx hb dX4_meets_28 (by decide) (fun c28 => ?_) (fun c28 => ?_)
      · skip
        refine z_ic hx hb dX4_meets_42 (by decide) (fun v42 h42 => ?_)
        exact z_retz hx hb hr hlocks hP hS dX4_meets_43 (by omega) ⟨hO, (by omega)⟩
      · skip
        refine lv_aload_n hx hb dX4_meets_31 rfl (lv_at hl 0 rfl) ?_
        refine va_get (ci := 4) (C := RX4) (T := TX4) (N := 10) (v := .int v1a) hx hb hts inX4 hown hK hP 3 (zw_at (by decide) e1) rfl 1 (by decide) fl22 (fun _ h => h) rfl dX4_meets_32 ?_
        refine lv_aload_n hx hb dX4_meets_35 rfl (lv_at hl 1 rfl) ?_
        refine va_get (ci := 0) (C := RX0) (T := TX0) (N := 6) (v := .int v5c) hx hb hts inX0 hown hK hP (12 + a1) (zw_at (by omega) e5) rfl 3 (by decide) fl61 (fun _ h => h) rfl dX4_meets_36 ?_
        refine z_icmp_le (tgt := 44) hx hb dX4_meets_39 (by decide) (fun c39 => ?_) (fun c39 => ?_)
        · skip
          exact J44 _ _ _ a1 hP hS hO (by omega) _ (lv_sub hl [0, 1] rfl)
        · skip
          refine z_ic hx hb dX4_meets_42 (by decide) (fun v42 h42 => ?_)
          exact z_retz hx hb hr hlocks hP hS dX4_meets_43 (by omega) ⟨hO, (by omega)⟩
  · skip
    refine z_ic hx hb dX4_meets_11 (by decide) (fun v11 h11 => ?_)
    exact z_retz hx hb hr hlocks hP hS dX4_meets_12 (by omega) ⟨hO, (by omega)⟩
set_option maxHeartbeats 8000000 in
set_option maxRecDepth 100000 in
theorem c_X4_runsInside (l : Launch) (D : va_G) (cy : Nat → ClassId) (ad : Nat → Nat) (cnt : Nat → Nat) (B : Nat) (PP : (Nat → va_E) → Prop) (hJ : zJ 73 ad) (a1 : Nat) (q_a1 : a1 < 32) : zM l D (gT cy) 73 ad (fun c1 => gOK cy ad cnt B c1 ∧ PP c1) yX4_runsInside vsX4_runsInside { frames := 0, cells := 0, slots := 0, locals := 0 } ([.ref (ad 3), .ref (ad (12 + a1))] : List Value) (zQi D 73 ad (fun r ce => (gOK cy ad cnt B ce ∧ PP ce) ∧ (0 ≤ r.toInt ∧ r.toInt ≤ 1))) := by
  refine z_of (cc := cX4_runsInside) (maxL := 4) (ret := (some .boolean)) (by decide) rfl (Nat.le_of_ble_eq_true rfl) ?_
  intro p e s m below meth c hx hb hr hts hown hlocks hml hK hN ce hOK hP
  have hown : s.vm.findClass RX4 = some m.cls := hown
  have hS : va_S (zA 73 ad) s.heap s.heap [] := va_S.rf
  obtain ⟨hO, hPP⟩ := hOK
  have inX0 : ∀ w ∈ u_ws RX0 TX0 6, w ∈ vsX4_runsInside := fun w h => List.mem_cons_of_mem _ (inlX0 w h)
  have inX4 : ∀ w ∈ u_ws RX4 TX4 10, w ∈ vsX4_runsInside := fun w h => List.mem_cons_of_mem _ (inlX4 w h)
  have fl22 := hts (.fieldLink RX4 22 "GroundKeeper$Leg" "ax" "I") (List.mem_cons_of_mem _ mw_36)
  have fl28 := hts (.fieldLink RX4 28 "GroundKeeper$Leg" "ay" "I") (List.mem_cons_of_mem _ mw_37)
  have fl31 := hts (.fieldLink RX4 31 "GroundKeeper$Leg" "dx" "I") (List.mem_cons_of_mem _ mw_38)
  have fl34 := hts (.fieldLink RX4 34 "GroundKeeper$Leg" "dy" "I") (List.mem_cons_of_mem _ mw_39)
  have fl58 := hts (.fieldLink RX4 58 "GroundKeeper$Area" "x0" "I") (List.mem_cons_of_mem _ mw_48)
  have fl61 := hts (.fieldLink RX4 61 "GroundKeeper$Area" "x1" "I") (List.mem_cons_of_mem _ mw_49)
  have fl64 := hts (.fieldLink RX4 64 "GroundKeeper$Area" "y0" "I") (List.mem_cons_of_mem _ mw_50)
  have fl67 := hts (.fieldLink RX4 67 "GroundKeeper$Area" "y1" "I") (List.mem_cons_of_mem _ mw_51)
  have fl70 := hts (.fieldLink RX4 70 "GroundKeeper$Leg" "lo" "I") (List.mem_cons_of_mem _ mw_52)
  have fl73 := hts (.fieldLink RX4 73 "GroundKeeper$Leg" "hi" "I") (List.mem_cons_of_mem _ mw_53)
  have J69 : ∀ (H : Heap) (locs : List Loc) (x2 : Int32) (s0 : Int32), va_P D vwCl (zw 73 ad ce) H → va_S (zA 73 ad) s.heap H locs → (0 ≤ x2.toInt ∧ x2.toInt ≤ 1) → (0 ≤ s0.toInt ∧ s0.toInt ≤ 1) → ∀ ls : Array Slot, lv_has ls 4 [(0, .ref (ad 3)), (2, .int x2)] → W p l e { frames := 0, cells := 0, slots := 0, locals := 0 } s m ([.ref (ad 3), .ref (ad (12 + a1))] : List Value).toArray below meth c H locs 0 0 (MQ below (zQi D 73 ad (fun r ce => (gOK cy ad cnt B ce ∧ PP ce) ∧ (0 ≤ r.toInt ∧ r.toInt ≤ 1))) ([.ref (ad 3), .ref (ad (12 + a1))] : List Value).toArray s 0 0 (zA 73 ad)) (F0 m 69 ls [.int s0]) := by
    intro H locs x2 s0 hP hS q_x2 q_s0 ls hl
    refine lv_istore_n (lv' := [(3, .int s0), (0, .ref (ad 3)), (2, .int x2)]) hx hb dX4_runsInside_69 rfl hl (by decide) rfl (fun ls hl => ?_)
    refine lv_aload_n hx hb dX4_runsInside_70 rfl (lv_at hl 1 rfl) ?_
    obtain ⟨v71, v71a, v71b, v71c, v71d, v71e, v71f, v71g, v71h, v71i, e71⟩ := gg_Le hO
    refine va_get (ci := 4) (C := RX4) (T := TX4) (N := 10) (v := .int v71h) hx hb hts inX4 hown hK hP 3 (zw_at (by decide) e71) rfl 8 (by decide) fl70 (fun _ h => h) rfl dX4_runsInside_71 ?_
    refine lv_aload_n hx hb dX4_runsInside_74 rfl (lv_at hl 1 rfl) ?_
    refine va_get (ci := 4) (C := RX4) (T := TX4) (N := 10) (v := .int v71i) hx hb hts inX4 hown hK hP 3 (zw_at (by decide) e71) rfl 9 (by decide) fl73 (fun _ h => h) rfl dX4_runsInside_75 ?_
    refine z_icmp_ge (tgt := 93) hx hb dX4_runsInside_78 (by decide) (fun c78 => ?_) (fun c78 => ?_)
    · skip
      refine z_ic hx hb dX4_runsInside_93 (by decide) (fun v93 h93 => ?_)
      exact z_retz hx hb hr hlocks hP hS dX4_runsInside_94 (by omega) ⟨⟨hO, hPP⟩, (by omega)⟩
    · skip
      refine lv_iload_n hx hb dX4_runsInside_81 rfl (lv_at hl 2 rfl) ?_
      refine z_if_eq (tgt := 93) hx hb dX4_runsInside_82 (by decide) (fun c82 => ?_) (fun c82 => ?_)
      · skip
        refine z_ic hx hb dX4_runsInside_93 (by decide) (fun v93 h93 => ?_)
        exact z_retz hx hb hr hlocks hP hS dX4_runsInside_94 (by omega) ⟨⟨hO, hPP⟩, (by omega)⟩
      · skip
        refine lv_iload_n hx hb dX4_runsInside_85 rfl (lv_at hl 0 rfl) ?_
        refine z_if_eq (tgt := 93) hx hb dX4_runsInside_86 (by decide) (fun c86 => ?_) (fun c86 => ?_)
        · skip
          refine z_ic hx hb dX4_runsInside_93 (by decide) (fun v93 h93 => ?_)
          exact z_retz hx hb hr hlocks hP hS dX4_runsInside_94 (by omega) ⟨⟨hO, hPP⟩, (by omega)⟩
        · skip
          refine z_ic hx hb dX4_runsInside_89 (by decide) (fun v89 h89 => ?_)
          refine lv_goto (tgt := 94) hx hb dX4_runsInside_90 (by decide) ?_
          exact z_retz hx hb hr hlocks hP hS dX4_runsInside_94 (by omega) ⟨⟨hO, hPP⟩, (by omega)⟩
  have J68 : ∀ (H : Heap) (locs : List Loc) (x2 : Int32), va_P D vwCl (zw 73 ad ce) H → va_S (zA 73 ad) s.heap H locs → (0 ≤ x2.toInt ∧ x2.toInt ≤ 1) → ∀ ls : Array Slot, lv_has ls 4 [(0, .ref (ad 3)), (2, .int x2)] → W p l e { frames := 0, cells := 0, slots := 0, locals := 0 } s m ([.ref (ad 3), .ref (ad (12 + a1))] : List Value).toArray below meth c H locs 0 0 (MQ below (zQi D 73 ad (fun r ce => (gOK cy ad cnt B ce ∧ PP ce) ∧ (0 ≤ r.toInt ∧ r.toInt ≤ 1))) ([.ref (ad 3), .ref (ad (12 + a1))] : List Value).toArray s 0 0 (zA 73 ad)) (F0 m 68 ls []) := by
    intro H locs x2 hP hS q_x2 ls hl
    refine z_ic hx hb dX4_runsInside_68 (by decide) (fun v68 h68 => ?_)
    exact J69 _ _ x2 v68 hP hS (by omega) (by omega) _ (lv_sub hl [0, 1] rfl)
  have J64 : ∀ (H : Heap) (locs : List Loc) (x2 : Int32), va_P D vwCl (zw 73 ad ce) H → va_S (zA 73 ad) s.heap H locs → (0 ≤ x2.toInt ∧ x2.toInt ≤ 1) → ∀ ls : Array Slot, lv_has ls 4 [(0, .ref (ad 3)), (2, .int x2)] → W p l e { frames := 0, cells := 0, slots := 0, locals := 0 } s m ([.ref (ad 3), .ref (ad (12 + a1))] : List Value).toArray below meth c H locs 0 0 (MQ below (zQi D 73 ad (fun r ce => (gOK cy ad cnt B ce ∧ PP ce) ∧ (0 ≤ r.toInt ∧ r.toInt ≤ 1))) ([.ref (ad 3), .ref (ad (12 + a1))] : List Value).toArray s 0 0 (zA 73 ad)) (F0 m 64 ls []) := by
    intro H locs x2 hP hS q_x2 ls hl
    refine z_ic hx hb dX4_runsInside_64 (by decide) (fun v64 h64 => ?_)
    refine lv_goto (tgt := 69) hx hb dX4_runsInside_65 (by decide) ?_
    exact J69 _ _ x2 v64 hP hS (by omega) (by omega) _ (lv_sub hl [0, 1] rfl)
  have J34 : ∀ (H : Heap) (locs : List Loc) (j1 : Nat) (s0 : Int32), va_P D vwCl (zw 73 ad ce) H → va_S (zA 73 ad) s.heap H locs → (j1 < 32) → (0 ≤ s0.toInt ∧ s0.toInt ≤ 1) → ∀ ls : Array Slot, lv_has ls 4 [(0, .ref (ad 3)), (1, .ref (ad (12 + j1)))] → W p l e { frames := 0, cells := 0, slots := 0, locals := 0 } s m ([.ref (ad 3), .ref (ad (12 + a1))] : List Value).toArray below meth c H locs 0 0 (MQ below (zQi D 73 ad (fun r ce => (gOK cy ad cnt B ce ∧ PP ce) ∧ (0 ≤ r.toInt ∧ r.toInt ≤ 1))) ([.ref (ad 3), .ref (ad (12 + a1))] : List Value).toArray s 0 0 (zA 73 ad)) (F0 m 34 ls [.int s0]) := by
    intro H locs j1 s0 hP hS q_j1 q_s0 ls hl
    refine lv_istore_n (lv' := [(2, .int s0), (0, .ref (ad 3)), (1, .ref (ad (12 + j1)))]) hx hb dX4_runsInside_34 rfl hl (by decide) rfl (fun ls hl => ?_)
    refine lv_aload_n hx hb dX4_runsInside_35 rfl (lv_at hl 1 rfl) ?_
    obtain ⟨v36, v36a, v36b, v36c, v36d, v36e, v36f, v36g, v36h, v36i, e36⟩ := gg_Le hO
    refine va_get (ci := 4) (C := RX4) (T := TX4) (N := 10) (v := .int v36d) hx hb hts inX4 hown hK hP 3 (zw_at (by decide) e36) rfl 4 (by decide) fl34 (fun _ h => h) rfl dX4_runsInside_36 ?_
    refine z_if_ne (tgt := 64) hx hb dX4_runsInside_39 (by decide) (fun c39 => ?_) (fun c39 => ?_)
    · skip
      exact J64 _ _ s0 hP hS (by omega) _ (lv_sub hl [1, 0] rfl)
    · skip
      refine lv_aload_n hx hb dX4_runsInside_42 rfl (lv_at hl 2 rfl) ?_
      obtain ⟨v43, v43a, v43b, v43c, v43d, v43e, e43⟩ := gg_Ar hO (j := j1) (by omega)
      refine va_get (ci := 0) (C := RX0) (T := TX0) (N := 6) (v := .int v43b) hx hb hts inX0 hown hK hP (12 + j1) (zw_at (by omega) e43) rfl 2 (by decide) fl64 (fun _ h => h) rfl dX4_runsInside_43 ?_
      refine lv_aload_n hx hb dX4_runsInside_46 rfl (lv_at hl 1 rfl) ?_
      refine va_get (ci := 4) (C := RX4) (T := TX4) (N := 10) (v := .int v36b) hx hb hts inX4 hown hK hP 3 (zw_at (by decide) e36) rfl 2 (by decide) fl28 (fun _ h => h) rfl dX4_runsInside_47 ?_
      refine z_icmp_ge (tgt := 68) hx hb dX4_runsInside_50 (by decide) (fun c50 => ?_) (fun c50 => ?_)
      · skip
        exact J68 _ _ s0 hP hS (by omega) _ (lv_sub hl [1, 0] rfl)
      · skip
        refine lv_aload_n hx hb dX4_runsInside_53 rfl (lv_at hl 1 rfl) ?_
        refine va_get (ci := 4) (C := RX4) (T := TX4) (N := 10) (v := .int v36b) hx hb hts inX4 hown hK hP 3 (zw_at (by decide) e36) rfl 2 (by decide) fl28 (fun _ h => h) rfl dX4_runsInside_54 ?_
        refine lv_aload_n hx hb dX4_runsInside_57 rfl (lv_at hl 2 rfl) ?_
        refine va_get (ci := 0) (C := RX0) (T := TX0) (N := 6) (v := .int v43d) hx hb hts inX0 hown hK hP (12 + j1) (zw_at (by omega) e43) rfl 4 (by decide) fl67 (fun _ h => h) rfl dX4_runsInside_58 ?_
        refine z_icmp_ge (tgt := 68) hx hb dX4_runsInside_61 (by decide) (fun c61 => ?_) (fun c61 => ?_)
        · skip
          exact J68 _ _ s0 hP hS (by omega) _ (lv_sub hl [1, 0] rfl)
        · skip
          exact J64 _ _ s0 hP hS (by omega) _ (lv_sub hl [1, 0] rfl)
  have J33 : ∀ (H : Heap) (locs : List Loc) (j1 : Nat), va_P D vwCl (zw 73 ad ce) H → va_S (zA 73 ad) s.heap H locs → (j1 < 32) → ∀ ls : Array Slot, lv_has ls 4 [(0, .ref (ad 3)), (1, .ref (ad (12 + j1)))] → W p l e { frames := 0, cells := 0, slots := 0, locals := 0 } s m ([.ref (ad 3), .ref (ad (12 + a1))] : List Value).toArray below meth c H locs 0 0 (MQ below (zQi D 73 ad (fun r ce => (gOK cy ad cnt B ce ∧ PP ce) ∧ (0 ≤ r.toInt ∧ r.toInt ≤ 1))) ([.ref (ad 3), .ref (ad (12 + a1))] : List Value).toArray s 0 0 (zA 73 ad)) (F0 m 33 ls []) := by
    intro H locs j1 hP hS q_j1 ls hl
    refine z_ic hx hb dX4_runsInside_33 (by decide) (fun v33 h33 => ?_)
    exact J34 _ _ j1 v33 hP hS (by omega) (by omega) _ (lv_sub hl [0, 1] rfl)
  have J29 : ∀ (H : Heap) (locs : List Loc) (j1 : Nat), va_P D vwCl (zw 73 ad ce) H → va_S (zA 73 ad) s.heap H locs → (j1 < 32) → ∀ ls : Array Slot, lv_has ls 4 [(0, .ref (ad 3)), (1, .ref (ad (12 + j1)))] → W p l e { frames := 0, cells := 0, slots := 0, locals := 0 } s m ([.ref (ad 3), .ref (ad (12 + a1))] : List Value).toArray below meth c H locs 0 0 (MQ below (zQi D 73 ad (fun r ce => (gOK cy ad cnt B ce ∧ PP ce) ∧ (0 ≤ r.toInt ∧ r.toInt ≤ 1))) ([.ref (ad 3), .ref (ad (12 + a1))] : List Value).toArray s 0 0 (zA 73 ad)) (F0 m 29 ls []) := by
    intro H locs j1 hP hS q_j1 ls hl
    refine z_ic hx hb dX4_runsInside_29 (by decide) (fun v29 h29 => ?_)
    refine lv_goto (tgt := 34) hx hb dX4_runsInside_30 (by decide) ?_
    exact J34 _ _ j1 v29 hP hS (by omega) (by omega) _ (lv_sub hl [0, 1] rfl)
  intro ls hl
  have hl : lv_has ls 4 [(0, .ref (ad 3)), (1, .ref (ad (12 + a1)))] := hl
  refine lv_aload_n hx hb dX4_runsInside_0 rfl (lv_at hl 0 rfl) ?_
  obtain ⟨v1, v1a, v1b, v1c, v1d, v1e, v1f, v1g, v1h, v1i, e1⟩ := gg_Le hO
  refine va_get (ci := 4) (C := RX4) (T := TX4) (N := 10) (v := .int v1c) hx hb hts inX4 hown hK hP 3 (zw_at (by decide) e1) rfl 3 (by decide) fl31 (fun _ h => h) rfl dX4_runsInside_1 ?_
  refine z_if_ne (tgt := 29) hx hb dX4_runsInside_4 (by decide) (fun c4 => ?_) (fun c4 => ?_)
  · skip
    exact J29 _ _ a1 hP hS (by omega) _ (lv_sub hl [0, 1] rfl)
  · skip
    refine lv_aload_n hx hb dX4_runsInside_7 rfl (lv_at hl 1 rfl) ?_
    obtain ⟨v8, v8a, v8b, v8c, v8d, v8e, e8⟩ := gg_Ar hO (j := a1) (by omega)
    refine va_get (ci := 0) (C := RX0) (T := TX0) (N := 6) (v := .int v8a) hx hb hts inX0 hown hK hP (12 + a1) (zw_at (by omega) e8) rfl 1 (by decide) fl58 (fun _ h => h) rfl dX4_runsInside_8 ?_
    refine lv_aload_n hx hb dX4_runsInside_11 rfl (lv_at hl 0 rfl) ?_
    refine va_get (ci := 4) (C := RX4) (T := TX4) (N := 10) (v := .int v1a) hx hb hts inX4 hown hK hP 3 (zw_at (by decide) e1) rfl 1 (by decide) fl22 (fun _ h => h) rfl dX4_runsInside_12 ?_
    refine z_icmp_ge (tgt := 33) hx hb dX4_runsInside_15 (by decide) (fun c15 => ?_) (fun c15 => ?_)
    · skip
      exact J33 _ _ a1 hP hS (by omega) _ (lv_sub hl [0, 1] rfl)
    · skip
      refine lv_aload_n hx hb dX4_runsInside_18 rfl (lv_at hl 0 rfl) ?_
      refine va_get (ci := 4) (C := RX4) (T := TX4) (N := 10) (v := .int v1a) hx hb hts inX4 hown hK hP 3 (zw_at (by decide) e1) rfl 1 (by decide) fl22 (fun _ h => h) rfl dX4_runsInside_19 ?_
      refine lv_aload_n hx hb dX4_runsInside_22 rfl (lv_at hl 1 rfl) ?_
      refine va_get (ci := 0) (C := RX0) (T := TX0) (N := 6) (v := .int v8c) hx hb hts inX0 hown hK hP (12 + a1) (zw_at (by omega) e8) rfl 3 (by decide) fl61 (fun _ h => h) rfl dX4_runsInside_23 ?_
      refine z_icmp_ge (tgt := 33) hx hb dX4_runsInside_26 (by decide) (fun c26 => ?_) (fun c26 => ?_)
      · skip
        exact J33 _ _ a1 hP hS (by omega) _ (lv_sub hl [0, 1] rfl)
      · skip
        exact J29 _ _ a1 hP hS (by omega) _ (lv_sub hl [0, 1] rfl)
set_option maxHeartbeats 8000000 in
set_option maxRecDepth 100000 in
theorem c_X4_goesAgainst (l : Launch) (D : va_G) (cy : Nat → ClassId) (ad : Nat → Nat) (cnt : Nat → Nat) (B : Nat) (PP : (Nat → va_E) → Prop) (hJ : zJ 73 ad) (a1 : Nat) (q_a1 : a1 < 32) : zM l D (gT cy) 73 ad (fun c1 => gOK cy ad cnt B c1 ∧ PP c1) yX4_goesAgainst vsX4_goesAgainst { frames := 0, cells := 0, slots := 0, locals := 0 } ([.ref (ad 3), .ref (ad (12 + a1))] : List Value) (zQi D 73 ad (fun r ce => (gOK cy ad cnt B ce ∧ PP ce) ∧ (0 ≤ r.toInt ∧ r.toInt ≤ 1))) := by
  refine z_of (cc := cX4_goesAgainst) (maxL := 6) (ret := (some .boolean)) (by decide) rfl (Nat.le_of_ble_eq_true rfl) ?_
  intro p e s m below meth c hx hb hr hts hown hlocks hml hK hN ce hOK hP
  have hown : s.vm.findClass RX4 = some m.cls := hown
  have hS : va_S (zA 73 ad) s.heap s.heap [] := va_S.rf
  obtain ⟨hO, hPP⟩ := hOK
  have inX0 : ∀ w ∈ u_ws RX0 TX0 6, w ∈ vsX4_goesAgainst := fun w h => List.mem_cons_of_mem _ (inlX0 w h)
  have inX4 : ∀ w ∈ u_ws RX4 TX4 10, w ∈ vsX4_goesAgainst := fun w h => List.mem_cons_of_mem _ (inlX4 w h)
  have fl22 := hts (.fieldLink RX4 22 "GroundKeeper$Leg" "ax" "I") (List.mem_cons_of_mem _ mw_36)
  have fl28 := hts (.fieldLink RX4 28 "GroundKeeper$Leg" "ay" "I") (List.mem_cons_of_mem _ mw_37)
  have fl31 := hts (.fieldLink RX4 31 "GroundKeeper$Leg" "dx" "I") (List.mem_cons_of_mem _ mw_38)
  have fl34 := hts (.fieldLink RX4 34 "GroundKeeper$Leg" "dy" "I") (List.mem_cons_of_mem _ mw_39)
  have fl58 := hts (.fieldLink RX4 58 "GroundKeeper$Area" "x0" "I") (List.mem_cons_of_mem _ mw_48)
  have fl61 := hts (.fieldLink RX4 61 "GroundKeeper$Area" "x1" "I") (List.mem_cons_of_mem _ mw_49)
  have fl64 := hts (.fieldLink RX4 64 "GroundKeeper$Area" "y0" "I") (List.mem_cons_of_mem _ mw_50)
  have fl76 := hts (.fieldLink RX4 76 "GroundKeeper$Area" "on" "Z") (List.mem_cons_of_mem _ mw_54)
  have J67 : ∀ (H : Heap) (locs : List Loc) (j1 : Nat) (x3 : Int32) (x4 : Int32) (s0 : Int32), va_P D vwCl (zw 73 ad ce) H → va_S (zA 73 ad) s.heap H locs → (j1 < 32) → ∀ ls : Array Slot, lv_has ls 6 [(1, .ref (ad (12 + j1))), (3, .int x3), (4, .int x4)] → W p l e { frames := 0, cells := 0, slots := 0, locals := 0 } s m ([.ref (ad 3), .ref (ad (12 + a1))] : List Value).toArray below meth c H locs 0 0 (MQ below (zQi D 73 ad (fun r ce => (gOK cy ad cnt B ce ∧ PP ce) ∧ (0 ≤ r.toInt ∧ r.toInt ≤ 1))) ([.ref (ad 3), .ref (ad (12 + a1))] : List Value).toArray s 0 0 (zA 73 ad)) (F0 m 67 ls [.int s0]) := by
    intro H locs j1 x3 x4 s0 hP hS q_j1 ls hl
    refine lv_istore (lv' := [(5, .int s0), (1, .ref (ad (12 + j1))), (3, .int x3), (4, .int x4)]) hx hb dX4_goesAgainst_67 hl (by decide) rfl (fun ls hl => ?_)
    refine lv_aload_n hx hb dX4_goesAgainst_69 rfl (lv_at hl 1 rfl) ?_
    obtain ⟨v70, v70a, v70b, v70c, v70d, v70e, e70⟩ := gg_Ar hO (j := j1) (by omega)
    refine va_get (ci := 0) (C := RX0) (T := TX0) (N := 6) (v := .int v70e) hx hb hts inX0 hown hK hP (12 + j1) (zw_at (by omega) e70) rfl 5 (by decide) fl76 (fun _ h => h) rfl dX4_goesAgainst_70 ?_
    refine z_if_eq (tgt := 97) hx hb dX4_goesAgainst_73 (by decide) (fun c73 => ?_) (fun c73 => ?_)
    · skip
      refine lv_iload_n hx hb dX4_goesAgainst_97 rfl (lv_at hl 2 rfl) ?_
      refine lv_iload hx hb dX4_goesAgainst_98 (lv_at hl 0 rfl) ?_
      refine z_icmp_ge (tgt := 114) hx hb dX4_goesAgainst_100 (by decide) (fun c100 => ?_) (fun c100 => ?_)
      · skip
        refine z_ic hx hb dX4_goesAgainst_114 (by decide) (fun v114 h114 => ?_)
        exact z_retz hx hb hr hlocks hP hS dX4_goesAgainst_115 (by omega) ⟨⟨hO, hPP⟩, (by omega)⟩
      · skip
        refine lv_iload hx hb dX4_goesAgainst_103 (lv_at hl 0 rfl) ?_
        refine lv_iload hx hb dX4_goesAgainst_105 (lv_at hl 3 rfl) ?_
        refine z_icmp_ge (tgt := 114) hx hb dX4_goesAgainst_107 (by decide) (fun c107 => ?_) (fun c107 => ?_)
        · skip
          refine z_ic hx hb dX4_goesAgainst_114 (by decide) (fun v114 h114 => ?_)
          exact z_retz hx hb hr hlocks hP hS dX4_goesAgainst_115 (by omega) ⟨⟨hO, hPP⟩, (by omega)⟩
        · skip
          refine z_ic hx hb dX4_goesAgainst_110 (by decide) (fun v110 h110 => ?_)
          refine lv_goto (tgt := 115) hx hb dX4_goesAgainst_111 (by decide) ?_
          exact z_retz hx hb hr hlocks hP hS dX4_goesAgainst_115 (by omega) ⟨⟨hO, hPP⟩, (by omega)⟩
    · skip
      refine lv_iload hx hb dX4_goesAgainst_76 (lv_at hl 3 rfl) ?_
      refine lv_iload hx hb dX4_goesAgainst_78 (lv_at hl 0 rfl) ?_
      refine z_icmp_ge (tgt := 93) hx hb dX4_goesAgainst_80 (by decide) (fun c80 => ?_) (fun c80 => ?_)
      · skip
        refine z_ic hx hb dX4_goesAgainst_93 (by decide) (fun v93 h93 => ?_)
        refine lv_goto (tgt := 115) hx hb dX4_goesAgainst_94 (by decide) ?_
        exact z_retz hx hb hr hlocks hP hS dX4_goesAgainst_115 (by omega) ⟨⟨hO, hPP⟩, (by omega)⟩
      · skip
        refine lv_iload hx hb dX4_goesAgainst_83 (lv_at hl 0 rfl) ?_
        refine lv_iload_n hx hb dX4_goesAgainst_85 rfl (lv_at hl 2 rfl) ?_
        refine z_icmp_ge (tgt := 93) hx hb dX4_goesAgainst_86 (by decide) (fun c86 => ?_) (fun c86 => ?_)
        · skip
          refine z_ic hx hb dX4_goesAgainst_93 (by decide) (fun v93 h93 => ?_)
          refine lv_goto (tgt := 115) hx hb dX4_goesAgainst_94 (by decide) ?_
          exact z_retz hx hb hr hlocks hP hS dX4_goesAgainst_115 (by omega) ⟨⟨hO, hPP⟩, (by omega)⟩
        · skip
          refine z_ic hx hb dX4_goesAgainst_89 (by decide) (fun v89 h89 => ?_)
          refine lv_goto (tgt := 115) hx hb dX4_goesAgainst_90 (by decide) ?_
          exact z_retz hx hb hr hlocks hP hS dX4_goesAgainst_115 (by omega) ⟨⟨hO, hPP⟩, (by omega)⟩
  have J49 : ∀ (H : Heap) (locs : List Loc) (j1 : Nat) (x2 : Int32) (x3 : Int32) (s0 : Int32) (s1 : Int32), va_P D vwCl (zw 73 ad ce) H → va_S (zA 73 ad) s.heap H locs → (j1 < 32) → (0 ≤ x2.toInt ∧ x2.toInt ≤ 1) → ∀ ls : Array Slot, lv_has ls 6 [(1, .ref (ad (12 + j1))), (2, .int x2), (3, .int x3)] → W p l e { frames := 0, cells := 0, slots := 0, locals := 0 } s m ([.ref (ad 3), .ref (ad (12 + a1))] : List Value).toArray below meth c H locs 0 0 (MQ below (zQi D 73 ad (fun r ce => (gOK cy ad cnt B ce ∧ PP ce) ∧ (0 ≤ r.toInt ∧ r.toInt ≤ 1))) ([.ref (ad 3), .ref (ad (12 + a1))] : List Value).toArray s 0 0 (zA 73 ad)) (F0 m 49 ls [.int s1, .int s0]) := by
    intro H locs j1 x2 x3 s0 s1 hP hS q_j1 q_x2 ls hl
    refine lv_iadd hx hb dX4_goesAgainst_49 ?_
    refine lv_topi (fun v49 _ => ?_)
    refine lv_istore (lv' := [(4, .int v49), (1, .ref (ad (12 + j1))), (2, .int x2), (3, .int x3)]) hx hb dX4_goesAgainst_50 hl (by decide) rfl (fun ls hl => ?_)
    refine lv_iload_n hx hb dX4_goesAgainst_52 rfl (lv_at hl 2 rfl) ?_
    refine z_if_eq (tgt := 63) hx hb dX4_goesAgainst_53 (by decide) (fun c53 => ?_) (fun c53 => ?_)
    · skip
      refine lv_aload_n hx hb dX4_goesAgainst_63 rfl (lv_at hl 1 rfl) ?_
      obtain ⟨v64, v64a, v64b, v64c, v64d, v64e, e64⟩ := gg_Ar hO (j := j1) (by omega)
      refine va_get (ci := 0) (C := RX0) (T := TX0) (N := 6) (v := .int v64b) hx hb hts inX0 hown hK hP (12 + j1) (zw_at (by omega) e64) rfl 2 (by decide) fl64 (fun _ h => h) rfl dX4_goesAgainst_64 ?_
      exact J67 _ _ j1 x3 v49 v64b hP hS (by omega) _ (lv_sub hl [1, 3, 0] rfl)
    · skip
      refine lv_aload_n hx hb dX4_goesAgainst_56 rfl (lv_at hl 1 rfl) ?_
      obtain ⟨v57, v57a, v57b, v57c, v57d, v57e, e57⟩ := gg_Ar hO (j := j1) (by omega)
      refine va_get (ci := 0) (C := RX0) (T := TX0) (N := 6) (v := .int v57a) hx hb hts inX0 hown hK hP (12 + j1) (zw_at (by omega) e57) rfl 1 (by decide) fl58 (fun _ h => h) rfl dX4_goesAgainst_57 ?_
      refine lv_goto (tgt := 67) hx hb dX4_goesAgainst_60 (by decide) ?_
      exact J67 _ _ j1 x3 v49 v57a hP hS (by omega) _ (lv_sub hl [1, 3, 0] rfl)
  have J32 : ∀ (H : Heap) (locs : List Loc) (j1 : Nat) (x2 : Int32) (s0 : Int32), va_P D vwCl (zw 73 ad ce) H → va_S (zA 73 ad) s.heap H locs → (j1 < 32) → (0 ≤ x2.toInt ∧ x2.toInt ≤ 1) → ∀ ls : Array Slot, lv_has ls 6 [(0, .ref (ad 3)), (1, .ref (ad (12 + j1))), (2, .int x2)] → W p l e { frames := 0, cells := 0, slots := 0, locals := 0 } s m ([.ref (ad 3), .ref (ad (12 + a1))] : List Value).toArray below meth c H locs 0 0 (MQ below (zQi D 73 ad (fun r ce => (gOK cy ad cnt B ce ∧ PP ce) ∧ (0 ≤ r.toInt ∧ r.toInt ≤ 1))) ([.ref (ad 3), .ref (ad (12 + a1))] : List Value).toArray s 0 0 (zA 73 ad)) (F0 m 32 ls [.int s0]) := by
    intro H locs j1 x2 s0 hP hS q_j1 q_x2 ls hl
    refine lv_istore_n (lv' := [(3, .int s0), (0, .ref (ad 3)), (1, .ref (ad (12 + j1))), (2, .int x2)]) hx hb dX4_goesAgainst_32 rfl hl (by decide) rfl (fun ls hl => ?_)
    refine lv_iload_n hx hb dX4_goesAgainst_33 rfl (lv_at hl 0 rfl) ?_
    refine lv_iload_n hx hb dX4_goesAgainst_34 rfl (lv_at hl 3 rfl) ?_
    refine z_if_eq (tgt := 45) hx hb dX4_goesAgainst_35 (by decide) (fun c35 => ?_) (fun c35 => ?_)
    · skip
      refine lv_aload_n hx hb dX4_goesAgainst_45 rfl (lv_at hl 1 rfl) ?_
      obtain ⟨v46, v46a, v46b, v46c, v46d, v46e, v46f, v46g, v46h, v46i, e46⟩ := gg_Le hO
      refine va_get (ci := 4) (C := RX4) (T := TX4) (N := 10) (v := .int v46d) hx hb hts inX4 hown hK hP 3 (zw_at (by decide) e46) rfl 4 (by decide) fl34 (fun _ h => h) rfl dX4_goesAgainst_46 ?_
      exact J49 _ _ j1 x2 s0 s0 v46d hP hS (by omega) (by omega) _ (lv_sub hl [2, 3, 0] rfl)
    · skip
      refine lv_aload_n hx hb dX4_goesAgainst_38 rfl (lv_at hl 1 rfl) ?_
      obtain ⟨v39, v39a, v39b, v39c, v39d, v39e, v39f, v39g, v39h, v39i, e39⟩ := gg_Le hO
      refine va_get (ci := 4) (C := RX4) (T := TX4) (N := 10) (v := .int v39c) hx hb hts inX4 hown hK hP 3 (zw_at (by decide) e39) rfl 3 (by decide) fl31 (fun _ h => h) rfl dX4_goesAgainst_39 ?_
      refine lv_goto (tgt := 49) hx hb dX4_goesAgainst_42 (by decide) ?_
      exact J49 _ _ j1 x2 s0 s0 v39c hP hS (by omega) (by omega) _ (lv_sub hl [2, 3, 0] rfl)
  have J16 : ∀ (H : Heap) (locs : List Loc) (j1 : Nat) (s0 : Int32), va_P D vwCl (zw 73 ad ce) H → va_S (zA 73 ad) s.heap H locs → (j1 < 32) → (0 ≤ s0.toInt ∧ s0.toInt ≤ 1) → ∀ ls : Array Slot, lv_has ls 6 [(0, .ref (ad 3)), (1, .ref (ad (12 + j1)))] → W p l e { frames := 0, cells := 0, slots := 0, locals := 0 } s m ([.ref (ad 3), .ref (ad (12 + a1))] : List Value).toArray below meth c H locs 0 0 (MQ below (zQi D 73 ad (fun r ce => (gOK cy ad cnt B ce ∧ PP ce) ∧ (0 ≤ r.toInt ∧ r.toInt ≤ 1))) ([.ref (ad 3), .ref (ad (12 + a1))] : List Value).toArray s 0 0 (zA 73 ad)) (F0 m 16 ls [.int s0]) := by
    intro H locs j1 s0 hP hS q_j1 q_s0 ls hl
    refine lv_istore_n (lv' := [(2, .int s0), (0, .ref (ad 3)), (1, .ref (ad (12 + j1)))]) hx hb dX4_goesAgainst_16 rfl hl (by decide) rfl (fun ls hl => ?_)
    refine lv_iload_n hx hb dX4_goesAgainst_17 rfl (lv_at hl 0 rfl) ?_
    refine z_if_eq (tgt := 28) hx hb dX4_goesAgainst_18 (by decide) (fun c18 => ?_) (fun c18 => ?_)
    · skip
      refine lv_aload_n hx hb dX4_goesAgainst_28 rfl (lv_at hl 1 rfl) ?_
      obtain ⟨v29, v29a, v29b, v29c, v29d, v29e, v29f, v29g, v29h, v29i, e29⟩ := gg_Le hO
      refine va_get (ci := 4) (C := RX4) (T := TX4) (N := 10) (v := .int v29b) hx hb hts inX4 hown hK hP 3 (zw_at (by decide) e29) rfl 2 (by decide) fl28 (fun _ h => h) rfl dX4_goesAgainst_29 ?_
      exact J32 _ _ j1 s0 v29b hP hS (by omega) (by omega) _ (lv_sub hl [1, 2, 0] rfl)
    · skip
      refine lv_aload_n hx hb dX4_goesAgainst_21 rfl (lv_at hl 1 rfl) ?_
      obtain ⟨v22, v22a, v22b, v22c, v22d, v22e, v22f, v22g, v22h, v22i, e22⟩ := gg_Le hO
      refine va_get (ci := 4) (C := RX4) (T := TX4) (N := 10) (v := .int v22a) hx hb hts inX4 hown hK hP 3 (zw_at (by decide) e22) rfl 1 (by decide) fl22 (fun _ h => h) rfl dX4_goesAgainst_22 ?_
      refine lv_goto (tgt := 32) hx hb dX4_goesAgainst_25 (by decide) ?_
      exact J32 _ _ j1 s0 v22a hP hS (by omega) (by omega) _ (lv_sub hl [1, 2, 0] rfl)
  intro ls hl
  have hl : lv_has ls 6 [(0, .ref (ad 3)), (1, .ref (ad (12 + a1)))] := hl
  refine lv_aload_n hx hb dX4_goesAgainst_0 rfl (lv_at hl 1 rfl) ?_
  obtain ⟨v1, v1a, v1b, v1c, v1d, v1e, e1⟩ := gg_Ar hO (j := a1) (by omega)
  refine va_get (ci := 0) (C := RX0) (T := TX0) (N := 6) (v := .int v1a) hx hb hts inX0 hown hK hP (12 + a1) (zw_at (by omega) e1) rfl 1 (by decide) fl58 (fun _ h => h) rfl dX4_goesAgainst_1 ?_
  refine lv_aload_n hx hb dX4_goesAgainst_4 rfl (lv_at hl 1 rfl) ?_
  refine va_get (ci := 0) (C := RX0) (T := TX0) (N := 6) (v := .int v1c) hx hb hts inX0 hown hK hP (12 + a1) (zw_at (by omega) e1) rfl 3 (by decide) fl61 (fun _ h => h) rfl dX4_goesAgainst_5 ?_
  refine z_icmp_ne (tgt := 15) hx hb dX4_goesAgainst_8 (by decide) (fun c8 => ?_) (fun c8 => ?_)
  · skip
    refine z_ic hx hb dX4_goesAgainst_15 (by decide) (fun v15 h15 => ?_)
    exact J16 _ _ a1 v15 hP hS (by omega) (by omega) _ (lv_sub hl [0, 1] rfl)
  · skip
    refine z_ic hx hb dX4_goesAgainst_11 (by decide) (fun v11 h11 => ?_)
    refine lv_goto (tgt := 16) hx hb dX4_goesAgainst_12 (by decide) ?_
    exact J16 _ _ a1 v11 hP hS (by omega) (by omega) _ (lv_sub hl [0, 1] rfl)
