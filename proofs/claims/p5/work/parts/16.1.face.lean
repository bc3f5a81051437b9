set_option maxHeartbeats 8000000 in
set_option maxRecDepth 100000 in
theorem c_X7_tick (l : Launch) (D : va_G) (cy : Nat → ClassId) (ad : Nat → Nat) (cnt : Nat → Nat) (B : Nat) (hJ : zJ 73 ad) (hB : 1 ≤ B ∧ B + 60 ≤ 1000000) (p1 : Int32) : zM l D (gT cy) 73 ad (gOK cy ad cnt B) yX7_tick vsX7_tick { frames := 6, cells := 0, slots := 0, locals := 143 } ([.ref (ad 0), .int p1] : List Value) (zQi D 73 ad (fun r ce => gOK cy ad cnt (B + 60) ce ∧ (True))) := by
  refine z_of (cc := cX7_tick) (maxL := 4) (ret := (some .int)) (by decide) rfl (Nat.le_of_ble_eq_true rfl) ?_
  intro p e s m below meth c hx hb hr hts hown hlocks hml hK hN ce hOK hP
  have hown : s.vm.findClass RX7 = some m.cls := hown
  have hS : va_S (zA 73 ad) s.heap s.heap [] := va_S.rf
  have hO := hOK
  have inX7 : ∀ w ∈ u_ws RX7 TX7 6, w ∈ vsX7_tick := fun w h => List.mem_cons_of_mem _ (inlX7 w h)
  have fl34 := hts (.fieldLink RX7 34 "GroundKeeper" "walkers" "[LGroundKeeper$Walker;") (List.mem_cons_of_mem _ mw_184)
  have fl53 := hts (.fieldLink RX7 53 "GroundKeeper" "walkerSize" "I") (List.mem_cons_of_mem _ mw_185)
  have fl175 := hts (.fieldLink RX7 175 "GroundKeeper" "ticks" "I") (List.mem_cons_of_mem _ mw_250)
  have L62 : ∀ N62 : Nat, ∀ (H : Heap) (locs : List Loc) (ce : Nat → va_E) (B1 : Nat) (x2 : Int32) (x3 : Int32), va_P D vwCl (zw 73 ad ce) H → va_S (zA 73 ad) s.heap H locs → gOK cy ad cnt B1 ce → (0 ≤ x3.toInt ∧ x3.toInt ≤ 6) → ((B1 : Int) ≤ B + 60) → (7 - x3.toInt ≤ (N62 : Int)) → ∀ ls : Array Slot, lv_has ls 4 [(0, .ref (ad 0)), (2, .int x2), (3, .int x3)] → W p l e { frames := 6, cells := 0, slots := 0, locals := 143 } s m ([.ref (ad 0), .int p1] : List Value).toArray below meth c H locs 0 0 (MQ below (zQi D 73 ad (fun r ce => gOK cy ad cnt (B + 60) ce ∧ (True))) ([.ref (ad 0), .int p1] : List Value).toArray s 0 0 (zA 73 ad)) (F0 m 62 ls []) := by
    intro N62
    induction N62 with
    | zero =>
      intro H locs ce B1 x2 x3 hP hS hO q_x3 qx0 hm ls hl
      exfalso; omega
    | succ N62 ih62 =>
      have J85 : ∀ (H : Heap) (locs : List Loc) (ce : Nat → va_E) (B1 : Nat) (x2 : Int32) (x3 : Int32), va_P D vwCl (zw 73 ad ce) H → va_S (zA 73 ad) s.heap H locs → gOK cy ad cnt B1 ce → (0 ≤ x3.toInt ∧ x3.toInt ≤ 5) → ((B1 : Int) ≤ B + 60) → (7 - x3.toInt ≤ (N62 : Int) + 1) → ∀ ls : Array Slot, lv_has ls 4 [(0, .ref (ad 0)), (2, .int x2), (3, .int x3)] → W p l e { frames := 6, cells := 0, slots := 0, locals := 143 } s m ([.ref (ad 0), .int p1] : List Value).toArray below meth c H locs 0 0 (MQ below (zQi D 73 ad (fun r ce => gOK cy ad cnt (B + 60) ce ∧ (True))) ([.ref (ad 0), .int p1] : List Value).toArray s 0 0 (zA 73 ad)) (F0 m 85 ls []) := by
        intro H locs ce B1 x2 x3 hP hS hO q_x3 qx0 qm62 ls hl
        refine z_iinc (lv' := fun w0 => [(3, .int w0), (0, .ref (ad 0)), (2, .int x2)]) hx hb dX7_tick_85 hl (k := 2) rfl (by decide) (fun _ => rfl) (by decide) (by omega) (fun v85 ls h85 hl => ?_)
        refine lv_goto (tgt := 62) hx hb dX7_tick_88 (by decide) ?_
        exact ih62 _ _ _ B1 x2 v85 hP hS hO (by omega) (by omega) (by omega) _ (lv_sub hl [1, 2, 0] rfl)
      intro H locs ce B1 x2 x3 hP hS hO q_x3 qx0 hm ls hl
      refine lv_iload_n hx hb dX7_tick_62 rfl (lv_at hl 2 rfl) ?_
      refine lv_aload_n hx hb dX7_tick_63 rfl (lv_at hl 0 rfl) ?_
      obtain ⟨v64, v64a, e64, h64, h64a⟩ := gg_GK hO
      refine va_get (ci := 7) (C := RX7) (T := TX7) (N := 6) (v := .int v64) hx hb hts inX7 hown hK hP 0 (zw_at (by decide) e64) rfl 4 (by decide) fl53 (fun _ h => h) rfl dX7_tick_64 ?_
      refine z_icmp_ge (tgt := 91) hx hb dX7_tick_67 (by decide) (fun c67 => ?_) (fun c67 => ?_)
      · skip
        refine lv_iload_n hx hb dX7_tick_91 rfl (lv_at hl 1 rfl) ?_
        exact z_reti hx hb hr hlocks hP hS dX7_tick_92 ⟨(by first | exact hO | exact gOK_mono (by omega) hO), trivial⟩
      · skip
        refine lv_aload_n hx hb dX7_tick_70 rfl (lv_at hl 0 rfl) ?_
        refine va_get (ci := 7) (C := RX7) (T := TX7) (N := 6) (v := .ref (ad 52)) hx hb hts inX7 hown hK hP 0 (zw_at (by decide) e64) rfl 3 (by decide) fl34 (fun _ h => h) rfl dX7_tick_71 ?_
        refine lv_iload_n hx hb dX7_tick_74 rfl (lv_at hl 2 rfl) ?_
        obtain ⟨f75, e75, h75⟩ := gg_Wa hO
        refine z_ald (g := fun j0 => 53 + j0) hx hb hK hP (q0 := 52) 3 (by decide) e75 rfl (by omega) h75 dX7_tick_75 (fun j75 h75a => ?_)
        obtain ⟨v76, v76a, v76b, v76c, v76d, v76e, v76f, e76, h76, h76a, h76b⟩ := gg_Wk hO (j := j75) (by omega)
        refine z_ciP (z_rV (q0 := (53 + j75)) (As := []) (rest := []) ⟨hx, hb, hml, hown, hts⟩ (c_X6_ahead l D cy ad cnt B1 (fun c1 => c1 = ce) hJ j75 (by omega)) (cwV 0 hts (g_V mw_235 mw_236 mw_237 mw_196 mw_238) rfl rfl rfl (by decide +kernel) ⟨Nat.le_of_ble_eq_true rfl, Nat.le_of_ble_eq_true rfl⟩) hK hN ⟨hO, rfl⟩ hP (by omega) e76 rfl rfl hl.1 rfl (Nat.le_of_ble_eq_true rfl) dX7_tick_76 ⟨Nat.zero_le _, Nat.zero_le _⟩) hS (fun _ h => h.2) (fun v76g H locs h76c hP hS => ?_)
        refine z_if_le (tgt := 85) hx hb dX7_tick_79 (by decide) (fun c79 => ?_) (fun c79 => ?_)
        · skip
          exact J85 _ _ _ B1 x2 x3 hP hS hO (by omega) (by omega) (by omega) _ (lv_sub hl [0, 1, 2] rfl)
        · skip
          obtain ⟨v82, v82_e⟩ : ∃ y : Int32, y = x2 + Int32.ofInt (1) := ⟨_, rfl⟩
          refine lv_iinc (v := v82) (lv' := [(2, .int v82), (0, .ref (ad 0)), (3, .int x3)]) hx hb dX7_tick_82 hl (k := 1) rfl v82_e.symm (by decide) rfl (fun ls hl => ?_)
          exact J85 _ _ _ B1 v82 x3 hP hS hO (by omega) (by omega) (by omega) _ (lv_sub hl [1, 0, 2] rfl)
  have L16 : ∀ N16 : Nat, ∀ (H : Heap) (locs : List Loc) (ce : Nat → va_E) (B1 : Nat) (x1 : Int32) (x2 : Int32), va_P D vwCl (zw 73 ad ce) H → va_S (zA 73 ad) s.heap H locs → gOK cy ad cnt B1 ce → (1 ≤ x1.toInt ∧ x1.toInt ≤ 10) → (0 ≤ x2.toInt ∧ x2.toInt ≤ 10) → ((B1 : Int) ≤ B + 6 * x2.toInt ∧ 1 ≤ B1) → (11 - x2.toInt ≤ (N16 : Int)) → ∀ ls : Array Slot, lv_has ls 4 [(0, .ref (ad 0)), (1, .int x1), (2, .int x2)] → W p l e { frames := 6, cells := 0, slots := 0, locals := 143 } s m ([.ref (ad 0), .int p1] : List Value).toArray below meth c H locs 0 0 (MQ below (zQi D 73 ad (fun r ce => gOK cy ad cnt (B + 60) ce ∧ (True))) ([.ref (ad 0), .int p1] : List Value).toArray s 0 0 (zA 73 ad)) (F0 m 16 ls []) := by
    intro N16
    induction N16 with
    | zero =>
      intro H locs ce B1 x1 x2 hP hS hO q_x1 q_x2 qx0 hm ls hl
      exfalso; omega
    | succ N16 ih16 =>
      have L23 : ∀ N23 : Nat, ∀ (H : Heap) (locs : List Loc) (ce : Nat → va_E) (B1 : Nat) (x1 : Int32) (x2 : Int32) (x3 : Int32), va_P D vwCl (zw 73 ad ce) H → va_S (zA 73 ad) s.heap H locs → gOK cy ad cnt B1 ce → (1 ≤ x1.toInt ∧ x1.toInt ≤ 10) → (0 ≤ x2.toInt ∧ x2.toInt ≤ 9) → (0 ≤ x3.toInt ∧ x3.toInt ≤ 6) → ((B1 : Int) ≤ B + 6 * x2.toInt + x3.toInt ∧ 1 ≤ B1) → (11 - x2.toInt ≤ (N16 : Int) + 1) → (7 - x3.toInt ≤ (N23 : Int)) → ∀ ls : Array Slot, lv_has ls 4 [(0, .ref (ad 0)), (1, .int x1), (2, .int x2), (3, .int x3)] → W p l e { frames := 6, cells := 0, slots := 0, locals := 143 } s m ([.ref (ad 0), .int p1] : List Value).toArray below meth c H locs 0 0 (MQ below (zQi D 73 ad (fun r ce => gOK cy ad cnt (B + 60) ce ∧ (True))) ([.ref (ad 0), .int p1] : List Value).toArray s 0 0 (zA 73 ad)) (F0 m 23 ls []) := by
        intro N23
        induction N23 with
        | zero =>
          intro H locs ce B1 x1 x2 x3 hP hS hO q_x1 q_x2 q_x3 qx0 qm16 hm ls hl
          exfalso; omega
        | succ N23 ih23 =>
          intro H locs ce B1 x1 x2 x3 hP hS hO q_x1 q_x2 q_x3 qx0 qm16 hm ls hl
          refine lv_iload_n hx hb dX7_tick_23 rfl (lv_at hl 3 rfl) ?_
          refine lv_aload_n hx hb dX7_tick_24 rfl (lv_at hl 0 rfl) ?_
          obtain ⟨v25, v25a, e25, h25, h25a⟩ := gg_GK hO
          refine va_get (ci := 7) (C := RX7) (T := TX7) (N := 6) (v := .int v25) hx hb hts inX7 hown hK hP 0 (zw_at (by decide) e25) rfl 4 (by decide) fl53 (fun _ h => h) rfl dX7_tick_25 ?_
          refine z_icmp_ge (tgt := 42) hx hb dX7_tick_28 (by decide) (fun c28 => ?_) (fun c28 => ?_)
          · skip
            refine z_iinc (lv' := fun w0 => [(2, .int w0), (0, .ref (ad 0)), (1, .int x1), (3, .int x3)]) hx hb dX7_tick_42 hl (k := 2) rfl (by decide) (fun _ => rfl) (by decide) (by omega) (fun v42 ls h42 hl => ?_)
            refine lv_goto (tgt := 16) hx hb dX7_tick_45 (by decide) ?_
            exact ih16 _ _ _ B1 x1 v42 hP hS hO (by omega) (by omega) (by omega) (by omega) _ (lv_sub hl [1, 2, 0] rfl)
          · skip
            refine lv_aload_n hx hb dX7_tick_31 rfl (lv_at hl 0 rfl) ?_
            refine lv_iload_n hx hb dX7_tick_32 rfl (lv_at hl 3 rfl) ?_
            refine z_cv (z_rV (q0 := 0) (As := [.int x3]) (rest := []) ⟨hx, hb, hml, hown, hts⟩ (c_X7_takeTurn l D cy ad cnt B1 hJ (by omega) x3 (by omega)) (cwV 1 hts (g_V mw_267 mw_268 mw_269 mw_2 mw_270) rfl rfl rfl (by decide +kernel) ⟨Nat.le_of_ble_eq_true rfl, Nat.le_of_ble_eq_true rfl⟩) hK hN hO hP (by decide) e25 rfl rfl hl.1 rfl (Nat.le_of_ble_eq_true rfl) dX7_tick_33 ⟨Nat.zero_le _, Nat.zero_le _⟩) hS (fun ce H locs h33 hP hS => ?_)
            obtain ⟨hO, h33a⟩ := h33
            refine z_iinc (lv' := fun w0 => [(3, .int w0), (0, .ref (ad 0)), (1, .int x1), (2, .int x2)]) hx hb dX7_tick_36 hl (k := 3) rfl (by decide) (fun _ => rfl) (by decide) (by omega) (fun v36 ls h36 hl => ?_)
            refine lv_goto (tgt := 23) hx hb dX7_tick_39 (by decide) ?_
            exact ih23 _ _ _ (B1 + 1) x1 x2 v36 hP hS hO (by omega) (by omega) (by omega) (by omega) (by omega) (by omega) _ (lv_sub hl [1, 2, 3, 0] rfl)
      intro H locs ce B1 x1 x2 hP hS hO q_x1 q_x2 qx0 hm ls hl
      refine lv_iload_n hx hb dX7_tick_16 rfl (lv_at hl 2 rfl) ?_
      refine lv_iload_n hx hb dX7_tick_17 rfl (lv_at hl 1 rfl) ?_
      refine z_icmp_ge (tgt := 48) hx hb dX7_tick_18 (by decide) (fun c18 => ?_) (fun c18 => ?_)
      · skip
        refine lv_aload_n hx hb dX7_tick_48 rfl (lv_at hl 0 rfl) ?_
        refine lv_dup hx hb dX7_tick_49 rfl ?_
        obtain ⟨v50, v50a, e50, h50, h50a⟩ := gg_GK hO
        refine va_get (ci := 7) (C := RX7) (T := TX7) (N := 6) (v := .int v50a) hx hb hts inX7 hown hK hP 0 (zw_at (by decide) e50) rfl 5 (by decide) fl175 (fun _ h => h) rfl dX7_tick_50 ?_
        refine lv_iload_n hx hb dX7_tick_53 rfl (lv_at hl 1 rfl) ?_
        refine lv_iadd hx hb dX7_tick_54 ?_
        refine lv_topi (fun v54 _ => ?_)
        refine z_put (q0 := 0) (ci := 7) (C := RX7) (T := TX7) (N := 6) hx hb hts inX7 tyX7 tyX7_ok nmX7 hown hK hJ hP hS (by decide) e50 rfl 5 (by decide) fl175 (fun _ h => h) rfl (ty := .int) (by decide +kernel) rfl rfl (Nat.le_of_ble_eq_true rfl) (fs1 := [.ref (ad 1), .ref (ad 2), .ref (ad (59 + 6)), .ref (ad 52), .int v50, .int v54]) rfl dX7_tick_55 (fun ce H locs e55 h55 hP hS => ?_)
        have hO := z_up (OKK := gK cy ad cnt B1) 0 hO h55 (by rw [e55]; exact gE_GK |>.mpr ⟨v50, v54, rfl, h50, h50a⟩)
        refine z_ic hx hb dX7_tick_58 (by decide) (fun v58 h58 => ?_)
        refine lv_istore_n (lv' := [(2, .int v58), (0, .ref (ad 0)), (1, .int x1)]) hx hb dX7_tick_59 rfl hl (by decide) rfl (fun ls hl => ?_)
        refine z_ic hx hb dX7_tick_60 (by decide) (fun v60 h60 => ?_)
        refine lv_istore_n (lv' := [(3, .int v60), (2, .int v58), (0, .ref (ad 0)), (1, .int x1)]) hx hb dX7_tick_61 rfl hl (by decide) rfl (fun ls hl => ?_)
        exact L62 8 _ _ _ B1 v58 v60 hP hS hO (by omega) (by omega) (by omega) _ (lv_sub hl [2, 1, 0] rfl)
      · skip
        refine z_ic hx hb dX7_tick_21 (by decide) (fun v21 h21 => ?_)
        refine lv_istore_n (lv' := [(3, .int v21), (0, .ref (ad 0)), (1, .int x1), (2, .int x2)]) hx hb dX7_tick_22 rfl hl (by decide) rfl (fun ls hl => ?_)
        exact L23 8 _ _ _ B1 x1 x2 v21 hP hS hO (by omega) (by omega) (by omega) (by omega) (by omega) (by omega) _ (lv_sub hl [1, 2, 3, 0] rfl)
  intro ls hl
  have hl : lv_has ls 4 [(0, .ref (ad 0)), (1, .int p1)] := hl
  refine lv_iload_n hx hb dX7_tick_0 rfl (lv_at hl 1 rfl) ?_
  refine z_ic hx hb dX7_tick_1 (by decide) (fun v1 h1 => ?_)
  refine z_icmp_lt (tgt := 11) hx hb dX7_tick_2 (by decide) (fun c2 => ?_) (fun c2 => ?_)
  · skip
    refine z_bi hx hb dX7_tick_11 (by decide) (fun v11 h11 => ?_)
    exact z_reti hx hb hr hlocks hP hS dX7_tick_13 ⟨(by first | exact hO | exact gOK_mono (by omega) hO), trivial⟩
  · skip
    refine lv_iload_n hx hb dX7_tick_5 rfl (lv_at hl 1 rfl) ?_
    refine z_bi hx hb dX7_tick_6 (by decide) (fun v6 h6 => ?_)
    refine z_icmp_le (tgt := 14) hx hb dX7_tick_8 (by decide) (fun c8 => ?_) (fun c8 => ?_)
    · skip
      refine z_ic hx hb dX7_tick_14 (by decide) (fun v14 h14 => ?_)
      refine lv_istore_n (lv' := [(2, .int v14), (0, .ref (ad 0)), (1, .int p1)]) hx hb dX7_tick_15 rfl hl (by decide) rfl (fun ls hl => ?_)
      exact L16 12 _ _ _ B p1 v14 hP hS hO (by omega) (by omega) (by omega) (by omega) _ (lv_sub hl [1, 2, 0] rfl)
    · skip
      refine z_bi hx hb dX7_tick_11 (by decide) (fun v11 h11 => ?_)
      exact z_reti hx hb hr hlocks hP hS dX7_tick_13 ⟨(by first | exact hO | exact gOK_mono (by omega) hO), trivial⟩
set_option maxHeartbeats 8000000 in
set_option maxRecDepth 100000 in
theorem c_X7_may (l : Launch) (D : va_G) (cy : Nat → ClassId) (ad : Nat → Nat) (cnt : Nat → Nat) (B : Nat) (PP : (Nat → va_E) → Prop) (hJ : zJ 73 ad) (p1 : Int32) (p2 : Int32) (p3 : Int32) : zM l D (gT cy) 73 ad (fun c1 => gOK cy ad cnt B c1 ∧ PP c1) yX7_may vsX7_may { frames := 2, cells := 0, slots := 0, locals := 48 } ([.ref (ad 0), .int p1, .int p2, .int p3] : List Value) (zQi D 73 ad (fun r ce => (gOK cy ad cnt B ce ∧ PP ce) ∧ (True))) := by
  refine z_of (cc := cX7_may) (maxL := 4) (ret := (some .int)) (by decide) rfl (Nat.le_of_ble_eq_true rfl) ?_
  intro p e s m below meth c hx hb hr hts hown hlocks hml hK hN ce hOK hP
  have hown : s.vm.findClass RX7 = some m.cls := hown
  have hS : va_S (zA 73 ad) s.heap s.heap [] := va_S.rf
  obtain ⟨hO, hPP⟩ := hOK
  have inX7 : ∀ w ∈ u_ws RX7 TX7 6, w ∈ vsX7_may := fun w h => List.mem_cons_of_mem _ (inlX7 w h)
  have fl12 := hts (.fieldLink RX7 12 "GroundKeeper" "ground" "LGroundKeeper$Ground;") (List.mem_cons_of_mem _ mw_188)
  intro ls hl
  have hl : lv_has ls 4 [(0, .ref (ad 0)), (1, .int p1), (2, .int p2), (3, .int p3)] := hl
  refine lv_iload_n hx hb dX7_may_0 rfl (lv_at hl 1 rfl) ?_
  refine lv_iload_n hx hb dX7_may_1 rfl (lv_at hl 2 rfl) ?_
  refine lv_iload_n hx hb dX7_may_2 rfl (lv_at hl 3 rfl) ?_
  refine z_ciP (z_rS (As := [.int p1, .int p2, .int p3]) (rest := []) ⟨hx, hb, hml, hown, hts⟩ (c_X7_isPlace l D (gT cy) 73 ad (fun c1 => c1 = ce) p1 p2 p3) (va_cwS 3 hts (g_S mw_0 mw_1 mw_2 mw_3) rfl rfl rfl (by decide +kernel) ⟨Nat.le_of_ble_eq_true rfl, Nat.le_of_ble_eq_true rfl⟩) hK hN rfl hP rfl hl.1 rfl (Nat.le_of_ble_eq_true rfl) dX7_may_3 ⟨Nat.zero_le _, Nat.zero_le _⟩) hS (fun _ h => h) (fun v3 H locs h3 hP hS => ?_)
  refine z_if_ne (tgt := 12) hx hb dX7_may_6 (by decide) (fun c6 => ?_) (fun c6 => ?_)
  · skip
    refine lv_aload_n hx hb dX7_may_12 rfl (lv_at hl 0 rfl) ?_
    obtain ⟨v13, v13a, e13, h13, h13a⟩ := gg_GK hO
    refine va_get (ci := 7) (C := RX7) (T := TX7) (N := 6) (v := .ref (ad 1)) hx hb hts inX7 hown hK hP 0 (zw_at (by decide) e13) rfl 0 (by decide) fl12 (fun _ h => h) rfl dX7_may_13 ?_
    refine lv_iload_n hx hb dX7_may_16 rfl (lv_at hl 1 rfl) ?_
    refine lv_iload_n hx hb dX7_may_17 rfl (lv_at hl 2 rfl) ?_
    refine lv_iload_n hx hb dX7_may_18 rfl (lv_at hl 3 rfl) ?_
    refine z_ciP (z_rS (As := [.int p1, .int p2, .int p3]) (rest := [.ref (ad 1)]) ⟨hx, hb, hml, hown, hts⟩ (c_X7_placeAt l D (gT cy) 73 ad (fun c1 => c1 = ce) p1 p2 p3) (va_cwS 3 hts (g_S mw_271 mw_18 mw_2 mw_29) rfl rfl rfl (by decide +kernel) ⟨Nat.le_of_ble_eq_true rfl, Nat.le_of_ble_eq_true rfl⟩) hK hN rfl hP rfl hl.1 rfl (Nat.le_of_ble_eq_true rfl) dX7_may_19 ⟨Nat.zero_le _, Nat.zero_le _⟩) hS (fun _ h => h) (fun v19 H locs h19 hP hS => ?_)
    obtain ⟨v22, e22, h22, h22a, h22b⟩ := gg_Gr hO
    refine z_ciP (z_rV (q0 := 1) (As := [.int v19]) (rest := []) ⟨hx, hb, hml, hown, hts⟩ (c_X3_isGround l D cy ad cnt B (fun c1 => c1 = ce) hJ v19) (cwV 1 hts (g_V mw_272 mw_120 mw_121 mw_84 mw_122) rfl rfl rfl (by decide +kernel) ⟨Nat.le_of_ble_eq_true rfl, Nat.le_of_ble_eq_true rfl⟩) hK hN ⟨hO, rfl⟩ hP (by decide) e22 rfl rfl hl.1 rfl (Nat.le_of_ble_eq_true rfl) dX7_may_22 ⟨Nat.zero_le _, Nat.zero_le _⟩) hS (fun _ h => h.2) (fun v22a H locs h22c hP hS => ?_)
    refine z_if_eq (tgt := 32) hx hb dX7_may_25 (by decide) (fun c25 => ?_) (fun c25 => ?_)
    · skip
      refine z_ic hx hb dX7_may_32 (by decide) (fun v32 h32 => ?_)
      exact z_reti hx hb hr hlocks hP hS dX7_may_33 ⟨⟨hO, hPP⟩, trivial⟩
    · skip
      refine z_ic hx hb dX7_may_28 (by decide) (fun v28 h28 => ?_)
      refine lv_goto (tgt := 33) hx hb dX7_may_29 (by decide) ?_
      exact z_reti hx hb hr hlocks hP hS dX7_may_33 ⟨⟨hO, hPP⟩, trivial⟩
  · skip
    refine z_bi hx hb dX7_may_9 (by decide) (fun v9 h9 => ?_)
    exact z_reti hx hb hr hlocks hP hS dX7_may_11 ⟨⟨hO, hPP⟩, trivial⟩
set_option maxHeartbeats 8000000 in
set_option maxRecDepth 100000 in
theorem c_X7_see (l : Launch) (D : va_G) (cy : Nat → ClassId) (ad : Nat → Nat) (cnt : Nat → Nat) (B : Nat) (hJ : zJ 73 ad) (p1 : Int32) (p2 : Int32) (p3 : Int32) (p4 : Int32) (p5 : Int32) : zM l D (gT cy) 73 ad (gOK cy ad cnt B) yX7_see vsX7_see { frames := 3, cells := 0, slots := 0, locals := 70 } ([.ref (ad 0), .int p1, .int p2, .int p3, .int p4, .int p5] : List Value) (zQi D 73 ad (fun r ce => gOK cy ad cnt B ce ∧ (True))) := by
  refine z_of (cc := cX7_see) (maxL := 6) (ret := (some .int)) (by decide) rfl (Nat.le_of_ble_eq_true rfl) ?_
  intro p e s m below meth c hx hb hr hts hown hlocks hml hK hN ce hOK hP
  have hown : s.vm.findClass RX7 = some m.cls := hown
  have hS : va_S (zA 73 ad) s.heap s.heap [] := va_S.rf
  have hO := hOK
  have inX7 : ∀ w ∈ u_ws RX7 TX7 6, w ∈ vsX7_see := fun w h => List.mem_cons_of_mem _ (inlX7 w h)
  have fl12 := hts (.fieldLink RX7 12 "GroundKeeper" "ground" "LGroundKeeper$Ground;") (List.mem_cons_of_mem _ mw_188)
  intro ls hl
  have hl : lv_has ls 6 [(0, .ref (ad 0)), (1, .int p1), (2, .int p2), (3, .int p3), (4, .int p4), (5, .int p5)] := hl
  refine lv_iload_n hx hb dX7_see_0 rfl (lv_at hl 1 rfl) ?_
  refine lv_iload_n hx hb dX7_see_1 rfl (lv_at hl 2 rfl) ?_
  refine lv_iload_n hx hb dX7_see_2 rfl (lv_at hl 3 rfl) ?_
  refine z_ciP (z_rS (As := [.int p1, .int p2, .int p3]) (rest := []) ⟨hx, hb, hml, hown, hts⟩ (c_X7_isPlace l D (gT cy) 73 ad (fun c1 => c1 = ce) p1 p2 p3) (va_cwS 3 hts (g_S mw_0 mw_1 mw_2 mw_3) rfl rfl rfl (by decide +kernel) ⟨Nat.le_of_ble_eq_true rfl, Nat.le_of_ble_eq_true rfl⟩) hK hN rfl hP rfl hl.1 rfl (Nat.le_of_ble_eq_true rfl) dX7_see_3 ⟨Nat.zero_le _, Nat.zero_le _⟩) hS (fun _ h => h) (fun v3 H locs h3 hP hS => ?_)
  refine z_if_eq (tgt := 20) hx hb dX7_see_6 (by decide) (fun c6 => ?_) (fun c6 => ?_)
  · skip
    refine z_bi hx hb dX7_see_20 (by decide) (fun v20 h20 => ?_)
    exact z_reti hx hb hr hlocks hP hS dX7_see_22 ⟨hO, trivial⟩
  · skip
    refine lv_iload_n hx hb dX7_see_9 rfl (lv_at hl 1 rfl) ?_
    refine lv_iload hx hb dX7_see_10 (lv_at hl 4 rfl) ?_
    refine lv_iload hx hb dX7_see_12 (lv_at hl 5 rfl) ?_
    refine z_ciP (z_rS (As := [.int p1, .int p4, .int p5]) (rest := []) ⟨hx, hb, hml, hown, hts⟩ (c_X7_isPlace l D (gT cy) 73 ad (fun c1 => c1 = ce) p1 p4 p5) (va_cwS 3 hts (g_S mw_0 mw_1 mw_2 mw_3) rfl rfl rfl (by decide +kernel) ⟨Nat.le_of_ble_eq_true rfl, Nat.le_of_ble_eq_true rfl⟩) hK hN rfl hP rfl hl.1 rfl (Nat.le_of_ble_eq_true rfl) dX7_see_14 ⟨Nat.zero_le _, Nat.zero_le _⟩) hS (fun _ h => h) (fun v14 H locs h14 hP hS => ?_)
    refine z_if_ne (tgt := 23) hx hb dX7_see_17 (by decide) (fun c17 => ?_) (fun c17 => ?_)
    · skip
      refine lv_aload_n hx hb dX7_see_23 rfl (lv_at hl 0 rfl) ?_
      obtain ⟨v24, v24a, e24, h24, h24a⟩ := gg_GK hO
      refine va_get (ci := 7) (C := RX7) (T := TX7) (N := 6) (v := .ref (ad 1)) hx hb hts inX7 hown hK hP 0 (zw_at (by decide) e24) rfl 0 (by decide) fl12 (fun _ h => h) rfl dX7_see_24 ?_
      refine lv_iload_n hx hb dX7_see_27 rfl (lv_at hl 1 rfl) ?_
      refine lv_iload_n hx hb dX7_see_28 rfl (lv_at hl 2 rfl) ?_
      refine lv_iload_n hx hb dX7_see_29 rfl (lv_at hl 3 rfl) ?_
      refine z_ciP (z_rS (As := [.int p1, .int p2, .int p3]) (rest := [.ref (ad 1)]) ⟨hx, hb, hml, hown, hts⟩ (c_X7_placeAt l D (gT cy) 73 ad (fun c1 => c1 = ce) p1 p2 p3) (va_cwS 3 hts (g_S mw_271 mw_18 mw_2 mw_29) rfl rfl rfl (by decide +kernel) ⟨Nat.le_of_ble_eq_true rfl, Nat.le_of_ble_eq_true rfl⟩) hK hN rfl hP rfl hl.1 rfl (Nat.le_of_ble_eq_true rfl) dX7_see_30 ⟨Nat.zero_le _, Nat.zero_le _⟩) hS (fun _ h => h) (fun v30 H locs h30 hP hS => ?_)
      refine lv_iload_n hx hb dX7_see_33 rfl (lv_at hl 1 rfl) ?_
      refine lv_iload hx hb dX7_see_34 (lv_at hl 4 rfl) ?_
      refine lv_iload hx hb dX7_see_36 (lv_at hl 5 rfl) ?_
      refine z_ciP (z_rS (As := [.int p1, .int p4, .int p5]) (rest := [.int v30, .ref (ad 1)]) ⟨hx, hb, hml, hown, hts⟩ (c_X7_placeAt l D (gT cy) 73 ad (fun c1 => c1 = ce) p1 p4 p5) (va_cwS 3 hts (g_S mw_271 mw_18 mw_2 mw_29) rfl rfl rfl (by decide +kernel) ⟨Nat.le_of_ble_eq_true rfl, Nat.le_of_ble_eq_true rfl⟩) hK hN rfl hP rfl hl.1 rfl (Nat.le_of_ble_eq_true rfl) dX7_see_38 ⟨Nat.zero_le _, Nat.zero_le _⟩) hS (fun _ h => h) (fun v38 H locs h38 hP hS => ?_)
      obtain ⟨v41, e41, h41, h41a, h41b⟩ := gg_Gr hO
      refine z_ci (z_rV (q0 := 1) (As := [.int v30, .int v38]) (rest := []) ⟨hx, hb, hml, hown, hts⟩ (c_X3_judge l D cy ad cnt B hJ v30 v38) (cwV 2 hts (g_V mw_240 mw_157 mw_158 mw_84 mw_159) rfl rfl rfl (by decide +kernel) ⟨Nat.le_of_ble_eq_true rfl, Nat.le_of_ble_eq_true rfl⟩) hK hN hO hP (by decide) e41 rfl rfl hl.1 rfl (Nat.le_of_ble_eq_true rfl) dX7_see_41 ⟨Nat.zero_le _, Nat.zero_le _⟩) hS (fun v41a ce H locs h41c hP hS => ?_)
      obtain ⟨hO, h41d⟩ := h41c
      exact z_reti hx hb hr hlocks hP hS dX7_see_44 ⟨hO, trivial⟩
    · skip
      refine z_bi hx hb dX7_see_20 (by decide) (fun v20 h20 => ?_)
      exact z_reti hx hb hr hlocks hP hS dX7_see_22 ⟨hO, trivial⟩
set_option maxHeartbeats 8000000 in
set_option maxRecDepth 100000 in
theorem c_X7_bend (l : Launch) (D : va_G) (cy : Nat → ClassId) (ad : Nat → Nat) (cnt : Nat → Nat) (B : Nat) (PP : (Nat → va_E) → Prop) (hJ : zJ 73 ad) (p1 : Int32) (p2 : Int32) : zM l D (gT cy) 73 ad (fun c1 => gOK cy ad cnt B c1 ∧ PP c1) yX7_bend vsX7_bend { frames := 2, cells := 0, slots := 0, locals := 41 } ([.ref (ad 0), .int p1, .int p2] : List Value) (zQi D 73 ad (fun r ce => (gOK cy ad cnt B ce ∧ PP ce) ∧ (True))) := by
  refine z_of (cc := cX7_bend) (maxL := 3) (ret := (some .int)) (by decide) rfl (Nat.le_of_ble_eq_true rfl) ?_
  intro p e s m below meth c hx hb hr hts hown hlocks hml hK hN ce hOK hP
  have hown : s.vm.findClass RX7 = some m.cls := hown
  have hS : va_S (zA 73 ad) s.heap s.heap [] := va_S.rf
  obtain ⟨hO, hPP⟩ := hOK
  have inX5 : ∀ w ∈ u_ws RX5 TX5 2, w ∈ vsX7_bend := fun w h => List.mem_cons_of_mem _ (inlX5 w h)
  have inX7 : ∀ w ∈ u_ws RX7 TX7 6, w ∈ vsX7_bend := fun w h => List.mem_cons_of_mem _ (inlX7 w h)
  have fl28 := hts (.fieldLink RX7 28 "GroundKeeper" "latestWay" "LGroundKeeper$Row;") (List.mem_cons_of_mem _ mw_251)
  have fl138 := hts (.fieldLink RX7 138 "GroundKeeper$Row" "size" "I") (List.mem_cons_of_mem _ mw_252)
  have fl139 := hts (.fieldLink RX7 139 "GroundKeeper$Row" "places" "[I") (List.mem_cons_of_mem _ mw_253)
  intro ls hl
  have hl : lv_has ls 3 [(0, .ref (ad 0)), (1, .int p1), (2, .int p2)] := hl
  refine lv_iload_n hx hb dX7_bend_0 rfl (lv_at hl 1 rfl) ?_
  refine z_if_lt (tgt := 13) hx hb dX7_bend_1 (by decide) (fun c1 => ?_) (fun c1 => ?_)
  · skip
    refine z_bi hx hb dX7_bend_13 (by decide) (fun v13 h13 => ?_)
    exact z_reti hx hb hr hlocks hP hS dX7_bend_15 ⟨⟨hO, hPP⟩, trivial⟩
  · skip
    refine lv_iload_n hx hb dX7_bend_4 rfl (lv_at hl 2 rfl) ?_
    refine z_if_lt (tgt := 13) hx hb dX7_bend_5 (by decide) (fun c5 => ?_) (fun c5 => ?_)
    · skip
      refine z_bi hx hb dX7_bend_13 (by decide) (fun v13 h13 => ?_)
      exact z_reti hx hb hr hlocks hP hS dX7_bend_15 ⟨⟨hO, hPP⟩, trivial⟩
    · skip
      refine lv_iload_n hx hb dX7_bend_8 rfl (lv_at hl 2 rfl) ?_
      refine z_ic hx hb dX7_bend_9 (by decide) (fun v9 h9 => ?_)
      refine z_icmp_le (tgt := 16) hx hb dX7_bend_10 (by decide) (fun c10 => ?_) (fun c10 => ?_)
      · skip
        refine lv_iload_n hx hb dX7_bend_16 rfl (lv_at hl 1 rfl) ?_
        refine lv_aload_n hx hb dX7_bend_17 rfl (lv_at hl 0 rfl) ?_
        obtain ⟨v18, v18a, e18, h18, h18a⟩ := gg_GK hO
        refine va_get (ci := 7) (C := RX7) (T := TX7) (N := 6) (v := .ref (ad (59 + 6))) hx hb hts inX7 hown hK hP 0 (zw_at (by decide) e18) rfl 2 (by decide) fl28 (fun _ h => h) rfl dX7_bend_18 ?_
        obtain ⟨v21, e21, h21, h21a⟩ := gg_Rw hO (j := 6) (by omega)
        refine va_get (ci := 5) (C := RX5) (T := TX5) (N := 2) (v := .int v21) hx hb hts inX5 hown hK hP (59 + 6) (zw_at (by omega) e21) rfl 1 (by decide) fl138 (fun _ h => h) rfl dX7_bend_21 ?_
        refine z_icmp_lt (tgt := 29) hx hb dX7_bend_24 (by decide) (fun c24 => ?_) (fun c24 => ?_)
        · skip
          refine lv_aload_n hx hb dX7_bend_29 rfl (lv_at hl 0 rfl) ?_
          refine va_get (ci := 7) (C := RX7) (T := TX7) (N := 6) (v := .ref (ad (59 + 6))) hx hb hts inX7 hown hK hP 0 (zw_at (by decide) e18) rfl 2 (by decide) fl28 (fun _ h => h) rfl dX7_bend_30 ?_
          refine va_get (ci := 5) (C := RX5) (T := TX5) (N := 2) (v := .ref (ad (66 + 6))) hx hb hts inX5 hown hK hP (59 + 6) (zw_at (by omega) e21) rfl 0 (by decide) fl139 (fun _ h => h) rfl dX7_bend_33 ?_
          refine lv_iload_n hx hb dX7_bend_36 rfl (lv_at hl 1 rfl) ?_
          obtain ⟨f37, e37⟩ := gg_Rp hO (j := 6) (by omega)
          refine z_iald hx hb hK hP (q0 := (66 + 6)) 0 (by omega) e37 rfl (by omega) dX7_bend_37 (fun v37 h37a => ?_)
          refine lv_iload_n hx hb dX7_bend_38 rfl (lv_at hl 2 rfl) ?_
          refine z_ciP (z_rS (As := [.int v37, .int p2]) (rest := []) ⟨hx, hb, hml, hown, hts⟩ (c_X7_coordinate l D (gT cy) 73 ad (fun c1 => c1 = ce) v37 p2) (va_cwS 2 hts (g_S mw_273 mw_274 mw_2 mw_275) rfl rfl rfl (by decide +kernel) ⟨Nat.le_of_ble_eq_true rfl, Nat.le_of_ble_eq_true rfl⟩) hK hN rfl hP rfl hl.1 rfl (Nat.le_of_ble_eq_true rfl) dX7_bend_39 ⟨Nat.zero_le _, Nat.zero_le _⟩) hS (fun _ h => h) (fun v39 H locs h39 hP hS => ?_)
          exact z_reti hx hb hr hlocks hP hS dX7_bend_42 ⟨⟨hO, hPP⟩, trivial⟩
        · skip
          refine z_ic hx hb dX7_bend_27 (by decide) (fun v27 h27 => ?_)
          exact z_reti hx hb hr hlocks hP hS dX7_bend_28 ⟨⟨hO, hPP⟩, trivial⟩
      · skip
        refine z_bi hx hb dX7_bend_13 (by decide) (fun v13 h13 => ?_)
        exact z_reti hx hb hr hlocks hP hS dX7_bend_15 ⟨⟨hO, hPP⟩, trivial⟩
set_option maxHeartbeats 8000000 in
set_option maxRecDepth 100000 in
theorem c_X7_about (l : Launch) (D : va_G) (cy : Nat → ClassId) (ad : Nat → Nat) (cnt : Nat → Nat) (B : Nat) (PP : (Nat → va_E) → Prop) (hJ : zJ 73 ad) (p1 : Int32) (p2 : Int32) : zM l D (gT cy) 73 ad (fun c1 => gOK cy ad cnt B c1 ∧ PP c1) yX7_about vsX7_about { frames := 2, cells := 0, slots := 0, locals := 41 } ([.ref (ad 0), .int p1, .int p2] : List Value) (zQi D 73 ad (fun r ce => (gOK cy ad cnt B ce ∧ PP ce) ∧ (True))) := by
  refine z_of (cc := cX7_about) (maxL := 4) (ret := (some .int)) (by decide) rfl (Nat.le_of_ble_eq_true rfl) ?_
  intro p e s m below meth c hx hb hr hts hown hlocks hml hK hN ce hOK hP
  have hown : s.vm.findClass RX7 = some m.cls := hown
  have hS : va_S (zA 73 ad) s.heap s.heap [] := va_S.rf
  obtain ⟨hO, hPP⟩ := hOK
  have inX6 : ∀ w ∈ u_ws RX6 TX6 8, w ∈ vsX7_about := fun w h => List.mem_cons_of_mem _ (inlX6 w h)
  have inX7 : ∀ w ∈ u_ws RX7 TX7 6, w ∈ vsX7_about := fun w h => List.mem_cons_of_mem _ (inlX7 w h)
  have fl34 := hts (.fieldLink RX7 34 "GroundKeeper" "walkers" "[LGroundKeeper$Walker;") (List.mem_cons_of_mem _ mw_184)
  have fl53 := hts (.fieldLink RX7 53 "GroundKeeper" "walkerSize" "I") (List.mem_cons_of_mem _ mw_185)
  have fl57 := hts (.fieldLink RX7 57 "GroundKeeper$Walker" "place" "I") (List.mem_cons_of_mem _ mw_186)
  have fl156 := hts (.fieldLink RX7 156 "GroundKeeper$Walker" "stuck" "Z") (List.mem_cons_of_mem _ mw_189)
  have fl178 := hts (.fieldLink RX7 178 "GroundKeeper$Walker" "waits" "I") (List.mem_cons_of_mem _ mw_191)
  have fl181 := hts (.fieldLink RX7 181 "GroundKeeper$Walker" "steps" "I") (List.mem_cons_of_mem _ mw_254)
  have fl184 := hts (.fieldLink RX7 184 "GroundKeeper$Walker" "length" "I") (List.mem_cons_of_mem _ mw_255)
  have fl187 := hts (.fieldLink RX7 187 "GroundKeeper$Walker" "looks" "I") (List.mem_cons_of_mem _ mw_192)
  intro ls hl
  have hl : lv_has ls 4 [(0, .ref (ad 0)), (1, .int p1), (2, .int p2)] := hl
  refine lv_iload_n hx hb dX7_about_0 rfl (lv_at hl 1 rfl) ?_
  refine z_if_lt (tgt := 22) hx hb dX7_about_1 (by decide) (fun c1 => ?_) (fun c1 => ?_)
  · skip
    refine z_bi hx hb dX7_about_22 (by decide) (fun v22 h22 => ?_)
    exact z_reti hx hb hr hlocks hP hS dX7_about_24 ⟨⟨hO, hPP⟩, trivial⟩
  · skip
    refine lv_iload_n hx hb dX7_about_4 rfl (lv_at hl 1 rfl) ?_
    refine lv_aload_n hx hb dX7_about_5 rfl (lv_at hl 0 rfl) ?_
    obtain ⟨v6, v6a, e6, h6, h6a⟩ := gg_GK hO
    refine va_get (ci := 7) (C := RX7) (T := TX7) (N := 6) (v := .int v6) hx hb hts inX7 hown hK hP 0 (zw_at (by decide) e6) rfl 4 (by decide) fl53 (fun _ h => h) rfl dX7_about_6 ?_
    refine z_icmp_ge (tgt := 22) hx hb dX7_about_9 (by decide) (fun c9 => ?_) (fun c9 => ?_)
    · skip
      refine z_bi hx hb dX7_about_22 (by decide) (fun v22 h22 => ?_)
      exact z_reti hx hb hr hlocks hP hS dX7_about_24 ⟨⟨hO, hPP⟩, trivial⟩
    · skip
      refine lv_iload_n hx hb dX7_about_12 rfl (lv_at hl 2 rfl) ?_
      refine z_if_lt (tgt := 22) hx hb dX7_about_13 (by decide) (fun c13 => ?_) (fun c13 => ?_)
      · skip
        refine z_bi hx hb dX7_about_22 (by decide) (fun v22 h22 => ?_)
        exact z_reti hx hb hr hlocks hP hS dX7_about_24 ⟨⟨hO, hPP⟩, trivial⟩
      · skip
        refine lv_iload_n hx hb dX7_about_16 rfl (lv_at hl 2 rfl) ?_
        refine z_bi hx hb dX7_about_17 (by decide) (fun v17 h17 => ?_)
        refine z_icmp_lt (tgt := 25) hx hb dX7_about_19 (by decide) (fun c19 => ?_) (fun c19 => ?_)
        · skip
          refine lv_aload_n hx hb dX7_about_25 rfl (lv_at hl 0 rfl) ?_
          refine va_get (ci := 7) (C := RX7) (T := TX7) (N := 6) (v := .ref (ad 52)) hx hb hts inX7 hown hK hP 0 (zw_at (by decide) e6) rfl 3 (by decide) fl34 (fun _ h => h) rfl dX7_about_26 ?_
          refine lv_iload_n hx hb dX7_about_29 rfl (lv_at hl 1 rfl) ?_
          obtain ⟨f30, e30, h30⟩ := gg_Wa hO
          refine z_ald (g := fun j0 => 53 + j0) hx hb hK hP (q0 := 52) 3 (by decide) e30 rfl (by omega) h30 dX7_about_30 (fun j30 h30a => ?_)
          refine lv_astore_n (lv' := [(3, .ref (ad (53 + j30))), (0, .ref (ad 0)), (1, .int p1), (2, .int p2)]) hx hb dX7_about_31 rfl hl (by decide) rfl (fun ls hl => ?_)
          refine lv_iload_n hx hb dX7_about_32 rfl (lv_at hl 3 rfl) ?_
          by_cases w33 : p2.toInt < 3 ∨ 8 < p2.toInt
          · skip
            refine lv_tableOut (tgt := 110) hx hb dX7_about_33 w33 (by decide) ?_
            refine lv_aload_n hx hb dX7_about_110 rfl (lv_at hl 0 rfl) ?_
            obtain ⟨v111, v111a, v111b, v111c, v111d, v111e, v111f, e111, h111, h111a, h111b⟩ := gg_Wk hO (j := j30) (by omega)
            refine va_get (ci := 6) (C := RX6) (T := TX6) (N := 8) (v := .int v111a) hx hb hts inX6 hown hK hP (53 + j30) (zw_at (by omega) e111) rfl 2 (by decide) fl57 (fun _ h => h) rfl dX7_about_111 ?_
            refine lv_iload_n hx hb dX7_about_114 rfl (lv_at hl 3 rfl) ?_
            refine z_ciP (z_rS (As := [.int v111a, .int p2]) (rest := []) ⟨hx, hb, hml, hown, hts⟩ (c_X7_coordinate l D (gT cy) 73 ad (fun c1 => c1 = ce) v111a p2) (va_cwS 2 hts (g_S mw_273 mw_274 mw_2 mw_275) rfl rfl rfl (by decide +kernel) ⟨Nat.le_of_ble_eq_true rfl, Nat.le_of_ble_eq_true rfl⟩) hK hN rfl hP rfl hl.1 rfl (Nat.le_of_ble_eq_true rfl) dX7_about_115 ⟨Nat.zero_le _, Nat.zero_le _⟩) hS (fun _ h => h) (fun v115 H locs h115 hP hS => ?_)
            exact z_reti hx hb hr hlocks hP hS dX7_about_118 ⟨⟨hO, hPP⟩, trivial⟩
          have w118 : p2.toInt = 3 ∨ p2.toInt = 4 ∨ p2.toInt = 5 ∨ p2.toInt = 6 ∨ p2.toInt = 7 ∨ p2.toInt = 8 := by omega
          rcases w118 with w118 | w118 | w118 | w118 | w118 | w118
          · skip
            refine lv_tableIn (off := 39) (tgt := 72) hx hb dX7_about_33 (by omega) (by omega) (by rw [w118]; rfl) (by decide) ?_
            refine lv_aload_n hx hb dX7_about_72 rfl (lv_at hl 0 rfl) ?_
            obtain ⟨v73, v73a, v73b, v73c, v73d, v73e, v73f, e73, h73, h73a, h73b⟩ := gg_Wk hO (j := j30) (by omega)
            refine z_ciP (z_rV (q0 := (53 + j30)) (As := []) (rest := []) ⟨hx, hb, hml, hown, hts⟩ (c_X6_ahead l D cy ad cnt B (fun c1 => c1 = ce) hJ j30 (by omega)) (cwV 0 hts (g_V mw_235 mw_236 mw_237 mw_196 mw_238) rfl rfl rfl (by decide +kernel) ⟨Nat.le_of_ble_eq_true rfl, Nat.le_of_ble_eq_true rfl⟩) hK hN ⟨hO, rfl⟩ hP (by omega) e73 rfl rfl hl.1 rfl (Nat.le_of_ble_eq_true rfl) dX7_about_73 ⟨Nat.zero_le _, Nat.zero_le _⟩) hS (fun _ h => h.2) (fun v73g H locs h73c hP hS => ?_)
            exact z_reti hx hb hr hlocks hP hS dX7_about_76 ⟨⟨hO, hPP⟩, trivial⟩
          · skip
            refine lv_tableIn (off := 44) (tgt := 77) hx hb dX7_about_33 (by omega) (by omega) (by rw [w118]; rfl) (by decide) ?_
            refine lv_aload_n hx hb dX7_about_77 rfl (lv_at hl 0 rfl) ?_
            obtain ⟨v78, v78a, v78b, v78c, v78d, v78e, v78f, e78, h78, h78a, h78b⟩ := gg_Wk hO (j := j30) (by omega)
            refine va_get (ci := 6) (C := RX6) (T := TX6) (N := 8) (v := .int v78b) hx hb hts inX6 hown hK hP (53 + j30) (zw_at (by omega) e78) rfl 3 (by decide) fl178 (fun _ h => h) rfl dX7_about_78 ?_
            exact z_reti hx hb hr hlocks hP hS dX7_about_81 ⟨⟨hO, hPP⟩, trivial⟩
          · skip
            refine lv_tableIn (off := 49) (tgt := 82) hx hb dX7_about_33 (by omega) (by omega) (by rw [w118]; rfl) (by decide) ?_
            refine lv_aload_n hx hb dX7_about_82 rfl (lv_at hl 0 rfl) ?_
            obtain ⟨v83, v83a, v83b, v83c, v83d, v83e, v83f, e83, h83, h83a, h83b⟩ := gg_Wk hO (j := j30) (by omega)
            refine va_get (ci := 6) (C := RX6) (T := TX6) (N := 8) (v := .int v83c) hx hb hts inX6 hown hK hP (53 + j30) (zw_at (by omega) e83) rfl 4 (by decide) fl156 (fun _ h => h) rfl dX7_about_83 ?_
            refine z_if_eq (tgt := 93) hx hb dX7_about_86 (by decide) (fun c86 => ?_) (fun c86 => ?_)
            · skip
              refine z_ic hx hb dX7_about_93 (by decide) (fun v93 h93 => ?_)
              exact z_reti hx hb hr hlocks hP hS dX7_about_94 ⟨⟨hO, hPP⟩, trivial⟩
            · skip
              refine z_ic hx hb dX7_about_89 (by decide) (fun v89 h89 => ?_)
              refine lv_goto (tgt := 94) hx hb dX7_about_90 (by decide) ?_
              exact z_reti hx hb hr hlocks hP hS dX7_about_94 ⟨⟨hO, hPP⟩, trivial⟩
          · skip
            refine lv_tableIn (off := 62) (tgt := 95) hx hb dX7_about_33 (by omega) (by omega) (by rw [w118]; rfl) (by decide) ?_
            refine lv_aload_n hx hb dX7_about_95 rfl (lv_at hl 0 rfl) ?_
            obtain ⟨v96, v96a, v96b, v96c, v96d, v96e, v96f, e96, h96, h96a, h96b⟩ := gg_Wk hO (j := j30) (by omega)
            refine va_get (ci := 6) (C := RX6) (T := TX6) (N := 8) (v := .int v96d) hx hb hts inX6 hown hK hP (53 + j30) (zw_at (by omega) e96) rfl 5 (by decide) fl181 (fun _ h => h) rfl dX7_about_96 ?_
            exact z_reti hx hb hr hlocks hP hS dX7_about_99 ⟨⟨hO, hPP⟩, trivial⟩
          · skip
            refine lv_tableIn (off := 67) (tgt := 100) hx hb dX7_about_33 (by omega) (by omega) (by rw [w118]; rfl) (by decide) ?_
            refine lv_aload_n hx hb dX7_about_100 rfl (lv_at hl 0 rfl) ?_
            obtain ⟨v101, v101a, v101b, v101c, v101d, v101e, v101f, e101, h101, h101a, h101b⟩ := gg_Wk hO (j := j30) (by omega)
            refine va_get (ci := 6) (C := RX6) (T := TX6) (N := 8) (v := .int v101e) hx hb hts inX6 hown hK hP (53 + j30) (zw_at (by omega) e101) rfl 6 (by decide) fl184 (fun _ h => h) rfl dX7_about_101 ?_
            exact z_reti hx hb hr hlocks hP hS dX7_about_104 ⟨⟨hO, hPP⟩, trivial⟩
          · skip
            refine lv_tableIn (off := 72) (tgt := 105) hx hb dX7_about_33 (by omega) (by omega) (by rw [w118]; rfl) (by decide) ?_
            refine lv_aload_n hx hb dX7_about_105 rfl (lv_at hl 0 rfl) ?_
            obtain ⟨v106, v106a, v106b, v106c, v106d, v106e, v106f, e106, h106, h106a, h106b⟩ := gg_Wk hO (j := j30) (by omega)
            refine va_get (ci := 6) (C := RX6) (T := TX6) (N := 8) (v := .int v106f) hx hb hts inX6 hown hK hP (53 + j30) (zw_at (by omega) e106) rfl 7 (by decide) fl187 (fun _ h => h) rfl dX7_about_106 ?_
            exact z_reti hx hb hr hlocks hP hS dX7_about_109 ⟨⟨hO, hPP⟩, trivial⟩
        · skip
          refine z_bi hx hb dX7_about_22 (by decide) (fun v22 h22 => ?_)
          exact z_reti hx hb hr hlocks hP hS dX7_about_24 ⟨⟨hO, hPP⟩, trivial⟩
set_option maxHeartbeats 8000000 in
set_option maxRecDepth 100000 in
theorem c_X7_count (l : Launch) (D : va_G) (cy : Nat → ClassId) (ad : Nat → Nat) (cnt : Nat → Nat) (B : Nat) (PP : (Nat → va_E) → Prop) (hJ : zJ 73 ad) (p1 : Int32) : zM l D (gT cy) 73 ad (fun c1 => gOK cy ad cnt B c1 ∧ PP c1) yX7_count vsX7_count { frames := 1, cells := 0, slots := 0, locals := 22 } ([.ref (ad 0), .int p1] : List Value) (zQi D 73 ad (fun r ce => (gOK cy ad cnt B ce ∧ PP ce) ∧ (True))) := by
  refine z_of (cc := cX7_count) (maxL := 2) (ret := (some .int)) (by decide) rfl (Nat.le_of_ble_eq_true rfl) ?_
  intro p e s m below meth c hx hb hr hts hown hlocks hml hK hN ce hOK hP
  have hown : s.vm.findClass RX7 = some m.cls := hown
  have hS : va_S (zA 73 ad) s.heap s.heap [] := va_S.rf
  obtain ⟨hO, hPP⟩ := hOK
  have inX1 : ∀ w ∈ u_ws RX1 TX1 2, w ∈ vsX7_count := fun w h => List.mem_cons_of_mem _ (inlX1 w h)
  have inX3 : ∀ w ∈ u_ws RX3 TX3 9, w ∈ vsX7_count := fun w h => List.mem_cons_of_mem _ (inlX3 w h)
  have inX7 : ∀ w ∈ u_ws RX7 TX7 6, w ∈ vsX7_count := fun w h => List.mem_cons_of_mem _ (inlX7 w h)
  have fl12 := hts (.fieldLink RX7 12 "GroundKeeper" "ground" "LGroundKeeper$Ground;") (List.mem_cons_of_mem _ mw_188)
  have fl43 := hts (.fieldLink RX7 43 "GroundKeeper$Ground" "rooms" "LGroundKeeper$Areas;") (List.mem_cons_of_mem _ mw_256)
  have fl53 := hts (.fieldLink RX7 53 "GroundKeeper" "walkerSize" "I") (List.mem_cons_of_mem _ mw_185)
  have fl70 := hts (.fieldLink RX7 70 "GroundKeeper$Ground" "boxes" "LGroundKeeper$Areas;") (List.mem_cons_of_mem _ mw_257)
  have fl90 := hts (.fieldLink RX7 90 "GroundKeeper$Ground" "doors" "LGroundKeeper$Areas;") (List.mem_cons_of_mem _ mw_258)
  have fl93 := hts (.fieldLink RX7 93 "GroundKeeper$Areas" "size" "I") (List.mem_cons_of_mem _ mw_259)
  have fl100 := hts (.fieldLink RX7 100 "GroundKeeper$Ground" "ledges" "LGroundKeeper$Areas;") (List.mem_cons_of_mem _ mw_260)
  have fl175 := hts (.fieldLink RX7 175 "GroundKeeper" "ticks" "I") (List.mem_cons_of_mem _ mw_250)
  have fl193 := hts (.fieldLink RX7 193 "GroundKeeper$Ground" "ladderSize" "I") (List.mem_cons_of_mem _ mw_261)
  intro ls hl
  have hl : lv_has ls 2 [(0, .ref (ad 0)), (1, .int p1)] := hl
  refine lv_iload_n hx hb dX7_count_0 rfl (lv_at hl 1 rfl) ?_
  by_cases w1 : p1.toInt < 0 ∨ 7 < p1.toInt
  · skip
    refine lv_tableOut (tgt := 121) hx hb dX7_count_1 w1 (by decide) ?_
    refine z_bi hx hb dX7_count_121 (by decide) (fun v121 h121 => ?_)
    exact z_reti hx hb hr hlocks hP hS dX7_count_123 ⟨⟨hO, hPP⟩, trivial⟩
  have w123 : p1.toInt = 0 ∨ p1.toInt = 1 ∨ p1.toInt = 2 ∨ p1.toInt = 3 ∨ p1.toInt = 4 ∨ p1.toInt = 5 ∨ p1.toInt = 6 ∨ p1.toInt = 7 := by omega
  rcases w123 with w123 | w123 | w123 | w123 | w123 | w123 | w123 | w123
  · skip
    refine lv_tableIn (off := 47) (tgt := 48) hx hb dX7_count_1 (by omega) (by omega) (by rw [w123]; rfl) (by decide) ?_
    refine lv_aload_n hx hb dX7_count_48 rfl (lv_at hl 0 rfl) ?_
    obtain ⟨v49, v49a, e49, h49, h49a⟩ := gg_GK hO
    refine va_get (ci := 7) (C := RX7) (T := TX7) (N := 6) (v := .ref (ad 1)) hx hb hts inX7 hown hK hP 0 (zw_at (by decide) e49) rfl 0 (by decide) fl12 (fun _ h => h) rfl dX7_count_49 ?_
    obtain ⟨v52, e52, h52, h52a, h52b⟩ := gg_Gr hO
    refine va_get (ci := 3) (C := RX3) (T := TX3) (N := 9) (v := .ref (ad 4)) hx hb hts inX3 hown hK hP 1 (zw_at (by decide) e52) rfl 0 (by decide) fl43 (fun _ h => h) rfl dX7_count_52 ?_
    obtain ⟨v55, e55, h55, h55a, h55b⟩ := gg_Ro hO
    refine va_get (ci := 1) (C := RX1) (T := TX1) (N := 2) (v := .int v55) hx hb hts inX1 hown hK hP 4 (zw_at (by decide) e55) rfl 1 (by decide) fl93 (fun _ h => h) rfl dX7_count_55 ?_
    exact z_reti hx hb hr hlocks hP hS dX7_count_58 ⟨⟨hO, hPP⟩, trivial⟩
  · skip
    refine lv_tableIn (off := 58) (tgt := 59) hx hb dX7_count_1 (by omega) (by omega) (by rw [w123]; rfl) (by decide) ?_
    refine lv_aload_n hx hb dX7_count_59 rfl (lv_at hl 0 rfl) ?_
    obtain ⟨v60, v60a, e60, h60, h60a⟩ := gg_GK hO
    refine va_get (ci := 7) (C := RX7) (T := TX7) (N := 6) (v := .ref (ad 1)) hx hb hts inX7 hown hK hP 0 (zw_at (by decide) e60) rfl 0 (by decide) fl12 (fun _ h => h) rfl dX7_count_60 ?_
    obtain ⟨v63, e63, h63, h63a, h63b⟩ := gg_Gr hO
    refine va_get (ci := 3) (C := RX3) (T := TX3) (N := 9) (v := .ref (ad 5)) hx hb hts inX3 hown hK hP 1 (zw_at (by decide) e63) rfl 1 (by decide) fl70 (fun _ h => h) rfl dX7_count_63 ?_
    obtain ⟨v66, e66⟩ := gg_Bo hO
    refine z_ciP (z_rV (q0 := 5) (As := []) (rest := []) ⟨hx, hb, hml, hown, hts⟩ (c_X1_countOn_Bo l D cy ad cnt B (fun c1 => c1 = ce) hJ) (cwV 0 hts (g_V mw_276 mw_277 mw_278 mw_279 mw_280) rfl rfl rfl (by decide +kernel) ⟨Nat.le_of_ble_eq_true rfl, Nat.le_of_ble_eq_true rfl⟩) hK hN ⟨hO, rfl⟩ hP (by decide) e66 rfl rfl hl.1 rfl (Nat.le_of_ble_eq_true rfl) dX7_count_66 ⟨Nat.zero_le _, Nat.zero_le _⟩) hS (fun _ h => h.2) (fun v66a H locs h66 hP hS => ?_)
    exact z_reti hx hb hr hlocks hP hS dX7_count_69 ⟨⟨hO, hPP⟩, trivial⟩
  · skip
    refine lv_tableIn (off := 69) (tgt := 70) hx hb dX7_count_1 (by omega) (by omega) (by rw [w123]; rfl) (by decide) ?_
    refine lv_aload_n hx hb dX7_count_70 rfl (lv_at hl 0 rfl) ?_
    obtain ⟨v71, v71a, e71, h71, h71a⟩ := gg_GK hO
    refine va_get (ci := 7) (C := RX7) (T := TX7) (N := 6) (v := .ref (ad 1)) hx hb hts inX7 hown hK hP 0 (zw_at (by decide) e71) rfl 0 (by decide) fl12 (fun _ h => h) rfl dX7_count_71 ?_
    obtain ⟨v74, e74, h74, h74a, h74b⟩ := gg_Gr hO
    refine va_get (ci := 3) (C := RX3) (T := TX3) (N := 9) (v := .ref (ad 6)) hx hb hts inX3 hown hK hP 1 (zw_at (by decide) e74) rfl 2 (by decide) fl90 (fun _ h => h) rfl dX7_count_74 ?_
    obtain ⟨v77, e77, h77, h77a, h77b⟩ := gg_Do hO
    refine va_get (ci := 1) (C := RX1) (T := TX1) (N := 2) (v := .int v77) hx hb hts inX1 hown hK hP 6 (zw_at (by decide) e77) rfl 1 (by decide) fl93 (fun _ h => h) rfl dX7_count_77 ?_
    exact z_reti hx hb hr hlocks hP hS dX7_count_80 ⟨⟨hO, hPP⟩, trivial⟩
  · skip
    refine lv_tableIn (off := 80) (tgt := 81) hx hb dX7_count_1 (by omega) (by omega) (by rw [w123]; rfl) (by decide) ?_
    refine lv_aload_n hx hb dX7_count_81 rfl (lv_at hl 0 rfl) ?_
    obtain ⟨v82, v82a, e82, h82, h82a⟩ := gg_GK hO
    refine va_get (ci := 7) (C := RX7) (T := TX7) (N := 6) (v := .ref (ad 1)) hx hb hts inX7 hown hK hP 0 (zw_at (by decide) e82) rfl 0 (by decide) fl12 (fun _ h => h) rfl dX7_count_82 ?_
    obtain ⟨v85, e85, h85, h85a, h85b⟩ := gg_Gr hO
    refine va_get (ci := 3) (C := RX3) (T := TX3) (N := 9) (v := .ref (ad 6)) hx hb hts inX3 hown hK hP 1 (zw_at (by decide) e85) rfl 2 (by decide) fl90 (fun _ h => h) rfl dX7_count_85 ?_
    obtain ⟨v88, e88, h88, h88a, h88b⟩ := gg_Do hO
    refine z_ciP (z_rV (q0 := 6) (As := []) (rest := []) ⟨hx, hb, hml, hown, hts⟩ (c_X1_countOn_Do l D cy ad cnt B (fun c1 => c1 = ce) hJ) (cwV 0 hts (g_V mw_276 mw_277 mw_278 mw_279 mw_280) rfl rfl rfl (by decide +kernel) ⟨Nat.le_of_ble_eq_true rfl, Nat.le_of_ble_eq_true rfl⟩) hK hN ⟨hO, rfl⟩ hP (by decide) e88 rfl rfl hl.1 rfl (Nat.le_of_ble_eq_true rfl) dX7_count_88 ⟨Nat.zero_le _, Nat.zero_le _⟩) hS (fun _ h => h.2) (fun v88a H locs h88c hP hS => ?_)
    exact z_reti hx hb hr hlocks hP hS dX7_count_91 ⟨⟨hO, hPP⟩, trivial⟩
  · skip
    refine lv_tableIn (off := 91) (tgt := 92) hx hb dX7_count_1 (by omega) (by omega) (by rw [w123]; rfl) (by decide) ?_
    refine lv_aload_n hx hb dX7_count_92 rfl (lv_at hl 0 rfl) ?_
    obtain ⟨v93, v93a, e93, h93, h93a⟩ := gg_GK hO
    refine va_get (ci := 7) (C := RX7) (T := TX7) (N := 6) (v := .ref (ad 1)) hx hb hts inX7 hown hK hP 0 (zw_at (by decide) e93) rfl 0 (by decide) fl12 (fun _ h => h) rfl dX7_count_93 ?_
    obtain ⟨v96, e96, h96, h96a, h96b⟩ := gg_Gr hO
    refine va_get (ci := 3) (C := RX3) (T := TX3) (N := 9) (v := .ref (ad 7)) hx hb hts inX3 hown hK hP 1 (zw_at (by decide) e96) rfl 3 (by decide) fl100 (fun _ h => h) rfl dX7_count_96 ?_
    obtain ⟨v99, e99, h99, h99a, h99b⟩ := gg_Lg hO
    refine va_get (ci := 1) (C := RX1) (T := TX1) (N := 2) (v := .int v99) hx hb hts inX1 hown hK hP 7 (zw_at (by decide) e99) rfl 1 (by decide) fl93 (fun _ h => h) rfl dX7_count_99 ?_
    exact z_reti hx hb hr hlocks hP hS dX7_count_102 ⟨⟨hO, hPP⟩, trivial⟩
  · skip
    refine lv_tableIn (off := 102) (tgt := 103) hx hb dX7_count_1 (by omega) (by omega) (by rw [w123]; rfl) (by decide) ?_
    refine lv_aload_n hx hb dX7_count_103 rfl (lv_at hl 0 rfl) ?_
    obtain ⟨v104, v104a, e104, h104, h104a⟩ := gg_GK hO
    refine va_get (ci := 7) (C := RX7) (T := TX7) (N := 6) (v := .ref (ad 1)) hx hb hts inX7 hown hK hP 0 (zw_at (by decide) e104) rfl 0 (by decide) fl12 (fun _ h => h) rfl dX7_count_104 ?_
    obtain ⟨v107, e107, h107, h107a, h107b⟩ := gg_Gr hO
    refine va_get (ci := 3) (C := RX3) (T := TX3) (N := 9) (v := .int v107) hx hb hts inX3 hown hK hP 1 (zw_at (by decide) e107) rfl 7 (by decide) fl193 (fun _ h => h) rfl dX7_count_107 ?_
    exact z_reti hx hb hr hlocks hP hS dX7_count_110 ⟨⟨hO, hPP⟩, trivial⟩
  · skip
    refine lv_tableIn (off := 110) (tgt := 111) hx hb dX7_count_1 (by omega) (by omega) (by rw [w123]; rfl) (by decide) ?_
    refine lv_aload_n hx hb dX7_count_111 rfl (lv_at hl 0 rfl) ?_
    obtain ⟨v112, v112a, e112, h112, h112a⟩ := gg_GK hO
    refine va_get (ci := 7) (C := RX7) (T := TX7) (N := 6) (v := .int v112) hx hb hts inX7 hown hK hP 0 (zw_at (by decide) e112) rfl 4 (by decide) fl53 (fun _ h => h) rfl dX7_count_112 ?_
    exact z_reti hx hb hr hlocks hP hS dX7_count_115 ⟨⟨hO, hPP⟩, trivial⟩
  · skip
    refine lv_tableIn (off := 115) (tgt := 116) hx hb dX7_count_1 (by omega) (by omega) (by rw [w123]; rfl) (by decide) ?_
    refine lv_aload_n hx hb dX7_count_116 rfl (lv_at hl 0 rfl) ?_
    obtain ⟨v117, v117a, e117, h117, h117a⟩ := gg_GK hO
    refine va_get (ci := 7) (C := RX7) (T := TX7) (N := 6) (v := .int v117a) hx hb hts inX7 hown hK hP 0 (zw_at (by decide) e117) rfl 5 (by decide) fl175 (fun _ h => h) rfl dX7_count_117 ?_
    exact z_reti hx hb hr hlocks hP hS dX7_count_120 ⟨⟨hO, hPP⟩, trivial⟩
set_option maxHeartbeats 8000000 in
set_option maxRecDepth 100000 in
theorem c_X7_digest (l : Launch) (D : va_G) (cy : Nat → ClassId) (ad : Nat → Nat) (cnt : Nat → Nat) (B : Nat) (PP : (Nat → va_E) → Prop) (hJ : zJ 73 ad) : zM l D (gT cy) 73 ad (fun c1 => gOK cy ad cnt B c1 ∧ PP c1) yX7_digest vsX7_digest { frames := 3, cells := 0, slots := 0, locals := 64 } ([.ref (ad 0)] : List Value) (zQl D 73 ad (fun r ce => (gOK cy ad cnt B ce ∧ PP ce) ∧ (True))) := by
  refine z_of (cc := cX7_digest) (maxL := 5) (ret := (some .long)) (by decide) rfl (Nat.le_of_ble_eq_true rfl) ?_
  intro p e s m below meth c hx hb hr hts hown hlocks hml hK hN ce hOK hP
  have hown : s.vm.findClass RX7 = some m.cls := hown
  have hS : va_S (zA 73 ad) s.heap s.heap [] := va_S.rf
  obtain ⟨hO, hPP⟩ := hOK
  have inX7 : ∀ w ∈ u_ws RX7 TX7 6, w ∈ vsX7_digest := fun w h => List.mem_cons_of_mem _ (inlX7 w h)
  have fl53 := hts (.fieldLink RX7 53 "GroundKeeper" "walkerSize" "I") (List.mem_cons_of_mem _ mw_185)
  have L33 : ∀ N33 : Nat, ∀ (H : Heap) (locs : List Loc) (x1 : Int64) (x3 : Int32), va_P D vwCl (zw 73 ad ce) H → va_S (zA 73 ad) s.heap H locs → (0 ≤ x3.toInt ∧ x3.toInt ≤ 6) → (7 - x3.toInt ≤ (N33 : Int)) → ∀ ls : Array Slot, lv_has ls 5 [(0, .ref (ad 0)), (1, .long x1), (3, .int x3)] → W p l e { frames := 3, cells := 0, slots := 0, locals := 64 } s m ([.ref (ad 0)] : List Value).toArray below meth c H locs 0 0 (MQ below (zQl D 73 ad (fun r ce => (gOK cy ad cnt B ce ∧ PP ce) ∧ (True))) ([.ref (ad 0)] : List Value).toArray s 0 0 (zA 73 ad)) (F0 m 33 ls []) := by
    intro N33
    induction N33 with
    | zero =>
      intro H locs x1 x3 hP hS q_x3 hm ls hl
      exfalso; omega
    | succ N33 ih33 =>
      have L44 : ∀ N44 : Nat, ∀ (H : Heap) (locs : List Loc) (x1 : Int64) (x3 : Int32) (x4 : Int32), va_P D vwCl (zw 73 ad ce) H → va_S (zA 73 ad) s.heap H locs → (0 ≤ x3.toInt ∧ x3.toInt ≤ 5) → (0 ≤ x4.toInt ∧ x4.toInt ≤ 9) → (7 - x3.toInt ≤ (N33 : Int) + 1) → (10 - x4.toInt ≤ (N44 : Int)) → ∀ ls : Array Slot, lv_has ls 5 [(0, .ref (ad 0)), (1, .long x1), (3, .int x3), (4, .int x4)] → W p l e { frames := 3, cells := 0, slots := 0, locals := 64 } s m ([.ref (ad 0)] : List Value).toArray below meth c H locs 0 0 (MQ below (zQl D 73 ad (fun r ce => (gOK cy ad cnt B ce ∧ PP ce) ∧ (True))) ([.ref (ad 0)] : List Value).toArray s 0 0 (zA 73 ad)) (F0 m 44 ls []) := by
        intro N44
        induction N44 with
        | zero =>
          intro H locs x1 x3 x4 hP hS q_x3 q_x4 qm33 hm ls hl
          exfalso; omega
        | succ N44 ih44 =>
          intro H locs x1 x3 x4 hP hS q_x3 q_x4 qm33 hm ls hl
          refine lv_iload hx hb dX7_digest_44 (lv_at hl 3 rfl) ?_
          refine z_bi hx hb dX7_digest_46 (by decide) (fun v46 h46 => ?_)
          refine z_icmp_ge (tgt := 72) hx hb dX7_digest_48 (by decide) (fun c48 => ?_) (fun c48 => ?_)
          · skip
            refine z_iinc (lv' := fun w0 => [(3, .int w0), (0, .ref (ad 0)), (1, .long x1), (4, .int x4)]) hx hb dX7_digest_72 hl (k := 2) rfl (by decide) (fun _ => rfl) (by decide) (by omega) (fun v72 ls h72 hl => ?_)
            refine lv_goto (tgt := 33) hx hb dX7_digest_75 (by decide) ?_
            exact ih33 _ _ x1 v72 hP hS (by omega) (by omega) _ (lv_sub hl [1, 2, 0] rfl)
          · skip
            refine lv_ldc2 hx hb hown (hts (.constantLong RX7 198 (31)) (List.mem_cons_of_mem _ mw_262)) dX7_digest_51 ?_
            refine lv_topl (fun v51 _ => ?_)
            refine lv_lload_n hx hb dX7_digest_54 rfl (lv_at hl 1 rfl) ?_
            refine lv_lmul hx hb dX7_digest_55 ?_
            refine lv_topl (fun v55 _ => ?_)
            refine lv_aload_n hx hb dX7_digest_56 rfl (lv_at hl 0 rfl) ?_
            refine lv_iload_n hx hb dX7_digest_57 rfl (lv_at hl 2 rfl) ?_
            refine lv_iload hx hb dX7_digest_58 (lv_at hl 3 rfl) ?_
            obtain ⟨v60, v60a, e60, h60, h60a⟩ := gg_GK hO
            refine z_ciP (z_rV (q0 := 0) (As := [.int x3, .int x4]) (rest := [.long v55]) ⟨hx, hb, hml, hown, hts⟩ (c_X7_about l D cy ad cnt B (fun c1 => c1 = ce) hJ x3 x4) (cwV 2 hts (g_V mw_281 mw_282 mw_283 mw_2 mw_284) rfl rfl rfl (by decide +kernel) ⟨Nat.le_of_ble_eq_true rfl, Nat.le_of_ble_eq_true rfl⟩) hK hN ⟨hO, rfl⟩ hP (by decide) e60 rfl rfl hl.1 rfl (Nat.le_of_ble_eq_true rfl) dX7_digest_60 ⟨Nat.zero_le _, Nat.zero_le _⟩) hS (fun _ h => h.2) (fun v60b H locs h60b hP hS => ?_)
            refine lv_i2l hx hb dX7_digest_63 rfl ?_
            refine lv_topl (fun v63 _ => ?_)
            refine lv_ladd hx hb dX7_digest_64 ?_
            refine lv_topl (fun v64 _ => ?_)
            refine lv_lstore_n (lv' := [(1, .long v64), (0, .ref (ad 0)), (3, .int x3), (4, .int x4)]) hx hb dX7_digest_65 rfl hl (by decide) rfl (fun ls hl => ?_)
            refine z_iinc (lv' := fun w0 => [(4, .int w0), (1, .long v64), (0, .ref (ad 0)), (3, .int x3)]) hx hb dX7_digest_66 hl (k := 3) rfl (by decide) (fun _ => rfl) (by decide) (by omega) (fun v66 ls h66 hl => ?_)
            refine lv_goto (tgt := 44) hx hb dX7_digest_69 (by decide) ?_
            exact ih44 _ _ v64 x3 v66 hP hS (by omega) (by omega) (by omega) (by omega) _ (lv_sub hl [2, 1, 3, 0] rfl)
      intro H locs x1 x3 hP hS q_x3 hm ls hl
      refine lv_iload_n hx hb dX7_digest_33 rfl (lv_at hl 2 rfl) ?_
      refine lv_aload_n hx hb dX7_digest_34 rfl (lv_at hl 0 rfl) ?_
      obtain ⟨v35, v35a, e35, h35, h35a⟩ := gg_GK hO
      refine va_get (ci := 7) (C := RX7) (T := TX7) (N := 6) (v := .int v35) hx hb hts inX7 hown hK hP 0 (zw_at (by decide) e35) rfl 4 (by decide) fl53 (fun _ h => h) rfl dX7_digest_35 ?_
      refine z_icmp_ge (tgt := 78) hx hb dX7_digest_38 (by decide) (fun c38 => ?_) (fun c38 => ?_)
      · skip
        refine lv_lload_n hx hb dX7_digest_78 rfl (lv_at hl 1 rfl) ?_
        exact z_retl hx hb hr hlocks hP hS dX7_digest_79 ⟨⟨hO, hPP⟩, trivial⟩
      · skip
        refine z_ic hx hb dX7_digest_41 (by decide) (fun v41 h41 => ?_)
        refine lv_istore (lv' := [(4, .int v41), (0, .ref (ad 0)), (1, .long x1), (3, .int x3)]) hx hb dX7_digest_42 hl (by decide) rfl (fun ls hl => ?_)
        exact L44 11 _ _ x1 x3 v41 hP hS (by omega) (by omega) (by omega) (by omega) _ (lv_sub hl [1, 2, 3, 0] rfl)
  have L6 : ∀ N6 : Nat, ∀ (H : Heap) (locs : List Loc) (x1 : Int64) (x3 : Int32), va_P D vwCl (zw 73 ad ce) H → va_S (zA 73 ad) s.heap H locs → (0 ≤ x3.toInt ∧ x3.toInt ≤ 8) → (9 - x3.toInt ≤ (N6 : Int)) → ∀ ls : Array Slot, lv_has ls 5 [(0, .ref (ad 0)), (1, .long x1), (3, .int x3)] → W p l e { frames := 3, cells := 0, slots := 0, locals := 64 } s m ([.ref (ad 0)] : List Value).toArray below meth c H locs 0 0 (MQ below (zQl D 73 ad (fun r ce => (gOK cy ad cnt B ce ∧ PP ce) ∧ (True))) ([.ref (ad 0)] : List Value).toArray s 0 0 (zA 73 ad)) (F0 m 6 ls []) := by
    intro N6
    induction N6 with
    | zero =>
      intro H locs x1 x3 hP hS q_x3 hm ls hl
      exfalso; omega
    | succ N6 ih6 =>
      intro H locs x1 x3 hP hS q_x3 hm ls hl
      refine lv_iload_n hx hb dX7_digest_6 rfl (lv_at hl 2 rfl) ?_
      refine z_bi hx hb dX7_digest_7 (by decide) (fun v7 h7 => ?_)
      refine z_icmp_ge (tgt := 31) hx hb dX7_digest_9 (by decide) (fun c9 => ?_) (fun c9 => ?_)
      · skip
        refine z_ic hx hb dX7_digest_31 (by decide) (fun v31 h31 => ?_)
        refine lv_istore_n (lv' := [(3, .int v31), (0, .ref (ad 0)), (1, .long x1)]) hx hb dX7_digest_32 rfl hl (by decide) rfl (fun ls hl => ?_)
        exact L33 8 _ _ x1 v31 hP hS (by omega) (by omega) _ (lv_sub hl [1, 2, 0] rfl)
      · skip
        refine lv_ldc2 hx hb hown (hts (.constantLong RX7 198 (31)) (List.mem_cons_of_mem _ mw_262)) dX7_digest_12 ?_
        refine lv_topl (fun v12 _ => ?_)
        refine lv_lload_n hx hb dX7_digest_15 rfl (lv_at hl 1 rfl) ?_
        refine lv_lmul hx hb dX7_digest_16 ?_
        refine lv_topl (fun v16 _ => ?_)
        refine lv_aload_n hx hb dX7_digest_17 rfl (lv_at hl 0 rfl) ?_
        refine lv_iload_n hx hb dX7_digest_18 rfl (lv_at hl 2 rfl) ?_
        obtain ⟨v19, v19a, e19, h19, h19a⟩ := gg_GK hO
        refine z_ciP (z_rV (q0 := 0) (As := [.int x3]) (rest := [.long v16]) ⟨hx, hb, hml, hown, hts⟩ (c_X7_count l D cy ad cnt B (fun c1 => c1 = ce) hJ x3) (cwV 1 hts (g_V mw_285 mw_286 mw_287 mw_2 mw_288) rfl rfl rfl (by decide +kernel) ⟨Nat.le_of_ble_eq_true rfl, Nat.le_of_ble_eq_true rfl⟩) hK hN ⟨hO, rfl⟩ hP (by decide) e19 rfl rfl hl.1 rfl (Nat.le_of_ble_eq_true rfl) dX7_digest_19 ⟨Nat.zero_le _, Nat.zero_le _⟩) hS (fun _ h => h.2) (fun v19b H locs h19b hP hS => ?_)
        refine lv_i2l hx hb dX7_digest_22 rfl ?_
        refine lv_topl (fun v22 _ => ?_)
        refine lv_ladd hx hb dX7_digest_23 ?_
        refine lv_topl (fun v23 _ => ?_)
        refine lv_lstore_n (lv' := [(1, .long v23), (0, .ref (ad 0)), (3, .int x3)]) hx hb dX7_digest_24 rfl hl (by decide) rfl (fun ls hl => ?_)
        refine z_iinc (lv' := fun w0 => [(3, .int w0), (1, .long v23), (0, .ref (ad 0))]) hx hb dX7_digest_25 hl (k := 2) rfl (by decide) (fun _ => rfl) (by decide) (by omega) (fun v25 ls h25 hl => ?_)
        refine lv_goto (tgt := 6) hx hb dX7_digest_28 (by decide) ?_
        exact ih6 _ _ v23 v25 hP hS (by omega) (by omega) _ (lv_sub hl [2, 1, 0] rfl)
  intro ls hl
  have hl : lv_has ls 5 [(0, .ref (ad 0))] := hl
  refine lv_ldc2 hx hb hown (hts (.constantLong RX7 196 (89)) (List.mem_cons_of_mem _ mw_263)) dX7_digest_0 ?_
  refine lv_topl (fun v0 _ => ?_)
  refine lv_lstore_n (lv' := [(1, .long v0), (0, .ref (ad 0))]) hx hb dX7_digest_3 rfl hl (by decide) rfl (fun ls hl => ?_)
  refine z_ic hx hb dX7_digest_4 (by decide) (fun v4 h4 => ?_)
  refine lv_istore_n (lv' := [(3, .int v4), (1, .long v0), (0, .ref (ad 0))]) hx hb dX7_digest_5 rfl hl (by decide) rfl (fun ls hl => ?_)
  exact L6 10 _ _ v0 v4 hP hS (by omega) (by omega) _ (lv_sub hl [2, 1, 0] rfl)
set_option maxHeartbeats 8000000 in
set_option maxRecDepth 100000 in
theorem c_X7_box (l : Launch) (D : va_G) (cy : Nat → ClassId) (ad : Nat → Nat) (cnt : Nat → Nat) (B : Nat) (hJ : zJ 73 ad) (p1 : Int32) (p2 : Int32) (p3 : Int32) (p4 : Int32) (p5 : Int32) : zM l D (gT cy) 73 ad (gOK cy ad cnt B) yX7_box vsX7_box { frames := 3, cells := 0, slots := 0, locals := 72 } ([.ref (ad 0), .int p1, .int p2, .int p3, .int p4, .int p5] : List Value) (zQi D 73 ad (fun r ce => gOK cy ad cnt B ce ∧ (True))) := by
  refine z_of (cc := cX7_box) (maxL := 9) (ret := (some .int)) (by decide) rfl (Nat.le_of_ble_eq_true rfl) ?_
  intro p e s m below meth c hx hb hr hts hown hlocks hml hK hN ce hOK hP
  have hown : s.vm.findClass RX7 = some m.cls := hown
  have hS : va_S (zA 73 ad) s.heap s.heap [] := va_S.rf
  have hO := hOK
  have inX3 : ∀ w ∈ u_ws RX3 TX3 9, w ∈ vsX7_box := fun w h => List.mem_cons_of_mem _ (inlX3 w h)
  have inX6 : ∀ w ∈ u_ws RX6 TX6 8, w ∈ vsX7_box := fun w h => List.mem_cons_of_mem _ (inlX6 w h)
  have inX7 : ∀ w ∈ u_ws RX7 TX7 6, w ∈ vsX7_box := fun w h => List.mem_cons_of_mem _ (inlX7 w h)
  have fl12 := hts (.fieldLink RX7 12 "GroundKeeper" "ground" "LGroundKeeper$Ground;") (List.mem_cons_of_mem _ mw_188)
  have fl34 := hts (.fieldLink RX7 34 "GroundKeeper" "walkers" "[LGroundKeeper$Walker;") (List.mem_cons_of_mem _ mw_184)
  have fl53 := hts (.fieldLink RX7 53 "GroundKeeper" "walkerSize" "I") (List.mem_cons_of_mem _ mw_185)
  have fl57 := hts (.fieldLink RX7 57 "GroundKeeper$Walker" "place" "I") (List.mem_cons_of_mem _ mw_186)
  have fl70 := hts (.fieldLink RX7 70 "GroundKeeper$Ground" "boxes" "LGroundKeeper$Areas;") (List.mem_cons_of_mem _ mw_257)
  have L19 : ∀ N19 : Nat, ∀ (H : Heap) (locs : List Loc) (ce : Nat → va_E) (x1 : Int32) (x2 : Int32) (x3 : Int32) (x4 : Int32) (x5 : Int32) (x6 : Int32), va_P D vwCl (zw 73 ad ce) H → va_S (zA 73 ad) s.heap H locs → gOK cy ad cnt B ce → (0 ≤ x6.toInt ∧ x6.toInt ≤ 6) → (7 - x6.toInt ≤ (N19 : Int)) → ∀ ls : Array Slot, lv_has ls 9 [(0, .ref (ad 0)), (1, .int x1), (2, .int x2), (3, .int x3), (4, .int x4), (5, .int x5), (6, .int x6)] → W p l e { frames := 3, cells := 0, slots := 0, locals := 72 } s m ([.ref (ad 0), .int p1, .int p2, .int p3, .int p4, .int p5] : List Value).toArray below meth c H locs 0 0 (MQ below (zQi D 73 ad (fun r ce => gOK cy ad cnt B ce ∧ (True))) ([.ref (ad 0), .int p1, .int p2, .int p3, .int p4, .int p5] : List Value).toArray s 0 0 (zA 73 ad)) (F0 m 19 ls []) := by
    intro N19
    induction N19 with
    | zero =>
      intro H locs ce x1 x2 x3 x4 x5 x6 hP hS hO q_x6 hm ls hl
      exfalso; omega
    | succ N19 ih19 =>
      have J102 : ∀ (H : Heap) (locs : List Loc) (ce : Nat → va_E) (x1 : Int32) (x2 : Int32) (x3 : Int32) (x4 : Int32) (x5 : Int32) (x6 : Int32), va_P D vwCl (zw 73 ad ce) H → va_S (zA 73 ad) s.heap H locs → gOK cy ad cnt B ce → (0 ≤ x6.toInt ∧ x6.toInt ≤ 5) → (7 - x6.toInt ≤ (N19 : Int) + 1) → ∀ ls : Array Slot, lv_has ls 9 [(0, .ref (ad 0)), (1, .int x1), (2, .int x2), (3, .int x3), (4, .int x4), (5, .int x5), (6, .int x6)] → W p l e { frames := 3, cells := 0, slots := 0, locals := 72 } s m ([.ref (ad 0), .int p1, .int p2, .int p3, .int p4, .int p5] : List Value).toArray below meth c H locs 0 0 (MQ below (zQi D 73 ad (fun r ce => gOK cy ad cnt B ce ∧ (True))) ([.ref (ad 0), .int p1, .int p2, .int p3, .int p4, .int p5] : List Value).toArray s 0 0 (zA 73 ad)) (F0 m 102 ls []) := by
        intro H locs ce x1 x2 x3 x4 x5 x6 hP hS hO q_x6 qm19 ls hl
        refine z_iinc (lv' := fun w0 => [(6, .int w0), (0, .ref (ad 0)), (1, .int x1), (2, .int x2), (3, .int x3), (4, .int x4), (5, .int x5)]) hx hb dX7_box_102 hl (k := 6) rfl (by decide) (fun _ => rfl) (by decide) (by omega) (fun v102 ls h102 hl => ?_)
        refine lv_goto (tgt := 19) hx hb dX7_box_105 (by decide) ?_
        exact ih19 _ _ _ x1 x2 x3 x4 x5 v102 hP hS hO (by omega) (by omega) _ (lv_sub hl [1, 2, 3, 4, 5, 6, 0] rfl)
      have J83 : ∀ (H : Heap) (locs : List Loc) (ce : Nat → va_E) (x1 : Int32) (x2 : Int32) (x3 : Int32) (x4 : Int32) (x5 : Int32) (x6 : Int32) (x7 : Int32) (s0 : Int32), va_P D vwCl (zw 73 ad ce) H → va_S (zA 73 ad) s.heap H locs → gOK cy ad cnt B ce → (0 ≤ x6.toInt ∧ x6.toInt ≤ 5) → (0 ≤ s0.toInt ∧ s0.toInt ≤ 1) → (7 - x6.toInt ≤ (N19 : Int) + 1) → ∀ ls : Array Slot, lv_has ls 9 [(0, .ref (ad 0)), (1, .int x1), (2, .int x2), (3, .int x3), (4, .int x4), (5, .int x5), (6, .int x6), (7, .int x7)] → W p l e { frames := 3, cells := 0, slots := 0, locals := 72 } s m ([.ref (ad 0), .int p1, .int p2, .int p3, .int p4, .int p5] : List Value).toArray below meth c H locs 0 0 (MQ below (zQi D 73 ad (fun r ce => gOK cy ad cnt B ce ∧ (True))) ([.ref (ad 0), .int p1, .int p2, .int p3, .int p4, .int p5] : List Value).toArray s 0 0 (zA 73 ad)) (F0 m 83 ls [.int s0]) := by
        intro H locs ce x1 x2 x3 x4 x5 x6 x7 s0 hP hS hO q_x6 q_s0 qm19 ls hl
        refine lv_istore (lv' := [(8, .int s0), (0, .ref (ad 0)), (1, .int x1), (2, .int x2), (3, .int x3), (4, .int x4), (5, .int x5), (6, .int x6), (7, .int x7)]) hx hb dX7_box_83 hl (by decide) rfl (fun ls hl => ?_)
        refine lv_iload hx hb dX7_box_85 (lv_at hl 0 rfl) ?_
        refine z_if_eq (tgt := 102) hx hb dX7_box_87 (by decide) (fun c87 => ?_) (fun c87 => ?_)
        · skip
          exact J102 _ _ _ x1 x2 x3 x4 x5 x6 hP hS hO (by omega) (by omega) _ (lv_sub hl [1, 2, 3, 4, 5, 6, 7] rfl)
        · skip
          refine lv_iload hx hb dX7_box_90 (lv_at hl 8 rfl) ?_
          refine z_ciP (z_rS (As := [.int x7]) (rest := []) ⟨hx, hb, hml, hown, hts⟩ (c_X7_levelOf l D (gT cy) 73 ad (fun c1 => c1 = ce) x7) (va_cwS 1 hts (g_S mw_4 mw_5 mw_2 mw_6) rfl rfl rfl (by decide +kernel) ⟨Nat.le_of_ble_eq_true rfl, Nat.le_of_ble_eq_true rfl⟩) hK hN rfl hP rfl hl.1 rfl (Nat.le_of_ble_eq_true rfl) dX7_box_92 ⟨Nat.zero_le _, Nat.zero_le _⟩) hS (fun _ h => h) (fun v92 H locs h92 hP hS => ?_)
          refine lv_iload_n hx hb dX7_box_95 rfl (lv_at hl 2 rfl) ?_
          refine z_icmp_ne (tgt := 102) hx hb dX7_box_96 (by decide) (fun c96 => ?_) (fun c96 => ?_)
          · skip
            exact J102 _ _ _ x1 x2 x3 x4 x5 x6 hP hS hO (by omega) (by omega) _ (lv_sub hl [1, 2, 3, 4, 5, 6, 7] rfl)
          · skip
            refine z_bi hx hb dX7_box_99 (by decide) (fun v99 h99 => ?_)
            exact z_reti hx hb hr hlocks hP hS dX7_box_101 ⟨hO, trivial⟩
      have J82 : ∀ (H : Heap) (locs : List Loc) (ce : Nat → va_E) (x1 : Int32) (x2 : Int32) (x3 : Int32) (x4 : Int32) (x5 : Int32) (x6 : Int32) (x7 : Int32), va_P D vwCl (zw 73 ad ce) H → va_S (zA 73 ad) s.heap H locs → gOK cy ad cnt B ce → (0 ≤ x6.toInt ∧ x6.toInt ≤ 5) → (7 - x6.toInt ≤ (N19 : Int) + 1) → ∀ ls : Array Slot, lv_has ls 9 [(0, .ref (ad 0)), (1, .int x1), (2, .int x2), (3, .int x3), (4, .int x4), (5, .int x5), (6, .int x6), (7, .int x7)] → W p l e { frames := 3, cells := 0, slots := 0, locals := 72 } s m ([.ref (ad 0), .int p1, .int p2, .int p3, .int p4, .int p5] : List Value).toArray below meth c H locs 0 0 (MQ below (zQi D 73 ad (fun r ce => gOK cy ad cnt B ce ∧ (True))) ([.ref (ad 0), .int p1, .int p2, .int p3, .int p4, .int p5] : List Value).toArray s 0 0 (zA 73 ad)) (F0 m 82 ls []) := by
        intro H locs ce x1 x2 x3 x4 x5 x6 x7 hP hS hO q_x6 qm19 ls hl
        refine z_ic hx hb dX7_box_82 (by decide) (fun v82 h82 => ?_)
        exact J83 _ _ _ x1 x2 x3 x4 x5 x6 x7 v82 hP hS hO (by omega) (by omega) (by omega) _ (lv_sub hl [0, 1, 2, 3, 4, 5, 6, 7] rfl)
      intro H locs ce x1 x2 x3 x4 x5 x6 hP hS hO q_x6 hm ls hl
      refine lv_iload hx hb dX7_box_19 (lv_at hl 6 rfl) ?_
      refine lv_aload_n hx hb dX7_box_21 rfl (lv_at hl 0 rfl) ?_
      obtain ⟨v22, v22a, e22, h22, h22a⟩ := gg_GK hO
      refine va_get (ci := 7) (C := RX7) (T := TX7) (N := 6) (v := .int v22) hx hb hts inX7 hown hK hP 0 (zw_at (by decide) e22) rfl 4 (by decide) fl53 (fun _ h => h) rfl dX7_box_22 ?_
      refine z_icmp_ge (tgt := 108) hx hb dX7_box_25 (by decide) (fun c25 => ?_) (fun c25 => ?_)
      · skip
        refine lv_aload_n hx hb dX7_box_108 rfl (lv_at hl 0 rfl) ?_
        refine va_get (ci := 7) (C := RX7) (T := TX7) (N := 6) (v := .ref (ad 1)) hx hb hts inX7 hown hK hP 0 (zw_at (by decide) e22) rfl 0 (by decide) fl12 (fun _ h => h) rfl dX7_box_109 ?_
        obtain ⟨v112, e112, h112, h112a, h112b⟩ := gg_Gr hO
        refine va_get (ci := 3) (C := RX3) (T := TX3) (N := 9) (v := .ref (ad 5)) hx hb hts inX3 hown hK hP 1 (zw_at (by decide) e112) rfl 1 (by decide) fl70 (fun _ h => h) rfl dX7_box_112 ?_
        refine lv_iload_n hx hb dX7_box_115 rfl (lv_at hl 1 rfl) ?_
        refine lv_iload_n hx hb dX7_box_116 rfl (lv_at hl 2 rfl) ?_
        refine lv_iload_n hx hb dX7_box_117 rfl (lv_at hl 3 rfl) ?_
        refine lv_iload hx hb dX7_box_118 (lv_at hl 4 rfl) ?_
        refine lv_iload hx hb dX7_box_120 (lv_at hl 5 rfl) ?_
        obtain ⟨v122, e122⟩ := gg_Bo hO
        refine z_ci (z_rV (q0 := 5) (As := [.int x1, .int x2, .int x3, .int x4, .int x5]) (rest := []) ⟨hx, hb, hml, hown, hts⟩ (c_X1_putDown_Bo l D cy ad cnt B hJ x1 x2 x3 x4 x5) (cwV 5 hts (g_V mw_289 mw_290 mw_291 mw_279 mw_292) rfl rfl rfl (by decide +kernel) ⟨Nat.le_of_ble_eq_true rfl, Nat.le_of_ble_eq_true rfl⟩) hK hN hO hP (by decide) e122 rfl rfl hl.1 rfl (Nat.le_of_ble_eq_true rfl) dX7_box_122 ⟨Nat.zero_le _, Nat.zero_le _⟩) hS (fun v122a ce H locs h122 hP hS => ?_)
        obtain ⟨hO, h122a⟩ := h122
        exact z_reti hx hb hr hlocks hP hS dX7_box_125 ⟨hO, trivial⟩
      · skip
        refine lv_aload_n hx hb dX7_box_28 rfl (lv_at hl 0 rfl) ?_
        refine va_get (ci := 7) (C := RX7) (T := TX7) (N := 6) (v := .ref (ad 52)) hx hb hts inX7 hown hK hP 0 (zw_at (by decide) e22) rfl 3 (by decide) fl34 (fun _ h => h) rfl dX7_box_29 ?_
        refine lv_iload hx hb dX7_box_32 (lv_at hl 6 rfl) ?_
        obtain ⟨f34, e34, h34⟩ := gg_Wa hO
        refine z_ald (g := fun j0 => 53 + j0) hx hb hK hP (q0 := 52) 3 (by decide) e34 rfl (by omega) h34 dX7_box_34 (fun j34 h34a => ?_)
        obtain ⟨v35, v35a, v35b, v35c, v35d, v35e, v35f, e35, h35, h35a, h35b⟩ := gg_Wk hO (j := j34) (by omega)
        refine va_get (ci := 6) (C := RX6) (T := TX6) (N := 8) (v := .int v35a) hx hb hts inX6 hown hK hP (53 + j34) (zw_at (by omega) e35) rfl 2 (by decide) fl57 (fun _ h => h) rfl dX7_box_35 ?_
        refine lv_istore (lv' := [(7, .int v35a), (0, .ref (ad 0)), (1, .int x1), (2, .int x2), (3, .int x3), (4, .int x4), (5, .int x5), (6, .int x6)]) hx hb dX7_box_38 hl (by decide) rfl (fun ls hl => ?_)
        refine lv_iload_n hx hb dX7_box_40 rfl (lv_at hl 3 rfl) ?_
        refine lv_iload hx hb dX7_box_41 (lv_at hl 0 rfl) ?_
        refine z_ciP (z_rS (As := [.int v35a]) (rest := [.int x2]) ⟨hx, hb, hml, hown, hts⟩ (c_X7_xOf l D (gT cy) 73 ad (fun c1 => c1 = ce) v35a) (va_cwS 1 hts (g_S mw_10 mw_11 mw_2 mw_12) rfl rfl rfl (by decide +kernel) ⟨Nat.le_of_ble_eq_true rfl, Nat.le_of_ble_eq_true rfl⟩) hK hN rfl hP rfl hl.1 rfl (Nat.le_of_ble_eq_true rfl) dX7_box_43 ⟨Nat.zero_le _, Nat.zero_le _⟩) hS (fun _ h => h) (fun v43 H locs h43 hP hS => ?_)
        refine z_icmp_ge (tgt := 82) hx hb dX7_box_46 (by decide) (fun c46 => ?_) (fun c46 => ?_)
        · skip
          exact J82 _ _ _ x1 x2 x3 x4 x5 x6 v35a hP hS hO (by omega) (by omega) _ (lv_sub hl [1, 2, 3, 4, 5, 6, 7, 0] rfl)
        · skip
          refine lv_iload hx hb dX7_box_49 (lv_at hl 0 rfl) ?_
          refine z_ciP (z_rS (As := [.int v35a]) (rest := []) ⟨hx, hb, hml, hown, hts⟩ (c_X7_xOf l D (gT cy) 73 ad (fun c1 => c1 = ce) v35a) (va_cwS 1 hts (g_S mw_10 mw_11 mw_2 mw_12) rfl rfl rfl (by decide +kernel) ⟨Nat.le_of_ble_eq_true rfl, Nat.le_of_ble_eq_true rfl⟩) hK hN rfl hP rfl hl.1 rfl (Nat.le_of_ble_eq_true rfl) dX7_box_51 ⟨Nat.zero_le _, Nat.zero_le _⟩) hS (fun _ h => h) (fun v51 H locs h51 hP hS => ?_)
          refine lv_iload hx hb dX7_box_54 (lv_at hl 5 rfl) ?_
          refine z_icmp_ge (tgt := 82) hx hb dX7_box_56 (by decide) (fun c56 => ?_) (fun c56 => ?_)
          · skip
            exact J82 _ _ _ x1 x2 x3 x4 x5 x6 v35a hP hS hO (by omega) (by omega) _ (lv_sub hl [1, 2, 3, 4, 5, 6, 7, 0] rfl)
          · skip
            refine lv_iload_n hx hb dX7_box_59 rfl (lv_at hl 4 rfl) ?_
            refine lv_iload hx hb dX7_box_60 (lv_at hl 0 rfl) ?_
            refine z_ciP (z_rS (As := [.int v35a]) (rest := [.int x3]) ⟨hx, hb, hml, hown, hts⟩ (c_X7_yOf l D (gT cy) 73 ad (fun c1 => c1 = ce) v35a) (va_cwS 1 hts (g_S mw_7 mw_8 mw_2 mw_9) rfl rfl rfl (by decide +kernel) ⟨Nat.le_of_ble_eq_true rfl, Nat.le_of_ble_eq_true rfl⟩) hK hN rfl hP rfl hl.1 rfl (Nat.le_of_ble_eq_true rfl) dX7_box_62 ⟨Nat.zero_le _, Nat.zero_le _⟩) hS (fun _ h => h) (fun v62 H locs h62 hP hS => ?_)
            refine z_icmp_ge (tgt := 82) hx hb dX7_box_65 (by decide) (fun c65 => ?_) (fun c65 => ?_)
            · skip
              exact J82 _ _ _ x1 x2 x3 x4 x5 x6 v35a hP hS hO (by omega) (by omega) _ (lv_sub hl [1, 2, 3, 4, 5, 6, 7, 0] rfl)
            · skip
              refine lv_iload hx hb dX7_box_68 (lv_at hl 0 rfl) ?_
              refine z_ciP (z_rS (As := [.int v35a]) (rest := []) ⟨hx, hb, hml, hown, hts⟩ (c_X7_yOf l D (gT cy) 73 ad (fun c1 => c1 = ce) v35a) (va_cwS 1 hts (g_S mw_7 mw_8 mw_2 mw_9) rfl rfl rfl (by decide +kernel) ⟨Nat.le_of_ble_eq_true rfl, Nat.le_of_ble_eq_true rfl⟩) hK hN rfl hP rfl hl.1 rfl (Nat.le_of_ble_eq_true rfl) dX7_box_70 ⟨Nat.zero_le _, Nat.zero_le _⟩) hS (fun _ h => h) (fun v70 H locs h70 hP hS => ?_)
              refine lv_iload hx hb dX7_box_73 (lv_at hl 6 rfl) ?_
              refine z_icmp_ge (tgt := 82) hx hb dX7_box_75 (by decide) (fun c75 => ?_) (fun c75 => ?_)
              · skip
                exact J82 _ _ _ x1 x2 x3 x4 x5 x6 v35a hP hS hO (by omega) (by omega) _ (lv_sub hl [1, 2, 3, 4, 5, 6, 7, 0] rfl)
              · skip
                refine z_ic hx hb dX7_box_78 (by decide) (fun v78 h78 => ?_)
                refine lv_goto (tgt := 83) hx hb dX7_box_79 (by decide) ?_
                exact J83 _ _ _ x1 x2 x3 x4 x5 x6 v35a v78 hP hS hO (by omega) (by omega) (by omega) _ (lv_sub hl [1, 2, 3, 4, 5, 6, 7, 0] rfl)
  intro ls hl
  have hl : lv_has ls 9 [(0, .ref (ad 0)), (1, .int p1), (2, .int p2), (3, .int p3), (4, .int p4), (5, .int p5)] := hl
  refine lv_iload_n hx hb dX7_box_0 rfl (lv_at hl 1 rfl) ?_
  refine lv_iload_n hx hb dX7_box_1 rfl (lv_at hl 2 rfl) ?_
  refine lv_iload_n hx hb dX7_box_2 rfl (lv_at hl 3 rfl) ?_
  refine lv_iload hx hb dX7_box_3 (lv_at hl 4 rfl) ?_
  refine lv_iload hx hb dX7_box_5 (lv_at hl 5 rfl) ?_
  refine z_ciP (z_rS (As := [.int p1, .int p2, .int p3, .int p4, .int p5]) (rest := []) ⟨hx, hb, hml, hown, hts⟩ (c_X7_isRectangle l D (gT cy) 73 ad (fun c1 => c1 = ce) p1 p2 p3 p4 p5) (va_cwS 5 hts (g_S mw_293 mw_294 mw_2 mw_295) rfl rfl rfl (by decide +kernel) ⟨Nat.le_of_ble_eq_true rfl, Nat.le_of_ble_eq_true rfl⟩) hK hN rfl hP rfl hl.1 rfl (Nat.le_of_ble_eq_true rfl) dX7_box_7 ⟨Nat.zero_le _, Nat.zero_le _⟩) hS (fun _ h => h) (fun v7 H locs h7 hP hS => ?_)
  refine z_if_ne (tgt := 16) hx hb dX7_box_10 (by decide) (fun c10 => ?_) (fun c10 => ?_)
  · skip
    refine z_ic hx hb dX7_box_16 (by decide) (fun v16 h16 => ?_)
    refine lv_istore (lv' := [(6, .int v16), (0, .ref (ad 0)), (1, .int p1), (2, .int p2), (3, .int p3), (4, .int p4), (5, .int p5)]) hx hb dX7_box_17 hl (by decide) rfl (fun ls hl => ?_)
    exact L19 8 _ _ _ p1 p2 p3 p4 p5 v16 hP hS hO (by omega) (by omega) _ (lv_sub hl [1, 2, 3, 4, 5, 6, 0] rfl)
  · skip
    refine z_bi hx hb dX7_box_13 (by decide) (fun v13 h13 => ?_)
    exact z_reti hx hb hr hlocks hP hS dX7_box_15 ⟨hO, trivial⟩
set_option maxHeartbeats 8000000 in
set_option maxRecDepth 100000 in
theorem c_X7_take (l : Launch) (D : va_G) (cy : Nat → ClassId) (ad : Nat → Nat) (cnt : Nat → Nat) (B : Nat) (hJ : zJ 73 ad) (p1 : Int32) : zM l D (gT cy) 73 ad (gOK cy ad cnt B) yX7_take vsX7_take { frames := 0, cells := 0, slots := 0, locals := 0 } ([.ref (ad 0), .int p1] : List Value) (zQi D 73 ad (fun r ce => gOK cy ad cnt B ce ∧ (True))) := by
  refine z_of (cc := cX7_take) (maxL := 3) (ret := (some .int)) (by decide) rfl (Nat.le_of_ble_eq_true rfl) ?_
  intro p e s m below meth c hx hb hr hts hown hlocks hml hK hN ce hOK hP
  have hown : s.vm.findClass RX7 = some m.cls := hown
  have hS : va_S (zA 73 ad) s.heap s.heap [] := va_S.rf
  have hO := hOK
  have inX0 : ∀ w ∈ u_ws RX0 TX0 6, w ∈ vsX7_take := fun w h => List.mem_cons_of_mem _ (inlX0 w h)
  have inX1 : ∀ w ∈ u_ws RX1 TX1 2, w ∈ vsX7_take := fun w h => List.mem_cons_of_mem _ (inlX1 w h)
  have inX3 : ∀ w ∈ u_ws RX3 TX3 9, w ∈ vsX7_take := fun w h => List.mem_cons_of_mem _ (inlX3 w h)
  have inX7 : ∀ w ∈ u_ws RX7 TX7 6, w ∈ vsX7_take := fun w h => List.mem_cons_of_mem _ (inlX7 w h)
  have fl12 := hts (.fieldLink RX7 12 "GroundKeeper" "ground" "LGroundKeeper$Ground;") (List.mem_cons_of_mem _ mw_188)
  have fl70 := hts (.fieldLink RX7 70 "GroundKeeper$Ground" "boxes" "LGroundKeeper$Areas;") (List.mem_cons_of_mem _ mw_257)
  have fl77 := hts (.fieldLink RX7 77 "GroundKeeper$Areas" "all" "[LGroundKeeper$Area;") (List.mem_cons_of_mem _ mw_264)
  have fl81 := hts (.fieldLink RX7 81 "GroundKeeper$Area" "on" "Z") (List.mem_cons_of_mem _ mw_265)
  intro ls hl
  have hl : lv_has ls 3 [(0, .ref (ad 0)), (1, .int p1)] := hl
  refine lv_iload_n hx hb dX7_take_0 rfl (lv_at hl 1 rfl) ?_
  refine z_if_lt (tgt := 10) hx hb dX7_take_1 (by decide) (fun c1 => ?_) (fun c1 => ?_)
  · skip
    refine z_bi hx hb dX7_take_10 (by decide) (fun v10 h10 => ?_)
    exact z_reti hx hb hr hlocks hP hS dX7_take_12 ⟨hO, trivial⟩
  · skip
    refine lv_iload_n hx hb dX7_take_4 rfl (lv_at hl 1 rfl) ?_
    refine z_bi hx hb dX7_take_5 (by decide) (fun v5 h5 => ?_)
    refine z_icmp_lt (tgt := 13) hx hb dX7_take_7 (by decide) (fun c7 => ?_) (fun c7 => ?_)
    · skip
      refine lv_aload_n hx hb dX7_take_13 rfl (lv_at hl 0 rfl) ?_
      obtain ⟨v14, v14a, e14, h14, h14a⟩ := gg_GK hO
      refine va_get (ci := 7) (C := RX7) (T := TX7) (N := 6) (v := .ref (ad 1)) hx hb hts inX7 hown hK hP 0 (zw_at (by decide) e14) rfl 0 (by decide) fl12 (fun _ h => h) rfl dX7_take_14 ?_
      obtain ⟨v17, e17, h17, h17a, h17b⟩ := gg_Gr hO
      refine va_get (ci := 3) (C := RX3) (T := TX3) (N := 9) (v := .ref (ad 5)) hx hb hts inX3 hown hK hP 1 (zw_at (by decide) e17) rfl 1 (by decide) fl70 (fun _ h => h) rfl dX7_take_17 ?_
      obtain ⟨v20, e20⟩ := gg_Bo hO
      refine va_get (ci := 1) (C := RX1) (T := TX1) (N := 2) (v := .ref (ad 9)) hx hb hts inX1 hown hK hP 5 (zw_at (by decide) e20) rfl 0 (by decide) fl77 (fun _ h => h) rfl dX7_take_20 ?_
      refine lv_iload_n hx hb dX7_take_23 rfl (lv_at hl 1 rfl) ?_
      obtain ⟨f24, e24, h24⟩ := gg_BoA hO
      refine z_ald (g := fun j0 => 12 + (12 + j0)) hx hb hK hP (q0 := 9) 2 (by decide) e24 rfl (by omega) h24 dX7_take_24 (fun j24 h24a => ?_)
      refine lv_astore_n (lv' := [(2, .ref (ad (12 + (12 + j24)))), (0, .ref (ad 0)), (1, .int p1)]) hx hb dX7_take_25 rfl hl (by decide) rfl (fun ls hl => ?_)
      refine lv_aload_n hx hb dX7_take_26 rfl (lv_at hl 0 rfl) ?_
      obtain ⟨v27, v27a, v27b, v27c, v27d, v27e, e27⟩ := gg_Ar hO (j := (12 + j24)) (by omega)
      refine va_get (ci := 0) (C := RX0) (T := TX0) (N := 6) (v := .int v27e) hx hb hts inX0 hown hK hP (12 + (12 + j24)) (zw_at (by omega) e27) rfl 5 (by decide) fl81 (fun _ h => h) rfl dX7_take_27 ?_
      refine z_if_ne (tgt := 36) hx hb dX7_take_30 (by decide) (fun c30 => ?_) (fun c30 => ?_)
      · skip
        refine lv_aload_n hx hb dX7_take_36 rfl (lv_at hl 0 rfl) ?_
        refine z_ic hx hb dX7_take_37 (by decide) (fun v37 h37 => ?_)
        refine z_put (q0 := (12 + (12 + j24))) (ci := 0) (C := RX0) (T := TX0) (N := 6) hx hb hts inX0 tyX0 tyX0_ok nmX0 hown hK hJ hP hS (by omega) e27 rfl 5 (by decide) fl81 (fun _ h => h) rfl (ty := .boolean) (by decide +kernel) (z_nb (by omega)) (z_fb (by omega)) (Nat.le_of_ble_eq_true rfl) (fs1 := [.int v27, .int v27a, .int v27b, .int v27c, .int v27d, .int v37]) rfl dX7_take_38 (fun ce H locs e38 h38 hP hS => ?_)
        have hO := z_up (OKK := gK cy ad cnt B) (12 + (12 + j24)) hO h38 (by rw [e38]; exact gE_Ar (by omega) |>.mpr ⟨v27, v27a, v27b, v27c, v27d, v37, rfl⟩)
        have e38a := (h38 0 (by omega)).trans e14
        have e38b := (h38 1 (by omega)).trans e17
        have e38c := (h38 5 (by omega)).trans e20
        have e38d := (h38 9 (by omega)).trans e24
        refine z_ic hx hb dX7_take_41 (by decide) (fun v41 h41 => ?_)
        exact z_reti hx hb hr hlocks hP hS dX7_take_42 ⟨hO, trivial⟩
      · skip
        refine z_bi hx hb dX7_take_33 (by decide) (fun v33 h33 => ?_)
        exact z_reti hx hb hr hlocks hP hS dX7_take_35 ⟨hO, trivial⟩
    · skip
      refine z_bi hx hb dX7_take_10 (by decide) (fun v10 h10 => ?_)
      exact z_reti hx hb hr hlocks hP hS dX7_take_12 ⟨hO, trivial⟩
set_option maxHeartbeats 8000000 in
set_option maxRecDepth 100000 in
theorem c_X7_shut (l : Launch) (D : va_G) (cy : Nat → ClassId) (ad : Nat → Nat) (cnt : Nat → Nat) (B : Nat) (hJ : zJ 73 ad) (p1 : Int32) (p2 : Int32) (q_p2 : 0 ≤ p2.toInt ∧ p2.toInt ≤ 1) : zM l D (gT cy) 73 ad (gOK cy ad cnt B) yX7_shut vsX7_shut { frames := 2, cells := 0, slots := 0, locals := 46 } ([.ref (ad 0), .int p1, .int p2] : List Value) (zQi D 73 ad (fun r ce => gOK cy ad cnt B ce ∧ (True))) := by
  refine z_of (cc := cX7_shut) (maxL := 4) (ret := (some .int)) (by decide) rfl (Nat.le_of_ble_eq_true rfl) ?_
  intro p e s m below meth c hx hb hr hts hown hlocks hml hK hN ce hOK hP
  have hown : s.vm.findClass RX7 = some m.cls := hown
  have hS : va_S (zA 73 ad) s.heap s.heap [] := va_S.rf
  have hO := hOK
  have inX0 : ∀ w ∈ u_ws RX0 TX0 6, w ∈ vsX7_shut := fun w h => List.mem_cons_of_mem _ (inlX0 w h)
  have inX1 : ∀ w ∈ u_ws RX1 TX1 2, w ∈ vsX7_shut := fun w h => List.mem_cons_of_mem _ (inlX1 w h)
  have inX3 : ∀ w ∈ u_ws RX3 TX3 9, w ∈ vsX7_shut := fun w h => List.mem_cons_of_mem _ (inlX3 w h)
  have inX7 : ∀ w ∈ u_ws RX7 TX7 6, w ∈ vsX7_shut := fun w h => List.mem_cons_of_mem _ (inlX7 w h)
  have fl12 := hts (.fieldLink RX7 12 "GroundKeeper" "ground" "LGroundKeeper$Ground;") (List.mem_cons_of_mem _ mw_188)
  have fl77 := hts (.fieldLink RX7 77 "GroundKeeper$Areas" "all" "[LGroundKeeper$Area;") (List.mem_cons_of_mem _ mw_264)
  have fl81 := hts (.fieldLink RX7 81 "GroundKeeper$Area" "on" "Z") (List.mem_cons_of_mem _ mw_265)
  have fl90 := hts (.fieldLink RX7 90 "GroundKeeper$Ground" "doors" "LGroundKeeper$Areas;") (List.mem_cons_of_mem _ mw_258)
  have fl93 := hts (.fieldLink RX7 93 "GroundKeeper$Areas" "size" "I") (List.mem_cons_of_mem _ mw_259)
  have J57 : ∀ (H : Heap) (locs : List Loc) (ce : Nat → va_E) (x2 : Int32) (j3 : Nat), va_P D vwCl (zw 73 ad ce) H → va_S (zA 73 ad) s.heap H locs → gOK cy ad cnt B ce → (0 ≤ x2.toInt ∧ x2.toInt ≤ 1) → (j3 < 32) → ∀ ls : Array Slot, lv_has ls 4 [(2, .int x2), (3, .ref (ad (12 + j3)))] → W p l e { frames := 2, cells := 0, slots := 0, locals := 46 } s m ([.ref (ad 0), .int p1, .int p2] : List Value).toArray below meth c H locs 0 0 (MQ below (zQi D 73 ad (fun r ce => gOK cy ad cnt B ce ∧ (True))) ([.ref (ad 0), .int p1, .int p2] : List Value).toArray s 0 0 (zA 73 ad)) (F0 m 57 ls []) := by
    intro H locs ce x2 j3 hP hS hO q_x2 q_j3 ls hl
    refine lv_aload_n hx hb dX7_shut_57 rfl (lv_at hl 1 rfl) ?_
    refine lv_iload_n hx hb dX7_shut_58 rfl (lv_at hl 0 rfl) ?_
    obtain ⟨v59, v59a, v59b, v59c, v59d, v59e, e59⟩ := gg_Ar hO (j := j3) (by omega)
    refine z_put (q0 := (12 + j3)) (ci := 0) (C := RX0) (T := TX0) (N := 6) hx hb hts inX0 tyX0 tyX0_ok nmX0 hown hK hJ hP hS (by omega) e59 rfl 5 (by decide) fl81 (fun _ h => h) rfl (ty := .boolean) (by decide +kernel) (z_nb (by omega)) (z_fb (by omega)) (Nat.le_of_ble_eq_true rfl) (fs1 := [.int v59, .int v59a, .int v59b, .int v59c, .int v59d, .int x2]) rfl dX7_shut_59 (fun ce H locs e59a h59 hP hS => ?_)
    have hO := z_up (OKK := gK cy ad cnt B) (12 + j3) hO h59 (by rw [e59a]; exact gE_Ar (by omega) |>.mpr ⟨v59, v59a, v59b, v59c, v59d, x2, rfl⟩)
    refine z_ic hx hb dX7_shut_62 (by decide) (fun v62 h62 => ?_)
    exact z_reti hx hb hr hlocks hP hS dX7_shut_63 ⟨hO, trivial⟩
  intro ls hl
  have hl : lv_has ls 4 [(0, .ref (ad 0)), (1, .int p1), (2, .int p2)] := hl
  refine lv_iload_n hx hb dX7_shut_0 rfl (lv_at hl 1 rfl) ?_
  refine z_if_lt (tgt := 18) hx hb dX7_shut_1 (by decide) (fun c1 => ?_) (fun c1 => ?_)
  · skip
    refine z_bi hx hb dX7_shut_18 (by decide) (fun v18 h18 => ?_)
    exact z_reti hx hb hr hlocks hP hS dX7_shut_20 ⟨hO, trivial⟩
  · skip
    refine lv_iload_n hx hb dX7_shut_4 rfl (lv_at hl 1 rfl) ?_
    refine lv_aload_n hx hb dX7_shut_5 rfl (lv_at hl 0 rfl) ?_
    obtain ⟨v6, v6a, e6, h6, h6a⟩ := gg_GK hO
    refine va_get (ci := 7) (C := RX7) (T := TX7) (N := 6) (v := .ref (ad 1)) hx hb hts inX7 hown hK hP 0 (zw_at (by decide) e6) rfl 0 (by decide) fl12 (fun _ h => h) rfl dX7_shut_6 ?_
    obtain ⟨v9, e9, h9, h9a, h9b⟩ := gg_Gr hO
    refine va_get (ci := 3) (C := RX3) (T := TX3) (N := 9) (v := .ref (ad 6)) hx hb hts inX3 hown hK hP 1 (zw_at (by decide) e9) rfl 2 (by decide) fl90 (fun _ h => h) rfl dX7_shut_9 ?_
    obtain ⟨v12, e12, h12, h12a, h12b⟩ := gg_Do hO
    refine va_get (ci := 1) (C := RX1) (T := TX1) (N := 2) (v := .int v12) hx hb hts inX1 hown hK hP 6 (zw_at (by decide) e12) rfl 1 (by decide) fl93 (fun _ h => h) rfl dX7_shut_12 ?_
    refine z_icmp_lt (tgt := 21) hx hb dX7_shut_15 (by decide) (fun c15 => ?_) (fun c15 => ?_)
    · skip
      refine lv_aload_n hx hb dX7_shut_21 rfl (lv_at hl 0 rfl) ?_
      refine va_get (ci := 7) (C := RX7) (T := TX7) (N := 6) (v := .ref (ad 1)) hx hb hts inX7 hown hK hP 0 (zw_at (by decide) e6) rfl 0 (by decide) fl12 (fun _ h => h) rfl dX7_shut_22 ?_
      refine va_get (ci := 3) (C := RX3) (T := TX3) (N := 9) (v := .ref (ad 6)) hx hb hts inX3 hown hK hP 1 (zw_at (by decide) e9) rfl 2 (by decide) fl90 (fun _ h => h) rfl dX7_shut_25 ?_
      refine va_get (ci := 1) (C := RX1) (T := TX1) (N := 2) (v := .ref (ad 10)) hx hb hts inX1 hown hK hP 6 (zw_at (by decide) e12) rfl 0 (by decide) fl77 (fun _ h => h) rfl dX7_shut_28 ?_
      refine lv_iload_n hx hb dX7_shut_31 rfl (lv_at hl 1 rfl) ?_
      obtain ⟨f32, e32, h32⟩ := gg_DoA hO
      refine z_ald (g := fun j0 => 12 + (20 + j0)) hx hb hK hP (q0 := 10) 2 (by decide) e32 rfl (by omega) h32 dX7_shut_32 (fun j32 h32a => ?_)
      refine lv_astore_n (lv' := [(3, .ref (ad (12 + (20 + j32)))), (0, .ref (ad 0)), (1, .int p1), (2, .int p2)]) hx hb dX7_shut_33 rfl hl (by decide) rfl (fun ls hl => ?_)
      refine lv_aload_n hx hb dX7_shut_34 rfl (lv_at hl 0 rfl) ?_
      obtain ⟨v35, v35a, v35b, v35c, v35d, v35e, e35⟩ := gg_Ar hO (j := (20 + j32)) (by omega)
      refine va_get (ci := 0) (C := RX0) (T := TX0) (N := 6) (v := .int v35e) hx hb hts inX0 hown hK hP (12 + (20 + j32)) (zw_at (by omega) e35) rfl 5 (by decide) fl81 (fun _ h => h) rfl dX7_shut_35 ?_
      refine lv_iload_n hx hb dX7_shut_38 rfl (lv_at hl 3 rfl) ?_
      refine z_icmp_eq (tgt := 54) hx hb dX7_shut_39 (by decide) (fun c39 => ?_) (fun c39 => ?_)
      · skip
        refine z_bi hx hb dX7_shut_54 (by decide) (fun v54 h54 => ?_)
        exact z_reti hx hb hr hlocks hP hS dX7_shut_56 ⟨hO, trivial⟩
      · skip
        refine lv_iload_n hx hb dX7_shut_42 rfl (lv_at hl 3 rfl) ?_
        refine z_if_eq (tgt := 57) hx hb dX7_shut_43 (by decide) (fun c43 => ?_) (fun c43 => ?_)
        · skip
          exact J57 _ _ _ p2 (20 + j32) hP hS hO (by omega) (by omega) _ (lv_sub hl [3, 0] rfl)
        · skip
          refine lv_aload_n hx hb dX7_shut_46 rfl (lv_at hl 1 rfl) ?_
          refine lv_aload_n hx hb dX7_shut_47 rfl (lv_at hl 0 rfl) ?_
          refine z_ciP (z_rV (q0 := 0) (As := [.ref (ad (12 + (20 + j32)))]) (rest := []) ⟨hx, hb, hml, hown, hts⟩ (c_X7_anyStandsOn l D cy ad cnt B (fun c1 => c1 = ce) hJ (20 + j32) (by omega)) (cwV 1 hts (g_V mw_296 mw_297 mw_298 mw_2 mw_299) rfl rfl rfl (by decide +kernel) ⟨Nat.le_of_ble_eq_true rfl, Nat.le_of_ble_eq_true rfl⟩) hK hN ⟨hO, rfl⟩ hP (by decide) e6 rfl rfl hl.1 rfl (Nat.le_of_ble_eq_true rfl) dX7_shut_48 ⟨Nat.zero_le _, Nat.zero_le _⟩) hS (fun _ h => h.2) (fun v48 H locs h48 hP hS => ?_)
          refine z_if_eq (tgt := 57) hx hb dX7_shut_51 (by decide) (fun c51 => ?_) (fun c51 => ?_)
          · skip
            exact J57 _ _ _ p2 (20 + j32) hP hS hO (by omega) (by omega) _ (lv_sub hl [3, 0] rfl)
          · skip
            refine z_bi hx hb dX7_shut_54 (by decide) (fun v54 h54 => ?_)
            exact z_reti hx hb hr hlocks hP hS dX7_shut_56 ⟨hO, trivial⟩
    · skip
      refine z_bi hx hb dX7_shut_18 (by decide) (fun v18 h18 => ?_)
      exact z_reti hx hb hr hlocks hP hS dX7_shut_20 ⟨hO, trivial⟩
set_option maxHeartbeats 8000000 in
set_option maxRecDepth 100000 in
theorem c_X7_walker (l : Launch) (D : va_G) (cy : Nat → ClassId) (ad : Nat → Nat) (cnt : Nat → Nat) (B : Nat) (hJ : zJ 73 ad) (p1 : Int32) (p2 : Int32) (p3 : Int32) : zM l D (gT cy) 73 ad (gOK cy ad cnt B) yX7_walker vsX7_walker { frames := 2, cells := 0, slots := 0, locals := 48 } ([.ref (ad 0), .int p1, .int p2, .int p3] : List Value) (zQi D 73 ad (fun r ce => gOK cy ad cnt B ce ∧ (True))) := by
  refine z_of (cc := cX7_walker) (maxL := 5) (ret := (some .int)) (by decide) rfl (Nat.le_of_ble_eq_true rfl) ?_
  intro p e s m below meth c hx hb hr hts hown hlocks hml hK hN ce hOK hP
  have hown : s.vm.findClass RX7 = some m.cls := hown
  have hS : va_S (zA 73 ad) s.heap s.heap [] := va_S.rf
  have hO := hOK
  have inX6 : ∀ w ∈ u_ws RX6 TX6 8, w ∈ vsX7_walker := fun w h => List.mem_cons_of_mem _ (inlX6 w h)
  have inX7 : ∀ w ∈ u_ws RX7 TX7 6, w ∈ vsX7_walker := fun w h => List.mem_cons_of_mem _ (inlX7 w h)
  have fl12 := hts (.fieldLink RX7 12 "GroundKeeper" "ground" "LGroundKeeper$Ground;") (List.mem_cons_of_mem _ mw_188)
  have fl34 := hts (.fieldLink RX7 34 "GroundKeeper" "walkers" "[LGroundKeeper$Walker;") (List.mem_cons_of_mem _ mw_184)
  have fl53 := hts (.fieldLink RX7 53 "GroundKeeper" "walkerSize" "I") (List.mem_cons_of_mem _ mw_185)
  have fl57 := hts (.fieldLink RX7 57 "GroundKeeper$Walker" "place" "I") (List.mem_cons_of_mem _ mw_186)
  intro ls hl
  have hl : lv_has ls 5 [(0, .ref (ad 0)), (1, .int p1), (2, .int p2), (3, .int p3)] := hl
  refine lv_iload_n hx hb dX7_walker_0 rfl (lv_at hl 1 rfl) ?_
  refine lv_iload_n hx hb dX7_walker_1 rfl (lv_at hl 2 rfl) ?_
  refine lv_iload_n hx hb dX7_walker_2 rfl (lv_at hl 3 rfl) ?_
  refine z_ciP (z_rS (As := [.int p1, .int p2, .int p3]) (rest := []) ⟨hx, hb, hml, hown, hts⟩ (c_X7_isPlace l D (gT cy) 73 ad (fun c1 => c1 = ce) p1 p2 p3) (va_cwS 3 hts (g_S mw_0 mw_1 mw_2 mw_3) rfl rfl rfl (by decide +kernel) ⟨Nat.le_of_ble_eq_true rfl, Nat.le_of_ble_eq_true rfl⟩) hK hN rfl hP rfl hl.1 rfl (Nat.le_of_ble_eq_true rfl) dX7_walker_3 ⟨Nat.zero_le _, Nat.zero_le _⟩) hS (fun _ h => h) (fun v3 H locs h3 hP hS => ?_)
  refine z_if_ne (tgt := 12) hx hb dX7_walker_6 (by decide) (fun c6 => ?_) (fun c6 => ?_)
  · skip
    refine lv_iload_n hx hb dX7_walker_12 rfl (lv_at hl 1 rfl) ?_
    refine lv_iload_n hx hb dX7_walker_13 rfl (lv_at hl 2 rfl) ?_
    refine lv_iload_n hx hb dX7_walker_14 rfl (lv_at hl 3 rfl) ?_
    refine z_ciP (z_rS (As := [.int p1, .int p2, .int p3]) (rest := []) ⟨hx, hb, hml, hown, hts⟩ (c_X7_placeAt l D (gT cy) 73 ad (fun c1 => c1 = ce) p1 p2 p3) (va_cwS 3 hts (g_S mw_271 mw_18 mw_2 mw_29) rfl rfl rfl (by decide +kernel) ⟨Nat.le_of_ble_eq_true rfl, Nat.le_of_ble_eq_true rfl⟩) hK hN rfl hP rfl hl.1 rfl (Nat.le_of_ble_eq_true rfl) dX7_walker_15 ⟨Nat.zero_le _, Nat.zero_le _⟩) hS (fun _ h => h) (fun v15 H locs h15 hP hS => ?_)
    refine lv_istore (lv' := [(4, .int v15), (0, .ref (ad 0)), (1, .int p1), (2, .int p2), (3, .int p3)]) hx hb dX7_walker_18 hl (by decide) rfl (fun ls hl => ?_)
    refine lv_aload_n hx hb dX7_walker_20 rfl (lv_at hl 1 rfl) ?_
    obtain ⟨v21, v21a, e21, h21, h21a⟩ := gg_GK hO
    refine va_get (ci := 7) (C := RX7) (T := TX7) (N := 6) (v := .ref (ad 1)) hx hb hts inX7 hown hK hP 0 (zw_at (by decide) e21) rfl 0 (by decide) fl12 (fun _ h => h) rfl dX7_walker_21 ?_
    refine lv_iload hx hb dX7_walker_24 (lv_at hl 0 rfl) ?_
    obtain ⟨v26, e26, h26, h26a, h26b⟩ := gg_Gr hO
    refine z_ciP (z_rV (q0 := 1) (As := [.int v15]) (rest := []) ⟨hx, hb, hml, hown, hts⟩ (c_X3_isGround l D cy ad cnt B (fun c1 => c1 = ce) hJ v15) (cwV 1 hts (g_V mw_272 mw_120 mw_121 mw_84 mw_122) rfl rfl rfl (by decide +kernel) ⟨Nat.le_of_ble_eq_true rfl, Nat.le_of_ble_eq_true rfl⟩) hK hN ⟨hO, rfl⟩ hP (by decide) e26 rfl rfl hl.1 rfl (Nat.le_of_ble_eq_true rfl) dX7_walker_26 ⟨Nat.zero_le _, Nat.zero_le _⟩) hS (fun _ h => h.2) (fun v26a H locs h26c hP hS => ?_)
    refine z_if_eq (tgt := 54) hx hb dX7_walker_29 (by decide) (fun c29 => ?_) (fun c29 => ?_)
    · skip
      refine z_bi hx hb dX7_walker_54 (by decide) (fun v54 h54 => ?_)
      exact z_reti hx hb hr hlocks hP hS dX7_walker_56 ⟨hO, trivial⟩
    · skip
      refine lv_aload_n hx hb dX7_walker_32 rfl (lv_at hl 1 rfl) ?_
      refine va_get (ci := 7) (C := RX7) (T := TX7) (N := 6) (v := .ref (ad 1)) hx hb hts inX7 hown hK hP 0 (zw_at (by decide) e21) rfl 0 (by decide) fl12 (fun _ h => h) rfl dX7_walker_33 ?_
      refine lv_iload hx hb dX7_walker_36 (lv_at hl 0 rfl) ?_
      refine z_ciP (z_rV (q0 := 1) (As := [.int v15]) (rest := []) ⟨hx, hb, hml, hown, hts⟩ (c_X3_isOnShutDoor l D cy ad cnt B (fun c1 => c1 = ce) hJ v15) (cwV 1 hts (g_V mw_300 mw_301 mw_302 mw_84 mw_303) rfl rfl rfl (by decide +kernel) ⟨Nat.le_of_ble_eq_true rfl, Nat.le_of_ble_eq_true rfl⟩) hK hN ⟨hO, rfl⟩ hP (by decide) e26 rfl rfl hl.1 rfl (Nat.le_of_ble_eq_true rfl) dX7_walker_38 ⟨Nat.zero_le _, Nat.zero_le _⟩) hS (fun _ h => h.2) (fun v38 H locs h38 hP hS => ?_)
      refine z_if_ne (tgt := 54) hx hb dX7_walker_41 (by decide) (fun c41 => ?_) (fun c41 => ?_)
      · skip
        refine z_bi hx hb dX7_walker_54 (by decide) (fun v54 h54 => ?_)
        exact z_reti hx hb hr hlocks hP hS dX7_walker_56 ⟨hO, trivial⟩
      · skip
        refine lv_aload_n hx hb dX7_walker_44 rfl (lv_at hl 1 rfl) ?_
        refine lv_iload hx hb dX7_walker_45 (lv_at hl 0 rfl) ?_
        refine z_ic hx hb dX7_walker_47 (by decide) (fun v47 h47 => ?_)
        refine z_ciP (z_rV (q0 := 0) (As := [.int v15, .int v47]) (rest := []) ⟨hx, hb, hml, hown, hts⟩ (c_X7_isTaken l D cy ad cnt B (fun c1 => c1 = ce) hJ v15 v47) (cwV 2 hts (g_V mw_241 mw_242 mw_243 mw_2 mw_244) rfl rfl rfl (by decide +kernel) ⟨Nat.le_of_ble_eq_true rfl, Nat.le_of_ble_eq_true rfl⟩) hK hN ⟨hO, rfl⟩ hP (by decide) e21 rfl rfl hl.1 rfl (Nat.le_of_ble_eq_true rfl) dX7_walker_48 ⟨Nat.zero_le _, Nat.zero_le _⟩) hS (fun _ h => h.2) (fun v48 H locs h48 hP hS => ?_)
        refine z_if_eq (tgt := 57) hx hb dX7_walker_51 (by decide) (fun c51 => ?_) (fun c51 => ?_)
        · skip
          refine lv_aload_n hx hb dX7_walker_57 rfl (lv_at hl 1 rfl) ?_
          refine va_get (ci := 7) (C := RX7) (T := TX7) (N := 6) (v := .int v21) hx hb hts inX7 hown hK hP 0 (zw_at (by decide) e21) rfl 4 (by decide) fl53 (fun _ h => h) rfl dX7_walker_58 ?_
          refine z_bi hx hb dX7_walker_61 (by decide) (fun v61 h61 => ?_)
          refine z_icmp_lt (tgt := 69) hx hb dX7_walker_63 (by decide) (fun c63 => ?_) (fun c63 => ?_)
          · skip
            refine lv_aload_n hx hb dX7_walker_69 rfl (lv_at hl 1 rfl) ?_
            refine va_get (ci := 7) (C := RX7) (T := TX7) (N := 6) (v := .ref (ad 52)) hx hb hts inX7 hown hK hP 0 (zw_at (by decide) e21) rfl 3 (by decide) fl34 (fun _ h => h) rfl dX7_walker_70 ?_
            refine lv_aload_n hx hb dX7_walker_73 rfl (lv_at hl 1 rfl) ?_
            refine va_get (ci := 7) (C := RX7) (T := TX7) (N := 6) (v := .int v21) hx hb hts inX7 hown hK hP 0 (zw_at (by decide) e21) rfl 4 (by decide) fl53 (fun _ h => h) rfl dX7_walker_74 ?_
            obtain ⟨f77, e77, h77⟩ := gg_Wa hO
            refine z_ald (g := fun j0 => 53 + j0) hx hb hK hP (q0 := 52) 3 (by decide) e77 rfl (by omega) h77 dX7_walker_77 (fun j77 h77a => ?_)
            refine lv_iload hx hb dX7_walker_78 (lv_at hl 0 rfl) ?_
            obtain ⟨v80, v80a, v80b, v80c, v80d, v80e, v80f, e80, h80, h80a, h80b⟩ := gg_Wk hO (j := j77) (by omega)
            refine z_put (q0 := (53 + j77)) (ci := 6) (C := RX6) (T := TX6) (N := 8) hx hb hts inX6 tyX6 tyX6_ok nmX6 hown hK hJ hP hS (by omega) e80 rfl 2 (by decide) fl57 (fun _ h => h) rfl (ty := .int) (by decide +kernel) rfl rfl (Nat.le_of_ble_eq_true rfl) (fs1 := [.ref (ad (59 + j77)), .int v80, .int v15, .int v80b, .int v80c, .int v80d, .int v80e, .int v80f]) rfl dX7_walker_80 (fun ce H locs e80a h80c hP hS => ?_)
            have hO := z_up (OKK := gK cy ad cnt B) (53 + j77) hO h80c (by rw [e80a]; exact gE_Wk (by omega) |>.mpr ⟨v80, v15, v80b, v80c, v80d, v80e, v80f, rfl, h80, h80a, h80b⟩)
            have e80b := (h80c 0 (by omega)).trans e21
            have e80c := (h80c 1 (by omega)).trans e26
            have e80d := (h80c 52 (by omega)).trans e77
            refine lv_aload_n hx hb dX7_walker_83 rfl (lv_at hl 1 rfl) ?_
            refine lv_dup hx hb dX7_walker_84 rfl ?_
            refine va_get (ci := 7) (C := RX7) (T := TX7) (N := 6) (v := .int v21) hx hb hts inX7 hown hK hP 0 (zw_at (by decide) e80b) rfl 4 (by decide) fl53 (fun _ h => h) rfl dX7_walker_85 ?_
            refine z_ic hx hb dX7_walker_88 (by decide) (fun v88 h88 => ?_)
            refine z_addE hx hb dX7_walker_89 (by omega) (fun v89 h89 => ?_)
            refine z_put (q0 := 0) (ci := 7) (C := RX7) (T := TX7) (N := 6) hx hb hts inX7 tyX7 tyX7_ok nmX7 hown hK hJ hP hS (by decide) e80b rfl 4 (by decide) fl53 (fun _ h => h) rfl (ty := .int) (by decide +kernel) rfl rfl (Nat.le_of_ble_eq_true rfl) (fs1 := [.ref (ad 1), .ref (ad 2), .ref (ad (59 + 6)), .ref (ad 52), .int v89, .int v21a]) rfl dX7_walker_90 (fun ce H locs e90 h90 hP hS => ?_)
            have hO := z_up (OKK := gK cy ad cnt B) 0 hO h90 (by rw [e90]; exact gE_GK |>.mpr ⟨v89, v21a, rfl, by omega, by omega⟩)
            have e90a := (h90 1 (by omega)).trans e80c
            have e90b := (h90 52 (by omega)).trans e80d
            have e90c := (h90 (53 + j77) (by omega)).trans e80a
            refine lv_aload_n hx hb dX7_walker_93 rfl (lv_at hl 1 rfl) ?_
            refine va_get (ci := 7) (C := RX7) (T := TX7) (N := 6) (v := .int v89) hx hb hts inX7 hown hK hP 0 (zw_at (by decide) e90) rfl 4 (by decide) fl53 (fun _ h => h) rfl dX7_walker_94 ?_
            refine z_ic hx hb dX7_walker_97 (by decide) (fun v97 h97 => ?_)
            refine z_subE hx hb dX7_walker_98 (by omega) (fun v98 h98 => ?_)
            exact z_reti hx hb hr hlocks hP hS dX7_walker_99 ⟨hO, trivial⟩
          · skip
            refine z_bi hx hb dX7_walker_66 (by decide) (fun v66 h66 => ?_)
            exact z_reti hx hb hr hlocks hP hS dX7_walker_68 ⟨hO, trivial⟩
        · skip
          refine z_bi hx hb dX7_walker_54 (by decide) (fun v54 h54 => ?_)
          exact z_reti hx hb hr hlocks hP hS dX7_walker_56 ⟨hO, trivial⟩
  · skip
    refine z_bi hx hb dX7_walker_9 (by decide) (fun v9 h9 => ?_)
    exact z_reti hx hb hr hlocks hP hS dX7_walker_11 ⟨hO, trivial⟩
set_option maxHeartbeats 8000000 in
set_option maxRecDepth 100000 in
theorem c_X7_reach (l : Launch) (D : va_G) (cy : Nat → ClassId) (ad : Nat → Nat) (cnt : Nat → Nat) (B : Nat) (hJ : zJ 73 ad) (p1 : Int32) (p2 : Int32) (p3 : Int32) : zM l D (gT cy) 73 ad (gOK cy ad cnt B) yX7_reach vsX7_reach { frames := 5, cells := 0, slots := 0, locals := 120 } ([.ref (ad 0), .int p1, .int p2, .int p3] : List Value) (zQi D 73 ad (fun r ce => gOK cy ad cnt B ce ∧ (True))) := by
  refine z_of (cc := cX7_reach) (maxL := 5) (ret := (some .int)) (by decide) rfl (Nat.le_of_ble_eq_true rfl) ?_
  intro p e s m below meth c hx hb hr hts hown hlocks hml hK hN ce hOK hP
  have hown : s.vm.findClass RX7 = some m.cls := hown
  have hS : va_S (zA 73 ad) s.heap s.heap [] := va_S.rf
  have hO := hOK
  have inX7 : ∀ w ∈ u_ws RX7 TX7 6, w ∈ vsX7_reach := fun w h => List.mem_cons_of_mem _ (inlX7 w h)
  have fl12 := hts (.fieldLink RX7 12 "GroundKeeper" "ground" "LGroundKeeper$Ground;") (List.mem_cons_of_mem _ mw_188)
  have fl21 := hts (.fieldLink RX7 21 "GroundKeeper" "finder" "LGroundKeeper$Finder;") (List.mem_cons_of_mem _ mw_187)
  intro ls hl
  have hl : lv_has ls 5 [(0, .ref (ad 0)), (1, .int p1), (2, .int p2), (3, .int p3)] := hl
  refine lv_iload_n hx hb dX7_reach_0 rfl (lv_at hl 1 rfl) ?_
  refine lv_iload_n hx hb dX7_reach_1 rfl (lv_at hl 2 rfl) ?_
  refine lv_iload_n hx hb dX7_reach_2 rfl (lv_at hl 3 rfl) ?_
  refine z_ciP (z_rS (As := [.int p1, .int p2, .int p3]) (rest := []) ⟨hx, hb, hml, hown, hts⟩ (c_X7_isPlace l D (gT cy) 73 ad (fun c1 => c1 = ce) p1 p2 p3) (va_cwS 3 hts (g_S mw_0 mw_1 mw_2 mw_3) rfl rfl rfl (by decide +kernel) ⟨Nat.le_of_ble_eq_true rfl, Nat.le_of_ble_eq_true rfl⟩) hK hN rfl hP rfl hl.1 rfl (Nat.le_of_ble_eq_true rfl) dX7_reach_3 ⟨Nat.zero_le _, Nat.zero_le _⟩) hS (fun _ h => h) (fun v3 H locs h3 hP hS => ?_)
  refine z_if_ne (tgt := 12) hx hb dX7_reach_6 (by decide) (fun c6 => ?_) (fun c6 => ?_)
  · skip
    refine lv_iload_n hx hb dX7_reach_12 rfl (lv_at hl 1 rfl) ?_
    refine lv_iload_n hx hb dX7_reach_13 rfl (lv_at hl 2 rfl) ?_
    refine lv_iload_n hx hb dX7_reach_14 rfl (lv_at hl 3 rfl) ?_
    refine z_ciP (z_rS (As := [.int p1, .int p2, .int p3]) (rest := []) ⟨hx, hb, hml, hown, hts⟩ (c_X7_placeAt l D (gT cy) 73 ad (fun c1 => c1 = ce) p1 p2 p3) (va_cwS 3 hts (g_S mw_271 mw_18 mw_2 mw_29) rfl rfl rfl (by decide +kernel) ⟨Nat.le_of_ble_eq_true rfl, Nat.le_of_ble_eq_true rfl⟩) hK hN rfl hP rfl hl.1 rfl (Nat.le_of_ble_eq_true rfl) dX7_reach_15 ⟨Nat.zero_le _, Nat.zero_le _⟩) hS (fun _ h => h) (fun v15 H locs h15 hP hS => ?_)
    refine lv_istore (lv' := [(4, .int v15), (0, .ref (ad 0)), (1, .int p1), (2, .int p2), (3, .int p3)]) hx hb dX7_reach_18 hl (by decide) rfl (fun ls hl => ?_)
    refine lv_aload_n hx hb dX7_reach_20 rfl (lv_at hl 1 rfl) ?_
    obtain ⟨v21, v21a, e21, h21, h21a⟩ := gg_GK hO
    refine va_get (ci := 7) (C := RX7) (T := TX7) (N := 6) (v := .ref (ad 1)) hx hb hts inX7 hown hK hP 0 (zw_at (by decide) e21) rfl 0 (by decide) fl12 (fun _ h => h) rfl dX7_reach_21 ?_
    refine lv_iload hx hb dX7_reach_24 (lv_at hl 0 rfl) ?_
    obtain ⟨v26, e26, h26, h26a, h26b⟩ := gg_Gr hO
    refine z_ciP (z_rV (q0 := 1) (As := [.int v15]) (rest := []) ⟨hx, hb, hml, hown, hts⟩ (c_X3_isGround l D cy ad cnt B (fun c1 => c1 = ce) hJ v15) (cwV 1 hts (g_V mw_272 mw_120 mw_121 mw_84 mw_122) rfl rfl rfl (by decide +kernel) ⟨Nat.le_of_ble_eq_true rfl, Nat.le_of_ble_eq_true rfl⟩) hK hN ⟨hO, rfl⟩ hP (by decide) e26 rfl rfl hl.1 rfl (Nat.le_of_ble_eq_true rfl) dX7_reach_26 ⟨Nat.zero_le _, Nat.zero_le _⟩) hS (fun _ h => h.2) (fun v26a H locs h26c hP hS => ?_)
    refine z_if_ne (tgt := 35) hx hb dX7_reach_29 (by decide) (fun c29 => ?_) (fun c29 => ?_)
    · skip
      refine lv_aload_n hx hb dX7_reach_35 rfl (lv_at hl 1 rfl) ?_
      refine va_get (ci := 7) (C := RX7) (T := TX7) (N := 6) (v := .ref (ad 2)) hx hb hts inX7 hown hK hP 0 (zw_at (by decide) e21) rfl 1 (by decide) fl21 (fun _ h => h) rfl dX7_reach_36 ?_
      obtain ⟨v39, v39a, v39b, e39, h39, h39a, h39b, h39c, h39d, h39e⟩ := gg_Fi hO
      refine z_cv (z_rV (q0 := 2) (As := []) (rest := []) ⟨hx, hb, hml, hown, hts⟩ (c_X2_avoidNothing l D cy ad cnt B hJ) (cwV 0 hts (g_V mw_207 mw_208 mw_209 mw_146 mw_210) rfl rfl rfl (by decide +kernel) ⟨Nat.le_of_ble_eq_true rfl, Nat.le_of_ble_eq_true rfl⟩) hK hN hO hP (by decide) e39 rfl rfl hl.1 rfl (Nat.le_of_ble_eq_true rfl) dX7_reach_39 ⟨Nat.zero_le _, Nat.zero_le _⟩) hS (fun ce H locs h39f hP hS => ?_)
      obtain ⟨hO, h39g⟩ := h39f
      refine lv_aload_n hx hb dX7_reach_42 rfl (lv_at hl 1 rfl) ?_
      obtain ⟨v43, v43a, e43, h43, h43a⟩ := gg_GK hO
      refine va_get (ci := 7) (C := RX7) (T := TX7) (N := 6) (v := .ref (ad 2)) hx hb hts inX7 hown hK hP 0 (zw_at (by decide) e43) rfl 1 (by decide) fl21 (fun _ h => h) rfl dX7_reach_43 ?_
      refine lv_iload hx hb dX7_reach_46 (lv_at hl 0 rfl) ?_
      refine lv_iload hx hb dX7_reach_48 (lv_at hl 0 rfl) ?_
      refine z_ic hx hb dX7_reach_50 (by decide) (fun v50 h50 => ?_)
      obtain ⟨v51, v51a, v51b, e51, h51, h51a, h51b, h51c, h51d, h51e⟩ := gg_Fi hO
      refine z_cv (z_rV (q0 := 2) (As := [.int v15, .int v15, .int v50]) (rest := []) ⟨hx, hb, hml, hown, hts⟩ (c_X2_explore l D cy ad cnt B hJ v15 v15 v50 (by omega)) (cwV 3 hts (g_V mw_215 mw_216 mw_217 mw_146 mw_218) rfl rfl rfl (by decide +kernel) ⟨Nat.le_of_ble_eq_true rfl, Nat.le_of_ble_eq_true rfl⟩) hK hN hO hP (by decide) e51 rfl rfl hl.1 rfl (Nat.le_of_ble_eq_true rfl) dX7_reach_51 ⟨Nat.zero_le _, Nat.zero_le _⟩) hS (fun ce H locs h51f hP hS => ?_)
      obtain ⟨hO, h51g⟩ := h51f
      refine lv_aload_n hx hb dX7_reach_54 rfl (lv_at hl 1 rfl) ?_
      obtain ⟨v55, v55a, e55, h55, h55a⟩ := gg_GK hO
      refine va_get (ci := 7) (C := RX7) (T := TX7) (N := 6) (v := .ref (ad 2)) hx hb hts inX7 hown hK hP 0 (zw_at (by decide) e55) rfl 1 (by decide) fl21 (fun _ h => h) rfl dX7_reach_55 ?_
      obtain ⟨v58, v58a, v58b, e58, h58, h58a, h58b, h58c, h58d, h58e⟩ := gg_Fi hO
      refine z_ciP (z_rV (q0 := 2) (As := []) (rest := []) ⟨hx, hb, hml, hown, hts⟩ (c_X2_countRoomCorners l D cy ad cnt B (fun c1 => c1 = ce) hJ) (cwV 0 hts (g_V mw_304 mw_305 mw_306 mw_146 mw_307) rfl rfl rfl (by decide +kernel) ⟨Nat.le_of_ble_eq_true rfl, Nat.le_of_ble_eq_true rfl⟩) hK hN ⟨hO, rfl⟩ hP (by decide) e58 rfl rfl hl.1 rfl (Nat.le_of_ble_eq_true rfl) dX7_reach_58 ⟨Nat.zero_le _, Nat.zero_le _⟩) hS (fun _ h => h.2) (fun v58c H locs h58f hP hS => ?_)
      exact z_reti hx hb hr hlocks hP hS dX7_reach_61 ⟨hO, trivial⟩
    · skip
      refine z_bi hx hb dX7_reach_32 (by decide) (fun v32 h32 => ?_)
      exact z_reti hx hb hr hlocks hP hS dX7_reach_34 ⟨hO, trivial⟩
  · skip
    refine z_bi hx hb dX7_reach_9 (by decide) (fun v9 h9 => ?_)
    exact z_reti hx hb hr hlocks hP hS dX7_reach_11 ⟨hO, trivial⟩
set_option maxHeartbeats 8000000 in
set_option maxRecDepth 100000 in
theorem c_X7_way (l : Launch) (D : va_G) (cy : Nat → ClassId) (ad : Nat → Nat) (cnt : Nat → Nat) (B : Nat) (hJ : zJ 73 ad) (p1 : Int32) (p2 : Int32) (p3 : Int32) (p4 : Int32) (p5 : Int32) (p6 : Int32) : zM l D (gT cy) 73 ad (gOK cy ad cnt B) yX7_way vsX7_way { frames := 5, cells := 0, slots := 0, locals := 120 } ([.ref (ad 0), .int p1, .int p2, .int p3, .int p4, .int p5, .int p6] : List Value) (zQi D 73 ad (fun r ce => gOK cy ad cnt B ce ∧ (True))) := by
  refine z_of (cc := cX7_way) (maxL := 9) (ret := (some .int)) (by decide) rfl (Nat.le_of_ble_eq_true rfl) ?_
  intro p e s m below meth c hx hb hr hts hown hlocks hml hK hN ce hOK hP
  have hown : s.vm.findClass RX7 = some m.cls := hown
  have hS : va_S (zA 73 ad) s.heap s.heap [] := va_S.rf
  have hO := hOK
  have inX7 : ∀ w ∈ u_ws RX7 TX7 6, w ∈ vsX7_way := fun w h => List.mem_cons_of_mem _ (inlX7 w h)
  have fl12 := hts (.fieldLink RX7 12 "GroundKeeper" "ground" "LGroundKeeper$Ground;") (List.mem_cons_of_mem _ mw_188)
  have fl21 := hts (.fieldLink RX7 21 "GroundKeeper" "finder" "LGroundKeeper$Finder;") (List.mem_cons_of_mem _ mw_187)
  have fl28 := hts (.fieldLink RX7 28 "GroundKeeper" "latestWay" "LGroundKeeper$Row;") (List.mem_cons_of_mem _ mw_251)
  have J111 : ∀ (H : Heap) (locs : List Loc) (ce : Nat → va_E), va_P D vwCl (zw 73 ad ce) H → va_S (zA 73 ad) s.heap H locs → gOK cy ad cnt B ce → ∀ ls : Array Slot, lv_has ls 9 [(0, .ref (ad 0))] → W p l e { frames := 5, cells := 0, slots := 0, locals := 120 } s m ([.ref (ad 0), .int p1, .int p2, .int p3, .int p4, .int p5, .int p6] : List Value).toArray below meth c H locs 0 0 (MQ below (zQi D 73 ad (fun r ce => gOK cy ad cnt B ce ∧ (True))) ([.ref (ad 0), .int p1, .int p2, .int p3, .int p4, .int p5, .int p6] : List Value).toArray s 0 0 (zA 73 ad)) (F0 m 111 ls []) := by
    intro H locs ce hP hS hO ls hl
    refine lv_aload_n hx hb dX7_way_111 rfl (lv_at hl 0 rfl) ?_
    obtain ⟨v112, v112a, e112, h112, h112a⟩ := gg_GK hO
    refine va_get (ci := 7) (C := RX7) (T := TX7) (N := 6) (v := .ref (ad 2)) hx hb hts inX7 hown hK hP 0 (zw_at (by decide) e112) rfl 1 (by decide) fl21 (fun _ h => h) rfl dX7_way_112 ?_
    obtain ⟨v115, v115a, v115b, e115, h115, h115a, h115b, h115c, h115d, h115e⟩ := gg_Fi hO
    refine z_ciP (z_rV (q0 := 2) (As := []) (rest := []) ⟨hx, hb, hml, hown, hts⟩ (c_X2_foundLength l D cy ad cnt B (fun c1 => c1 = ce) hJ) (cwV 0 hts (g_V mw_219 mw_220 mw_221 mw_146 mw_222) rfl rfl rfl (by decide +kernel) ⟨Nat.le_of_ble_eq_true rfl, Nat.le_of_ble_eq_true rfl⟩) hK hN ⟨hO, rfl⟩ hP (by decide) e115 rfl rfl hl.1 rfl (Nat.le_of_ble_eq_true rfl) dX7_way_115 ⟨Nat.zero_le _, Nat.zero_le _⟩) hS (fun _ h => h.2) (fun v115c H locs h115f hP hS => ?_)
    exact z_reti hx hb hr hlocks hP hS dX7_way_118 ⟨hO, trivial⟩
  intro ls hl
  have hl : lv_has ls 9 [(0, .ref (ad 0)), (1, .int p1), (2, .int p2), (3, .int p3), (4, .int p4), (5, .int p5), (6, .int p6)] := hl
  refine lv_iload_n hx hb dX7_way_0 rfl (lv_at hl 1 rfl) ?_
  refine lv_iload_n hx hb dX7_way_1 rfl (lv_at hl 2 rfl) ?_
  refine lv_iload_n hx hb dX7_way_2 rfl (lv_at hl 3 rfl) ?_
  refine z_ciP (z_rS (As := [.int p1, .int p2, .int p3]) (rest := []) ⟨hx, hb, hml, hown, hts⟩ (c_X7_isPlace l D (gT cy) 73 ad (fun c1 => c1 = ce) p1 p2 p3) (va_cwS 3 hts (g_S mw_0 mw_1 mw_2 mw_3) rfl rfl rfl (by decide +kernel) ⟨Nat.le_of_ble_eq_true rfl, Nat.le_of_ble_eq_true rfl⟩) hK hN rfl hP rfl hl.1 rfl (Nat.le_of_ble_eq_true rfl) dX7_way_3 ⟨Nat.zero_le _, Nat.zero_le _⟩) hS (fun _ h => h) (fun v3 H locs h3 hP hS => ?_)
  refine z_if_eq (tgt := 21) hx hb dX7_way_6 (by decide) (fun c6 => ?_) (fun c6 => ?_)
  · skip
    refine z_bi hx hb dX7_way_21 (by decide) (fun v21 h21 => ?_)
    exact z_reti hx hb hr hlocks hP hS dX7_way_23 ⟨hO, trivial⟩
  · skip
    refine lv_iload hx hb dX7_way_9 (lv_at hl 4 rfl) ?_
    refine lv_iload hx hb dX7_way_11 (lv_at hl 5 rfl) ?_
    refine lv_iload hx hb dX7_way_13 (lv_at hl 6 rfl) ?_
    refine z_ciP (z_rS (As := [.int p4, .int p5, .int p6]) (rest := []) ⟨hx, hb, hml, hown, hts⟩ (c_X7_isPlace l D (gT cy) 73 ad (fun c1 => c1 = ce) p4 p5 p6) (va_cwS 3 hts (g_S mw_0 mw_1 mw_2 mw_3) rfl rfl rfl (by decide +kernel) ⟨Nat.le_of_ble_eq_true rfl, Nat.le_of_ble_eq_true rfl⟩) hK hN rfl hP rfl hl.1 rfl (Nat.le_of_ble_eq_true rfl) dX7_way_15 ⟨Nat.zero_le _, Nat.zero_le _⟩) hS (fun _ h => h) (fun v15 H locs h15 hP hS => ?_)
    refine z_if_ne (tgt := 24) hx hb dX7_way_18 (by decide) (fun c18 => ?_) (fun c18 => ?_)
    · skip
      refine lv_iload_n hx hb dX7_way_24 rfl (lv_at hl 1 rfl) ?_
      refine lv_iload_n hx hb dX7_way_25 rfl (lv_at hl 2 rfl) ?_
      refine lv_iload_n hx hb dX7_way_26 rfl (lv_at hl 3 rfl) ?_
      refine z_ciP (z_rS (As := [.int p1, .int p2, .int p3]) (rest := []) ⟨hx, hb, hml, hown, hts⟩ (c_X7_placeAt l D (gT cy) 73 ad (fun c1 => c1 = ce) p1 p2 p3) (va_cwS 3 hts (g_S mw_271 mw_18 mw_2 mw_29) rfl rfl rfl (by decide +kernel) ⟨Nat.le_of_ble_eq_true rfl, Nat.le_of_ble_eq_true rfl⟩) hK hN rfl hP rfl hl.1 rfl (Nat.le_of_ble_eq_true rfl) dX7_way_27 ⟨Nat.zero_le _, Nat.zero_le _⟩) hS (fun _ h => h) (fun v27 H locs h27 hP hS => ?_)
      refine lv_istore (lv' := [(7, .int v27), (0, .ref (ad 0)), (1, .int p1), (2, .int p2), (3, .int p3), (4, .int p4), (5, .int p5), (6, .int p6)]) hx hb dX7_way_30 hl (by decide) rfl (fun ls hl => ?_)
      refine lv_iload hx hb dX7_way_32 (lv_at hl 5 rfl) ?_
      refine lv_iload hx hb dX7_way_34 (lv_at hl 6 rfl) ?_
      refine lv_iload hx hb dX7_way_36 (lv_at hl 7 rfl) ?_
      refine z_ciP (z_rS (As := [.int p4, .int p5, .int p6]) (rest := []) ⟨hx, hb, hml, hown, hts⟩ (c_X7_placeAt l D (gT cy) 73 ad (fun c1 => c1 = ce) p4 p5 p6) (va_cwS 3 hts (g_S mw_271 mw_18 mw_2 mw_29) rfl rfl rfl (by decide +kernel) ⟨Nat.le_of_ble_eq_true rfl, Nat.le_of_ble_eq_true rfl⟩) hK hN rfl hP rfl hl.1 rfl (Nat.le_of_ble_eq_true rfl) dX7_way_38 ⟨Nat.zero_le _, Nat.zero_le _⟩) hS (fun _ h => h) (fun v38 H locs h38 hP hS => ?_)
      refine lv_istore (lv' := [(8, .int v38), (7, .int v27), (0, .ref (ad 0)), (1, .int p1), (2, .int p2), (3, .int p3), (4, .int p4), (5, .int p5), (6, .int p6)]) hx hb dX7_way_41 hl (by decide) rfl (fun ls hl => ?_)
      refine lv_aload_n hx hb dX7_way_43 rfl (lv_at hl 2 rfl) ?_
      obtain ⟨v44, v44a, e44, h44, h44a⟩ := gg_GK hO
      refine va_get (ci := 7) (C := RX7) (T := TX7) (N := 6) (v := .ref (ad 1)) hx hb hts inX7 hown hK hP 0 (zw_at (by decide) e44) rfl 0 (by decide) fl12 (fun _ h => h) rfl dX7_way_44 ?_
      refine lv_iload hx hb dX7_way_47 (lv_at hl 1 rfl) ?_
      obtain ⟨v49, e49, h49, h49a, h49b⟩ := gg_Gr hO
      refine z_ciP (z_rV (q0 := 1) (As := [.int v27]) (rest := []) ⟨hx, hb, hml, hown, hts⟩ (c_X3_isGround l D cy ad cnt B (fun c1 => c1 = ce) hJ v27) (cwV 1 hts (g_V mw_272 mw_120 mw_121 mw_84 mw_122) rfl rfl rfl (by decide +kernel) ⟨Nat.le_of_ble_eq_true rfl, Nat.le_of_ble_eq_true rfl⟩) hK hN ⟨hO, rfl⟩ hP (by decide) e49 rfl rfl hl.1 rfl (Nat.le_of_ble_eq_true rfl) dX7_way_49 ⟨Nat.zero_le _, Nat.zero_le _⟩) hS (fun _ h => h.2) (fun v49a H locs h49c hP hS => ?_)
      refine z_if_eq (tgt := 67) hx hb dX7_way_52 (by decide) (fun c52 => ?_) (fun c52 => ?_)
      · skip
        refine z_bi hx hb dX7_way_67 (by decide) (fun v67 h67 => ?_)
        exact z_reti hx hb hr hlocks hP hS dX7_way_69 ⟨hO, trivial⟩
      · skip
        refine lv_aload_n hx hb dX7_way_55 rfl (lv_at hl 2 rfl) ?_
        refine va_get (ci := 7) (C := RX7) (T := TX7) (N := 6) (v := .ref (ad 1)) hx hb hts inX7 hown hK hP 0 (zw_at (by decide) e44) rfl 0 (by decide) fl12 (fun _ h => h) rfl dX7_way_56 ?_
        refine lv_iload hx hb dX7_way_59 (lv_at hl 0 rfl) ?_
        refine z_ciP (z_rV (q0 := 1) (As := [.int v38]) (rest := []) ⟨hx, hb, hml, hown, hts⟩ (c_X3_isGround l D cy ad cnt B (fun c1 => c1 = ce) hJ v38) (cwV 1 hts (g_V mw_272 mw_120 mw_121 mw_84 mw_122) rfl rfl rfl (by decide +kernel) ⟨Nat.le_of_ble_eq_true rfl, Nat.le_of_ble_eq_true rfl⟩) hK hN ⟨hO, rfl⟩ hP (by decide) e49 rfl rfl hl.1 rfl (Nat.le_of_ble_eq_true rfl) dX7_way_61 ⟨Nat.zero_le _, Nat.zero_le _⟩) hS (fun _ h => h.2) (fun v61 H locs h61 hP hS => ?_)
        refine z_if_ne (tgt := 70) hx hb dX7_way_64 (by decide) (fun c64 => ?_) (fun c64 => ?_)
        · skip
          refine lv_aload_n hx hb dX7_way_70 rfl (lv_at hl 2 rfl) ?_
          refine va_get (ci := 7) (C := RX7) (T := TX7) (N := 6) (v := .ref (ad 2)) hx hb hts inX7 hown hK hP 0 (zw_at (by decide) e44) rfl 1 (by decide) fl21 (fun _ h => h) rfl dX7_way_71 ?_
          obtain ⟨v74, v74a, v74b, e74, h74, h74a, h74b, h74c, h74d, h74e⟩ := gg_Fi hO
          refine z_cv (z_rV (q0 := 2) (As := []) (rest := []) ⟨hx, hb, hml, hown, hts⟩ (c_X2_avoidNothing l D cy ad cnt B hJ) (cwV 0 hts (g_V mw_207 mw_208 mw_209 mw_146 mw_210) rfl rfl rfl (by decide +kernel) ⟨Nat.le_of_ble_eq_true rfl, Nat.le_of_ble_eq_true rfl⟩) hK hN hO hP (by decide) e74 rfl rfl hl.1 rfl (Nat.le_of_ble_eq_true rfl) dX7_way_74 ⟨Nat.zero_le _, Nat.zero_le _⟩) hS (fun ce H locs h74f hP hS => ?_)
          obtain ⟨hO, h74g⟩ := h74f
          refine lv_aload_n hx hb dX7_way_77 rfl (lv_at hl 2 rfl) ?_
          obtain ⟨v78, v78a, e78, h78, h78a⟩ := gg_GK hO
          refine va_get (ci := 7) (C := RX7) (T := TX7) (N := 6) (v := .ref (ad 2)) hx hb hts inX7 hown hK hP 0 (zw_at (by decide) e78) rfl 1 (by decide) fl21 (fun _ h => h) rfl dX7_way_78 ?_
          refine lv_iload hx hb dX7_way_81 (lv_at hl 1 rfl) ?_
          refine lv_iload hx hb dX7_way_83 (lv_at hl 0 rfl) ?_
          refine z_ic hx hb dX7_way_85 (by decide) (fun v85 h85 => ?_)
          obtain ⟨v86, v86a, v86b, e86, h86, h86a, h86b, h86c, h86d, h86e⟩ := gg_Fi hO
          refine z_cv (z_rV (q0 := 2) (As := [.int v27, .int v38, .int v85]) (rest := []) ⟨hx, hb, hml, hown, hts⟩ (c_X2_explore l D cy ad cnt B hJ v27 v38 v85 (by omega)) (cwV 3 hts (g_V mw_215 mw_216 mw_217 mw_146 mw_218) rfl rfl rfl (by decide +kernel) ⟨Nat.le_of_ble_eq_true rfl, Nat.le_of_ble_eq_true rfl⟩) hK hN hO hP (by decide) e86 rfl rfl hl.1 rfl (Nat.le_of_ble_eq_true rfl) dX7_way_86 ⟨Nat.zero_le _, Nat.zero_le _⟩) hS (fun ce H locs h86f hP hS => ?_)
          obtain ⟨hO, h86g⟩ := h86f
          refine lv_aload_n hx hb dX7_way_89 rfl (lv_at hl 2 rfl) ?_
          obtain ⟨v90, v90a, e90, h90, h90a⟩ := gg_GK hO
          refine va_get (ci := 7) (C := RX7) (T := TX7) (N := 6) (v := .ref (ad 2)) hx hb hts inX7 hown hK hP 0 (zw_at (by decide) e90) rfl 1 (by decide) fl21 (fun _ h => h) rfl dX7_way_90 ?_
          obtain ⟨v93, v93a, v93b, e93, h93, h93a, h93b, h93c, h93d, h93e⟩ := gg_Fi hO
          refine z_ciP (z_rV (q0 := 2) (As := []) (rest := []) ⟨hx, hb, hml, hown, hts⟩ (c_X2_foundLength l D cy ad cnt B (fun c1 => c1 = ce) hJ) (cwV 0 hts (g_V mw_219 mw_220 mw_221 mw_146 mw_222) rfl rfl rfl (by decide +kernel) ⟨Nat.le_of_ble_eq_true rfl, Nat.le_of_ble_eq_true rfl⟩) hK hN ⟨hO, rfl⟩ hP (by decide) e93 rfl rfl hl.1 rfl (Nat.le_of_ble_eq_true rfl) dX7_way_93 ⟨Nat.zero_le _, Nat.zero_le _⟩) hS (fun _ h => h.2) (fun v93c H locs h93f hP hS => ?_)
          refine z_ic hx hb dX7_way_96 (by decide) (fun v96 h96 => ?_)
          refine z_icmp_eq (tgt := 111) hx hb dX7_way_97 (by decide) (fun c97 => ?_) (fun c97 => ?_)
          · skip
            exact J111 _ _ _ hP hS hO _ (lv_sub hl [2] rfl)
          · skip
            refine lv_aload_n hx hb dX7_way_100 rfl (lv_at hl 2 rfl) ?_
            refine va_get (ci := 7) (C := RX7) (T := TX7) (N := 6) (v := .ref (ad 2)) hx hb hts inX7 hown hK hP 0 (zw_at (by decide) e90) rfl 1 (by decide) fl21 (fun _ h => h) rfl dX7_way_101 ?_
            refine lv_aload_n hx hb dX7_way_104 rfl (lv_at hl 2 rfl) ?_
            refine va_get (ci := 7) (C := RX7) (T := TX7) (N := 6) (v := .ref (ad (59 + 6))) hx hb hts inX7 hown hK hP 0 (zw_at (by decide) e90) rfl 2 (by decide) fl28 (fun _ h => h) rfl dX7_way_105 ?_
            refine z_cv (z_rV (q0 := 2) (As := [.ref (ad (59 + 6))]) (rest := []) ⟨hx, hb, hml, hown, hts⟩ (c_X2_writeWay l D cy ad cnt B hJ 6 (by omega)) (cwV 1 hts (g_V mw_223 mw_224 mw_225 mw_146 mw_226) rfl rfl rfl (by decide +kernel) ⟨Nat.le_of_ble_eq_true rfl, Nat.le_of_ble_eq_true rfl⟩) hK hN hO hP (by decide) e93 rfl rfl hl.1 rfl (Nat.le_of_ble_eq_true rfl) dX7_way_108 ⟨Nat.zero_le _, Nat.zero_le _⟩) hS (fun ce H locs h108 hP hS => ?_)
            obtain ⟨hO, h108a⟩ := h108
            exact J111 _ _ _ hP hS hO _ (lv_sub hl [2] rfl)
        · skip
          refine z_bi hx hb dX7_way_67 (by decide) (fun v67 h67 => ?_)
          exact z_reti hx hb hr hlocks hP hS dX7_way_69 ⟨hO, trivial⟩
    · skip
      refine z_bi hx hb dX7_way_21 (by decide) (fun v21 h21 => ?_)
      exact z_reti hx hb hr hlocks hP hS dX7_way_23 ⟨hO, trivial⟩
set_option maxHeartbeats 8000000 in
set_option maxRecDepth 100000 in
theorem c_X7_go (l : Launch) (D : va_G) (cy : Nat → ClassId) (ad : Nat → Nat) (cnt : Nat → Nat) (B : Nat) (hJ : zJ 73 ad) (hB : 1 ≤ B) (p1 : Int32) (p2 : Int32) (p3 : Int32) (p4 : Int32) : zM l D (gT cy) 73 ad (gOK cy ad cnt B) yX7_go vsX7_go { frames := 5, cells := 0, slots := 0, locals := 120 } ([.ref (ad 0), .int p1, .int p2, .int p3, .int p4] : List Value) (zQi D 73 ad (fun r ce => gOK cy ad cnt B ce ∧ (True))) := by
  refine z_of (cc := cX7_go) (maxL := 7) (ret := (some .int)) (by decide) rfl (Nat.le_of_ble_eq_true rfl) ?_
  intro p e s m below meth c hx hb hr hts hown hlocks hml hK hN ce hOK hP
  have hown : s.vm.findClass RX7 = some m.cls := hown
  have hS : va_S (zA 73 ad) s.heap s.heap [] := va_S.rf
  have hO := hOK
  have inX6 : ∀ w ∈ u_ws RX6 TX6 8, w ∈ vsX7_go := fun w h => List.mem_cons_of_mem _ (inlX6 w h)
  have inX7 : ∀ w ∈ u_ws RX7 TX7 6, w ∈ vsX7_go := fun w h => List.mem_cons_of_mem _ (inlX7 w h)
  have fl12 := hts (.fieldLink RX7 12 "GroundKeeper" "ground" "LGroundKeeper$Ground;") (List.mem_cons_of_mem _ mw_188)
  have fl21 := hts (.fieldLink RX7 21 "GroundKeeper" "finder" "LGroundKeeper$Finder;") (List.mem_cons_of_mem _ mw_187)
  have fl34 := hts (.fieldLink RX7 34 "GroundKeeper" "walkers" "[LGroundKeeper$Walker;") (List.mem_cons_of_mem _ mw_184)
  have fl53 := hts (.fieldLink RX7 53 "GroundKeeper" "walkerSize" "I") (List.mem_cons_of_mem _ mw_185)
  have fl57 := hts (.fieldLink RX7 57 "GroundKeeper$Walker" "place" "I") (List.mem_cons_of_mem _ mw_186)
  have fl156 := hts (.fieldLink RX7 156 "GroundKeeper$Walker" "stuck" "Z") (List.mem_cons_of_mem _ mw_189)
  have fl162 := hts (.fieldLink RX7 162 "GroundKeeper$Walker" "row" "LGroundKeeper$Row;") (List.mem_cons_of_mem _ mw_190)
  intro ls hl
  have hl : lv_has ls 7 [(0, .ref (ad 0)), (1, .int p1), (2, .int p2), (3, .int p3), (4, .int p4)] := hl
  refine lv_iload_n hx hb dX7_go_0 rfl (lv_at hl 1 rfl) ?_
  refine z_if_lt (tgt := 22) hx hb dX7_go_1 (by decide) (fun c1 => ?_) (fun c1 => ?_)
  · skip
    refine z_bi hx hb dX7_go_22 (by decide) (fun v22 h22 => ?_)
    exact z_reti hx hb hr hlocks hP hS dX7_go_24 ⟨hO, trivial⟩
  · skip
    refine lv_iload_n hx hb dX7_go_4 rfl (lv_at hl 1 rfl) ?_
    refine lv_aload_n hx hb dX7_go_5 rfl (lv_at hl 0 rfl) ?_
    obtain ⟨v6, v6a, e6, h6, h6a⟩ := gg_GK hO
    refine va_get (ci := 7) (C := RX7) (T := TX7) (N := 6) (v := .int v6) hx hb hts inX7 hown hK hP 0 (zw_at (by decide) e6) rfl 4 (by decide) fl53 (fun _ h => h) rfl dX7_go_6 ?_
    refine z_icmp_ge (tgt := 22) hx hb dX7_go_9 (by decide) (fun c9 => ?_) (fun c9 => ?_)
    · skip
      refine z_bi hx hb dX7_go_22 (by decide) (fun v22 h22 => ?_)
      exact z_reti hx hb hr hlocks hP hS dX7_go_24 ⟨hO, trivial⟩
    · skip
      refine lv_iload_n hx hb dX7_go_12 rfl (lv_at hl 2 rfl) ?_
      refine lv_iload_n hx hb dX7_go_13 rfl (lv_at hl 3 rfl) ?_
      refine lv_iload hx hb dX7_go_14 (lv_at hl 4 rfl) ?_
      refine z_ciP (z_rS (As := [.int p2, .int p3, .int p4]) (rest := []) ⟨hx, hb, hml, hown, hts⟩ (c_X7_isPlace l D (gT cy) 73 ad (fun c1 => c1 = ce) p2 p3 p4) (va_cwS 3 hts (g_S mw_0 mw_1 mw_2 mw_3) rfl rfl rfl (by decide +kernel) ⟨Nat.le_of_ble_eq_true rfl, Nat.le_of_ble_eq_true rfl⟩) hK hN rfl hP rfl hl.1 rfl (Nat.le_of_ble_eq_true rfl) dX7_go_16 ⟨Nat.zero_le _, Nat.zero_le _⟩) hS (fun _ h => h) (fun v16 H locs h16 hP hS => ?_)
      refine z_if_ne (tgt := 25) hx hb dX7_go_19 (by decide) (fun c19 => ?_) (fun c19 => ?_)
      · skip
        refine lv_iload_n hx hb dX7_go_25 rfl (lv_at hl 2 rfl) ?_
        refine lv_iload_n hx hb dX7_go_26 rfl (lv_at hl 3 rfl) ?_
        refine lv_iload hx hb dX7_go_27 (lv_at hl 4 rfl) ?_
        refine z_ciP (z_rS (As := [.int p2, .int p3, .int p4]) (rest := []) ⟨hx, hb, hml, hown, hts⟩ (c_X7_placeAt l D (gT cy) 73 ad (fun c1 => c1 = ce) p2 p3 p4) (va_cwS 3 hts (g_S mw_271 mw_18 mw_2 mw_29) rfl rfl rfl (by decide +kernel) ⟨Nat.le_of_ble_eq_true rfl, Nat.le_of_ble_eq_true rfl⟩) hK hN rfl hP rfl hl.1 rfl (Nat.le_of_ble_eq_true rfl) dX7_go_29 ⟨Nat.zero_le _, Nat.zero_le _⟩) hS (fun _ h => h) (fun v29 H locs h29 hP hS => ?_)
        refine lv_istore (lv' := [(5, .int v29), (0, .ref (ad 0)), (1, .int p1), (2, .int p2), (3, .int p3), (4, .int p4)]) hx hb dX7_go_32 hl (by decide) rfl (fun ls hl => ?_)
        refine lv_aload_n hx hb dX7_go_34 rfl (lv_at hl 1 rfl) ?_
        refine va_get (ci := 7) (C := RX7) (T := TX7) (N := 6) (v := .ref (ad 1)) hx hb hts inX7 hown hK hP 0 (zw_at (by decide) e6) rfl 0 (by decide) fl12 (fun _ h => h) rfl dX7_go_35 ?_
        refine lv_iload hx hb dX7_go_38 (lv_at hl 0 rfl) ?_
        obtain ⟨v40, e40, h40, h40a, h40b⟩ := gg_Gr hO
        refine z_ciP (z_rV (q0 := 1) (As := [.int v29]) (rest := []) ⟨hx, hb, hml, hown, hts⟩ (c_X3_isGround l D cy ad cnt B (fun c1 => c1 = ce) hJ v29) (cwV 1 hts (g_V mw_272 mw_120 mw_121 mw_84 mw_122) rfl rfl rfl (by decide +kernel) ⟨Nat.le_of_ble_eq_true rfl, Nat.le_of_ble_eq_true rfl⟩) hK hN ⟨hO, rfl⟩ hP (by decide) e40 rfl rfl hl.1 rfl (Nat.le_of_ble_eq_true rfl) dX7_go_40 ⟨Nat.zero_le _, Nat.zero_le _⟩) hS (fun _ h => h.2) (fun v40a H locs h40c hP hS => ?_)
        refine z_if_ne (tgt := 49) hx hb dX7_go_43 (by decide) (fun c43 => ?_) (fun c43 => ?_)
        · skip
          refine lv_aload_n hx hb dX7_go_49 rfl (lv_at hl 1 rfl) ?_
          refine va_get (ci := 7) (C := RX7) (T := TX7) (N := 6) (v := .ref (ad 52)) hx hb hts inX7 hown hK hP 0 (zw_at (by decide) e6) rfl 3 (by decide) fl34 (fun _ h => h) rfl dX7_go_50 ?_
          refine lv_iload_n hx hb dX7_go_53 rfl (lv_at hl 2 rfl) ?_
          obtain ⟨f54, e54, h54⟩ := gg_Wa hO
          refine z_ald (g := fun j0 => 53 + j0) hx hb hK hP (q0 := 52) 3 (by decide) e54 rfl (by omega) h54 dX7_go_54 (fun j54 h54a => ?_)
          refine lv_astore (lv' := [(6, .ref (ad (53 + j54))), (5, .int v29), (0, .ref (ad 0)), (1, .int p1), (2, .int p2), (3, .int p3), (4, .int p4)]) hx hb dX7_go_55 hl (by decide) rfl (fun ls hl => ?_)
          refine lv_aload hx hb dX7_go_57 (lv_at hl 0 rfl) ?_
          refine z_ic hx hb dX7_go_59 (by decide) (fun v59 h59 => ?_)
          obtain ⟨v60, v60a, v60b, v60c, v60d, v60e, v60f, e60, h60, h60a, h60b⟩ := gg_Wk hO (j := j54) (by omega)
          refine z_put (q0 := (53 + j54)) (ci := 6) (C := RX6) (T := TX6) (N := 8) hx hb hts inX6 tyX6 tyX6_ok nmX6 hown hK hJ hP hS (by omega) e60 rfl 4 (by decide) fl156 (fun _ h => h) rfl (ty := .boolean) (by decide +kernel) (z_nb (by omega)) (z_fb (by omega)) (Nat.le_of_ble_eq_true rfl) (fs1 := [.ref (ad (59 + j54)), .int v60, .int v60a, .int v60b, .int v59, .int v60d, .int v60e, .int v60f]) rfl dX7_go_60 (fun ce H locs e60a h60c hP hS => ?_)
          have hO := z_up (OKK := gK cy ad cnt B) (53 + j54) hO h60c (by rw [e60a]; exact gE_Wk (by omega) |>.mpr ⟨v60, v60a, v60b, v59, v60d, v60e, v60f, rfl, h60, h60a, h60b⟩)
          have e60b := (h60c 0 (by omega)).trans e6
          have e60c := (h60c 1 (by omega)).trans e40
          have e60d := (h60c 52 (by omega)).trans e54
          refine lv_aload_n hx hb dX7_go_63 rfl (lv_at hl 2 rfl) ?_
          refine va_get (ci := 7) (C := RX7) (T := TX7) (N := 6) (v := .ref (ad 2)) hx hb hts inX7 hown hK hP 0 (zw_at (by decide) e60b) rfl 1 (by decide) fl21 (fun _ h => h) rfl dX7_go_64 ?_
          obtain ⟨v67, v67a, v67b, e67, h67, h67a, h67b, h67c, h67d, h67e⟩ := gg_Fi hO
          refine z_cv (z_rV (q0 := 2) (As := []) (rest := []) ⟨hx, hb, hml, hown, hts⟩ (c_X2_avoidNothing l D cy ad cnt B hJ) (cwV 0 hts (g_V mw_207 mw_208 mw_209 mw_146 mw_210) rfl rfl rfl (by decide +kernel) ⟨Nat.le_of_ble_eq_true rfl, Nat.le_of_ble_eq_true rfl⟩) hK hN hO hP (by decide) e67 rfl rfl hl.1 rfl (Nat.le_of_ble_eq_true rfl) dX7_go_67 ⟨Nat.zero_le _, Nat.zero_le _⟩) hS (fun ce H locs h67f hP hS => ?_)
          obtain ⟨hO, h67g⟩ := h67f
          refine lv_aload_n hx hb dX7_go_70 rfl (lv_at hl 2 rfl) ?_
          obtain ⟨v71, v71a, e71, h71, h71a⟩ := gg_GK hO
          refine va_get (ci := 7) (C := RX7) (T := TX7) (N := 6) (v := .ref (ad 2)) hx hb hts inX7 hown hK hP 0 (zw_at (by decide) e71) rfl 1 (by decide) fl21 (fun _ h => h) rfl dX7_go_71 ?_
          refine lv_aload hx hb dX7_go_74 (lv_at hl 0 rfl) ?_
          obtain ⟨v76, v76a, v76b, v76c, v76d, v76e, v76f, e76, h76, h76a, h76b⟩ := gg_Wk hO (j := j54) (by omega)
          refine va_get (ci := 6) (C := RX6) (T := TX6) (N := 8) (v := .int v76a) hx hb hts inX6 hown hK hP (53 + j54) (zw_at (by omega) e76) rfl 2 (by decide) fl57 (fun _ h => h) rfl dX7_go_76 ?_
          refine lv_iload hx hb dX7_go_79 (lv_at hl 1 rfl) ?_
          refine z_ic hx hb dX7_go_81 (by decide) (fun v81 h81 => ?_)
          obtain ⟨v82, v82a, v82b, e82, h82, h82a, h82b, h82c, h82d, h82e⟩ := gg_Fi hO
          refine z_cv (z_rV (q0 := 2) (As := [.int v76a, .int v29, .int v81]) (rest := []) ⟨hx, hb, hml, hown, hts⟩ (c_X2_explore l D cy ad cnt B hJ v76a v29 v81 (by omega)) (cwV 3 hts (g_V mw_215 mw_216 mw_217 mw_146 mw_218) rfl rfl rfl (by decide +kernel) ⟨Nat.le_of_ble_eq_true rfl, Nat.le_of_ble_eq_true rfl⟩) hK hN hO hP (by decide) e82 rfl rfl hl.1 rfl (Nat.le_of_ble_eq_true rfl) dX7_go_82 ⟨Nat.zero_le _, Nat.zero_le _⟩) hS (fun ce H locs h82f hP hS => ?_)
          obtain ⟨hO, h82g⟩ := h82f
          refine lv_aload_n hx hb dX7_go_85 rfl (lv_at hl 2 rfl) ?_
          obtain ⟨v86, v86a, e86, h86, h86a⟩ := gg_GK hO
          refine va_get (ci := 7) (C := RX7) (T := TX7) (N := 6) (v := .ref (ad 2)) hx hb hts inX7 hown hK hP 0 (zw_at (by decide) e86) rfl 1 (by decide) fl21 (fun _ h => h) rfl dX7_go_86 ?_
          obtain ⟨v89, v89a, v89b, e89, h89, h89a, h89b, h89c, h89d, h89e⟩ := gg_Fi hO
          refine z_ciP (z_rV (q0 := 2) (As := []) (rest := []) ⟨hx, hb, hml, hown, hts⟩ (c_X2_foundLength l D cy ad cnt B (fun c1 => c1 = ce) hJ) (cwV 0 hts (g_V mw_219 mw_220 mw_221 mw_146 mw_222) rfl rfl rfl (by decide +kernel) ⟨Nat.le_of_ble_eq_true rfl, Nat.le_of_ble_eq_true rfl⟩) hK hN ⟨hO, rfl⟩ hP (by decide) e89 rfl rfl hl.1 rfl (Nat.le_of_ble_eq_true rfl) dX7_go_89 ⟨Nat.zero_le _, Nat.zero_le _⟩) hS (fun _ h => h.2) (fun v89c H locs h89f hP hS => ?_)
          refine z_ic hx hb dX7_go_92 (by decide) (fun v92 h92 => ?_)
          refine z_icmp_ne (tgt := 103) hx hb dX7_go_93 (by decide) (fun c93 => ?_) (fun c93 => ?_)
          · skip
            refine lv_aload_n hx hb dX7_go_103 rfl (lv_at hl 2 rfl) ?_
            refine va_get (ci := 7) (C := RX7) (T := TX7) (N := 6) (v := .ref (ad 2)) hx hb hts inX7 hown hK hP 0 (zw_at (by decide) e86) rfl 1 (by decide) fl21 (fun _ h => h) rfl dX7_go_104 ?_
            refine lv_aload hx hb dX7_go_107 (lv_at hl 0 rfl) ?_
            obtain ⟨v109, v109a, v109b, v109c, v109d, v109e, v109f, e109, h109, h109a, h109b⟩ := gg_Wk hO (j := j54) (by omega)
            refine va_get (ci := 6) (C := RX6) (T := TX6) (N := 8) (v := .ref (ad (59 + j54))) hx hb hts inX6 hown hK hP (53 + j54) (zw_at (by omega) e109) rfl 0 (by decide) fl162 (fun _ h => h) rfl dX7_go_109 ?_
            refine z_cv (z_rV (q0 := 2) (As := [.ref (ad (59 + j54))]) (rest := []) ⟨hx, hb, hml, hown, hts⟩ (c_X2_writeWay l D cy ad cnt B hJ j54 (by omega)) (cwV 1 hts (g_V mw_223 mw_224 mw_225 mw_146 mw_226) rfl rfl rfl (by decide +kernel) ⟨Nat.le_of_ble_eq_true rfl, Nat.le_of_ble_eq_true rfl⟩) hK hN hO hP (by decide) e89 rfl rfl hl.1 rfl (Nat.le_of_ble_eq_true rfl) dX7_go_112 ⟨Nat.zero_le _, Nat.zero_le _⟩) hS (fun ce H locs h112 hP hS => ?_)
            obtain ⟨hO, h112a⟩ := h112
            refine lv_aload hx hb dX7_go_115 (lv_at hl 0 rfl) ?_
            obtain ⟨v117, v117a, v117b, v117c, v117d, v117e, v117f, e117, h117, h117a, h117b⟩ := gg_Wk hO (j := j54) (by omega)
            refine z_cv (z_rV (q0 := (53 + j54)) (As := []) (rest := []) ⟨hx, hb, hml, hown, hts⟩ (c_X6_beginRow l D cy ad cnt B hJ (by omega) j54 (by omega)) (cwV 0 hts (g_V mw_227 mw_228 mw_229 mw_196 mw_230) rfl rfl rfl (by decide +kernel) ⟨Nat.le_of_ble_eq_true rfl, Nat.le_of_ble_eq_true rfl⟩) hK hN hO hP (by omega) e117 rfl rfl hl.1 rfl (Nat.le_of_ble_eq_true rfl) dX7_go_117 ⟨Nat.zero_le _, Nat.zero_le _⟩) hS (fun ce H locs h117c hP hS => ?_)
            obtain ⟨hO, h117d⟩ := h117c
            refine lv_aload hx hb dX7_go_120 (lv_at hl 0 rfl) ?_
            obtain ⟨v122, v122a, v122b, v122c, v122d, v122e, v122f, e122, h122, h122a, h122b⟩ := gg_Wk hO (j := j54) (by omega)
            refine z_ciP (z_rV (q0 := (53 + j54)) (As := []) (rest := []) ⟨hx, hb, hml, hown, hts⟩ (c_X6_ahead l D cy ad cnt B (fun c1 => c1 = ce) hJ j54 (by omega)) (cwV 0 hts (g_V mw_235 mw_236 mw_237 mw_196 mw_238) rfl rfl rfl (by decide +kernel) ⟨Nat.le_of_ble_eq_true rfl, Nat.le_of_ble_eq_true rfl⟩) hK hN ⟨hO, rfl⟩ hP (by omega) e122 rfl rfl hl.1 rfl (Nat.le_of_ble_eq_true rfl) dX7_go_122 ⟨Nat.zero_le _, Nat.zero_le _⟩) hS (fun _ h => h.2) (fun v122g H locs h122c hP hS => ?_)
            exact z_reti hx hb hr hlocks hP hS dX7_go_125 ⟨hO, trivial⟩
          · skip
            refine lv_aload hx hb dX7_go_96 (lv_at hl 0 rfl) ?_
            obtain ⟨v98, v98a, v98b, v98c, v98d, v98e, v98f, e98, h98, h98a, h98b⟩ := gg_Wk hO (j := j54) (by omega)
            refine z_cv (z_rV (q0 := (53 + j54)) (As := []) (rest := []) ⟨hx, hb, hml, hown, hts⟩ (c_X6_dropRow l D cy ad cnt B hJ j54 (by omega)) (cwV 0 hts (g_V mw_231 mw_232 mw_233 mw_196 mw_234) rfl rfl rfl (by decide +kernel) ⟨Nat.le_of_ble_eq_true rfl, Nat.le_of_ble_eq_true rfl⟩) hK hN hO hP (by omega) e98 rfl rfl hl.1 rfl (Nat.le_of_ble_eq_true rfl) dX7_go_98 ⟨Nat.zero_le _, Nat.zero_le _⟩) hS (fun ce H locs h98c hP hS => ?_)
            obtain ⟨hO, h98d⟩ := h98c
            refine z_ic hx hb dX7_go_101 (by decide) (fun v101 h101 => ?_)
            exact z_reti hx hb hr hlocks hP hS dX7_go_102 ⟨hO, trivial⟩
        · skip
          refine z_bi hx hb dX7_go_46 (by decide) (fun v46 h46 => ?_)
          exact z_reti hx hb hr hlocks hP hS dX7_go_48 ⟨hO, trivial⟩
      · skip
        refine z_bi hx hb dX7_go_22 (by decide) (fun v22 h22 => ?_)
        exact z_reti hx hb hr hlocks hP hS dX7_go_24 ⟨hO, trivial⟩
set_option maxHeartbeats 8000000 in
set_option maxRecDepth 100000 in
theorem c_X7_room (l : Launch) (D : va_G) (cy : Nat → ClassId) (ad : Nat → Nat) (cnt : Nat → Nat) (B : Nat) (hJ : zJ 73 ad) (p1 : Int32) (p2 : Int32) (p3 : Int32) (p4 : Int32) (p5 : Int32) : zM l D (gT cy) 73 ad (gOK cy ad cnt B) yX7_room vsX7_room { frames := 3, cells := 0, slots := 0, locals := 72 } ([.ref (ad 0), .int p1, .int p2, .int p3, .int p4, .int p5] : List Value) (zQi D 73 ad (fun r ce => topP cy ad cnt B (0 ≤ p1.toInt ∧ p1.toInt ≤ 2 ∧ 0 ≤ p2.toInt ∧ p2.toInt ≤ 100 ∧ 0 ≤ p3.toInt ∧ p3.toInt ≤ 100 ∧ 0 ≤ p1.toInt ∧ p1.toInt ≤ 2 ∧ 0 ≤ p4.toInt ∧ p4.toInt ≤ 100 ∧ 0 ≤ p5.toInt ∧ p5.toInt ≤ 100 ∧ p2.toInt < p4.toInt ∧ p3.toInt < p5.toInt) 4 12 r ce)) := by
  refine z_of (cc := cX7_room) (maxL := 6) (ret := (some .int)) (by decide) rfl (Nat.le_of_ble_eq_true rfl) ?_
  intro p e s m below meth c hx hb hr hts hown hlocks hml hK hN ce hOK hP
  have hown : s.vm.findClass RX7 = some m.cls := hown
  have hS : va_S (zA 73 ad) s.heap s.heap [] := va_S.rf
  have hO := hOK
  have inX3 : ∀ w ∈ u_ws RX3 TX3 9, w ∈ vsX7_room := fun w h => List.mem_cons_of_mem _ (inlX3 w h)
  have inX7 : ∀ w ∈ u_ws RX7 TX7 6, w ∈ vsX7_room := fun w h => List.mem_cons_of_mem _ (inlX7 w h)
  have fl12 := hts (.fieldLink RX7 12 "GroundKeeper" "ground" "LGroundKeeper$Ground;") (List.mem_cons_of_mem _ mw_188)
  have fl43 := hts (.fieldLink RX7 43 "GroundKeeper$Ground" "rooms" "LGroundKeeper$Areas;") (List.mem_cons_of_mem _ mw_256)
  intro ls hl
  have hl : lv_has ls 6 [(0, .ref (ad 0)), (1, .int p1), (2, .int p2), (3, .int p3), (4, .int p4), (5, .int p5)] := hl
  refine lv_iload_n hx hb dX7_room_0 rfl (lv_at hl 1 rfl) ?_
  refine lv_iload_n hx hb dX7_room_1 rfl (lv_at hl 2 rfl) ?_
  refine lv_iload_n hx hb dX7_room_2 rfl (lv_at hl 3 rfl) ?_
  refine lv_iload hx hb dX7_room_3 (lv_at hl 4 rfl) ?_
  refine lv_iload hx hb dX7_room_5 (lv_at hl 5 rfl) ?_
  refine z_ciP (z_rS (As := [.int p1, .int p2, .int p3, .int p4, .int p5]) (rest := []) ⟨hx, hb, hml, hown, hts⟩ (c_X7_isRectangle l D (gT cy) 73 ad (fun c1 => c1 = ce) p1 p2 p3 p4 p5) (va_cwS 5 hts (g_S mw_293 mw_294 mw_2 mw_295) rfl rfl rfl (by decide +kernel) ⟨Nat.le_of_ble_eq_true rfl, Nat.le_of_ble_eq_true rfl⟩) hK hN rfl hP rfl hl.1 rfl (Nat.le_of_ble_eq_true rfl) dX7_room_7 ⟨Nat.zero_le _, Nat.zero_le _⟩) hS (fun _ h => h) (fun v7 H locs h7 hP hS => ?_)
  refine z_if_ne (tgt := 16) hx hb dX7_room_10 (by decide) (fun c10 => ?_) (fun c10 => ?_)
  · skip
    refine lv_aload_n hx hb dX7_room_16 rfl (lv_at hl 0 rfl) ?_
    obtain ⟨v17, v17a, e17, h17, h17a⟩ := gg_GK hO
    refine va_get (ci := 7) (C := RX7) (T := TX7) (N := 6) (v := .ref (ad 1)) hx hb hts inX7 hown hK hP 0 (zw_at (by decide) e17) rfl 0 (by decide) fl12 (fun _ h => h) rfl dX7_room_17 ?_
    obtain ⟨v20, e20, h20, h20a, h20b⟩ := gg_Gr hO
    refine va_get (ci := 3) (C := RX3) (T := TX3) (N := 9) (v := .ref (ad 4)) hx hb hts inX3 hown hK hP 1 (zw_at (by decide) e20) rfl 0 (by decide) fl43 (fun _ h => h) rfl dX7_room_20 ?_
    refine lv_iload_n hx hb dX7_room_23 rfl (lv_at hl 1 rfl) ?_
    refine lv_iload_n hx hb dX7_room_24 rfl (lv_at hl 2 rfl) ?_
    refine lv_iload_n hx hb dX7_room_25 rfl (lv_at hl 3 rfl) ?_
    refine lv_iload hx hb dX7_room_26 (lv_at hl 4 rfl) ?_
    refine lv_iload hx hb dX7_room_28 (lv_at hl 5 rfl) ?_
    refine z_ic hx hb dX7_room_30 (by decide) (fun v30 h30 => ?_)
    obtain ⟨v31, e31, h31, h31a, h31b⟩ := gg_Ro hO
    refine z_ci (z_rV (q0 := 4) (As := [.int p1, .int p2, .int p3, .int p4, .int p5, .int v30]) (rest := []) ⟨hx, hb, hml, hown, hts⟩ (c_X1_add_Ro l D cy ad cnt B hJ p1 p2 p3 p4 p5 v30 (by omega)) (cwV 6 hts (g_V mw_308 mw_309 mw_310 mw_279 mw_311) rfl rfl rfl (by decide +kernel) ⟨Nat.le_of_ble_eq_true rfl, Nat.le_of_ble_eq_true rfl⟩) hK hN hO hP (by decide) e31 rfl rfl hl.1 rfl (Nat.le_of_ble_eq_true rfl) dX7_room_31 ⟨Nat.zero_le _, Nat.zero_le _⟩) hS (fun v31a ce H locs h31c hP hS => ?_)
    have hadd := h31c
    exact z_reti hx hb hr hlocks hP hS dX7_room_34 ⟨fun h => by exfalso; omega, fun _ => hadd⟩
  · skip
    refine z_bi hx hb dX7_room_13 (by decide) (fun v13 h13 => ?_)
    exact z_reti hx hb hr hlocks hP hS dX7_room_15 ⟨fun _ => ⟨by omega, hO⟩, fun h => by exfalso; omega⟩
set_option maxHeartbeats 8000000 in
set_option maxRecDepth 100000 in
theorem c_X7_door (l : Launch) (D : va_G) (cy : Nat → ClassId) (ad : Nat → Nat) (cnt : Nat → Nat) (B : Nat) (hJ : zJ 73 ad) (p1 : Int32) (p2 : Int32) (p3 : Int32) (p4 : Int32) (p5 : Int32) : zM l D (gT cy) 73 ad (gOK cy ad cnt B) yX7_door vsX7_door { frames := 3, cells := 0, slots := 0, locals := 72 } ([.ref (ad 0), .int p1, .int p2, .int p3, .int p4, .int p5] : List Value) (zQi D 73 ad (fun r ce => topP cy ad cnt B (0 ≤ p1.toInt ∧ p1.toInt ≤ 2 ∧ 0 ≤ p2.toInt ∧ p2.toInt ≤ 100 ∧ 0 ≤ p3.toInt ∧ p3.toInt ≤ 100 ∧ 0 ≤ p1.toInt ∧ p1.toInt ≤ 2 ∧ 0 ≤ p4.toInt ∧ p4.toInt ≤ 100 ∧ 0 ≤ p5.toInt ∧ p5.toInt ≤ 100 ∧ ((p2.toInt = p4.toInt ∧ ¬ p3.toInt = p5.toInt) ∨ (¬ p2.toInt = p4.toInt ∧ p3.toInt = p5.toInt))) 6 6 r ce)) := by
  refine z_of (cc := cX7_door) (maxL := 6) (ret := (some .int)) (by decide) rfl (Nat.le_of_ble_eq_true rfl) ?_
  intro p e s m below meth c hx hb hr hts hown hlocks hml hK hN ce hOK hP
  have hown : s.vm.findClass RX7 = some m.cls := hown
  have hS : va_S (zA 73 ad) s.heap s.heap [] := va_S.rf
  have hO := hOK
  have inX3 : ∀ w ∈ u_ws RX3 TX3 9, w ∈ vsX7_door := fun w h => List.mem_cons_of_mem _ (inlX3 w h)
  have inX7 : ∀ w ∈ u_ws RX7 TX7 6, w ∈ vsX7_door := fun w h => List.mem_cons_of_mem _ (inlX7 w h)
  have fl12 := hts (.fieldLink RX7 12 "GroundKeeper" "ground" "LGroundKeeper$Ground;") (List.mem_cons_of_mem _ mw_188)
  have fl90 := hts (.fieldLink RX7 90 "GroundKeeper$Ground" "doors" "LGroundKeeper$Areas;") (List.mem_cons_of_mem _ mw_258)
  intro ls hl
  have hl : lv_has ls 6 [(0, .ref (ad 0)), (1, .int p1), (2, .int p2), (3, .int p3), (4, .int p4), (5, .int p5)] := hl
  refine lv_iload_n hx hb dX7_door_0 rfl (lv_at hl 1 rfl) ?_
  refine lv_iload_n hx hb dX7_door_1 rfl (lv_at hl 2 rfl) ?_
  refine lv_iload_n hx hb dX7_door_2 rfl (lv_at hl 3 rfl) ?_
  refine lv_iload hx hb dX7_door_3 (lv_at hl 4 rfl) ?_
  refine lv_iload hx hb dX7_door_5 (lv_at hl 5 rfl) ?_
  refine z_ciP (z_rS (As := [.int p1, .int p2, .int p3, .int p4, .int p5]) (rest := []) ⟨hx, hb, hml, hown, hts⟩ (c_X7_isStraight l D (gT cy) 73 ad (fun c1 => c1 = ce) p1 p2 p3 p4 p5) (va_cwS 5 hts (g_S mw_312 mw_313 mw_2 mw_314) rfl rfl rfl (by decide +kernel) ⟨Nat.le_of_ble_eq_true rfl, Nat.le_of_ble_eq_true rfl⟩) hK hN rfl hP rfl hl.1 rfl (Nat.le_of_ble_eq_true rfl) dX7_door_7 ⟨Nat.zero_le _, Nat.zero_le _⟩) hS (fun _ h => h) (fun v7 H locs h7 hP hS => ?_)
  refine z_if_ne (tgt := 16) hx hb dX7_door_10 (by decide) (fun c10 => ?_) (fun c10 => ?_)
  · skip
    refine lv_aload_n hx hb dX7_door_16 rfl (lv_at hl 0 rfl) ?_
    obtain ⟨v17, v17a, e17, h17, h17a⟩ := gg_GK hO
    refine va_get (ci := 7) (C := RX7) (T := TX7) (N := 6) (v := .ref (ad 1)) hx hb hts inX7 hown hK hP 0 (zw_at (by decide) e17) rfl 0 (by decide) fl12 (fun _ h => h) rfl dX7_door_17 ?_
    obtain ⟨v20, e20, h20, h20a, h20b⟩ := gg_Gr hO
    refine va_get (ci := 3) (C := RX3) (T := TX3) (N := 9) (v := .ref (ad 6)) hx hb hts inX3 hown hK hP 1 (zw_at (by decide) e20) rfl 2 (by decide) fl90 (fun _ h => h) rfl dX7_door_20 ?_
    refine lv_iload_n hx hb dX7_door_23 rfl (lv_at hl 1 rfl) ?_
    refine lv_iload_n hx hb dX7_door_24 rfl (lv_at hl 2 rfl) ?_
    refine lv_iload_n hx hb dX7_door_25 rfl (lv_at hl 3 rfl) ?_
    refine lv_iload hx hb dX7_door_26 (lv_at hl 4 rfl) ?_
    refine lv_iload hx hb dX7_door_28 (lv_at hl 5 rfl) ?_
    refine z_ic hx hb dX7_door_30 (by decide) (fun v30 h30 => ?_)
    obtain ⟨v31, e31, h31, h31a, h31b⟩ := gg_Do hO
    refine z_ci (z_rV (q0 := 6) (As := [.int p1, .int p2, .int p3, .int p4, .int p5, .int v30]) (rest := []) ⟨hx, hb, hml, hown, hts⟩ (c_X1_add_Do l D cy ad cnt B hJ p1 p2 p3 p4 p5 v30 (by omega)) (cwV 6 hts (g_V mw_308 mw_309 mw_310 mw_279 mw_311) rfl rfl rfl (by decide +kernel) ⟨Nat.le_of_ble_eq_true rfl, Nat.le_of_ble_eq_true rfl⟩) hK hN hO hP (by decide) e31 rfl rfl hl.1 rfl (Nat.le_of_ble_eq_true rfl) dX7_door_31 ⟨Nat.zero_le _, Nat.zero_le _⟩) hS (fun v31a ce H locs h31c hP hS => ?_)
    have hadd := h31c
    exact z_reti hx hb hr hlocks hP hS dX7_door_34 ⟨fun h => by exfalso; omega, fun _ => hadd⟩
  · skip
    refine z_bi hx hb dX7_door_13 (by decide) (fun v13 h13 => ?_)
    exact z_reti hx hb hr hlocks hP hS dX7_door_15 ⟨fun _ => ⟨by omega, hO⟩, fun h => by exfalso; omega⟩
set_option maxHeartbeats 8000000 in
set_option maxRecDepth 100000 in
theorem c_X7_ledge (l : Launch) (D : va_G) (cy : Nat → ClassId) (ad : Nat → Nat) (cnt : Nat → Nat) (B : Nat) (hJ : zJ 73 ad) (p1 : Int32) (p2 : Int32) (p3 : Int32) (p4 : Int32) (p5 : Int32) (p6 : Int32) (q_p6 : 0 ≤ p6.toInt ∧ p6.toInt ≤ 1) : zM l D (gT cy) 73 ad (gOK cy ad cnt B) yX7_ledge vsX7_ledge { frames := 3, cells := 0, slots := 0, locals := 72 } ([.ref (ad 0), .int p1, .int p2, .int p3, .int p4, .int p5, .int p6] : List Value) (zQi D 73 ad (fun r ce => topP cy ad cnt B (0 ≤ p1.toInt ∧ p1.toInt ≤ 2 ∧ 0 ≤ p2.toInt ∧ p2.toInt ≤ 100 ∧ 0 ≤ p3.toInt ∧ p3.toInt ≤ 100 ∧ 0 ≤ p1.toInt ∧ p1.toInt ≤ 2 ∧ 0 ≤ p4.toInt ∧ p4.toInt ≤ 100 ∧ 0 ≤ p5.toInt ∧ p5.toInt ≤ 100 ∧ ((p2.toInt = p4.toInt ∧ ¬ p3.toInt = p5.toInt) ∨ (¬ p2.toInt = p4.toInt ∧ p3.toInt = p5.toInt))) 7 6 r ce)) := by
  refine z_of (cc := cX7_ledge) (maxL := 7) (ret := (some .int)) (by decide) rfl (Nat.le_of_ble_eq_true rfl) ?_
  intro p e s m below meth c hx hb hr hts hown hlocks hml hK hN ce hOK hP
  have hown : s.vm.findClass RX7 = some m.cls := hown
  have hS : va_S (zA 73 ad) s.heap s.heap [] := va_S.rf
  have hO := hOK
  have inX3 : ∀ w ∈ u_ws RX3 TX3 9, w ∈ vsX7_ledge := fun w h => List.mem_cons_of_mem _ (inlX3 w h)
  have inX7 : ∀ w ∈ u_ws RX7 TX7 6, w ∈ vsX7_ledge := fun w h => List.mem_cons_of_mem _ (inlX7 w h)
  have fl12 := hts (.fieldLink RX7 12 "GroundKeeper" "ground" "LGroundKeeper$Ground;") (List.mem_cons_of_mem _ mw_188)
  have fl100 := hts (.fieldLink RX7 100 "GroundKeeper$Ground" "ledges" "LGroundKeeper$Areas;") (List.mem_cons_of_mem _ mw_260)
  intro ls hl
  have hl : lv_has ls 7 [(0, .ref (ad 0)), (1, .int p1), (2, .int p2), (3, .int p3), (4, .int p4), (5, .int p5), (6, .int p6)] := hl
  refine lv_iload_n hx hb dX7_ledge_0 rfl (lv_at hl 1 rfl) ?_
  refine lv_iload_n hx hb dX7_ledge_1 rfl (lv_at hl 2 rfl) ?_
  refine lv_iload_n hx hb dX7_ledge_2 rfl (lv_at hl 3 rfl) ?_
  refine lv_iload hx hb dX7_ledge_3 (lv_at hl 4 rfl) ?_
  refine lv_iload hx hb dX7_ledge_5 (lv_at hl 5 rfl) ?_
  refine z_ciP (z_rS (As := [.int p1, .int p2, .int p3, .int p4, .int p5]) (rest := []) ⟨hx, hb, hml, hown, hts⟩ (c_X7_isStraight l D (gT cy) 73 ad (fun c1 => c1 = ce) p1 p2 p3 p4 p5) (va_cwS 5 hts (g_S mw_312 mw_313 mw_2 mw_314) rfl rfl rfl (by decide +kernel) ⟨Nat.le_of_ble_eq_true rfl, Nat.le_of_ble_eq_true rfl⟩) hK hN rfl hP rfl hl.1 rfl (Nat.le_of_ble_eq_true rfl) dX7_ledge_7 ⟨Nat.zero_le _, Nat.zero_le _⟩) hS (fun _ h => h) (fun v7 H locs h7 hP hS => ?_)
  refine z_if_ne (tgt := 16) hx hb dX7_ledge_10 (by decide) (fun c10 => ?_) (fun c10 => ?_)
  · skip
    refine lv_aload_n hx hb dX7_ledge_16 rfl (lv_at hl 0 rfl) ?_
    obtain ⟨v17, v17a, e17, h17, h17a⟩ := gg_GK hO
    refine va_get (ci := 7) (C := RX7) (T := TX7) (N := 6) (v := .ref (ad 1)) hx hb hts inX7 hown hK hP 0 (zw_at (by decide) e17) rfl 0 (by decide) fl12 (fun _ h => h) rfl dX7_ledge_17 ?_
    obtain ⟨v20, e20, h20, h20a, h20b⟩ := gg_Gr hO
    refine va_get (ci := 3) (C := RX3) (T := TX3) (N := 9) (v := .ref (ad 7)) hx hb hts inX3 hown hK hP 1 (zw_at (by decide) e20) rfl 3 (by decide) fl100 (fun _ h => h) rfl dX7_ledge_20 ?_
    refine lv_iload_n hx hb dX7_ledge_23 rfl (lv_at hl 1 rfl) ?_
    refine lv_iload_n hx hb dX7_ledge_24 rfl (lv_at hl 2 rfl) ?_
    refine lv_iload_n hx hb dX7_ledge_25 rfl (lv_at hl 3 rfl) ?_
    refine lv_iload hx hb dX7_ledge_26 (lv_at hl 4 rfl) ?_
    refine lv_iload hx hb dX7_ledge_28 (lv_at hl 5 rfl) ?_
    refine lv_iload hx hb dX7_ledge_30 (lv_at hl 6 rfl) ?_
    obtain ⟨v32, e32, h32, h32a, h32b⟩ := gg_Lg hO
    refine z_ci (z_rV (q0 := 7) (As := [.int p1, .int p2, .int p3, .int p4, .int p5, .int p6]) (rest := []) ⟨hx, hb, hml, hown, hts⟩ (c_X1_add_Lg l D cy ad cnt B hJ p1 p2 p3 p4 p5 p6 (by omega)) (cwV 6 hts (g_V mw_308 mw_309 mw_310 mw_279 mw_311) rfl rfl rfl (by decide +kernel) ⟨Nat.le_of_ble_eq_true rfl, Nat.le_of_ble_eq_true rfl⟩) hK hN hO hP (by decide) e32 rfl rfl hl.1 rfl (Nat.le_of_ble_eq_true rfl) dX7_ledge_32 ⟨Nat.zero_le _, Nat.zero_le _⟩) hS (fun v32a ce H locs h32c hP hS => ?_)
    have hadd := h32c
    exact z_reti hx hb hr hlocks hP hS dX7_ledge_35 ⟨fun h => by exfalso; omega, fun _ => hadd⟩
  · skip
    refine z_bi hx hb dX7_ledge_13 (by decide) (fun v13 h13 => ?_)
    exact z_reti hx hb hr hlocks hP hS dX7_ledge_15 ⟨fun _ => ⟨by omega, hO⟩, fun h => by exfalso; omega⟩
set_option maxHeartbeats 8000000 in
set_option maxRecDepth 100000 in
theorem c_X7_ladder (l : Launch) (D : va_G) (cy : Nat → ClassId) (ad : Nat → Nat) (cnt : Nat → Nat) (B : Nat) (hJ : zJ 73 ad) (p1 : Int32) (p2 : Int32) (p3 : Int32) (p4 : Int32) (p5 : Int32) (p6 : Int32) (p7 : Int32) : zM l D (gT cy) 73 ad (gOK cy ad cnt B) yX7_ladder vsX7_ladder { frames := 1, cells := 0, slots := 0, locals := 23 } ([.ref (ad 0), .int p1, .int p2, .int p3, .int p4, .int p5, .int p6, .int p7] : List Value) (zQi D 73 ad (fun r ce => topP cy ad cnt B (0 ≤ p1.toInt ∧ p1.toInt ≤ 2 ∧ 0 ≤ p2.toInt ∧ p2.toInt ≤ 100 ∧ 0 ≤ p3.toInt ∧ p3.toInt ≤ 100 ∧ 0 ≤ p4.toInt ∧ p4.toInt ≤ 2 ∧ 0 ≤ p5.toInt ∧ p5.toInt ≤ 100 ∧ 0 ≤ p6.toInt ∧ p6.toInt ≤ 100 ∧ ¬ p1.toInt = p4.toInt ∧ 0 ≤ p7.toInt ∧ p7.toInt ≤ 1000000) 1 6 r ce)) := by
  refine z_of (cc := cX7_ladder) (maxL := 8) (ret := (some .int)) (by decide) rfl (Nat.le_of_ble_eq_true rfl) ?_
  intro p e s m below meth c hx hb hr hts hown hlocks hml hK hN ce hOK hP
  have hown : s.vm.findClass RX7 = some m.cls := hown
  have hS : va_S (zA 73 ad) s.heap s.heap [] := va_S.rf
  have hO := hOK
  have inX7 : ∀ w ∈ u_ws RX7 TX7 6, w ∈ vsX7_ladder := fun w h => List.mem_cons_of_mem _ (inlX7 w h)
  have fl12 := hts (.fieldLink RX7 12 "GroundKeeper" "ground" "LGroundKeeper$Ground;") (List.mem_cons_of_mem _ mw_188)
  intro ls hl
  have hl : lv_has ls 8 [(0, .ref (ad 0)), (1, .int p1), (2, .int p2), (3, .int p3), (4, .int p4), (5, .int p5), (6, .int p6), (7, .int p7)] := hl
  refine lv_iload_n hx hb dX7_ladder_0 rfl (lv_at hl 1 rfl) ?_
  refine lv_iload_n hx hb dX7_ladder_1 rfl (lv_at hl 2 rfl) ?_
  refine lv_iload_n hx hb dX7_ladder_2 rfl (lv_at hl 3 rfl) ?_
  refine z_ciP (z_rS (As := [.int p1, .int p2, .int p3]) (rest := []) ⟨hx, hb, hml, hown, hts⟩ (c_X7_isPlace l D (gT cy) 73 ad (fun c1 => c1 = ce) p1 p2 p3) (va_cwS 3 hts (g_S mw_0 mw_1 mw_2 mw_3) rfl rfl rfl (by decide +kernel) ⟨Nat.le_of_ble_eq_true rfl, Nat.le_of_ble_eq_true rfl⟩) hK hN rfl hP rfl hl.1 rfl (Nat.le_of_ble_eq_true rfl) dX7_ladder_3 ⟨Nat.zero_le _, Nat.zero_le _⟩) hS (fun _ h => h) (fun v3 H locs h3 hP hS => ?_)
  refine z_if_eq (tgt := 27) hx hb dX7_ladder_6 (by decide) (fun c6 => ?_) (fun c6 => ?_)
  · skip
    refine z_bi hx hb dX7_ladder_27 (by decide) (fun v27 h27 => ?_)
    exact z_reti hx hb hr hlocks hP hS dX7_ladder_29 ⟨fun _ => ⟨by omega, hO⟩, fun h => by exfalso; omega⟩
  · skip
    refine lv_iload hx hb dX7_ladder_9 (lv_at hl 4 rfl) ?_
    refine lv_iload hx hb dX7_ladder_11 (lv_at hl 5 rfl) ?_
    refine lv_iload hx hb dX7_ladder_13 (lv_at hl 6 rfl) ?_
    refine z_ciP (z_rS (As := [.int p4, .int p5, .int p6]) (rest := []) ⟨hx, hb, hml, hown, hts⟩ (c_X7_isPlace l D (gT cy) 73 ad (fun c1 => c1 = ce) p4 p5 p6) (va_cwS 3 hts (g_S mw_0 mw_1 mw_2 mw_3) rfl rfl rfl (by decide +kernel) ⟨Nat.le_of_ble_eq_true rfl, Nat.le_of_ble_eq_true rfl⟩) hK hN rfl hP rfl hl.1 rfl (Nat.le_of_ble_eq_true rfl) dX7_ladder_15 ⟨Nat.zero_le _, Nat.zero_le _⟩) hS (fun _ h => h) (fun v15 H locs h15 hP hS => ?_)
    refine z_if_eq (tgt := 27) hx hb dX7_ladder_18 (by decide) (fun c18 => ?_) (fun c18 => ?_)
    · skip
      refine z_bi hx hb dX7_ladder_27 (by decide) (fun v27 h27 => ?_)
      exact z_reti hx hb hr hlocks hP hS dX7_ladder_29 ⟨fun _ => ⟨by omega, hO⟩, fun h => by exfalso; omega⟩
    · skip
      refine lv_iload_n hx hb dX7_ladder_21 rfl (lv_at hl 1 rfl) ?_
      refine lv_iload hx hb dX7_ladder_22 (lv_at hl 4 rfl) ?_
      refine z_icmp_ne (tgt := 30) hx hb dX7_ladder_24 (by decide) (fun c24 => ?_) (fun c24 => ?_)
      · skip
        refine lv_iload hx hb dX7_ladder_30 (lv_at hl 7 rfl) ?_
        refine z_if_lt (tgt := 42) hx hb dX7_ladder_32 (by decide) (fun c32 => ?_) (fun c32 => ?_)
        · skip
          refine z_bi hx hb dX7_ladder_42 (by decide) (fun v42 h42 => ?_)
          exact z_reti hx hb hr hlocks hP hS dX7_ladder_44 ⟨fun _ => ⟨by omega, hO⟩, fun h => by exfalso; omega⟩
        · skip
          refine lv_iload hx hb dX7_ladder_35 (lv_at hl 7 rfl) ?_
          refine z_ldc (k := 1000000) hx hb hown (hts (.constant RX7 107 (1000000)) (List.mem_cons_of_mem _ mw_266)) dX7_ladder_37 (by decide) (fun v37 h37 => ?_)
          refine z_icmp_le (tgt := 45) hx hb dX7_ladder_39 (by decide) (fun c39 => ?_) (fun c39 => ?_)
          · skip
            refine lv_aload_n hx hb dX7_ladder_45 rfl (lv_at hl 0 rfl) ?_
            obtain ⟨v46, v46a, e46, h46, h46a⟩ := gg_GK hO
            refine va_get (ci := 7) (C := RX7) (T := TX7) (N := 6) (v := .ref (ad 1)) hx hb hts inX7 hown hK hP 0 (zw_at (by decide) e46) rfl 0 (by decide) fl12 (fun _ h => h) rfl dX7_ladder_46 ?_
            refine lv_iload_n hx hb dX7_ladder_49 rfl (lv_at hl 1 rfl) ?_
            refine lv_iload_n hx hb dX7_ladder_50 rfl (lv_at hl 2 rfl) ?_
            refine lv_iload_n hx hb dX7_ladder_51 rfl (lv_at hl 3 rfl) ?_
            refine z_ciP (z_rS (As := [.int p1, .int p2, .int p3]) (rest := [.ref (ad 1)]) ⟨hx, hb, hml, hown, hts⟩ (c_X7_placeAt l D (gT cy) 73 ad (fun c1 => c1 = ce) p1 p2 p3) (va_cwS 3 hts (g_S mw_271 mw_18 mw_2 mw_29) rfl rfl rfl (by decide +kernel) ⟨Nat.le_of_ble_eq_true rfl, Nat.le_of_ble_eq_true rfl⟩) hK hN rfl hP rfl hl.1 rfl (Nat.le_of_ble_eq_true rfl) dX7_ladder_52 ⟨Nat.zero_le _, Nat.zero_le _⟩) hS (fun _ h => h) (fun v52 H locs h52 hP hS => ?_)
            refine lv_iload hx hb dX7_ladder_55 (lv_at hl 4 rfl) ?_
            refine lv_iload hx hb dX7_ladder_57 (lv_at hl 5 rfl) ?_
            refine lv_iload hx hb dX7_ladder_59 (lv_at hl 6 rfl) ?_
            refine z_ciP (z_rS (As := [.int p4, .int p5, .int p6]) (rest := [.int v52, .ref (ad 1)]) ⟨hx, hb, hml, hown, hts⟩ (c_X7_placeAt l D (gT cy) 73 ad (fun c1 => c1 = ce) p4 p5 p6) (va_cwS 3 hts (g_S mw_271 mw_18 mw_2 mw_29) rfl rfl rfl (by decide +kernel) ⟨Nat.le_of_ble_eq_true rfl, Nat.le_of_ble_eq_true rfl⟩) hK hN rfl hP rfl hl.1 rfl (Nat.le_of_ble_eq_true rfl) dX7_ladder_61 ⟨Nat.zero_le _, Nat.zero_le _⟩) hS (fun _ h => h) (fun v61 H locs h61 hP hS => ?_)
            refine lv_iload hx hb dX7_ladder_64 (lv_at hl 7 rfl) ?_
            obtain ⟨v66, e66, h66, h66a, h66b⟩ := gg_Gr hO
            refine z_ci (z_rV (q0 := 1) (As := [.int v52, .int v61, .int p7]) (rest := []) ⟨hx, hb, hml, hown, hts⟩ (c_X3_addLadder l D cy ad cnt B hJ v52 v61 p7) (cwV 3 hts (g_V mw_315 mw_316 mw_317 mw_84 mw_318) rfl rfl rfl (by decide +kernel) ⟨Nat.le_of_ble_eq_true rfl, Nat.le_of_ble_eq_true rfl⟩) hK hN hO hP (by decide) e66 rfl rfl hl.1 rfl (Nat.le_of_ble_eq_true rfl) dX7_ladder_66 ⟨Nat.zero_le _, Nat.zero_le _⟩) hS (fun v66a ce H locs h66c hP hS => ?_)
            have hadd := h66c
            exact z_reti hx hb hr hlocks hP hS dX7_ladder_69 ⟨fun h => by exfalso; omega, fun _ => hadd⟩
          · skip
            refine z_bi hx hb dX7_ladder_42 (by decide) (fun v42 h42 => ?_)
            exact z_reti hx hb hr hlocks hP hS dX7_ladder_44 ⟨fun _ => ⟨by omega, hO⟩, fun h => by exfalso; omega⟩
      · skip
        refine z_bi hx hb dX7_ladder_27 (by decide) (fun v27 h27 => ?_)
        exact z_reti hx hb hr hlocks hP hS dX7_ladder_29 ⟨fun _ => ⟨by omega, hO⟩, fun h => by exfalso; omega⟩
