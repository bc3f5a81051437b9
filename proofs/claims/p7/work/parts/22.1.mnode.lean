set_option maxHeartbeats 8000000 in
set_option maxRecDepth 100000 in
theorem c_X8_isGround (l : Launch) (D : va_G) (cy : Nat → ClassId) (ad : Nat → Nat) (cnt : Nat → Nat) (nd : Nat) (wn : Nat) (S : Nat → Int32) (By : Nat → Int32) (Ah : Nat → Int32) (PP : (Nat → va_E) → Prop) (hJ : zJ 34 ad) (p1 : Int32) (p2 : Int32) (p3 : Int32) : zM l D (mT cy) 34 ad (fun c1 => mOK cy ad cnt nd wn S By Ah c1 ∧ PP c1) yX8_isGround vsX8_isGround { frames := 2, cells := 0, slots := 0, locals := 46 } ([.ref (ad 0), .int p1, .int p2, .int p3] : List Value) (zQi D 34 ad (fun r ce => (mOK cy ad cnt nd wn S By Ah ce ∧ PP ce) ∧ (0 ≤ r.toInt ∧ r.toInt ≤ 1))) := by
  refine z_of (cc := cX8_isGround) (maxL := 6) (ret := (some .boolean)) (by decide) rfl (Nat.le_of_ble_eq_true rfl) ?_
  intro p e s m below meth c hx hb hr hts hown hlocks hml hK hN ce hOK hP
  have hown : s.vm.findClass RX8 = some m.cls := hown
  have hS : va_S (zA 34 ad) s.heap s.heap [] := va_S.rf
  obtain ⟨hO, hPP⟩ := hOK
  have inX8 : ∀ w ∈ u_ws RX8 TX8 49, w ∈ vsX8_isGround := fun w h => List.mem_cons_of_mem _ (inlX8 w h)
  have fl7 := hts (.fieldLink RX8 7 "GroundKeeperModel" "room" "[I") (List.mem_cons_of_mem _ mw_339)
  have fl13 := hts (.fieldLink RX8 13 "GroundKeeperModel" "isDown" "[Z") (List.mem_cons_of_mem _ mw_340)
  have fl17 := hts (.fieldLink RX8 17 "GroundKeeperModel" "box" "[I") (List.mem_cons_of_mem _ mw_336)
  have fl121 := hts (.fieldLink RX8 121 "GroundKeeperModel" "rooms" "I") (List.mem_cons_of_mem _ mw_343)
  have L51 : ∀ N51 : Nat, ∀ (H : Heap) (locs : List Loc) (x1 : Int32) (x2 : Int32) (x3 : Int32) (x4 : Int32) (x5 : Int32), va_P D vwCl (zw 34 ad ce) H → va_S (zA 34 ad) s.heap H locs → (0 ≤ x4.toInt ∧ x4.toInt ≤ 1) → (0 ≤ x5.toInt ∧ x5.toInt ≤ 8) → (9 - x5.toInt ≤ (N51 : Int)) → ∀ ls : Array Slot, lv_has ls 6 [(0, .ref (ad 0)), (1, .int x1), (2, .int x2), (3, .int x3), (4, .int x4), (5, .int x5)] → W p l e { frames := 2, cells := 0, slots := 0, locals := 46 } s m ([.ref (ad 0), .int p1, .int p2, .int p3] : List Value).toArray below meth c H locs 0 0 (MQ below (zQi D 34 ad (fun r ce => (mOK cy ad cnt nd wn S By Ah ce ∧ PP ce) ∧ (0 ≤ r.toInt ∧ r.toInt ≤ 1))) ([.ref (ad 0), .int p1, .int p2, .int p3] : List Value).toArray s 0 0 (zA 34 ad)) (F0 m 51 ls []) := by
    intro N51
    induction N51 with
    | zero =>
      intro H locs x1 x2 x3 x4 x5 hP hS q_x4 q_x5 hm ls hl
      exfalso; omega
    | succ N51 ih51 =>
      have J93 : ∀ (H : Heap) (locs : List Loc) (x1 : Int32) (x2 : Int32) (x3 : Int32) (x5 : Int32) (s0 : Int32), va_P D vwCl (zw 34 ad ce) H → va_S (zA 34 ad) s.heap H locs → (0 ≤ x5.toInt ∧ x5.toInt ≤ 7) → (0 ≤ s0.toInt ∧ s0.toInt ≤ 1) → (9 - x5.toInt ≤ (N51 : Int) + 1) → ∀ ls : Array Slot, lv_has ls 6 [(0, .ref (ad 0)), (1, .int x1), (2, .int x2), (3, .int x3), (5, .int x5)] → W p l e { frames := 2, cells := 0, slots := 0, locals := 46 } s m ([.ref (ad 0), .int p1, .int p2, .int p3] : List Value).toArray below meth c H locs 0 0 (MQ below (zQi D 34 ad (fun r ce => (mOK cy ad cnt nd wn S By Ah ce ∧ PP ce) ∧ (0 ≤ r.toInt ∧ r.toInt ≤ 1))) ([.ref (ad 0), .int p1, .int p2, .int p3] : List Value).toArray s 0 0 (zA 34 ad)) (F0 m 93 ls [.int s0]) := by
        intro H locs x1 x2 x3 x5 s0 hP hS q_x5 q_s0 qm51 ls hl
        refine lv_istore (lv' := [(4, .int s0), (0, .ref (ad 0)), (1, .int x1), (2, .int x2), (3, .int x3), (5, .int x5)]) hx hb dX8_isGround_93 hl (by decide) rfl (fun ls hl => ?_)
        refine z_iinc (lv' := fun w0 => [(5, .int w0), (4, .int s0), (0, .ref (ad 0)), (1, .int x1), (2, .int x2), (3, .int x3)]) hx hb dX8_isGround_95 hl (k := 5) rfl (by decide) (fun _ => rfl) (by decide) (by omega) (fun v95 ls h95 hl => ?_)
        refine lv_goto (tgt := 51) hx hb dX8_isGround_98 (by decide) ?_
        exact ih51 _ _ x1 x2 x3 s0 v95 hP hS (by omega) (by omega) (by omega) _ (lv_sub hl [2, 3, 4, 5, 1, 0] rfl)
      have J92 : ∀ (H : Heap) (locs : List Loc) (x1 : Int32) (x2 : Int32) (x3 : Int32) (x5 : Int32), va_P D vwCl (zw 34 ad ce) H → va_S (zA 34 ad) s.heap H locs → (0 ≤ x5.toInt ∧ x5.toInt ≤ 7) → (9 - x5.toInt ≤ (N51 : Int) + 1) → ∀ ls : Array Slot, lv_has ls 6 [(0, .ref (ad 0)), (1, .int x1), (2, .int x2), (3, .int x3), (5, .int x5)] → W p l e { frames := 2, cells := 0, slots := 0, locals := 46 } s m ([.ref (ad 0), .int p1, .int p2, .int p3] : List Value).toArray below meth c H locs 0 0 (MQ below (zQi D 34 ad (fun r ce => (mOK cy ad cnt nd wn S By Ah ce ∧ PP ce) ∧ (0 ≤ r.toInt ∧ r.toInt ≤ 1))) ([.ref (ad 0), .int p1, .int p2, .int p3] : List Value).toArray s 0 0 (zA 34 ad)) (F0 m 92 ls []) := by
        intro H locs x1 x2 x3 x5 hP hS q_x5 qm51 ls hl
        refine z_ic hx hb dX8_isGround_92 (by decide) (fun v92 h92 => ?_)
        exact J93 _ _ x1 x2 x3 x5 v92 hP hS (by omega) (by omega) (by omega) _ (lv_sub hl [0, 1, 2, 3, 4] rfl)
      have J88 : ∀ (H : Heap) (locs : List Loc) (x1 : Int32) (x2 : Int32) (x3 : Int32) (x5 : Int32), va_P D vwCl (zw 34 ad ce) H → va_S (zA 34 ad) s.heap H locs → (0 ≤ x5.toInt ∧ x5.toInt ≤ 7) → (9 - x5.toInt ≤ (N51 : Int) + 1) → ∀ ls : Array Slot, lv_has ls 6 [(0, .ref (ad 0)), (1, .int x1), (2, .int x2), (3, .int x3), (5, .int x5)] → W p l e { frames := 2, cells := 0, slots := 0, locals := 46 } s m ([.ref (ad 0), .int p1, .int p2, .int p3] : List Value).toArray below meth c H locs 0 0 (MQ below (zQi D 34 ad (fun r ce => (mOK cy ad cnt nd wn S By Ah ce ∧ PP ce) ∧ (0 ≤ r.toInt ∧ r.toInt ≤ 1))) ([.ref (ad 0), .int p1, .int p2, .int p3] : List Value).toArray s 0 0 (zA 34 ad)) (F0 m 88 ls []) := by
        intro H locs x1 x2 x3 x5 hP hS q_x5 qm51 ls hl
        refine z_ic hx hb dX8_isGround_88 (by decide) (fun v88 h88 => ?_)
        refine lv_goto (tgt := 93) hx hb dX8_isGround_89 (by decide) ?_
        exact J93 _ _ x1 x2 x3 x5 v88 hP hS (by omega) (by omega) (by omega) _ (lv_sub hl [0, 1, 2, 3, 4] rfl)
      intro H locs x1 x2 x3 x4 x5 hP hS q_x4 q_x5 hm ls hl
      refine lv_iload hx hb dX8_isGround_51 (lv_at hl 5 rfl) ?_
      refine z_bi hx hb dX8_isGround_53 (by decide) (fun v53 h53 => ?_)
      refine z_icmp_ge (tgt := 101) hx hb dX8_isGround_55 (by decide) (fun c55 => ?_) (fun c55 => ?_)
      · skip
        refine lv_iload hx hb dX8_isGround_101 (lv_at hl 4 rfl) ?_
        exact z_retz hx hb hr hlocks hP hS dX8_isGround_103 (by omega) ⟨⟨hO, hPP⟩, (by omega)⟩
      · skip
        refine lv_iload hx hb dX8_isGround_58 (lv_at hl 4 rfl) ?_
        refine z_if_eq (tgt := 92) hx hb dX8_isGround_60 (by decide) (fun c60 => ?_) (fun c60 => ?_)
        · skip
          exact J92 _ _ x1 x2 x3 x5 hP hS (by omega) (by omega) _ (lv_sub hl [0, 1, 2, 3, 5] rfl)
        · skip
          refine lv_aload_n hx hb dX8_isGround_63 rfl (lv_at hl 0 rfl) ?_
          obtain ⟨v64, v64a, v64b, v64c, v64d, v64e, v64f, v64g, v64h, v64i, v64j, v64k, v64l, v64m, v64n, v64o, e64, h64, h64a, h64b, h64c, h64d, h64e, h64f, h64g, h64h, h64i, h64j, h64k, h64l, h64m, h64n, h64o, h64p, h64q, h64r, h64s, h64t, h64u⟩ := mg_Mo hO
          refine va_get (ci := 8) (C := RX8) (T := TX8) (N := 49) (v := .ref (ad 2)) hx hb hts inX8 hown hK hP 0 (zw_at (by decide) e64) rfl 2 (by decide) fl13 (fun _ h => h) rfl dX8_isGround_64 ?_
          refine lv_iload hx hb dX8_isGround_67 (lv_at hl 5 rfl) ?_
          obtain ⟨f69, e69⟩ := mg_Dn hO
          refine z_zald hx hb hK hP (q0 := 2) 1 (by decide) e69 rfl (by omega) dX8_isGround_69 (fun v69 h69a => ?_)
          refine z_if_eq (tgt := 88) hx hb dX8_isGround_70 (by decide) (fun c70 => ?_) (fun c70 => ?_)
          · skip
            exact J88 _ _ x1 x2 x3 x5 hP hS (by omega) (by omega) _ (lv_sub hl [0, 1, 2, 3, 5] rfl)
          · skip
            refine lv_aload_n hx hb dX8_isGround_73 rfl (lv_at hl 0 rfl) ?_
            refine va_get (ci := 8) (C := RX8) (T := TX8) (N := 49) (v := .ref (ad 3)) hx hb hts inX8 hown hK hP 0 (zw_at (by decide) e64) rfl 3 (by decide) fl17 (fun _ h => h) rfl dX8_isGround_74 ?_
            refine lv_iload hx hb dX8_isGround_77 (lv_at hl 5 rfl) ?_
            refine lv_iload_n hx hb dX8_isGround_79 rfl (lv_at hl 1 rfl) ?_
            refine lv_iload_n hx hb dX8_isGround_80 rfl (lv_at hl 2 rfl) ?_
            refine lv_iload_n hx hb dX8_isGround_81 rfl (lv_at hl 3 rfl) ?_
            refine z_ciP (z_rS (As := [.ref (ad 3), .int x5, .int x1, .int x2, .int x3]) (rest := []) ⟨hx, hb, hml, hown, hts⟩ (c_X8_isInside_Bx l D cy ad cnt nd wn S By Ah (fun c1 => c1 = ce) hJ x5 x1 x2 x3 (by omega)) (va_cwS 5 hts (g_S mw_384 mw_385 mw_324 mw_386) rfl rfl rfl (by decide +kernel) ⟨Nat.le_of_ble_eq_true rfl, Nat.le_of_ble_eq_true rfl⟩) hK hN ⟨hO, rfl⟩ hP rfl hl.1 rfl (Nat.le_of_ble_eq_true rfl) dX8_isGround_82 ⟨Nat.zero_le _, Nat.zero_le _⟩) hS (fun _ h => h.2) (fun v82 H locs h82 hP hS => ?_)
            refine z_if_ne (tgt := 92) hx hb dX8_isGround_85 (by decide) (fun c85 => ?_) (fun c85 => ?_)
            · skip
              exact J92 _ _ x1 x2 x3 x5 hP hS (by omega) (by omega) _ (lv_sub hl [0, 1, 2, 3, 5] rfl)
            · skip
              exact J88 _ _ x1 x2 x3 x5 hP hS (by omega) (by omega) _ (lv_sub hl [0, 1, 2, 3, 5] rfl)
  have L6 : ∀ N6 : Nat, ∀ (H : Heap) (locs : List Loc) (x1 : Int32) (x2 : Int32) (x3 : Int32) (x4 : Int32) (x5 : Int32), va_P D vwCl (zw 34 ad ce) H → va_S (zA 34 ad) s.heap H locs → (0 ≤ x4.toInt ∧ x4.toInt ≤ 1) → (0 ≤ x5.toInt ∧ x5.toInt ≤ 12) → (13 - x5.toInt ≤ (N6 : Int)) → ∀ ls : Array Slot, lv_has ls 6 [(0, .ref (ad 0)), (1, .int x1), (2, .int x2), (3, .int x3), (4, .int x4), (5, .int x5)] → W p l e { frames := 2, cells := 0, slots := 0, locals := 46 } s m ([.ref (ad 0), .int p1, .int p2, .int p3] : List Value).toArray below meth c H locs 0 0 (MQ below (zQi D 34 ad (fun r ce => (mOK cy ad cnt nd wn S By Ah ce ∧ PP ce) ∧ (0 ≤ r.toInt ∧ r.toInt ≤ 1))) ([.ref (ad 0), .int p1, .int p2, .int p3] : List Value).toArray s 0 0 (zA 34 ad)) (F0 m 6 ls []) := by
    intro N6
    induction N6 with
    | zero =>
      intro H locs x1 x2 x3 x4 x5 hP hS q_x4 q_x5 hm ls hl
      exfalso; omega
    | succ N6 ih6 =>
      have J40 : ∀ (H : Heap) (locs : List Loc) (x1 : Int32) (x2 : Int32) (x3 : Int32) (x5 : Int32) (s0 : Int32), va_P D vwCl (zw 34 ad ce) H → va_S (zA 34 ad) s.heap H locs → (0 ≤ x5.toInt ∧ x5.toInt ≤ 11) → (0 ≤ s0.toInt ∧ s0.toInt ≤ 1) → (13 - x5.toInt ≤ (N6 : Int) + 1) → ∀ ls : Array Slot, lv_has ls 6 [(0, .ref (ad 0)), (1, .int x1), (2, .int x2), (3, .int x3), (5, .int x5)] → W p l e { frames := 2, cells := 0, slots := 0, locals := 46 } s m ([.ref (ad 0), .int p1, .int p2, .int p3] : List Value).toArray below meth c H locs 0 0 (MQ below (zQi D 34 ad (fun r ce => (mOK cy ad cnt nd wn S By Ah ce ∧ PP ce) ∧ (0 ≤ r.toInt ∧ r.toInt ≤ 1))) ([.ref (ad 0), .int p1, .int p2, .int p3] : List Value).toArray s 0 0 (zA 34 ad)) (F0 m 40 ls [.int s0]) := by
        intro H locs x1 x2 x3 x5 s0 hP hS q_x5 q_s0 qm6 ls hl
        refine lv_istore (lv' := [(4, .int s0), (0, .ref (ad 0)), (1, .int x1), (2, .int x2), (3, .int x3), (5, .int x5)]) hx hb dX8_isGround_40 hl (by decide) rfl (fun ls hl => ?_)
        refine z_iinc (lv' := fun w0 => [(5, .int w0), (4, .int s0), (0, .ref (ad 0)), (1, .int x1), (2, .int x2), (3, .int x3)]) hx hb dX8_isGround_42 hl (k := 5) rfl (by decide) (fun _ => rfl) (by decide) (by omega) (fun v42 ls h42 hl => ?_)
        refine lv_goto (tgt := 6) hx hb dX8_isGround_45 (by decide) ?_
        exact ih6 _ _ x1 x2 x3 s0 v42 hP hS (by omega) (by omega) (by omega) _ (lv_sub hl [2, 3, 4, 5, 1, 0] rfl)
      have J35 : ∀ (H : Heap) (locs : List Loc) (x1 : Int32) (x2 : Int32) (x3 : Int32) (x5 : Int32), va_P D vwCl (zw 34 ad ce) H → va_S (zA 34 ad) s.heap H locs → (0 ≤ x5.toInt ∧ x5.toInt ≤ 11) → (13 - x5.toInt ≤ (N6 : Int) + 1) → ∀ ls : Array Slot, lv_has ls 6 [(0, .ref (ad 0)), (1, .int x1), (2, .int x2), (3, .int x3), (5, .int x5)] → W p l e { frames := 2, cells := 0, slots := 0, locals := 46 } s m ([.ref (ad 0), .int p1, .int p2, .int p3] : List Value).toArray below meth c H locs 0 0 (MQ below (zQi D 34 ad (fun r ce => (mOK cy ad cnt nd wn S By Ah ce ∧ PP ce) ∧ (0 ≤ r.toInt ∧ r.toInt ≤ 1))) ([.ref (ad 0), .int p1, .int p2, .int p3] : List Value).toArray s 0 0 (zA 34 ad)) (F0 m 35 ls []) := by
        intro H locs x1 x2 x3 x5 hP hS q_x5 qm6 ls hl
        refine z_ic hx hb dX8_isGround_35 (by decide) (fun v35 h35 => ?_)
        refine lv_goto (tgt := 40) hx hb dX8_isGround_36 (by decide) ?_
        exact J40 _ _ x1 x2 x3 x5 v35 hP hS (by omega) (by omega) (by omega) _ (lv_sub hl [0, 1, 2, 3, 4] rfl)
      intro H locs x1 x2 x3 x4 x5 hP hS q_x4 q_x5 hm ls hl
      refine lv_iload hx hb dX8_isGround_6 (lv_at hl 5 rfl) ?_
      refine lv_aload_n hx hb dX8_isGround_8 rfl (lv_at hl 0 rfl) ?_
      obtain ⟨v9, v9a, v9b, v9c, v9d, v9e, v9f, v9g, v9h, v9i, v9j, v9k, v9l, v9m, v9n, v9o, e9, h9, h9a, h9b, h9c, h9d, h9e, h9f, h9g, h9h, h9i, h9j, h9k, h9l, h9m, h9n, h9o, h9p, h9q, h9r, h9s, h9t, h9u⟩ := mg_Mo hO
      refine va_get (ci := 8) (C := RX8) (T := TX8) (N := 49) (v := .int v9) hx hb hts inX8 hown hK hP 0 (zw_at (by decide) e9) rfl 0 (by decide) fl121 (fun _ h => h) rfl dX8_isGround_9 ?_
      refine z_icmp_ge (tgt := 48) hx hb dX8_isGround_12 (by decide) (fun c12 => ?_) (fun c12 => ?_)
      · skip
        refine z_ic hx hb dX8_isGround_48 (by decide) (fun v48 h48 => ?_)
        refine lv_istore (lv' := [(5, .int v48), (0, .ref (ad 0)), (1, .int x1), (2, .int x2), (3, .int x3), (4, .int x4)]) hx hb dX8_isGround_49 hl (by decide) rfl (fun ls hl => ?_)
        exact L51 10 _ _ x1 x2 x3 x4 v48 hP hS (by omega) (by omega) (by omega) _ (lv_sub hl [1, 2, 3, 4, 5, 0] rfl)
      · skip
        refine lv_iload hx hb dX8_isGround_15 (lv_at hl 4 rfl) ?_
        refine z_if_ne (tgt := 35) hx hb dX8_isGround_17 (by decide) (fun c17 => ?_) (fun c17 => ?_)
        · skip
          exact J35 _ _ x1 x2 x3 x5 hP hS (by omega) (by omega) _ (lv_sub hl [0, 1, 2, 3, 5] rfl)
        · skip
          refine lv_aload_n hx hb dX8_isGround_20 rfl (lv_at hl 0 rfl) ?_
          refine va_get (ci := 8) (C := RX8) (T := TX8) (N := 49) (v := .ref (ad 1)) hx hb hts inX8 hown hK hP 0 (zw_at (by decide) e9) rfl 1 (by decide) fl7 (fun _ h => h) rfl dX8_isGround_21 ?_
          refine lv_iload hx hb dX8_isGround_24 (lv_at hl 5 rfl) ?_
          refine lv_iload_n hx hb dX8_isGround_26 rfl (lv_at hl 1 rfl) ?_
          refine lv_iload_n hx hb dX8_isGround_27 rfl (lv_at hl 2 rfl) ?_
          refine lv_iload_n hx hb dX8_isGround_28 rfl (lv_at hl 3 rfl) ?_
          refine z_ciP (z_rS (As := [.ref (ad 1), .int x5, .int x1, .int x2, .int x3]) (rest := []) ⟨hx, hb, hml, hown, hts⟩ (c_X8_isOn_Rm l D cy ad cnt nd wn S By Ah (fun c1 => c1 = ce) hJ x5 x1 x2 x3 (by omega)) (va_cwS 5 hts (g_S mw_387 mw_388 mw_324 mw_389) rfl rfl rfl (by decide +kernel) ⟨Nat.le_of_ble_eq_true rfl, Nat.le_of_ble_eq_true rfl⟩) hK hN ⟨hO, rfl⟩ hP rfl hl.1 rfl (Nat.le_of_ble_eq_true rfl) dX8_isGround_29 ⟨Nat.zero_le _, Nat.zero_le _⟩) hS (fun _ h => h.2) (fun v29 H locs h29 hP hS => ?_)
          refine z_if_eq (tgt := 39) hx hb dX8_isGround_32 (by decide) (fun c32 => ?_) (fun c32 => ?_)
          · skip
            refine z_ic hx hb dX8_isGround_39 (by decide) (fun v39 h39 => ?_)
            exact J40 _ _ x1 x2 x3 x5 v39 hP hS (by omega) (by omega) (by omega) _ (lv_sub hl [0, 1, 2, 3, 5] rfl)
          · skip
            exact J35 _ _ x1 x2 x3 x5 hP hS (by omega) (by omega) _ (lv_sub hl [0, 1, 2, 3, 5] rfl)
  intro ls hl
  have hl : lv_has ls 6 [(0, .ref (ad 0)), (1, .int p1), (2, .int p2), (3, .int p3)] := hl
  refine z_ic hx hb dX8_isGround_0 (by decide) (fun v0 h0 => ?_)
  refine lv_istore (lv' := [(4, .int v0), (0, .ref (ad 0)), (1, .int p1), (2, .int p2), (3, .int p3)]) hx hb dX8_isGround_1 hl (by decide) rfl (fun ls hl => ?_)
  refine z_ic hx hb dX8_isGround_3 (by decide) (fun v3 h3 => ?_)
  refine lv_istore (lv' := [(5, .int v3), (4, .int v0), (0, .ref (ad 0)), (1, .int p1), (2, .int p2), (3, .int p3)]) hx hb dX8_isGround_4 hl (by decide) rfl (fun ls hl => ?_)
  exact L6 14 _ _ p1 p2 p3 v0 v3 hP hS (by omega) (by omega) (by omega) _ (lv_sub hl [2, 3, 4, 5, 1, 0] rfl)
set_option maxHeartbeats 8000000 in
set_option maxRecDepth 100000 in
theorem c_X8_climb (l : Launch) (D : va_G) (cy : Nat → ClassId) (ad : Nat → Nat) (cnt : Nat → Nat) (nd : Nat) (wn : Nat) (S : Nat → Int32) (By : Nat → Int32) (Ah : Nat → Int32) (PP : (Nat → va_E) → Prop) (hJ : zJ 34 ad) (p1 : Int32) (p2 : Int32) (p3 : Int32) (p4 : Int32) (p5 : Int32) (p6 : Int32) : zM l D (mT cy) 34 ad (fun c1 => mOK cy ad cnt nd wn S By Ah c1 ∧ PP c1) yX8_climb vsX8_climb { frames := 0, cells := 0, slots := 0, locals := 0 } ([.ref (ad 0), .int p1, .int p2, .int p3, .int p4, .int p5, .int p6] : List Value) (zQi D 34 ad (fun r ce => (mOK cy ad cnt nd wn S By Ah ce ∧ PP ce) ∧ (True))) := by
  refine z_of (cc := cX8_climb) (maxL := 12) (ret := (some .int)) (by decide) rfl (Nat.le_of_ble_eq_true rfl) ?_
  intro p e s m below meth c hx hb hr hts hown hlocks hml hK hN ce hOK hP
  have hown : s.vm.findClass RX8 = some m.cls := hown
  have hS : va_S (zA 34 ad) s.heap s.heap [] := va_S.rf
  obtain ⟨hO, hPP⟩ := hOK
  have inX8 : ∀ w ∈ u_ws RX8 TX8 49, w ∈ vsX8_climb := fun w h => List.mem_cons_of_mem _ (inlX8 w h)
  have fl32 := hts (.fieldLink RX8 32 "GroundKeeperModel" "ladder" "[I") (List.mem_cons_of_mem _ mw_377)
  have fl146 := hts (.fieldLink RX8 146 "GroundKeeperModel" "ladders" "I") (List.mem_cons_of_mem _ mw_378)
  have L6 : ∀ N6 : Nat, ∀ (H : Heap) (locs : List Loc) (x1 : Int32) (x2 : Int32) (x3 : Int32) (x4 : Int32) (x5 : Int32) (x6 : Int32) (x7 : Int32) (x8 : Int32), va_P D vwCl (zw 34 ad ce) H → va_S (zA 34 ad) s.heap H locs → (0 ≤ x8.toInt ∧ x8.toInt ≤ 6) → (7 - x8.toInt ≤ (N6 : Int)) → ∀ ls : Array Slot, lv_has ls 12 [(0, .ref (ad 0)), (1, .int x1), (2, .int x2), (3, .int x3), (4, .int x4), (5, .int x5), (6, .int x6), (7, .int x7), (8, .int x8)] → W p l e { frames := 0, cells := 0, slots := 0, locals := 0 } s m ([.ref (ad 0), .int p1, .int p2, .int p3, .int p4, .int p5, .int p6] : List Value).toArray below meth c H locs 0 0 (MQ below (zQi D 34 ad (fun r ce => (mOK cy ad cnt nd wn S By Ah ce ∧ PP ce) ∧ (True))) ([.ref (ad 0), .int p1, .int p2, .int p3, .int p4, .int p5, .int p6] : List Value).toArray s 0 0 (zA 34 ad)) (F0 m 6 ls []) := by
    intro N6
    induction N6 with
    | zero =>
      intro H locs x1 x2 x3 x4 x5 x6 x7 x8 hP hS q_x8 hm ls hl
      exfalso; omega
    | succ N6 ih6 =>
      have J237 : ∀ (H : Heap) (locs : List Loc) (x1 : Int32) (x2 : Int32) (x3 : Int32) (x4 : Int32) (x5 : Int32) (x6 : Int32) (x7 : Int32) (x8 : Int32), va_P D vwCl (zw 34 ad ce) H → va_S (zA 34 ad) s.heap H locs → (0 ≤ x8.toInt ∧ x8.toInt ≤ 5) → (7 - x8.toInt ≤ (N6 : Int) + 1) → ∀ ls : Array Slot, lv_has ls 12 [(0, .ref (ad 0)), (1, .int x1), (2, .int x2), (3, .int x3), (4, .int x4), (5, .int x5), (6, .int x6), (7, .int x7), (8, .int x8)] → W p l e { frames := 0, cells := 0, slots := 0, locals := 0 } s m ([.ref (ad 0), .int p1, .int p2, .int p3, .int p4, .int p5, .int p6] : List Value).toArray below meth c H locs 0 0 (MQ below (zQi D 34 ad (fun r ce => (mOK cy ad cnt nd wn S By Ah ce ∧ PP ce) ∧ (True))) ([.ref (ad 0), .int p1, .int p2, .int p3, .int p4, .int p5, .int p6] : List Value).toArray s 0 0 (zA 34 ad)) (F0 m 237 ls []) := by
        intro H locs x1 x2 x3 x4 x5 x6 x7 x8 hP hS q_x8 qm6 ls hl
        refine z_iinc (lv' := fun w0 => [(8, .int w0), (0, .ref (ad 0)), (1, .int x1), (2, .int x2), (3, .int x3), (4, .int x4), (5, .int x5), (6, .int x6), (7, .int x7)]) hx hb dX8_climb_237 hl (k := 8) rfl (by decide) (fun _ => rfl) (by decide) (by omega) (fun v237 ls h237 hl => ?_)
        refine lv_goto (tgt := 6) hx hb dX8_climb_240 (by decide) ?_
        exact ih6 _ _ x1 x2 x3 x4 x5 x6 x7 v237 hP hS (by omega) (by omega) _ (lv_sub hl [1, 2, 3, 4, 5, 6, 7, 8, 0] rfl)
      have J225 : ∀ (H : Heap) (locs : List Loc) (x1 : Int32) (x2 : Int32) (x3 : Int32) (x4 : Int32) (x5 : Int32) (x6 : Int32) (x8 : Int32) (x9 : Int32), va_P D vwCl (zw 34 ad ce) H → va_S (zA 34 ad) s.heap H locs → (0 ≤ x8.toInt ∧ x8.toInt ≤ 5) → (0 ≤ x9.toInt ∧ x9.toInt ≤ 35) → (7 - x8.toInt ≤ (N6 : Int) + 1) → ∀ ls : Array Slot, lv_has ls 12 [(0, .ref (ad 0)), (1, .int x1), (2, .int x2), (3, .int x3), (4, .int x4), (5, .int x5), (6, .int x6), (8, .int x8), (9, .int x9)] → W p l e { frames := 0, cells := 0, slots := 0, locals := 0 } s m ([.ref (ad 0), .int p1, .int p2, .int p3, .int p4, .int p5, .int p6] : List Value).toArray below meth c H locs 0 0 (MQ below (zQi D 34 ad (fun r ce => (mOK cy ad cnt nd wn S By Ah ce ∧ PP ce) ∧ (True))) ([.ref (ad 0), .int p1, .int p2, .int p3, .int p4, .int p5, .int p6] : List Value).toArray s 0 0 (zA 34 ad)) (F0 m 225 ls []) := by
        intro H locs x1 x2 x3 x4 x5 x6 x8 x9 hP hS q_x8 q_x9 qm6 ls hl
        refine lv_aload_n hx hb dX8_climb_225 rfl (lv_at hl 0 rfl) ?_
        obtain ⟨v226, v226a, v226b, v226c, v226d, v226e, v226f, v226g, v226h, v226i, v226j, v226k, v226l, v226m, v226n, v226o, e226, h226, h226a, h226b, h226c, h226d, h226e, h226f, h226g, h226h, h226i, h226j, h226k, h226l, h226m, h226n, h226o, h226p, h226q, h226r, h226s, h226t, h226u⟩ := mg_Mo hO
        refine va_get (ci := 8) (C := RX8) (T := TX8) (N := 49) (v := .ref (ad 8)) hx hb hts inX8 hown hK hP 0 (zw_at (by decide) e226) rfl 11 (by decide) fl32 (fun _ h => h) rfl dX8_climb_226 ?_
        refine lv_iload hx hb dX8_climb_229 (lv_at hl 8 rfl) ?_
        refine z_bi hx hb dX8_climb_231 (by decide) (fun v231 h231 => ?_)
        refine z_addE hx hb dX8_climb_233 (by omega) (fun v233 h233 => ?_)
        obtain ⟨f234, e234⟩ := mg_Ld hO
        refine z_iald hx hb hK hP (q0 := 8) 0 (by decide) e234 rfl (by omega) dX8_climb_234 (fun v234 h234a => ?_)
        refine lv_istore (lv' := [(7, .int v234), (0, .ref (ad 0)), (1, .int x1), (2, .int x2), (3, .int x3), (4, .int x4), (5, .int x5), (6, .int x6), (8, .int x8), (9, .int x9)]) hx hb dX8_climb_235 hl (by decide) rfl (fun ls hl => ?_)
        exact J237 _ _ x1 x2 x3 x4 x5 x6 v234 x8 hP hS (by omega) (by omega) _ (lv_sub hl [1, 2, 3, 4, 5, 6, 7, 0, 8] rfl)
      have J204 : ∀ (H : Heap) (locs : List Loc) (x1 : Int32) (x2 : Int32) (x3 : Int32) (x4 : Int32) (x5 : Int32) (x6 : Int32) (x7 : Int32) (x8 : Int32) (x9 : Int32), va_P D vwCl (zw 34 ad ce) H → va_S (zA 34 ad) s.heap H locs → (0 ≤ x8.toInt ∧ x8.toInt ≤ 5) → (0 ≤ x9.toInt ∧ x9.toInt ≤ 35) → (7 - x8.toInt ≤ (N6 : Int) + 1) → ∀ ls : Array Slot, lv_has ls 12 [(0, .ref (ad 0)), (1, .int x1), (2, .int x2), (3, .int x3), (4, .int x4), (5, .int x5), (6, .int x6), (7, .int x7), (8, .int x8), (9, .int x9)] → W p l e { frames := 0, cells := 0, slots := 0, locals := 0 } s m ([.ref (ad 0), .int p1, .int p2, .int p3, .int p4, .int p5, .int p6] : List Value).toArray below meth c H locs 0 0 (MQ below (zQi D 34 ad (fun r ce => (mOK cy ad cnt nd wn S By Ah ce ∧ PP ce) ∧ (True))) ([.ref (ad 0), .int p1, .int p2, .int p3, .int p4, .int p5, .int p6] : List Value).toArray s 0 0 (zA 34 ad)) (F0 m 204 ls []) := by
        intro H locs x1 x2 x3 x4 x5 x6 x7 x8 x9 hP hS q_x8 q_x9 qm6 ls hl
        refine lv_iload hx hb dX8_climb_204 (lv_at hl 7 rfl) ?_
        refine z_ic hx hb dX8_climb_206 (by decide) (fun v206 h206 => ?_)
        refine z_icmp_eq (tgt := 225) hx hb dX8_climb_207 (by decide) (fun c207 => ?_) (fun c207 => ?_)
        · skip
          exact J225 _ _ x1 x2 x3 x4 x5 x6 x8 x9 hP hS (by omega) (by omega) (by omega) _ (lv_sub hl [0, 1, 2, 3, 4, 5, 6, 8, 9] rfl)
        · skip
          refine lv_aload_n hx hb dX8_climb_210 rfl (lv_at hl 0 rfl) ?_
          obtain ⟨v211, v211a, v211b, v211c, v211d, v211e, v211f, v211g, v211h, v211i, v211j, v211k, v211l, v211m, v211n, v211o, e211, h211, h211a, h211b, h211c, h211d, h211e, h211f, h211g, h211h, h211i, h211j, h211k, h211l, h211m, h211n, h211o, h211p, h211q, h211r, h211s, h211t, h211u⟩ := mg_Mo hO
          refine va_get (ci := 8) (C := RX8) (T := TX8) (N := 49) (v := .ref (ad 8)) hx hb hts inX8 hown hK hP 0 (zw_at (by decide) e211) rfl 11 (by decide) fl32 (fun _ h => h) rfl dX8_climb_211 ?_
          refine lv_iload hx hb dX8_climb_214 (lv_at hl 9 rfl) ?_
          refine z_bi hx hb dX8_climb_216 (by decide) (fun v216 h216 => ?_)
          refine z_addE hx hb dX8_climb_218 (by omega) (fun v218 h218 => ?_)
          obtain ⟨f219, e219⟩ := mg_Ld hO
          refine z_iald hx hb hK hP (q0 := 8) 0 (by decide) e219 rfl (by omega) dX8_climb_219 (fun v219 h219a => ?_)
          refine lv_iload hx hb dX8_climb_220 (lv_at hl 7 rfl) ?_
          refine z_icmp_ge (tgt := 237) hx hb dX8_climb_222 (by decide) (fun c222 => ?_) (fun c222 => ?_)
          · skip
            exact J237 _ _ x1 x2 x3 x4 x5 x6 x7 x8 hP hS (by omega) (by omega) _ (lv_sub hl [0, 1, 2, 3, 4, 5, 6, 7, 8] rfl)
          · skip
            exact J225 _ _ x1 x2 x3 x4 x5 x6 x8 x9 hP hS (by omega) (by omega) (by omega) _ (lv_sub hl [0, 1, 2, 3, 4, 5, 6, 8, 9] rfl)
      have J192 : ∀ (H : Heap) (locs : List Loc) (x1 : Int32) (x2 : Int32) (x3 : Int32) (x4 : Int32) (x5 : Int32) (x6 : Int32) (x7 : Int32) (x8 : Int32) (x9 : Int32) (x10 : Int32) (s0 : Int32), va_P D vwCl (zw 34 ad ce) H → va_S (zA 34 ad) s.heap H locs → (0 ≤ x8.toInt ∧ x8.toInt ≤ 5) → (0 ≤ x9.toInt ∧ x9.toInt ≤ 35) → (0 ≤ x10.toInt ∧ x10.toInt ≤ 1) → (0 ≤ s0.toInt ∧ s0.toInt ≤ 1) → (7 - x8.toInt ≤ (N6 : Int) + 1) → ∀ ls : Array Slot, lv_has ls 12 [(0, .ref (ad 0)), (1, .int x1), (2, .int x2), (3, .int x3), (4, .int x4), (5, .int x5), (6, .int x6), (7, .int x7), (8, .int x8), (9, .int x9), (10, .int x10)] → W p l e { frames := 0, cells := 0, slots := 0, locals := 0 } s m ([.ref (ad 0), .int p1, .int p2, .int p3, .int p4, .int p5, .int p6] : List Value).toArray below meth c H locs 0 0 (MQ below (zQi D 34 ad (fun r ce => (mOK cy ad cnt nd wn S By Ah ce ∧ PP ce) ∧ (True))) ([.ref (ad 0), .int p1, .int p2, .int p3, .int p4, .int p5, .int p6] : List Value).toArray s 0 0 (zA 34 ad)) (F0 m 192 ls [.int s0]) := by
        intro H locs x1 x2 x3 x4 x5 x6 x7 x8 x9 x10 s0 hP hS q_x8 q_x9 q_x10 q_s0 qm6 ls hl
        refine lv_istore (lv' := [(11, .int s0), (0, .ref (ad 0)), (1, .int x1), (2, .int x2), (3, .int x3), (4, .int x4), (5, .int x5), (6, .int x6), (7, .int x7), (8, .int x8), (9, .int x9), (10, .int x10)]) hx hb dX8_climb_192 hl (by decide) rfl (fun ls hl => ?_)
        refine lv_iload hx hb dX8_climb_194 (lv_at hl 11 rfl) ?_
        refine z_if_ne (tgt := 204) hx hb dX8_climb_196 (by decide) (fun c196 => ?_) (fun c196 => ?_)
        · skip
          exact J204 _ _ x1 x2 x3 x4 x5 x6 x7 x8 x9 hP hS (by omega) (by omega) (by omega) _ (lv_sub hl [1, 2, 3, 4, 5, 6, 7, 8, 9, 10] rfl)
        · skip
          refine lv_iload hx hb dX8_climb_199 (lv_at hl 0 rfl) ?_
          refine z_if_eq (tgt := 237) hx hb dX8_climb_201 (by decide) (fun c201 => ?_) (fun c201 => ?_)
          · skip
            exact J237 _ _ x1 x2 x3 x4 x5 x6 x7 x8 hP hS (by omega) (by omega) _ (lv_sub hl [1, 2, 3, 4, 5, 6, 7, 8, 9] rfl)
          · skip
            exact J204 _ _ x1 x2 x3 x4 x5 x6 x7 x8 x9 hP hS (by omega) (by omega) (by omega) _ (lv_sub hl [1, 2, 3, 4, 5, 6, 7, 8, 9, 10] rfl)
      have J191 : ∀ (H : Heap) (locs : List Loc) (x1 : Int32) (x2 : Int32) (x3 : Int32) (x4 : Int32) (x5 : Int32) (x6 : Int32) (x7 : Int32) (x8 : Int32) (x9 : Int32) (x10 : Int32), va_P D vwCl (zw 34 ad ce) H → va_S (zA 34 ad) s.heap H locs → (0 ≤ x8.toInt ∧ x8.toInt ≤ 5) → (0 ≤ x9.toInt ∧ x9.toInt ≤ 35) → (0 ≤ x10.toInt ∧ x10.toInt ≤ 1) → (7 - x8.toInt ≤ (N6 : Int) + 1) → ∀ ls : Array Slot, lv_has ls 12 [(0, .ref (ad 0)), (1, .int x1), (2, .int x2), (3, .int x3), (4, .int x4), (5, .int x5), (6, .int x6), (7, .int x7), (8, .int x8), (9, .int x9), (10, .int x10)] → W p l e { frames := 0, cells := 0, slots := 0, locals := 0 } s m ([.ref (ad 0), .int p1, .int p2, .int p3, .int p4, .int p5, .int p6] : List Value).toArray below meth c H locs 0 0 (MQ below (zQi D 34 ad (fun r ce => (mOK cy ad cnt nd wn S By Ah ce ∧ PP ce) ∧ (True))) ([.ref (ad 0), .int p1, .int p2, .int p3, .int p4, .int p5, .int p6] : List Value).toArray s 0 0 (zA 34 ad)) (F0 m 191 ls []) := by
        intro H locs x1 x2 x3 x4 x5 x6 x7 x8 x9 x10 hP hS q_x8 q_x9 q_x10 qm6 ls hl
        refine z_ic hx hb dX8_climb_191 (by decide) (fun v191 h191 => ?_)
        exact J192 _ _ x1 x2 x3 x4 x5 x6 x7 x8 x9 x10 v191 hP hS (by omega) (by omega) (by omega) (by omega) (by omega) _ (lv_sub hl [0, 1, 2, 3, 4, 5, 6, 7, 8, 9, 10] rfl)
      have J106 : ∀ (H : Heap) (locs : List Loc) (x1 : Int32) (x2 : Int32) (x3 : Int32) (x4 : Int32) (x5 : Int32) (x6 : Int32) (x7 : Int32) (x8 : Int32) (x9 : Int32) (s0 : Int32), va_P D vwCl (zw 34 ad ce) H → va_S (zA 34 ad) s.heap H locs → (0 ≤ x8.toInt ∧ x8.toInt ≤ 5) → (0 ≤ x9.toInt ∧ x9.toInt ≤ 35) → (0 ≤ s0.toInt ∧ s0.toInt ≤ 1) → (7 - x8.toInt ≤ (N6 : Int) + 1) → ∀ ls : Array Slot, lv_has ls 12 [(0, .ref (ad 0)), (1, .int x1), (2, .int x2), (3, .int x3), (4, .int x4), (5, .int x5), (6, .int x6), (7, .int x7), (8, .int x8), (9, .int x9)] → W p l e { frames := 0, cells := 0, slots := 0, locals := 0 } s m ([.ref (ad 0), .int p1, .int p2, .int p3, .int p4, .int p5, .int p6] : List Value).toArray below meth c H locs 0 0 (MQ below (zQi D 34 ad (fun r ce => (mOK cy ad cnt nd wn S By Ah ce ∧ PP ce) ∧ (True))) ([.ref (ad 0), .int p1, .int p2, .int p3, .int p4, .int p5, .int p6] : List Value).toArray s 0 0 (zA 34 ad)) (F0 m 106 ls [.int s0]) := by
        intro H locs x1 x2 x3 x4 x5 x6 x7 x8 x9 s0 hP hS q_x8 q_x9 q_s0 qm6 ls hl
        refine lv_istore (lv' := [(10, .int s0), (0, .ref (ad 0)), (1, .int x1), (2, .int x2), (3, .int x3), (4, .int x4), (5, .int x5), (6, .int x6), (7, .int x7), (8, .int x8), (9, .int x9)]) hx hb dX8_climb_106 hl (by decide) rfl (fun ls hl => ?_)
        refine lv_aload_n hx hb dX8_climb_108 rfl (lv_at hl 1 rfl) ?_
        obtain ⟨v109, v109a, v109b, v109c, v109d, v109e, v109f, v109g, v109h, v109i, v109j, v109k, v109l, v109m, v109n, v109o, e109, h109, h109a, h109b, h109c, h109d, h109e, h109f, h109g, h109h, h109i, h109j, h109k, h109l, h109m, h109n, h109o, h109p, h109q, h109r, h109s, h109t, h109u⟩ := mg_Mo hO
        refine va_get (ci := 8) (C := RX8) (T := TX8) (N := 49) (v := .ref (ad 8)) hx hb hts inX8 hown hK hP 0 (zw_at (by decide) e109) rfl 11 (by decide) fl32 (fun _ h => h) rfl dX8_climb_109 ?_
        refine lv_iload hx hb dX8_climb_112 (lv_at hl 10 rfl) ?_
        obtain ⟨f114, e114⟩ := mg_Ld hO
        refine z_iald hx hb hK hP (q0 := 8) 0 (by decide) e114 rfl (by omega) dX8_climb_114 (fun v114 h114a => ?_)
        refine lv_iload hx hb dX8_climb_115 (lv_at hl 5 rfl) ?_
        refine z_icmp_ne (tgt := 191) hx hb dX8_climb_117 (by decide) (fun c117 => ?_) (fun c117 => ?_)
        · skip
          exact J191 _ _ x1 x2 x3 x4 x5 x6 x7 x8 x9 s0 hP hS (by omega) (by omega) (by omega) (by omega) _ (lv_sub hl [1, 2, 3, 4, 5, 6, 7, 8, 9, 10, 0] rfl)
        · skip
          refine lv_aload_n hx hb dX8_climb_120 rfl (lv_at hl 1 rfl) ?_
          refine va_get (ci := 8) (C := RX8) (T := TX8) (N := 49) (v := .ref (ad 8)) hx hb hts inX8 hown hK hP 0 (zw_at (by decide) e109) rfl 11 (by decide) fl32 (fun _ h => h) rfl dX8_climb_121 ?_
          refine lv_iload hx hb dX8_climb_124 (lv_at hl 10 rfl) ?_
          refine z_ic hx hb dX8_climb_126 (by decide) (fun v126 h126 => ?_)
          refine z_addE hx hb dX8_climb_127 (by omega) (fun v127 h127 => ?_)
          refine z_iald hx hb hK hP (q0 := 8) 0 (by decide) e114 rfl (by omega) dX8_climb_128 (fun v128 h128 => ?_)
          refine lv_iload hx hb dX8_climb_129 (lv_at hl 6 rfl) ?_
          refine z_icmp_ne (tgt := 191) hx hb dX8_climb_131 (by decide) (fun c131 => ?_) (fun c131 => ?_)
          · skip
            exact J191 _ _ x1 x2 x3 x4 x5 x6 x7 x8 x9 s0 hP hS (by omega) (by omega) (by omega) (by omega) _ (lv_sub hl [1, 2, 3, 4, 5, 6, 7, 8, 9, 10, 0] rfl)
          · skip
            refine lv_aload_n hx hb dX8_climb_134 rfl (lv_at hl 1 rfl) ?_
            refine va_get (ci := 8) (C := RX8) (T := TX8) (N := 49) (v := .ref (ad 8)) hx hb hts inX8 hown hK hP 0 (zw_at (by decide) e109) rfl 11 (by decide) fl32 (fun _ h => h) rfl dX8_climb_135 ?_
            refine lv_iload hx hb dX8_climb_138 (lv_at hl 10 rfl) ?_
            refine z_ic hx hb dX8_climb_140 (by decide) (fun v140 h140 => ?_)
            refine z_addE hx hb dX8_climb_141 (by omega) (fun v141 h141 => ?_)
            refine z_iald hx hb hK hP (q0 := 8) 0 (by decide) e114 rfl (by omega) dX8_climb_142 (fun v142 h142 => ?_)
            refine lv_iload hx hb dX8_climb_143 (lv_at hl 7 rfl) ?_
            refine z_icmp_ne (tgt := 191) hx hb dX8_climb_145 (by decide) (fun c145 => ?_) (fun c145 => ?_)
            · skip
              exact J191 _ _ x1 x2 x3 x4 x5 x6 x7 x8 x9 s0 hP hS (by omega) (by omega) (by omega) (by omega) _ (lv_sub hl [1, 2, 3, 4, 5, 6, 7, 8, 9, 10, 0] rfl)
            · skip
              refine lv_aload_n hx hb dX8_climb_148 rfl (lv_at hl 1 rfl) ?_
              refine va_get (ci := 8) (C := RX8) (T := TX8) (N := 49) (v := .ref (ad 8)) hx hb hts inX8 hown hK hP 0 (zw_at (by decide) e109) rfl 11 (by decide) fl32 (fun _ h => h) rfl dX8_climb_149 ?_
              refine lv_iload hx hb dX8_climb_152 (lv_at hl 10 rfl) ?_
              refine z_ic hx hb dX8_climb_154 (by decide) (fun v154 h154 => ?_)
              refine z_addE hx hb dX8_climb_155 (by omega) (fun v155 h155 => ?_)
              refine z_iald hx hb hK hP (q0 := 8) 0 (by decide) e114 rfl (by omega) dX8_climb_156 (fun v156 h156 => ?_)
              refine lv_iload_n hx hb dX8_climb_157 rfl (lv_at hl 2 rfl) ?_
              refine z_icmp_ne (tgt := 191) hx hb dX8_climb_158 (by decide) (fun c158 => ?_) (fun c158 => ?_)
              · skip
                exact J191 _ _ x1 x2 x3 x4 x5 x6 x7 x8 x9 s0 hP hS (by omega) (by omega) (by omega) (by omega) _ (lv_sub hl [1, 2, 3, 4, 5, 6, 7, 8, 9, 10, 0] rfl)
              · skip
                refine lv_aload_n hx hb dX8_climb_161 rfl (lv_at hl 1 rfl) ?_
                refine va_get (ci := 8) (C := RX8) (T := TX8) (N := 49) (v := .ref (ad 8)) hx hb hts inX8 hown hK hP 0 (zw_at (by decide) e109) rfl 11 (by decide) fl32 (fun _ h => h) rfl dX8_climb_162 ?_
                refine lv_iload hx hb dX8_climb_165 (lv_at hl 10 rfl) ?_
                refine z_ic hx hb dX8_climb_167 (by decide) (fun v167 h167 => ?_)
                refine z_addE hx hb dX8_climb_168 (by omega) (fun v168 h168 => ?_)
                refine z_iald hx hb hK hP (q0 := 8) 0 (by decide) e114 rfl (by omega) dX8_climb_169 (fun v169 h169 => ?_)
                refine lv_iload_n hx hb dX8_climb_170 rfl (lv_at hl 3 rfl) ?_
                refine z_icmp_ne (tgt := 191) hx hb dX8_climb_171 (by decide) (fun c171 => ?_) (fun c171 => ?_)
                · skip
                  exact J191 _ _ x1 x2 x3 x4 x5 x6 x7 x8 x9 s0 hP hS (by omega) (by omega) (by omega) (by omega) _ (lv_sub hl [1, 2, 3, 4, 5, 6, 7, 8, 9, 10, 0] rfl)
                · skip
                  refine lv_aload_n hx hb dX8_climb_174 rfl (lv_at hl 1 rfl) ?_
                  refine va_get (ci := 8) (C := RX8) (T := TX8) (N := 49) (v := .ref (ad 8)) hx hb hts inX8 hown hK hP 0 (zw_at (by decide) e109) rfl 11 (by decide) fl32 (fun _ h => h) rfl dX8_climb_175 ?_
                  refine lv_iload hx hb dX8_climb_178 (lv_at hl 10 rfl) ?_
                  refine z_ic hx hb dX8_climb_180 (by decide) (fun v180 h180 => ?_)
                  refine z_addE hx hb dX8_climb_181 (by omega) (fun v181 h181 => ?_)
                  refine z_iald hx hb hK hP (q0 := 8) 0 (by decide) e114 rfl (by omega) dX8_climb_182 (fun v182 h182 => ?_)
                  refine lv_iload_n hx hb dX8_climb_183 rfl (lv_at hl 4 rfl) ?_
                  refine z_icmp_ne (tgt := 191) hx hb dX8_climb_184 (by decide) (fun c184 => ?_) (fun c184 => ?_)
                  · skip
                    exact J191 _ _ x1 x2 x3 x4 x5 x6 x7 x8 x9 s0 hP hS (by omega) (by omega) (by omega) (by omega) _ (lv_sub hl [1, 2, 3, 4, 5, 6, 7, 8, 9, 10, 0] rfl)
                  · skip
                    refine z_ic hx hb dX8_climb_187 (by decide) (fun v187 h187 => ?_)
                    refine lv_goto (tgt := 192) hx hb dX8_climb_188 (by decide) ?_
                    exact J192 _ _ x1 x2 x3 x4 x5 x6 x7 x8 x9 s0 v187 hP hS (by omega) (by omega) (by omega) (by omega) (by omega) _ (lv_sub hl [1, 2, 3, 4, 5, 6, 7, 8, 9, 10, 0] rfl)
      have J105 : ∀ (H : Heap) (locs : List Loc) (x1 : Int32) (x2 : Int32) (x3 : Int32) (x4 : Int32) (x5 : Int32) (x6 : Int32) (x7 : Int32) (x8 : Int32) (x9 : Int32), va_P D vwCl (zw 34 ad ce) H → va_S (zA 34 ad) s.heap H locs → (0 ≤ x8.toInt ∧ x8.toInt ≤ 5) → (0 ≤ x9.toInt ∧ x9.toInt ≤ 35) → (7 - x8.toInt ≤ (N6 : Int) + 1) → ∀ ls : Array Slot, lv_has ls 12 [(0, .ref (ad 0)), (1, .int x1), (2, .int x2), (3, .int x3), (4, .int x4), (5, .int x5), (6, .int x6), (7, .int x7), (8, .int x8), (9, .int x9)] → W p l e { frames := 0, cells := 0, slots := 0, locals := 0 } s m ([.ref (ad 0), .int p1, .int p2, .int p3, .int p4, .int p5, .int p6] : List Value).toArray below meth c H locs 0 0 (MQ below (zQi D 34 ad (fun r ce => (mOK cy ad cnt nd wn S By Ah ce ∧ PP ce) ∧ (True))) ([.ref (ad 0), .int p1, .int p2, .int p3, .int p4, .int p5, .int p6] : List Value).toArray s 0 0 (zA 34 ad)) (F0 m 105 ls []) := by
        intro H locs x1 x2 x3 x4 x5 x6 x7 x8 x9 hP hS q_x8 q_x9 qm6 ls hl
        refine z_ic hx hb dX8_climb_105 (by decide) (fun v105 h105 => ?_)
        exact J106 _ _ x1 x2 x3 x4 x5 x6 x7 x8 x9 v105 hP hS (by omega) (by omega) (by omega) (by omega) _ (lv_sub hl [0, 1, 2, 3, 4, 5, 6, 7, 8, 9] rfl)
      intro H locs x1 x2 x3 x4 x5 x6 x7 x8 hP hS q_x8 hm ls hl
      refine lv_iload hx hb dX8_climb_6 (lv_at hl 8 rfl) ?_
      refine lv_aload_n hx hb dX8_climb_8 rfl (lv_at hl 0 rfl) ?_
      obtain ⟨v9, v9a, v9b, v9c, v9d, v9e, v9f, v9g, v9h, v9i, v9j, v9k, v9l, v9m, v9n, v9o, e9, h9, h9a, h9b, h9c, h9d, h9e, h9f, h9g, h9h, h9i, h9j, h9k, h9l, h9m, h9n, h9o, h9p, h9q, h9r, h9s, h9t, h9u⟩ := mg_Mo hO
      refine va_get (ci := 8) (C := RX8) (T := TX8) (N := 49) (v := .int v9c) hx hb hts inX8 hown hK hP 0 (zw_at (by decide) e9) rfl 10 (by decide) fl146 (fun _ h => h) rfl dX8_climb_9 ?_
      refine z_icmp_ge (tgt := 243) hx hb dX8_climb_12 (by decide) (fun c12 => ?_) (fun c12 => ?_)
      · skip
        refine lv_iload hx hb dX8_climb_243 (lv_at hl 7 rfl) ?_
        exact z_reti hx hb hr hlocks hP hS dX8_climb_245 ⟨⟨hO, hPP⟩, trivial⟩
      · skip
        refine z_bi hx hb dX8_climb_15 (by decide) (fun v15 h15 => ?_)
        refine lv_iload hx hb dX8_climb_17 (lv_at hl 8 rfl) ?_
        refine z_mulJ hx hb 7 dX8_climb_19 (by omega) (by omega) (fun v19 h19 => ?_)
        refine lv_istore (lv' := [(9, .int v19), (0, .ref (ad 0)), (1, .int x1), (2, .int x2), (3, .int x3), (4, .int x4), (5, .int x5), (6, .int x6), (7, .int x7), (8, .int x8)]) hx hb dX8_climb_20 hl (by decide) rfl (fun ls hl => ?_)
        refine lv_aload_n hx hb dX8_climb_22 rfl (lv_at hl 1 rfl) ?_
        refine va_get (ci := 8) (C := RX8) (T := TX8) (N := 49) (v := .ref (ad 8)) hx hb hts inX8 hown hK hP 0 (zw_at (by decide) e9) rfl 11 (by decide) fl32 (fun _ h => h) rfl dX8_climb_23 ?_
        refine lv_iload hx hb dX8_climb_26 (lv_at hl 0 rfl) ?_
        obtain ⟨f28, e28⟩ := mg_Ld hO
        refine z_iald hx hb hK hP (q0 := 8) 0 (by decide) e28 rfl (by omega) dX8_climb_28 (fun v28 h28a => ?_)
        refine lv_iload_n hx hb dX8_climb_29 rfl (lv_at hl 2 rfl) ?_
        refine z_icmp_ne (tgt := 105) hx hb dX8_climb_30 (by decide) (fun c30 => ?_) (fun c30 => ?_)
        · skip
          exact J105 _ _ x1 x2 x3 x4 x5 x6 x7 x8 v19 hP hS (by omega) (by omega) (by omega) _ (lv_sub hl [1, 2, 3, 4, 5, 6, 7, 8, 9, 0] rfl)
        · skip
          refine lv_aload_n hx hb dX8_climb_33 rfl (lv_at hl 1 rfl) ?_
          refine va_get (ci := 8) (C := RX8) (T := TX8) (N := 49) (v := .ref (ad 8)) hx hb hts inX8 hown hK hP 0 (zw_at (by decide) e9) rfl 11 (by decide) fl32 (fun _ h => h) rfl dX8_climb_34 ?_
          refine lv_iload hx hb dX8_climb_37 (lv_at hl 0 rfl) ?_
          refine z_ic hx hb dX8_climb_39 (by decide) (fun v39 h39 => ?_)
          refine z_addE hx hb dX8_climb_40 (by omega) (fun v40 h40 => ?_)
          refine z_iald hx hb hK hP (q0 := 8) 0 (by decide) e28 rfl (by omega) dX8_climb_41 (fun v41 h41 => ?_)
          refine lv_iload_n hx hb dX8_climb_42 rfl (lv_at hl 3 rfl) ?_
          refine z_icmp_ne (tgt := 105) hx hb dX8_climb_43 (by decide) (fun c43 => ?_) (fun c43 => ?_)
          · skip
            exact J105 _ _ x1 x2 x3 x4 x5 x6 x7 x8 v19 hP hS (by omega) (by omega) (by omega) _ (lv_sub hl [1, 2, 3, 4, 5, 6, 7, 8, 9, 0] rfl)
          · skip
            refine lv_aload_n hx hb dX8_climb_46 rfl (lv_at hl 1 rfl) ?_
            refine va_get (ci := 8) (C := RX8) (T := TX8) (N := 49) (v := .ref (ad 8)) hx hb hts inX8 hown hK hP 0 (zw_at (by decide) e9) rfl 11 (by decide) fl32 (fun _ h => h) rfl dX8_climb_47 ?_
            refine lv_iload hx hb dX8_climb_50 (lv_at hl 0 rfl) ?_
            refine z_ic hx hb dX8_climb_52 (by decide) (fun v52 h52 => ?_)
            refine z_addE hx hb dX8_climb_53 (by omega) (fun v53 h53 => ?_)
            refine z_iald hx hb hK hP (q0 := 8) 0 (by decide) e28 rfl (by omega) dX8_climb_54 (fun v54 h54 => ?_)
            refine lv_iload_n hx hb dX8_climb_55 rfl (lv_at hl 4 rfl) ?_
            refine z_icmp_ne (tgt := 105) hx hb dX8_climb_56 (by decide) (fun c56 => ?_) (fun c56 => ?_)
            · skip
              exact J105 _ _ x1 x2 x3 x4 x5 x6 x7 x8 v19 hP hS (by omega) (by omega) (by omega) _ (lv_sub hl [1, 2, 3, 4, 5, 6, 7, 8, 9, 0] rfl)
            · skip
              refine lv_aload_n hx hb dX8_climb_59 rfl (lv_at hl 1 rfl) ?_
              refine va_get (ci := 8) (C := RX8) (T := TX8) (N := 49) (v := .ref (ad 8)) hx hb hts inX8 hown hK hP 0 (zw_at (by decide) e9) rfl 11 (by decide) fl32 (fun _ h => h) rfl dX8_climb_60 ?_
              refine lv_iload hx hb dX8_climb_63 (lv_at hl 0 rfl) ?_
              refine z_ic hx hb dX8_climb_65 (by decide) (fun v65 h65 => ?_)
              refine z_addE hx hb dX8_climb_66 (by omega) (fun v66 h66 => ?_)
              refine z_iald hx hb hK hP (q0 := 8) 0 (by decide) e28 rfl (by omega) dX8_climb_67 (fun v67 h67 => ?_)
              refine lv_iload hx hb dX8_climb_68 (lv_at hl 5 rfl) ?_
              refine z_icmp_ne (tgt := 105) hx hb dX8_climb_70 (by decide) (fun c70 => ?_) (fun c70 => ?_)
              · skip
                exact J105 _ _ x1 x2 x3 x4 x5 x6 x7 x8 v19 hP hS (by omega) (by omega) (by omega) _ (lv_sub hl [1, 2, 3, 4, 5, 6, 7, 8, 9, 0] rfl)
              · skip
                refine lv_aload_n hx hb dX8_climb_73 rfl (lv_at hl 1 rfl) ?_
                refine va_get (ci := 8) (C := RX8) (T := TX8) (N := 49) (v := .ref (ad 8)) hx hb hts inX8 hown hK hP 0 (zw_at (by decide) e9) rfl 11 (by decide) fl32 (fun _ h => h) rfl dX8_climb_74 ?_
                refine lv_iload hx hb dX8_climb_77 (lv_at hl 0 rfl) ?_
                refine z_ic hx hb dX8_climb_79 (by decide) (fun v79 h79 => ?_)
                refine z_addE hx hb dX8_climb_80 (by omega) (fun v80 h80 => ?_)
                refine z_iald hx hb hK hP (q0 := 8) 0 (by decide) e28 rfl (by omega) dX8_climb_81 (fun v81 h81 => ?_)
                refine lv_iload hx hb dX8_climb_82 (lv_at hl 6 rfl) ?_
                refine z_icmp_ne (tgt := 105) hx hb dX8_climb_84 (by decide) (fun c84 => ?_) (fun c84 => ?_)
                · skip
                  exact J105 _ _ x1 x2 x3 x4 x5 x6 x7 x8 v19 hP hS (by omega) (by omega) (by omega) _ (lv_sub hl [1, 2, 3, 4, 5, 6, 7, 8, 9, 0] rfl)
                · skip
                  refine lv_aload_n hx hb dX8_climb_87 rfl (lv_at hl 1 rfl) ?_
                  refine va_get (ci := 8) (C := RX8) (T := TX8) (N := 49) (v := .ref (ad 8)) hx hb hts inX8 hown hK hP 0 (zw_at (by decide) e9) rfl 11 (by decide) fl32 (fun _ h => h) rfl dX8_climb_88 ?_
                  refine lv_iload hx hb dX8_climb_91 (lv_at hl 0 rfl) ?_
                  refine z_ic hx hb dX8_climb_93 (by decide) (fun v93 h93 => ?_)
                  refine z_addE hx hb dX8_climb_94 (by omega) (fun v94 h94 => ?_)
                  refine z_iald hx hb hK hP (q0 := 8) 0 (by decide) e28 rfl (by omega) dX8_climb_95 (fun v95 h95 => ?_)
                  refine lv_iload hx hb dX8_climb_96 (lv_at hl 7 rfl) ?_
                  refine z_icmp_ne (tgt := 105) hx hb dX8_climb_98 (by decide) (fun c98 => ?_) (fun c98 => ?_)
                  · skip
                    exact J105 _ _ x1 x2 x3 x4 x5 x6 x7 x8 v19 hP hS (by omega) (by omega) (by omega) _ (lv_sub hl [1, 2, 3, 4, 5, 6, 7, 8, 9, 0] rfl)
                  · skip
                    refine z_ic hx hb dX8_climb_101 (by decide) (fun v101 h101 => ?_)
                    refine lv_goto (tgt := 106) hx hb dX8_climb_102 (by decide) ?_
                    exact J106 _ _ x1 x2 x3 x4 x5 x6 x7 x8 v19 v101 hP hS (by omega) (by omega) (by omega) (by omega) _ (lv_sub hl [1, 2, 3, 4, 5, 6, 7, 8, 9, 0] rfl)
  intro ls hl
  have hl : lv_has ls 12 [(0, .ref (ad 0)), (1, .int p1), (2, .int p2), (3, .int p3), (4, .int p4), (5, .int p5), (6, .int p6)] := hl
  refine z_ic hx hb dX8_climb_0 (by decide) (fun v0 h0 => ?_)
  refine lv_istore (lv' := [(7, .int v0), (0, .ref (ad 0)), (1, .int p1), (2, .int p2), (3, .int p3), (4, .int p4), (5, .int p5), (6, .int p6)]) hx hb dX8_climb_1 hl (by decide) rfl (fun ls hl => ?_)
  refine z_ic hx hb dX8_climb_3 (by decide) (fun v3 h3 => ?_)
  refine lv_istore (lv' := [(8, .int v3), (7, .int v0), (0, .ref (ad 0)), (1, .int p1), (2, .int p2), (3, .int p3), (4, .int p4), (5, .int p5), (6, .int p6)]) hx hb dX8_climb_4 hl (by decide) rfl (fun ls hl => ?_)
  exact L6 8 _ _ p1 p2 p3 p4 p5 p6 v0 v3 hP hS (by omega) (by omega) _ (lv_sub hl [2, 3, 4, 5, 6, 7, 8, 1, 0] rfl)
set_option maxHeartbeats 8000000 in
set_option maxRecDepth 100000 in
theorem c_X8_node (l : Launch) (D : va_G) (cy : Nat → ClassId) (ad : Nat → Nat) (cnt : Nat → Nat) (nd : Nat) (wn : Nat) (S : Nat → Int32) (By : Nat → Int32) (Ah : Nat → Int32) (hJ : zJ 34 ad) (hn : nd ≤ 93) (p1 : Int32) (p2 : Int32) (p3 : Int32) : zM l D (mT cy) 34 ad (mOK cy ad cnt nd wn S By Ah) yX8_node vsX8_node { frames := 3, cells := 0, slots := 0, locals := 71 } ([.ref (ad 0), .int p1, .int p2, .int p3] : List Value) (zQv D 34 ad (fun ce => ∃ nd2 : Nat, (nd2 : Int) = (nd : Int) + 1 ∧ mOK cy ad cnt nd2 wn S By Ah ce)) := by
  refine z_of (cc := cX8_node) (maxL := 4) (ret := none) (by decide) rfl (Nat.le_of_ble_eq_true rfl) ?_
  intro p e s m below meth c hx hb hr hts hown hlocks hml hK hN ce hOK hP
  have hown : s.vm.findClass RX8 = some m.cls := hown
  have hS : va_S (zA 34 ad) s.heap s.heap [] := va_S.rf
  have hO := hOK
  have inX8 : ∀ w ∈ u_ws RX8 TX8 49, w ∈ vsX8_node := fun w h => List.mem_cons_of_mem _ (inlX8 w h)
  have fl41 := hts (.fieldLink RX8 41 "GroundKeeperModel" "isNode" "[Z") (List.mem_cons_of_mem _ mw_379)
  have fl44 := hts (.fieldLink RX8 44 "GroundKeeperModel" "nl" "[I") (List.mem_cons_of_mem _ mw_380)
  have fl47 := hts (.fieldLink RX8 47 "GroundKeeperModel" "nx" "[I") (List.mem_cons_of_mem _ mw_381)
  have fl50 := hts (.fieldLink RX8 50 "GroundKeeperModel" "ny" "[I") (List.mem_cons_of_mem _ mw_382)
  have fl214 := hts (.fieldLink RX8 214 "GroundKeeperModel" "nodes" "I") (List.mem_cons_of_mem _ mw_383)
  intro ls hl
  have hl : lv_has ls 4 [(0, .ref (ad 0)), (1, .int p1), (2, .int p2), (3, .int p3)] := hl
  refine lv_aload_n hx hb dX8_node_0 rfl (lv_at hl 0 rfl) ?_
  obtain ⟨v1, v1a, v1b, v1c, v1d, v1e, v1f, v1g, v1h, v1i, v1j, v1k, v1l, v1m, v1n, v1o, e1, h1, h1a, h1b, h1c, h1d, h1e, h1f, h1g, h1h, h1i, h1j, h1k, h1l, h1m, h1n, h1o, h1p, h1q, h1r, h1s, h1t, h1u⟩ := mg_Mo hO
  refine va_get (ci := 8) (C := RX8) (T := TX8) (N := 49) (v := .ref (ad 12)) hx hb hts inX8 hown hK hP 0 (zw_at (by decide) e1) rfl 23 (by decide) fl44 (fun _ h => h) rfl dX8_node_1 ?_
  refine lv_aload_n hx hb dX8_node_4 rfl (lv_at hl 0 rfl) ?_
  refine va_get (ci := 8) (C := RX8) (T := TX8) (N := 49) (v := .int v1k) hx hb hts inX8 hown hK hP 0 (zw_at (by decide) e1) rfl 21 (by decide) fl214 (fun _ h => h) rfl dX8_node_5 ?_
  refine lv_iload_n hx hb dX8_node_8 rfl (lv_at hl 1 rfl) ?_
  obtain ⟨f9, e9⟩ := mg_Nl hO
  refine z_iast hx hb hK hJ hP hS (q0 := 12) 0 (by decide) e9 rfl (z_in (by omega) (by omega)) dX8_node_9 (fun ce H locs e9a h9a hP hS => ?_)
  have hO := z_up (OKK := mK cy ad cnt nd wn S By Ah) 12 hO h9a (by rw [e9a]; exact mE_Nl |>.mpr ⟨_, rfl⟩)
  have e9b := (h9a 0 (by omega)).trans e1
  refine lv_aload_n hx hb dX8_node_10 rfl (lv_at hl 0 rfl) ?_
  refine va_get (ci := 8) (C := RX8) (T := TX8) (N := 49) (v := .ref (ad 13)) hx hb hts inX8 hown hK hP 0 (zw_at (by decide) e9b) rfl 24 (by decide) fl47 (fun _ h => h) rfl dX8_node_11 ?_
  refine lv_aload_n hx hb dX8_node_14 rfl (lv_at hl 0 rfl) ?_
  refine va_get (ci := 8) (C := RX8) (T := TX8) (N := 49) (v := .int v1k) hx hb hts inX8 hown hK hP 0 (zw_at (by decide) e9b) rfl 21 (by decide) fl214 (fun _ h => h) rfl dX8_node_15 ?_
  refine lv_iload_n hx hb dX8_node_18 rfl (lv_at hl 2 rfl) ?_
  obtain ⟨f19, e19⟩ := mg_Nx hO
  refine z_iast hx hb hK hJ hP hS (q0 := 13) 0 (by decide) e19 rfl (z_in (by omega) (by omega)) dX8_node_19 (fun ce H locs e19a h19a hP hS => ?_)
  have hO := z_up (OKK := mK cy ad cnt nd wn S By Ah) 13 hO h19a (by rw [e19a]; exact mE_Nx |>.mpr ⟨_, rfl⟩)
  have e19b := (h19a 0 (by omega)).trans e9b
  refine lv_aload_n hx hb dX8_node_20 rfl (lv_at hl 0 rfl) ?_
  refine va_get (ci := 8) (C := RX8) (T := TX8) (N := 49) (v := .ref (ad 14)) hx hb hts inX8 hown hK hP 0 (zw_at (by decide) e19b) rfl 25 (by decide) fl50 (fun _ h => h) rfl dX8_node_21 ?_
  refine lv_aload_n hx hb dX8_node_24 rfl (lv_at hl 0 rfl) ?_
  refine va_get (ci := 8) (C := RX8) (T := TX8) (N := 49) (v := .int v1k) hx hb hts inX8 hown hK hP 0 (zw_at (by decide) e19b) rfl 21 (by decide) fl214 (fun _ h => h) rfl dX8_node_25 ?_
  refine lv_iload_n hx hb dX8_node_28 rfl (lv_at hl 3 rfl) ?_
  obtain ⟨f29, e29⟩ := mg_Ny hO
  refine z_iast hx hb hK hJ hP hS (q0 := 14) 0 (by decide) e29 rfl (z_in (by omega) (by omega)) dX8_node_29 (fun ce H locs e29a h29a hP hS => ?_)
  have hO := z_up (OKK := mK cy ad cnt nd wn S By Ah) 14 hO h29a (by rw [e29a]; exact mE_Ny |>.mpr ⟨_, rfl⟩)
  have e29b := (h29a 0 (by omega)).trans e19b
  refine lv_aload_n hx hb dX8_node_30 rfl (lv_at hl 0 rfl) ?_
  refine va_get (ci := 8) (C := RX8) (T := TX8) (N := 49) (v := .ref (ad 11)) hx hb hts inX8 hown hK hP 0 (zw_at (by decide) e29b) rfl 22 (by decide) fl41 (fun _ h => h) rfl dX8_node_31 ?_
  refine lv_aload_n hx hb dX8_node_34 rfl (lv_at hl 0 rfl) ?_
  refine va_get (ci := 8) (C := RX8) (T := TX8) (N := 49) (v := .int v1k) hx hb hts inX8 hown hK hP 0 (zw_at (by decide) e29b) rfl 21 (by decide) fl214 (fun _ h => h) rfl dX8_node_35 ?_
  refine lv_aload_n hx hb dX8_node_38 rfl (lv_at hl 0 rfl) ?_
  refine lv_iload_n hx hb dX8_node_39 rfl (lv_at hl 1 rfl) ?_
  refine lv_iload_n hx hb dX8_node_40 rfl (lv_at hl 2 rfl) ?_
  refine lv_iload_n hx hb dX8_node_41 rfl (lv_at hl 3 rfl) ?_
  refine z_ciP (z_rV (q0 := 0) (As := [.int p1, .int p2, .int p3]) (rest := [.int v1k, .ref (ad 11)]) ⟨hx, hb, hml, hown, hts⟩ (c_X8_isGround l D cy ad cnt nd wn S By Ah (fun c1 => c1 = ce) hJ p1 p2 p3) (cwV 3 hts (g_V mw_390 mw_391 mw_392 mw_324 mw_393) rfl rfl rfl (by decide +kernel) ⟨Nat.le_of_ble_eq_true rfl, Nat.le_of_ble_eq_true rfl⟩) hK hN ⟨hO, rfl⟩ hP (by decide) e29b rfl rfl hl.1 rfl (Nat.le_of_ble_eq_true rfl) dX8_node_42 ⟨Nat.zero_le _, Nat.zero_le _⟩) hS (fun _ h => h.2) (fun v42 H locs h42 hP hS => ?_)
  obtain ⟨f45, e45⟩ := mg_In hO
  refine z_zast hx hb hK hJ hP hS (q0 := 11) 1 (by decide) e45 rfl (z_in (by omega) (by omega)) dX8_node_45 (fun ce H locs e45a h45a hP hS => ?_)
  have hO := z_up (OKK := mK cy ad cnt nd wn S By Ah) 11 hO h45a (by rw [e45a]; exact mE_In |>.mpr ⟨_, rfl⟩)
  have e45b := (h45a 0 (by omega)).trans e29b
  refine lv_aload_n hx hb dX8_node_46 rfl (lv_at hl 0 rfl) ?_
  refine lv_dup hx hb dX8_node_47 rfl ?_
  refine va_get (ci := 8) (C := RX8) (T := TX8) (N := 49) (v := .int v1k) hx hb hts inX8 hown hK hP 0 (zw_at (by decide) e45b) rfl 21 (by decide) fl214 (fun _ h => h) rfl dX8_node_48 ?_
  refine z_ic hx hb dX8_node_51 (by decide) (fun v51 h51 => ?_)
  refine z_addE hx hb dX8_node_52 (by omega) (fun v52 h52 => ?_)
  refine z_put (q0 := 0) (ci := 8) (C := RX8) (T := TX8) (N := 49) hx hb hts inX8 tyX8 tyX8_ok nmX8 hown hK hJ hP hS (by decide) e45b rfl 21 (by decide) fl214 (fun _ h => h) rfl (ty := .int) (by decide +kernel) rfl rfl (Nat.le_of_ble_eq_true rfl) (fs1 := [.int v1, .ref (ad 1), .ref (ad 2), .ref (ad 3), .int v1a, .ref (ad 4), .ref (ad 5), .int v1b, .ref (ad 6), .ref (ad 7), .int v1c, .ref (ad 8), .int v1d, .int v1e, .int v1f, .int v1g, .int v1h, .int v1i, .int v1j, .ref (ad 9), .ref (ad 10), .int v52, .ref (ad 11), .ref (ad 12), .ref (ad 13), .ref (ad 14), .ref (ad 15), .ref (ad 16), .ref (ad 17), .int v1l, .ref (ad 18), .int v1m, .ref (ad 19), .ref (ad 20), .ref (ad 21), .int v1n, .ref (ad 22), .ref (ad 23), .ref (ad 24), .ref (ad 25), .ref (ad 26), .ref (ad 27), .ref (ad 28), .ref (ad 29), .ref (ad 30), .ref (ad 31), .ref (ad 32), .ref (ad 33), .int v1o]) rfl dX8_node_53 (fun ce H locs e53 h53 hP hS => ?_)
  obtain ⟨nd53, nd53h⟩ : ∃ z : Nat, (z : Int) = v52.toInt := ⟨v52.toInt.toNat, by omega⟩
  have hO := z_up2 (OKK := mK cy ad cnt nd wn S By Ah) (OKL := mK cy ad cnt nd53 wn S By Ah) 0 hO h53 (fun q e _ h => mK_nd (by assumption) h) (by rw [e53]; exact mE_Mo |>.mpr ⟨v1, v1a, v1b, v1c, v1d, v1e, v1f, v1g, v1h, v1i, v1j, v52, v1l, v1m, v1n, v1o, rfl, by omega, by omega, by omega, by omega, by omega, by omega, by omega, by omega, by omega, by omega, by omega, by omega, by omega, by omega, by omega, by omega, by omega, by omega, h1r, h1s, h1t, h1u⟩)
  exact z_retv hx hb hr hlocks hP hS dX8_node_56 ⟨_, by omega, hO⟩
set_option maxHeartbeats 8000000 in
set_option maxRecDepth 100000 in
theorem c_X8_corners_Rm (l : Launch) (D : va_G) (cy : Nat → ClassId) (ad : Nat → Nat) (cnt : Nat → Nat) (nd : Nat) (wn : Nat) (S : Nat → Int32) (By : Nat → Int32) (Ah : Nat → Int32) (hJ : zJ 34 ad) (hn : nd ≤ 90) (p2 : Int32) (q_p2 : 0 ≤ p2.toInt ∧ p2.toInt ≤ 11) : zM l D (mT cy) 34 ad (mOK cy ad cnt nd wn S By Ah) yX8_corners vsX8_corners { frames := 4, cells := 0, slots := 0, locals := 94 } ([.ref (ad 0), .ref (ad 1), .int p2] : List Value) (zQv D 34 ad (fun ce => ∃ nd2 : Nat, (nd2 : Int) = (nd : Int) + 4 ∧ mOK cy ad cnt nd2 wn S By Ah ce)) := by
  refine z_of (cc := cX8_corners) (maxL := 4) (ret := none) (by decide) rfl (Nat.le_of_ble_eq_true rfl) ?_
  intro p e s m below meth c hx hb hr hts hown hlocks hml hK hN ce hOK hP
  have hown : s.vm.findClass RX8 = some m.cls := hown
  have hS : va_S (zA 34 ad) s.heap s.heap [] := va_S.rf
  have hO := hOK
  intro ls hl
  have hl : lv_has ls 4 [(0, .ref (ad 0)), (1, .ref (ad 1)), (2, .int p2)] := hl
  refine z_ic hx hb dX8_corners_0 (by decide) (fun v0 h0 => ?_)
  refine lv_iload_n hx hb dX8_corners_1 rfl (lv_at hl 2 rfl) ?_
  refine z_mulJ hx hb 5 dX8_corners_2 (by omega) (by omega) (fun v2 h2 => ?_)
  refine lv_istore_n (lv' := [(3, .int v2), (0, .ref (ad 0)), (1, .ref (ad 1)), (2, .int p2)]) hx hb dX8_corners_3 rfl hl (by decide) rfl (fun ls hl => ?_)
  refine lv_aload_n hx hb dX8_corners_4 rfl (lv_at hl 1 rfl) ?_
  refine lv_aload_n hx hb dX8_corners_5 rfl (lv_at hl 2 rfl) ?_
  refine lv_iload_n hx hb dX8_corners_6 rfl (lv_at hl 0 rfl) ?_
  obtain ⟨f7, e7⟩ := mg_Rm hO
  refine z_iald hx hb hK hP (q0 := 1) 0 (by decide) e7 rfl (by omega) dX8_corners_7 (fun v7 h7a => ?_)
  refine lv_aload_n hx hb dX8_corners_8 rfl (lv_at hl 2 rfl) ?_
  refine lv_iload_n hx hb dX8_corners_9 rfl (lv_at hl 0 rfl) ?_
  refine z_ic hx hb dX8_corners_10 (by decide) (fun v10 h10 => ?_)
  refine z_addE hx hb dX8_corners_11 (by omega) (fun v11 h11 => ?_)
  refine z_iald hx hb hK hP (q0 := 1) 0 (by decide) e7 rfl (by omega) dX8_corners_12 (fun v12 h12 => ?_)
  refine lv_aload_n hx hb dX8_corners_13 rfl (lv_at hl 2 rfl) ?_
  refine lv_iload_n hx hb dX8_corners_14 rfl (lv_at hl 0 rfl) ?_
  refine z_ic hx hb dX8_corners_15 (by decide) (fun v15 h15 => ?_)
  refine z_addE hx hb dX8_corners_16 (by omega) (fun v16 h16 => ?_)
  refine z_iald hx hb hK hP (q0 := 1) 0 (by decide) e7 rfl (by omega) dX8_corners_17 (fun v17 h17 => ?_)
  obtain ⟨v18, v18a, v18b, v18c, v18d, v18e, v18f, v18g, v18h, v18i, v18j, v18k, v18l, v18m, v18n, v18o, e18, h18, h18a, h18b, h18c, h18d, h18e, h18f, h18g, h18h, h18i, h18j, h18k, h18l, h18m, h18n, h18o, h18p, h18q, h18r, h18s, h18t, h18u⟩ := mg_Mo hO
  refine z_cv (z_rV (q0 := 0) (As := [.int v7, .int v12, .int v17]) (rest := []) ⟨hx, hb, hml, hown, hts⟩ (c_X8_node l D cy ad cnt nd wn S By Ah hJ (by omega) v7 v12 v17) (cwV 3 hts (g_V mw_394 mw_395 mw_396 mw_324 mw_397) rfl rfl rfl (by decide +kernel) ⟨Nat.le_of_ble_eq_true rfl, Nat.le_of_ble_eq_true rfl⟩) hK hN hO hP (by decide) e18 rfl rfl hl.1 rfl (Nat.le_of_ble_eq_true rfl) dX8_corners_18 ⟨Nat.zero_le _, Nat.zero_le _⟩) hS (fun ce H locs h18v hP hS => ?_)
  obtain ⟨nd18, nd18h, hO⟩ := h18v
  refine lv_aload_n hx hb dX8_corners_21 rfl (lv_at hl 1 rfl) ?_
  refine lv_aload_n hx hb dX8_corners_22 rfl (lv_at hl 2 rfl) ?_
  refine lv_iload_n hx hb dX8_corners_23 rfl (lv_at hl 0 rfl) ?_
  obtain ⟨f24, e24⟩ := mg_Rm hO
  refine z_iald hx hb hK hP (q0 := 1) 0 (by decide) e24 rfl (by omega) dX8_corners_24 (fun v24 h24a => ?_)
  refine lv_aload_n hx hb dX8_corners_25 rfl (lv_at hl 2 rfl) ?_
  refine lv_iload_n hx hb dX8_corners_26 rfl (lv_at hl 0 rfl) ?_
  refine z_ic hx hb dX8_corners_27 (by decide) (fun v27 h27 => ?_)
  refine z_addE hx hb dX8_corners_28 (by omega) (fun v28 h28 => ?_)
  refine z_iald hx hb hK hP (q0 := 1) 0 (by decide) e24 rfl (by omega) dX8_corners_29 (fun v29 h29 => ?_)
  refine lv_aload_n hx hb dX8_corners_30 rfl (lv_at hl 2 rfl) ?_
  refine lv_iload_n hx hb dX8_corners_31 rfl (lv_at hl 0 rfl) ?_
  refine z_ic hx hb dX8_corners_32 (by decide) (fun v32 h32 => ?_)
  refine z_addE hx hb dX8_corners_33 (by omega) (fun v33 h33 => ?_)
  refine z_iald hx hb hK hP (q0 := 1) 0 (by decide) e24 rfl (by omega) dX8_corners_34 (fun v34 h34 => ?_)
  obtain ⟨v35, v35a, v35b, v35c, v35d, v35e, v35f, v35g, v35h, v35i, v35j, v35k, v35l, v35m, v35n, v35o, e35, h35, h35a, h35b, h35c, h35d, h35e, h35f, h35g, h35h, h35i, h35j, h35k, h35l, h35m, h35n, h35o, h35p, h35q, h35r, h35s, h35t, h35u⟩ := mg_Mo hO
  refine z_cv (z_rV (q0 := 0) (As := [.int v24, .int v29, .int v34]) (rest := []) ⟨hx, hb, hml, hown, hts⟩ (c_X8_node l D cy ad cnt nd18 wn S By Ah hJ (by omega) v24 v29 v34) (cwV 3 hts (g_V mw_394 mw_395 mw_396 mw_324 mw_397) rfl rfl rfl (by decide +kernel) ⟨Nat.le_of_ble_eq_true rfl, Nat.le_of_ble_eq_true rfl⟩) hK hN hO hP (by decide) e35 rfl rfl hl.1 rfl (Nat.le_of_ble_eq_true rfl) dX8_corners_35 ⟨Nat.zero_le _, Nat.zero_le _⟩) hS (fun ce H locs h35v hP hS => ?_)
  obtain ⟨nd35, nd35h, hO⟩ := h35v
  refine lv_aload_n hx hb dX8_corners_38 rfl (lv_at hl 1 rfl) ?_
  refine lv_aload_n hx hb dX8_corners_39 rfl (lv_at hl 2 rfl) ?_
  refine lv_iload_n hx hb dX8_corners_40 rfl (lv_at hl 0 rfl) ?_
  obtain ⟨f41, e41⟩ := mg_Rm hO
  refine z_iald hx hb hK hP (q0 := 1) 0 (by decide) e41 rfl (by omega) dX8_corners_41 (fun v41 h41a => ?_)
  refine lv_aload_n hx hb dX8_corners_42 rfl (lv_at hl 2 rfl) ?_
  refine lv_iload_n hx hb dX8_corners_43 rfl (lv_at hl 0 rfl) ?_
  refine z_ic hx hb dX8_corners_44 (by decide) (fun v44 h44 => ?_)
  refine z_addE hx hb dX8_corners_45 (by omega) (fun v45 h45 => ?_)
  refine z_iald hx hb hK hP (q0 := 1) 0 (by decide) e41 rfl (by omega) dX8_corners_46 (fun v46 h46 => ?_)
  refine lv_aload_n hx hb dX8_corners_47 rfl (lv_at hl 2 rfl) ?_
  refine lv_iload_n hx hb dX8_corners_48 rfl (lv_at hl 0 rfl) ?_
  refine z_ic hx hb dX8_corners_49 (by decide) (fun v49 h49 => ?_)
  refine z_addE hx hb dX8_corners_50 (by omega) (fun v50 h50 => ?_)
  refine z_iald hx hb hK hP (q0 := 1) 0 (by decide) e41 rfl (by omega) dX8_corners_51 (fun v51 h51 => ?_)
  obtain ⟨v52, v52a, v52b, v52c, v52d, v52e, v52f, v52g, v52h, v52i, v52j, v52k, v52l, v52m, v52n, v52o, e52, h52, h52a, h52b, h52c, h52d, h52e, h52f, h52g, h52h, h52i, h52j, h52k, h52l, h52m, h52n, h52o, h52p, h52q, h52r, h52s, h52t, h52u⟩ := mg_Mo hO
  refine z_cv (z_rV (q0 := 0) (As := [.int v41, .int v46, .int v51]) (rest := []) ⟨hx, hb, hml, hown, hts⟩ (c_X8_node l D cy ad cnt nd35 wn S By Ah hJ (by omega) v41 v46 v51) (cwV 3 hts (g_V mw_394 mw_395 mw_396 mw_324 mw_397) rfl rfl rfl (by decide +kernel) ⟨Nat.le_of_ble_eq_true rfl, Nat.le_of_ble_eq_true rfl⟩) hK hN hO hP (by decide) e52 rfl rfl hl.1 rfl (Nat.le_of_ble_eq_true rfl) dX8_corners_52 ⟨Nat.zero_le _, Nat.zero_le _⟩) hS (fun ce H locs h52v hP hS => ?_)
  obtain ⟨nd52, nd52h, hO⟩ := h52v
  refine lv_aload_n hx hb dX8_corners_55 rfl (lv_at hl 1 rfl) ?_
  refine lv_aload_n hx hb dX8_corners_56 rfl (lv_at hl 2 rfl) ?_
  refine lv_iload_n hx hb dX8_corners_57 rfl (lv_at hl 0 rfl) ?_
  obtain ⟨f58, e58⟩ := mg_Rm hO
  refine z_iald hx hb hK hP (q0 := 1) 0 (by decide) e58 rfl (by omega) dX8_corners_58 (fun v58 h58a => ?_)
  refine lv_aload_n hx hb dX8_corners_59 rfl (lv_at hl 2 rfl) ?_
  refine lv_iload_n hx hb dX8_corners_60 rfl (lv_at hl 0 rfl) ?_
  refine z_ic hx hb dX8_corners_61 (by decide) (fun v61 h61 => ?_)
  refine z_addE hx hb dX8_corners_62 (by omega) (fun v62 h62 => ?_)
  refine z_iald hx hb hK hP (q0 := 1) 0 (by decide) e58 rfl (by omega) dX8_corners_63 (fun v63 h63 => ?_)
  refine lv_aload_n hx hb dX8_corners_64 rfl (lv_at hl 2 rfl) ?_
  refine lv_iload_n hx hb dX8_corners_65 rfl (lv_at hl 0 rfl) ?_
  refine z_ic hx hb dX8_corners_66 (by decide) (fun v66 h66 => ?_)
  refine z_addE hx hb dX8_corners_67 (by omega) (fun v67 h67 => ?_)
  refine z_iald hx hb hK hP (q0 := 1) 0 (by decide) e58 rfl (by omega) dX8_corners_68 (fun v68 h68 => ?_)
  obtain ⟨v69, v69a, v69b, v69c, v69d, v69e, v69f, v69g, v69h, v69i, v69j, v69k, v69l, v69m, v69n, v69o, e69, h69, h69a, h69b, h69c, h69d, h69e, h69f, h69g, h69h, h69i, h69j, h69k, h69l, h69m, h69n, h69o, h69p, h69q, h69r, h69s, h69t, h69u⟩ := mg_Mo hO
  refine z_cv (z_rV (q0 := 0) (As := [.int v58, .int v63, .int v68]) (rest := []) ⟨hx, hb, hml, hown, hts⟩ (c_X8_node l D cy ad cnt nd52 wn S By Ah hJ (by omega) v58 v63 v68) (cwV 3 hts (g_V mw_394 mw_395 mw_396 mw_324 mw_397) rfl rfl rfl (by decide +kernel) ⟨Nat.le_of_ble_eq_true rfl, Nat.le_of_ble_eq_true rfl⟩) hK hN hO hP (by decide) e69 rfl rfl hl.1 rfl (Nat.le_of_ble_eq_true rfl) dX8_corners_69 ⟨Nat.zero_le _, Nat.zero_le _⟩) hS (fun ce H locs h69v hP hS => ?_)
  obtain ⟨nd69, nd69h, hO⟩ := h69v
  exact z_retv hx hb hr hlocks hP hS dX8_corners_72 ⟨_, by omega, hO⟩
set_option maxHeartbeats 8000000 in
set_option maxRecDepth 100000 in
theorem c_X8_corners_Bx (l : Launch) (D : va_G) (cy : Nat → ClassId) (ad : Nat → Nat) (cnt : Nat → Nat) (nd : Nat) (wn : Nat) (S : Nat → Int32) (By : Nat → Int32) (Ah : Nat → Int32) (hJ : zJ 34 ad) (hn : nd ≤ 90) (p2 : Int32) (q_p2 : 0 ≤ p2.toInt ∧ p2.toInt ≤ 7) : zM l D (mT cy) 34 ad (mOK cy ad cnt nd wn S By Ah) yX8_corners vsX8_corners { frames := 4, cells := 0, slots := 0, locals := 94 } ([.ref (ad 0), .ref (ad 3), .int p2] : List Value) (zQv D 34 ad (fun ce => ∃ nd2 : Nat, (nd2 : Int) = (nd : Int) + 4 ∧ mOK cy ad cnt nd2 wn S By Ah ce)) := by
  refine z_of (cc := cX8_corners) (maxL := 4) (ret := none) (by decide) rfl (Nat.le_of_ble_eq_true rfl) ?_
  intro p e s m below meth c hx hb hr hts hown hlocks hml hK hN ce hOK hP
  have hown : s.vm.findClass RX8 = some m.cls := hown
  have hS : va_S (zA 34 ad) s.heap s.heap [] := va_S.rf
  have hO := hOK
  intro ls hl
  have hl : lv_has ls 4 [(0, .ref (ad 0)), (1, .ref (ad 3)), (2, .int p2)] := hl
  refine z_ic hx hb dX8_corners_0 (by decide) (fun v0 h0 => ?_)
  refine lv_iload_n hx hb dX8_corners_1 rfl (lv_at hl 2 rfl) ?_
  refine z_mulJ hx hb 5 dX8_corners_2 (by omega) (by omega) (fun v2 h2 => ?_)
  refine lv_istore_n (lv' := [(3, .int v2), (0, .ref (ad 0)), (1, .ref (ad 3)), (2, .int p2)]) hx hb dX8_corners_3 rfl hl (by decide) rfl (fun ls hl => ?_)
  refine lv_aload_n hx hb dX8_corners_4 rfl (lv_at hl 1 rfl) ?_
  refine lv_aload_n hx hb dX8_corners_5 rfl (lv_at hl 2 rfl) ?_
  refine lv_iload_n hx hb dX8_corners_6 rfl (lv_at hl 0 rfl) ?_
  obtain ⟨f7, e7⟩ := mg_Bx hO
  refine z_iald hx hb hK hP (q0 := 3) 0 (by decide) e7 rfl (by omega) dX8_corners_7 (fun v7 h7a => ?_)
  refine lv_aload_n hx hb dX8_corners_8 rfl (lv_at hl 2 rfl) ?_
  refine lv_iload_n hx hb dX8_corners_9 rfl (lv_at hl 0 rfl) ?_
  refine z_ic hx hb dX8_corners_10 (by decide) (fun v10 h10 => ?_)
  refine z_addE hx hb dX8_corners_11 (by omega) (fun v11 h11 => ?_)
  refine z_iald hx hb hK hP (q0 := 3) 0 (by decide) e7 rfl (by omega) dX8_corners_12 (fun v12 h12 => ?_)
  refine lv_aload_n hx hb dX8_corners_13 rfl (lv_at hl 2 rfl) ?_
  refine lv_iload_n hx hb dX8_corners_14 rfl (lv_at hl 0 rfl) ?_
  refine z_ic hx hb dX8_corners_15 (by decide) (fun v15 h15 => ?_)
  refine z_addE hx hb dX8_corners_16 (by omega) (fun v16 h16 => ?_)
  refine z_iald hx hb hK hP (q0 := 3) 0 (by decide) e7 rfl (by omega) dX8_corners_17 (fun v17 h17 => ?_)
  obtain ⟨v18, v18a, v18b, v18c, v18d, v18e, v18f, v18g, v18h, v18i, v18j, v18k, v18l, v18m, v18n, v18o, e18, h18, h18a, h18b, h18c, h18d, h18e, h18f, h18g, h18h, h18i, h18j, h18k, h18l, h18m, h18n, h18o, h18p, h18q, h18r, h18s, h18t, h18u⟩ := mg_Mo hO
  refine z_cv (z_rV (q0 := 0) (As := [.int v7, .int v12, .int v17]) (rest := []) ⟨hx, hb, hml, hown, hts⟩ (c_X8_node l D cy ad cnt nd wn S By Ah hJ (by omega) v7 v12 v17) (cwV 3 hts (g_V mw_394 mw_395 mw_396 mw_324 mw_397) rfl rfl rfl (by decide +kernel) ⟨Nat.le_of_ble_eq_true rfl, Nat.le_of_ble_eq_true rfl⟩) hK hN hO hP (by decide) e18 rfl rfl hl.1 rfl (Nat.le_of_ble_eq_true rfl) dX8_corners_18 ⟨Nat.zero_le _, Nat.zero_le _⟩) hS (fun ce H locs h18v hP hS => ?_)
  obtain ⟨nd18, nd18h, hO⟩ := h18v
  refine lv_aload_n hx hb dX8_corners_21 rfl (lv_at hl 1 rfl) ?_
  refine lv_aload_n hx hb dX8_corners_22 rfl (lv_at hl 2 rfl) ?_
  refine lv_iload_n hx hb dX8_corners_23 rfl (lv_at hl 0 rfl) ?_
  obtain ⟨f24, e24⟩ := mg_Bx hO
  refine z_iald hx hb hK hP (q0 := 3) 0 (by decide) e24 rfl (by omega) dX8_corners_24 (fun v24 h24a => ?_)
  refine lv_aload_n hx hb dX8_corners_25 rfl (lv_at hl 2 rfl) ?_
  refine lv_iload_n hx hb dX8_corners_26 rfl (lv_at hl 0 rfl) ?_
  refine z_ic hx hb dX8_corners_27 (by decide) (fun v27 h27 => ?_)
  refine z_addE hx hb dX8_corners_28 (by omega) (fun v28 h28 => ?_)
  refine z_iald hx hb hK hP (q0 := 3) 0 (by decide) e24 rfl (by omega) dX8_corners_29 (fun v29 h29 => ?_)
  refine lv_aload_n hx hb dX8_corners_30 rfl (lv_at hl 2 rfl) ?_
  refine lv_iload_n hx hb dX8_corners_31 rfl (lv_at hl 0 rfl) ?_
  refine z_ic hx hb dX8_corners_32 (by decide) (fun v32 h32 => ?_)
  refine z_addE hx hb dX8_corners_33 (by omega) (fun v33 h33 => ?_)
  refine z_iald hx hb hK hP (q0 := 3) 0 (by decide) e24 rfl (by omega) dX8_corners_34 (fun v34 h34 => ?_)
  obtain ⟨v35, v35a, v35b, v35c, v35d, v35e, v35f, v35g, v35h, v35i, v35j, v35k, v35l, v35m, v35n, v35o, e35, h35, h35a, h35b, h35c, h35d, h35e, h35f, h35g, h35h, h35i, h35j, h35k, h35l, h35m, h35n, h35o, h35p, h35q, h35r, h35s, h35t, h35u⟩ := mg_Mo hO
  refine z_cv (z_rV (q0 := 0) (As := [.int v24, .int v29, .int v34]) (rest := []) ⟨hx, hb, hml, hown, hts⟩ (c_X8_node l D cy ad cnt nd18 wn S By Ah hJ (by omega) v24 v29 v34) (cwV 3 hts (g_V mw_394 mw_395 mw_396 mw_324 mw_397) rfl rfl rfl (by decide +kernel) ⟨Nat.le_of_ble_eq_true rfl, Nat.le_of_ble_eq_true rfl⟩) hK hN hO hP (by decide) e35 rfl rfl hl.1 rfl (Nat.le_of_ble_eq_true rfl) dX8_corners_35 ⟨Nat.zero_le _, Nat.zero_le _⟩) hS (fun ce H locs h35v hP hS => ?_)
  obtain ⟨nd35, nd35h, hO⟩ := h35v
  refine lv_aload_n hx hb dX8_corners_38 rfl (lv_at hl 1 rfl) ?_
  refine lv_aload_n hx hb dX8_corners_39 rfl (lv_at hl 2 rfl) ?_
  refine lv_iload_n hx hb dX8_corners_40 rfl (lv_at hl 0 rfl) ?_
  obtain ⟨f41, e41⟩ := mg_Bx hO
  refine z_iald hx hb hK hP (q0 := 3) 0 (by decide) e41 rfl (by omega) dX8_corners_41 (fun v41 h41a => ?_)
  refine lv_aload_n hx hb dX8_corners_42 rfl (lv_at hl 2 rfl) ?_
  refine lv_iload_n hx hb dX8_corners_43 rfl (lv_at hl 0 rfl) ?_
  refine z_ic hx hb dX8_corners_44 (by decide) (fun v44 h44 => ?_)
  refine z_addE hx hb dX8_corners_45 (by omega) (fun v45 h45 => ?_)
  refine z_iald hx hb hK hP (q0 := 3) 0 (by decide) e41 rfl (by omega) dX8_corners_46 (fun v46 h46 => ?_)
  refine lv_aload_n hx hb dX8_corners_47 rfl (lv_at hl 2 rfl) ?_
  refine lv_iload_n hx hb dX8_corners_48 rfl (lv_at hl 0 rfl) ?_
  refine z_ic hx hb dX8_corners_49 (by decide) (fun v49 h49 => ?_)
  refine z_addE hx hb dX8_corners_50 (by omega) (fun v50 h50 => ?_)
  refine z_iald hx hb hK hP (q0 := 3) 0 (by decide) e41 rfl (by omega) dX8_corners_51 (fun v51 h51 => ?_)
  obtain ⟨v52, v52a, v52b, v52c, v52d, v52e, v52f, v52g, v52h, v52i, v52j, v52k, v52l, v52m, v52n, v52o, e52, h52, h52a, h52b, h52c, h52d, h52e, h52f, h52g, h52h, h52i, h52j, h52k, h52l, h52m, h52n, h52o, h52p, h52q, h52r, h52s, h52t, h52u⟩ := mg_Mo hO
  refine z_cv (z_rV (q0 := 0) (As := [.int v41, .int v46, .int v51]) (rest := []) ⟨hx, hb, hml, hown, hts⟩ (c_X8_node l D cy ad cnt nd35 wn S By Ah hJ (by omega) v41 v46 v51) (cwV 3 hts (g_V mw_394 mw_395 mw_396 mw_324 mw_397) rfl rfl rfl (by decide +kernel) ⟨Nat.le_of_ble_eq_true rfl, Nat.le_of_ble_eq_true rfl⟩) hK hN hO hP (by decide) e52 rfl rfl hl.1 rfl (Nat.le_of_ble_eq_true rfl) dX8_corners_52 ⟨Nat.zero_le _, Nat.zero_le _⟩) hS (fun ce H locs h52v hP hS => ?_)
  obtain ⟨nd52, nd52h, hO⟩ := h52v
  refine lv_aload_n hx hb dX8_corners_55 rfl (lv_at hl 1 rfl) ?_
  refine lv_aload_n hx hb dX8_corners_56 rfl (lv_at hl 2 rfl) ?_
  refine lv_iload_n hx hb dX8_corners_57 rfl (lv_at hl 0 rfl) ?_
  obtain ⟨f58, e58⟩ := mg_Bx hO
  refine z_iald hx hb hK hP (q0 := 3) 0 (by decide) e58 rfl (by omega) dX8_corners_58 (fun v58 h58a => ?_)
  refine lv_aload_n hx hb dX8_corners_59 rfl (lv_at hl 2 rfl) ?_
  refine lv_iload_n hx hb dX8_corners_60 rfl (lv_at hl 0 rfl) ?_
  refine z_ic hx hb dX8_corners_61 (by decide) (fun v61 h61 => ?_)
  refine z_addE hx hb dX8_corners_62 (by omega) (fun v62 h62 => ?_)
  refine z_iald hx hb hK hP (q0 := 3) 0 (by decide) e58 rfl (by omega) dX8_corners_63 (fun v63 h63 => ?_)
  refine lv_aload_n hx hb dX8_corners_64 rfl (lv_at hl 2 rfl) ?_
  refine lv_iload_n hx hb dX8_corners_65 rfl (lv_at hl 0 rfl) ?_
  refine z_ic hx hb dX8_corners_66 (by decide) (fun v66 h66 => ?_)
  refine z_addE hx hb dX8_corners_67 (by omega) (fun v67 h67 => ?_)
  refine z_iald hx hb hK hP (q0 := 3) 0 (by decide) e58 rfl (by omega) dX8_corners_68 (fun v68 h68 => ?_)
  obtain ⟨v69, v69a, v69b, v69c, v69d, v69e, v69f, v69g, v69h, v69i, v69j, v69k, v69l, v69m, v69n, v69o, e69, h69, h69a, h69b, h69c, h69d, h69e, h69f, h69g, h69h, h69i, h69j, h69k, h69l, h69m, h69n, h69o, h69p, h69q, h69r, h69s, h69t, h69u⟩ := mg_Mo hO
  refine z_cv (z_rV (q0 := 0) (As := [.int v58, .int v63, .int v68]) (rest := []) ⟨hx, hb, hml, hown, hts⟩ (c_X8_node l D cy ad cnt nd52 wn S By Ah hJ (by omega) v58 v63 v68) (cwV 3 hts (g_V mw_394 mw_395 mw_396 mw_324 mw_397) rfl rfl rfl (by decide +kernel) ⟨Nat.le_of_ble_eq_true rfl, Nat.le_of_ble_eq_true rfl⟩) hK hN hO hP (by decide) e69 rfl rfl hl.1 rfl (Nat.le_of_ble_eq_true rfl) dX8_corners_69 ⟨Nat.zero_le _, Nat.zero_le _⟩) hS (fun ce H locs h69v hP hS => ?_)
  obtain ⟨nd69, nd69h, hO⟩ := h69v
  exact z_retv hx hb hr hlocks hP hS dX8_corners_72 ⟨_, by omega, hO⟩
set_option maxHeartbeats 8000000 in
set_option maxRecDepth 100000 in
theorem c_X8_findNodes (l : Launch) (D : va_G) (cy : Nat → ClassId) (ad : Nat → Nat) (cnt : Nat → Nat) (nd : Nat) (wn : Nat) (S : Nat → Int32) (By : Nat → Int32) (Ah : Nat → Int32) (hJ : zJ 34 ad) (p1 : Int32) (p2 : Int32) (p3 : Int32) (p4 : Int32) (p5 : Int32) (p6 : Int32) : zM l D (mT cy) 34 ad (mOK cy ad cnt nd wn S By Ah) yX8_findNodes vsX8_findNodes { frames := 5, cells := 0, slots := 0, locals := 117 } ([.ref (ad 0), .int p1, .int p2, .int p3, .int p4, .int p5, .int p6] : List Value) (zQv D 34 ad (fun ce => ∃ nd2 : Nat, (2 ≤ nd2 ∧ nd2 ≤ 94) ∧ mOK cy ad cnt nd2 wn S By Ah ce)) := by
  refine z_of (cc := cX8_findNodes) (maxL := 8) (ret := none) (by decide) rfl (Nat.le_of_ble_eq_true rfl) ?_
  intro p e s m below meth c hx hb hr hts hown hlocks hml hK hN ce hOK hP
  have hown : s.vm.findClass RX8 = some m.cls := hown
  have hS : va_S (zA 34 ad) s.heap s.heap [] := va_S.rf
  have hO := hOK
  have inX8 : ∀ w ∈ u_ws RX8 TX8 49, w ∈ vsX8_findNodes := fun w h => List.mem_cons_of_mem _ (inlX8 w h)
  have fl7 := hts (.fieldLink RX8 7 "GroundKeeperModel" "room" "[I") (List.mem_cons_of_mem _ mw_339)
  have fl13 := hts (.fieldLink RX8 13 "GroundKeeperModel" "isDown" "[Z") (List.mem_cons_of_mem _ mw_340)
  have fl17 := hts (.fieldLink RX8 17 "GroundKeeperModel" "box" "[I") (List.mem_cons_of_mem _ mw_336)
  have fl32 := hts (.fieldLink RX8 32 "GroundKeeperModel" "ladder" "[I") (List.mem_cons_of_mem _ mw_377)
  have fl121 := hts (.fieldLink RX8 121 "GroundKeeperModel" "rooms" "I") (List.mem_cons_of_mem _ mw_343)
  have fl146 := hts (.fieldLink RX8 146 "GroundKeeperModel" "ladders" "I") (List.mem_cons_of_mem _ mw_378)
  have fl214 := hts (.fieldLink RX8 214 "GroundKeeperModel" "nodes" "I") (List.mem_cons_of_mem _ mw_383)
  have L89 : ∀ N89 : Nat, ∀ (H : Heap) (locs : List Loc) (ce : Nat → va_E) (nd1 : Nat) (x7 : Int32), va_P D vwCl (zw 34 ad ce) H → va_S (zA 34 ad) s.heap H locs → mOK cy ad cnt nd1 wn S By Ah ce → (0 ≤ x7.toInt ∧ x7.toInt ≤ 6) → (2 ≤ nd1 ∧ (nd1 : Int) ≤ 82 + 2 * x7.toInt) → (7 - x7.toInt ≤ (N89 : Int)) → ∀ ls : Array Slot, lv_has ls 8 [(0, .ref (ad 0)), (7, .int x7)] → W p l e { frames := 5, cells := 0, slots := 0, locals := 117 } s m ([.ref (ad 0), .int p1, .int p2, .int p3, .int p4, .int p5, .int p6] : List Value).toArray below meth c H locs 0 0 (MQ below (zQv D 34 ad (fun ce => ∃ nd2 : Nat, (2 ≤ nd2 ∧ nd2 ≤ 94) ∧ mOK cy ad cnt nd2 wn S By Ah ce)) ([.ref (ad 0), .int p1, .int p2, .int p3, .int p4, .int p5, .int p6] : List Value).toArray s 0 0 (zA 34 ad)) (F0 m 89 ls []) := by
    intro N89
    induction N89 with
    | zero =>
      intro H locs ce nd1 x7 hP hS hO q_x7 qx0 hm ls hl
      exfalso; omega
    | succ N89 ih89 =>
      intro H locs ce nd1 x7 hP hS hO q_x7 qx0 hm ls hl
      refine lv_iload hx hb dX8_findNodes_89 (lv_at hl 1 rfl) ?_
      refine lv_aload_n hx hb dX8_findNodes_91 rfl (lv_at hl 0 rfl) ?_
      obtain ⟨v92, v92a, v92b, v92c, v92d, v92e, v92f, v92g, v92h, v92i, v92j, v92k, v92l, v92m, v92n, v92o, e92, h92, h92a, h92b, h92c, h92d, h92e, h92f, h92g, h92h, h92i, h92j, h92k, h92l, h92m, h92n, h92o, h92p, h92q, h92r, h92s, h92t, h92u⟩ := mg_Mo hO
      refine va_get (ci := 8) (C := RX8) (T := TX8) (N := 49) (v := .int v92c) hx hb hts inX8 hown hK hP 0 (zw_at (by decide) e92) rfl 10 (by decide) fl146 (fun _ h => h) rfl dX8_findNodes_92 ?_
      refine z_icmp_ge (tgt := 182) hx hb dX8_findNodes_95 (by decide) (fun c95 => ?_) (fun c95 => ?_)
      · skip
        exact z_retv hx hb hr hlocks hP hS dX8_findNodes_182 ⟨_, by omega, hO⟩
      · skip
        refine lv_aload_n hx hb dX8_findNodes_98 rfl (lv_at hl 0 rfl) ?_
        refine lv_aload_n hx hb dX8_findNodes_99 rfl (lv_at hl 0 rfl) ?_
        refine va_get (ci := 8) (C := RX8) (T := TX8) (N := 49) (v := .ref (ad 8)) hx hb hts inX8 hown hK hP 0 (zw_at (by decide) e92) rfl 11 (by decide) fl32 (fun _ h => h) rfl dX8_findNodes_100 ?_
        refine z_bi hx hb dX8_findNodes_103 (by decide) (fun v103 h103 => ?_)
        refine lv_iload hx hb dX8_findNodes_105 (lv_at hl 1 rfl) ?_
        refine z_mulJ hx hb 7 dX8_findNodes_107 (by omega) (by omega) (fun v107 h107 => ?_)
        obtain ⟨f108, e108⟩ := mg_Ld hO
        refine z_iald hx hb hK hP (q0 := 8) 0 (by decide) e108 rfl (by omega) dX8_findNodes_108 (fun v108 h108a => ?_)
        refine lv_aload_n hx hb dX8_findNodes_109 rfl (lv_at hl 0 rfl) ?_
        refine va_get (ci := 8) (C := RX8) (T := TX8) (N := 49) (v := .ref (ad 8)) hx hb hts inX8 hown hK hP 0 (zw_at (by decide) e92) rfl 11 (by decide) fl32 (fun _ h => h) rfl dX8_findNodes_110 ?_
        refine z_bi hx hb dX8_findNodes_113 (by decide) (fun v113 h113 => ?_)
        refine lv_iload hx hb dX8_findNodes_115 (lv_at hl 1 rfl) ?_
        refine z_mulJ hx hb 7 dX8_findNodes_117 (by omega) (by omega) (fun v117 h117 => ?_)
        refine z_ic hx hb dX8_findNodes_118 (by decide) (fun v118 h118 => ?_)
        refine z_addE hx hb dX8_findNodes_119 (by omega) (fun v119 h119 => ?_)
        refine z_iald hx hb hK hP (q0 := 8) 0 (by decide) e108 rfl (by omega) dX8_findNodes_120 (fun v120 h120 => ?_)
        refine lv_aload_n hx hb dX8_findNodes_121 rfl (lv_at hl 0 rfl) ?_
        refine va_get (ci := 8) (C := RX8) (T := TX8) (N := 49) (v := .ref (ad 8)) hx hb hts inX8 hown hK hP 0 (zw_at (by decide) e92) rfl 11 (by decide) fl32 (fun _ h => h) rfl dX8_findNodes_122 ?_
        refine z_bi hx hb dX8_findNodes_125 (by decide) (fun v125 h125 => ?_)
        refine lv_iload hx hb dX8_findNodes_127 (lv_at hl 1 rfl) ?_
        refine z_mulJ hx hb 7 dX8_findNodes_129 (by omega) (by omega) (fun v129 h129 => ?_)
        refine z_ic hx hb dX8_findNodes_130 (by decide) (fun v130 h130 => ?_)
        refine z_addE hx hb dX8_findNodes_131 (by omega) (fun v131 h131 => ?_)
        refine z_iald hx hb hK hP (q0 := 8) 0 (by decide) e108 rfl (by omega) dX8_findNodes_132 (fun v132 h132 => ?_)
        refine z_cv (z_rV (q0 := 0) (As := [.int v108, .int v120, .int v132]) (rest := []) ⟨hx, hb, hml, hown, hts⟩ (c_X8_node l D cy ad cnt nd1 wn S By Ah hJ (by omega) v108 v120 v132) (cwV 3 hts (g_V mw_394 mw_395 mw_396 mw_324 mw_397) rfl rfl rfl (by decide +kernel) ⟨Nat.le_of_ble_eq_true rfl, Nat.le_of_ble_eq_true rfl⟩) hK hN hO hP (by decide) e92 rfl rfl hl.1 rfl (Nat.le_of_ble_eq_true rfl) dX8_findNodes_133 ⟨Nat.zero_le _, Nat.zero_le _⟩) hS (fun ce H locs h133 hP hS => ?_)
        obtain ⟨nd133, nd133h, hO⟩ := h133
        refine lv_aload_n hx hb dX8_findNodes_136 rfl (lv_at hl 0 rfl) ?_
        refine lv_aload_n hx hb dX8_findNodes_137 rfl (lv_at hl 0 rfl) ?_
        obtain ⟨v138, v138a, v138b, v138c, v138d, v138e, v138f, v138g, v138h, v138i, v138j, v138k, v138l, v138m, v138n, v138o, e138, h138, h138a, h138b, h138c, h138d, h138e, h138f, h138g, h138h, h138i, h138j, h138k, h138l, h138m, h138n, h138o, h138p, h138q, h138r, h138s, h138t, h138u⟩ := mg_Mo hO
        refine va_get (ci := 8) (C := RX8) (T := TX8) (N := 49) (v := .ref (ad 8)) hx hb hts inX8 hown hK hP 0 (zw_at (by decide) e138) rfl 11 (by decide) fl32 (fun _ h => h) rfl dX8_findNodes_138 ?_
        refine z_bi hx hb dX8_findNodes_141 (by decide) (fun v141 h141 => ?_)
        refine lv_iload hx hb dX8_findNodes_143 (lv_at hl 1 rfl) ?_
        refine z_mulJ hx hb 7 dX8_findNodes_145 (by omega) (by omega) (fun v145 h145 => ?_)
        refine z_ic hx hb dX8_findNodes_146 (by decide) (fun v146 h146 => ?_)
        refine z_addE hx hb dX8_findNodes_147 (by omega) (fun v147 h147 => ?_)
        obtain ⟨f148, e148⟩ := mg_Ld hO
        refine z_iald hx hb hK hP (q0 := 8) 0 (by decide) e148 rfl (by omega) dX8_findNodes_148 (fun v148 h148a => ?_)
        refine lv_aload_n hx hb dX8_findNodes_149 rfl (lv_at hl 0 rfl) ?_
        refine va_get (ci := 8) (C := RX8) (T := TX8) (N := 49) (v := .ref (ad 8)) hx hb hts inX8 hown hK hP 0 (zw_at (by decide) e138) rfl 11 (by decide) fl32 (fun _ h => h) rfl dX8_findNodes_150 ?_
        refine z_bi hx hb dX8_findNodes_153 (by decide) (fun v153 h153 => ?_)
        refine lv_iload hx hb dX8_findNodes_155 (lv_at hl 1 rfl) ?_
        refine z_mulJ hx hb 7 dX8_findNodes_157 (by omega) (by omega) (fun v157 h157 => ?_)
        refine z_ic hx hb dX8_findNodes_158 (by decide) (fun v158 h158 => ?_)
        refine z_addE hx hb dX8_findNodes_159 (by omega) (fun v159 h159 => ?_)
        refine z_iald hx hb hK hP (q0 := 8) 0 (by decide) e148 rfl (by omega) dX8_findNodes_160 (fun v160 h160 => ?_)
        refine lv_aload_n hx hb dX8_findNodes_161 rfl (lv_at hl 0 rfl) ?_
        refine va_get (ci := 8) (C := RX8) (T := TX8) (N := 49) (v := .ref (ad 8)) hx hb hts inX8 hown hK hP 0 (zw_at (by decide) e138) rfl 11 (by decide) fl32 (fun _ h => h) rfl dX8_findNodes_162 ?_
        refine z_bi hx hb dX8_findNodes_165 (by decide) (fun v165 h165 => ?_)
        refine lv_iload hx hb dX8_findNodes_167 (lv_at hl 1 rfl) ?_
        refine z_mulJ hx hb 7 dX8_findNodes_169 (by omega) (by omega) (fun v169 h169 => ?_)
        refine z_ic hx hb dX8_findNodes_170 (by decide) (fun v170 h170 => ?_)
        refine z_addE hx hb dX8_findNodes_171 (by omega) (fun v171 h171 => ?_)
        refine z_iald hx hb hK hP (q0 := 8) 0 (by decide) e148 rfl (by omega) dX8_findNodes_172 (fun v172 h172 => ?_)
        refine z_cv (z_rV (q0 := 0) (As := [.int v148, .int v160, .int v172]) (rest := []) ⟨hx, hb, hml, hown, hts⟩ (c_X8_node l D cy ad cnt nd133 wn S By Ah hJ (by omega) v148 v160 v172) (cwV 3 hts (g_V mw_394 mw_395 mw_396 mw_324 mw_397) rfl rfl rfl (by decide +kernel) ⟨Nat.le_of_ble_eq_true rfl, Nat.le_of_ble_eq_true rfl⟩) hK hN hO hP (by decide) e138 rfl rfl hl.1 rfl (Nat.le_of_ble_eq_true rfl) dX8_findNodes_173 ⟨Nat.zero_le _, Nat.zero_le _⟩) hS (fun ce H locs h173 hP hS => ?_)
        obtain ⟨nd173, nd173h, hO⟩ := h173
        refine z_iinc (lv' := fun w0 => [(7, .int w0), (0, .ref (ad 0))]) hx hb dX8_findNodes_176 hl (k := 1) rfl (by decide) (fun _ => rfl) (by decide) (by omega) (fun v176 ls h176 hl => ?_)
        refine lv_goto (tgt := 89) hx hb dX8_findNodes_179 (by decide) ?_
        exact ih89 _ _ _ nd173 v176 hP hS hO (by omega) (by omega) (by omega) _ (lv_sub hl [1, 0] rfl)
  have L53 : ∀ N53 : Nat, ∀ (H : Heap) (locs : List Loc) (ce : Nat → va_E) (nd1 : Nat) (x7 : Int32), va_P D vwCl (zw 34 ad ce) H → va_S (zA 34 ad) s.heap H locs → mOK cy ad cnt nd1 wn S By Ah ce → (0 ≤ x7.toInt ∧ x7.toInt ≤ 8) → (2 ≤ nd1 ∧ (nd1 : Int) ≤ 50 + 4 * x7.toInt) → (9 - x7.toInt ≤ (N53 : Int)) → ∀ ls : Array Slot, lv_has ls 8 [(0, .ref (ad 0)), (7, .int x7)] → W p l e { frames := 5, cells := 0, slots := 0, locals := 117 } s m ([.ref (ad 0), .int p1, .int p2, .int p3, .int p4, .int p5, .int p6] : List Value).toArray below meth c H locs 0 0 (MQ below (zQv D 34 ad (fun ce => ∃ nd2 : Nat, (2 ≤ nd2 ∧ nd2 ≤ 94) ∧ mOK cy ad cnt nd2 wn S By Ah ce)) ([.ref (ad 0), .int p1, .int p2, .int p3, .int p4, .int p5, .int p6] : List Value).toArray s 0 0 (zA 34 ad)) (F0 m 53 ls []) := by
    intro N53
    induction N53 with
    | zero =>
      intro H locs ce nd1 x7 hP hS hO q_x7 qx0 hm ls hl
      exfalso; omega
    | succ N53 ih53 =>
      have J80 : ∀ (H : Heap) (locs : List Loc) (ce : Nat → va_E) (nd1 : Nat) (x7 : Int32), va_P D vwCl (zw 34 ad ce) H → va_S (zA 34 ad) s.heap H locs → mOK cy ad cnt nd1 wn S By Ah ce → (0 ≤ x7.toInt ∧ x7.toInt ≤ 7) → (2 ≤ nd1 ∧ (nd1 : Int) ≤ 54 + 4 * x7.toInt) → (9 - x7.toInt ≤ (N53 : Int) + 1) → ∀ ls : Array Slot, lv_has ls 8 [(0, .ref (ad 0)), (7, .int x7)] → W p l e { frames := 5, cells := 0, slots := 0, locals := 117 } s m ([.ref (ad 0), .int p1, .int p2, .int p3, .int p4, .int p5, .int p6] : List Value).toArray below meth c H locs 0 0 (MQ below (zQv D 34 ad (fun ce => ∃ nd2 : Nat, (2 ≤ nd2 ∧ nd2 ≤ 94) ∧ mOK cy ad cnt nd2 wn S By Ah ce)) ([.ref (ad 0), .int p1, .int p2, .int p3, .int p4, .int p5, .int p6] : List Value).toArray s 0 0 (zA 34 ad)) (F0 m 80 ls []) := by
        intro H locs ce nd1 x7 hP hS hO q_x7 qx0 qm53 ls hl
        refine z_iinc (lv' := fun w0 => [(7, .int w0), (0, .ref (ad 0))]) hx hb dX8_findNodes_80 hl (k := 1) rfl (by decide) (fun _ => rfl) (by decide) (by omega) (fun v80 ls h80 hl => ?_)
        refine lv_goto (tgt := 53) hx hb dX8_findNodes_83 (by decide) ?_
        exact ih53 _ _ _ nd1 v80 hP hS hO (by omega) (by omega) (by omega) _ (lv_sub hl [1, 0] rfl)
      intro H locs ce nd1 x7 hP hS hO q_x7 qx0 hm ls hl
      refine lv_iload hx hb dX8_findNodes_53 (lv_at hl 1 rfl) ?_
      refine z_bi hx hb dX8_findNodes_55 (by decide) (fun v55 h55 => ?_)
      refine z_icmp_ge (tgt := 86) hx hb dX8_findNodes_57 (by decide) (fun c57 => ?_) (fun c57 => ?_)
      · skip
        refine z_ic hx hb dX8_findNodes_86 (by decide) (fun v86 h86 => ?_)
        refine lv_istore (lv' := [(7, .int v86), (0, .ref (ad 0))]) hx hb dX8_findNodes_87 hl (by decide) rfl (fun ls hl => ?_)
        exact L89 8 _ _ _ nd1 v86 hP hS hO (by omega) (by omega) (by omega) _ (lv_sub hl [1, 0] rfl)
      · skip
        refine lv_aload_n hx hb dX8_findNodes_60 rfl (lv_at hl 0 rfl) ?_
        obtain ⟨v61, v61a, v61b, v61c, v61d, v61e, v61f, v61g, v61h, v61i, v61j, v61k, v61l, v61m, v61n, v61o, e61, h61, h61a, h61b, h61c, h61d, h61e, h61f, h61g, h61h, h61i, h61j, h61k, h61l, h61m, h61n, h61o, h61p, h61q, h61r, h61s, h61t, h61u⟩ := mg_Mo hO
        refine va_get (ci := 8) (C := RX8) (T := TX8) (N := 49) (v := .ref (ad 2)) hx hb hts inX8 hown hK hP 0 (zw_at (by decide) e61) rfl 2 (by decide) fl13 (fun _ h => h) rfl dX8_findNodes_61 ?_
        refine lv_iload hx hb dX8_findNodes_64 (lv_at hl 1 rfl) ?_
        obtain ⟨f66, e66⟩ := mg_Dn hO
        refine z_zald hx hb hK hP (q0 := 2) 1 (by decide) e66 rfl (by omega) dX8_findNodes_66 (fun v66 h66a => ?_)
        refine z_if_eq (tgt := 80) hx hb dX8_findNodes_67 (by decide) (fun c67 => ?_) (fun c67 => ?_)
        · skip
          exact J80 _ _ _ nd1 x7 hP hS hO (by omega) (by omega) (by omega) _ (lv_sub hl [0, 1] rfl)
        · skip
          refine lv_aload_n hx hb dX8_findNodes_70 rfl (lv_at hl 0 rfl) ?_
          refine lv_aload_n hx hb dX8_findNodes_71 rfl (lv_at hl 0 rfl) ?_
          refine va_get (ci := 8) (C := RX8) (T := TX8) (N := 49) (v := .ref (ad 3)) hx hb hts inX8 hown hK hP 0 (zw_at (by decide) e61) rfl 3 (by decide) fl17 (fun _ h => h) rfl dX8_findNodes_72 ?_
          refine lv_iload hx hb dX8_findNodes_75 (lv_at hl 1 rfl) ?_
          refine z_cv (z_rV (q0 := 0) (As := [.ref (ad 3), .int x7]) (rest := []) ⟨hx, hb, hml, hown, hts⟩ (c_X8_corners_Bx l D cy ad cnt nd1 wn S By Ah hJ (by omega) x7 (by omega)) (cwV 2 hts (g_V mw_398 mw_399 mw_400 mw_324 mw_401) rfl rfl rfl (by decide +kernel) ⟨Nat.le_of_ble_eq_true rfl, Nat.le_of_ble_eq_true rfl⟩) hK hN hO hP (by decide) e61 rfl rfl hl.1 rfl (Nat.le_of_ble_eq_true rfl) dX8_findNodes_77 ⟨Nat.zero_le _, Nat.zero_le _⟩) hS (fun ce H locs h77 hP hS => ?_)
          obtain ⟨nd77, nd77h, hO⟩ := h77
          exact J80 _ _ _ nd77 x7 hP hS hO (by omega) (by omega) (by omega) _ (lv_sub hl [0, 1] rfl)
  have L25 : ∀ N25 : Nat, ∀ (H : Heap) (locs : List Loc) (ce : Nat → va_E) (nd1 : Nat) (x7 : Int32), va_P D vwCl (zw 34 ad ce) H → va_S (zA 34 ad) s.heap H locs → mOK cy ad cnt nd1 wn S By Ah ce → (0 ≤ x7.toInt ∧ x7.toInt ≤ 12) → ((nd1 : Int) = 2 + 4 * x7.toInt) → (13 - x7.toInt ≤ (N25 : Int)) → ∀ ls : Array Slot, lv_has ls 8 [(0, .ref (ad 0)), (7, .int x7)] → W p l e { frames := 5, cells := 0, slots := 0, locals := 117 } s m ([.ref (ad 0), .int p1, .int p2, .int p3, .int p4, .int p5, .int p6] : List Value).toArray below meth c H locs 0 0 (MQ below (zQv D 34 ad (fun ce => ∃ nd2 : Nat, (2 ≤ nd2 ∧ nd2 ≤ 94) ∧ mOK cy ad cnt nd2 wn S By Ah ce)) ([.ref (ad 0), .int p1, .int p2, .int p3, .int p4, .int p5, .int p6] : List Value).toArray s 0 0 (zA 34 ad)) (F0 m 25 ls []) := by
    intro N25
    induction N25 with
    | zero =>
      intro H locs ce nd1 x7 hP hS hO q_x7 qx0 hm ls hl
      exfalso; omega
    | succ N25 ih25 =>
      intro H locs ce nd1 x7 hP hS hO q_x7 qx0 hm ls hl
      refine lv_iload hx hb dX8_findNodes_25 (lv_at hl 1 rfl) ?_
      refine lv_aload_n hx hb dX8_findNodes_27 rfl (lv_at hl 0 rfl) ?_
      obtain ⟨v28, v28a, v28b, v28c, v28d, v28e, v28f, v28g, v28h, v28i, v28j, v28k, v28l, v28m, v28n, v28o, e28, h28, h28a, h28b, h28c, h28d, h28e, h28f, h28g, h28h, h28i, h28j, h28k, h28l, h28m, h28n, h28o, h28p, h28q, h28r, h28s, h28t, h28u⟩ := mg_Mo hO
      refine va_get (ci := 8) (C := RX8) (T := TX8) (N := 49) (v := .int v28) hx hb hts inX8 hown hK hP 0 (zw_at (by decide) e28) rfl 0 (by decide) fl121 (fun _ h => h) rfl dX8_findNodes_28 ?_
      refine z_icmp_ge (tgt := 50) hx hb dX8_findNodes_31 (by decide) (fun c31 => ?_) (fun c31 => ?_)
      · skip
        refine z_ic hx hb dX8_findNodes_50 (by decide) (fun v50 h50 => ?_)
        refine lv_istore (lv' := [(7, .int v50), (0, .ref (ad 0))]) hx hb dX8_findNodes_51 hl (by decide) rfl (fun ls hl => ?_)
        exact L53 10 _ _ _ nd1 v50 hP hS hO (by omega) (by omega) (by omega) _ (lv_sub hl [1, 0] rfl)
      · skip
        refine lv_aload_n hx hb dX8_findNodes_34 rfl (lv_at hl 0 rfl) ?_
        refine lv_aload_n hx hb dX8_findNodes_35 rfl (lv_at hl 0 rfl) ?_
        refine va_get (ci := 8) (C := RX8) (T := TX8) (N := 49) (v := .ref (ad 1)) hx hb hts inX8 hown hK hP 0 (zw_at (by decide) e28) rfl 1 (by decide) fl7 (fun _ h => h) rfl dX8_findNodes_36 ?_
        refine lv_iload hx hb dX8_findNodes_39 (lv_at hl 1 rfl) ?_
        refine z_cv (z_rV (q0 := 0) (As := [.ref (ad 1), .int x7]) (rest := []) ⟨hx, hb, hml, hown, hts⟩ (c_X8_corners_Rm l D cy ad cnt nd1 wn S By Ah hJ (by omega) x7 (by omega)) (cwV 2 hts (g_V mw_398 mw_399 mw_400 mw_324 mw_401) rfl rfl rfl (by decide +kernel) ⟨Nat.le_of_ble_eq_true rfl, Nat.le_of_ble_eq_true rfl⟩) hK hN hO hP (by decide) e28 rfl rfl hl.1 rfl (Nat.le_of_ble_eq_true rfl) dX8_findNodes_41 ⟨Nat.zero_le _, Nat.zero_le _⟩) hS (fun ce H locs h41 hP hS => ?_)
        obtain ⟨nd41, nd41h, hO⟩ := h41
        refine z_iinc (lv' := fun w0 => [(7, .int w0), (0, .ref (ad 0))]) hx hb dX8_findNodes_44 hl (k := 1) rfl (by decide) (fun _ => rfl) (by decide) (by omega) (fun v44 ls h44 hl => ?_)
        refine lv_goto (tgt := 25) hx hb dX8_findNodes_47 (by decide) ?_
        exact ih25 _ _ _ nd41 v44 hP hS hO (by omega) (by omega) (by omega) _ (lv_sub hl [1, 0] rfl)
  intro ls hl
  have hl : lv_has ls 8 [(0, .ref (ad 0)), (1, .int p1), (2, .int p2), (3, .int p3), (4, .int p4), (5, .int p5), (6, .int p6)] := hl
  refine lv_aload_n hx hb dX8_findNodes_0 rfl (lv_at hl 0 rfl) ?_
  refine z_ic hx hb dX8_findNodes_1 (by decide) (fun v1 h1 => ?_)
  obtain ⟨v2, v2a, v2b, v2c, v2d, v2e, v2f, v2g, v2h, v2i, v2j, v2k, v2l, v2m, v2n, v2o, e2, h2, h2a, h2b, h2c, h2d, h2e, h2f, h2g, h2h, h2i, h2j, h2k, h2l, h2m, h2n, h2o, h2p, h2q, h2r, h2s, h2t, h2u⟩ := mg_Mo hO
  refine z_put (q0 := 0) (ci := 8) (C := RX8) (T := TX8) (N := 49) hx hb hts inX8 tyX8 tyX8_ok nmX8 hown hK hJ hP hS (by decide) e2 rfl 21 (by decide) fl214 (fun _ h => h) rfl (ty := .int) (by decide +kernel) rfl rfl (Nat.le_of_ble_eq_true rfl) (fs1 := [.int v2, .ref (ad 1), .ref (ad 2), .ref (ad 3), .int v2a, .ref (ad 4), .ref (ad 5), .int v2b, .ref (ad 6), .ref (ad 7), .int v2c, .ref (ad 8), .int v2d, .int v2e, .int v2f, .int v2g, .int v2h, .int v2i, .int v2j, .ref (ad 9), .ref (ad 10), .int v1, .ref (ad 11), .ref (ad 12), .ref (ad 13), .ref (ad 14), .ref (ad 15), .ref (ad 16), .ref (ad 17), .int v2l, .ref (ad 18), .int v2m, .ref (ad 19), .ref (ad 20), .ref (ad 21), .int v2n, .ref (ad 22), .ref (ad 23), .ref (ad 24), .ref (ad 25), .ref (ad 26), .ref (ad 27), .ref (ad 28), .ref (ad 29), .ref (ad 30), .ref (ad 31), .ref (ad 32), .ref (ad 33), .int v2o]) rfl dX8_findNodes_2 (fun ce H locs e2a h2v hP hS => ?_)
  obtain ⟨nd2, nd2h⟩ : ∃ z : Nat, (z : Int) = v1.toInt := ⟨v1.toInt.toNat, by omega⟩
  have hO := z_up2 (OKK := mK cy ad cnt nd wn S By Ah) (OKL := mK cy ad cnt nd2 wn S By Ah) 0 hO h2v (fun q e _ h => mK_nd (by assumption) h) (by rw [e2a]; exact mE_Mo |>.mpr ⟨v2, v2a, v2b, v2c, v2d, v2e, v2f, v2g, v2h, v2i, v2j, v1, v2l, v2m, v2n, v2o, rfl, by omega, by omega, by omega, by omega, by omega, by omega, by omega, by omega, by omega, by omega, by omega, by omega, by omega, by omega, by omega, by omega, by omega, by omega, h2r, h2s, h2t, h2u⟩)
  refine lv_aload_n hx hb dX8_findNodes_5 rfl (lv_at hl 0 rfl) ?_
  refine lv_iload_n hx hb dX8_findNodes_6 rfl (lv_at hl 1 rfl) ?_
  refine lv_iload_n hx hb dX8_findNodes_7 rfl (lv_at hl 2 rfl) ?_
  refine lv_iload_n hx hb dX8_findNodes_8 rfl (lv_at hl 3 rfl) ?_
  refine z_cv (z_rV (q0 := 0) (As := [.int p1, .int p2, .int p3]) (rest := []) ⟨hx, hb, hml, hown, hts⟩ (c_X8_node l D cy ad cnt nd2 wn S By Ah hJ (by omega) p1 p2 p3) (cwV 3 hts (g_V mw_394 mw_395 mw_396 mw_324 mw_397) rfl rfl rfl (by decide +kernel) ⟨Nat.le_of_ble_eq_true rfl, Nat.le_of_ble_eq_true rfl⟩) hK hN hO hP (by decide) e2a rfl rfl hl.1 rfl (Nat.le_of_ble_eq_true rfl) dX8_findNodes_9 ⟨Nat.zero_le _, Nat.zero_le _⟩) hS (fun ce H locs h9 hP hS => ?_)
  obtain ⟨nd9, nd9h, hO⟩ := h9
  refine lv_aload_n hx hb dX8_findNodes_12 rfl (lv_at hl 0 rfl) ?_
  refine lv_iload hx hb dX8_findNodes_13 (lv_at hl 4 rfl) ?_
  refine lv_iload hx hb dX8_findNodes_15 (lv_at hl 5 rfl) ?_
  refine lv_iload hx hb dX8_findNodes_17 (lv_at hl 6 rfl) ?_
  obtain ⟨v19, v19a, v19b, v19c, v19d, v19e, v19f, v19g, v19h, v19i, v19j, v19k, v19l, v19m, v19n, v19o, e19, h19, h19a, h19b, h19c, h19d, h19e, h19f, h19g, h19h, h19i, h19j, h19k, h19l, h19m, h19n, h19o, h19p, h19q, h19r, h19s, h19t, h19u⟩ := mg_Mo hO
  refine z_cv (z_rV (q0 := 0) (As := [.int p4, .int p5, .int p6]) (rest := []) ⟨hx, hb, hml, hown, hts⟩ (c_X8_node l D cy ad cnt nd9 wn S By Ah hJ (by omega) p4 p5 p6) (cwV 3 hts (g_V mw_394 mw_395 mw_396 mw_324 mw_397) rfl rfl rfl (by decide +kernel) ⟨Nat.le_of_ble_eq_true rfl, Nat.le_of_ble_eq_true rfl⟩) hK hN hO hP (by decide) e19 rfl rfl hl.1 rfl (Nat.le_of_ble_eq_true rfl) dX8_findNodes_19 ⟨Nat.zero_le _, Nat.zero_le _⟩) hS (fun ce H locs h19v hP hS => ?_)
  obtain ⟨nd19, nd19h, hO⟩ := h19v
  refine z_ic hx hb dX8_findNodes_22 (by decide) (fun v22 h22 => ?_)
  refine lv_istore (lv' := [(7, .int v22), (0, .ref (ad 0)), (1, .int p1), (2, .int p2), (3, .int p3), (4, .int p4), (5, .int p5), (6, .int p6)]) hx hb dX8_findNodes_23 hl (by decide) rfl (fun ls hl => ?_)
  exact L25 14 _ _ _ nd19 v22 hP hS hO (by omega) (by omega) (by omega) _ (lv_sub hl [1, 0] rfl)
set_option maxHeartbeats 8000000 in
set_option maxRecDepth 100000 in
theorem c_X8_step (l : Launch) (D : va_G) (cy : Nat → ClassId) (ad : Nat → Nat) (cnt : Nat → Nat) (nd : Nat) (wn : Nat) (S : Nat → Int32) (By : Nat → Int32) (Ah : Nat → Int32) (hJ : zJ 34 ad) (p1 : Int32) (p2 : Int32) (q_p1 : 0 ≤ p1.toInt ∧ p1.toInt ≤ 93) (q_p2 : 0 ≤ p2.toInt ∧ p2.toInt ≤ 93) : zM l D (mT cy) 34 ad (mOK cy ad cnt nd wn S By Ah) yX8_step vsX8_step { frames := 5, cells := 0, slots := 0, locals := 125 } ([.ref (ad 0), .int p1, .int p2] : List Value) (zQi D 34 ad (fun r ce => mOK cy ad cnt nd wn S By Ah ce ∧ (True))) := by
  refine z_of (cc := cX8_step) (maxL := 3) (ret := (some .int)) (by decide) rfl (Nat.le_of_ble_eq_true rfl) ?_
  intro p e s m below meth c hx hb hr hts hown hlocks hml hK hN ce hOK hP
  have hown : s.vm.findClass RX8 = some m.cls := hown
  have hS : va_S (zA 34 ad) s.heap s.heap [] := va_S.rf
  have hO := hOK
  have inX8 : ∀ w ∈ u_ws RX8 TX8 49, w ∈ vsX8_step := fun w h => List.mem_cons_of_mem _ (inlX8 w h)
  have fl44 := hts (.fieldLink RX8 44 "GroundKeeperModel" "nl" "[I") (List.mem_cons_of_mem _ mw_380)
  have fl47 := hts (.fieldLink RX8 47 "GroundKeeperModel" "nx" "[I") (List.mem_cons_of_mem _ mw_381)
  have fl50 := hts (.fieldLink RX8 50 "GroundKeeperModel" "ny" "[I") (List.mem_cons_of_mem _ mw_382)
  intro ls hl
  have hl : lv_has ls 3 [(0, .ref (ad 0)), (1, .int p1), (2, .int p2)] := hl
  refine lv_aload_n hx hb dX8_step_0 rfl (lv_at hl 0 rfl) ?_
  obtain ⟨v1, v1a, v1b, v1c, v1d, v1e, v1f, v1g, v1h, v1i, v1j, v1k, v1l, v1m, v1n, v1o, e1, h1, h1a, h1b, h1c, h1d, h1e, h1f, h1g, h1h, h1i, h1j, h1k, h1l, h1m, h1n, h1o, h1p, h1q, h1r, h1s, h1t, h1u⟩ := mg_Mo hO
  refine va_get (ci := 8) (C := RX8) (T := TX8) (N := 49) (v := .ref (ad 12)) hx hb hts inX8 hown hK hP 0 (zw_at (by decide) e1) rfl 23 (by decide) fl44 (fun _ h => h) rfl dX8_step_1 ?_
  refine lv_iload_n hx hb dX8_step_4 rfl (lv_at hl 1 rfl) ?_
  obtain ⟨f5, e5⟩ := mg_Nl hO
  refine z_iald hx hb hK hP (q0 := 12) 0 (by decide) e5 rfl (by omega) dX8_step_5 (fun v5 h5a => ?_)
  refine lv_aload_n hx hb dX8_step_6 rfl (lv_at hl 0 rfl) ?_
  refine va_get (ci := 8) (C := RX8) (T := TX8) (N := 49) (v := .ref (ad 12)) hx hb hts inX8 hown hK hP 0 (zw_at (by decide) e1) rfl 23 (by decide) fl44 (fun _ h => h) rfl dX8_step_7 ?_
  refine lv_iload_n hx hb dX8_step_10 rfl (lv_at hl 2 rfl) ?_
  refine z_iald hx hb hK hP (q0 := 12) 0 (by decide) e5 rfl (by omega) dX8_step_11 (fun v11 h11 => ?_)
  refine z_icmp_ne (tgt := 85) hx hb dX8_step_12 (by decide) (fun c12 => ?_) (fun c12 => ?_)
  · skip
    refine lv_aload_n hx hb dX8_step_85 rfl (lv_at hl 0 rfl) ?_
    refine lv_aload_n hx hb dX8_step_86 rfl (lv_at hl 0 rfl) ?_
    refine va_get (ci := 8) (C := RX8) (T := TX8) (N := 49) (v := .ref (ad 12)) hx hb hts inX8 hown hK hP 0 (zw_at (by decide) e1) rfl 23 (by decide) fl44 (fun _ h => h) rfl dX8_step_87 ?_
    refine lv_iload_n hx hb dX8_step_90 rfl (lv_at hl 1 rfl) ?_
    refine z_iald hx hb hK hP (q0 := 12) 0 (by decide) e5 rfl (by omega) dX8_step_91 (fun v91 h91 => ?_)
    have h91a : v91.toInt = v5.toInt := z_same h91 h5a
    refine lv_aload_n hx hb dX8_step_92 rfl (lv_at hl 0 rfl) ?_
    refine va_get (ci := 8) (C := RX8) (T := TX8) (N := 49) (v := .ref (ad 13)) hx hb hts inX8 hown hK hP 0 (zw_at (by decide) e1) rfl 24 (by decide) fl47 (fun _ h => h) rfl dX8_step_93 ?_
    refine lv_iload_n hx hb dX8_step_96 rfl (lv_at hl 1 rfl) ?_
    obtain ⟨f97, e97⟩ := mg_Nx hO
    refine z_iald hx hb hK hP (q0 := 13) 0 (by decide) e97 rfl (by omega) dX8_step_97 (fun v97 h97a => ?_)
    refine lv_aload_n hx hb dX8_step_98 rfl (lv_at hl 0 rfl) ?_
    refine va_get (ci := 8) (C := RX8) (T := TX8) (N := 49) (v := .ref (ad 14)) hx hb hts inX8 hown hK hP 0 (zw_at (by decide) e1) rfl 25 (by decide) fl50 (fun _ h => h) rfl dX8_step_99 ?_
    refine lv_iload_n hx hb dX8_step_102 rfl (lv_at hl 1 rfl) ?_
    obtain ⟨f103, e103⟩ := mg_Ny hO
    refine z_iald hx hb hK hP (q0 := 14) 0 (by decide) e103 rfl (by omega) dX8_step_103 (fun v103 h103a => ?_)
    refine lv_aload_n hx hb dX8_step_104 rfl (lv_at hl 0 rfl) ?_
    refine va_get (ci := 8) (C := RX8) (T := TX8) (N := 49) (v := .ref (ad 12)) hx hb hts inX8 hown hK hP 0 (zw_at (by decide) e1) rfl 23 (by decide) fl44 (fun _ h => h) rfl dX8_step_105 ?_
    refine lv_iload_n hx hb dX8_step_108 rfl (lv_at hl 2 rfl) ?_
    refine z_iald hx hb hK hP (q0 := 12) 0 (by decide) e5 rfl (by omega) dX8_step_109 (fun v109 h109 => ?_)
    have h109a : v109.toInt = v11.toInt := z_same h109 h11
    refine lv_aload_n hx hb dX8_step_110 rfl (lv_at hl 0 rfl) ?_
    refine va_get (ci := 8) (C := RX8) (T := TX8) (N := 49) (v := .ref (ad 13)) hx hb hts inX8 hown hK hP 0 (zw_at (by decide) e1) rfl 24 (by decide) fl47 (fun _ h => h) rfl dX8_step_111 ?_
    refine lv_iload_n hx hb dX8_step_114 rfl (lv_at hl 2 rfl) ?_
    refine z_iald hx hb hK hP (q0 := 13) 0 (by decide) e97 rfl (by omega) dX8_step_115 (fun v115 h115 => ?_)
    refine lv_aload_n hx hb dX8_step_116 rfl (lv_at hl 0 rfl) ?_
    refine va_get (ci := 8) (C := RX8) (T := TX8) (N := 49) (v := .ref (ad 14)) hx hb hts inX8 hown hK hP 0 (zw_at (by decide) e1) rfl 25 (by decide) fl50 (fun _ h => h) rfl dX8_step_117 ?_
    refine lv_iload_n hx hb dX8_step_120 rfl (lv_at hl 2 rfl) ?_
    refine z_iald hx hb hK hP (q0 := 14) 0 (by decide) e103 rfl (by omega) dX8_step_121 (fun v121 h121 => ?_)
    refine z_ciP (z_rV (q0 := 0) (As := [.int v91, .int v97, .int v103, .int v109, .int v115, .int v121]) (rest := []) ⟨hx, hb, hml, hown, hts⟩ (c_X8_climb l D cy ad cnt nd wn S By Ah (fun c1 => c1 = ce) hJ v91 v97 v103 v109 v115 v121) (cwV 6 hts (g_V mw_402 mw_403 mw_404 mw_324 mw_405) rfl rfl rfl (by decide +kernel) ⟨Nat.le_of_ble_eq_true rfl, Nat.le_of_ble_eq_true rfl⟩) hK hN ⟨hO, rfl⟩ hP (by decide) e1 rfl rfl hl.1 rfl (Nat.le_of_ble_eq_true rfl) dX8_step_122 ⟨Nat.zero_le _, Nat.zero_le _⟩) hS (fun _ h => h.2) (fun v122 H locs h122 hP hS => ?_)
    exact z_reti hx hb hr hlocks hP hS dX8_step_125 ⟨hO, trivial⟩
  · skip
    refine lv_aload_n hx hb dX8_step_15 rfl (lv_at hl 0 rfl) ?_
    refine lv_aload_n hx hb dX8_step_16 rfl (lv_at hl 0 rfl) ?_
    refine va_get (ci := 8) (C := RX8) (T := TX8) (N := 49) (v := .ref (ad 12)) hx hb hts inX8 hown hK hP 0 (zw_at (by decide) e1) rfl 23 (by decide) fl44 (fun _ h => h) rfl dX8_step_17 ?_
    refine lv_iload_n hx hb dX8_step_20 rfl (lv_at hl 1 rfl) ?_
    refine z_iald hx hb hK hP (q0 := 12) 0 (by decide) e5 rfl (by omega) dX8_step_21 (fun v21 h21 => ?_)
    have h21a : v21.toInt = v5.toInt := z_same h21 h5a
    refine lv_aload_n hx hb dX8_step_22 rfl (lv_at hl 0 rfl) ?_
    refine va_get (ci := 8) (C := RX8) (T := TX8) (N := 49) (v := .ref (ad 13)) hx hb hts inX8 hown hK hP 0 (zw_at (by decide) e1) rfl 24 (by decide) fl47 (fun _ h => h) rfl dX8_step_23 ?_
    refine lv_iload_n hx hb dX8_step_26 rfl (lv_at hl 1 rfl) ?_
    obtain ⟨f27, e27⟩ := mg_Nx hO
    refine z_iald hx hb hK hP (q0 := 13) 0 (by decide) e27 rfl (by omega) dX8_step_27 (fun v27 h27a => ?_)
    refine lv_aload_n hx hb dX8_step_28 rfl (lv_at hl 0 rfl) ?_
    refine va_get (ci := 8) (C := RX8) (T := TX8) (N := 49) (v := .ref (ad 14)) hx hb hts inX8 hown hK hP 0 (zw_at (by decide) e1) rfl 25 (by decide) fl50 (fun _ h => h) rfl dX8_step_29 ?_
    refine lv_iload_n hx hb dX8_step_32 rfl (lv_at hl 1 rfl) ?_
    obtain ⟨f33, e33⟩ := mg_Ny hO
    refine z_iald hx hb hK hP (q0 := 14) 0 (by decide) e33 rfl (by omega) dX8_step_33 (fun v33 h33a => ?_)
    refine lv_aload_n hx hb dX8_step_34 rfl (lv_at hl 0 rfl) ?_
    refine va_get (ci := 8) (C := RX8) (T := TX8) (N := 49) (v := .ref (ad 13)) hx hb hts inX8 hown hK hP 0 (zw_at (by decide) e1) rfl 24 (by decide) fl47 (fun _ h => h) rfl dX8_step_35 ?_
    refine lv_iload_n hx hb dX8_step_38 rfl (lv_at hl 2 rfl) ?_
    refine z_iald hx hb hK hP (q0 := 13) 0 (by decide) e27 rfl (by omega) dX8_step_39 (fun v39 h39 => ?_)
    refine lv_aload_n hx hb dX8_step_40 rfl (lv_at hl 0 rfl) ?_
    refine va_get (ci := 8) (C := RX8) (T := TX8) (N := 49) (v := .ref (ad 14)) hx hb hts inX8 hown hK hP 0 (zw_at (by decide) e1) rfl 25 (by decide) fl50 (fun _ h => h) rfl dX8_step_41 ?_
    refine lv_iload_n hx hb dX8_step_44 rfl (lv_at hl 2 rfl) ?_
    refine z_iald hx hb hK hP (q0 := 14) 0 (by decide) e33 rfl (by omega) dX8_step_45 (fun v45 h45 => ?_)
    refine z_ci (z_rV (q0 := 0) (As := [.int v21, .int v27, .int v33, .int v39, .int v45]) (rest := []) ⟨hx, hb, hml, hown, hts⟩ (c_X8_seen l D cy ad cnt nd wn S By Ah hJ v21 v27 v33 v39 v45) (cwV 5 hts (g_V mw_406 mw_407 mw_408 mw_324 mw_409) rfl rfl rfl (by decide +kernel) ⟨Nat.le_of_ble_eq_true rfl, Nat.le_of_ble_eq_true rfl⟩) hK hN hO hP (by decide) e1 rfl rfl hl.1 rfl (Nat.le_of_ble_eq_true rfl) dX8_step_46 ⟨Nat.zero_le _, Nat.zero_le _⟩) hS (fun v46 ce H locs h46 hP hS => ?_)
    obtain ⟨hO, h46a⟩ := h46
    refine z_ic hx hb dX8_step_49 (by decide) (fun v49 h49 => ?_)
    refine z_icmp_ne (tgt := 83) hx hb dX8_step_50 (by decide) (fun c50 => ?_) (fun c50 => ?_)
    · skip
      refine z_ic hx hb dX8_step_83 (by decide) (fun v83 h83 => ?_)
      exact z_reti hx hb hr hlocks hP hS dX8_step_84 ⟨hO, trivial⟩
    · skip
      refine lv_aload_n hx hb dX8_step_53 rfl (lv_at hl 0 rfl) ?_
      obtain ⟨v54, v54a, v54b, v54c, v54d, v54e, v54f, v54g, v54h, v54i, v54j, v54k, v54l, v54m, v54n, v54o, e54, h54, h54a, h54b, h54c, h54d, h54e, h54f, h54g, h54h, h54i, h54j, h54k, h54l, h54m, h54n, h54o, h54p, h54q, h54r, h54s, h54t, h54u⟩ := mg_Mo hO
      refine va_get (ci := 8) (C := RX8) (T := TX8) (N := 49) (v := .ref (ad 13)) hx hb hts inX8 hown hK hP 0 (zw_at (by decide) e54) rfl 24 (by decide) fl47 (fun _ h => h) rfl dX8_step_54 ?_
      refine lv_iload_n hx hb dX8_step_57 rfl (lv_at hl 1 rfl) ?_
      obtain ⟨f58, e58⟩ := mg_Nx hO
      refine z_iald hx hb hK hP (q0 := 13) 0 (by decide) e58 rfl (by omega) dX8_step_58 (fun v58 h58a => ?_)
      refine lv_aload_n hx hb dX8_step_59 rfl (lv_at hl 0 rfl) ?_
      refine va_get (ci := 8) (C := RX8) (T := TX8) (N := 49) (v := .ref (ad 14)) hx hb hts inX8 hown hK hP 0 (zw_at (by decide) e54) rfl 25 (by decide) fl50 (fun _ h => h) rfl dX8_step_60 ?_
      refine lv_iload_n hx hb dX8_step_63 rfl (lv_at hl 1 rfl) ?_
      obtain ⟨f64, e64⟩ := mg_Ny hO
      refine z_iald hx hb hK hP (q0 := 14) 0 (by decide) e64 rfl (by omega) dX8_step_64 (fun v64 h64a => ?_)
      refine lv_aload_n hx hb dX8_step_65 rfl (lv_at hl 0 rfl) ?_
      refine va_get (ci := 8) (C := RX8) (T := TX8) (N := 49) (v := .ref (ad 13)) hx hb hts inX8 hown hK hP 0 (zw_at (by decide) e54) rfl 24 (by decide) fl47 (fun _ h => h) rfl dX8_step_66 ?_
      refine lv_iload_n hx hb dX8_step_69 rfl (lv_at hl 2 rfl) ?_
      refine z_iald hx hb hK hP (q0 := 13) 0 (by decide) e58 rfl (by omega) dX8_step_70 (fun v70 h70 => ?_)
      refine lv_aload_n hx hb dX8_step_71 rfl (lv_at hl 0 rfl) ?_
      refine va_get (ci := 8) (C := RX8) (T := TX8) (N := 49) (v := .ref (ad 14)) hx hb hts inX8 hown hK hP 0 (zw_at (by decide) e54) rfl 25 (by decide) fl50 (fun _ h => h) rfl dX8_step_72 ?_
      refine lv_iload_n hx hb dX8_step_75 rfl (lv_at hl 2 rfl) ?_
      refine z_iald hx hb hK hP (q0 := 14) 0 (by decide) e64 rfl (by omega) dX8_step_76 (fun v76 h76 => ?_)
      refine z_ciP (z_rS (As := [.int v58, .int v64, .int v70, .int v76]) (rest := []) ⟨hx, hb, hml, hown, hts⟩ (c_X8_lengthOf l D (mT cy) 34 ad (fun c1 => c1 = ce) v58 v64 v70 v76) (va_cwS 4 hts (g_S mw_410 mw_411 mw_324 mw_412) rfl rfl rfl (by decide +kernel) ⟨Nat.le_of_ble_eq_true rfl, Nat.le_of_ble_eq_true rfl⟩) hK hN rfl hP rfl hl.1 rfl (Nat.le_of_ble_eq_true rfl) dX8_step_77 ⟨Nat.zero_le _, Nat.zero_le _⟩) hS (fun _ h => h) (fun v77 H locs h77 hP hS => ?_)
      refine lv_goto (tgt := 84) hx hb dX8_step_80 (by decide) ?_
      exact z_reti hx hb hr hlocks hP hS dX8_step_84 ⟨hO, trivial⟩
