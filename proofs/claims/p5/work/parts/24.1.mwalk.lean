set_option maxHeartbeats 8000000 in
set_option maxRecDepth 100000 in
theorem c_X8_isTaken (l : Launch) (D : va_G) (cy : Nat → ClassId) (ad : Nat → Nat) (cnt : Nat → Nat) (nd : Nat) (wn : Nat) (S : Nat → Int32) (By : Nat → Int32) (Ah : Nat → Int32) (PP : (Nat → va_E) → Prop) (hJ : zJ 34 ad) (p1 : Int32) (p2 : Int32) (p3 : Int32) (p4 : Int32) : zM l D (mT cy) 34 ad (fun c1 => mOK cy ad cnt nd wn S By Ah c1 ∧ PP c1) yX8_isTaken vsX8_isTaken { frames := 0, cells := 0, slots := 0, locals := 0 } ([.ref (ad 0), .int p1, .int p2, .int p3, .int p4] : List Value) (zQi D 34 ad (fun r ce => (mOK cy ad cnt nd wn S By Ah ce ∧ PP ce) ∧ (0 ≤ r.toInt ∧ r.toInt ≤ 1))) := by
  refine z_of (cc := cX8_isTaken) (maxL := 6) (ret := (some .boolean)) (by decide) rfl (Nat.le_of_ble_eq_true rfl) ?_
  intro p e s m below meth c hx hb hr hts hown hlocks hml hK hN ce hOK hP
  have hown : s.vm.findClass RX8 = some m.cls := hown
  have hS : va_S (zA 34 ad) s.heap s.heap [] := va_S.rf
  obtain ⟨hO, hPP⟩ := hOK
  have inX8 : ∀ w ∈ u_ws RX8 TX8 49, w ∈ vsX8_isTaken := fun w h => List.mem_cons_of_mem _ (inlX8 w h)
  have fl74 := hts (.fieldLink RX8 74 "GroundKeeperModel" "wl" "[I") (List.mem_cons_of_mem _ mw_422)
  have fl77 := hts (.fieldLink RX8 77 "GroundKeeperModel" "wx" "[I") (List.mem_cons_of_mem _ mw_423)
  have fl80 := hts (.fieldLink RX8 80 "GroundKeeperModel" "wy" "[I") (List.mem_cons_of_mem _ mw_424)
  have fl129 := hts (.fieldLink RX8 129 "GroundKeeperModel" "walkers" "I") (List.mem_cons_of_mem _ mw_425)
  have L3 : ∀ N3 : Nat, ∀ (H : Heap) (locs : List Loc) (x1 : Int32) (x2 : Int32) (x3 : Int32) (x4 : Int32) (x5 : Int32), va_P D vwCl (zw 34 ad ce) H → va_S (zA 34 ad) s.heap H locs → (0 ≤ x5.toInt ∧ x5.toInt ≤ 6) → (7 - x5.toInt ≤ (N3 : Int)) → ∀ ls : Array Slot, lv_has ls 6 [(0, .ref (ad 0)), (1, .int x1), (2, .int x2), (3, .int x3), (4, .int x4), (5, .int x5)] → W p l e { frames := 0, cells := 0, slots := 0, locals := 0 } s m ([.ref (ad 0), .int p1, .int p2, .int p3, .int p4] : List Value).toArray below meth c H locs 0 0 (MQ below (zQi D 34 ad (fun r ce => (mOK cy ad cnt nd wn S By Ah ce ∧ PP ce) ∧ (0 ≤ r.toInt ∧ r.toInt ≤ 1))) ([.ref (ad 0), .int p1, .int p2, .int p3, .int p4] : List Value).toArray s 0 0 (zA 34 ad)) (F0 m 3 ls []) := by
    intro N3
    induction N3 with
    | zero =>
      intro H locs x1 x2 x3 x4 x5 hP hS q_x5 hm ls hl
      exfalso; omega
    | succ N3 ih3 =>
      have J54 : ∀ (H : Heap) (locs : List Loc) (x1 : Int32) (x2 : Int32) (x3 : Int32) (x4 : Int32) (x5 : Int32), va_P D vwCl (zw 34 ad ce) H → va_S (zA 34 ad) s.heap H locs → (0 ≤ x5.toInt ∧ x5.toInt ≤ 5) → (7 - x5.toInt ≤ (N3 : Int) + 1) → ∀ ls : Array Slot, lv_has ls 6 [(0, .ref (ad 0)), (1, .int x1), (2, .int x2), (3, .int x3), (4, .int x4), (5, .int x5)] → W p l e { frames := 0, cells := 0, slots := 0, locals := 0 } s m ([.ref (ad 0), .int p1, .int p2, .int p3, .int p4] : List Value).toArray below meth c H locs 0 0 (MQ below (zQi D 34 ad (fun r ce => (mOK cy ad cnt nd wn S By Ah ce ∧ PP ce) ∧ (0 ≤ r.toInt ∧ r.toInt ≤ 1))) ([.ref (ad 0), .int p1, .int p2, .int p3, .int p4] : List Value).toArray s 0 0 (zA 34 ad)) (F0 m 54 ls []) := by
        intro H locs x1 x2 x3 x4 x5 hP hS q_x5 qm3 ls hl
        refine z_iinc (lv' := fun w0 => [(5, .int w0), (0, .ref (ad 0)), (1, .int x1), (2, .int x2), (3, .int x3), (4, .int x4)]) hx hb dX8_isTaken_54 hl (k := 5) rfl (by decide) (fun _ => rfl) (by decide) (by omega) (fun v54 ls h54 hl => ?_)
        refine lv_goto (tgt := 3) hx hb dX8_isTaken_57 (by decide) ?_
        exact ih3 _ _ x1 x2 x3 x4 v54 hP hS (by omega) (by omega) _ (lv_sub hl [1, 2, 3, 4, 5, 0] rfl)
      intro H locs x1 x2 x3 x4 x5 hP hS q_x5 hm ls hl
      refine lv_iload hx hb dX8_isTaken_3 (lv_at hl 5 rfl) ?_
      refine lv_aload_n hx hb dX8_isTaken_5 rfl (lv_at hl 0 rfl) ?_
      obtain ⟨v6, v6a, v6b, v6c, v6d, v6e, v6f, v6g, v6h, v6i, v6j, v6k, v6l, v6m, v6n, v6o, e6, h6, h6a, h6b, h6c, h6d, h6e, h6f, h6g, h6h, h6i, h6j, h6k, h6l, h6m, h6n, h6o, h6p, h6q, h6r, h6s, h6t, h6u⟩ := mg_Mo hO
      refine va_get (ci := 8) (C := RX8) (T := TX8) (N := 49) (v := .int v6n) hx hb hts inX8 hown hK hP 0 (zw_at (by decide) e6) rfl 35 (by decide) fl129 (fun _ h => h) rfl dX8_isTaken_6 ?_
      refine z_icmp_ge (tgt := 60) hx hb dX8_isTaken_9 (by decide) (fun c9 => ?_) (fun c9 => ?_)
      · skip
        refine z_ic hx hb dX8_isTaken_60 (by decide) (fun v60 h60 => ?_)
        exact z_retz hx hb hr hlocks hP hS dX8_isTaken_61 (by omega) ⟨⟨hO, hPP⟩, (by omega)⟩
      · skip
        refine lv_iload hx hb dX8_isTaken_12 (lv_at hl 5 rfl) ?_
        refine lv_iload_n hx hb dX8_isTaken_14 rfl (lv_at hl 1 rfl) ?_
        refine z_icmp_eq (tgt := 54) hx hb dX8_isTaken_15 (by decide) (fun c15 => ?_) (fun c15 => ?_)
        · skip
          exact J54 _ _ x1 x2 x3 x4 x5 hP hS (by omega) (by omega) _ (lv_sub hl [0, 1, 2, 3, 4, 5] rfl)
        · skip
          refine lv_aload_n hx hb dX8_isTaken_18 rfl (lv_at hl 0 rfl) ?_
          refine va_get (ci := 8) (C := RX8) (T := TX8) (N := 49) (v := .ref (ad 22)) hx hb hts inX8 hown hK hP 0 (zw_at (by decide) e6) rfl 36 (by decide) fl74 (fun _ h => h) rfl dX8_isTaken_19 ?_
          refine lv_iload hx hb dX8_isTaken_22 (lv_at hl 5 rfl) ?_
          obtain ⟨f24, e24⟩ := mg_Wl hO
          refine z_iald hx hb hK hP (q0 := 22) 0 (by decide) e24 rfl (by omega) dX8_isTaken_24 (fun v24 r24 => ?_)
          refine lv_iload_n hx hb dX8_isTaken_25 rfl (lv_at hl 2 rfl) ?_
          refine z_icmp_ne (tgt := 54) hx hb dX8_isTaken_26 (by decide) (fun c26 => ?_) (fun c26 => ?_)
          · skip
            exact J54 _ _ x1 x2 x3 x4 x5 hP hS (by omega) (by omega) _ (lv_sub hl [0, 1, 2, 3, 4, 5] rfl)
          · skip
            refine lv_aload_n hx hb dX8_isTaken_29 rfl (lv_at hl 0 rfl) ?_
            refine va_get (ci := 8) (C := RX8) (T := TX8) (N := 49) (v := .ref (ad 23)) hx hb hts inX8 hown hK hP 0 (zw_at (by decide) e6) rfl 37 (by decide) fl77 (fun _ h => h) rfl dX8_isTaken_30 ?_
            refine lv_iload hx hb dX8_isTaken_33 (lv_at hl 5 rfl) ?_
            obtain ⟨f35, e35⟩ := mg_Wx hO
            refine z_iald hx hb hK hP (q0 := 23) 0 (by decide) e35 rfl (by omega) dX8_isTaken_35 (fun v35 r35 => ?_)
            refine lv_iload_n hx hb dX8_isTaken_36 rfl (lv_at hl 3 rfl) ?_
            refine z_icmp_ne (tgt := 54) hx hb dX8_isTaken_37 (by decide) (fun c37 => ?_) (fun c37 => ?_)
            · skip
              exact J54 _ _ x1 x2 x3 x4 x5 hP hS (by omega) (by omega) _ (lv_sub hl [0, 1, 2, 3, 4, 5] rfl)
            · skip
              refine lv_aload_n hx hb dX8_isTaken_40 rfl (lv_at hl 0 rfl) ?_
              refine va_get (ci := 8) (C := RX8) (T := TX8) (N := 49) (v := .ref (ad 24)) hx hb hts inX8 hown hK hP 0 (zw_at (by decide) e6) rfl 38 (by decide) fl80 (fun _ h => h) rfl dX8_isTaken_41 ?_
              refine lv_iload hx hb dX8_isTaken_44 (lv_at hl 5 rfl) ?_
              obtain ⟨f46, e46⟩ := mg_Wz hO
              refine z_iald hx hb hK hP (q0 := 24) 0 (by decide) e46 rfl (by omega) dX8_isTaken_46 (fun v46 r46 => ?_)
              refine lv_iload hx hb dX8_isTaken_47 (lv_at hl 4 rfl) ?_
              refine z_icmp_ne (tgt := 54) hx hb dX8_isTaken_49 (by decide) (fun c49 => ?_) (fun c49 => ?_)
              · skip
                exact J54 _ _ x1 x2 x3 x4 x5 hP hS (by omega) (by omega) _ (lv_sub hl [0, 1, 2, 3, 4, 5] rfl)
              · skip
                refine z_ic hx hb dX8_isTaken_52 (by decide) (fun v52 h52 => ?_)
                exact z_retz hx hb hr hlocks hP hS dX8_isTaken_53 (by omega) ⟨⟨hO, hPP⟩, (by omega)⟩
  intro ls hl
  have hl : lv_has ls 6 [(0, .ref (ad 0)), (1, .int p1), (2, .int p2), (3, .int p3), (4, .int p4)] := hl
  refine z_ic hx hb dX8_isTaken_0 (by decide) (fun v0 h0 => ?_)
  refine lv_istore (lv' := [(5, .int v0), (0, .ref (ad 0)), (1, .int p1), (2, .int p2), (3, .int p3), (4, .int p4)]) hx hb dX8_isTaken_1 hl (by decide) rfl (fun ls hl => ?_)
  exact L3 8 _ _ p1 p2 p3 p4 v0 hP hS (by omega) (by omega) _ (lv_sub hl [1, 2, 3, 4, 5, 0] rfl)
set_option maxHeartbeats 8000000 in
set_option maxRecDepth 100000 in
theorem c_X8_isWalker (l : Launch) (D : va_G) (cy : Nat → ClassId) (ad : Nat → Nat) (cnt : Nat → Nat) (nd : Nat) (wn : Nat) (S : Nat → Int32) (By : Nat → Int32) (Ah : Nat → Int32) (PP : (Nat → va_E) → Prop) (hJ : zJ 34 ad) (p1 : Int32) : zM l D (mT cy) 34 ad (fun c1 => mOK cy ad cnt nd wn S By Ah c1 ∧ PP c1) yX8_isWalker vsX8_isWalker { frames := 1, cells := 0, slots := 0, locals := 22 } ([.ref (ad 0), .int p1] : List Value) (zQi D 34 ad (fun r ce => (mOK cy ad cnt nd wn S By Ah ce ∧ PP ce) ∧ ((r.toInt = 0) ∨ (r.toInt = 1 ∧ 0 ≤ p1.toInt ∧ p1.toInt ≤ 5)))) := by
  refine z_of (cc := cX8_isWalker) (maxL := 2) (ret := (some .boolean)) (by decide) rfl (Nat.le_of_ble_eq_true rfl) ?_
  intro p e s m below meth c hx hb hr hts hown hlocks hml hK hN ce hOK hP
  have hown : s.vm.findClass RX8 = some m.cls := hown
  have hS : va_S (zA 34 ad) s.heap s.heap [] := va_S.rf
  obtain ⟨hO, hPP⟩ := hOK
  have inX8 : ∀ w ∈ u_ws RX8 TX8 49, w ∈ vsX8_isWalker := fun w h => List.mem_cons_of_mem _ (inlX8 w h)
  have fl129 := hts (.fieldLink RX8 129 "GroundKeeperModel" "walkers" "I") (List.mem_cons_of_mem _ mw_425)
  intro ls hl
  have hl : lv_has ls 2 [(0, .ref (ad 0)), (1, .int p1)] := hl
  refine lv_iload_n hx hb dX8_isWalker_0 rfl (lv_at hl 1 rfl) ?_
  refine z_ic hx hb dX8_isWalker_1 (by decide) (fun v1 h1 => ?_)
  refine lv_aload_n hx hb dX8_isWalker_2 rfl (lv_at hl 0 rfl) ?_
  obtain ⟨v3, v3a, v3b, v3c, v3d, v3e, v3f, v3g, v3h, v3i, v3j, v3k, v3l, v3m, v3n, v3o, e3, h3, h3a, h3b, h3c, h3d, h3e, h3f, h3g, h3h, h3i, h3j, h3k, h3l, h3m, h3n, h3o, h3p, h3q, h3r, h3s, h3t, h3u⟩ := mg_Mo hO
  refine va_get (ci := 8) (C := RX8) (T := TX8) (N := 49) (v := .int v3n) hx hb hts inX8 hown hK hP 0 (zw_at (by decide) e3) rfl 35 (by decide) fl129 (fun _ h => h) rfl dX8_isWalker_3 ?_
  refine z_ic hx hb dX8_isWalker_6 (by decide) (fun v6 h6 => ?_)
  refine z_subE hx hb dX8_isWalker_7 (by omega) (fun v7 h7 => ?_)
  refine z_ciP (z_rS (As := [.int p1, .int v1, .int v7]) (rest := []) ⟨hx, hb, hml, hown, hts⟩ (c_X8_in l D (mT cy) 34 ad (fun c1 => c1 = ce) p1 v1 v7) (va_cwS 3 hts (g_S mw_322 mw_323 mw_324 mw_325) rfl rfl rfl (by decide +kernel) ⟨Nat.le_of_ble_eq_true rfl, Nat.le_of_ble_eq_true rfl⟩) hK hN rfl hP rfl hl.1 rfl (Nat.le_of_ble_eq_true rfl) dX8_isWalker_8 ⟨Nat.zero_le _, Nat.zero_le _⟩) hS (fun _ h => h) (fun v8 H locs h8 hP hS => ?_)
  exact z_retz hx hb hr hlocks hP hS dX8_isWalker_11 (by omega) ⟨⟨hO, hPP⟩, (by omega)⟩
set_option maxHeartbeats 8000000 in
set_option maxRecDepth 100000 in
theorem c_X8_follows (l : Launch) (D : va_G) (cy : Nat → ClassId) (ad : Nat → Nat) (cnt : Nat → Nat) (nd : Nat) (wn : Nat) (S : Nat → Int32) (By : Nat → Int32) (Ah : Nat → Int32) (hJ : zJ 34 ad) (hT : Tree nd By) (hn : 2 ≤ nd ∧ nd ≤ 94) (p1 : Int32) (q_p1 : 0 ≤ p1.toInt ∧ p1.toInt ≤ 5) : zM l D (mT cy) 34 ad (mOK cy ad cnt nd wn S By Ah) yX8_follows vsX8_follows { frames := 1, cells := 0, slots := 0, locals := 22 } ([.ref (ad 0), .int p1] : List Value) (zQv D 34 ad (fun ce => ∃ wn2 Ah2, mOK cy ad cnt nd wn2 S By Ah2 ce)) := by
  refine z_of (cc := cX8_follows) (maxL := 3) (ret := none) (by decide) rfl (Nat.le_of_ble_eq_true rfl) ?_
  intro p e s m below meth c hx hb hr hts hown hlocks hml hK hN ce hOK hP
  have hown : s.vm.findClass RX8 = some m.cls := hown
  have hS : va_S (zA 34 ad) s.heap s.heap [] := va_S.rf
  have hO := hOK
  have inX8 : ∀ w ∈ u_ws RX8 TX8 49, w ∈ vsX8_follows := fun w h => List.mem_cons_of_mem _ (inlX8 w h)
  have fl44 := hts (.fieldLink RX8 44 "GroundKeeperModel" "nl" "[I") (List.mem_cons_of_mem _ mw_380)
  have fl47 := hts (.fieldLink RX8 47 "GroundKeeperModel" "nx" "[I") (List.mem_cons_of_mem _ mw_381)
  have fl50 := hts (.fieldLink RX8 50 "GroundKeeperModel" "ny" "[I") (List.mem_cons_of_mem _ mw_382)
  have fl62 := hts (.fieldLink RX8 62 "GroundKeeperModel" "way" "[I") (List.mem_cons_of_mem _ mw_416)
  have fl83 := hts (.fieldLink RX8 83 "GroundKeeperModel" "ahead" "[I") (List.mem_cons_of_mem _ mw_426)
  have fl86 := hts (.fieldLink RX8 86 "GroundKeeperModel" "rowLevel" "[I") (List.mem_cons_of_mem _ mw_427)
  have fl89 := hts (.fieldLink RX8 89 "GroundKeeperModel" "rowX" "[I") (List.mem_cons_of_mem _ mw_428)
  have fl92 := hts (.fieldLink RX8 92 "GroundKeeperModel" "rowY" "[I") (List.mem_cons_of_mem _ mw_429)
  have fl237 := hts (.fieldLink RX8 237 "GroundKeeperModel" "wayLong" "I") (List.mem_cons_of_mem _ mw_417)
  have L18 : ∀ N18 : Nat, ∀ (H : Heap) (locs : List Loc) (ce : Nat → va_E) (wn1 : Nat) (Ah1 : Nat → Int32) (x1 : Int32) (x2 : Int32), va_P D vwCl (zw 34 ad ce) H → va_S (zA 34 ad) s.heap H locs → mOK cy ad cnt nd wn1 S By Ah1 ce → (0 ≤ x1.toInt ∧ x1.toInt ≤ 5) → (1 ≤ x2.toInt ∧ x2.toInt ≤ 94) → (95 - x2.toInt ≤ (N18 : Int)) → ∀ ls : Array Slot, lv_has ls 3 [(0, .ref (ad 0)), (1, .int x1), (2, .int x2)] → W p l e { frames := 1, cells := 0, slots := 0, locals := 22 } s m ([.ref (ad 0), .int p1] : List Value).toArray below meth c H locs 0 0 (MQ below (zQv D 34 ad (fun ce => ∃ wn2 Ah2, mOK cy ad cnt nd wn2 S By Ah2 ce)) ([.ref (ad 0), .int p1] : List Value).toArray s 0 0 (zA 34 ad)) (F0 m 18 ls []) := by
    intro N18
    induction N18 with
    | zero =>
      intro H locs ce wn1 Ah1 x1 x2 hP hS hO q_x1 q_x2 hm ls hl
      exfalso; omega
    | succ N18 ih18 =>
      intro H locs ce wn1 Ah1 x1 x2 hP hS hO q_x1 q_x2 hm ls hl
      refine lv_iload_n hx hb dX8_follows_18 rfl (lv_at hl 2 rfl) ?_
      refine lv_aload_n hx hb dX8_follows_19 rfl (lv_at hl 0 rfl) ?_
      obtain ⟨v20, v20a, v20b, v20c, v20d, v20e, v20f, v20g, v20h, v20i, v20j, v20k, v20l, v20m, v20n, v20o, e20, h20, h20a, h20b, h20c, h20d, h20e, h20f, h20g, h20h, h20i, h20j, h20k, h20l, h20m, h20n, h20o, h20p, h20q, h20r, h20s, h20t, h20u⟩ := mg_Mo hO
      refine va_get (ci := 8) (C := RX8) (T := TX8) (N := 49) (v := .int v20l) hx hb hts inX8 hown hK hP 0 (zw_at (by decide) e20) rfl 29 (by decide) fl237 (fun _ h => h) rfl dX8_follows_20 ?_
      refine z_icmp_ge (tgt := 104) hx hb dX8_follows_23 (by decide) (fun c23 => ?_) (fun c23 => ?_)
      · skip
        exact z_retv hx hb hr hlocks hP hS dX8_follows_104 ⟨_, _, hO⟩
      · skip
        refine lv_aload_n hx hb dX8_follows_26 rfl (lv_at hl 0 rfl) ?_
        refine va_get (ci := 8) (C := RX8) (T := TX8) (N := 49) (v := .ref (ad 26)) hx hb hts inX8 hown hK hP 0 (zw_at (by decide) e20) rfl 40 (by decide) fl86 (fun _ h => h) rfl dX8_follows_27 ?_
        refine z_bi hx hb dX8_follows_30 (by decide) (fun v30 h30 => ?_)
        refine lv_iload_n hx hb dX8_follows_32 rfl (lv_at hl 1 rfl) ?_
        refine z_mulJ hx hb 94 dX8_follows_33 (by omega) (by omega) (fun v33 h33 => ?_)
        refine lv_iload_n hx hb dX8_follows_34 rfl (lv_at hl 2 rfl) ?_
        refine z_addE hx hb dX8_follows_35 (by omega) (fun v35 h35 => ?_)
        refine z_ic hx hb dX8_follows_36 (by decide) (fun v36 h36 => ?_)
        refine z_subE hx hb dX8_follows_37 (by omega) (fun v37 h37 => ?_)
        refine lv_aload_n hx hb dX8_follows_38 rfl (lv_at hl 0 rfl) ?_
        refine va_get (ci := 8) (C := RX8) (T := TX8) (N := 49) (v := .ref (ad 12)) hx hb hts inX8 hown hK hP 0 (zw_at (by decide) e20) rfl 23 (by decide) fl44 (fun _ h => h) rfl dX8_follows_39 ?_
        refine lv_aload_n hx hb dX8_follows_42 rfl (lv_at hl 0 rfl) ?_
        refine va_get (ci := 8) (C := RX8) (T := TX8) (N := 49) (v := .ref (ad 18)) hx hb hts inX8 hown hK hP 0 (zw_at (by decide) e20) rfl 30 (by decide) fl62 (fun _ h => h) rfl dX8_follows_43 ?_
        refine lv_iload_n hx hb dX8_follows_46 rfl (lv_at hl 2 rfl) ?_
        obtain ⟨f47, e47, h47⟩ := mg_Wy hO
        refine z_iald hx hb hK hP (q0 := 18) 0 (by decide) e47 rfl (by omega) dX8_follows_47 (fun v47 r47 => ?_)
        have h47a : 0 ≤ v47.toInt ∧ v47.toInt ≤ 93 := by obtain ⟨i0, _, i1, i2⟩ := r47; rw [i2]; exact h47 i0 i1
        obtain ⟨f48, e48⟩ := mg_Nl hO
        refine z_iald hx hb hK hP (q0 := 12) 0 (by decide) e48 rfl (by omega) dX8_follows_48 (fun v48 r48 => ?_)
        obtain ⟨f49, e49⟩ := mg_RL hO
        refine z_iast hx hb hK hJ hP hS (q0 := 26) 0 (by decide) e49 rfl (z_in (by omega) (by omega)) dX8_follows_49 (fun ce H locs e49a h49a hP hS => ?_)
        have hO := z_up (OKK := mK cy ad cnt nd wn1 S By Ah1) 26 hO h49a (by rw [e49a]; exact mE_RL |>.mpr ⟨_, rfl⟩)
        have e49b := (h49a 0 (by omega)).trans e20
        have e49c := (h49a 18 (by omega)).trans e47
        have e49d := (h49a 12 (by omega)).trans e48
        refine lv_aload_n hx hb dX8_follows_50 rfl (lv_at hl 0 rfl) ?_
        refine va_get (ci := 8) (C := RX8) (T := TX8) (N := 49) (v := .ref (ad 27)) hx hb hts inX8 hown hK hP 0 (zw_at (by decide) e49b) rfl 41 (by decide) fl89 (fun _ h => h) rfl dX8_follows_51 ?_
        refine z_bi hx hb dX8_follows_54 (by decide) (fun v54 h54 => ?_)
        refine lv_iload_n hx hb dX8_follows_56 rfl (lv_at hl 1 rfl) ?_
        refine z_mulJ hx hb 94 dX8_follows_57 (by omega) (by omega) (fun v57 h57 => ?_)
        refine lv_iload_n hx hb dX8_follows_58 rfl (lv_at hl 2 rfl) ?_
        refine z_addE hx hb dX8_follows_59 (by omega) (fun v59 h59 => ?_)
        refine z_ic hx hb dX8_follows_60 (by decide) (fun v60 h60 => ?_)
        refine z_subE hx hb dX8_follows_61 (by omega) (fun v61 h61 => ?_)
        refine lv_aload_n hx hb dX8_follows_62 rfl (lv_at hl 0 rfl) ?_
        refine va_get (ci := 8) (C := RX8) (T := TX8) (N := 49) (v := .ref (ad 13)) hx hb hts inX8 hown hK hP 0 (zw_at (by decide) e49b) rfl 24 (by decide) fl47 (fun _ h => h) rfl dX8_follows_63 ?_
        refine lv_aload_n hx hb dX8_follows_66 rfl (lv_at hl 0 rfl) ?_
        refine va_get (ci := 8) (C := RX8) (T := TX8) (N := 49) (v := .ref (ad 18)) hx hb hts inX8 hown hK hP 0 (zw_at (by decide) e49b) rfl 30 (by decide) fl62 (fun _ h => h) rfl dX8_follows_67 ?_
        refine lv_iload_n hx hb dX8_follows_70 rfl (lv_at hl 2 rfl) ?_
        refine z_iald hx hb hK hP (q0 := 18) 0 (by decide) e49c rfl (by omega) dX8_follows_71 (fun v71 r71 => ?_)
        have h71 : 0 ≤ v71.toInt ∧ v71.toInt ≤ 93 := by obtain ⟨i0, _, i1, i2⟩ := r71; rw [i2]; exact h47 i0 i1
        obtain ⟨f72, e72⟩ := mg_Nx hO
        refine z_iald hx hb hK hP (q0 := 13) 0 (by decide) e72 rfl (by omega) dX8_follows_72 (fun v72 r72 => ?_)
        obtain ⟨f73, e73⟩ := mg_RX hO
        refine z_iast hx hb hK hJ hP hS (q0 := 27) 0 (by decide) e73 rfl (z_in (by omega) (by omega)) dX8_follows_73 (fun ce H locs e73a h73a hP hS => ?_)
        have hO := z_up (OKK := mK cy ad cnt nd wn1 S By Ah1) 27 hO h73a (by rw [e73a]; exact mE_RX |>.mpr ⟨_, rfl⟩)
        have e73b := (h73a 0 (by omega)).trans e49b
        have e73c := (h73a 18 (by omega)).trans e49c
        have e73d := (h73a 12 (by omega)).trans e49d
        have e73e := (h73a 13 (by omega)).trans e72
        refine lv_aload_n hx hb dX8_follows_74 rfl (lv_at hl 0 rfl) ?_
        refine va_get (ci := 8) (C := RX8) (T := TX8) (N := 49) (v := .ref (ad 28)) hx hb hts inX8 hown hK hP 0 (zw_at (by decide) e73b) rfl 42 (by decide) fl92 (fun _ h => h) rfl dX8_follows_75 ?_
        refine z_bi hx hb dX8_follows_78 (by decide) (fun v78 h78 => ?_)
        refine lv_iload_n hx hb dX8_follows_80 rfl (lv_at hl 1 rfl) ?_
        refine z_mulJ hx hb 94 dX8_follows_81 (by omega) (by omega) (fun v81 h81 => ?_)
        refine lv_iload_n hx hb dX8_follows_82 rfl (lv_at hl 2 rfl) ?_
        refine z_addE hx hb dX8_follows_83 (by omega) (fun v83 h83 => ?_)
        refine z_ic hx hb dX8_follows_84 (by decide) (fun v84 h84 => ?_)
        refine z_subE hx hb dX8_follows_85 (by omega) (fun v85 h85 => ?_)
        refine lv_aload_n hx hb dX8_follows_86 rfl (lv_at hl 0 rfl) ?_
        refine va_get (ci := 8) (C := RX8) (T := TX8) (N := 49) (v := .ref (ad 14)) hx hb hts inX8 hown hK hP 0 (zw_at (by decide) e73b) rfl 25 (by decide) fl50 (fun _ h => h) rfl dX8_follows_87 ?_
        refine lv_aload_n hx hb dX8_follows_90 rfl (lv_at hl 0 rfl) ?_
        refine va_get (ci := 8) (C := RX8) (T := TX8) (N := 49) (v := .ref (ad 18)) hx hb hts inX8 hown hK hP 0 (zw_at (by decide) e73b) rfl 30 (by decide) fl62 (fun _ h => h) rfl dX8_follows_91 ?_
        refine lv_iload_n hx hb dX8_follows_94 rfl (lv_at hl 2 rfl) ?_
        refine z_iald hx hb hK hP (q0 := 18) 0 (by decide) e73c rfl (by omega) dX8_follows_95 (fun v95 r95 => ?_)
        have h95 : 0 ≤ v95.toInt ∧ v95.toInt ≤ 93 := by obtain ⟨i0, _, i1, i2⟩ := r95; rw [i2]; exact h47 i0 i1
        obtain ⟨f96, e96⟩ := mg_Ny hO
        refine z_iald hx hb hK hP (q0 := 14) 0 (by decide) e96 rfl (by omega) dX8_follows_96 (fun v96 r96 => ?_)
        obtain ⟨f97, e97⟩ := mg_RY hO
        refine z_iast hx hb hK hJ hP hS (q0 := 28) 0 (by decide) e97 rfl (z_in (by omega) (by omega)) dX8_follows_97 (fun ce H locs e97a h97a hP hS => ?_)
        have hO := z_up (OKK := mK cy ad cnt nd wn1 S By Ah1) 28 hO h97a (by rw [e97a]; exact mE_RY |>.mpr ⟨_, rfl⟩)
        have e97b := (h97a 0 (by omega)).trans e73b
        have e97c := (h97a 18 (by omega)).trans e73c
        have e97d := (h97a 12 (by omega)).trans e73d
        have e97e := (h97a 13 (by omega)).trans e73e
        have e97f := (h97a 14 (by omega)).trans e96
        refine z_iinc (lv' := fun w0 => [(2, .int w0), (0, .ref (ad 0)), (1, .int x1)]) hx hb dX8_follows_98 hl (k := 2) rfl (by decide) (fun _ => rfl) (by decide) (by omega) (fun v98 ls h98 hl => ?_)
        refine lv_goto (tgt := 18) hx hb dX8_follows_101 (by decide) ?_
        exact ih18 _ _ _ wn1 Ah1 x1 v98 hP hS hO (by omega) (by omega) (by omega) _ (lv_sub hl [1, 2, 0] rfl)
  intro ls hl
  have hl : lv_has ls 3 [(0, .ref (ad 0)), (1, .int p1)] := hl
  refine lv_aload_n hx hb dX8_follows_0 rfl (lv_at hl 0 rfl) ?_
  obtain ⟨v1, v1a, v1b, v1c, v1d, v1e, v1f, v1g, v1h, v1i, v1j, v1k, v1l, v1m, v1n, v1o, e1, h1, h1a, h1b, h1c, h1d, h1e, h1f, h1g, h1h, h1i, h1j, h1k, h1l, h1m, h1n, h1o, h1p, h1q, h1r, h1s, h1t, h1u⟩ := mg_Mo hO
  refine z_cv (z_rV (q0 := 0) (As := []) (rest := []) ⟨hx, hb, hml, hown, hts⟩ (c_X8_readBack l D cy ad cnt nd wn S By Ah hJ hT hn) (cwV 0 hts (g_V mw_435 mw_436 mw_437 mw_324 mw_438) rfl rfl rfl (by decide +kernel) ⟨Nat.le_of_ble_eq_true rfl, Nat.le_of_ble_eq_true rfl⟩) hK hN hO hP (by decide) e1 rfl rfl hl.1 rfl (Nat.le_of_ble_eq_true rfl) dX8_follows_1 ⟨Nat.zero_le _, Nat.zero_le _⟩) hS (fun ce H locs h1v hP hS => ?_)
  obtain ⟨wn1, wn1h, hO⟩ := h1v
  refine lv_aload_n hx hb dX8_follows_4 rfl (lv_at hl 0 rfl) ?_
  obtain ⟨v5, v5a, v5b, v5c, v5d, v5e, v5f, v5g, v5h, v5i, v5j, v5k, v5l, v5m, v5n, v5o, e5, h5, h5a, h5b, h5c, h5d, h5e, h5f, h5g, h5h, h5i, h5j, h5k, h5l, h5m, h5n, h5o, h5p, h5q, h5r, h5s, h5t, h5u⟩ := mg_Mo hO
  refine va_get (ci := 8) (C := RX8) (T := TX8) (N := 49) (v := .ref (ad 25)) hx hb hts inX8 hown hK hP 0 (zw_at (by decide) e5) rfl 39 (by decide) fl83 (fun _ h => h) rfl dX8_follows_5 ?_
  refine lv_iload_n hx hb dX8_follows_8 rfl (lv_at hl 1 rfl) ?_
  refine lv_aload_n hx hb dX8_follows_9 rfl (lv_at hl 0 rfl) ?_
  refine va_get (ci := 8) (C := RX8) (T := TX8) (N := 49) (v := .int v5l) hx hb hts inX8 hown hK hP 0 (zw_at (by decide) e5) rfl 29 (by decide) fl237 (fun _ h => h) rfl dX8_follows_10 ?_
  refine z_ic hx hb dX8_follows_13 (by decide) (fun v13 h13 => ?_)
  refine z_subE hx hb dX8_follows_14 (by omega) (fun v14 h14 => ?_)
  obtain ⟨e15, h15⟩ := mg_Ah hO
  refine z_iast hx hb hK hJ hP hS (q0 := 25) 0 (by decide) e15 rfl (z_in (by omega) (by omega)) dX8_follows_15 (fun ce H locs e15a h15a hP hS => ?_)
  obtain ⟨Ah15, Ah15h⟩ : ∃ z, z = upd Ah p1.toNatClampNeg v14 := ⟨_, rfl⟩
  rw [← Ah15h] at e15a
  have Ah15c : ∀ i0 : Nat, i0 < 6 → 0 ≤ (Ah15 i0).toInt ∧ (Ah15 i0).toInt ≤ 93 := by rw [Ah15h]; exact fun i0 i1 => z_updc h15 (by omega) i0 i1
  have hO := z_up2 (OKK := mK cy ad cnt nd wn1 S By Ah) (OKL := mK cy ad cnt nd wn1 S By Ah15) 25 hO h15a (fun q e _ h => mK_Ah (by assumption) h) (by rw [e15a]; exact mE_Ah |>.mpr ⟨rfl, Ah15c⟩)
  have e15b := (h15a 0 (by omega)).trans e5
  refine z_ic hx hb dX8_follows_16 (by decide) (fun v16 h16 => ?_)
  refine lv_istore_n (lv' := [(2, .int v16), (0, .ref (ad 0)), (1, .int p1)]) hx hb dX8_follows_17 rfl hl (by decide) rfl (fun ls hl => ?_)
  exact L18 95 _ _ _ wn1 Ah15 p1 v16 hP hS hO (by omega) (by omega) (by omega) _ (lv_sub hl [1, 2, 0] rfl)
set_option maxHeartbeats 8000000 in
set_option maxRecDepth 100000 in
theorem c_X8_looksAnew (l : Launch) (D : va_G) (cy : Nat → ClassId) (ad : Nat → Nat) (cnt : Nat → Nat) (nd : Nat) (wn : Nat) (S : Nat → Int32) (By : Nat → Int32) (Ah : Nat → Int32) (hJ : zJ 34 ad) (p1 : Int32) (q_p1 : 0 ≤ p1.toInt ∧ p1.toInt ≤ 5) (hA : ∀ q : Nat, (q : Int) = p1.toInt → 1 ≤ (Ah q).toInt) : zM l D (mT cy) 34 ad (mOK cy ad cnt nd wn S By Ah) yX8_looksAnew vsX8_looksAnew { frames := 7, cells := 0, slots := 0, locals := 171 } ([.ref (ad 0), .int p1] : List Value) (zQv D 34 ad (fun ce => mEX cy ad cnt ce)) := by
  refine z_of (cc := cX8_looksAnew) (maxL := 8) (ret := none) (by decide) rfl (Nat.le_of_ble_eq_true rfl) ?_
  intro p e s m below meth c hx hb hr hts hown hlocks hml hK hN ce hOK hP
  have hown : s.vm.findClass RX8 = some m.cls := hown
  have hS : va_S (zA 34 ad) s.heap s.heap [] := va_S.rf
  have hO := hOK
  have inX8 : ∀ w ∈ u_ws RX8 TX8 49, w ∈ vsX8_looksAnew := fun w h => List.mem_cons_of_mem _ (inlX8 w h)
  have fl41 := hts (.fieldLink RX8 41 "GroundKeeperModel" "isNode" "[Z") (List.mem_cons_of_mem _ mw_379)
  have fl44 := hts (.fieldLink RX8 44 "GroundKeeperModel" "nl" "[I") (List.mem_cons_of_mem _ mw_380)
  have fl47 := hts (.fieldLink RX8 47 "GroundKeeperModel" "nx" "[I") (List.mem_cons_of_mem _ mw_381)
  have fl50 := hts (.fieldLink RX8 50 "GroundKeeperModel" "ny" "[I") (List.mem_cons_of_mem _ mw_382)
  have fl53 := hts (.fieldLink RX8 53 "GroundKeeperModel" "far" "[I") (List.mem_cons_of_mem _ mw_413)
  have fl74 := hts (.fieldLink RX8 74 "GroundKeeperModel" "wl" "[I") (List.mem_cons_of_mem _ mw_422)
  have fl77 := hts (.fieldLink RX8 77 "GroundKeeperModel" "wx" "[I") (List.mem_cons_of_mem _ mw_423)
  have fl80 := hts (.fieldLink RX8 80 "GroundKeeperModel" "wy" "[I") (List.mem_cons_of_mem _ mw_424)
  have fl83 := hts (.fieldLink RX8 83 "GroundKeeperModel" "ahead" "[I") (List.mem_cons_of_mem _ mw_426)
  have fl86 := hts (.fieldLink RX8 86 "GroundKeeperModel" "rowLevel" "[I") (List.mem_cons_of_mem _ mw_427)
  have fl89 := hts (.fieldLink RX8 89 "GroundKeeperModel" "rowX" "[I") (List.mem_cons_of_mem _ mw_428)
  have fl92 := hts (.fieldLink RX8 92 "GroundKeeperModel" "rowY" "[I") (List.mem_cons_of_mem _ mw_429)
  have fl98 := hts (.fieldLink RX8 98 "GroundKeeperModel" "isStuck" "[Z") (List.mem_cons_of_mem _ mw_430)
  have fl107 := hts (.fieldLink RX8 107 "GroundKeeperModel" "looked" "[I") (List.mem_cons_of_mem _ mw_431)
  have fl214 := hts (.fieldLink RX8 214 "GroundKeeperModel" "nodes" "I") (List.mem_cons_of_mem _ mw_383)
  have L77 : ∀ N77 : Nat, ∀ (H : Heap) (locs : List Loc) (ce : Nat → va_E) (nd1 : Nat) (x1 : Int32) (x3 : Int32) (x4 : Int32) (x5 : Int32) (x6 : Int32), va_P D vwCl (zw 34 ad ce) H → va_S (zA 34 ad) s.heap H locs → mOK cy ad cnt nd1 wn S By Ah ce → (0 ≤ x1.toInt ∧ x1.toInt ≤ 5) → (1 ≤ x6.toInt ∧ x6.toInt ≤ 94) → (2 ≤ nd1 ∧ nd1 ≤ 94) → (95 - x6.toInt ≤ (N77 : Int)) → ∀ ls : Array Slot, lv_has ls 8 [(0, .ref (ad 0)), (1, .int x1), (3, .int x3), (4, .int x4), (5, .int x5), (6, .int x6)] → W p l e { frames := 7, cells := 0, slots := 0, locals := 171 } s m ([.ref (ad 0), .int p1] : List Value).toArray below meth c H locs 0 0 (MQ below (zQv D 34 ad (fun ce => mEX cy ad cnt ce)) ([.ref (ad 0), .int p1] : List Value).toArray s 0 0 (zA 34 ad)) (F0 m 77 ls []) := by
    intro N77
    induction N77 with
    | zero =>
      intro H locs ce nd1 x1 x3 x4 x5 x6 hP hS hO q_x1 q_x6 qx0 hm ls hl
      exfalso; omega
    | succ N77 ih77 =>
      have J183 : ∀ (H : Heap) (locs : List Loc) (ce : Nat → va_E) (nd1 : Nat) (x1 : Int32) (x3 : Int32) (x4 : Int32) (x5 : Int32) (x6 : Int32) (s1 : Int32) (s2 : Int32), va_P D vwCl (zw 34 ad ce) H → va_S (zA 34 ad) s.heap H locs → mOK cy ad cnt nd1 wn S By Ah ce → (0 ≤ x1.toInt ∧ x1.toInt ≤ 5) → (1 ≤ x6.toInt ∧ x6.toInt ≤ 93) → (1 ≤ s1.toInt ∧ s1.toInt ≤ 93) → (0 ≤ s2.toInt ∧ s2.toInt ≤ 1) → (2 ≤ nd1 ∧ nd1 ≤ 94) → (95 - x6.toInt ≤ (N77 : Int) + 1) → ∀ ls : Array Slot, lv_has ls 8 [(0, .ref (ad 0)), (1, .int x1), (3, .int x3), (4, .int x4), (5, .int x5), (6, .int x6)] → W p l e { frames := 7, cells := 0, slots := 0, locals := 171 } s m ([.ref (ad 0), .int p1] : List Value).toArray below meth c H locs 0 0 (MQ below (zQv D 34 ad (fun ce => mEX cy ad cnt ce)) ([.ref (ad 0), .int p1] : List Value).toArray s 0 0 (zA 34 ad)) (F0 m 183 ls [.int s2, .int s1, .ref (ad 11)]) := by
        intro H locs ce nd1 x1 x3 x4 x5 x6 s1 s2 hP hS hO q_x1 q_x6 q_s1 q_s2 qx0 qm77 ls hl
        obtain ⟨f183, e183⟩ := mg_In hO
        refine z_zast hx hb hK hJ hP hS (q0 := 11) 1 (by decide) e183 rfl (z_in (by omega) (by omega)) dX8_looksAnew_183 (fun ce H locs e183a h183a hP hS => ?_)
        have hO := z_up (OKK := mK cy ad cnt nd1 wn S By Ah) 11 hO h183a (by rw [e183a]; exact mE_In |>.mpr ⟨_, rfl⟩)
        refine z_iinc (lv' := fun w0 => [(6, .int w0), (0, .ref (ad 0)), (1, .int x1), (3, .int x3), (4, .int x4), (5, .int x5)]) hx hb dX8_looksAnew_184 hl (k := 5) rfl (by decide) (fun _ => rfl) (by decide) (by omega) (fun v184 ls h184 hl => ?_)
        refine lv_goto (tgt := 77) hx hb dX8_looksAnew_187 (by decide) ?_
        exact ih77 _ _ _ nd1 x1 x3 x4 x5 v184 hP hS hO (by omega) (by omega) (by omega) (by omega) _ (lv_sub hl [1, 2, 3, 4, 5, 0] rfl)
      have J182 : ∀ (H : Heap) (locs : List Loc) (ce : Nat → va_E) (nd1 : Nat) (x1 : Int32) (x3 : Int32) (x4 : Int32) (x5 : Int32) (x6 : Int32) (s1 : Int32), va_P D vwCl (zw 34 ad ce) H → va_S (zA 34 ad) s.heap H locs → mOK cy ad cnt nd1 wn S By Ah ce → (0 ≤ x1.toInt ∧ x1.toInt ≤ 5) → (1 ≤ x6.toInt ∧ x6.toInt ≤ 93) → (1 ≤ s1.toInt ∧ s1.toInt ≤ 93) → (2 ≤ nd1 ∧ nd1 ≤ 94) → (95 - x6.toInt ≤ (N77 : Int) + 1) → ∀ ls : Array Slot, lv_has ls 8 [(0, .ref (ad 0)), (1, .int x1), (3, .int x3), (4, .int x4), (5, .int x5), (6, .int x6)] → W p l e { frames := 7, cells := 0, slots := 0, locals := 171 } s m ([.ref (ad 0), .int p1] : List Value).toArray below meth c H locs 0 0 (MQ below (zQv D 34 ad (fun ce => mEX cy ad cnt ce)) ([.ref (ad 0), .int p1] : List Value).toArray s 0 0 (zA 34 ad)) (F0 m 182 ls [.int s1, .ref (ad 11)]) := by
        intro H locs ce nd1 x1 x3 x4 x5 x6 s1 hP hS hO q_x1 q_x6 q_s1 qx0 qm77 ls hl
        refine z_ic hx hb dX8_looksAnew_182 (by decide) (fun v182 h182 => ?_)
        exact J183 _ _ _ nd1 x1 x3 x4 x5 x6 s1 v182 hP hS hO (by omega) (by omega) (by omega) (by omega) (by omega) (by omega) _ (lv_sub hl [0, 1, 2, 3, 4, 5] rfl)
      have J178 : ∀ (H : Heap) (locs : List Loc) (ce : Nat → va_E) (nd1 : Nat) (x1 : Int32) (x3 : Int32) (x4 : Int32) (x5 : Int32) (x6 : Int32) (s1 : Int32), va_P D vwCl (zw 34 ad ce) H → va_S (zA 34 ad) s.heap H locs → mOK cy ad cnt nd1 wn S By Ah ce → (0 ≤ x1.toInt ∧ x1.toInt ≤ 5) → (1 ≤ x6.toInt ∧ x6.toInt ≤ 93) → (1 ≤ s1.toInt ∧ s1.toInt ≤ 93) → (2 ≤ nd1 ∧ nd1 ≤ 94) → (95 - x6.toInt ≤ (N77 : Int) + 1) → ∀ ls : Array Slot, lv_has ls 8 [(0, .ref (ad 0)), (1, .int x1), (3, .int x3), (4, .int x4), (5, .int x5), (6, .int x6)] → W p l e { frames := 7, cells := 0, slots := 0, locals := 171 } s m ([.ref (ad 0), .int p1] : List Value).toArray below meth c H locs 0 0 (MQ below (zQv D 34 ad (fun ce => mEX cy ad cnt ce)) ([.ref (ad 0), .int p1] : List Value).toArray s 0 0 (zA 34 ad)) (F0 m 178 ls [.int s1, .ref (ad 11)]) := by
        intro H locs ce nd1 x1 x3 x4 x5 x6 s1 hP hS hO q_x1 q_x6 q_s1 qx0 qm77 ls hl
        refine z_ic hx hb dX8_looksAnew_178 (by decide) (fun v178 h178 => ?_)
        refine lv_goto (tgt := 183) hx hb dX8_looksAnew_179 (by decide) ?_
        exact J183 _ _ _ nd1 x1 x3 x4 x5 x6 s1 v178 hP hS hO (by omega) (by omega) (by omega) (by omega) (by omega) (by omega) _ (lv_sub hl [0, 1, 2, 3, 4, 5] rfl)
      have J126 : ∀ (H : Heap) (locs : List Loc) (ce : Nat → va_E) (nd1 : Nat) (x1 : Int32) (x3 : Int32) (x4 : Int32) (x5 : Int32) (x6 : Int32) (s0 : Int32), va_P D vwCl (zw 34 ad ce) H → va_S (zA 34 ad) s.heap H locs → mOK cy ad cnt nd1 wn S By Ah ce → (0 ≤ x1.toInt ∧ x1.toInt ≤ 5) → (1 ≤ x6.toInt ∧ x6.toInt ≤ 93) → (0 ≤ s0.toInt ∧ s0.toInt ≤ 1) → (2 ≤ nd1 ∧ nd1 ≤ 94) → (95 - x6.toInt ≤ (N77 : Int) + 1) → ∀ ls : Array Slot, lv_has ls 8 [(0, .ref (ad 0)), (1, .int x1), (3, .int x3), (4, .int x4), (5, .int x5), (6, .int x6)] → W p l e { frames := 7, cells := 0, slots := 0, locals := 171 } s m ([.ref (ad 0), .int p1] : List Value).toArray below meth c H locs 0 0 (MQ below (zQv D 34 ad (fun ce => mEX cy ad cnt ce)) ([.ref (ad 0), .int p1] : List Value).toArray s 0 0 (zA 34 ad)) (F0 m 126 ls [.int s0]) := by
        intro H locs ce nd1 x1 x3 x4 x5 x6 s0 hP hS hO q_x1 q_x6 q_s0 qx0 qm77 ls hl
        refine lv_istore (lv' := [(7, .int s0), (0, .ref (ad 0)), (1, .int x1), (3, .int x3), (4, .int x4), (5, .int x5), (6, .int x6)]) hx hb dX8_looksAnew_126 hl (by decide) rfl (fun ls hl => ?_)
        refine lv_aload_n hx hb dX8_looksAnew_128 rfl (lv_at hl 1 rfl) ?_
        obtain ⟨v129, v129a, v129b, v129c, v129d, v129e, v129f, v129g, v129h, v129i, v129j, v129k, v129l, v129m, v129n, v129o, e129, h129, h129a, h129b, h129c, h129d, h129e, h129f, h129g, h129h, h129i, h129j, h129k, h129l, h129m, h129n, h129o, h129p, h129q, h129r, h129s, h129t, h129u⟩ := mg_Mo hO
        refine va_get (ci := 8) (C := RX8) (T := TX8) (N := 49) (v := .ref (ad 11)) hx hb hts inX8 hown hK hP 0 (zw_at (by decide) e129) rfl 22 (by decide) fl41 (fun _ h => h) rfl dX8_looksAnew_129 ?_
        refine lv_iload hx hb dX8_looksAnew_132 (lv_at hl 6 rfl) ?_
        refine lv_aload_n hx hb dX8_looksAnew_134 rfl (lv_at hl 1 rfl) ?_
        refine va_get (ci := 8) (C := RX8) (T := TX8) (N := 49) (v := .ref (ad 11)) hx hb hts inX8 hown hK hP 0 (zw_at (by decide) e129) rfl 22 (by decide) fl41 (fun _ h => h) rfl dX8_looksAnew_135 ?_
        refine lv_iload hx hb dX8_looksAnew_138 (lv_at hl 6 rfl) ?_
        obtain ⟨f140, e140⟩ := mg_In hO
        refine z_zald hx hb hK hP (q0 := 11) 1 (by decide) e140 rfl (by omega) dX8_looksAnew_140 (fun v140 r140 => ?_)
        refine z_if_eq (tgt := 182) hx hb dX8_looksAnew_141 (by decide) (fun c141 => ?_) (fun c141 => ?_)
        · skip
          exact J182 _ _ _ nd1 x1 x3 x4 x5 x6 x6 hP hS hO (by omega) (by omega) (by omega) (by omega) (by omega) _ (lv_sub hl [1, 2, 3, 4, 5, 6] rfl)
        · skip
          refine lv_iload hx hb dX8_looksAnew_144 (lv_at hl 0 rfl) ?_
          refine z_if_ne (tgt := 178) hx hb dX8_looksAnew_146 (by decide) (fun c146 => ?_) (fun c146 => ?_)
          · skip
            exact J178 _ _ _ nd1 x1 x3 x4 x5 x6 x6 hP hS hO (by omega) (by omega) (by omega) (by omega) (by omega) _ (lv_sub hl [1, 2, 3, 4, 5, 6] rfl)
          · skip
            refine lv_aload_n hx hb dX8_looksAnew_149 rfl (lv_at hl 1 rfl) ?_
            refine lv_iload_n hx hb dX8_looksAnew_150 rfl (lv_at hl 2 rfl) ?_
            refine lv_aload_n hx hb dX8_looksAnew_151 rfl (lv_at hl 1 rfl) ?_
            refine va_get (ci := 8) (C := RX8) (T := TX8) (N := 49) (v := .ref (ad 12)) hx hb hts inX8 hown hK hP 0 (zw_at (by decide) e129) rfl 23 (by decide) fl44 (fun _ h => h) rfl dX8_looksAnew_152 ?_
            refine lv_iload hx hb dX8_looksAnew_155 (lv_at hl 6 rfl) ?_
            obtain ⟨f157, e157⟩ := mg_Nl hO
            refine z_iald hx hb hK hP (q0 := 12) 0 (by decide) e157 rfl (by omega) dX8_looksAnew_157 (fun v157 r157 => ?_)
            refine lv_aload_n hx hb dX8_looksAnew_158 rfl (lv_at hl 1 rfl) ?_
            refine va_get (ci := 8) (C := RX8) (T := TX8) (N := 49) (v := .ref (ad 13)) hx hb hts inX8 hown hK hP 0 (zw_at (by decide) e129) rfl 24 (by decide) fl47 (fun _ h => h) rfl dX8_looksAnew_159 ?_
            refine lv_iload hx hb dX8_looksAnew_162 (lv_at hl 6 rfl) ?_
            obtain ⟨f164, e164⟩ := mg_Nx hO
            refine z_iald hx hb hK hP (q0 := 13) 0 (by decide) e164 rfl (by omega) dX8_looksAnew_164 (fun v164 r164 => ?_)
            refine lv_aload_n hx hb dX8_looksAnew_165 rfl (lv_at hl 1 rfl) ?_
            refine va_get (ci := 8) (C := RX8) (T := TX8) (N := 49) (v := .ref (ad 14)) hx hb hts inX8 hown hK hP 0 (zw_at (by decide) e129) rfl 25 (by decide) fl50 (fun _ h => h) rfl dX8_looksAnew_166 ?_
            refine lv_iload hx hb dX8_looksAnew_169 (lv_at hl 6 rfl) ?_
            obtain ⟨f171, e171⟩ := mg_Ny hO
            refine z_iald hx hb hK hP (q0 := 14) 0 (by decide) e171 rfl (by omega) dX8_looksAnew_171 (fun v171 r171 => ?_)
            refine z_ciP (z_rV (q0 := 0) (As := [.int x1, .int v157, .int v164, .int v171]) (rest := [.int x6, .ref (ad 11)]) ⟨hx, hb, hml, hown, hts⟩ (c_X8_isTaken l D cy ad cnt nd1 wn S By Ah (fun c1 => c1 = ce) hJ x1 v157 v164 v171) (cwV 4 hts (g_V mw_439 mw_440 mw_441 mw_324 mw_442) rfl rfl rfl (by decide +kernel) ⟨Nat.le_of_ble_eq_true rfl, Nat.le_of_ble_eq_true rfl⟩) hK hN ⟨hO, rfl⟩ hP (by decide) e129 rfl rfl hl.1 rfl (Nat.le_of_ble_eq_true rfl) dX8_looksAnew_172 ⟨Nat.zero_le _, Nat.zero_le _⟩) hS (fun _ h => h.2) (fun v172 H locs h172 hP hS => ?_)
            refine z_if_ne (tgt := 182) hx hb dX8_looksAnew_175 (by decide) (fun c175 => ?_) (fun c175 => ?_)
            · skip
              exact J182 _ _ _ nd1 x1 x3 x4 x5 x6 x6 hP hS hO (by omega) (by omega) (by omega) (by omega) (by omega) _ (lv_sub hl [1, 2, 3, 4, 5, 6] rfl)
            · skip
              exact J178 _ _ _ nd1 x1 x3 x4 x5 x6 x6 hP hS hO (by omega) (by omega) (by omega) (by omega) (by omega) _ (lv_sub hl [1, 2, 3, 4, 5, 6] rfl)
      have J125 : ∀ (H : Heap) (locs : List Loc) (ce : Nat → va_E) (nd1 : Nat) (x1 : Int32) (x3 : Int32) (x4 : Int32) (x5 : Int32) (x6 : Int32), va_P D vwCl (zw 34 ad ce) H → va_S (zA 34 ad) s.heap H locs → mOK cy ad cnt nd1 wn S By Ah ce → (0 ≤ x1.toInt ∧ x1.toInt ≤ 5) → (1 ≤ x6.toInt ∧ x6.toInt ≤ 93) → (2 ≤ nd1 ∧ nd1 ≤ 94) → (95 - x6.toInt ≤ (N77 : Int) + 1) → ∀ ls : Array Slot, lv_has ls 8 [(0, .ref (ad 0)), (1, .int x1), (3, .int x3), (4, .int x4), (5, .int x5), (6, .int x6)] → W p l e { frames := 7, cells := 0, slots := 0, locals := 171 } s m ([.ref (ad 0), .int p1] : List Value).toArray below meth c H locs 0 0 (MQ below (zQv D 34 ad (fun ce => mEX cy ad cnt ce)) ([.ref (ad 0), .int p1] : List Value).toArray s 0 0 (zA 34 ad)) (F0 m 125 ls []) := by
        intro H locs ce nd1 x1 x3 x4 x5 x6 hP hS hO q_x1 q_x6 qx0 qm77 ls hl
        refine z_ic hx hb dX8_looksAnew_125 (by decide) (fun v125 h125 => ?_)
        exact J126 _ _ _ nd1 x1 x3 x4 x5 x6 v125 hP hS hO (by omega) (by omega) (by omega) (by omega) (by omega) _ (lv_sub hl [0, 1, 2, 3, 4, 5] rfl)
      intro H locs ce nd1 x1 x3 x4 x5 x6 hP hS hO q_x1 q_x6 qx0 hm ls hl
      refine lv_iload hx hb dX8_looksAnew_77 (lv_at hl 5 rfl) ?_
      refine lv_aload_n hx hb dX8_looksAnew_79 rfl (lv_at hl 0 rfl) ?_
      obtain ⟨v80, v80a, v80b, v80c, v80d, v80e, v80f, v80g, v80h, v80i, v80j, v80k, v80l, v80m, v80n, v80o, e80, h80, h80a, h80b, h80c, h80d, h80e, h80f, h80g, h80h, h80i, h80j, h80k, h80l, h80m, h80n, h80o, h80p, h80q, h80r, h80s, h80t, h80u⟩ := mg_Mo hO
      refine va_get (ci := 8) (C := RX8) (T := TX8) (N := 49) (v := .int v80k) hx hb hts inX8 hown hK hP 0 (zw_at (by decide) e80) rfl 21 (by decide) fl214 (fun _ h => h) rfl dX8_looksAnew_80 ?_
      refine z_icmp_ge (tgt := 190) hx hb dX8_looksAnew_83 (by decide) (fun c83 => ?_) (fun c83 => ?_)
      · skip
        refine lv_aload_n hx hb dX8_looksAnew_190 rfl (lv_at hl 0 rfl) ?_
        refine z_cv (z_rV (q0 := 0) (As := []) (rest := []) ⟨hx, hb, hml, hown, hts⟩ (c_X8_settles l D cy ad cnt nd1 wn S By Ah hJ (by omega)) (cwV 0 hts (g_V mw_443 mw_444 mw_445 mw_324 mw_446) rfl rfl rfl (by decide +kernel) ⟨Nat.le_of_ble_eq_true rfl, Nat.le_of_ble_eq_true rfl⟩) hK hN hO hP (by decide) e80 rfl rfl hl.1 rfl (Nat.le_of_ble_eq_true rfl) dX8_looksAnew_191 ⟨Nat.zero_le _, Nat.zero_le _⟩) hS (fun ce H locs h191 hP hS => ?_)
        obtain ⟨S191, By191, hT191, hO⟩ := h191
        refine lv_aload_n hx hb dX8_looksAnew_194 rfl (lv_at hl 0 rfl) ?_
        obtain ⟨v195, v195a, v195b, v195c, v195d, v195e, v195f, v195g, v195h, v195i, v195j, v195k, v195l, v195m, v195n, v195o, e195, h195, h195a, h195b, h195c, h195d, h195e, h195f, h195g, h195h, h195i, h195j, h195k, h195l, h195m, h195n, h195o, h195p, h195q, h195r, h195s, h195t, h195u⟩ := mg_Mo hO
        refine va_get (ci := 8) (C := RX8) (T := TX8) (N := 49) (v := .ref (ad 15)) hx hb hts inX8 hown hK hP 0 (zw_at (by decide) e195) rfl 26 (by decide) fl53 (fun _ h => h) rfl dX8_looksAnew_195 ?_
        refine z_ic hx hb dX8_looksAnew_198 (by decide) (fun v198 h198 => ?_)
        obtain ⟨f199, e199⟩ := mg_Fa hO
        refine z_iald hx hb hK hP (q0 := 15) 0 (by decide) e199 rfl (by omega) dX8_looksAnew_199 (fun v199 r199 => ?_)
        refine z_ic hx hb dX8_looksAnew_200 (by decide) (fun v200 h200 => ?_)
        refine z_icmp_ne (tgt := 221) hx hb dX8_looksAnew_201 (by decide) (fun c201 => ?_) (fun c201 => ?_)
        · skip
          refine lv_aload_n hx hb dX8_looksAnew_221 rfl (lv_at hl 0 rfl) ?_
          refine lv_iload_n hx hb dX8_looksAnew_222 rfl (lv_at hl 1 rfl) ?_
          refine z_cv (z_rV (q0 := 0) (As := [.int x1]) (rest := []) ⟨hx, hb, hml, hown, hts⟩ (c_X8_follows l D cy ad cnt nd1 wn S191 By191 Ah hJ hT191 (by omega) x1 (by omega)) (cwV 1 hts (g_V mw_447 mw_448 mw_449 mw_324 mw_450) rfl rfl rfl (by decide +kernel) ⟨Nat.le_of_ble_eq_true rfl, Nat.le_of_ble_eq_true rfl⟩) hK hN hO hP (by decide) e195 rfl rfl hl.1 rfl (Nat.le_of_ble_eq_true rfl) dX8_looksAnew_223 ⟨Nat.zero_le _, Nat.zero_le _⟩) hS (fun ce H locs h223 hP hS => ?_)
          obtain ⟨wn223, Ah223, hO⟩ := h223
          exact z_retv hx hb hr hlocks hP hS dX8_looksAnew_226 ⟨_, _, _, _, _, hO⟩
        · skip
          refine lv_aload_n hx hb dX8_looksAnew_204 rfl (lv_at hl 0 rfl) ?_
          refine va_get (ci := 8) (C := RX8) (T := TX8) (N := 49) (v := .ref (ad 25)) hx hb hts inX8 hown hK hP 0 (zw_at (by decide) e195) rfl 39 (by decide) fl83 (fun _ h => h) rfl dX8_looksAnew_205 ?_
          refine lv_iload_n hx hb dX8_looksAnew_208 rfl (lv_at hl 1 rfl) ?_
          refine z_ic hx hb dX8_looksAnew_209 (by decide) (fun v209 h209 => ?_)
          obtain ⟨e210, h210⟩ := mg_Ah hO
          refine z_iast hx hb hK hJ hP hS (q0 := 25) 0 (by decide) e210 rfl (z_in (by omega) (by omega)) dX8_looksAnew_210 (fun ce H locs e210a h210a hP hS => ?_)
          obtain ⟨Ah210, Ah210h⟩ : ∃ z, z = upd Ah x1.toNatClampNeg v209 := ⟨_, rfl⟩
          rw [← Ah210h] at e210a
          have Ah210c : ∀ i0 : Nat, i0 < 6 → 0 ≤ (Ah210 i0).toInt ∧ (Ah210 i0).toInt ≤ 93 := by rw [Ah210h]; exact fun i0 i1 => z_updc h210 (by omega) i0 i1
          have hO := z_up2 (OKK := mK cy ad cnt nd1 wn S191 By191 Ah) (OKL := mK cy ad cnt nd1 wn S191 By191 Ah210) 25 hO h210a (fun q e _ h => mK_Ah (by assumption) h) (by rw [e210a]; exact mE_Ah |>.mpr ⟨rfl, Ah210c⟩)
          have e210b := (h210a 0 (by omega)).trans e195
          have e210c := (h210a 15 (by omega)).trans e199
          refine lv_aload_n hx hb dX8_looksAnew_211 rfl (lv_at hl 0 rfl) ?_
          refine va_get (ci := 8) (C := RX8) (T := TX8) (N := 49) (v := .ref (ad 30)) hx hb hts inX8 hown hK hP 0 (zw_at (by decide) e210b) rfl 44 (by decide) fl98 (fun _ h => h) rfl dX8_looksAnew_212 ?_
          refine lv_iload_n hx hb dX8_looksAnew_215 rfl (lv_at hl 1 rfl) ?_
          refine z_ic hx hb dX8_looksAnew_216 (by decide) (fun v216 h216 => ?_)
          obtain ⟨f217, e217⟩ := mg_Is hO
          refine z_zast hx hb hK hJ hP hS (q0 := 30) 1 (by decide) e217 rfl (z_in (by omega) (by omega)) dX8_looksAnew_217 (fun ce H locs e217a h217a hP hS => ?_)
          have hO := z_up (OKK := mK cy ad cnt nd1 wn S191 By191 Ah210) 30 hO h217a (by rw [e217a]; exact mE_Is |>.mpr ⟨_, rfl⟩)
          have e217b := (h217a 0 (by omega)).trans e210b
          have e217c := (h217a 15 (by omega)).trans e210c
          refine lv_goto (tgt := 226) hx hb dX8_looksAnew_218 (by decide) ?_
          exact z_retv hx hb hr hlocks hP hS dX8_looksAnew_226 ⟨_, _, _, _, _, hO⟩
      · skip
        refine lv_aload_n hx hb dX8_looksAnew_86 rfl (lv_at hl 0 rfl) ?_
        refine va_get (ci := 8) (C := RX8) (T := TX8) (N := 49) (v := .ref (ad 12)) hx hb hts inX8 hown hK hP 0 (zw_at (by decide) e80) rfl 23 (by decide) fl44 (fun _ h => h) rfl dX8_looksAnew_87 ?_
        refine lv_iload hx hb dX8_looksAnew_90 (lv_at hl 5 rfl) ?_
        obtain ⟨f92, e92⟩ := mg_Nl hO
        refine z_iald hx hb hK hP (q0 := 12) 0 (by decide) e92 rfl (by omega) dX8_looksAnew_92 (fun v92 r92 => ?_)
        refine lv_iload_n hx hb dX8_looksAnew_93 rfl (lv_at hl 2 rfl) ?_
        refine z_icmp_ne (tgt := 125) hx hb dX8_looksAnew_94 (by decide) (fun c94 => ?_) (fun c94 => ?_)
        · skip
          exact J125 _ _ _ nd1 x1 x3 x4 x5 x6 hP hS hO (by omega) (by omega) (by omega) (by omega) _ (lv_sub hl [0, 1, 2, 3, 4, 5] rfl)
        · skip
          refine lv_aload_n hx hb dX8_looksAnew_97 rfl (lv_at hl 0 rfl) ?_
          refine va_get (ci := 8) (C := RX8) (T := TX8) (N := 49) (v := .ref (ad 13)) hx hb hts inX8 hown hK hP 0 (zw_at (by decide) e80) rfl 24 (by decide) fl47 (fun _ h => h) rfl dX8_looksAnew_98 ?_
          refine lv_iload hx hb dX8_looksAnew_101 (lv_at hl 5 rfl) ?_
          obtain ⟨f103, e103⟩ := mg_Nx hO
          refine z_iald hx hb hK hP (q0 := 13) 0 (by decide) e103 rfl (by omega) dX8_looksAnew_103 (fun v103 r103 => ?_)
          refine lv_iload hx hb dX8_looksAnew_104 (lv_at hl 3 rfl) ?_
          refine z_icmp_ne (tgt := 125) hx hb dX8_looksAnew_106 (by decide) (fun c106 => ?_) (fun c106 => ?_)
          · skip
            exact J125 _ _ _ nd1 x1 x3 x4 x5 x6 hP hS hO (by omega) (by omega) (by omega) (by omega) _ (lv_sub hl [0, 1, 2, 3, 4, 5] rfl)
          · skip
            refine lv_aload_n hx hb dX8_looksAnew_109 rfl (lv_at hl 0 rfl) ?_
            refine va_get (ci := 8) (C := RX8) (T := TX8) (N := 49) (v := .ref (ad 14)) hx hb hts inX8 hown hK hP 0 (zw_at (by decide) e80) rfl 25 (by decide) fl50 (fun _ h => h) rfl dX8_looksAnew_110 ?_
            refine lv_iload hx hb dX8_looksAnew_113 (lv_at hl 5 rfl) ?_
            obtain ⟨f115, e115⟩ := mg_Ny hO
            refine z_iald hx hb hK hP (q0 := 14) 0 (by decide) e115 rfl (by omega) dX8_looksAnew_115 (fun v115 r115 => ?_)
            refine lv_iload hx hb dX8_looksAnew_116 (lv_at hl 4 rfl) ?_
            refine z_icmp_ne (tgt := 125) hx hb dX8_looksAnew_118 (by decide) (fun c118 => ?_) (fun c118 => ?_)
            · skip
              exact J125 _ _ _ nd1 x1 x3 x4 x5 x6 hP hS hO (by omega) (by omega) (by omega) (by omega) _ (lv_sub hl [0, 1, 2, 3, 4, 5] rfl)
            · skip
              refine z_ic hx hb dX8_looksAnew_121 (by decide) (fun v121 h121 => ?_)
              refine lv_goto (tgt := 126) hx hb dX8_looksAnew_122 (by decide) ?_
              exact J126 _ _ _ nd1 x1 x3 x4 x5 x6 v121 hP hS hO (by omega) (by omega) (by omega) (by omega) (by omega) _ (lv_sub hl [0, 1, 2, 3, 4, 5] rfl)
  intro ls hl
  have hl : lv_has ls 8 [(0, .ref (ad 0)), (1, .int p1)] := hl
  refine z_bi hx hb dX8_looksAnew_0 (by decide) (fun v0 h0 => ?_)
  refine lv_iload_n hx hb dX8_looksAnew_2 rfl (lv_at hl 1 rfl) ?_
  refine z_mulJ hx hb 94 dX8_looksAnew_3 (by omega) (by omega) (fun v3 h3 => ?_)
  refine lv_aload_n hx hb dX8_looksAnew_4 rfl (lv_at hl 0 rfl) ?_
  obtain ⟨v5, v5a, v5b, v5c, v5d, v5e, v5f, v5g, v5h, v5i, v5j, v5k, v5l, v5m, v5n, v5o, e5, h5, h5a, h5b, h5c, h5d, h5e, h5f, h5g, h5h, h5i, h5j, h5k, h5l, h5m, h5n, h5o, h5p, h5q, h5r, h5s, h5t, h5u⟩ := mg_Mo hO
  refine va_get (ci := 8) (C := RX8) (T := TX8) (N := 49) (v := .ref (ad 25)) hx hb hts inX8 hown hK hP 0 (zw_at (by decide) e5) rfl 39 (by decide) fl83 (fun _ h => h) rfl dX8_looksAnew_5 ?_
  refine lv_iload_n hx hb dX8_looksAnew_8 rfl (lv_at hl 1 rfl) ?_
  obtain ⟨e9, h9⟩ := mg_Ah hO
  refine z_iald hx hb hK hP (q0 := 25) 0 (by decide) e9 rfl (by omega) dX8_looksAnew_9 (fun v9 r9 => ?_)
  have h9a : 0 ≤ v9.toInt ∧ v9.toInt ≤ 93 := by obtain ⟨i0, _, i1, i2⟩ := r9; rw [i2]; exact h9 i0 i1
  have hA9 : 1 ≤ v9.toInt := by obtain ⟨a, a1, _, a3⟩ := r9; rw [a3]; exact hA a a1
  refine z_addE hx hb dX8_looksAnew_10 (by omega) (fun v10 h10 => ?_)
  refine z_ic hx hb dX8_looksAnew_11 (by decide) (fun v11 h11 => ?_)
  refine z_subE hx hb dX8_looksAnew_12 (by omega) (fun v12 h12 => ?_)
  refine lv_istore_n (lv' := [(2, .int v12), (0, .ref (ad 0)), (1, .int p1)]) hx hb dX8_looksAnew_13 rfl hl (by decide) rfl (fun ls hl => ?_)
  refine lv_aload_n hx hb dX8_looksAnew_14 rfl (lv_at hl 1 rfl) ?_
  refine va_get (ci := 8) (C := RX8) (T := TX8) (N := 49) (v := .ref (ad 26)) hx hb hts inX8 hown hK hP 0 (zw_at (by decide) e5) rfl 40 (by decide) fl86 (fun _ h => h) rfl dX8_looksAnew_15 ?_
  refine lv_iload_n hx hb dX8_looksAnew_18 rfl (lv_at hl 0 rfl) ?_
  obtain ⟨f19, e19⟩ := mg_RL hO
  refine z_iald hx hb hK hP (q0 := 26) 0 (by decide) e19 rfl (by omega) dX8_looksAnew_19 (fun v19 r19 => ?_)
  refine lv_istore_n (lv' := [(3, .int v19), (2, .int v12), (0, .ref (ad 0)), (1, .int p1)]) hx hb dX8_looksAnew_20 rfl hl (by decide) rfl (fun ls hl => ?_)
  refine lv_aload_n hx hb dX8_looksAnew_21 rfl (lv_at hl 2 rfl) ?_
  refine va_get (ci := 8) (C := RX8) (T := TX8) (N := 49) (v := .ref (ad 27)) hx hb hts inX8 hown hK hP 0 (zw_at (by decide) e5) rfl 41 (by decide) fl89 (fun _ h => h) rfl dX8_looksAnew_22 ?_
  refine lv_iload_n hx hb dX8_looksAnew_25 rfl (lv_at hl 1 rfl) ?_
  obtain ⟨f26, e26⟩ := mg_RX hO
  refine z_iald hx hb hK hP (q0 := 27) 0 (by decide) e26 rfl (by omega) dX8_looksAnew_26 (fun v26 r26 => ?_)
  refine lv_istore (lv' := [(4, .int v26), (3, .int v19), (2, .int v12), (0, .ref (ad 0)), (1, .int p1)]) hx hb dX8_looksAnew_27 hl (by decide) rfl (fun ls hl => ?_)
  refine lv_aload_n hx hb dX8_looksAnew_29 rfl (lv_at hl 3 rfl) ?_
  refine va_get (ci := 8) (C := RX8) (T := TX8) (N := 49) (v := .ref (ad 28)) hx hb hts inX8 hown hK hP 0 (zw_at (by decide) e5) rfl 42 (by decide) fl92 (fun _ h => h) rfl dX8_looksAnew_30 ?_
  refine lv_iload_n hx hb dX8_looksAnew_33 rfl (lv_at hl 2 rfl) ?_
  obtain ⟨f34, e34⟩ := mg_RY hO
  refine z_iald hx hb hK hP (q0 := 28) 0 (by decide) e34 rfl (by omega) dX8_looksAnew_34 (fun v34 r34 => ?_)
  refine lv_istore (lv' := [(5, .int v34), (4, .int v26), (3, .int v19), (2, .int v12), (0, .ref (ad 0)), (1, .int p1)]) hx hb dX8_looksAnew_35 hl (by decide) rfl (fun ls hl => ?_)
  refine lv_aload_n hx hb dX8_looksAnew_37 rfl (lv_at hl 4 rfl) ?_
  refine va_get (ci := 8) (C := RX8) (T := TX8) (N := 49) (v := .ref (ad 33)) hx hb hts inX8 hown hK hP 0 (zw_at (by decide) e5) rfl 47 (by decide) fl107 (fun _ h => h) rfl dX8_looksAnew_38 ?_
  refine lv_iload_n hx hb dX8_looksAnew_41 rfl (lv_at hl 5 rfl) ?_
  refine lv_dup2_11 hx hb dX8_looksAnew_42 rfl rfl ?_
  obtain ⟨f43, e43⟩ := mg_Lo hO
  refine z_iald hx hb hK hP (q0 := 33) 0 (by decide) e43 rfl (by omega) dX8_looksAnew_43 (fun v43 r43 => ?_)
  refine z_ic hx hb dX8_looksAnew_44 (by decide) (fun v44 h44 => ?_)
  refine lv_iadd hx hb dX8_looksAnew_45 ?_
  refine lv_topi (fun v45 _ => ?_)
  refine z_iast hx hb hK hJ hP hS (q0 := 33) 0 (by decide) e43 rfl (z_in (by omega) (by omega)) dX8_looksAnew_46 (fun ce H locs e46 h46 hP hS => ?_)
  have hO := z_up (OKK := mK cy ad cnt nd wn S By Ah) 33 hO h46 (by rw [e46]; exact mE_Lo |>.mpr ⟨_, rfl⟩)
  have e46a := (h46 0 (by omega)).trans e5
  have e46b := (h46 25 (by omega)).trans e9
  have e46c := (h46 26 (by omega)).trans e19
  have e46d := (h46 27 (by omega)).trans e26
  have e46e := (h46 28 (by omega)).trans e34
  refine lv_aload_n hx hb dX8_looksAnew_47 rfl (lv_at hl 4 rfl) ?_
  refine lv_aload_n hx hb dX8_looksAnew_48 rfl (lv_at hl 4 rfl) ?_
  refine va_get (ci := 8) (C := RX8) (T := TX8) (N := 49) (v := .ref (ad 22)) hx hb hts inX8 hown hK hP 0 (zw_at (by decide) e46a) rfl 36 (by decide) fl74 (fun _ h => h) rfl dX8_looksAnew_49 ?_
  refine lv_iload_n hx hb dX8_looksAnew_52 rfl (lv_at hl 5 rfl) ?_
  obtain ⟨f53, e53⟩ := mg_Wl hO
  refine z_iald hx hb hK hP (q0 := 22) 0 (by decide) e53 rfl (by omega) dX8_looksAnew_53 (fun v53 r53 => ?_)
  refine lv_aload_n hx hb dX8_looksAnew_54 rfl (lv_at hl 4 rfl) ?_
  refine va_get (ci := 8) (C := RX8) (T := TX8) (N := 49) (v := .ref (ad 23)) hx hb hts inX8 hown hK hP 0 (zw_at (by decide) e46a) rfl 37 (by decide) fl77 (fun _ h => h) rfl dX8_looksAnew_55 ?_
  refine lv_iload_n hx hb dX8_looksAnew_58 rfl (lv_at hl 5 rfl) ?_
  obtain ⟨f59, e59⟩ := mg_Wx hO
  refine z_iald hx hb hK hP (q0 := 23) 0 (by decide) e59 rfl (by omega) dX8_looksAnew_59 (fun v59 r59 => ?_)
  refine lv_aload_n hx hb dX8_looksAnew_60 rfl (lv_at hl 4 rfl) ?_
  refine va_get (ci := 8) (C := RX8) (T := TX8) (N := 49) (v := .ref (ad 24)) hx hb hts inX8 hown hK hP 0 (zw_at (by decide) e46a) rfl 38 (by decide) fl80 (fun _ h => h) rfl dX8_looksAnew_61 ?_
  refine lv_iload_n hx hb dX8_looksAnew_64 rfl (lv_at hl 5 rfl) ?_
  obtain ⟨f65, e65⟩ := mg_Wz hO
  refine z_iald hx hb hK hP (q0 := 24) 0 (by decide) e65 rfl (by omega) dX8_looksAnew_65 (fun v65 r65 => ?_)
  refine lv_iload_n hx hb dX8_looksAnew_66 rfl (lv_at hl 2 rfl) ?_
  refine lv_iload hx hb dX8_looksAnew_67 (lv_at hl 1 rfl) ?_
  refine lv_iload hx hb dX8_looksAnew_69 (lv_at hl 0 rfl) ?_
  refine z_cv (z_rV (q0 := 0) (As := [.int v53, .int v59, .int v65, .int v19, .int v26, .int v34]) (rest := []) ⟨hx, hb, hml, hown, hts⟩ (c_X8_findNodes l D cy ad cnt nd wn S By Ah hJ v53 v59 v65 v19 v26 v34) (cwV 6 hts (g_V mw_451 mw_452 mw_453 mw_324 mw_454) rfl rfl rfl (by decide +kernel) ⟨Nat.le_of_ble_eq_true rfl, Nat.le_of_ble_eq_true rfl⟩) hK hN hO hP (by decide) e46a rfl rfl hl.1 rfl (Nat.le_of_ble_eq_true rfl) dX8_looksAnew_71 ⟨Nat.zero_le _, Nat.zero_le _⟩) hS (fun ce H locs h71 hP hS => ?_)
  obtain ⟨nd71, nd71h, hO⟩ := h71
  refine z_ic hx hb dX8_looksAnew_74 (by decide) (fun v74 h74 => ?_)
  refine lv_istore (lv' := [(6, .int v74), (5, .int v34), (4, .int v26), (3, .int v19), (2, .int v12), (0, .ref (ad 0)), (1, .int p1)]) hx hb dX8_looksAnew_75 hl (by decide) rfl (fun ls hl => ?_)
  exact L77 95 _ _ _ nd71 p1 v19 v26 v34 v74 hP hS hO (by omega) (by omega) (by omega) (by omega) _ (lv_sub hl [5, 6, 3, 2, 1, 0] rfl)
set_option maxHeartbeats 8000000 in
set_option maxRecDepth 100000 in
theorem c_X8_turn (l : Launch) (D : va_G) (cy : Nat → ClassId) (ad : Nat → Nat) (cnt : Nat → Nat) (nd : Nat) (wn : Nat) (S : Nat → Int32) (By : Nat → Int32) (Ah : Nat → Int32) (hJ : zJ 34 ad) (p1 : Int32) (q_p1 : 0 ≤ p1.toInt ∧ p1.toInt ≤ 5) (hA : ∀ q : Nat, (q : Int) = p1.toInt → 1 ≤ (Ah q).toInt) : zM l D (mT cy) 34 ad (mOK cy ad cnt nd wn S By Ah) yX8_turn vsX8_turn { frames := 8, cells := 0, slots := 0, locals := 198 } ([.ref (ad 0), .int p1] : List Value) (zQv D 34 ad (fun ce => mEX cy ad cnt ce)) := by
  refine z_of (cc := cX8_turn) (maxL := 8) (ret := none) (by decide) rfl (Nat.le_of_ble_eq_true rfl) ?_
  intro p e s m below meth c hx hb hr hts hown hlocks hml hK hN ce hOK hP
  have hown : s.vm.findClass RX8 = some m.cls := hown
  have hS : va_S (zA 34 ad) s.heap s.heap [] := va_S.rf
  have hO := hOK
  have inX8 : ∀ w ∈ u_ws RX8 TX8 49, w ∈ vsX8_turn := fun w h => List.mem_cons_of_mem _ (inlX8 w h)
  have fl74 := hts (.fieldLink RX8 74 "GroundKeeperModel" "wl" "[I") (List.mem_cons_of_mem _ mw_422)
  have fl77 := hts (.fieldLink RX8 77 "GroundKeeperModel" "wx" "[I") (List.mem_cons_of_mem _ mw_423)
  have fl80 := hts (.fieldLink RX8 80 "GroundKeeperModel" "wy" "[I") (List.mem_cons_of_mem _ mw_424)
  have fl83 := hts (.fieldLink RX8 83 "GroundKeeperModel" "ahead" "[I") (List.mem_cons_of_mem _ mw_426)
  have fl86 := hts (.fieldLink RX8 86 "GroundKeeperModel" "rowLevel" "[I") (List.mem_cons_of_mem _ mw_427)
  have fl89 := hts (.fieldLink RX8 89 "GroundKeeperModel" "rowX" "[I") (List.mem_cons_of_mem _ mw_428)
  have fl92 := hts (.fieldLink RX8 92 "GroundKeeperModel" "rowY" "[I") (List.mem_cons_of_mem _ mw_429)
  have fl95 := hts (.fieldLink RX8 95 "GroundKeeperModel" "waited" "[I") (List.mem_cons_of_mem _ mw_432)
  have fl101 := hts (.fieldLink RX8 101 "GroundKeeperModel" "steps" "[I") (List.mem_cons_of_mem _ mw_433)
  have fl104 := hts (.fieldLink RX8 104 "GroundKeeperModel" "went" "[I") (List.mem_cons_of_mem _ mw_434)
  have J296 : ∀ (H : Heap) (locs : List Loc) (ce : Nat → va_E) (Ah1 : Nat → Int32) (x1 : Int32), va_P D vwCl (zw 34 ad ce) H → va_S (zA 34 ad) s.heap H locs → mOK cy ad cnt nd wn S By Ah1 ce → (0 ≤ x1.toInt ∧ x1.toInt ≤ 5) → (∀ q : Nat, (q : Int) = x1.toInt → 1 ≤ (Ah1 q).toInt) → ∀ ls : Array Slot, lv_has ls 8 [(0, .ref (ad 0)), (1, .int x1)] → W p l e { frames := 8, cells := 0, slots := 0, locals := 198 } s m ([.ref (ad 0), .int p1] : List Value).toArray below meth c H locs 0 0 (MQ below (zQv D 34 ad (fun ce => mEX cy ad cnt ce)) ([.ref (ad 0), .int p1] : List Value).toArray s 0 0 (zA 34 ad)) (F0 m 296 ls []) := by
    intro H locs ce Ah1 x1 hP hS hO q_x1 qx0 ls hl
    refine lv_aload_n hx hb dX8_turn_296 rfl (lv_at hl 0 rfl) ?_
    obtain ⟨v297, v297a, v297b, v297c, v297d, v297e, v297f, v297g, v297h, v297i, v297j, v297k, v297l, v297m, v297n, v297o, e297, h297, h297a, h297b, h297c, h297d, h297e, h297f, h297g, h297h, h297i, h297j, h297k, h297l, h297m, h297n, h297o, h297p, h297q, h297r, h297s, h297t, h297u⟩ := mg_Mo hO
    refine va_get (ci := 8) (C := RX8) (T := TX8) (N := 49) (v := .ref (ad 29)) hx hb hts inX8 hown hK hP 0 (zw_at (by decide) e297) rfl 43 (by decide) fl95 (fun _ h => h) rfl dX8_turn_297 ?_
    refine lv_iload_n hx hb dX8_turn_300 rfl (lv_at hl 1 rfl) ?_
    refine lv_dup2_11 hx hb dX8_turn_301 rfl rfl ?_
    obtain ⟨f302, e302⟩ := mg_Wt hO
    refine z_iald hx hb hK hP (q0 := 29) 0 (by decide) e302 rfl (by omega) dX8_turn_302 (fun v302 r302 => ?_)
    refine z_ic hx hb dX8_turn_303 (by decide) (fun v303 h303 => ?_)
    refine lv_iadd hx hb dX8_turn_304 ?_
    refine lv_topi (fun v304 _ => ?_)
    refine z_iast hx hb hK hJ hP hS (q0 := 29) 0 (by decide) e302 rfl (z_in (by omega) (by omega)) dX8_turn_305 (fun ce H locs e305 h305 hP hS => ?_)
    have hO := z_up (OKK := mK cy ad cnt nd wn S By Ah1) 29 hO h305 (by rw [e305]; exact mE_Wt |>.mpr ⟨_, rfl⟩)
    have e305a := (h305 0 (by omega)).trans e297
    refine lv_aload_n hx hb dX8_turn_306 rfl (lv_at hl 0 rfl) ?_
    refine va_get (ci := 8) (C := RX8) (T := TX8) (N := 49) (v := .ref (ad 29)) hx hb hts inX8 hown hK hP 0 (zw_at (by decide) e305a) rfl 43 (by decide) fl95 (fun _ h => h) rfl dX8_turn_307 ?_
    refine lv_iload_n hx hb dX8_turn_310 rfl (lv_at hl 1 rfl) ?_
    obtain ⟨f311, e311⟩ := mg_Wt hO
    refine z_iald hx hb hK hP (q0 := 29) 0 (by decide) e311 rfl (by omega) dX8_turn_311 (fun v311 r311 => ?_)
    refine z_ic hx hb dX8_turn_312 (by decide) (fun v312 h312 => ?_)
    refine z_icmp_ne (tgt := 328) hx hb dX8_turn_313 (by decide) (fun c313 => ?_) (fun c313 => ?_)
    · skip
      exact z_retv hx hb hr hlocks hP hS dX8_turn_328 ⟨_, _, _, _, _, hO⟩
    · skip
      refine lv_aload_n hx hb dX8_turn_316 rfl (lv_at hl 0 rfl) ?_
      refine va_get (ci := 8) (C := RX8) (T := TX8) (N := 49) (v := .ref (ad 29)) hx hb hts inX8 hown hK hP 0 (zw_at (by decide) e305a) rfl 43 (by decide) fl95 (fun _ h => h) rfl dX8_turn_317 ?_
      refine lv_iload_n hx hb dX8_turn_320 rfl (lv_at hl 1 rfl) ?_
      refine z_ic hx hb dX8_turn_321 (by decide) (fun v321 h321 => ?_)
      refine z_iast hx hb hK hJ hP hS (q0 := 29) 0 (by decide) e311 rfl (z_in (by omega) (by omega)) dX8_turn_322 (fun ce H locs e322 h322 hP hS => ?_)
      have hO := z_up (OKK := mK cy ad cnt nd wn S By Ah1) 29 hO h322 (by rw [e322]; exact mE_Wt |>.mpr ⟨_, rfl⟩)
      have e322a := (h322 0 (by omega)).trans e305a
      refine lv_aload_n hx hb dX8_turn_323 rfl (lv_at hl 0 rfl) ?_
      refine lv_iload_n hx hb dX8_turn_324 rfl (lv_at hl 1 rfl) ?_
      refine z_cv (z_rV (q0 := 0) (As := [.int x1]) (rest := []) ⟨hx, hb, hml, hown, hts⟩ (c_X8_looksAnew l D cy ad cnt nd wn S By Ah1 hJ x1 (by omega) (by assumption)) (cwV 1 hts (g_V mw_455 mw_456 mw_457 mw_324 mw_458) rfl rfl rfl (by decide +kernel) ⟨Nat.le_of_ble_eq_true rfl, Nat.le_of_ble_eq_true rfl⟩) hK hN hO hP (by decide) e322a rfl rfl hl.1 rfl (Nat.le_of_ble_eq_true rfl) dX8_turn_325 ⟨Nat.zero_le _, Nat.zero_le _⟩) hS (fun ce H locs h325 hP hS => ?_)
      obtain ⟨nd325, wn325, S325, By325, Ah325, hO⟩ := h325
      exact z_retv hx hb hr hlocks hP hS dX8_turn_328 ⟨_, _, _, _, _, hO⟩
  have L218 : ∀ N218 : Nat, ∀ (H : Heap) (locs : List Loc) (ce : Nat → va_E) (Ah1 : Nat → Int32) (x1 : Int32) (x2 : Int32) (x7 : Int32), va_P D vwCl (zw 34 ad ce) H → va_S (zA 34 ad) s.heap H locs → mOK cy ad cnt nd wn S By Ah1 ce → (0 ≤ x1.toInt ∧ x1.toInt ≤ 5) → (0 ≤ x2.toInt ∧ x2.toInt ≤ 470) → (0 ≤ x7.toInt ∧ x7.toInt ≤ 93) → (94 - x7.toInt ≤ (N218 : Int)) → ∀ ls : Array Slot, lv_has ls 8 [(0, .ref (ad 0)), (1, .int x1), (2, .int x2), (7, .int x7)] → W p l e { frames := 8, cells := 0, slots := 0, locals := 198 } s m ([.ref (ad 0), .int p1] : List Value).toArray below meth c H locs 0 0 (MQ below (zQv D 34 ad (fun ce => mEX cy ad cnt ce)) ([.ref (ad 0), .int p1] : List Value).toArray s 0 0 (zA 34 ad)) (F0 m 218 ls []) := by
    intro N218
    induction N218 with
    | zero =>
      intro H locs ce Ah1 x1 x2 x7 hP hS hO q_x1 q_x2 q_x7 hm ls hl
      exfalso; omega
    | succ N218 ih218 =>
      intro H locs ce Ah1 x1 x2 x7 hP hS hO q_x1 q_x2 q_x7 hm ls hl
      refine lv_iload hx hb dX8_turn_218 (lv_at hl 3 rfl) ?_
      refine lv_aload_n hx hb dX8_turn_220 rfl (lv_at hl 0 rfl) ?_
      obtain ⟨v221, v221a, v221b, v221c, v221d, v221e, v221f, v221g, v221h, v221i, v221j, v221k, v221l, v221m, v221n, v221o, e221, h221, h221a, h221b, h221c, h221d, h221e, h221f, h221g, h221h, h221i, h221j, h221k, h221l, h221m, h221n, h221o, h221p, h221q, h221r, h221s, h221t, h221u⟩ := mg_Mo hO
      refine va_get (ci := 8) (C := RX8) (T := TX8) (N := 49) (v := .ref (ad 25)) hx hb hts inX8 hown hK hP 0 (zw_at (by decide) e221) rfl 39 (by decide) fl83 (fun _ h => h) rfl dX8_turn_221 ?_
      refine lv_iload_n hx hb dX8_turn_224 rfl (lv_at hl 1 rfl) ?_
      obtain ⟨e225, h225⟩ := mg_Ah hO
      refine z_iald hx hb hK hP (q0 := 25) 0 (by decide) e225 rfl (by omega) dX8_turn_225 (fun v225 r225 => ?_)
      have h225a : 0 ≤ v225.toInt ∧ v225.toInt ≤ 93 := by obtain ⟨i0, _, i1, i2⟩ := r225; rw [i2]; exact h225 i0 i1
      refine z_icmp_ge (tgt := 295) hx hb dX8_turn_226 (by decide) (fun c226 => ?_) (fun c226 => ?_)
      · skip
        exact z_retv hx hb hr hlocks hP hS dX8_turn_295 ⟨_, _, _, _, _, hO⟩
      · skip
        refine lv_aload_n hx hb dX8_turn_229 rfl (lv_at hl 0 rfl) ?_
        refine va_get (ci := 8) (C := RX8) (T := TX8) (N := 49) (v := .ref (ad 26)) hx hb hts inX8 hown hK hP 0 (zw_at (by decide) e221) rfl 40 (by decide) fl86 (fun _ h => h) rfl dX8_turn_230 ?_
        refine lv_iload_n hx hb dX8_turn_233 rfl (lv_at hl 2 rfl) ?_
        refine lv_iload hx hb dX8_turn_234 (lv_at hl 3 rfl) ?_
        refine z_addE hx hb dX8_turn_236 (by omega) (fun v236 h236 => ?_)
        refine lv_aload_n hx hb dX8_turn_237 rfl (lv_at hl 0 rfl) ?_
        refine va_get (ci := 8) (C := RX8) (T := TX8) (N := 49) (v := .ref (ad 26)) hx hb hts inX8 hown hK hP 0 (zw_at (by decide) e221) rfl 40 (by decide) fl86 (fun _ h => h) rfl dX8_turn_238 ?_
        refine lv_iload_n hx hb dX8_turn_241 rfl (lv_at hl 2 rfl) ?_
        refine lv_iload hx hb dX8_turn_242 (lv_at hl 3 rfl) ?_
        refine z_addE hx hb dX8_turn_244 (by omega) (fun v244 h244 => ?_)
        refine z_ic hx hb dX8_turn_245 (by decide) (fun v245 h245 => ?_)
        refine z_addE hx hb dX8_turn_246 (by omega) (fun v246 h246 => ?_)
        obtain ⟨f247, e247⟩ := mg_RL hO
        refine z_iald hx hb hK hP (q0 := 26) 0 (by decide) e247 rfl (by omega) dX8_turn_247 (fun v247 r247 => ?_)
        refine z_iast hx hb hK hJ hP hS (q0 := 26) 0 (by decide) e247 rfl (z_in (by omega) (by omega)) dX8_turn_248 (fun ce H locs e248 h248 hP hS => ?_)
        have hO := z_up (OKK := mK cy ad cnt nd wn S By Ah1) 26 hO h248 (by rw [e248]; exact mE_RL |>.mpr ⟨_, rfl⟩)
        have e248a := (h248 0 (by omega)).trans e221
        have e248b := (h248 25 (by omega)).trans e225
        refine lv_aload_n hx hb dX8_turn_249 rfl (lv_at hl 0 rfl) ?_
        refine va_get (ci := 8) (C := RX8) (T := TX8) (N := 49) (v := .ref (ad 27)) hx hb hts inX8 hown hK hP 0 (zw_at (by decide) e248a) rfl 41 (by decide) fl89 (fun _ h => h) rfl dX8_turn_250 ?_
        refine lv_iload_n hx hb dX8_turn_253 rfl (lv_at hl 2 rfl) ?_
        refine lv_iload hx hb dX8_turn_254 (lv_at hl 3 rfl) ?_
        refine z_addE hx hb dX8_turn_256 (by omega) (fun v256 h256 => ?_)
        refine lv_aload_n hx hb dX8_turn_257 rfl (lv_at hl 0 rfl) ?_
        refine va_get (ci := 8) (C := RX8) (T := TX8) (N := 49) (v := .ref (ad 27)) hx hb hts inX8 hown hK hP 0 (zw_at (by decide) e248a) rfl 41 (by decide) fl89 (fun _ h => h) rfl dX8_turn_258 ?_
        refine lv_iload_n hx hb dX8_turn_261 rfl (lv_at hl 2 rfl) ?_
        refine lv_iload hx hb dX8_turn_262 (lv_at hl 3 rfl) ?_
        refine z_addE hx hb dX8_turn_264 (by omega) (fun v264 h264 => ?_)
        refine z_ic hx hb dX8_turn_265 (by decide) (fun v265 h265 => ?_)
        refine z_addE hx hb dX8_turn_266 (by omega) (fun v266 h266 => ?_)
        obtain ⟨f267, e267⟩ := mg_RX hO
        refine z_iald hx hb hK hP (q0 := 27) 0 (by decide) e267 rfl (by omega) dX8_turn_267 (fun v267 r267 => ?_)
        refine z_iast hx hb hK hJ hP hS (q0 := 27) 0 (by decide) e267 rfl (z_in (by omega) (by omega)) dX8_turn_268 (fun ce H locs e268 h268 hP hS => ?_)
        have hO := z_up (OKK := mK cy ad cnt nd wn S By Ah1) 27 hO h268 (by rw [e268]; exact mE_RX |>.mpr ⟨_, rfl⟩)
        have e268a := (h268 0 (by omega)).trans e248a
        have e268b := (h268 25 (by omega)).trans e248b
        refine lv_aload_n hx hb dX8_turn_269 rfl (lv_at hl 0 rfl) ?_
        refine va_get (ci := 8) (C := RX8) (T := TX8) (N := 49) (v := .ref (ad 28)) hx hb hts inX8 hown hK hP 0 (zw_at (by decide) e268a) rfl 42 (by decide) fl92 (fun _ h => h) rfl dX8_turn_270 ?_
        refine lv_iload_n hx hb dX8_turn_273 rfl (lv_at hl 2 rfl) ?_
        refine lv_iload hx hb dX8_turn_274 (lv_at hl 3 rfl) ?_
        refine z_addE hx hb dX8_turn_276 (by omega) (fun v276 h276 => ?_)
        refine lv_aload_n hx hb dX8_turn_277 rfl (lv_at hl 0 rfl) ?_
        refine va_get (ci := 8) (C := RX8) (T := TX8) (N := 49) (v := .ref (ad 28)) hx hb hts inX8 hown hK hP 0 (zw_at (by decide) e268a) rfl 42 (by decide) fl92 (fun _ h => h) rfl dX8_turn_278 ?_
        refine lv_iload_n hx hb dX8_turn_281 rfl (lv_at hl 2 rfl) ?_
        refine lv_iload hx hb dX8_turn_282 (lv_at hl 3 rfl) ?_
        refine z_addE hx hb dX8_turn_284 (by omega) (fun v284 h284 => ?_)
        refine z_ic hx hb dX8_turn_285 (by decide) (fun v285 h285 => ?_)
        refine z_addE hx hb dX8_turn_286 (by omega) (fun v286 h286 => ?_)
        obtain ⟨f287, e287⟩ := mg_RY hO
        refine z_iald hx hb hK hP (q0 := 28) 0 (by decide) e287 rfl (by omega) dX8_turn_287 (fun v287 r287 => ?_)
        refine z_iast hx hb hK hJ hP hS (q0 := 28) 0 (by decide) e287 rfl (z_in (by omega) (by omega)) dX8_turn_288 (fun ce H locs e288 h288 hP hS => ?_)
        have hO := z_up (OKK := mK cy ad cnt nd wn S By Ah1) 28 hO h288 (by rw [e288]; exact mE_RY |>.mpr ⟨_, rfl⟩)
        have e288a := (h288 0 (by omega)).trans e268a
        have e288b := (h288 25 (by omega)).trans e268b
        refine z_iinc (lv' := fun w0 => [(7, .int w0), (0, .ref (ad 0)), (1, .int x1), (2, .int x2)]) hx hb dX8_turn_289 hl (k := 3) rfl (by decide) (fun _ => rfl) (by decide) (by omega) (fun v289 ls h289 hl => ?_)
        refine lv_goto (tgt := 218) hx hb dX8_turn_292 (by decide) ?_
        exact ih218 _ _ _ Ah1 x1 x2 v289 hP hS hO (by omega) (by omega) (by omega) (by omega) _ (lv_sub hl [1, 2, 3, 0] rfl)
  have J135 : ∀ (H : Heap) (locs : List Loc) (ce : Nat → va_E) (Ah1 : Nat → Int32) (x1 : Int32) (x2 : Int32) (x3 : Int32) (x4 : Int32) (x5 : Int32) (x6 : Int32), va_P D vwCl (zw 34 ad ce) H → va_S (zA 34 ad) s.heap H locs → mOK cy ad cnt nd wn S By Ah1 ce → (0 ≤ x1.toInt ∧ x1.toInt ≤ 5) → (0 ≤ x2.toInt ∧ x2.toInt ≤ 470) → (∀ q : Nat, (q : Int) = x1.toInt → 1 ≤ (Ah1 q).toInt) → ∀ ls : Array Slot, lv_has ls 8 [(0, .ref (ad 0)), (1, .int x1), (2, .int x2), (3, .int x3), (4, .int x4), (5, .int x5), (6, .int x6)] → W p l e { frames := 8, cells := 0, slots := 0, locals := 198 } s m ([.ref (ad 0), .int p1] : List Value).toArray below meth c H locs 0 0 (MQ below (zQv D 34 ad (fun ce => mEX cy ad cnt ce)) ([.ref (ad 0), .int p1] : List Value).toArray s 0 0 (zA 34 ad)) (F0 m 135 ls []) := by
    intro H locs ce Ah1 x1 x2 x3 x4 x5 x6 hP hS hO q_x1 q_x2 qx0 ls hl
    refine lv_iload hx hb dX8_turn_135 (lv_at hl 6 rfl) ?_
    refine z_ic hx hb dX8_turn_137 (by decide) (fun v137 h137 => ?_)
    refine z_icmp_eq (tgt := 296) hx hb dX8_turn_138 (by decide) (fun c138 => ?_) (fun c138 => ?_)
    · skip
      exact J296 _ _ _ Ah1 x1 hP hS hO (by omega) (by assumption) _ (lv_sub hl [0, 1] rfl)
    · skip
      refine lv_aload_n hx hb dX8_turn_141 rfl (lv_at hl 0 rfl) ?_
      refine lv_iload_n hx hb dX8_turn_142 rfl (lv_at hl 1 rfl) ?_
      refine lv_iload_n hx hb dX8_turn_143 rfl (lv_at hl 3 rfl) ?_
      refine lv_iload hx hb dX8_turn_144 (lv_at hl 4 rfl) ?_
      refine lv_iload hx hb dX8_turn_146 (lv_at hl 5 rfl) ?_
      obtain ⟨v148, v148a, v148b, v148c, v148d, v148e, v148f, v148g, v148h, v148i, v148j, v148k, v148l, v148m, v148n, v148o, e148, h148, h148a, h148b, h148c, h148d, h148e, h148f, h148g, h148h, h148i, h148j, h148k, h148l, h148m, h148n, h148o, h148p, h148q, h148r, h148s, h148t, h148u⟩ := mg_Mo hO
      refine z_ciP (z_rV (q0 := 0) (As := [.int x1, .int x3, .int x4, .int x5]) (rest := []) ⟨hx, hb, hml, hown, hts⟩ (c_X8_isTaken l D cy ad cnt nd wn S By Ah1 (fun c1 => c1 = ce) hJ x1 x3 x4 x5) (cwV 4 hts (g_V mw_439 mw_440 mw_441 mw_324 mw_442) rfl rfl rfl (by decide +kernel) ⟨Nat.le_of_ble_eq_true rfl, Nat.le_of_ble_eq_true rfl⟩) hK hN ⟨hO, rfl⟩ hP (by decide) e148 rfl rfl hl.1 rfl (Nat.le_of_ble_eq_true rfl) dX8_turn_148 ⟨Nat.zero_le _, Nat.zero_le _⟩) hS (fun _ h => h.2) (fun v148p H locs h148v hP hS => ?_)
      refine z_if_ne (tgt := 296) hx hb dX8_turn_151 (by decide) (fun c151 => ?_) (fun c151 => ?_)
      · skip
        exact J296 _ _ _ Ah1 x1 hP hS hO (by omega) (by assumption) _ (lv_sub hl [0, 1] rfl)
      · skip
        refine lv_aload_n hx hb dX8_turn_154 rfl (lv_at hl 0 rfl) ?_
        refine va_get (ci := 8) (C := RX8) (T := TX8) (N := 49) (v := .ref (ad 22)) hx hb hts inX8 hown hK hP 0 (zw_at (by decide) e148) rfl 36 (by decide) fl74 (fun _ h => h) rfl dX8_turn_155 ?_
        refine lv_iload_n hx hb dX8_turn_158 rfl (lv_at hl 1 rfl) ?_
        refine lv_iload_n hx hb dX8_turn_159 rfl (lv_at hl 3 rfl) ?_
        obtain ⟨f160, e160⟩ := mg_Wl hO
        refine z_iast hx hb hK hJ hP hS (q0 := 22) 0 (by decide) e160 rfl (z_in (by omega) (by omega)) dX8_turn_160 (fun ce H locs e160a h160a hP hS => ?_)
        have hO := z_up (OKK := mK cy ad cnt nd wn S By Ah1) 22 hO h160a (by rw [e160a]; exact mE_Wl |>.mpr ⟨_, rfl⟩)
        have e160b := (h160a 0 (by omega)).trans e148
        refine lv_aload_n hx hb dX8_turn_161 rfl (lv_at hl 0 rfl) ?_
        refine va_get (ci := 8) (C := RX8) (T := TX8) (N := 49) (v := .ref (ad 23)) hx hb hts inX8 hown hK hP 0 (zw_at (by decide) e160b) rfl 37 (by decide) fl77 (fun _ h => h) rfl dX8_turn_162 ?_
        refine lv_iload_n hx hb dX8_turn_165 rfl (lv_at hl 1 rfl) ?_
        refine lv_iload hx hb dX8_turn_166 (lv_at hl 4 rfl) ?_
        obtain ⟨f168, e168⟩ := mg_Wx hO
        refine z_iast hx hb hK hJ hP hS (q0 := 23) 0 (by decide) e168 rfl (z_in (by omega) (by omega)) dX8_turn_168 (fun ce H locs e168a h168a hP hS => ?_)
        have hO := z_up (OKK := mK cy ad cnt nd wn S By Ah1) 23 hO h168a (by rw [e168a]; exact mE_Wx |>.mpr ⟨_, rfl⟩)
        have e168b := (h168a 0 (by omega)).trans e160b
        refine lv_aload_n hx hb dX8_turn_169 rfl (lv_at hl 0 rfl) ?_
        refine va_get (ci := 8) (C := RX8) (T := TX8) (N := 49) (v := .ref (ad 24)) hx hb hts inX8 hown hK hP 0 (zw_at (by decide) e168b) rfl 38 (by decide) fl80 (fun _ h => h) rfl dX8_turn_170 ?_
        refine lv_iload_n hx hb dX8_turn_173 rfl (lv_at hl 1 rfl) ?_
        refine lv_iload hx hb dX8_turn_174 (lv_at hl 5 rfl) ?_
        obtain ⟨f176, e176⟩ := mg_Wz hO
        refine z_iast hx hb hK hJ hP hS (q0 := 24) 0 (by decide) e176 rfl (z_in (by omega) (by omega)) dX8_turn_176 (fun ce H locs e176a h176a hP hS => ?_)
        have hO := z_up (OKK := mK cy ad cnt nd wn S By Ah1) 24 hO h176a (by rw [e176a]; exact mE_Wz |>.mpr ⟨_, rfl⟩)
        have e176b := (h176a 0 (by omega)).trans e168b
        refine lv_aload_n hx hb dX8_turn_177 rfl (lv_at hl 0 rfl) ?_
        refine va_get (ci := 8) (C := RX8) (T := TX8) (N := 49) (v := .ref (ad 31)) hx hb hts inX8 hown hK hP 0 (zw_at (by decide) e176b) rfl 45 (by decide) fl101 (fun _ h => h) rfl dX8_turn_178 ?_
        refine lv_iload_n hx hb dX8_turn_181 rfl (lv_at hl 1 rfl) ?_
        refine lv_dup2_11 hx hb dX8_turn_182 rfl rfl ?_
        obtain ⟨f183, e183⟩ := mg_Ss hO
        refine z_iald hx hb hK hP (q0 := 31) 0 (by decide) e183 rfl (by omega) dX8_turn_183 (fun v183 r183 => ?_)
        refine z_ic hx hb dX8_turn_184 (by decide) (fun v184 h184 => ?_)
        refine lv_iadd hx hb dX8_turn_185 ?_
        refine lv_topi (fun v185 _ => ?_)
        refine z_iast hx hb hK hJ hP hS (q0 := 31) 0 (by decide) e183 rfl (z_in (by omega) (by omega)) dX8_turn_186 (fun ce H locs e186 h186 hP hS => ?_)
        have hO := z_up (OKK := mK cy ad cnt nd wn S By Ah1) 31 hO h186 (by rw [e186]; exact mE_Ss |>.mpr ⟨_, rfl⟩)
        have e186a := (h186 0 (by omega)).trans e176b
        refine lv_aload_n hx hb dX8_turn_187 rfl (lv_at hl 0 rfl) ?_
        refine va_get (ci := 8) (C := RX8) (T := TX8) (N := 49) (v := .ref (ad 32)) hx hb hts inX8 hown hK hP 0 (zw_at (by decide) e186a) rfl 46 (by decide) fl104 (fun _ h => h) rfl dX8_turn_188 ?_
        refine lv_iload_n hx hb dX8_turn_191 rfl (lv_at hl 1 rfl) ?_
        refine lv_dup2_11 hx hb dX8_turn_192 rfl rfl ?_
        obtain ⟨f193, e193⟩ := mg_We hO
        refine z_iald hx hb hK hP (q0 := 32) 0 (by decide) e193 rfl (by omega) dX8_turn_193 (fun v193 r193 => ?_)
        refine lv_iload hx hb dX8_turn_194 (lv_at hl 6 rfl) ?_
        refine lv_iadd hx hb dX8_turn_196 ?_
        refine lv_topi (fun v196 _ => ?_)
        refine z_iast hx hb hK hJ hP hS (q0 := 32) 0 (by decide) e193 rfl (z_in (by omega) (by omega)) dX8_turn_197 (fun ce H locs e197 h197 hP hS => ?_)
        have hO := z_up (OKK := mK cy ad cnt nd wn S By Ah1) 32 hO h197 (by rw [e197]; exact mE_We |>.mpr ⟨_, rfl⟩)
        have e197a := (h197 0 (by omega)).trans e186a
        refine lv_aload_n hx hb dX8_turn_198 rfl (lv_at hl 0 rfl) ?_
        refine va_get (ci := 8) (C := RX8) (T := TX8) (N := 49) (v := .ref (ad 29)) hx hb hts inX8 hown hK hP 0 (zw_at (by decide) e197a) rfl 43 (by decide) fl95 (fun _ h => h) rfl dX8_turn_199 ?_
        refine lv_iload_n hx hb dX8_turn_202 rfl (lv_at hl 1 rfl) ?_
        refine z_ic hx hb dX8_turn_203 (by decide) (fun v203 h203 => ?_)
        obtain ⟨f204, e204⟩ := mg_Wt hO
        refine z_iast hx hb hK hJ hP hS (q0 := 29) 0 (by decide) e204 rfl (z_in (by omega) (by omega)) dX8_turn_204 (fun ce H locs e204a h204a hP hS => ?_)
        have hO := z_up (OKK := mK cy ad cnt nd wn S By Ah1) 29 hO h204a (by rw [e204a]; exact mE_Wt |>.mpr ⟨_, rfl⟩)
        have e204b := (h204a 0 (by omega)).trans e197a
        refine lv_aload_n hx hb dX8_turn_205 rfl (lv_at hl 0 rfl) ?_
        refine va_get (ci := 8) (C := RX8) (T := TX8) (N := 49) (v := .ref (ad 25)) hx hb hts inX8 hown hK hP 0 (zw_at (by decide) e204b) rfl 39 (by decide) fl83 (fun _ h => h) rfl dX8_turn_206 ?_
        refine lv_iload_n hx hb dX8_turn_209 rfl (lv_at hl 1 rfl) ?_
        refine lv_dup2_11 hx hb dX8_turn_210 rfl rfl ?_
        obtain ⟨e211, h211⟩ := mg_Ah hO
        refine z_iald hx hb hK hP (q0 := 25) 0 (by decide) e211 rfl (by omega) dX8_turn_211 (fun v211 r211 => ?_)
        have h211a : 0 ≤ v211.toInt ∧ v211.toInt ≤ 93 := by obtain ⟨i0, _, i1, i2⟩ := r211; rw [i2]; exact h211 i0 i1
        have hA9 : 1 ≤ v211.toInt := by obtain ⟨a, a1, _, a3⟩ := r211; rw [a3]; exact qx0 a a1
        refine z_ic hx hb dX8_turn_212 (by decide) (fun v212 h212 => ?_)
        refine z_subE hx hb dX8_turn_213 (by omega) (fun v213 h213 => ?_)
        refine z_iast hx hb hK hJ hP hS (q0 := 25) 0 (by decide) e211 rfl (z_in (by omega) (by omega)) dX8_turn_214 (fun ce H locs e214 h214 hP hS => ?_)
        obtain ⟨Ah214, Ah214h⟩ : ∃ z, z = upd Ah1 x1.toNatClampNeg v213 := ⟨_, rfl⟩
        rw [← Ah214h] at e214
        have Ah214c : ∀ i0 : Nat, i0 < 6 → 0 ≤ (Ah214 i0).toInt ∧ (Ah214 i0).toInt ≤ 93 := by rw [Ah214h]; exact fun i0 i1 => z_updc h211 (by omega) i0 i1
        have hO := z_up2 (OKK := mK cy ad cnt nd wn S By Ah1) (OKL := mK cy ad cnt nd wn S By Ah214) 25 hO h214 (fun q e _ h => mK_Ah (by assumption) h) (by rw [e214]; exact mE_Ah |>.mpr ⟨rfl, Ah214c⟩)
        have e214a := (h214 0 (by omega)).trans e204b
        refine z_ic hx hb dX8_turn_215 (by decide) (fun v215 h215 => ?_)
        refine lv_istore (lv' := [(7, .int v215), (0, .ref (ad 0)), (1, .int x1), (2, .int x2), (3, .int x3), (4, .int x4), (5, .int x5), (6, .int x6)]) hx hb dX8_turn_216 hl (by decide) rfl (fun ls hl => ?_)
        exact L218 95 _ _ _ Ah214 x1 x2 v215 hP hS hO (by omega) (by omega) (by omega) (by omega) _ (lv_sub hl [1, 2, 3, 0] rfl)
  have J89 : ∀ (H : Heap) (locs : List Loc) (ce : Nat → va_E) (Ah1 : Nat → Int32) (x1 : Int32) (x2 : Int32) (x3 : Int32) (x4 : Int32) (x5 : Int32) (s0 : Int32), va_P D vwCl (zw 34 ad ce) H → va_S (zA 34 ad) s.heap H locs → mOK cy ad cnt nd wn S By Ah1 ce → (0 ≤ x1.toInt ∧ x1.toInt ≤ 5) → (0 ≤ x2.toInt ∧ x2.toInt ≤ 470) → (∀ q : Nat, (q : Int) = x1.toInt → 1 ≤ (Ah1 q).toInt) → ∀ ls : Array Slot, lv_has ls 8 [(0, .ref (ad 0)), (1, .int x1), (2, .int x2), (3, .int x3), (4, .int x4), (5, .int x5)] → W p l e { frames := 8, cells := 0, slots := 0, locals := 198 } s m ([.ref (ad 0), .int p1] : List Value).toArray below meth c H locs 0 0 (MQ below (zQv D 34 ad (fun ce => mEX cy ad cnt ce)) ([.ref (ad 0), .int p1] : List Value).toArray s 0 0 (zA 34 ad)) (F0 m 89 ls [.int s0]) := by
    intro H locs ce Ah1 x1 x2 x3 x4 x5 s0 hP hS hO q_x1 q_x2 qx0 ls hl
    refine lv_istore (lv' := [(6, .int s0), (0, .ref (ad 0)), (1, .int x1), (2, .int x2), (3, .int x3), (4, .int x4), (5, .int x5)]) hx hb dX8_turn_89 hl (by decide) rfl (fun ls hl => ?_)
    refine lv_goto (tgt := 135) hx hb dX8_turn_91 (by decide) ?_
    exact J135 _ _ _ Ah1 x1 x2 x3 x4 x5 s0 hP hS hO (by omega) (by omega) (by assumption) _ (lv_sub hl [1, 2, 3, 4, 5, 6, 0] rfl)
  intro ls hl
  have hl : lv_has ls 8 [(0, .ref (ad 0)), (1, .int p1)] := hl
  refine z_bi hx hb dX8_turn_0 (by decide) (fun v0 h0 => ?_)
  refine lv_iload_n hx hb dX8_turn_2 rfl (lv_at hl 1 rfl) ?_
  refine z_mulJ hx hb 94 dX8_turn_3 (by omega) (by omega) (fun v3 h3 => ?_)
  refine lv_istore_n (lv' := [(2, .int v3), (0, .ref (ad 0)), (1, .int p1)]) hx hb dX8_turn_4 rfl hl (by decide) rfl (fun ls hl => ?_)
  refine lv_aload_n hx hb dX8_turn_5 rfl (lv_at hl 1 rfl) ?_
  obtain ⟨v6, v6a, v6b, v6c, v6d, v6e, v6f, v6g, v6h, v6i, v6j, v6k, v6l, v6m, v6n, v6o, e6, h6, h6a, h6b, h6c, h6d, h6e, h6f, h6g, h6h, h6i, h6j, h6k, h6l, h6m, h6n, h6o, h6p, h6q, h6r, h6s, h6t, h6u⟩ := mg_Mo hO
  refine va_get (ci := 8) (C := RX8) (T := TX8) (N := 49) (v := .ref (ad 26)) hx hb hts inX8 hown hK hP 0 (zw_at (by decide) e6) rfl 40 (by decide) fl86 (fun _ h => h) rfl dX8_turn_6 ?_
  refine lv_iload_n hx hb dX8_turn_9 rfl (lv_at hl 0 rfl) ?_
  obtain ⟨f10, e10⟩ := mg_RL hO
  refine z_iald hx hb hK hP (q0 := 26) 0 (by decide) e10 rfl (by omega) dX8_turn_10 (fun v10 r10 => ?_)
  refine lv_istore_n (lv' := [(3, .int v10), (2, .int v3), (0, .ref (ad 0)), (1, .int p1)]) hx hb dX8_turn_11 rfl hl (by decide) rfl (fun ls hl => ?_)
  refine lv_aload_n hx hb dX8_turn_12 rfl (lv_at hl 2 rfl) ?_
  refine va_get (ci := 8) (C := RX8) (T := TX8) (N := 49) (v := .ref (ad 27)) hx hb hts inX8 hown hK hP 0 (zw_at (by decide) e6) rfl 41 (by decide) fl89 (fun _ h => h) rfl dX8_turn_13 ?_
  refine lv_iload_n hx hb dX8_turn_16 rfl (lv_at hl 1 rfl) ?_
  obtain ⟨f17, e17⟩ := mg_RX hO
  refine z_iald hx hb hK hP (q0 := 27) 0 (by decide) e17 rfl (by omega) dX8_turn_17 (fun v17 r17 => ?_)
  refine lv_istore (lv' := [(4, .int v17), (3, .int v10), (2, .int v3), (0, .ref (ad 0)), (1, .int p1)]) hx hb dX8_turn_18 hl (by decide) rfl (fun ls hl => ?_)
  refine lv_aload_n hx hb dX8_turn_20 rfl (lv_at hl 3 rfl) ?_
  refine va_get (ci := 8) (C := RX8) (T := TX8) (N := 49) (v := .ref (ad 28)) hx hb hts inX8 hown hK hP 0 (zw_at (by decide) e6) rfl 42 (by decide) fl92 (fun _ h => h) rfl dX8_turn_21 ?_
  refine lv_iload_n hx hb dX8_turn_24 rfl (lv_at hl 2 rfl) ?_
  obtain ⟨f25, e25⟩ := mg_RY hO
  refine z_iald hx hb hK hP (q0 := 28) 0 (by decide) e25 rfl (by omega) dX8_turn_25 (fun v25 r25 => ?_)
  refine lv_istore (lv' := [(5, .int v25), (4, .int v17), (3, .int v10), (2, .int v3), (0, .ref (ad 0)), (1, .int p1)]) hx hb dX8_turn_26 hl (by decide) rfl (fun ls hl => ?_)
  refine z_ic hx hb dX8_turn_28 (by decide) (fun v28 h28 => ?_)
  refine lv_istore (lv' := [(6, .int v28), (5, .int v25), (4, .int v17), (3, .int v10), (2, .int v3), (0, .ref (ad 0)), (1, .int p1)]) hx hb dX8_turn_29 hl (by decide) rfl (fun ls hl => ?_)
  refine lv_iload_n hx hb dX8_turn_31 rfl (lv_at hl 3 rfl) ?_
  refine lv_aload_n hx hb dX8_turn_32 rfl (lv_at hl 5 rfl) ?_
  refine va_get (ci := 8) (C := RX8) (T := TX8) (N := 49) (v := .ref (ad 22)) hx hb hts inX8 hown hK hP 0 (zw_at (by decide) e6) rfl 36 (by decide) fl74 (fun _ h => h) rfl dX8_turn_33 ?_
  refine lv_iload_n hx hb dX8_turn_36 rfl (lv_at hl 6 rfl) ?_
  obtain ⟨f37, e37⟩ := mg_Wl hO
  refine z_iald hx hb hK hP (q0 := 22) 0 (by decide) e37 rfl (by omega) dX8_turn_37 (fun v37 r37 => ?_)
  refine z_icmp_ne (tgt := 94) hx hb dX8_turn_38 (by decide) (fun c38 => ?_) (fun c38 => ?_)
  · skip
    refine lv_aload_n hx hb dX8_turn_94 rfl (lv_at hl 5 rfl) ?_
    refine lv_iload_n hx hb dX8_turn_95 rfl (lv_at hl 3 rfl) ?_
    refine lv_iload hx hb dX8_turn_96 (lv_at hl 2 rfl) ?_
    refine lv_iload hx hb dX8_turn_98 (lv_at hl 1 rfl) ?_
    refine z_ciP (z_rV (q0 := 0) (As := [.int v10, .int v17, .int v25]) (rest := []) ⟨hx, hb, hml, hown, hts⟩ (c_X8_isGround l D cy ad cnt nd wn S By Ah (fun c1 => c1 = ce) hJ v10 v17 v25) (cwV 3 hts (g_V mw_390 mw_391 mw_392 mw_324 mw_393) rfl rfl rfl (by decide +kernel) ⟨Nat.le_of_ble_eq_true rfl, Nat.le_of_ble_eq_true rfl⟩) hK hN ⟨hO, rfl⟩ hP (by decide) e6 rfl rfl hl.1 rfl (Nat.le_of_ble_eq_true rfl) dX8_turn_100 ⟨Nat.zero_le _, Nat.zero_le _⟩) hS (fun _ h => h.2) (fun v100 H locs h100 hP hS => ?_)
    refine z_if_eq (tgt := 135) hx hb dX8_turn_103 (by decide) (fun c103 => ?_) (fun c103 => ?_)
    · skip
      exact J135 _ _ _ Ah p1 v3 v10 v17 v25 v28 hP hS hO (by omega) (by omega) (by assumption) _ (lv_sub hl [5, 6, 4, 3, 2, 1, 0] rfl)
    · skip
      refine lv_aload_n hx hb dX8_turn_106 rfl (lv_at hl 5 rfl) ?_
      refine lv_aload_n hx hb dX8_turn_107 rfl (lv_at hl 5 rfl) ?_
      refine va_get (ci := 8) (C := RX8) (T := TX8) (N := 49) (v := .ref (ad 22)) hx hb hts inX8 hown hK hP 0 (zw_at (by decide) e6) rfl 36 (by decide) fl74 (fun _ h => h) rfl dX8_turn_108 ?_
      refine lv_iload_n hx hb dX8_turn_111 rfl (lv_at hl 6 rfl) ?_
      refine z_iald hx hb hK hP (q0 := 22) 0 (by decide) e37 rfl (by omega) dX8_turn_112 (fun v112 r112 => ?_)
      have h112 : v112.toInt = v37.toInt := z_same r112 r37
      refine lv_aload_n hx hb dX8_turn_113 rfl (lv_at hl 5 rfl) ?_
      refine va_get (ci := 8) (C := RX8) (T := TX8) (N := 49) (v := .ref (ad 23)) hx hb hts inX8 hown hK hP 0 (zw_at (by decide) e6) rfl 37 (by decide) fl77 (fun _ h => h) rfl dX8_turn_114 ?_
      refine lv_iload_n hx hb dX8_turn_117 rfl (lv_at hl 6 rfl) ?_
      obtain ⟨f118, e118⟩ := mg_Wx hO
      refine z_iald hx hb hK hP (q0 := 23) 0 (by decide) e118 rfl (by omega) dX8_turn_118 (fun v118 r118 => ?_)
      refine lv_aload_n hx hb dX8_turn_119 rfl (lv_at hl 5 rfl) ?_
      refine va_get (ci := 8) (C := RX8) (T := TX8) (N := 49) (v := .ref (ad 24)) hx hb hts inX8 hown hK hP 0 (zw_at (by decide) e6) rfl 38 (by decide) fl80 (fun _ h => h) rfl dX8_turn_120 ?_
      refine lv_iload_n hx hb dX8_turn_123 rfl (lv_at hl 6 rfl) ?_
      obtain ⟨f124, e124⟩ := mg_Wz hO
      refine z_iald hx hb hK hP (q0 := 24) 0 (by decide) e124 rfl (by omega) dX8_turn_124 (fun v124 r124 => ?_)
      refine lv_iload_n hx hb dX8_turn_125 rfl (lv_at hl 3 rfl) ?_
      refine lv_iload hx hb dX8_turn_126 (lv_at hl 2 rfl) ?_
      refine lv_iload hx hb dX8_turn_128 (lv_at hl 1 rfl) ?_
      refine z_ciP (z_rV (q0 := 0) (As := [.int v112, .int v118, .int v124, .int v10, .int v17, .int v25]) (rest := []) ⟨hx, hb, hml, hown, hts⟩ (c_X8_climb l D cy ad cnt nd wn S By Ah (fun c1 => c1 = ce) hJ v112 v118 v124 v10 v17 v25) (cwV 6 hts (g_V mw_402 mw_403 mw_404 mw_324 mw_405) rfl rfl rfl (by decide +kernel) ⟨Nat.le_of_ble_eq_true rfl, Nat.le_of_ble_eq_true rfl⟩) hK hN ⟨hO, rfl⟩ hP (by decide) e6 rfl rfl hl.1 rfl (Nat.le_of_ble_eq_true rfl) dX8_turn_130 ⟨Nat.zero_le _, Nat.zero_le _⟩) hS (fun _ h => h.2) (fun v130 H locs h130 hP hS => ?_)
      refine lv_istore (lv' := [(6, .int v130), (5, .int v25), (4, .int v17), (3, .int v10), (2, .int v3), (0, .ref (ad 0)), (1, .int p1)]) hx hb dX8_turn_133 hl (by decide) rfl (fun ls hl => ?_)
      exact J135 _ _ _ Ah p1 v3 v10 v17 v25 v130 hP hS hO (by omega) (by omega) (by assumption) _ (lv_sub hl [5, 6, 4, 3, 2, 1, 0] rfl)
  · skip
    refine lv_aload_n hx hb dX8_turn_41 rfl (lv_at hl 5 rfl) ?_
    refine lv_iload_n hx hb dX8_turn_42 rfl (lv_at hl 3 rfl) ?_
    refine lv_aload_n hx hb dX8_turn_43 rfl (lv_at hl 5 rfl) ?_
    refine va_get (ci := 8) (C := RX8) (T := TX8) (N := 49) (v := .ref (ad 23)) hx hb hts inX8 hown hK hP 0 (zw_at (by decide) e6) rfl 37 (by decide) fl77 (fun _ h => h) rfl dX8_turn_44 ?_
    refine lv_iload_n hx hb dX8_turn_47 rfl (lv_at hl 6 rfl) ?_
    obtain ⟨f48, e48⟩ := mg_Wx hO
    refine z_iald hx hb hK hP (q0 := 23) 0 (by decide) e48 rfl (by omega) dX8_turn_48 (fun v48 r48 => ?_)
    refine lv_aload_n hx hb dX8_turn_49 rfl (lv_at hl 5 rfl) ?_
    refine va_get (ci := 8) (C := RX8) (T := TX8) (N := 49) (v := .ref (ad 24)) hx hb hts inX8 hown hK hP 0 (zw_at (by decide) e6) rfl 38 (by decide) fl80 (fun _ h => h) rfl dX8_turn_50 ?_
    refine lv_iload_n hx hb dX8_turn_53 rfl (lv_at hl 6 rfl) ?_
    obtain ⟨f54, e54⟩ := mg_Wz hO
    refine z_iald hx hb hK hP (q0 := 24) 0 (by decide) e54 rfl (by omega) dX8_turn_54 (fun v54 r54 => ?_)
    refine lv_iload hx hb dX8_turn_55 (lv_at hl 2 rfl) ?_
    refine lv_iload hx hb dX8_turn_57 (lv_at hl 1 rfl) ?_
    refine z_ci (z_rV (q0 := 0) (As := [.int v10, .int v48, .int v54, .int v17, .int v25]) (rest := []) ⟨hx, hb, hml, hown, hts⟩ (c_X8_seen l D cy ad cnt nd wn S By Ah hJ v10 v48 v54 v17 v25) (cwV 5 hts (g_V mw_406 mw_407 mw_408 mw_324 mw_409) rfl rfl rfl (by decide +kernel) ⟨Nat.le_of_ble_eq_true rfl, Nat.le_of_ble_eq_true rfl⟩) hK hN hO hP (by decide) e6 rfl rfl hl.1 rfl (Nat.le_of_ble_eq_true rfl) dX8_turn_59 ⟨Nat.zero_le _, Nat.zero_le _⟩) hS (fun v59 ce H locs h59 hP hS => ?_)
    obtain ⟨hO, h59a⟩ := h59
    refine z_ic hx hb dX8_turn_62 (by decide) (fun v62 h62 => ?_)
    refine z_icmp_ne (tgt := 88) hx hb dX8_turn_63 (by decide) (fun c63 => ?_) (fun c63 => ?_)
    · skip
      refine z_ic hx hb dX8_turn_88 (by decide) (fun v88 h88 => ?_)
      exact J89 _ _ _ Ah p1 v3 v10 v17 v25 v88 hP hS hO (by omega) (by omega) (by assumption) _ (lv_sub hl [5, 6, 4, 3, 2, 1] rfl)
    · skip
      refine lv_aload_n hx hb dX8_turn_66 rfl (lv_at hl 5 rfl) ?_
      obtain ⟨v67, v67a, v67b, v67c, v67d, v67e, v67f, v67g, v67h, v67i, v67j, v67k, v67l, v67m, v67n, v67o, e67, h67, h67a, h67b, h67c, h67d, h67e, h67f, h67g, h67h, h67i, h67j, h67k, h67l, h67m, h67n, h67o, h67p, h67q, h67r, h67s, h67t, h67u⟩ := mg_Mo hO
      refine va_get (ci := 8) (C := RX8) (T := TX8) (N := 49) (v := .ref (ad 23)) hx hb hts inX8 hown hK hP 0 (zw_at (by decide) e67) rfl 37 (by decide) fl77 (fun _ h => h) rfl dX8_turn_67 ?_
      refine lv_iload_n hx hb dX8_turn_70 rfl (lv_at hl 6 rfl) ?_
      obtain ⟨f71, e71⟩ := mg_Wx hO
      refine z_iald hx hb hK hP (q0 := 23) 0 (by decide) e71 rfl (by omega) dX8_turn_71 (fun v71 r71 => ?_)
      refine lv_aload_n hx hb dX8_turn_72 rfl (lv_at hl 5 rfl) ?_
      refine va_get (ci := 8) (C := RX8) (T := TX8) (N := 49) (v := .ref (ad 24)) hx hb hts inX8 hown hK hP 0 (zw_at (by decide) e67) rfl 38 (by decide) fl80 (fun _ h => h) rfl dX8_turn_73 ?_
      refine lv_iload_n hx hb dX8_turn_76 rfl (lv_at hl 6 rfl) ?_
      obtain ⟨f77, e77⟩ := mg_Wz hO
      refine z_iald hx hb hK hP (q0 := 24) 0 (by decide) e77 rfl (by omega) dX8_turn_77 (fun v77 r77 => ?_)
      refine lv_iload hx hb dX8_turn_78 (lv_at hl 2 rfl) ?_
      refine lv_iload hx hb dX8_turn_80 (lv_at hl 1 rfl) ?_
      refine z_ciP (z_rS (As := [.int v71, .int v77, .int v17, .int v25]) (rest := []) ⟨hx, hb, hml, hown, hts⟩ (c_X8_lengthOf l D (mT cy) 34 ad (fun c1 => c1 = ce) v71 v77 v17 v25) (va_cwS 4 hts (g_S mw_410 mw_411 mw_324 mw_412) rfl rfl rfl (by decide +kernel) ⟨Nat.le_of_ble_eq_true rfl, Nat.le_of_ble_eq_true rfl⟩) hK hN rfl hP rfl hl.1 rfl (Nat.le_of_ble_eq_true rfl) dX8_turn_82 ⟨Nat.zero_le _, Nat.zero_le _⟩) hS (fun _ h => h) (fun v82 H locs h82 hP hS => ?_)
      refine lv_goto (tgt := 89) hx hb dX8_turn_85 (by decide) ?_
      exact J89 _ _ _ Ah p1 v3 v10 v17 v25 v82 hP hS hO (by omega) (by omega) (by assumption) _ (lv_sub hl [5, 6, 4, 3, 2, 1] rfl)
