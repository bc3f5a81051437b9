set_option maxHeartbeats 8000000 in
set_option maxRecDepth 100000 in
theorem c_X3_leastLadderCost (l : Launch) (D : va_G) (cy : Nat → ClassId) (ad : Nat → Nat) (cnt : Nat → Nat) (B : Nat) (PP : (Nat → va_E) → Prop) (hJ : zJ 73 ad) (p1 : Int32) (p2 : Int32) : zM l D (gT cy) 73 ad (fun c1 => gOK cy ad cnt B c1 ∧ PP c1) yX3_leastLadderCost vsX3_leastLadderCost { frames := 0, cells := 0, slots := 0, locals := 0 } ([.ref (ad 1), .int p1, .int p2] : List Value) (zQi D 73 ad (fun r ce => (gOK cy ad cnt B ce ∧ PP ce) ∧ (True))) := by
  refine z_of (cc := cX3_leastLadderCost) (maxL := 6) (ret := (some .int)) (by decide) rfl (Nat.le_of_ble_eq_true rfl) ?_
  intro p e s m below meth c hx hb hr hts hown hlocks hml hK hN ce hOK hP
  have hown : s.vm.findClass RX3 = some m.cls := hown
  have hS : va_S (zA 73 ad) s.heap s.heap [] := va_S.rf
  obtain ⟨hO, hPP⟩ := hOK
  have inX3 : ∀ w ∈ u_ws RX3 TX3 9, w ∈ vsX3_leastLadderCost := fun w h => List.mem_cons_of_mem _ (inlX3 w h)
  have fl29 := hts (.fieldLink RX3 29 "GroundKeeper$Ground" "ladderFrom" "[I") (List.mem_cons_of_mem _ mw_55)
  have fl33 := hts (.fieldLink RX3 33 "GroundKeeper$Ground" "ladderTo" "[I") (List.mem_cons_of_mem _ mw_56)
  have fl36 := hts (.fieldLink RX3 36 "GroundKeeper$Ground" "ladderCost" "[I") (List.mem_cons_of_mem _ mw_57)
  have fl46 := hts (.fieldLink RX3 46 "GroundKeeper$Ground" "ladderSize" "I") (List.mem_cons_of_mem _ mw_58)
  have L5 : ∀ N5 : Nat, ∀ (H : Heap) (locs : List Loc) (x1 : Int32) (x2 : Int32) (x3 : Int32) (x4 : Int32), va_P D vwCl (zw 73 ad ce) H → va_S (zA 73 ad) s.heap H locs → (0 ≤ x4.toInt ∧ x4.toInt ≤ 6) → (7 - x4.toInt ≤ (N5 : Int)) → ∀ ls : Array Slot, lv_has ls 6 [(0, .ref (ad 1)), (1, .int x1), (2, .int x2), (3, .int x3), (4, .int x4)] → W p l e { frames := 0, cells := 0, slots := 0, locals := 0 } s m ([.ref (ad 1), .int p1, .int p2] : List Value).toArray below meth c H locs 0 0 (MQ below (zQi D 73 ad (fun r ce => (gOK cy ad cnt B ce ∧ PP ce) ∧ (True))) ([.ref (ad 1), .int p1, .int p2] : List Value).toArray s 0 0 (zA 73 ad)) (F0 m 5 ls []) := by
    intro N5
    induction N5 with
    | zero =>
      intro H locs x1 x2 x3 x4 hP hS q_x4 hm ls hl
      exfalso; omega
    | succ N5 ih5 =>
      have J94 : ∀ (H : Heap) (locs : List Loc) (x1 : Int32) (x2 : Int32) (x3 : Int32) (x4 : Int32), va_P D vwCl (zw 73 ad ce) H → va_S (zA 73 ad) s.heap H locs → (0 ≤ x4.toInt ∧ x4.toInt ≤ 5) → (7 - x4.toInt ≤ (N5 : Int) + 1) → ∀ ls : Array Slot, lv_has ls 6 [(0, .ref (ad 1)), (1, .int x1), (2, .int x2), (3, .int x3), (4, .int x4)] → W p l e { frames := 0, cells := 0, slots := 0, locals := 0 } s m ([.ref (ad 1), .int p1, .int p2] : List Value).toArray below meth c H locs 0 0 (MQ below (zQi D 73 ad (fun r ce => (gOK cy ad cnt B ce ∧ PP ce) ∧ (True))) ([.ref (ad 1), .int p1, .int p2] : List Value).toArray s 0 0 (zA 73 ad)) (F0 m 94 ls []) := by
        intro H locs x1 x2 x3 x4 hP hS q_x4 qm5 ls hl
        refine z_iinc (lv' := fun w0 => [(4, .int w0), (0, .ref (ad 1)), (1, .int x1), (2, .int x2), (3, .int x3)]) hx hb dX3_leastLadderCost_94 hl (k := 4) rfl (by decide) (fun _ => rfl) (by decide) (by omega) (fun v94 ls h94 hl => ?_)
        refine lv_goto (tgt := 5) hx hb dX3_leastLadderCost_97 (by decide) ?_
        exact ih5 _ _ x1 x2 x3 v94 hP hS (by omega) (by omega) _ (lv_sub hl [1, 2, 3, 4, 0] rfl)
      have J86 : ∀ (H : Heap) (locs : List Loc) (x1 : Int32) (x2 : Int32) (x4 : Int32), va_P D vwCl (zw 73 ad ce) H → va_S (zA 73 ad) s.heap H locs → (0 ≤ x4.toInt ∧ x4.toInt ≤ 5) → (7 - x4.toInt ≤ (N5 : Int) + 1) → ∀ ls : Array Slot, lv_has ls 6 [(0, .ref (ad 1)), (1, .int x1), (2, .int x2), (4, .int x4)] → W p l e { frames := 0, cells := 0, slots := 0, locals := 0 } s m ([.ref (ad 1), .int p1, .int p2] : List Value).toArray below meth c H locs 0 0 (MQ below (zQi D 73 ad (fun r ce => (gOK cy ad cnt B ce ∧ PP ce) ∧ (True))) ([.ref (ad 1), .int p1, .int p2] : List Value).toArray s 0 0 (zA 73 ad)) (F0 m 86 ls []) := by
        intro H locs x1 x2 x4 hP hS q_x4 qm5 ls hl
        refine lv_aload_n hx hb dX3_leastLadderCost_86 rfl (lv_at hl 0 rfl) ?_
        obtain ⟨v87, e87, h87, h87a, h87b⟩ := gg_Gr hO
        refine va_get (ci := 3) (C := RX3) (T := TX3) (N := 9) (v := .ref (ad 46)) hx hb hts inX3 hown hK hP 1 (zw_at (by decide) e87) rfl 6 (by decide) fl36 (fun _ h => h) rfl dX3_leastLadderCost_87 ?_
        refine lv_iload hx hb dX3_leastLadderCost_90 (lv_at hl 3 rfl) ?_
        obtain ⟨f92, e92⟩ := gg_L2 hO
        refine z_iald hx hb hK hP (q0 := 46) 0 (by decide) e92 rfl (by omega) dX3_leastLadderCost_92 (fun v92 h92a => ?_)
        refine lv_istore_n (lv' := [(3, .int v92), (0, .ref (ad 1)), (1, .int x1), (2, .int x2), (4, .int x4)]) hx hb dX3_leastLadderCost_93 rfl hl (by decide) rfl (fun ls hl => ?_)
        exact J94 _ _ x1 x2 v92 x4 hP hS (by omega) (by omega) _ (lv_sub hl [1, 2, 3, 0, 4] rfl)
      have J63 : ∀ (H : Heap) (locs : List Loc) (x1 : Int32) (x2 : Int32) (x3 : Int32) (x4 : Int32) (s0 : Int32), va_P D vwCl (zw 73 ad ce) H → va_S (zA 73 ad) s.heap H locs → (0 ≤ x4.toInt ∧ x4.toInt ≤ 5) → (0 ≤ s0.toInt ∧ s0.toInt ≤ 1) → (7 - x4.toInt ≤ (N5 : Int) + 1) → ∀ ls : Array Slot, lv_has ls 6 [(0, .ref (ad 1)), (1, .int x1), (2, .int x2), (3, .int x3), (4, .int x4)] → W p l e { frames := 0, cells := 0, slots := 0, locals := 0 } s m ([.ref (ad 1), .int p1, .int p2] : List Value).toArray below meth c H locs 0 0 (MQ below (zQi D 73 ad (fun r ce => (gOK cy ad cnt B ce ∧ PP ce) ∧ (True))) ([.ref (ad 1), .int p1, .int p2] : List Value).toArray s 0 0 (zA 73 ad)) (F0 m 63 ls [.int s0]) := by
        intro H locs x1 x2 x3 x4 s0 hP hS q_x4 q_s0 qm5 ls hl
        refine lv_istore (lv' := [(5, .int s0), (0, .ref (ad 1)), (1, .int x1), (2, .int x2), (3, .int x3), (4, .int x4)]) hx hb dX3_leastLadderCost_63 hl (by decide) rfl (fun ls hl => ?_)
        refine lv_iload hx hb dX3_leastLadderCost_65 (lv_at hl 0 rfl) ?_
        refine z_if_eq (tgt := 94) hx hb dX3_leastLadderCost_67 (by decide) (fun c67 => ?_) (fun c67 => ?_)
        · skip
          exact J94 _ _ x1 x2 x3 x4 hP hS (by omega) (by omega) _ (lv_sub hl [1, 2, 3, 4, 5] rfl)
        · skip
          refine lv_iload_n hx hb dX3_leastLadderCost_70 rfl (lv_at hl 4 rfl) ?_
          refine z_ic hx hb dX3_leastLadderCost_71 (by decide) (fun v71 h71 => ?_)
          refine z_icmp_eq (tgt := 86) hx hb dX3_leastLadderCost_72 (by decide) (fun c72 => ?_) (fun c72 => ?_)
          · skip
            exact J86 _ _ x1 x2 x4 hP hS (by omega) (by omega) _ (lv_sub hl [1, 2, 3, 5] rfl)
          · skip
            refine lv_aload_n hx hb dX3_leastLadderCost_75 rfl (lv_at hl 1 rfl) ?_
            obtain ⟨v76, e76, h76, h76a, h76b⟩ := gg_Gr hO
            refine va_get (ci := 3) (C := RX3) (T := TX3) (N := 9) (v := .ref (ad 46)) hx hb hts inX3 hown hK hP 1 (zw_at (by decide) e76) rfl 6 (by decide) fl36 (fun _ h => h) rfl dX3_leastLadderCost_76 ?_
            refine lv_iload hx hb dX3_leastLadderCost_79 (lv_at hl 5 rfl) ?_
            obtain ⟨f81, e81⟩ := gg_L2 hO
            refine z_iald hx hb hK hP (q0 := 46) 0 (by decide) e81 rfl (by omega) dX3_leastLadderCost_81 (fun v81 h81a => ?_)
            refine lv_iload_n hx hb dX3_leastLadderCost_82 rfl (lv_at hl 4 rfl) ?_
            refine z_icmp_ge (tgt := 94) hx hb dX3_leastLadderCost_83 (by decide) (fun c83 => ?_) (fun c83 => ?_)
            · skip
              exact J94 _ _ x1 x2 x3 x4 hP hS (by omega) (by omega) _ (lv_sub hl [1, 2, 3, 4, 5] rfl)
            · skip
              exact J86 _ _ x1 x2 x4 hP hS (by omega) (by omega) _ (lv_sub hl [1, 2, 3, 5] rfl)
      have J62 : ∀ (H : Heap) (locs : List Loc) (x1 : Int32) (x2 : Int32) (x3 : Int32) (x4 : Int32), va_P D vwCl (zw 73 ad ce) H → va_S (zA 73 ad) s.heap H locs → (0 ≤ x4.toInt ∧ x4.toInt ≤ 5) → (7 - x4.toInt ≤ (N5 : Int) + 1) → ∀ ls : Array Slot, lv_has ls 6 [(0, .ref (ad 1)), (1, .int x1), (2, .int x2), (3, .int x3), (4, .int x4)] → W p l e { frames := 0, cells := 0, slots := 0, locals := 0 } s m ([.ref (ad 1), .int p1, .int p2] : List Value).toArray below meth c H locs 0 0 (MQ below (zQi D 73 ad (fun r ce => (gOK cy ad cnt B ce ∧ PP ce) ∧ (True))) ([.ref (ad 1), .int p1, .int p2] : List Value).toArray s 0 0 (zA 73 ad)) (F0 m 62 ls []) := by
        intro H locs x1 x2 x3 x4 hP hS q_x4 qm5 ls hl
        refine z_ic hx hb dX3_leastLadderCost_62 (by decide) (fun v62 h62 => ?_)
        exact J63 _ _ x1 x2 x3 x4 v62 hP hS (by omega) (by omega) (by omega) _ (lv_sub hl [0, 1, 2, 3, 4] rfl)
      have J58 : ∀ (H : Heap) (locs : List Loc) (x1 : Int32) (x2 : Int32) (x3 : Int32) (x4 : Int32), va_P D vwCl (zw 73 ad ce) H → va_S (zA 73 ad) s.heap H locs → (0 ≤ x4.toInt ∧ x4.toInt ≤ 5) → (7 - x4.toInt ≤ (N5 : Int) + 1) → ∀ ls : Array Slot, lv_has ls 6 [(0, .ref (ad 1)), (1, .int x1), (2, .int x2), (3, .int x3), (4, .int x4)] → W p l e { frames := 0, cells := 0, slots := 0, locals := 0 } s m ([.ref (ad 1), .int p1, .int p2] : List Value).toArray below meth c H locs 0 0 (MQ below (zQi D 73 ad (fun r ce => (gOK cy ad cnt B ce ∧ PP ce) ∧ (True))) ([.ref (ad 1), .int p1, .int p2] : List Value).toArray s 0 0 (zA 73 ad)) (F0 m 58 ls []) := by
        intro H locs x1 x2 x3 x4 hP hS q_x4 qm5 ls hl
        refine z_ic hx hb dX3_leastLadderCost_58 (by decide) (fun v58 h58 => ?_)
        refine lv_goto (tgt := 63) hx hb dX3_leastLadderCost_59 (by decide) ?_
        exact J63 _ _ x1 x2 x3 x4 v58 hP hS (by omega) (by omega) (by omega) _ (lv_sub hl [0, 1, 2, 3, 4] rfl)
      have J36 : ∀ (H : Heap) (locs : List Loc) (x1 : Int32) (x2 : Int32) (x3 : Int32) (x4 : Int32), va_P D vwCl (zw 73 ad ce) H → va_S (zA 73 ad) s.heap H locs → (0 ≤ x4.toInt ∧ x4.toInt ≤ 5) → (7 - x4.toInt ≤ (N5 : Int) + 1) → ∀ ls : Array Slot, lv_has ls 6 [(0, .ref (ad 1)), (1, .int x1), (2, .int x2), (3, .int x3), (4, .int x4)] → W p l e { frames := 0, cells := 0, slots := 0, locals := 0 } s m ([.ref (ad 1), .int p1, .int p2] : List Value).toArray below meth c H locs 0 0 (MQ below (zQi D 73 ad (fun r ce => (gOK cy ad cnt B ce ∧ PP ce) ∧ (True))) ([.ref (ad 1), .int p1, .int p2] : List Value).toArray s 0 0 (zA 73 ad)) (F0 m 36 ls []) := by
        intro H locs x1 x2 x3 x4 hP hS q_x4 qm5 ls hl
        refine lv_aload_n hx hb dX3_leastLadderCost_36 rfl (lv_at hl 0 rfl) ?_
        obtain ⟨v37, e37, h37, h37a, h37b⟩ := gg_Gr hO
        refine va_get (ci := 3) (C := RX3) (T := TX3) (N := 9) (v := .ref (ad 44)) hx hb hts inX3 hown hK hP 1 (zw_at (by decide) e37) rfl 4 (by decide) fl29 (fun _ h => h) rfl dX3_leastLadderCost_37 ?_
        refine lv_iload hx hb dX3_leastLadderCost_40 (lv_at hl 4 rfl) ?_
        obtain ⟨f42, e42⟩ := gg_L0 hO
        refine z_iald hx hb hK hP (q0 := 44) 0 (by decide) e42 rfl (by omega) dX3_leastLadderCost_42 (fun v42 h42a => ?_)
        refine lv_iload_n hx hb dX3_leastLadderCost_43 rfl (lv_at hl 2 rfl) ?_
        refine z_icmp_ne (tgt := 62) hx hb dX3_leastLadderCost_44 (by decide) (fun c44 => ?_) (fun c44 => ?_)
        · skip
          exact J62 _ _ x1 x2 x3 x4 hP hS (by omega) (by omega) _ (lv_sub hl [0, 1, 2, 3, 4] rfl)
        · skip
          refine lv_aload_n hx hb dX3_leastLadderCost_47 rfl (lv_at hl 0 rfl) ?_
          refine va_get (ci := 3) (C := RX3) (T := TX3) (N := 9) (v := .ref (ad 45)) hx hb hts inX3 hown hK hP 1 (zw_at (by decide) e37) rfl 5 (by decide) fl33 (fun _ h => h) rfl dX3_leastLadderCost_48 ?_
          refine lv_iload hx hb dX3_leastLadderCost_51 (lv_at hl 4 rfl) ?_
          obtain ⟨f53, e53⟩ := gg_L1 hO
          refine z_iald hx hb hK hP (q0 := 45) 0 (by decide) e53 rfl (by omega) dX3_leastLadderCost_53 (fun v53 h53a => ?_)
          refine lv_iload_n hx hb dX3_leastLadderCost_54 rfl (lv_at hl 1 rfl) ?_
          refine z_icmp_ne (tgt := 62) hx hb dX3_leastLadderCost_55 (by decide) (fun c55 => ?_) (fun c55 => ?_)
          · skip
            exact J62 _ _ x1 x2 x3 x4 hP hS (by omega) (by omega) _ (lv_sub hl [0, 1, 2, 3, 4] rfl)
          · skip
            exact J58 _ _ x1 x2 x3 x4 hP hS (by omega) (by omega) _ (lv_sub hl [0, 1, 2, 3, 4] rfl)
      intro H locs x1 x2 x3 x4 hP hS q_x4 hm ls hl
      refine lv_iload hx hb dX3_leastLadderCost_5 (lv_at hl 4 rfl) ?_
      refine lv_aload_n hx hb dX3_leastLadderCost_7 rfl (lv_at hl 0 rfl) ?_
      obtain ⟨v8, e8, h8, h8a, h8b⟩ := gg_Gr hO
      refine va_get (ci := 3) (C := RX3) (T := TX3) (N := 9) (v := .int v8) hx hb hts inX3 hown hK hP 1 (zw_at (by decide) e8) rfl 7 (by decide) fl46 (fun _ h => h) rfl dX3_leastLadderCost_8 ?_
      refine z_icmp_ge (tgt := 100) hx hb dX3_leastLadderCost_11 (by decide) (fun c11 => ?_) (fun c11 => ?_)
      · skip
        refine lv_iload_n hx hb dX3_leastLadderCost_100 rfl (lv_at hl 3 rfl) ?_
        exact z_reti hx hb hr hlocks hP hS dX3_leastLadderCost_101 ⟨⟨hO, hPP⟩, trivial⟩
      · skip
        refine lv_aload_n hx hb dX3_leastLadderCost_14 rfl (lv_at hl 0 rfl) ?_
        refine va_get (ci := 3) (C := RX3) (T := TX3) (N := 9) (v := .ref (ad 44)) hx hb hts inX3 hown hK hP 1 (zw_at (by decide) e8) rfl 4 (by decide) fl29 (fun _ h => h) rfl dX3_leastLadderCost_15 ?_
        refine lv_iload hx hb dX3_leastLadderCost_18 (lv_at hl 4 rfl) ?_
        obtain ⟨f20, e20⟩ := gg_L0 hO
        refine z_iald hx hb hK hP (q0 := 44) 0 (by decide) e20 rfl (by omega) dX3_leastLadderCost_20 (fun v20 h20a => ?_)
        refine lv_iload_n hx hb dX3_leastLadderCost_21 rfl (lv_at hl 1 rfl) ?_
        refine z_icmp_ne (tgt := 36) hx hb dX3_leastLadderCost_22 (by decide) (fun c22 => ?_) (fun c22 => ?_)
        · skip
          exact J36 _ _ x1 x2 x3 x4 hP hS (by omega) (by omega) _ (lv_sub hl [0, 1, 2, 3, 4] rfl)
        · skip
          refine lv_aload_n hx hb dX3_leastLadderCost_25 rfl (lv_at hl 0 rfl) ?_
          refine va_get (ci := 3) (C := RX3) (T := TX3) (N := 9) (v := .ref (ad 45)) hx hb hts inX3 hown hK hP 1 (zw_at (by decide) e8) rfl 5 (by decide) fl33 (fun _ h => h) rfl dX3_leastLadderCost_26 ?_
          refine lv_iload hx hb dX3_leastLadderCost_29 (lv_at hl 4 rfl) ?_
          obtain ⟨f31, e31⟩ := gg_L1 hO
          refine z_iald hx hb hK hP (q0 := 45) 0 (by decide) e31 rfl (by omega) dX3_leastLadderCost_31 (fun v31 h31a => ?_)
          refine lv_iload_n hx hb dX3_leastLadderCost_32 rfl (lv_at hl 2 rfl) ?_
          refine z_icmp_eq (tgt := 58) hx hb dX3_leastLadderCost_33 (by decide) (fun c33 => ?_) (fun c33 => ?_)
          · skip
            exact J58 _ _ x1 x2 x3 x4 hP hS (by omega) (by omega) _ (lv_sub hl [0, 1, 2, 3, 4] rfl)
          · skip
            exact J36 _ _ x1 x2 x3 x4 hP hS (by omega) (by omega) _ (lv_sub hl [0, 1, 2, 3, 4] rfl)
  intro ls hl
  have hl : lv_has ls 6 [(0, .ref (ad 1)), (1, .int p1), (2, .int p2)] := hl
  refine z_ic hx hb dX3_leastLadderCost_0 (by decide) (fun v0 h0 => ?_)
  refine lv_istore_n (lv' := [(3, .int v0), (0, .ref (ad 1)), (1, .int p1), (2, .int p2)]) hx hb dX3_leastLadderCost_1 rfl hl (by decide) rfl (fun ls hl => ?_)
  refine z_ic hx hb dX3_leastLadderCost_2 (by decide) (fun v2 h2 => ?_)
  refine lv_istore (lv' := [(4, .int v2), (3, .int v0), (0, .ref (ad 1)), (1, .int p1), (2, .int p2)]) hx hb dX3_leastLadderCost_3 hl (by decide) rfl (fun ls hl => ?_)
  exact L5 8 _ _ p1 p2 v0 v2 hP hS (by omega) (by omega) _ (lv_sub hl [2, 3, 4, 1, 0] rfl)
set_option maxHeartbeats 8000000 in
set_option maxRecDepth 100000 in
theorem c_X3_isGround (l : Launch) (D : va_G) (cy : Nat → ClassId) (ad : Nat → Nat) (cnt : Nat → Nat) (B : Nat) (PP : (Nat → va_E) → Prop) (hJ : zJ 73 ad) (p1 : Int32) : zM l D (gT cy) 73 ad (fun c1 => gOK cy ad cnt B c1 ∧ PP c1) yX3_isGround vsX3_isGround { frames := 1, cells := 0, slots := 0, locals := 23 } ([.ref (ad 1), .int p1] : List Value) (zQi D 73 ad (fun r ce => (gOK cy ad cnt B ce ∧ PP ce) ∧ (0 ≤ r.toInt ∧ r.toInt ≤ 1))) := by
  refine z_of (cc := cX3_isGround) (maxL := 6) (ret := (some .boolean)) (by decide) rfl (Nat.le_of_ble_eq_true rfl) ?_
  intro p e s m below meth c hx hb hr hts hown hlocks hml hK hN ce hOK hP
  have hown : s.vm.findClass RX3 = some m.cls := hown
  have hS : va_S (zA 73 ad) s.heap s.heap [] := va_S.rf
  obtain ⟨hO, hPP⟩ := hOK
  have inX0 : ∀ w ∈ u_ws RX0 TX0 6, w ∈ vsX3_isGround := fun w h => List.mem_cons_of_mem _ (inlX0 w h)
  have inX1 : ∀ w ∈ u_ws RX1 TX1 2, w ∈ vsX3_isGround := fun w h => List.mem_cons_of_mem _ (inlX1 w h)
  have inX3 : ∀ w ∈ u_ws RX3 TX3 9, w ∈ vsX3_isGround := fun w h => List.mem_cons_of_mem _ (inlX3 w h)
  have fl14 := hts (.fieldLink RX3 14 "GroundKeeper$Ground" "rooms" "LGroundKeeper$Areas;") (List.mem_cons_of_mem _ mw_59)
  have fl20 := hts (.fieldLink RX3 20 "GroundKeeper$Ground" "boxes" "LGroundKeeper$Areas;") (List.mem_cons_of_mem _ mw_60)
  have fl60 := hts (.fieldLink RX3 60 "GroundKeeper$Areas" "all" "[LGroundKeeper$Area;") (List.mem_cons_of_mem _ mw_61)
  have fl64 := hts (.fieldLink RX3 64 "GroundKeeper$Area" "on" "Z") (List.mem_cons_of_mem _ mw_62)
  have fl74 := hts (.fieldLink RX3 74 "GroundKeeper$Areas" "size" "I") (List.mem_cons_of_mem _ mw_63)
  have L73 : ∀ N73 : Nat, ∀ (H : Heap) (locs : List Loc) (x2 : Int32) (x3 : Int32) (x4 : Int32) (x5 : Int32), va_P D vwCl (zw 73 ad ce) H → va_S (zA 73 ad) s.heap H locs → (0 ≤ x5.toInt ∧ x5.toInt ≤ 12) → (13 - x5.toInt ≤ (N73 : Int)) → ∀ ls : Array Slot, lv_has ls 6 [(0, .ref (ad 1)), (2, .int x2), (3, .int x3), (4, .int x4), (5, .int x5)] → W p l e { frames := 1, cells := 0, slots := 0, locals := 23 } s m ([.ref (ad 1), .int p1] : List Value).toArray below meth c H locs 0 0 (MQ below (zQi D 73 ad (fun r ce => (gOK cy ad cnt B ce ∧ PP ce) ∧ (0 ≤ r.toInt ∧ r.toInt ≤ 1))) ([.ref (ad 1), .int p1] : List Value).toArray s 0 0 (zA 73 ad)) (F0 m 73 ls []) := by
    intro N73
    induction N73 with
    | zero =>
      intro H locs x2 x3 x4 x5 hP hS q_x5 hm ls hl
      exfalso; omega
    | succ N73 ih73 =>
      intro H locs x2 x3 x4 x5 hP hS q_x5 hm ls hl
      refine lv_iload hx hb dX3_isGround_73 (lv_at hl 4 rfl) ?_
      refine lv_aload_n hx hb dX3_isGround_75 rfl (lv_at hl 0 rfl) ?_
      obtain ⟨v76, e76, h76, h76a, h76b⟩ := gg_Gr hO
      refine va_get (ci := 3) (C := RX3) (T := TX3) (N := 9) (v := .ref (ad 4)) hx hb hts inX3 hown hK hP 1 (zw_at (by decide) e76) rfl 0 (by decide) fl14 (fun _ h => h) rfl dX3_isGround_76 ?_
      obtain ⟨v79, e79, h79, h79a, h79b⟩ := gg_Ro hO
      refine va_get (ci := 1) (C := RX1) (T := TX1) (N := 2) (v := .int v79) hx hb hts inX1 hown hK hP 4 (zw_at (by decide) e79) rfl 1 (by decide) fl74 (fun _ h => h) rfl dX3_isGround_79 ?_
      refine z_icmp_ge (tgt := 113) hx hb dX3_isGround_82 (by decide) (fun c82 => ?_) (fun c82 => ?_)
      · skip
        refine z_ic hx hb dX3_isGround_113 (by decide) (fun v113 h113 => ?_)
        exact z_retz hx hb hr hlocks hP hS dX3_isGround_114 (by omega) ⟨⟨hO, hPP⟩, (by omega)⟩
      · skip
        refine lv_aload_n hx hb dX3_isGround_85 rfl (lv_at hl 0 rfl) ?_
        refine va_get (ci := 3) (C := RX3) (T := TX3) (N := 9) (v := .ref (ad 4)) hx hb hts inX3 hown hK hP 1 (zw_at (by decide) e76) rfl 0 (by decide) fl14 (fun _ h => h) rfl dX3_isGround_86 ?_
        refine va_get (ci := 1) (C := RX1) (T := TX1) (N := 2) (v := .ref (ad 8)) hx hb hts inX1 hown hK hP 4 (zw_at (by decide) e79) rfl 0 (by decide) fl60 (fun _ h => h) rfl dX3_isGround_89 ?_
        refine lv_iload hx hb dX3_isGround_92 (lv_at hl 4 rfl) ?_
        obtain ⟨f94, e94, h94⟩ := gg_RoA hO
        refine z_ald (g := fun j0 => 12 + j0) hx hb hK hP (q0 := 8) 2 (by decide) e94 rfl (by omega) h94 dX3_isGround_94 (fun j94 h94a => ?_)
        refine lv_iload_n hx hb dX3_isGround_95 rfl (lv_at hl 1 rfl) ?_
        refine lv_iload_n hx hb dX3_isGround_96 rfl (lv_at hl 2 rfl) ?_
        refine lv_iload hx hb dX3_isGround_97 (lv_at hl 3 rfl) ?_
        obtain ⟨v99, v99a, v99b, v99c, v99d, v99e, e99⟩ := gg_Ar hO (j := j94) (by omega)
        refine z_ciP (z_rV (q0 := (12 + j94)) (As := [.int x2, .int x3, .int x4]) (rest := []) ⟨hx, hb, hml, hown, hts⟩ (c_X0_holds l D cy ad cnt B (fun c1 => c1 = ce) hJ j94 x2 x3 x4 (by omega)) (cwV 3 hts (g_V mw_72 mw_73 mw_74 mw_33 mw_75) rfl rfl rfl (by decide +kernel) ⟨Nat.le_of_ble_eq_true rfl, Nat.le_of_ble_eq_true rfl⟩) hK hN ⟨hO, rfl⟩ hP (by omega) e99 rfl rfl hl.1 rfl (Nat.le_of_ble_eq_true rfl) dX3_isGround_99 ⟨Nat.zero_le _, Nat.zero_le _⟩) hS (fun _ h => h.2) (fun v99f H locs h99 hP hS => ?_)
        refine z_if_eq (tgt := 107) hx hb dX3_isGround_102 (by decide) (fun c102 => ?_) (fun c102 => ?_)
        · skip
          refine z_iinc (lv' := fun w0 => [(5, .int w0), (0, .ref (ad 1)), (2, .int x2), (3, .int x3), (4, .int x4)]) hx hb dX3_isGround_107 hl (k := 4) rfl (by decide) (fun _ => rfl) (by decide) (by omega) (fun v107 ls h107 hl => ?_)
          refine lv_goto (tgt := 73) hx hb dX3_isGround_110 (by decide) ?_
          exact ih73 _ _ x2 x3 x4 v107 hP hS (by omega) (by omega) _ (lv_sub hl [1, 2, 3, 4, 0] rfl)
        · skip
          refine z_ic hx hb dX3_isGround_105 (by decide) (fun v105 h105 => ?_)
          exact z_retz hx hb hr hlocks hP hS dX3_isGround_106 (by omega) ⟨⟨hO, hPP⟩, (by omega)⟩
  have L19 : ∀ N19 : Nat, ∀ (H : Heap) (locs : List Loc) (x2 : Int32) (x3 : Int32) (x4 : Int32) (x5 : Int32), va_P D vwCl (zw 73 ad ce) H → va_S (zA 73 ad) s.heap H locs → (0 ≤ x5.toInt ∧ x5.toInt ≤ 8) → (9 - x5.toInt ≤ (N19 : Int)) → ∀ ls : Array Slot, lv_has ls 6 [(0, .ref (ad 1)), (2, .int x2), (3, .int x3), (4, .int x4), (5, .int x5)] → W p l e { frames := 1, cells := 0, slots := 0, locals := 23 } s m ([.ref (ad 1), .int p1] : List Value).toArray below meth c H locs 0 0 (MQ below (zQi D 73 ad (fun r ce => (gOK cy ad cnt B ce ∧ PP ce) ∧ (0 ≤ r.toInt ∧ r.toInt ≤ 1))) ([.ref (ad 1), .int p1] : List Value).toArray s 0 0 (zA 73 ad)) (F0 m 19 ls []) := by
    intro N19
    induction N19 with
    | zero =>
      intro H locs x2 x3 x4 x5 hP hS q_x5 hm ls hl
      exfalso; omega
    | succ N19 ih19 =>
      have J64 : ∀ (H : Heap) (locs : List Loc) (x2 : Int32) (x3 : Int32) (x4 : Int32) (x5 : Int32), va_P D vwCl (zw 73 ad ce) H → va_S (zA 73 ad) s.heap H locs → (0 ≤ x5.toInt ∧ x5.toInt ≤ 7) → (9 - x5.toInt ≤ (N19 : Int) + 1) → ∀ ls : Array Slot, lv_has ls 6 [(0, .ref (ad 1)), (2, .int x2), (3, .int x3), (4, .int x4), (5, .int x5)] → W p l e { frames := 1, cells := 0, slots := 0, locals := 23 } s m ([.ref (ad 1), .int p1] : List Value).toArray below meth c H locs 0 0 (MQ below (zQi D 73 ad (fun r ce => (gOK cy ad cnt B ce ∧ PP ce) ∧ (0 ≤ r.toInt ∧ r.toInt ≤ 1))) ([.ref (ad 1), .int p1] : List Value).toArray s 0 0 (zA 73 ad)) (F0 m 64 ls []) := by
        intro H locs x2 x3 x4 x5 hP hS q_x5 qm19 ls hl
        refine z_iinc (lv' := fun w0 => [(5, .int w0), (0, .ref (ad 1)), (2, .int x2), (3, .int x3), (4, .int x4)]) hx hb dX3_isGround_64 hl (k := 4) rfl (by decide) (fun _ => rfl) (by decide) (by omega) (fun v64 ls h64 hl => ?_)
        refine lv_goto (tgt := 19) hx hb dX3_isGround_67 (by decide) ?_
        exact ih19 _ _ x2 x3 x4 v64 hP hS (by omega) (by omega) _ (lv_sub hl [1, 2, 3, 4, 0] rfl)
      intro H locs x2 x3 x4 x5 hP hS q_x5 hm ls hl
      refine lv_iload hx hb dX3_isGround_19 (lv_at hl 4 rfl) ?_
      refine z_bi hx hb dX3_isGround_21 (by decide) (fun v21 h21 => ?_)
      refine z_icmp_ge (tgt := 70) hx hb dX3_isGround_23 (by decide) (fun c23 => ?_) (fun c23 => ?_)
      · skip
        refine z_ic hx hb dX3_isGround_70 (by decide) (fun v70 h70 => ?_)
        refine lv_istore (lv' := [(5, .int v70), (0, .ref (ad 1)), (2, .int x2), (3, .int x3), (4, .int x4)]) hx hb dX3_isGround_71 hl (by decide) rfl (fun ls hl => ?_)
        exact L73 14 _ _ x2 x3 x4 v70 hP hS (by omega) (by omega) _ (lv_sub hl [1, 2, 3, 4, 0] rfl)
      · skip
        refine lv_aload_n hx hb dX3_isGround_26 rfl (lv_at hl 0 rfl) ?_
        obtain ⟨v27, e27, h27, h27a, h27b⟩ := gg_Gr hO
        refine va_get (ci := 3) (C := RX3) (T := TX3) (N := 9) (v := .ref (ad 5)) hx hb hts inX3 hown hK hP 1 (zw_at (by decide) e27) rfl 1 (by decide) fl20 (fun _ h => h) rfl dX3_isGround_27 ?_
        obtain ⟨v30, e30⟩ := gg_Bo hO
        refine va_get (ci := 1) (C := RX1) (T := TX1) (N := 2) (v := .ref (ad 9)) hx hb hts inX1 hown hK hP 5 (zw_at (by decide) e30) rfl 0 (by decide) fl60 (fun _ h => h) rfl dX3_isGround_30 ?_
        refine lv_iload hx hb dX3_isGround_33 (lv_at hl 4 rfl) ?_
        obtain ⟨f35, e35, h35⟩ := gg_BoA hO
        refine z_ald (g := fun j0 => 12 + (12 + j0)) hx hb hK hP (q0 := 9) 2 (by decide) e35 rfl (by omega) h35 dX3_isGround_35 (fun j35 h35a => ?_)
        obtain ⟨v36, v36a, v36b, v36c, v36d, v36e, e36⟩ := gg_Ar hO (j := (12 + j35)) (by omega)
        refine va_get (ci := 0) (C := RX0) (T := TX0) (N := 6) (v := .int v36e) hx hb hts inX0 hown hK hP (12 + (12 + j35)) (zw_at (by omega) e36) rfl 5 (by decide) fl64 (fun _ h => h) rfl dX3_isGround_36 ?_
        refine z_if_eq (tgt := 64) hx hb dX3_isGround_39 (by decide) (fun c39 => ?_) (fun c39 => ?_)
        · skip
          exact J64 _ _ x2 x3 x4 x5 hP hS (by omega) (by omega) _ (lv_sub hl [0, 1, 2, 3, 4] rfl)
        · skip
          refine lv_aload_n hx hb dX3_isGround_42 rfl (lv_at hl 0 rfl) ?_
          refine va_get (ci := 3) (C := RX3) (T := TX3) (N := 9) (v := .ref (ad 5)) hx hb hts inX3 hown hK hP 1 (zw_at (by decide) e27) rfl 1 (by decide) fl20 (fun _ h => h) rfl dX3_isGround_43 ?_
          refine va_get (ci := 1) (C := RX1) (T := TX1) (N := 2) (v := .ref (ad 9)) hx hb hts inX1 hown hK hP 5 (zw_at (by decide) e30) rfl 0 (by decide) fl60 (fun _ h => h) rfl dX3_isGround_46 ?_
          refine lv_iload hx hb dX3_isGround_49 (lv_at hl 4 rfl) ?_
          refine z_ald (g := fun j0 => 12 + (12 + j0)) hx hb hK hP (q0 := 9) 2 (by decide) e35 rfl (by omega) h35 dX3_isGround_51 (fun j51 h51 => ?_)
          refine lv_iload_n hx hb dX3_isGround_52 rfl (lv_at hl 1 rfl) ?_
          refine lv_iload_n hx hb dX3_isGround_53 rfl (lv_at hl 2 rfl) ?_
          refine lv_iload hx hb dX3_isGround_54 (lv_at hl 3 rfl) ?_
          obtain ⟨v56, v56a, v56b, v56c, v56d, v56e, e56⟩ := gg_Ar hO (j := (12 + j51)) (by omega)
          refine z_ciP (z_rV (q0 := (12 + (12 + j51))) (As := [.int x2, .int x3, .int x4]) (rest := []) ⟨hx, hb, hml, hown, hts⟩ (c_X0_encloses l D cy ad cnt B (fun c1 => c1 = ce) hJ (12 + j51) x2 x3 x4 (by omega)) (cwV 3 hts (g_V mw_76 mw_77 mw_78 mw_33 mw_79) rfl rfl rfl (by decide +kernel) ⟨Nat.le_of_ble_eq_true rfl, Nat.le_of_ble_eq_true rfl⟩) hK hN ⟨hO, rfl⟩ hP (by omega) e56 rfl rfl hl.1 rfl (Nat.le_of_ble_eq_true rfl) dX3_isGround_56 ⟨Nat.zero_le _, Nat.zero_le _⟩) hS (fun _ h => h.2) (fun v56f H locs h56 hP hS => ?_)
          refine z_if_eq (tgt := 64) hx hb dX3_isGround_59 (by decide) (fun c59 => ?_) (fun c59 => ?_)
          · skip
            exact J64 _ _ x2 x3 x4 x5 hP hS (by omega) (by omega) _ (lv_sub hl [0, 1, 2, 3, 4] rfl)
          · skip
            refine z_ic hx hb dX3_isGround_62 (by decide) (fun v62 h62 => ?_)
            exact z_retz hx hb hr hlocks hP hS dX3_isGround_63 (by omega) ⟨⟨hO, hPP⟩, (by omega)⟩
  intro ls hl
  have hl : lv_has ls 6 [(0, .ref (ad 1)), (1, .int p1)] := hl
  refine lv_iload_n hx hb dX3_isGround_0 rfl (lv_at hl 1 rfl) ?_
  refine z_ciP (z_rN (As := [.int p1]) (rest := []) ⟨hx, hb, hml, hown, hts⟩ (c_X7_levelOf l D (gT cy) 73 ad (fun c1 => c1 = ce) p1) (va_cnB 1 hts (g_C mw_6) rfl rfl rfl (hN (.methodLinkNest RX3 50 yX7_levelOf RX7) (by simp [nwL])) (hts (.initialized RX7) (List.mem_cons_of_mem _ mw_2)) (by decide +kernel) ⟨Nat.le_of_ble_eq_true rfl, Nat.le_of_ble_eq_true rfl⟩) (hts (.static yX7_levelOf) (List.mem_cons_of_mem _ mw_5)) hK hN rfl hP rfl hl.1 rfl (Nat.le_of_ble_eq_true rfl) dX3_isGround_1 ⟨Nat.zero_le _, Nat.zero_le _⟩) hS (fun _ h => h) (fun v1 H locs h1 hP hS => ?_)
  refine lv_istore_n (lv' := [(2, .int v1), (0, .ref (ad 1)), (1, .int p1)]) hx hb dX3_isGround_4 rfl hl (by decide) rfl (fun ls hl => ?_)
  refine lv_iload_n hx hb dX3_isGround_5 rfl (lv_at hl 2 rfl) ?_
  refine z_ciP (z_rN (As := [.int p1]) (rest := []) ⟨hx, hb, hml, hown, hts⟩ (c_X7_xOf l D (gT cy) 73 ad (fun c1 => c1 = ce) p1) (va_cnB 1 hts (g_C mw_12) rfl rfl rfl (hN (.methodLinkNest RX3 54 yX7_xOf RX7) (by simp [nwL])) (hts (.initialized RX7) (List.mem_cons_of_mem _ mw_2)) (by decide +kernel) ⟨Nat.le_of_ble_eq_true rfl, Nat.le_of_ble_eq_true rfl⟩) (hts (.static yX7_xOf) (List.mem_cons_of_mem _ mw_11)) hK hN rfl hP rfl hl.1 rfl (Nat.le_of_ble_eq_true rfl) dX3_isGround_6 ⟨Nat.zero_le _, Nat.zero_le _⟩) hS (fun _ h => h) (fun v6 H locs h6 hP hS => ?_)
  refine lv_istore_n (lv' := [(3, .int v6), (2, .int v1), (0, .ref (ad 1)), (1, .int p1)]) hx hb dX3_isGround_9 rfl hl (by decide) rfl (fun ls hl => ?_)
  refine lv_iload_n hx hb dX3_isGround_10 rfl (lv_at hl 3 rfl) ?_
  refine z_ciP (z_rN (As := [.int p1]) (rest := []) ⟨hx, hb, hml, hown, hts⟩ (c_X7_yOf l D (gT cy) 73 ad (fun c1 => c1 = ce) p1) (va_cnB 1 hts (g_C mw_9) rfl rfl rfl (hN (.methodLinkNest RX3 57 yX7_yOf RX7) (by simp [nwL])) (hts (.initialized RX7) (List.mem_cons_of_mem _ mw_2)) (by decide +kernel) ⟨Nat.le_of_ble_eq_true rfl, Nat.le_of_ble_eq_true rfl⟩) (hts (.static yX7_yOf) (List.mem_cons_of_mem _ mw_8)) hK hN rfl hP rfl hl.1 rfl (Nat.le_of_ble_eq_true rfl) dX3_isGround_11 ⟨Nat.zero_le _, Nat.zero_le _⟩) hS (fun _ h => h) (fun v11 H locs h11 hP hS => ?_)
  refine lv_istore (lv' := [(4, .int v11), (3, .int v6), (2, .int v1), (0, .ref (ad 1)), (1, .int p1)]) hx hb dX3_isGround_14 hl (by decide) rfl (fun ls hl => ?_)
  refine z_ic hx hb dX3_isGround_16 (by decide) (fun v16 h16 => ?_)
  refine lv_istore (lv' := [(5, .int v16), (4, .int v11), (3, .int v6), (2, .int v1), (0, .ref (ad 1)), (1, .int p1)]) hx hb dX3_isGround_17 hl (by decide) rfl (fun ls hl => ?_)
  exact L19 10 _ _ v1 v6 v11 v16 hP hS (by omega) (by omega) _ (lv_sub hl [4, 3, 2, 1, 0] rfl)
set_option maxHeartbeats 8000000 in
set_option maxRecDepth 100000 in
theorem c_X3_isOnShutDoor (l : Launch) (D : va_G) (cy : Nat → ClassId) (ad : Nat → Nat) (cnt : Nat → Nat) (B : Nat) (PP : (Nat → va_E) → Prop) (hJ : zJ 73 ad) (p1 : Int32) : zM l D (gT cy) 73 ad (fun c1 => gOK cy ad cnt B c1 ∧ PP c1) yX3_isOnShutDoor vsX3_isOnShutDoor { frames := 1, cells := 0, slots := 0, locals := 23 } ([.ref (ad 1), .int p1] : List Value) (zQi D 73 ad (fun r ce => (gOK cy ad cnt B ce ∧ PP ce) ∧ (0 ≤ r.toInt ∧ r.toInt ≤ 1))) := by
  refine z_of (cc := cX3_isOnShutDoor) (maxL := 4) (ret := (some .boolean)) (by decide) rfl (Nat.le_of_ble_eq_true rfl) ?_
  intro p e s m below meth c hx hb hr hts hown hlocks hml hK hN ce hOK hP
  have hown : s.vm.findClass RX3 = some m.cls := hown
  have hS : va_S (zA 73 ad) s.heap s.heap [] := va_S.rf
  obtain ⟨hO, hPP⟩ := hOK
  have inX0 : ∀ w ∈ u_ws RX0 TX0 6, w ∈ vsX3_isOnShutDoor := fun w h => List.mem_cons_of_mem _ (inlX0 w h)
  have inX1 : ∀ w ∈ u_ws RX1 TX1 2, w ∈ vsX3_isOnShutDoor := fun w h => List.mem_cons_of_mem _ (inlX1 w h)
  have inX3 : ∀ w ∈ u_ws RX3 TX3 9, w ∈ vsX3_isOnShutDoor := fun w h => List.mem_cons_of_mem _ (inlX3 w h)
  have fl23 := hts (.fieldLink RX3 23 "GroundKeeper$Ground" "doors" "LGroundKeeper$Areas;") (List.mem_cons_of_mem _ mw_64)
  have fl60 := hts (.fieldLink RX3 60 "GroundKeeper$Areas" "all" "[LGroundKeeper$Area;") (List.mem_cons_of_mem _ mw_61)
  have fl64 := hts (.fieldLink RX3 64 "GroundKeeper$Area" "on" "Z") (List.mem_cons_of_mem _ mw_62)
  have fl74 := hts (.fieldLink RX3 74 "GroundKeeper$Areas" "size" "I") (List.mem_cons_of_mem _ mw_63)
  have L2 : ∀ N2 : Nat, ∀ (H : Heap) (locs : List Loc) (x1 : Int32) (x2 : Int32), va_P D vwCl (zw 73 ad ce) H → va_S (zA 73 ad) s.heap H locs → (0 ≤ x2.toInt ∧ x2.toInt ≤ 6) → (7 - x2.toInt ≤ (N2 : Int)) → ∀ ls : Array Slot, lv_has ls 4 [(0, .ref (ad 1)), (1, .int x1), (2, .int x2)] → W p l e { frames := 1, cells := 0, slots := 0, locals := 23 } s m ([.ref (ad 1), .int p1] : List Value).toArray below meth c H locs 0 0 (MQ below (zQi D 73 ad (fun r ce => (gOK cy ad cnt B ce ∧ PP ce) ∧ (0 ≤ r.toInt ∧ r.toInt ≤ 1))) ([.ref (ad 1), .int p1] : List Value).toArray s 0 0 (zA 73 ad)) (F0 m 2 ls []) := by
    intro N2
    induction N2 with
    | zero =>
      intro H locs x1 x2 hP hS q_x2 hm ls hl
      exfalso; omega
    | succ N2 ih2 =>
      have J51 : ∀ (H : Heap) (locs : List Loc) (x1 : Int32) (x2 : Int32), va_P D vwCl (zw 73 ad ce) H → va_S (zA 73 ad) s.heap H locs → (0 ≤ x2.toInt ∧ x2.toInt ≤ 5) → (7 - x2.toInt ≤ (N2 : Int) + 1) → ∀ ls : Array Slot, lv_has ls 4 [(0, .ref (ad 1)), (1, .int x1), (2, .int x2)] → W p l e { frames := 1, cells := 0, slots := 0, locals := 23 } s m ([.ref (ad 1), .int p1] : List Value).toArray below meth c H locs 0 0 (MQ below (zQi D 73 ad (fun r ce => (gOK cy ad cnt B ce ∧ PP ce) ∧ (0 ≤ r.toInt ∧ r.toInt ≤ 1))) ([.ref (ad 1), .int p1] : List Value).toArray s 0 0 (zA 73 ad)) (F0 m 51 ls []) := by
        intro H locs x1 x2 hP hS q_x2 qm2 ls hl
        refine z_iinc (lv' := fun w0 => [(2, .int w0), (0, .ref (ad 1)), (1, .int x1)]) hx hb dX3_isOnShutDoor_51 hl (k := 2) rfl (by decide) (fun _ => rfl) (by decide) (by omega) (fun v51 ls h51 hl => ?_)
        refine lv_goto (tgt := 2) hx hb dX3_isOnShutDoor_54 (by decide) ?_
        exact ih2 _ _ x1 v51 hP hS (by omega) (by omega) _ (lv_sub hl [1, 2, 0] rfl)
      intro H locs x1 x2 hP hS q_x2 hm ls hl
      refine lv_iload_n hx hb dX3_isOnShutDoor_2 rfl (lv_at hl 2 rfl) ?_
      refine lv_aload_n hx hb dX3_isOnShutDoor_3 rfl (lv_at hl 0 rfl) ?_
      obtain ⟨v4, e4, h4, h4a, h4b⟩ := gg_Gr hO
      refine va_get (ci := 3) (C := RX3) (T := TX3) (N := 9) (v := .ref (ad 6)) hx hb hts inX3 hown hK hP 1 (zw_at (by decide) e4) rfl 2 (by decide) fl23 (fun _ h => h) rfl dX3_isOnShutDoor_4 ?_
      obtain ⟨v7, e7, h7, h7a, h7b⟩ := gg_Do hO
      refine va_get (ci := 1) (C := RX1) (T := TX1) (N := 2) (v := .int v7) hx hb hts inX1 hown hK hP 6 (zw_at (by decide) e7) rfl 1 (by decide) fl74 (fun _ h => h) rfl dX3_isOnShutDoor_7 ?_
      refine z_icmp_ge (tgt := 57) hx hb dX3_isOnShutDoor_10 (by decide) (fun c10 => ?_) (fun c10 => ?_)
      · skip
        refine z_ic hx hb dX3_isOnShutDoor_57 (by decide) (fun v57 h57 => ?_)
        exact z_retz hx hb hr hlocks hP hS dX3_isOnShutDoor_58 (by omega) ⟨⟨hO, hPP⟩, (by omega)⟩
      · skip
        refine lv_aload_n hx hb dX3_isOnShutDoor_13 rfl (lv_at hl 0 rfl) ?_
        refine va_get (ci := 3) (C := RX3) (T := TX3) (N := 9) (v := .ref (ad 6)) hx hb hts inX3 hown hK hP 1 (zw_at (by decide) e4) rfl 2 (by decide) fl23 (fun _ h => h) rfl dX3_isOnShutDoor_14 ?_
        refine va_get (ci := 1) (C := RX1) (T := TX1) (N := 2) (v := .ref (ad 10)) hx hb hts inX1 hown hK hP 6 (zw_at (by decide) e7) rfl 0 (by decide) fl60 (fun _ h => h) rfl dX3_isOnShutDoor_17 ?_
        refine lv_iload_n hx hb dX3_isOnShutDoor_20 rfl (lv_at hl 2 rfl) ?_
        obtain ⟨f21, e21, h21⟩ := gg_DoA hO
        refine z_ald (g := fun j0 => 12 + (20 + j0)) hx hb hK hP (q0 := 10) 2 (by decide) e21 rfl (by omega) h21 dX3_isOnShutDoor_21 (fun j21 h21a => ?_)
        refine lv_astore_n (lv' := [(3, .ref (ad (12 + (20 + j21)))), (0, .ref (ad 1)), (1, .int x1), (2, .int x2)]) hx hb dX3_isOnShutDoor_22 rfl hl (by decide) rfl (fun ls hl => ?_)
        refine lv_aload_n hx hb dX3_isOnShutDoor_23 rfl (lv_at hl 0 rfl) ?_
        obtain ⟨v24, v24a, v24b, v24c, v24d, v24e, e24⟩ := gg_Ar hO (j := (20 + j21)) (by omega)
        refine va_get (ci := 0) (C := RX0) (T := TX0) (N := 6) (v := .int v24e) hx hb hts inX0 hown hK hP (12 + (20 + j21)) (zw_at (by omega) e24) rfl 5 (by decide) fl64 (fun _ h => h) rfl dX3_isOnShutDoor_24 ?_
        refine z_if_eq (tgt := 51) hx hb dX3_isOnShutDoor_27 (by decide) (fun c27 => ?_) (fun c27 => ?_)
        · skip
          exact J51 _ _ x1 x2 hP hS (by omega) (by omega) _ (lv_sub hl [1, 2, 3] rfl)
        · skip
          refine lv_aload_n hx hb dX3_isOnShutDoor_30 rfl (lv_at hl 0 rfl) ?_
          refine lv_iload_n hx hb dX3_isOnShutDoor_31 rfl (lv_at hl 2 rfl) ?_
          refine z_ciP (z_rN (As := [.int x1]) (rest := [.ref (ad (12 + (20 + j21)))]) ⟨hx, hb, hml, hown, hts⟩ (c_X7_levelOf l D (gT cy) 73 ad (fun c1 => c1 = ce) x1) (va_cnB 1 hts (g_C mw_6) rfl rfl rfl (hN (.methodLinkNest RX3 50 yX7_levelOf RX7) (by simp [nwL])) (hts (.initialized RX7) (List.mem_cons_of_mem _ mw_2)) (by decide +kernel) ⟨Nat.le_of_ble_eq_true rfl, Nat.le_of_ble_eq_true rfl⟩) (hts (.static yX7_levelOf) (List.mem_cons_of_mem _ mw_5)) hK hN rfl hP rfl hl.1 rfl (Nat.le_of_ble_eq_true rfl) dX3_isOnShutDoor_32 ⟨Nat.zero_le _, Nat.zero_le _⟩) hS (fun _ h => h) (fun v32 H locs h32 hP hS => ?_)
          refine lv_iload_n hx hb dX3_isOnShutDoor_35 rfl (lv_at hl 2 rfl) ?_
          refine z_ciP (z_rN (As := [.int x1]) (rest := [.int v32, .ref (ad (12 + (20 + j21)))]) ⟨hx, hb, hml, hown, hts⟩ (c_X7_xOf l D (gT cy) 73 ad (fun c1 => c1 = ce) x1) (va_cnB 1 hts (g_C mw_12) rfl rfl rfl (hN (.methodLinkNest RX3 54 yX7_xOf RX7) (by simp [nwL])) (hts (.initialized RX7) (List.mem_cons_of_mem _ mw_2)) (by decide +kernel) ⟨Nat.le_of_ble_eq_true rfl, Nat.le_of_ble_eq_true rfl⟩) (hts (.static yX7_xOf) (List.mem_cons_of_mem _ mw_11)) hK hN rfl hP rfl hl.1 rfl (Nat.le_of_ble_eq_true rfl) dX3_isOnShutDoor_36 ⟨Nat.zero_le _, Nat.zero_le _⟩) hS (fun _ h => h) (fun v36 H locs h36 hP hS => ?_)
          refine lv_iload_n hx hb dX3_isOnShutDoor_39 rfl (lv_at hl 2 rfl) ?_
          refine z_ciP (z_rN (As := [.int x1]) (rest := [.int v36, .int v32, .ref (ad (12 + (20 + j21)))]) ⟨hx, hb, hml, hown, hts⟩ (c_X7_yOf l D (gT cy) 73 ad (fun c1 => c1 = ce) x1) (va_cnB 1 hts (g_C mw_9) rfl rfl rfl (hN (.methodLinkNest RX3 57 yX7_yOf RX7) (by simp [nwL])) (hts (.initialized RX7) (List.mem_cons_of_mem _ mw_2)) (by decide +kernel) ⟨Nat.le_of_ble_eq_true rfl, Nat.le_of_ble_eq_true rfl⟩) (hts (.static yX7_yOf) (List.mem_cons_of_mem _ mw_8)) hK hN rfl hP rfl hl.1 rfl (Nat.le_of_ble_eq_true rfl) dX3_isOnShutDoor_40 ⟨Nat.zero_le _, Nat.zero_le _⟩) hS (fun _ h => h) (fun v40 H locs h40 hP hS => ?_)
          refine z_ciP (z_rV (q0 := (12 + (20 + j21))) (As := [.int v32, .int v36, .int v40]) (rest := []) ⟨hx, hb, hml, hown, hts⟩ (c_X0_holds l D cy ad cnt B (fun c1 => c1 = ce) hJ (20 + j21) v32 v36 v40 (by omega)) (cwV 3 hts (g_V mw_72 mw_73 mw_74 mw_33 mw_75) rfl rfl rfl (by decide +kernel) ⟨Nat.le_of_ble_eq_true rfl, Nat.le_of_ble_eq_true rfl⟩) hK hN ⟨hO, rfl⟩ hP (by omega) e24 rfl rfl hl.1 rfl (Nat.le_of_ble_eq_true rfl) dX3_isOnShutDoor_43 ⟨Nat.zero_le _, Nat.zero_le _⟩) hS (fun _ h => h.2) (fun v43 H locs h43 hP hS => ?_)
          refine z_if_eq (tgt := 51) hx hb dX3_isOnShutDoor_46 (by decide) (fun c46 => ?_) (fun c46 => ?_)
          · skip
            exact J51 _ _ x1 x2 hP hS (by omega) (by omega) _ (lv_sub hl [1, 2, 3] rfl)
          · skip
            refine z_ic hx hb dX3_isOnShutDoor_49 (by decide) (fun v49 h49 => ?_)
            exact z_retz hx hb hr hlocks hP hS dX3_isOnShutDoor_50 (by omega) ⟨⟨hO, hPP⟩, (by omega)⟩
  intro ls hl
  have hl : lv_has ls 4 [(0, .ref (ad 1)), (1, .int p1)] := hl
  refine z_ic hx hb dX3_isOnShutDoor_0 (by decide) (fun v0 h0 => ?_)
  refine lv_istore_n (lv' := [(2, .int v0), (0, .ref (ad 1)), (1, .int p1)]) hx hb dX3_isOnShutDoor_1 rfl hl (by decide) rfl (fun ls hl => ?_)
  exact L2 8 _ _ p1 v0 hP hS (by omega) (by omega) _ (lv_sub hl [1, 2, 0] rfl)
set_option maxHeartbeats 8000000 in
set_option maxRecDepth 100000 in
theorem c_X3_stepLength (l : Launch) (D : va_G) (cy : Nat → ClassId) (ad : Nat → Nat) (cnt : Nat → Nat) (B : Nat) (PP : (Nat → va_E) → Prop) (hJ : zJ 73 ad) (p1 : Int32) (p2 : Int32) : zM l D (gT cy) 73 ad (fun c1 => gOK cy ad cnt B c1 ∧ PP c1) yX3_stepLength vsX3_stepLength { frames := 1, cells := 0, slots := 0, locals := 25 } ([.ref (ad 1), .int p1, .int p2] : List Value) (zQi D 73 ad (fun r ce => (gOK cy ad cnt B ce ∧ PP ce) ∧ (True))) := by
  refine z_of (cc := cX3_stepLength) (maxL := 7) (ret := (some .int)) (by decide) rfl (Nat.le_of_ble_eq_true rfl) ?_
  intro p e s m below meth c hx hb hr hts hown hlocks hml hK hN ce hOK hP
  have hown : s.vm.findClass RX3 = some m.cls := hown
  have hS : va_S (zA 73 ad) s.heap s.heap [] := va_S.rf
  obtain ⟨hO, hPP⟩ := hOK
  intro ls hl
  have hl : lv_has ls 7 [(0, .ref (ad 1)), (1, .int p1), (2, .int p2)] := hl
  refine lv_iload_n hx hb dX3_stepLength_0 rfl (lv_at hl 1 rfl) ?_
  refine z_ciP (z_rN (As := [.int p1]) (rest := []) ⟨hx, hb, hml, hown, hts⟩ (c_X7_levelOf l D (gT cy) 73 ad (fun c1 => c1 = ce) p1) (va_cnB 1 hts (g_C mw_6) rfl rfl rfl (hN (.methodLinkNest RX3 50 yX7_levelOf RX7) (by simp [nwL])) (hts (.initialized RX7) (List.mem_cons_of_mem _ mw_2)) (by decide +kernel) ⟨Nat.le_of_ble_eq_true rfl, Nat.le_of_ble_eq_true rfl⟩) (hts (.static yX7_levelOf) (List.mem_cons_of_mem _ mw_5)) hK hN rfl hP rfl hl.1 rfl (Nat.le_of_ble_eq_true rfl) dX3_stepLength_1 ⟨Nat.zero_le _, Nat.zero_le _⟩) hS (fun _ h => h) (fun v1 H locs h1 hP hS => ?_)
  refine lv_iload_n hx hb dX3_stepLength_4 rfl (lv_at hl 2 rfl) ?_
  refine z_ciP (z_rN (As := [.int p2]) (rest := [.int v1]) ⟨hx, hb, hml, hown, hts⟩ (c_X7_levelOf l D (gT cy) 73 ad (fun c1 => c1 = ce) p2) (va_cnB 1 hts (g_C mw_6) rfl rfl rfl (hN (.methodLinkNest RX3 50 yX7_levelOf RX7) (by simp [nwL])) (hts (.initialized RX7) (List.mem_cons_of_mem _ mw_2)) (by decide +kernel) ⟨Nat.le_of_ble_eq_true rfl, Nat.le_of_ble_eq_true rfl⟩) (hts (.static yX7_levelOf) (List.mem_cons_of_mem _ mw_5)) hK hN rfl hP rfl hl.1 rfl (Nat.le_of_ble_eq_true rfl) dX3_stepLength_5 ⟨Nat.zero_le _, Nat.zero_le _⟩) hS (fun _ h => h) (fun v5 H locs h5 hP hS => ?_)
  refine z_icmp_eq (tgt := 18) hx hb dX3_stepLength_8 (by decide) (fun c8 => ?_) (fun c8 => ?_)
  · skip
    refine lv_iload_n hx hb dX3_stepLength_18 rfl (lv_at hl 2 rfl) ?_
    refine z_ciP (z_rN (As := [.int p2]) (rest := []) ⟨hx, hb, hml, hown, hts⟩ (c_X7_xOf l D (gT cy) 73 ad (fun c1 => c1 = ce) p2) (va_cnB 1 hts (g_C mw_12) rfl rfl rfl (hN (.methodLinkNest RX3 54 yX7_xOf RX7) (by simp [nwL])) (hts (.initialized RX7) (List.mem_cons_of_mem _ mw_2)) (by decide +kernel) ⟨Nat.le_of_ble_eq_true rfl, Nat.le_of_ble_eq_true rfl⟩) (hts (.static yX7_xOf) (List.mem_cons_of_mem _ mw_11)) hK hN rfl hP rfl hl.1 rfl (Nat.le_of_ble_eq_true rfl) dX3_stepLength_19 ⟨Nat.zero_le _, Nat.zero_le _⟩) hS (fun _ h => h) (fun v19 H locs h19 hP hS => ?_)
    refine lv_iload_n hx hb dX3_stepLength_22 rfl (lv_at hl 1 rfl) ?_
    refine z_ciP (z_rN (As := [.int p1]) (rest := [.int v19]) ⟨hx, hb, hml, hown, hts⟩ (c_X7_xOf l D (gT cy) 73 ad (fun c1 => c1 = ce) p1) (va_cnB 1 hts (g_C mw_12) rfl rfl rfl (hN (.methodLinkNest RX3 54 yX7_xOf RX7) (by simp [nwL])) (hts (.initialized RX7) (List.mem_cons_of_mem _ mw_2)) (by decide +kernel) ⟨Nat.le_of_ble_eq_true rfl, Nat.le_of_ble_eq_true rfl⟩) (hts (.static yX7_xOf) (List.mem_cons_of_mem _ mw_11)) hK hN rfl hP rfl hl.1 rfl (Nat.le_of_ble_eq_true rfl) dX3_stepLength_23 ⟨Nat.zero_le _, Nat.zero_le _⟩) hS (fun _ h => h) (fun v23 H locs h23 hP hS => ?_)
    refine lv_isub hx hb dX3_stepLength_26 ?_
    refine lv_topi (fun v26 _ => ?_)
    refine lv_i2l hx hb dX3_stepLength_27 rfl ?_
    refine lv_topl (fun v27 _ => ?_)
    refine lv_lstore_n (lv' := [(3, .long v27), (0, .ref (ad 1)), (1, .int p1), (2, .int p2)]) hx hb dX3_stepLength_28 rfl hl (by decide) rfl (fun ls hl => ?_)
    refine lv_iload_n hx hb dX3_stepLength_29 rfl (lv_at hl 3 rfl) ?_
    refine z_ciP (z_rN (As := [.int p2]) (rest := []) ⟨hx, hb, hml, hown, hts⟩ (c_X7_yOf l D (gT cy) 73 ad (fun c1 => c1 = ce) p2) (va_cnB 1 hts (g_C mw_9) rfl rfl rfl (hN (.methodLinkNest RX3 57 yX7_yOf RX7) (by simp [nwL])) (hts (.initialized RX7) (List.mem_cons_of_mem _ mw_2)) (by decide +kernel) ⟨Nat.le_of_ble_eq_true rfl, Nat.le_of_ble_eq_true rfl⟩) (hts (.static yX7_yOf) (List.mem_cons_of_mem _ mw_8)) hK hN rfl hP rfl hl.1 rfl (Nat.le_of_ble_eq_true rfl) dX3_stepLength_30 ⟨Nat.zero_le _, Nat.zero_le _⟩) hS (fun _ h => h) (fun v30 H locs h30 hP hS => ?_)
    refine lv_iload_n hx hb dX3_stepLength_33 rfl (lv_at hl 2 rfl) ?_
    refine z_ciP (z_rN (As := [.int p1]) (rest := [.int v30]) ⟨hx, hb, hml, hown, hts⟩ (c_X7_yOf l D (gT cy) 73 ad (fun c1 => c1 = ce) p1) (va_cnB 1 hts (g_C mw_9) rfl rfl rfl (hN (.methodLinkNest RX3 57 yX7_yOf RX7) (by simp [nwL])) (hts (.initialized RX7) (List.mem_cons_of_mem _ mw_2)) (by decide +kernel) ⟨Nat.le_of_ble_eq_true rfl, Nat.le_of_ble_eq_true rfl⟩) (hts (.static yX7_yOf) (List.mem_cons_of_mem _ mw_8)) hK hN rfl hP rfl hl.1 rfl (Nat.le_of_ble_eq_true rfl) dX3_stepLength_34 ⟨Nat.zero_le _, Nat.zero_le _⟩) hS (fun _ h => h) (fun v34 H locs h34 hP hS => ?_)
    refine lv_isub hx hb dX3_stepLength_37 ?_
    refine lv_topi (fun v37 _ => ?_)
    refine lv_i2l hx hb dX3_stepLength_38 rfl ?_
    refine lv_topl (fun v38 _ => ?_)
    refine lv_lstore (lv' := [(5, .long v38), (3, .long v27), (0, .ref (ad 1)), (1, .int p1), (2, .int p2)]) hx hb dX3_stepLength_39 hl (by decide) rfl (fun ls hl => ?_)
    refine lv_ldc2 hx hb hown (hts (.constantLong RX3 84 (1000000)) (List.mem_cons_of_mem _ mw_65)) dX3_stepLength_41 ?_
    refine lv_topl (fun v41 _ => ?_)
    refine lv_lload_n hx hb dX3_stepLength_44 rfl (lv_at hl 1 rfl) ?_
    refine lv_lload_n hx hb dX3_stepLength_45 rfl (lv_at hl 1 rfl) ?_
    refine lv_lmul hx hb dX3_stepLength_46 ?_
    refine lv_topl (fun v46 _ => ?_)
    refine lv_lload hx hb dX3_stepLength_47 (lv_at hl 0 rfl) ?_
    refine lv_lload hx hb dX3_stepLength_49 (lv_at hl 0 rfl) ?_
    refine lv_lmul hx hb dX3_stepLength_51 ?_
    refine lv_topl (fun v51 _ => ?_)
    refine lv_ladd hx hb dX3_stepLength_52 ?_
    refine lv_topl (fun v52 _ => ?_)
    refine lv_lmul hx hb dX3_stepLength_53 ?_
    refine lv_topl (fun v53 _ => ?_)
    refine z_ciP (z_rN (As := [.long v53]) (rest := []) ⟨hx, hb, hml, hown, hts⟩ (c_X7_rootOf l D (gT cy) 73 ad (fun c1 => c1 = ce) v53) (va_cnB 1 hts (g_C mw_80) rfl rfl rfl (hN (.methodLinkNest RX3 86 yX7_rootOf RX7) (by simp [nwL])) (hts (.initialized RX7) (List.mem_cons_of_mem _ mw_2)) (by decide +kernel) ⟨Nat.le_of_ble_eq_true rfl, Nat.le_of_ble_eq_true rfl⟩) (hts (.static yX7_rootOf) (List.mem_cons_of_mem _ mw_66)) hK hN rfl hP rfl hl.1 rfl (Nat.le_of_ble_eq_true rfl) dX3_stepLength_54 ⟨Nat.zero_le _, Nat.zero_le _⟩) hS (fun _ h => h) (fun v54 H locs h54 hP hS => ?_)
    exact z_reti hx hb hr hlocks hP hS dX3_stepLength_57 ⟨⟨hO, hPP⟩, trivial⟩
  · skip
    refine lv_aload_n hx hb dX3_stepLength_11 rfl (lv_at hl 0 rfl) ?_
    refine lv_iload_n hx hb dX3_stepLength_12 rfl (lv_at hl 1 rfl) ?_
    refine lv_iload_n hx hb dX3_stepLength_13 rfl (lv_at hl 2 rfl) ?_
    obtain ⟨v14, e14, h14, h14a, h14b⟩ := gg_Gr hO
    refine z_ciP (z_rV (q0 := 1) (As := [.int p1, .int p2]) (rest := []) ⟨hx, hb, hml, hown, hts⟩ (c_X3_leastLadderCost l D cy ad cnt B (fun c1 => c1 = ce) hJ p1 p2) (cwV 2 hts (g_V mw_81 mw_82 mw_83 mw_84 mw_85) rfl rfl rfl (by decide +kernel) ⟨Nat.le_of_ble_eq_true rfl, Nat.le_of_ble_eq_true rfl⟩) hK hN ⟨hO, rfl⟩ hP (by decide) e14 rfl rfl hl.1 rfl (Nat.le_of_ble_eq_true rfl) dX3_stepLength_14 ⟨Nat.zero_le _, Nat.zero_le _⟩) hS (fun _ h => h.2) (fun v14a H locs h14c hP hS => ?_)
    exact z_reti hx hb hr hlocks hP hS dX3_stepLength_17 ⟨⟨hO, hPP⟩, trivial⟩
set_option maxHeartbeats 8000000 in
set_option maxRecDepth 100000 in
theorem c_X3_addLadder (l : Launch) (D : va_G) (cy : Nat → ClassId) (ad : Nat → Nat) (cnt : Nat → Nat) (B : Nat) (hJ : zJ 73 ad) (p1 : Int32) (p2 : Int32) (p3 : Int32) : zM l D (gT cy) 73 ad (gOK cy ad cnt B) yX3_addLadder vsX3_addLadder { frames := 0, cells := 0, slots := 0, locals := 0 } ([.ref (ad 1), .int p1, .int p2, .int p3] : List Value) (zQi D 73 ad (fun r ce => addP cy ad cnt B 1 6 r ce)) := by
  refine z_of (cc := cX3_addLadder) (maxL := 4) (ret := (some .int)) (by decide) rfl (Nat.le_of_ble_eq_true rfl) ?_
  intro p e s m below meth c hx hb hr hts hown hlocks hml hK hN ce hOK hP
  have hown : s.vm.findClass RX3 = some m.cls := hown
  have hS : va_S (zA 73 ad) s.heap s.heap [] := va_S.rf
  have hO := hOK
  have inX3 : ∀ w ∈ u_ws RX3 TX3 9, w ∈ vsX3_addLadder := fun w h => List.mem_cons_of_mem _ (inlX3 w h)
  have fl29 := hts (.fieldLink RX3 29 "GroundKeeper$Ground" "ladderFrom" "[I") (List.mem_cons_of_mem _ mw_55)
  have fl33 := hts (.fieldLink RX3 33 "GroundKeeper$Ground" "ladderTo" "[I") (List.mem_cons_of_mem _ mw_56)
  have fl36 := hts (.fieldLink RX3 36 "GroundKeeper$Ground" "ladderCost" "[I") (List.mem_cons_of_mem _ mw_57)
  have fl46 := hts (.fieldLink RX3 46 "GroundKeeper$Ground" "ladderSize" "I") (List.mem_cons_of_mem _ mw_58)
  intro ls hl
  have hl : lv_has ls 4 [(0, .ref (ad 1)), (1, .int p1), (2, .int p2), (3, .int p3)] := hl
  refine lv_aload_n hx hb dX3_addLadder_0 rfl (lv_at hl 0 rfl) ?_
  obtain ⟨v1, e1, h1, h1a, h1b⟩ := gg_Gr hO
  refine va_get (ci := 3) (C := RX3) (T := TX3) (N := 9) (v := .int v1) hx hb hts inX3 hown hK hP 1 (zw_at (by decide) e1) rfl 7 (by decide) fl46 (fun _ h => h) rfl dX3_addLadder_1 ?_
  refine z_bi hx hb dX3_addLadder_4 (by decide) (fun v4 h4 => ?_)
  refine z_icmp_lt (tgt := 12) hx hb dX3_addLadder_6 (by decide) (fun c6 => ?_) (fun c6 => ?_)
  · skip
    refine lv_aload_n hx hb dX3_addLadder_12 rfl (lv_at hl 0 rfl) ?_
    refine va_get (ci := 3) (C := RX3) (T := TX3) (N := 9) (v := .ref (ad 44)) hx hb hts inX3 hown hK hP 1 (zw_at (by decide) e1) rfl 4 (by decide) fl29 (fun _ h => h) rfl dX3_addLadder_13 ?_
    refine lv_aload_n hx hb dX3_addLadder_16 rfl (lv_at hl 0 rfl) ?_
    refine va_get (ci := 3) (C := RX3) (T := TX3) (N := 9) (v := .int v1) hx hb hts inX3 hown hK hP 1 (zw_at (by decide) e1) rfl 7 (by decide) fl46 (fun _ h => h) rfl dX3_addLadder_17 ?_
    refine lv_iload_n hx hb dX3_addLadder_20 rfl (lv_at hl 1 rfl) ?_
    obtain ⟨f21, e21⟩ := gg_L0 hO
    refine z_iast hx hb hK hJ hP hS (q0 := 44) 0 (by decide) e21 rfl (z_in (by omega) (by omega)) dX3_addLadder_21 (fun ce H locs e21a h21a hP hS => ?_)
    have hO := z_up (OKK := gK cy ad cnt B) 44 hO h21a (by rw [e21a]; exact gE_L0 |>.mpr ⟨_, rfl⟩)
    have e21b := (h21a 1 (by omega)).trans e1
    refine lv_aload_n hx hb dX3_addLadder_22 rfl (lv_at hl 0 rfl) ?_
    refine va_get (ci := 3) (C := RX3) (T := TX3) (N := 9) (v := .ref (ad 45)) hx hb hts inX3 hown hK hP 1 (zw_at (by decide) e21b) rfl 5 (by decide) fl33 (fun _ h => h) rfl dX3_addLadder_23 ?_
    refine lv_aload_n hx hb dX3_addLadder_26 rfl (lv_at hl 0 rfl) ?_
    refine va_get (ci := 3) (C := RX3) (T := TX3) (N := 9) (v := .int v1) hx hb hts inX3 hown hK hP 1 (zw_at (by decide) e21b) rfl 7 (by decide) fl46 (fun _ h => h) rfl dX3_addLadder_27 ?_
    refine lv_iload_n hx hb dX3_addLadder_30 rfl (lv_at hl 2 rfl) ?_
    obtain ⟨f31, e31⟩ := gg_L1 hO
    refine z_iast hx hb hK hJ hP hS (q0 := 45) 0 (by decide) e31 rfl (z_in (by omega) (by omega)) dX3_addLadder_31 (fun ce H locs e31a h31a hP hS => ?_)
    have hO := z_up (OKK := gK cy ad cnt B) 45 hO h31a (by rw [e31a]; exact gE_L1 |>.mpr ⟨_, rfl⟩)
    have e31b := (h31a 1 (by omega)).trans e21b
    refine lv_aload_n hx hb dX3_addLadder_32 rfl (lv_at hl 0 rfl) ?_
    refine va_get (ci := 3) (C := RX3) (T := TX3) (N := 9) (v := .ref (ad 46)) hx hb hts inX3 hown hK hP 1 (zw_at (by decide) e31b) rfl 6 (by decide) fl36 (fun _ h => h) rfl dX3_addLadder_33 ?_
    refine lv_aload_n hx hb dX3_addLadder_36 rfl (lv_at hl 0 rfl) ?_
    refine va_get (ci := 3) (C := RX3) (T := TX3) (N := 9) (v := .int v1) hx hb hts inX3 hown hK hP 1 (zw_at (by decide) e31b) rfl 7 (by decide) fl46 (fun _ h => h) rfl dX3_addLadder_37 ?_
    refine lv_iload_n hx hb dX3_addLadder_40 rfl (lv_at hl 3 rfl) ?_
    obtain ⟨f41, e41⟩ := gg_L2 hO
    refine z_iast hx hb hK hJ hP hS (q0 := 46) 0 (by decide) e41 rfl (z_in (by omega) (by omega)) dX3_addLadder_41 (fun ce H locs e41a h41a hP hS => ?_)
    have hO := z_up (OKK := gK cy ad cnt B) 46 hO h41a (by rw [e41a]; exact gE_L2 |>.mpr ⟨_, rfl⟩)
    have e41b := (h41a 1 (by omega)).trans e31b
    refine lv_aload_n hx hb dX3_addLadder_42 rfl (lv_at hl 0 rfl) ?_
    refine lv_dup hx hb dX3_addLadder_43 rfl ?_
    refine va_get (ci := 3) (C := RX3) (T := TX3) (N := 9) (v := .int v1) hx hb hts inX3 hown hK hP 1 (zw_at (by decide) e41b) rfl 7 (by decide) fl46 (fun _ h => h) rfl dX3_addLadder_44 ?_
    refine z_ic hx hb dX3_addLadder_47 (by decide) (fun v47 h47 => ?_)
    refine z_addE hx hb dX3_addLadder_48 (by omega) (fun v48 h48 => ?_)
    refine z_put (q0 := 1) (ci := 3) (C := RX3) (T := TX3) (N := 9) hx hb hts inX3 tyX3 tyX3_ok nmX3 hown hK hJ hP hS (by decide) e41b rfl 7 (by decide) fl46 (fun _ h => h) rfl (ty := .int) (by decide +kernel) rfl rfl (Nat.le_of_ble_eq_true rfl) (fs1 := [.ref (ad 4), .ref (ad 5), .ref (ad 6), .ref (ad 7), .ref (ad 44), .ref (ad 45), .ref (ad 46), .int v48, .ref (ad 3)]) rfl dX3_addLadder_49 (fun ce H locs e49 h49 hP hS => ?_)
    have hu : va_up cnt 1 (cnt 1 + 1) 1 = cnt 1 + 1 := by simp [va_up]
    have hO := z_up2 (OKK := gK cy ad cnt B) (OKL := gK cy ad (va_up cnt 1 (cnt 1 + 1)) B) 1 hO h49 (fun q e _ h => gK_cnt1 (by assumption) h) (by rw [e49]; exact gE_Gr |>.mpr ⟨v48, rfl, by omega, by omega, by omega⟩)
    refine lv_aload_n hx hb dX3_addLadder_52 rfl (lv_at hl 0 rfl) ?_
    refine va_get (ci := 3) (C := RX3) (T := TX3) (N := 9) (v := .int v48) hx hb hts inX3 hown hK hP 1 (zw_at (by decide) e49) rfl 7 (by decide) fl46 (fun _ h => h) rfl dX3_addLadder_53 ?_
    refine z_ic hx hb dX3_addLadder_56 (by decide) (fun v56 h56 => ?_)
    refine z_subE hx hb dX3_addLadder_57 (by omega) (fun v57 h57 => ?_)
    exact z_reti hx hb hr hlocks hP hS dX3_addLadder_58 ⟨fun h => by exfalso; omega, fun _ => ⟨by omega, hO⟩⟩
  · skip
    refine z_bi hx hb dX3_addLadder_9 (by decide) (fun v9 h9 => ?_)
    exact z_reti hx hb hr hlocks hP hS dX3_addLadder_11 ⟨fun _ => ⟨by omega, hO⟩, fun h => by exfalso; omega⟩
set_option maxHeartbeats 8000000 in
set_option maxRecDepth 100000 in
theorem c_X3_legIsInRooms (l : Launch) (D : va_G) (cy : Nat → ClassId) (ad : Nat → Nat) (cnt : Nat → Nat) (B : Nat) (hJ : zJ 73 ad) : zM l D (gT cy) 73 ad (gOK cy ad cnt B) yX3_legIsInRooms vsX3_legIsInRooms { frames := 1, cells := 0, slots := 0, locals := 23 } ([.ref (ad 1)] : List Value) (zQi D 73 ad (fun r ce => gOK cy ad cnt B ce ∧ (0 ≤ r.toInt ∧ r.toInt ≤ 1))) := by
  refine z_of (cc := cX3_legIsInRooms) (maxL := 5) (ret := (some .boolean)) (by decide) rfl (Nat.le_of_ble_eq_true rfl) ?_
  intro p e s m below meth c hx hb hr hts hown hlocks hml hK hN ce hOK hP
  have hown : s.vm.findClass RX3 = some m.cls := hown
  have hS : va_S (zA 73 ad) s.heap s.heap [] := va_S.rf
  have hO := hOK
  have inX1 : ∀ w ∈ u_ws RX1 TX1 2, w ∈ vsX3_legIsInRooms := fun w h => List.mem_cons_of_mem _ (inlX1 w h)
  have inX3 : ∀ w ∈ u_ws RX3 TX3 9, w ∈ vsX3_legIsInRooms := fun w h => List.mem_cons_of_mem _ (inlX3 w h)
  have inX4 : ∀ w ∈ u_ws RX4 TX4 10, w ∈ vsX3_legIsInRooms := fun w h => List.mem_cons_of_mem _ (inlX4 w h)
  have fl14 := hts (.fieldLink RX3 14 "GroundKeeper$Ground" "rooms" "LGroundKeeper$Areas;") (List.mem_cons_of_mem _ mw_59)
  have fl42 := hts (.fieldLink RX3 42 "GroundKeeper$Ground" "leg" "LGroundKeeper$Leg;") (List.mem_cons_of_mem _ mw_67)
  have fl60 := hts (.fieldLink RX3 60 "GroundKeeper$Areas" "all" "[LGroundKeeper$Area;") (List.mem_cons_of_mem _ mw_61)
  have fl74 := hts (.fieldLink RX3 74 "GroundKeeper$Areas" "size" "I") (List.mem_cons_of_mem _ mw_63)
  have fl115 := hts (.fieldLink RX3 115 "GroundKeeper$Leg" "lo" "I") (List.mem_cons_of_mem _ mw_68)
  have fl118 := hts (.fieldLink RX3 118 "GroundKeeper$Leg" "hi" "I") (List.mem_cons_of_mem _ mw_69)
  have fl121 := hts (.fieldLink RX3 121 "GroundKeeper$Leg" "whole" "I") (List.mem_cons_of_mem _ mw_70)
  have L4 : ∀ N4 : Nat, ∀ (H : Heap) (locs : List Loc) (ce : Nat → va_E) (x1 : Int32) (x2 : Int32), va_P D vwCl (zw 73 ad ce) H → va_S (zA 73 ad) s.heap H locs → gOK cy ad cnt B ce → (0 ≤ x1.toInt) → (0 ≤ x2.toInt ∧ x2.toInt ≤ 12) → (13 - x2.toInt ≤ (N4 : Int)) → ∀ ls : Array Slot, lv_has ls 5 [(0, .ref (ad 1)), (1, .int x1), (2, .int x2)] → W p l e { frames := 1, cells := 0, slots := 0, locals := 23 } s m ([.ref (ad 1)] : List Value).toArray below meth c H locs 0 0 (MQ below (zQi D 73 ad (fun r ce => gOK cy ad cnt B ce ∧ (0 ≤ r.toInt ∧ r.toInt ≤ 1))) ([.ref (ad 1)] : List Value).toArray s 0 0 (zA 73 ad)) (F0 m 4 ls []) := by
    intro N4
    induction N4 with
    | zero =>
      intro H locs ce x1 x2 hP hS hO q_x1 q_x2 hm ls hl
      exfalso; omega
    | succ N4 ih4 =>
      have L20 : ∀ N20 : Nat, ∀ (H : Heap) (locs : List Loc) (ce : Nat → va_E) (x1 : Int32) (x2 : Int32) (x3 : Int32) (x4 : Int32), va_P D vwCl (zw 73 ad ce) H → va_S (zA 73 ad) s.heap H locs → gOK cy ad cnt B ce → (0 ≤ x1.toInt) → (0 ≤ x2.toInt ∧ x2.toInt ≤ 11) → (0 ≤ x3.toInt) → (0 ≤ x4.toInt ∧ x4.toInt ≤ 12) → (13 - x2.toInt ≤ (N4 : Int) + 1) → (13 - x4.toInt ≤ (N20 : Int)) → ∀ ls : Array Slot, lv_has ls 5 [(0, .ref (ad 1)), (1, .int x1), (2, .int x2), (3, .int x3), (4, .int x4)] → W p l e { frames := 1, cells := 0, slots := 0, locals := 23 } s m ([.ref (ad 1)] : List Value).toArray below meth c H locs 0 0 (MQ below (zQi D 73 ad (fun r ce => gOK cy ad cnt B ce ∧ (0 ≤ r.toInt ∧ r.toInt ≤ 1))) ([.ref (ad 1)] : List Value).toArray s 0 0 (zA 73 ad)) (F0 m 20 ls []) := by
        intro N20
        induction N20 with
        | zero =>
          intro H locs ce x1 x2 x3 x4 hP hS hO q_x1 q_x2 q_x3 q_x4 qm4 hm ls hl
          exfalso; omega
        | succ N20 ih20 =>
          have J82 : ∀ (H : Heap) (locs : List Loc) (ce : Nat → va_E) (x1 : Int32) (x2 : Int32) (x3 : Int32) (x4 : Int32), va_P D vwCl (zw 73 ad ce) H → va_S (zA 73 ad) s.heap H locs → gOK cy ad cnt B ce → (0 ≤ x1.toInt) → (0 ≤ x2.toInt ∧ x2.toInt ≤ 11) → (0 ≤ x3.toInt) → (0 ≤ x4.toInt ∧ x4.toInt ≤ 11) → (13 - x2.toInt ≤ (N4 : Int) + 1) → (13 - x4.toInt ≤ (N20 : Int) + 1) → ∀ ls : Array Slot, lv_has ls 5 [(0, .ref (ad 1)), (1, .int x1), (2, .int x2), (3, .int x3), (4, .int x4)] → W p l e { frames := 1, cells := 0, slots := 0, locals := 23 } s m ([.ref (ad 1)] : List Value).toArray below meth c H locs 0 0 (MQ below (zQi D 73 ad (fun r ce => gOK cy ad cnt B ce ∧ (0 ≤ r.toInt ∧ r.toInt ≤ 1))) ([.ref (ad 1)] : List Value).toArray s 0 0 (zA 73 ad)) (F0 m 82 ls []) := by
            intro H locs ce x1 x2 x3 x4 hP hS hO q_x1 q_x2 q_x3 q_x4 qm4 qm20 ls hl
            refine z_iinc (lv' := fun w0 => [(4, .int w0), (0, .ref (ad 1)), (1, .int x1), (2, .int x2), (3, .int x3)]) hx hb dX3_legIsInRooms_82 hl (k := 4) rfl (by decide) (fun _ => rfl) (by decide) (by omega) (fun v82 ls h82 hl => ?_)
            refine lv_goto (tgt := 20) hx hb dX3_legIsInRooms_85 (by decide) ?_
            exact ih20 _ _ _ x1 x2 x3 v82 hP hS hO (by omega) (by omega) (by omega) (by omega) (by omega) (by omega) _ (lv_sub hl [1, 2, 3, 4, 0] rfl)
          intro H locs ce x1 x2 x3 x4 hP hS hO q_x1 q_x2 q_x3 q_x4 qm4 hm ls hl
          refine lv_iload hx hb dX3_legIsInRooms_20 (lv_at hl 4 rfl) ?_
          refine lv_aload_n hx hb dX3_legIsInRooms_22 rfl (lv_at hl 0 rfl) ?_
          obtain ⟨v23, e23, h23, h23a, h23b⟩ := gg_Gr hO
          refine va_get (ci := 3) (C := RX3) (T := TX3) (N := 9) (v := .ref (ad 4)) hx hb hts inX3 hown hK hP 1 (zw_at (by decide) e23) rfl 0 (by decide) fl14 (fun _ h => h) rfl dX3_legIsInRooms_23 ?_
          obtain ⟨v26, e26, h26, h26a, h26b⟩ := gg_Ro hO
          refine va_get (ci := 1) (C := RX1) (T := TX1) (N := 2) (v := .int v26) hx hb hts inX1 hown hK hP 4 (zw_at (by decide) e26) rfl 1 (by decide) fl74 (fun _ h => h) rfl dX3_legIsInRooms_26 ?_
          refine z_icmp_ge (tgt := 88) hx hb dX3_legIsInRooms_29 (by decide) (fun c29 => ?_) (fun c29 => ?_)
          · skip
            refine lv_iload_n hx hb dX3_legIsInRooms_88 rfl (lv_at hl 3 rfl) ?_
            refine lv_aload_n hx hb dX3_legIsInRooms_89 rfl (lv_at hl 0 rfl) ?_
            refine va_get (ci := 3) (C := RX3) (T := TX3) (N := 9) (v := .ref (ad 3)) hx hb hts inX3 hown hK hP 1 (zw_at (by decide) e23) rfl 8 (by decide) fl42 (fun _ h => h) rfl dX3_legIsInRooms_90 ?_
            obtain ⟨v93, v93a, v93b, v93c, v93d, v93e, v93f, v93g, v93h, v93i, e93⟩ := gg_Le hO
            refine va_get (ci := 4) (C := RX4) (T := TX4) (N := 10) (v := .int v93e) hx hb hts inX4 hown hK hP 3 (zw_at (by decide) e93) rfl 5 (by decide) fl121 (fun _ h => h) rfl dX3_legIsInRooms_93 ?_
            refine z_icmp_lt (tgt := 101) hx hb dX3_legIsInRooms_96 (by decide) (fun c96 => ?_) (fun c96 => ?_)
            · skip
              refine lv_iload_n hx hb dX3_legIsInRooms_101 rfl (lv_at hl 3 rfl) ?_
              refine lv_iload_n hx hb dX3_legIsInRooms_102 rfl (lv_at hl 1 rfl) ?_
              refine z_icmp_ne (tgt := 108) hx hb dX3_legIsInRooms_103 (by decide) (fun c103 => ?_) (fun c103 => ?_)
              · skip
                refine lv_iload_n hx hb dX3_legIsInRooms_108 rfl (lv_at hl 3 rfl) ?_
                refine lv_istore_n (lv' := [(1, .int x3), (0, .ref (ad 1)), (2, .int x2), (3, .int x3), (4, .int x4)]) hx hb dX3_legIsInRooms_109 rfl hl (by decide) rfl (fun ls hl => ?_)
                refine z_iinc (lv' := fun w0 => [(2, .int w0), (1, .int x3), (0, .ref (ad 1)), (3, .int x3), (4, .int x4)]) hx hb dX3_legIsInRooms_110 hl (k := 2) rfl (by decide) (fun _ => rfl) (by decide) (by omega) (fun v110 ls h110 hl => ?_)
                refine lv_goto (tgt := 4) hx hb dX3_legIsInRooms_113 (by decide) ?_
                exact ih4 _ _ _ x3 v110 hP hS hO (by omega) (by omega) (by omega) _ (lv_sub hl [2, 1, 0] rfl)
              · skip
                refine z_ic hx hb dX3_legIsInRooms_106 (by decide) (fun v106 h106 => ?_)
                exact z_retz hx hb hr hlocks hP hS dX3_legIsInRooms_107 (by omega) ⟨hO, (by omega)⟩
            · skip
              refine z_ic hx hb dX3_legIsInRooms_99 (by decide) (fun v99 h99 => ?_)
              exact z_retz hx hb hr hlocks hP hS dX3_legIsInRooms_100 (by omega) ⟨hO, (by omega)⟩
          · skip
            refine lv_aload_n hx hb dX3_legIsInRooms_32 rfl (lv_at hl 0 rfl) ?_
            refine va_get (ci := 3) (C := RX3) (T := TX3) (N := 9) (v := .ref (ad 3)) hx hb hts inX3 hown hK hP 1 (zw_at (by decide) e23) rfl 8 (by decide) fl42 (fun _ h => h) rfl dX3_legIsInRooms_33 ?_
            refine lv_aload_n hx hb dX3_legIsInRooms_36 rfl (lv_at hl 0 rfl) ?_
            refine va_get (ci := 3) (C := RX3) (T := TX3) (N := 9) (v := .ref (ad 4)) hx hb hts inX3 hown hK hP 1 (zw_at (by decide) e23) rfl 0 (by decide) fl14 (fun _ h => h) rfl dX3_legIsInRooms_37 ?_
            refine va_get (ci := 1) (C := RX1) (T := TX1) (N := 2) (v := .ref (ad 8)) hx hb hts inX1 hown hK hP 4 (zw_at (by decide) e26) rfl 0 (by decide) fl60 (fun _ h => h) rfl dX3_legIsInRooms_40 ?_
            refine lv_iload hx hb dX3_legIsInRooms_43 (lv_at hl 4 rfl) ?_
            obtain ⟨f45, e45, h45⟩ := gg_RoA hO
            refine z_ald (g := fun j0 => 12 + j0) hx hb hK hP (q0 := 8) 2 (by decide) e45 rfl (by omega) h45 dX3_legIsInRooms_45 (fun j45 h45a => ?_)
            obtain ⟨v46, v46a, v46b, v46c, v46d, v46e, v46f, v46g, v46h, v46i, e46⟩ := gg_Le hO
            refine z_ci (z_rV (q0 := 3) (As := [.ref (ad (12 + j45))]) (rest := []) ⟨hx, hb, hml, hown, hts⟩ (c_X4_meets l D cy ad cnt B hJ j45 (by omega)) (cwV 1 hts (g_V mw_86 mw_87 mw_88 mw_89 mw_90) rfl rfl rfl (by decide +kernel) ⟨Nat.le_of_ble_eq_true rfl, Nat.le_of_ble_eq_true rfl⟩) hK hN hO hP (by decide) e46 rfl rfl hl.1 rfl (Nat.le_of_ble_eq_true rfl) dX3_legIsInRooms_46 ⟨Nat.zero_le _, Nat.zero_le _⟩) hS (fun v46j ce H locs h46 hP hS => ?_)
            obtain ⟨hO, h46a⟩ := h46
            refine z_if_eq (tgt := 82) hx hb dX3_legIsInRooms_49 (by decide) (fun c49 => ?_) (fun c49 => ?_)
            · skip
              exact J82 _ _ _ x1 x2 x3 x4 hP hS hO (by omega) (by omega) (by omega) (by omega) (by omega) (by omega) _ (lv_sub hl [0, 1, 2, 3, 4] rfl)
            · skip
              refine lv_aload_n hx hb dX3_legIsInRooms_52 rfl (lv_at hl 0 rfl) ?_
              obtain ⟨v53, e53, h53, h53a, h53b⟩ := gg_Gr hO
              refine va_get (ci := 3) (C := RX3) (T := TX3) (N := 9) (v := .ref (ad 3)) hx hb hts inX3 hown hK hP 1 (zw_at (by decide) e53) rfl 8 (by decide) fl42 (fun _ h => h) rfl dX3_legIsInRooms_53 ?_
              obtain ⟨v56, v56a, v56b, v56c, v56d, v56e, v56f, v56g, v56h, v56i, e56⟩ := gg_Le hO
              refine va_get (ci := 4) (C := RX4) (T := TX4) (N := 10) (v := .int v56h) hx hb hts inX4 hown hK hP 3 (zw_at (by decide) e56) rfl 8 (by decide) fl115 (fun _ h => h) rfl dX3_legIsInRooms_56 ?_
              refine lv_iload_n hx hb dX3_legIsInRooms_59 rfl (lv_at hl 1 rfl) ?_
              refine z_icmp_gt (tgt := 82) hx hb dX3_legIsInRooms_60 (by decide) (fun c60 => ?_) (fun c60 => ?_)
              · skip
                exact J82 _ _ _ x1 x2 x3 x4 hP hS hO (by omega) (by omega) (by omega) (by omega) (by omega) (by omega) _ (lv_sub hl [0, 1, 2, 3, 4] rfl)
              · skip
                refine lv_aload_n hx hb dX3_legIsInRooms_63 rfl (lv_at hl 0 rfl) ?_
                refine va_get (ci := 3) (C := RX3) (T := TX3) (N := 9) (v := .ref (ad 3)) hx hb hts inX3 hown hK hP 1 (zw_at (by decide) e53) rfl 8 (by decide) fl42 (fun _ h => h) rfl dX3_legIsInRooms_64 ?_
                refine va_get (ci := 4) (C := RX4) (T := TX4) (N := 10) (v := .int v56i) hx hb hts inX4 hown hK hP 3 (zw_at (by decide) e56) rfl 9 (by decide) fl118 (fun _ h => h) rfl dX3_legIsInRooms_67 ?_
                refine lv_iload_n hx hb dX3_legIsInRooms_70 rfl (lv_at hl 3 rfl) ?_
                refine z_icmp_le (tgt := 82) hx hb dX3_legIsInRooms_71 (by decide) (fun c71 => ?_) (fun c71 => ?_)
                · skip
                  exact J82 _ _ _ x1 x2 x3 x4 hP hS hO (by omega) (by omega) (by omega) (by omega) (by omega) (by omega) _ (lv_sub hl [0, 1, 2, 3, 4] rfl)
                · skip
                  refine lv_aload_n hx hb dX3_legIsInRooms_74 rfl (lv_at hl 0 rfl) ?_
                  refine va_get (ci := 3) (C := RX3) (T := TX3) (N := 9) (v := .ref (ad 3)) hx hb hts inX3 hown hK hP 1 (zw_at (by decide) e53) rfl 8 (by decide) fl42 (fun _ h => h) rfl dX3_legIsInRooms_75 ?_
                  refine va_get (ci := 4) (C := RX4) (T := TX4) (N := 10) (v := .int v56i) hx hb hts inX4 hown hK hP 3 (zw_at (by decide) e56) rfl 9 (by decide) fl118 (fun _ h => h) rfl dX3_legIsInRooms_78 ?_
                  refine lv_istore_n (lv' := [(3, .int v56i), (0, .ref (ad 1)), (1, .int x1), (2, .int x2), (4, .int x4)]) hx hb dX3_legIsInRooms_81 rfl hl (by decide) rfl (fun ls hl => ?_)
                  exact J82 _ _ _ x1 x2 v56i x4 hP hS hO (by omega) (by omega) (by omega) (by omega) (by omega) (by omega) _ (lv_sub hl [1, 2, 3, 0, 4] rfl)
      intro H locs ce x1 x2 hP hS hO q_x1 q_x2 hm ls hl
      refine lv_iload_n hx hb dX3_legIsInRooms_4 rfl (lv_at hl 2 rfl) ?_
      refine lv_aload_n hx hb dX3_legIsInRooms_5 rfl (lv_at hl 0 rfl) ?_
      obtain ⟨v6, e6, h6, h6a, h6b⟩ := gg_Gr hO
      refine va_get (ci := 3) (C := RX3) (T := TX3) (N := 9) (v := .ref (ad 4)) hx hb hts inX3 hown hK hP 1 (zw_at (by decide) e6) rfl 0 (by decide) fl14 (fun _ h => h) rfl dX3_legIsInRooms_6 ?_
      obtain ⟨v9, e9, h9, h9a, h9b⟩ := gg_Ro hO
      refine va_get (ci := 1) (C := RX1) (T := TX1) (N := 2) (v := .int v9) hx hb hts inX1 hown hK hP 4 (zw_at (by decide) e9) rfl 1 (by decide) fl74 (fun _ h => h) rfl dX3_legIsInRooms_9 ?_
      refine z_icmp_ge (tgt := 116) hx hb dX3_legIsInRooms_12 (by decide) (fun c12 => ?_) (fun c12 => ?_)
      · skip
        refine z_ic hx hb dX3_legIsInRooms_116 (by decide) (fun v116 h116 => ?_)
        exact z_retz hx hb hr hlocks hP hS dX3_legIsInRooms_117 (by omega) ⟨hO, (by omega)⟩
      · skip
        refine lv_iload_n hx hb dX3_legIsInRooms_15 rfl (lv_at hl 1 rfl) ?_
        refine lv_istore_n (lv' := [(3, .int x1), (0, .ref (ad 1)), (1, .int x1), (2, .int x2)]) hx hb dX3_legIsInRooms_16 rfl hl (by decide) rfl (fun ls hl => ?_)
        refine z_ic hx hb dX3_legIsInRooms_17 (by decide) (fun v17 h17 => ?_)
        refine lv_istore (lv' := [(4, .int v17), (3, .int x1), (0, .ref (ad 1)), (1, .int x1), (2, .int x2)]) hx hb dX3_legIsInRooms_18 hl (by decide) rfl (fun ls hl => ?_)
        exact L20 14 _ _ _ x1 x2 x1 v17 hP hS hO (by omega) (by omega) (by omega) (by omega) (by omega) (by omega) _ (lv_sub hl [2, 3, 4, 1, 0] rfl)
  intro ls hl
  have hl : lv_has ls 5 [(0, .ref (ad 1))] := hl
  refine z_ic hx hb dX3_legIsInRooms_0 (by decide) (fun v0 h0 => ?_)
  refine lv_istore_n (lv' := [(1, .int v0), (0, .ref (ad 1))]) hx hb dX3_legIsInRooms_1 rfl hl (by decide) rfl (fun ls hl => ?_)
  refine z_ic hx hb dX3_legIsInRooms_2 (by decide) (fun v2 h2 => ?_)
  refine lv_istore_n (lv' := [(2, .int v2), (1, .int v0), (0, .ref (ad 1))]) hx hb dX3_legIsInRooms_3 rfl hl (by decide) rfl (fun ls hl => ?_)
  exact L4 14 _ _ _ v0 v2 hP hS hO (by omega) (by omega) (by omega) _ (lv_sub hl [2, 1, 0] rfl)
set_option maxHeartbeats 8000000 in
set_option maxRecDepth 100000 in
theorem c_X3_legRunsInBox (l : Launch) (D : va_G) (cy : Nat → ClassId) (ad : Nat → Nat) (cnt : Nat → Nat) (B : Nat) (hJ : zJ 73 ad) : zM l D (gT cy) 73 ad (gOK cy ad cnt B) yX3_legRunsInBox vsX3_legRunsInBox { frames := 1, cells := 0, slots := 0, locals := 23 } ([.ref (ad 1)] : List Value) (zQi D 73 ad (fun r ce => gOK cy ad cnt B ce ∧ (0 ≤ r.toInt ∧ r.toInt ≤ 1))) := by
  refine z_of (cc := cX3_legRunsInBox) (maxL := 3) (ret := (some .boolean)) (by decide) rfl (Nat.le_of_ble_eq_true rfl) ?_
  intro p e s m below meth c hx hb hr hts hown hlocks hml hK hN ce hOK hP
  have hown : s.vm.findClass RX3 = some m.cls := hown
  have hS : va_S (zA 73 ad) s.heap s.heap [] := va_S.rf
  have hO := hOK
  have inX0 : ∀ w ∈ u_ws RX0 TX0 6, w ∈ vsX3_legRunsInBox := fun w h => List.mem_cons_of_mem _ (inlX0 w h)
  have inX1 : ∀ w ∈ u_ws RX1 TX1 2, w ∈ vsX3_legRunsInBox := fun w h => List.mem_cons_of_mem _ (inlX1 w h)
  have inX3 : ∀ w ∈ u_ws RX3 TX3 9, w ∈ vsX3_legRunsInBox := fun w h => List.mem_cons_of_mem _ (inlX3 w h)
  have fl20 := hts (.fieldLink RX3 20 "GroundKeeper$Ground" "boxes" "LGroundKeeper$Areas;") (List.mem_cons_of_mem _ mw_60)
  have fl42 := hts (.fieldLink RX3 42 "GroundKeeper$Ground" "leg" "LGroundKeeper$Leg;") (List.mem_cons_of_mem _ mw_67)
  have fl60 := hts (.fieldLink RX3 60 "GroundKeeper$Areas" "all" "[LGroundKeeper$Area;") (List.mem_cons_of_mem _ mw_61)
  have fl64 := hts (.fieldLink RX3 64 "GroundKeeper$Area" "on" "Z") (List.mem_cons_of_mem _ mw_62)
  have L2 : ∀ N2 : Nat, ∀ (H : Heap) (locs : List Loc) (ce : Nat → va_E) (x1 : Int32), va_P D vwCl (zw 73 ad ce) H → va_S (zA 73 ad) s.heap H locs → gOK cy ad cnt B ce → (0 ≤ x1.toInt ∧ x1.toInt ≤ 8) → (9 - x1.toInt ≤ (N2 : Int)) → ∀ ls : Array Slot, lv_has ls 3 [(0, .ref (ad 1)), (1, .int x1)] → W p l e { frames := 1, cells := 0, slots := 0, locals := 23 } s m ([.ref (ad 1)] : List Value).toArray below meth c H locs 0 0 (MQ below (zQi D 73 ad (fun r ce => gOK cy ad cnt B ce ∧ (0 ≤ r.toInt ∧ r.toInt ≤ 1))) ([.ref (ad 1)] : List Value).toArray s 0 0 (zA 73 ad)) (F0 m 2 ls []) := by
    intro N2
    induction N2 with
    | zero =>
      intro H locs ce x1 hP hS hO q_x1 hm ls hl
      exfalso; omega
    | succ N2 ih2 =>
      have J49 : ∀ (H : Heap) (locs : List Loc) (ce : Nat → va_E) (x1 : Int32), va_P D vwCl (zw 73 ad ce) H → va_S (zA 73 ad) s.heap H locs → gOK cy ad cnt B ce → (0 ≤ x1.toInt ∧ x1.toInt ≤ 7) → (9 - x1.toInt ≤ (N2 : Int) + 1) → ∀ ls : Array Slot, lv_has ls 3 [(0, .ref (ad 1)), (1, .int x1)] → W p l e { frames := 1, cells := 0, slots := 0, locals := 23 } s m ([.ref (ad 1)] : List Value).toArray below meth c H locs 0 0 (MQ below (zQi D 73 ad (fun r ce => gOK cy ad cnt B ce ∧ (0 ≤ r.toInt ∧ r.toInt ≤ 1))) ([.ref (ad 1)] : List Value).toArray s 0 0 (zA 73 ad)) (F0 m 49 ls []) := by
        intro H locs ce x1 hP hS hO q_x1 qm2 ls hl
        refine z_iinc (lv' := fun w0 => [(1, .int w0), (0, .ref (ad 1))]) hx hb dX3_legRunsInBox_49 hl (k := 1) rfl (by decide) (fun _ => rfl) (by decide) (by omega) (fun v49 ls h49 hl => ?_)
        refine lv_goto (tgt := 2) hx hb dX3_legRunsInBox_52 (by decide) ?_
        exact ih2 _ _ _ v49 hP hS hO (by omega) (by omega) _ (lv_sub hl [1, 0] rfl)
      intro H locs ce x1 hP hS hO q_x1 hm ls hl
      refine lv_iload_n hx hb dX3_legRunsInBox_2 rfl (lv_at hl 1 rfl) ?_
      refine z_bi hx hb dX3_legRunsInBox_3 (by decide) (fun v3 h3 => ?_)
      refine z_icmp_ge (tgt := 55) hx hb dX3_legRunsInBox_5 (by decide) (fun c5 => ?_) (fun c5 => ?_)
      · skip
        refine z_ic hx hb dX3_legRunsInBox_55 (by decide) (fun v55 h55 => ?_)
        exact z_retz hx hb hr hlocks hP hS dX3_legRunsInBox_56 (by omega) ⟨hO, (by omega)⟩
      · skip
        refine lv_aload_n hx hb dX3_legRunsInBox_8 rfl (lv_at hl 0 rfl) ?_
        obtain ⟨v9, e9, h9, h9a, h9b⟩ := gg_Gr hO
        refine va_get (ci := 3) (C := RX3) (T := TX3) (N := 9) (v := .ref (ad 5)) hx hb hts inX3 hown hK hP 1 (zw_at (by decide) e9) rfl 1 (by decide) fl20 (fun _ h => h) rfl dX3_legRunsInBox_9 ?_
        obtain ⟨v12, e12⟩ := gg_Bo hO
        refine va_get (ci := 1) (C := RX1) (T := TX1) (N := 2) (v := .ref (ad 9)) hx hb hts inX1 hown hK hP 5 (zw_at (by decide) e12) rfl 0 (by decide) fl60 (fun _ h => h) rfl dX3_legRunsInBox_12 ?_
        refine lv_iload_n hx hb dX3_legRunsInBox_15 rfl (lv_at hl 1 rfl) ?_
        obtain ⟨f16, e16, h16⟩ := gg_BoA hO
        refine z_ald (g := fun j0 => 12 + (12 + j0)) hx hb hK hP (q0 := 9) 2 (by decide) e16 rfl (by omega) h16 dX3_legRunsInBox_16 (fun j16 h16a => ?_)
        refine lv_astore_n (lv' := [(2, .ref (ad (12 + (12 + j16)))), (0, .ref (ad 1)), (1, .int x1)]) hx hb dX3_legRunsInBox_17 rfl hl (by decide) rfl (fun ls hl => ?_)
        refine lv_aload_n hx hb dX3_legRunsInBox_18 rfl (lv_at hl 0 rfl) ?_
        obtain ⟨v19, v19a, v19b, v19c, v19d, v19e, e19⟩ := gg_Ar hO (j := (12 + j16)) (by omega)
        refine va_get (ci := 0) (C := RX0) (T := TX0) (N := 6) (v := .int v19e) hx hb hts inX0 hown hK hP (12 + (12 + j16)) (zw_at (by omega) e19) rfl 5 (by decide) fl64 (fun _ h => h) rfl dX3_legRunsInBox_19 ?_
        refine z_if_eq (tgt := 49) hx hb dX3_legRunsInBox_22 (by decide) (fun c22 => ?_) (fun c22 => ?_)
        · skip
          exact J49 _ _ _ x1 hP hS hO (by omega) (by omega) _ (lv_sub hl [1, 2] rfl)
        · skip
          refine lv_aload_n hx hb dX3_legRunsInBox_25 rfl (lv_at hl 1 rfl) ?_
          refine va_get (ci := 3) (C := RX3) (T := TX3) (N := 9) (v := .ref (ad 3)) hx hb hts inX3 hown hK hP 1 (zw_at (by decide) e9) rfl 8 (by decide) fl42 (fun _ h => h) rfl dX3_legRunsInBox_26 ?_
          refine lv_aload_n hx hb dX3_legRunsInBox_29 rfl (lv_at hl 0 rfl) ?_
          obtain ⟨v30, v30a, v30b, v30c, v30d, v30e, v30f, v30g, v30h, v30i, e30⟩ := gg_Le hO
          refine z_ci (z_rV (q0 := 3) (As := [.ref (ad (12 + (12 + j16)))]) (rest := []) ⟨hx, hb, hml, hown, hts⟩ (c_X4_meets l D cy ad cnt B hJ (12 + j16) (by omega)) (cwV 1 hts (g_V mw_86 mw_87 mw_88 mw_89 mw_90) rfl rfl rfl (by decide +kernel) ⟨Nat.le_of_ble_eq_true rfl, Nat.le_of_ble_eq_true rfl⟩) hK hN hO hP (by decide) e30 rfl rfl hl.1 rfl (Nat.le_of_ble_eq_true rfl) dX3_legRunsInBox_30 ⟨Nat.zero_le _, Nat.zero_le _⟩) hS (fun v30j ce H locs h30 hP hS => ?_)
          obtain ⟨hO, h30a⟩ := h30
          refine z_if_eq (tgt := 49) hx hb dX3_legRunsInBox_33 (by decide) (fun c33 => ?_) (fun c33 => ?_)
          · skip
            exact J49 _ _ _ x1 hP hS hO (by omega) (by omega) _ (lv_sub hl [1, 2] rfl)
          · skip
            refine lv_aload_n hx hb dX3_legRunsInBox_36 rfl (lv_at hl 1 rfl) ?_
            obtain ⟨v37, e37, h37, h37a, h37b⟩ := gg_Gr hO
            refine va_get (ci := 3) (C := RX3) (T := TX3) (N := 9) (v := .ref (ad 3)) hx hb hts inX3 hown hK hP 1 (zw_at (by decide) e37) rfl 8 (by decide) fl42 (fun _ h => h) rfl dX3_legRunsInBox_37 ?_
            refine lv_aload_n hx hb dX3_legRunsInBox_40 rfl (lv_at hl 0 rfl) ?_
            obtain ⟨v41, v41a, v41b, v41c, v41d, v41e, v41f, v41g, v41h, v41i, e41⟩ := gg_Le hO
            refine z_ciP (z_rV (q0 := 3) (As := [.ref (ad (12 + (12 + j16)))]) (rest := []) ⟨hx, hb, hml, hown, hts⟩ (c_X4_runsInside l D cy ad cnt B (fun c1 => c1 = ce) hJ (12 + j16) (by omega)) (cwV 1 hts (g_V mw_91 mw_92 mw_93 mw_89 mw_94) rfl rfl rfl (by decide +kernel) ⟨Nat.le_of_ble_eq_true rfl, Nat.le_of_ble_eq_true rfl⟩) hK hN ⟨hO, rfl⟩ hP (by decide) e41 rfl rfl hl.1 rfl (Nat.le_of_ble_eq_true rfl) dX3_legRunsInBox_41 ⟨Nat.zero_le _, Nat.zero_le _⟩) hS (fun _ h => h.2) (fun v41j H locs h41 hP hS => ?_)
            refine z_if_eq (tgt := 49) hx hb dX3_legRunsInBox_44 (by decide) (fun c44 => ?_) (fun c44 => ?_)
            · skip
              exact J49 _ _ _ x1 hP hS hO (by omega) (by omega) _ (lv_sub hl [1, 2] rfl)
            · skip
              refine z_ic hx hb dX3_legRunsInBox_47 (by decide) (fun v47 h47 => ?_)
              exact z_retz hx hb hr hlocks hP hS dX3_legRunsInBox_48 (by omega) ⟨hO, (by omega)⟩
  intro ls hl
  have hl : lv_has ls 3 [(0, .ref (ad 1))] := hl
  refine z_ic hx hb dX3_legRunsInBox_0 (by decide) (fun v0 h0 => ?_)
  refine lv_istore_n (lv' := [(1, .int v0), (0, .ref (ad 1))]) hx hb dX3_legRunsInBox_1 rfl hl (by decide) rfl (fun ls hl => ?_)
  exact L2 10 _ _ _ v0 hP hS hO (by omega) (by omega) _ (lv_sub hl [1, 0] rfl)
set_option maxHeartbeats 8000000 in
set_option maxRecDepth 100000 in
theorem c_X3_legMeetsShutDoor (l : Launch) (D : va_G) (cy : Nat → ClassId) (ad : Nat → Nat) (cnt : Nat → Nat) (B : Nat) (hJ : zJ 73 ad) : zM l D (gT cy) 73 ad (gOK cy ad cnt B) yX3_legMeetsShutDoor vsX3_legMeetsShutDoor { frames := 1, cells := 0, slots := 0, locals := 23 } ([.ref (ad 1)] : List Value) (zQi D 73 ad (fun r ce => gOK cy ad cnt B ce ∧ (0 ≤ r.toInt ∧ r.toInt ≤ 1))) := by
  refine z_of (cc := cX3_legMeetsShutDoor) (maxL := 2) (ret := (some .boolean)) (by decide) rfl (Nat.le_of_ble_eq_true rfl) ?_
  intro p e s m below meth c hx hb hr hts hown hlocks hml hK hN ce hOK hP
  have hown : s.vm.findClass RX3 = some m.cls := hown
  have hS : va_S (zA 73 ad) s.heap s.heap [] := va_S.rf
  have hO := hOK
  have inX0 : ∀ w ∈ u_ws RX0 TX0 6, w ∈ vsX3_legMeetsShutDoor := fun w h => List.mem_cons_of_mem _ (inlX0 w h)
  have inX1 : ∀ w ∈ u_ws RX1 TX1 2, w ∈ vsX3_legMeetsShutDoor := fun w h => List.mem_cons_of_mem _ (inlX1 w h)
  have inX3 : ∀ w ∈ u_ws RX3 TX3 9, w ∈ vsX3_legMeetsShutDoor := fun w h => List.mem_cons_of_mem _ (inlX3 w h)
  have fl23 := hts (.fieldLink RX3 23 "GroundKeeper$Ground" "doors" "LGroundKeeper$Areas;") (List.mem_cons_of_mem _ mw_64)
  have fl42 := hts (.fieldLink RX3 42 "GroundKeeper$Ground" "leg" "LGroundKeeper$Leg;") (List.mem_cons_of_mem _ mw_67)
  have fl60 := hts (.fieldLink RX3 60 "GroundKeeper$Areas" "all" "[LGroundKeeper$Area;") (List.mem_cons_of_mem _ mw_61)
  have fl64 := hts (.fieldLink RX3 64 "GroundKeeper$Area" "on" "Z") (List.mem_cons_of_mem _ mw_62)
  have fl74 := hts (.fieldLink RX3 74 "GroundKeeper$Areas" "size" "I") (List.mem_cons_of_mem _ mw_63)
  have L2 : ∀ N2 : Nat, ∀ (H : Heap) (locs : List Loc) (ce : Nat → va_E) (x1 : Int32), va_P D vwCl (zw 73 ad ce) H → va_S (zA 73 ad) s.heap H locs → gOK cy ad cnt B ce → (0 ≤ x1.toInt ∧ x1.toInt ≤ 6) → (7 - x1.toInt ≤ (N2 : Int)) → ∀ ls : Array Slot, lv_has ls 2 [(0, .ref (ad 1)), (1, .int x1)] → W p l e { frames := 1, cells := 0, slots := 0, locals := 23 } s m ([.ref (ad 1)] : List Value).toArray below meth c H locs 0 0 (MQ below (zQi D 73 ad (fun r ce => gOK cy ad cnt B ce ∧ (0 ≤ r.toInt ∧ r.toInt ≤ 1))) ([.ref (ad 1)] : List Value).toArray s 0 0 (zA 73 ad)) (F0 m 2 ls []) := by
    intro N2
    induction N2 with
    | zero =>
      intro H locs ce x1 hP hS hO q_x1 hm ls hl
      exfalso; omega
    | succ N2 ih2 =>
      have J49 : ∀ (H : Heap) (locs : List Loc) (ce : Nat → va_E) (x1 : Int32), va_P D vwCl (zw 73 ad ce) H → va_S (zA 73 ad) s.heap H locs → gOK cy ad cnt B ce → (0 ≤ x1.toInt ∧ x1.toInt ≤ 5) → (7 - x1.toInt ≤ (N2 : Int) + 1) → ∀ ls : Array Slot, lv_has ls 2 [(0, .ref (ad 1)), (1, .int x1)] → W p l e { frames := 1, cells := 0, slots := 0, locals := 23 } s m ([.ref (ad 1)] : List Value).toArray below meth c H locs 0 0 (MQ below (zQi D 73 ad (fun r ce => gOK cy ad cnt B ce ∧ (0 ≤ r.toInt ∧ r.toInt ≤ 1))) ([.ref (ad 1)] : List Value).toArray s 0 0 (zA 73 ad)) (F0 m 49 ls []) := by
        intro H locs ce x1 hP hS hO q_x1 qm2 ls hl
        refine z_iinc (lv' := fun w0 => [(1, .int w0), (0, .ref (ad 1))]) hx hb dX3_legMeetsShutDoor_49 hl (k := 1) rfl (by decide) (fun _ => rfl) (by decide) (by omega) (fun v49 ls h49 hl => ?_)
        refine lv_goto (tgt := 2) hx hb dX3_legMeetsShutDoor_52 (by decide) ?_
        exact ih2 _ _ _ v49 hP hS hO (by omega) (by omega) _ (lv_sub hl [1, 0] rfl)
      intro H locs ce x1 hP hS hO q_x1 hm ls hl
      refine lv_iload_n hx hb dX3_legMeetsShutDoor_2 rfl (lv_at hl 1 rfl) ?_
      refine lv_aload_n hx hb dX3_legMeetsShutDoor_3 rfl (lv_at hl 0 rfl) ?_
      obtain ⟨v4, e4, h4, h4a, h4b⟩ := gg_Gr hO
      refine va_get (ci := 3) (C := RX3) (T := TX3) (N := 9) (v := .ref (ad 6)) hx hb hts inX3 hown hK hP 1 (zw_at (by decide) e4) rfl 2 (by decide) fl23 (fun _ h => h) rfl dX3_legMeetsShutDoor_4 ?_
      obtain ⟨v7, e7, h7, h7a, h7b⟩ := gg_Do hO
      refine va_get (ci := 1) (C := RX1) (T := TX1) (N := 2) (v := .int v7) hx hb hts inX1 hown hK hP 6 (zw_at (by decide) e7) rfl 1 (by decide) fl74 (fun _ h => h) rfl dX3_legMeetsShutDoor_7 ?_
      refine z_icmp_ge (tgt := 55) hx hb dX3_legMeetsShutDoor_10 (by decide) (fun c10 => ?_) (fun c10 => ?_)
      · skip
        refine z_ic hx hb dX3_legMeetsShutDoor_55 (by decide) (fun v55 h55 => ?_)
        exact z_retz hx hb hr hlocks hP hS dX3_legMeetsShutDoor_56 (by omega) ⟨hO, (by omega)⟩
      · skip
        refine lv_aload_n hx hb dX3_legMeetsShutDoor_13 rfl (lv_at hl 0 rfl) ?_
        refine va_get (ci := 3) (C := RX3) (T := TX3) (N := 9) (v := .ref (ad 6)) hx hb hts inX3 hown hK hP 1 (zw_at (by decide) e4) rfl 2 (by decide) fl23 (fun _ h => h) rfl dX3_legMeetsShutDoor_14 ?_
        refine va_get (ci := 1) (C := RX1) (T := TX1) (N := 2) (v := .ref (ad 10)) hx hb hts inX1 hown hK hP 6 (zw_at (by decide) e7) rfl 0 (by decide) fl60 (fun _ h => h) rfl dX3_legMeetsShutDoor_17 ?_
        refine lv_iload_n hx hb dX3_legMeetsShutDoor_20 rfl (lv_at hl 1 rfl) ?_
        obtain ⟨f21, e21, h21⟩ := gg_DoA hO
        refine z_ald (g := fun j0 => 12 + (20 + j0)) hx hb hK hP (q0 := 10) 2 (by decide) e21 rfl (by omega) h21 dX3_legMeetsShutDoor_21 (fun j21 h21a => ?_)
        obtain ⟨v22, v22a, v22b, v22c, v22d, v22e, e22⟩ := gg_Ar hO (j := (20 + j21)) (by omega)
        refine va_get (ci := 0) (C := RX0) (T := TX0) (N := 6) (v := .int v22e) hx hb hts inX0 hown hK hP (12 + (20 + j21)) (zw_at (by omega) e22) rfl 5 (by decide) fl64 (fun _ h => h) rfl dX3_legMeetsShutDoor_22 ?_
        refine z_if_eq (tgt := 49) hx hb dX3_legMeetsShutDoor_25 (by decide) (fun c25 => ?_) (fun c25 => ?_)
        · skip
          exact J49 _ _ _ x1 hP hS hO (by omega) (by omega) _ (lv_sub hl [0, 1] rfl)
        · skip
          refine lv_aload_n hx hb dX3_legMeetsShutDoor_28 rfl (lv_at hl 0 rfl) ?_
          refine va_get (ci := 3) (C := RX3) (T := TX3) (N := 9) (v := .ref (ad 3)) hx hb hts inX3 hown hK hP 1 (zw_at (by decide) e4) rfl 8 (by decide) fl42 (fun _ h => h) rfl dX3_legMeetsShutDoor_29 ?_
          refine lv_aload_n hx hb dX3_legMeetsShutDoor_32 rfl (lv_at hl 0 rfl) ?_
          refine va_get (ci := 3) (C := RX3) (T := TX3) (N := 9) (v := .ref (ad 6)) hx hb hts inX3 hown hK hP 1 (zw_at (by decide) e4) rfl 2 (by decide) fl23 (fun _ h => h) rfl dX3_legMeetsShutDoor_33 ?_
          refine va_get (ci := 1) (C := RX1) (T := TX1) (N := 2) (v := .ref (ad 10)) hx hb hts inX1 hown hK hP 6 (zw_at (by decide) e7) rfl 0 (by decide) fl60 (fun _ h => h) rfl dX3_legMeetsShutDoor_36 ?_
          refine lv_iload_n hx hb dX3_legMeetsShutDoor_39 rfl (lv_at hl 1 rfl) ?_
          refine z_ald (g := fun j0 => 12 + (20 + j0)) hx hb hK hP (q0 := 10) 2 (by decide) e21 rfl (by omega) h21 dX3_legMeetsShutDoor_40 (fun j40 h40 => ?_)
          obtain ⟨v41, v41a, v41b, v41c, v41d, v41e, v41f, v41g, v41h, v41i, e41⟩ := gg_Le hO
          refine z_ci (z_rV (q0 := 3) (As := [.ref (ad (12 + (20 + j40)))]) (rest := []) ⟨hx, hb, hml, hown, hts⟩ (c_X4_meets l D cy ad cnt B hJ (20 + j40) (by omega)) (cwV 1 hts (g_V mw_86 mw_87 mw_88 mw_89 mw_90) rfl rfl rfl (by decide +kernel) ⟨Nat.le_of_ble_eq_true rfl, Nat.le_of_ble_eq_true rfl⟩) hK hN hO hP (by decide) e41 rfl rfl hl.1 rfl (Nat.le_of_ble_eq_true rfl) dX3_legMeetsShutDoor_41 ⟨Nat.zero_le _, Nat.zero_le _⟩) hS (fun v41j ce H locs h41 hP hS => ?_)
          obtain ⟨hO, h41a⟩ := h41
          refine z_if_eq (tgt := 49) hx hb dX3_legMeetsShutDoor_44 (by decide) (fun c44 => ?_) (fun c44 => ?_)
          · skip
            exact J49 _ _ _ x1 hP hS hO (by omega) (by omega) _ (lv_sub hl [0, 1] rfl)
          · skip
            refine z_ic hx hb dX3_legMeetsShutDoor_47 (by decide) (fun v47 h47 => ?_)
            exact z_retz hx hb hr hlocks hP hS dX3_legMeetsShutDoor_48 (by omega) ⟨hO, (by omega)⟩
  intro ls hl
  have hl : lv_has ls 2 [(0, .ref (ad 1))] := hl
  refine z_ic hx hb dX3_legMeetsShutDoor_0 (by decide) (fun v0 h0 => ?_)
  refine lv_istore_n (lv' := [(1, .int v0), (0, .ref (ad 1))]) hx hb dX3_legMeetsShutDoor_1 rfl hl (by decide) rfl (fun ls hl => ?_)
  exact L2 8 _ _ _ v0 hP hS hO (by omega) (by omega) _ (lv_sub hl [1, 0] rfl)
set_option maxHeartbeats 8000000 in
set_option maxRecDepth 100000 in
theorem c_X3_legCrossesLedge (l : Launch) (D : va_G) (cy : Nat → ClassId) (ad : Nat → Nat) (cnt : Nat → Nat) (B : Nat) (hJ : zJ 73 ad) : zM l D (gT cy) 73 ad (gOK cy ad cnt B) yX3_legCrossesLedge vsX3_legCrossesLedge { frames := 1, cells := 0, slots := 0, locals := 25 } ([.ref (ad 1)] : List Value) (zQi D 73 ad (fun r ce => gOK cy ad cnt B ce ∧ (0 ≤ r.toInt ∧ r.toInt ≤ 1))) := by
  refine z_of (cc := cX3_legCrossesLedge) (maxL := 2) (ret := (some .boolean)) (by decide) rfl (Nat.le_of_ble_eq_true rfl) ?_
  intro p e s m below meth c hx hb hr hts hown hlocks hml hK hN ce hOK hP
  have hown : s.vm.findClass RX3 = some m.cls := hown
  have hS : va_S (zA 73 ad) s.heap s.heap [] := va_S.rf
  have hO := hOK
  have inX1 : ∀ w ∈ u_ws RX1 TX1 2, w ∈ vsX3_legCrossesLedge := fun w h => List.mem_cons_of_mem _ (inlX1 w h)
  have inX3 : ∀ w ∈ u_ws RX3 TX3 9, w ∈ vsX3_legCrossesLedge := fun w h => List.mem_cons_of_mem _ (inlX3 w h)
  have fl26 := hts (.fieldLink RX3 26 "GroundKeeper$Ground" "ledges" "LGroundKeeper$Areas;") (List.mem_cons_of_mem _ mw_71)
  have fl42 := hts (.fieldLink RX3 42 "GroundKeeper$Ground" "leg" "LGroundKeeper$Leg;") (List.mem_cons_of_mem _ mw_67)
  have fl60 := hts (.fieldLink RX3 60 "GroundKeeper$Areas" "all" "[LGroundKeeper$Area;") (List.mem_cons_of_mem _ mw_61)
  have fl74 := hts (.fieldLink RX3 74 "GroundKeeper$Areas" "size" "I") (List.mem_cons_of_mem _ mw_63)
  have L2 : ∀ N2 : Nat, ∀ (H : Heap) (locs : List Loc) (ce : Nat → va_E) (x1 : Int32), va_P D vwCl (zw 73 ad ce) H → va_S (zA 73 ad) s.heap H locs → gOK cy ad cnt B ce → (0 ≤ x1.toInt ∧ x1.toInt ≤ 6) → (7 - x1.toInt ≤ (N2 : Int)) → ∀ ls : Array Slot, lv_has ls 2 [(0, .ref (ad 1)), (1, .int x1)] → W p l e { frames := 1, cells := 0, slots := 0, locals := 25 } s m ([.ref (ad 1)] : List Value).toArray below meth c H locs 0 0 (MQ below (zQi D 73 ad (fun r ce => gOK cy ad cnt B ce ∧ (0 ≤ r.toInt ∧ r.toInt ≤ 1))) ([.ref (ad 1)] : List Value).toArray s 0 0 (zA 73 ad)) (F0 m 2 ls []) := by
    intro N2
    induction N2 with
    | zero =>
      intro H locs ce x1 hP hS hO q_x1 hm ls hl
      exfalso; omega
    | succ N2 ih2 =>
      have J53 : ∀ (H : Heap) (locs : List Loc) (ce : Nat → va_E) (x1 : Int32), va_P D vwCl (zw 73 ad ce) H → va_S (zA 73 ad) s.heap H locs → gOK cy ad cnt B ce → (0 ≤ x1.toInt ∧ x1.toInt ≤ 5) → (7 - x1.toInt ≤ (N2 : Int) + 1) → ∀ ls : Array Slot, lv_has ls 2 [(0, .ref (ad 1)), (1, .int x1)] → W p l e { frames := 1, cells := 0, slots := 0, locals := 25 } s m ([.ref (ad 1)] : List Value).toArray below meth c H locs 0 0 (MQ below (zQi D 73 ad (fun r ce => gOK cy ad cnt B ce ∧ (0 ≤ r.toInt ∧ r.toInt ≤ 1))) ([.ref (ad 1)] : List Value).toArray s 0 0 (zA 73 ad)) (F0 m 53 ls []) := by
        intro H locs ce x1 hP hS hO q_x1 qm2 ls hl
        refine z_iinc (lv' := fun w0 => [(1, .int w0), (0, .ref (ad 1))]) hx hb dX3_legCrossesLedge_53 hl (k := 1) rfl (by decide) (fun _ => rfl) (by decide) (by omega) (fun v53 ls h53 hl => ?_)
        refine lv_goto (tgt := 2) hx hb dX3_legCrossesLedge_56 (by decide) ?_
        exact ih2 _ _ _ v53 hP hS hO (by omega) (by omega) _ (lv_sub hl [1, 0] rfl)
      intro H locs ce x1 hP hS hO q_x1 hm ls hl
      refine lv_iload_n hx hb dX3_legCrossesLedge_2 rfl (lv_at hl 1 rfl) ?_
      refine lv_aload_n hx hb dX3_legCrossesLedge_3 rfl (lv_at hl 0 rfl) ?_
      obtain ⟨v4, e4, h4, h4a, h4b⟩ := gg_Gr hO
      refine va_get (ci := 3) (C := RX3) (T := TX3) (N := 9) (v := .ref (ad 7)) hx hb hts inX3 hown hK hP 1 (zw_at (by decide) e4) rfl 3 (by decide) fl26 (fun _ h => h) rfl dX3_legCrossesLedge_4 ?_
      obtain ⟨v7, e7, h7, h7a, h7b⟩ := gg_Lg hO
      refine va_get (ci := 1) (C := RX1) (T := TX1) (N := 2) (v := .int v7) hx hb hts inX1 hown hK hP 7 (zw_at (by decide) e7) rfl 1 (by decide) fl74 (fun _ h => h) rfl dX3_legCrossesLedge_7 ?_
      refine z_icmp_ge (tgt := 59) hx hb dX3_legCrossesLedge_10 (by decide) (fun c10 => ?_) (fun c10 => ?_)
      · skip
        refine z_ic hx hb dX3_legCrossesLedge_59 (by decide) (fun v59 h59 => ?_)
        exact z_retz hx hb hr hlocks hP hS dX3_legCrossesLedge_60 (by omega) ⟨hO, (by omega)⟩
      · skip
        refine lv_aload_n hx hb dX3_legCrossesLedge_13 rfl (lv_at hl 0 rfl) ?_
        refine va_get (ci := 3) (C := RX3) (T := TX3) (N := 9) (v := .ref (ad 3)) hx hb hts inX3 hown hK hP 1 (zw_at (by decide) e4) rfl 8 (by decide) fl42 (fun _ h => h) rfl dX3_legCrossesLedge_14 ?_
        refine lv_aload_n hx hb dX3_legCrossesLedge_17 rfl (lv_at hl 0 rfl) ?_
        refine va_get (ci := 3) (C := RX3) (T := TX3) (N := 9) (v := .ref (ad 7)) hx hb hts inX3 hown hK hP 1 (zw_at (by decide) e4) rfl 3 (by decide) fl26 (fun _ h => h) rfl dX3_legCrossesLedge_18 ?_
        refine va_get (ci := 1) (C := RX1) (T := TX1) (N := 2) (v := .ref (ad 11)) hx hb hts inX1 hown hK hP 7 (zw_at (by decide) e7) rfl 0 (by decide) fl60 (fun _ h => h) rfl dX3_legCrossesLedge_21 ?_
        refine lv_iload_n hx hb dX3_legCrossesLedge_24 rfl (lv_at hl 1 rfl) ?_
        obtain ⟨f25, e25, h25⟩ := gg_LgA hO
        refine z_ald (g := fun j0 => 12 + (26 + j0)) hx hb hK hP (q0 := 11) 2 (by decide) e25 rfl (by omega) h25 dX3_legCrossesLedge_25 (fun j25 h25a => ?_)
        obtain ⟨v26, v26a, v26b, v26c, v26d, v26e, v26f, v26g, v26h, v26i, e26⟩ := gg_Le hO
        refine z_ciP (z_rV (q0 := 3) (As := [.ref (ad (12 + (26 + j25)))]) (rest := []) ⟨hx, hb, hml, hown, hts⟩ (c_X4_goesAgainst l D cy ad cnt B (fun c1 => c1 = ce) hJ (26 + j25) (by omega)) (cwV 1 hts (g_V mw_95 mw_96 mw_97 mw_89 mw_98) rfl rfl rfl (by decide +kernel) ⟨Nat.le_of_ble_eq_true rfl, Nat.le_of_ble_eq_true rfl⟩) hK hN ⟨hO, rfl⟩ hP (by decide) e26 rfl rfl hl.1 rfl (Nat.le_of_ble_eq_true rfl) dX3_legCrossesLedge_26 ⟨Nat.zero_le _, Nat.zero_le _⟩) hS (fun _ h => h.2) (fun v26j H locs h26 hP hS => ?_)
        refine z_if_eq (tgt := 53) hx hb dX3_legCrossesLedge_29 (by decide) (fun c29 => ?_) (fun c29 => ?_)
        · skip
          exact J53 _ _ _ x1 hP hS hO (by omega) (by omega) _ (lv_sub hl [0, 1] rfl)
        · skip
          refine lv_aload_n hx hb dX3_legCrossesLedge_32 rfl (lv_at hl 0 rfl) ?_
          refine va_get (ci := 3) (C := RX3) (T := TX3) (N := 9) (v := .ref (ad 3)) hx hb hts inX3 hown hK hP 1 (zw_at (by decide) e4) rfl 8 (by decide) fl42 (fun _ h => h) rfl dX3_legCrossesLedge_33 ?_
          refine lv_aload_n hx hb dX3_legCrossesLedge_36 rfl (lv_at hl 0 rfl) ?_
          refine va_get (ci := 3) (C := RX3) (T := TX3) (N := 9) (v := .ref (ad 7)) hx hb hts inX3 hown hK hP 1 (zw_at (by decide) e4) rfl 3 (by decide) fl26 (fun _ h => h) rfl dX3_legCrossesLedge_37 ?_
          refine va_get (ci := 1) (C := RX1) (T := TX1) (N := 2) (v := .ref (ad 11)) hx hb hts inX1 hown hK hP 7 (zw_at (by decide) e7) rfl 0 (by decide) fl60 (fun _ h => h) rfl dX3_legCrossesLedge_40 ?_
          refine lv_iload_n hx hb dX3_legCrossesLedge_43 rfl (lv_at hl 1 rfl) ?_
          refine z_ald (g := fun j0 => 12 + (26 + j0)) hx hb hK hP (q0 := 11) 2 (by decide) e25 rfl (by omega) h25 dX3_legCrossesLedge_44 (fun j44 h44 => ?_)
          refine z_ci (z_rV (q0 := 3) (As := [.ref (ad (12 + (26 + j44)))]) (rest := []) ⟨hx, hb, hml, hown, hts⟩ (c_X4_meets l D cy ad cnt B hJ (26 + j44) (by omega)) (cwV 1 hts (g_V mw_86 mw_87 mw_88 mw_89 mw_90) rfl rfl rfl (by decide +kernel) ⟨Nat.le_of_ble_eq_true rfl, Nat.le_of_ble_eq_true rfl⟩) hK hN hO hP (by decide) e26 rfl rfl hl.1 rfl (Nat.le_of_ble_eq_true rfl) dX3_legCrossesLedge_45 ⟨Nat.zero_le _, Nat.zero_le _⟩) hS (fun v45 ce H locs h45 hP hS => ?_)
          obtain ⟨hO, h45a⟩ := h45
          refine z_if_eq (tgt := 53) hx hb dX3_legCrossesLedge_48 (by decide) (fun c48 => ?_) (fun c48 => ?_)
          · skip
            exact J53 _ _ _ x1 hP hS hO (by omega) (by omega) _ (lv_sub hl [0, 1] rfl)
          · skip
            refine z_ic hx hb dX3_legCrossesLedge_51 (by decide) (fun v51 h51 => ?_)
            exact z_retz hx hb hr hlocks hP hS dX3_legCrossesLedge_52 (by omega) ⟨hO, (by omega)⟩
  intro ls hl
  have hl : lv_has ls 2 [(0, .ref (ad 1))] := hl
  refine z_ic hx hb dX3_legCrossesLedge_0 (by decide) (fun v0 h0 => ?_)
  refine lv_istore_n (lv' := [(1, .int v0), (0, .ref (ad 1))]) hx hb dX3_legCrossesLedge_1 rfl hl (by decide) rfl (fun ls hl => ?_)
  exact L2 8 _ _ _ v0 hP hS hO (by omega) (by omega) _ (lv_sub hl [1, 0] rfl)
set_option maxHeartbeats 8000000 in
set_option maxRecDepth 100000 in
theorem c_X3_judge (l : Launch) (D : va_G) (cy : Nat → ClassId) (ad : Nat → Nat) (cnt : Nat → Nat) (B : Nat) (hJ : zJ 73 ad) (p1 : Int32) (p2 : Int32) : zM l D (gT cy) 73 ad (gOK cy ad cnt B) yX3_judge vsX3_judge { frames := 2, cells := 0, slots := 0, locals := 48 } ([.ref (ad 1), .int p1, .int p2] : List Value) (zQi D 73 ad (fun r ce => gOK cy ad cnt B ce ∧ (True))) := by
  refine z_of (cc := cX3_judge) (maxL := 3) (ret := (some .int)) (by decide) rfl (Nat.le_of_ble_eq_true rfl) ?_
  intro p e s m below meth c hx hb hr hts hown hlocks hml hK hN ce hOK hP
  have hown : s.vm.findClass RX3 = some m.cls := hown
  have hS : va_S (zA 73 ad) s.heap s.heap [] := va_S.rf
  have hO := hOK
  have inX3 : ∀ w ∈ u_ws RX3 TX3 9, w ∈ vsX3_judge := fun w h => List.mem_cons_of_mem _ (inlX3 w h)
  have fl42 := hts (.fieldLink RX3 42 "GroundKeeper$Ground" "leg" "LGroundKeeper$Leg;") (List.mem_cons_of_mem _ mw_67)
  intro ls hl
  have hl : lv_has ls 3 [(0, .ref (ad 1)), (1, .int p1), (2, .int p2)] := hl
  refine lv_iload_n hx hb dX3_judge_0 rfl (lv_at hl 1 rfl) ?_
  refine z_ciP (z_rN (As := [.int p1]) (rest := []) ⟨hx, hb, hml, hown, hts⟩ (c_X7_levelOf l D (gT cy) 73 ad (fun c1 => c1 = ce) p1) (va_cnB 1 hts (g_C mw_6) rfl rfl rfl (hN (.methodLinkNest RX3 50 yX7_levelOf RX7) (by simp [nwL])) (hts (.initialized RX7) (List.mem_cons_of_mem _ mw_2)) (by decide +kernel) ⟨Nat.le_of_ble_eq_true rfl, Nat.le_of_ble_eq_true rfl⟩) (hts (.static yX7_levelOf) (List.mem_cons_of_mem _ mw_5)) hK hN rfl hP rfl hl.1 rfl (Nat.le_of_ble_eq_true rfl) dX3_judge_1 ⟨Nat.zero_le _, Nat.zero_le _⟩) hS (fun _ h => h) (fun v1 H locs h1 hP hS => ?_)
  refine lv_iload_n hx hb dX3_judge_4 rfl (lv_at hl 2 rfl) ?_
  refine z_ciP (z_rN (As := [.int p2]) (rest := [.int v1]) ⟨hx, hb, hml, hown, hts⟩ (c_X7_levelOf l D (gT cy) 73 ad (fun c1 => c1 = ce) p2) (va_cnB 1 hts (g_C mw_6) rfl rfl rfl (hN (.methodLinkNest RX3 50 yX7_levelOf RX7) (by simp [nwL])) (hts (.initialized RX7) (List.mem_cons_of_mem _ mw_2)) (by decide +kernel) ⟨Nat.le_of_ble_eq_true rfl, Nat.le_of_ble_eq_true rfl⟩) (hts (.static yX7_levelOf) (List.mem_cons_of_mem _ mw_5)) hK hN rfl hP rfl hl.1 rfl (Nat.le_of_ble_eq_true rfl) dX3_judge_5 ⟨Nat.zero_le _, Nat.zero_le _⟩) hS (fun _ h => h) (fun v5 H locs h5 hP hS => ?_)
  refine z_icmp_eq (tgt := 35) hx hb dX3_judge_8 (by decide) (fun c8 => ?_) (fun c8 => ?_)
  · skip
    refine lv_aload_n hx hb dX3_judge_35 rfl (lv_at hl 0 rfl) ?_
    obtain ⟨v36, e36, h36, h36a, h36b⟩ := gg_Gr hO
    refine va_get (ci := 3) (C := RX3) (T := TX3) (N := 9) (v := .ref (ad 3)) hx hb hts inX3 hown hK hP 1 (zw_at (by decide) e36) rfl 8 (by decide) fl42 (fun _ h => h) rfl dX3_judge_36 ?_
    refine lv_iload_n hx hb dX3_judge_39 rfl (lv_at hl 1 rfl) ?_
    refine lv_iload_n hx hb dX3_judge_40 rfl (lv_at hl 2 rfl) ?_
    obtain ⟨v41, v41a, v41b, v41c, v41d, v41e, v41f, v41g, v41h, v41i, e41⟩ := gg_Le hO
    refine z_cv (z_rV (q0 := 3) (As := [.int p1, .int p2]) (rest := []) ⟨hx, hb, hml, hown, hts⟩ (c_X4_lay l D cy ad cnt B hJ p1 p2) (cwV 2 hts (g_V mw_99 mw_100 mw_101 mw_89 mw_102) rfl rfl rfl (by decide +kernel) ⟨Nat.le_of_ble_eq_true rfl, Nat.le_of_ble_eq_true rfl⟩) hK hN hO hP (by decide) e41 rfl rfl hl.1 rfl (Nat.le_of_ble_eq_true rfl) dX3_judge_41 ⟨Nat.zero_le _, Nat.zero_le _⟩) hS (fun ce H locs h41 hP hS => ?_)
    obtain ⟨hO, h41a⟩ := h41
    refine lv_aload_n hx hb dX3_judge_44 rfl (lv_at hl 0 rfl) ?_
    obtain ⟨v45, e45, h45, h45a, h45b⟩ := gg_Gr hO
    refine z_ci (z_rV (q0 := 1) (As := []) (rest := []) ⟨hx, hb, hml, hown, hts⟩ (c_X3_legIsInRooms l D cy ad cnt B hJ) (cwV 0 hts (g_V mw_103 mw_104 mw_105 mw_84 mw_106) rfl rfl rfl (by decide +kernel) ⟨Nat.le_of_ble_eq_true rfl, Nat.le_of_ble_eq_true rfl⟩) hK hN hO hP (by decide) e45 rfl rfl hl.1 rfl (Nat.le_of_ble_eq_true rfl) dX3_judge_45 ⟨Nat.zero_le _, Nat.zero_le _⟩) hS (fun v45a ce H locs h45c hP hS => ?_)
    obtain ⟨hO, h45d⟩ := h45c
    refine z_if_eq (tgt := 58) hx hb dX3_judge_48 (by decide) (fun c48 => ?_) (fun c48 => ?_)
    · skip
      refine z_ic hx hb dX3_judge_58 (by decide) (fun v58 h58 => ?_)
      exact z_reti hx hb hr hlocks hP hS dX3_judge_59 ⟨hO, trivial⟩
    · skip
      refine lv_aload_n hx hb dX3_judge_51 rfl (lv_at hl 0 rfl) ?_
      obtain ⟨v52, e52, h52, h52a, h52b⟩ := gg_Gr hO
      refine z_ci (z_rV (q0 := 1) (As := []) (rest := []) ⟨hx, hb, hml, hown, hts⟩ (c_X3_legRunsInBox l D cy ad cnt B hJ) (cwV 0 hts (g_V mw_107 mw_108 mw_109 mw_84 mw_110) rfl rfl rfl (by decide +kernel) ⟨Nat.le_of_ble_eq_true rfl, Nat.le_of_ble_eq_true rfl⟩) hK hN hO hP (by decide) e52 rfl rfl hl.1 rfl (Nat.le_of_ble_eq_true rfl) dX3_judge_52 ⟨Nat.zero_le _, Nat.zero_le _⟩) hS (fun v52a ce H locs h52c hP hS => ?_)
      obtain ⟨hO, h52d⟩ := h52c
      refine z_if_eq (tgt := 60) hx hb dX3_judge_55 (by decide) (fun c55 => ?_) (fun c55 => ?_)
      · skip
        refine lv_aload_n hx hb dX3_judge_60 rfl (lv_at hl 0 rfl) ?_
        obtain ⟨v61, e61, h61, h61a, h61b⟩ := gg_Gr hO
        refine z_ci (z_rV (q0 := 1) (As := []) (rest := []) ⟨hx, hb, hml, hown, hts⟩ (c_X3_legMeetsShutDoor l D cy ad cnt B hJ) (cwV 0 hts (g_V mw_111 mw_112 mw_113 mw_84 mw_114) rfl rfl rfl (by decide +kernel) ⟨Nat.le_of_ble_eq_true rfl, Nat.le_of_ble_eq_true rfl⟩) hK hN hO hP (by decide) e61 rfl rfl hl.1 rfl (Nat.le_of_ble_eq_true rfl) dX3_judge_61 ⟨Nat.zero_le _, Nat.zero_le _⟩) hS (fun v61a ce H locs h61c hP hS => ?_)
        obtain ⟨hO, h61d⟩ := h61c
        refine z_if_eq (tgt := 70) hx hb dX3_judge_64 (by decide) (fun c64 => ?_) (fun c64 => ?_)
        · skip
          refine lv_aload_n hx hb dX3_judge_70 rfl (lv_at hl 0 rfl) ?_
          obtain ⟨v71, e71, h71, h71a, h71b⟩ := gg_Gr hO
          refine z_ci (z_rV (q0 := 1) (As := []) (rest := []) ⟨hx, hb, hml, hown, hts⟩ (c_X3_legCrossesLedge l D cy ad cnt B hJ) (cwV 0 hts (g_V mw_115 mw_116 mw_117 mw_84 mw_118) rfl rfl rfl (by decide +kernel) ⟨Nat.le_of_ble_eq_true rfl, Nat.le_of_ble_eq_true rfl⟩) hK hN hO hP (by decide) e71 rfl rfl hl.1 rfl (Nat.le_of_ble_eq_true rfl) dX3_judge_71 ⟨Nat.zero_le _, Nat.zero_le _⟩) hS (fun v71a ce H locs h71c hP hS => ?_)
          obtain ⟨hO, h71d⟩ := h71c
          refine z_if_eq (tgt := 82) hx hb dX3_judge_74 (by decide) (fun c74 => ?_) (fun c74 => ?_)
          · skip
            refine z_ic hx hb dX3_judge_82 (by decide) (fun v82 h82 => ?_)
            exact z_reti hx hb hr hlocks hP hS dX3_judge_83 ⟨hO, trivial⟩
          · skip
            refine z_bi hx hb dX3_judge_77 (by decide) (fun v77 h77 => ?_)
            refine lv_goto (tgt := 83) hx hb dX3_judge_79 (by decide) ?_
            exact z_reti hx hb hr hlocks hP hS dX3_judge_83 ⟨hO, trivial⟩
        · skip
          refine z_bi hx hb dX3_judge_67 (by decide) (fun v67 h67 => ?_)
          exact z_reti hx hb hr hlocks hP hS dX3_judge_69 ⟨hO, trivial⟩
      · skip
        refine z_ic hx hb dX3_judge_58 (by decide) (fun v58 h58 => ?_)
        exact z_reti hx hb hr hlocks hP hS dX3_judge_59 ⟨hO, trivial⟩
  · skip
    refine lv_aload_n hx hb dX3_judge_11 rfl (lv_at hl 0 rfl) ?_
    refine lv_iload_n hx hb dX3_judge_12 rfl (lv_at hl 1 rfl) ?_
    refine lv_iload_n hx hb dX3_judge_13 rfl (lv_at hl 2 rfl) ?_
    obtain ⟨v14, e14, h14, h14a, h14b⟩ := gg_Gr hO
    refine z_ciP (z_rV (q0 := 1) (As := [.int p1, .int p2]) (rest := []) ⟨hx, hb, hml, hown, hts⟩ (c_X3_leastLadderCost l D cy ad cnt B (fun c1 => c1 = ce) hJ p1 p2) (cwV 2 hts (g_V mw_81 mw_82 mw_83 mw_84 mw_85) rfl rfl rfl (by decide +kernel) ⟨Nat.le_of_ble_eq_true rfl, Nat.le_of_ble_eq_true rfl⟩) hK hN ⟨hO, rfl⟩ hP (by decide) e14 rfl rfl hl.1 rfl (Nat.le_of_ble_eq_true rfl) dX3_judge_14 ⟨Nat.zero_le _, Nat.zero_le _⟩) hS (fun _ h => h.2) (fun v14a H locs h14c hP hS => ?_)
    refine z_ic hx hb dX3_judge_17 (by decide) (fun v17 h17 => ?_)
    refine z_icmp_eq (tgt := 33) hx hb dX3_judge_18 (by decide) (fun c18 => ?_) (fun c18 => ?_)
    · skip
      refine z_ic hx hb dX3_judge_33 (by decide) (fun v33 h33 => ?_)
      exact z_reti hx hb hr hlocks hP hS dX3_judge_34 ⟨hO, trivial⟩
    · skip
      refine lv_aload_n hx hb dX3_judge_21 rfl (lv_at hl 0 rfl) ?_
      refine lv_iload_n hx hb dX3_judge_22 rfl (lv_at hl 2 rfl) ?_
      refine z_ciP (z_rV (q0 := 1) (As := [.int p2]) (rest := []) ⟨hx, hb, hml, hown, hts⟩ (c_X3_isGround l D cy ad cnt B (fun c1 => c1 = ce) hJ p2) (cwV 1 hts (g_V mw_119 mw_120 mw_121 mw_84 mw_122) rfl rfl rfl (by decide +kernel) ⟨Nat.le_of_ble_eq_true rfl, Nat.le_of_ble_eq_true rfl⟩) hK hN ⟨hO, rfl⟩ hP (by decide) e14 rfl rfl hl.1 rfl (Nat.le_of_ble_eq_true rfl) dX3_judge_23 ⟨Nat.zero_le _, Nat.zero_le _⟩) hS (fun _ h => h.2) (fun v23 H locs h23 hP hS => ?_)
      refine z_if_eq (tgt := 33) hx hb dX3_judge_26 (by decide) (fun c26 => ?_) (fun c26 => ?_)
      · skip
        refine z_ic hx hb dX3_judge_33 (by decide) (fun v33 h33 => ?_)
        exact z_reti hx hb hr hlocks hP hS dX3_judge_34 ⟨hO, trivial⟩
      · skip
        refine z_ic hx hb dX3_judge_29 (by decide) (fun v29 h29 => ?_)
        refine lv_goto (tgt := 34) hx hb dX3_judge_30 (by decide) ?_
        exact z_reti hx hb hr hlocks hP hS dX3_judge_34 ⟨hO, trivial⟩
