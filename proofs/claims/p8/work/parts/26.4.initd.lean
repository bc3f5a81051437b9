theorem p3_tr {cy : Nat → ClassId} {ad ad1 : Nat → Nat} {ce ce1 : Nat → va_E} (h : p3 cy ad ce) (ha : ∀ i, i ≤ 44 → ad1 i = ad i) (hc : ∀ i, i ≤ 44 → ce1 i = ce i) : p3 cy ad1 ce1 := by
  unfold p3 at h ⊢
  obtain ⟨h0, h1, h2, h3, h4, h5, h6, h7, h8⟩ := h
  refine ⟨?_, arO_tr h1 (fun j h => ha j (by omega)) (fun j h _ => hc j (by omega)), arO_tr h2 (fun j h => ha j (by omega)) (fun j h _ => hc j (by omega)), arO_tr h3 (fun j h => ha j (by omega)) (fun j h _ => hc j (by omega)), arO_tr h4 (fun j h => ha j (by omega)) (fun j h _ => hc j (by omega)), ?_, ?_, ?_, ?_⟩
  · rw [hc 0 (by omega), ha 1 (by omega), ha 15 (by omega), ha 25 (by omega), ha 33 (by omega), ha 41 (by omega), ha 42 (by omega), ha 43 (by omega), ha 44 (by omega)]; exact h0
  · rw [hc 41 (by omega)]; exact h5
  · rw [hc 42 (by omega)]; exact h6
  · rw [hc 43 (by omega)]; exact h7
  · rw [hc 44 (by omega)]; exact h8
/-- what GroundKeeper() has made, in the order of its making, i walkers so far -/
def p7 (cy : Nat → ClassId) (ad : Nat → Nat) (ce : Nat → va_E) (i : Nat) : Prop := ce 0 = .inr (7, [.ref (ad 1), .ref (ad 46), .ref (ad 52), .ref (ad 54), .int 0, .int 0]) ∧ p3 cy (fun t => ad (1 + t)) (fun t => ce (1 + t)) ∧ p2 cy (ad 1) (fun t => ad (46 + t)) (fun t => ce (46 + t)) ∧ p5 cy (fun t => ad (52 + t)) (fun t => ce (52 + t)) ∧ (∃ f : Nat → Option Nat, ce 54 = .inl (cy 3, 6, .inr (.inr (.inr (.inr f)))) ∧ ∀ j : Nat, j < i → f j = some (ad (55 + 3 * j))) ∧ ∀ j : Nat, j < i → p6 cy (fun t => ad (55 + 3 * j + t)) (fun t => ce (55 + 3 * j + t))
set_option maxHeartbeats 8000000 in
set_option maxRecDepth 100000 in
theorem c_X7_init (l : Launch) (D : va_G) (cy : Nat → ClassId) (sz h0 : Nat) : iM l D cy yX7_init vsX7_init { frames := 4, cells := 72, slots := 1386, locals := 74 } 72 1386 72 sz h0 (.inr (7, [.null, .null, .null, .null, .int 0, .int 0])) [] (fun u => p7 cy u.1 u.2 6) := by
  refine i_of (cc := cX7_init) (maxL := 3) (by decide) rfl rfl (Nat.le_of_ble_eq_true rfl) ?_
  intro p e s m below meth c hx hb hr hts hown hlocks hml hin hK hN hX hsz ad ce ha e0 h0l hP hD hS hA ls hl
  have hown : s.vm.findClass RX7 = some m.cls := hown
  have inX2 : ∀ w ∈ u_ws RX2 TX2 9, w ∈ vsX7_init := fun w h => List.mem_cons_of_mem _ (inlX2 w h)
  have inX3 : ∀ w ∈ u_ws RX3 TX3 9, w ∈ vsX7_init := fun w h => List.mem_cons_of_mem _ (inlX3 w h)
  have inX5 : ∀ w ∈ u_ws RX5 TX5 2, w ∈ vsX7_init := fun w h => List.mem_cons_of_mem _ (inlX5 w h)
  have inX6 : ∀ w ∈ u_ws RX6 TX6 8, w ∈ vsX7_init := fun w h => List.mem_cons_of_mem _ (inlX6 w h)
  have inX7 : ∀ w ∈ u_ws RX7 TX7 6, w ∈ vsX7_init := fun w h => List.mem_cons_of_mem _ (inlX7 w h)
  have L : ∀ r i : Nat, i + r = 6 → ∀ (H : Heap) (locs : List Loc) (ad : Nat → Nat) (ce : Nat → va_E) (x2 : Int32), x2.toInt = (i : Int) → ad 0 = h0 → p7 cy ad ce i → va_P D vwCl (zw (55 + 3 * i) ad ce) H → va_D (iA h0 s.heap.size) (zw (55 + 3 * i) ad ce) → va_S (iA h0 s.heap.size) s.heap H locs → ∀ ls : Array Slot, lv_has ls 3 [(0, .ref h0), (2, .int x2)] → W p l e { frames := 4, cells := 72, slots := 1386, locals := 74 } s m (Value.ref h0 :: []).toArray below meth c H locs (54 + 3 * i) (762 + 104 * i) (MQ below (va_Qv (fun u => p7 cy u.1 u.2 6) (iW D 72 s.heap.size h0) (iA h0 s.heap.size)) (Value.ref h0 :: []).toArray s 72 1386 (iA h0 s.heap.size)) (F0 m 51 ls []) := by
    intro r
    induction r with
    | zero =>
      intro i hi H locs ad ce x2 hx2 ha h7 hP hD hS ls hl
      refine lv_iload_n hx hb dX7_init_51 rfl (lv_at hl 1 rfl) ?_
      refine z_bi hx hb dX7_init_52 (by decide) (fun v52 h52 => ?_)
      refine z_icmp_ge (tgt := 76) hx hb dX7_init_54 (by decide) (fun c54 => ?_) (fun c54 => ?_)
      · skip
        have hi6 : i = 6 := by omega
        subst hi6
        exact i_ret (k := 72) hx hb hr hlocks hP hD ha hS dX7_init_76 (by decide) (by decide) h7
      · skip
        exfalso; omega
    | succ r ih =>
      intro i hi H locs ad ce x2 hx2 ha h7 hP hD hS ls hl
      obtain ⟨e0, F1, F2, F3, ⟨f, e54, hf⟩, F5⟩ := h7
      refine lv_iload_n hx hb dX7_init_51 rfl (lv_at hl 1 rfl) ?_
      refine z_bi hx hb dX7_init_52 (by decide) (fun v52 h52 => ?_)
      refine z_icmp_ge (tgt := 76) hx hb dX7_init_54 (by decide) (fun c54 => ?_) (fun c54 => ?_)
      · skip
        exfalso; omega
      · skip
        refine lv_aload_n hx hb dX7_init_57 rfl (lv_at hl 0 rfl) ?_
        refine y_get (ci := 7) (C := RX7) (T := TX7) (N := 6) hx hb hts inX7 hown hK hP 0 (by omega) ha e0 rfl 3 (by decide) (hts (.fieldLink RX7 34 "GroundKeeper" "walkers" "[LGroundKeeper$Walker;") (List.mem_cons_of_mem _ mw_184)) (fun _ h => h) rfl dX7_init_58 ?_
        refine lv_iload_n hx hb dX7_init_61 rfl (lv_at hl 1 rfl) ?_
        refine y_new (ci := 6) (C := RX6) (T := TX6) (N := 8) (fs := [.null, .int 0, .int 0, .int 0, .int 0, .int 0, .int 0, .int 0]) hx hb hts inX6 tyX6 tyX6_ok hown (hts (.classLink RX7 32 RX6) (List.mem_cons_of_mem _ mw_523)) (hts (.instantiable RX6 8) (List.mem_cons_of_mem _ mw_524)) (hts (.initialized RX6) (List.mem_cons_of_mem _ mw_196)) hK hP hD hS hA rfl (fun j hj => by rcases (show j = 0 ∨ j = 1 ∨ j = 2 ∨ j = 3 ∨ j = 4 ∨ j = 5 ∨ j = 6 ∨ j = 7 by omega) with rfl | rfl | rfl | rfl | rfl | rfl | rfl | rfl <;> rfl) (by show 54 + 3 * i + 1 ≤ 72; omega) (by show 762 + 104 * i + 8 ≤ 1386; omega) dX7_init_62 (fun q62 H ad2 ce2 haq had heq hce hP hD hS => ?_)
        refine lv_dup hx hb dX7_init_65 rfl ?_
        refine i_after (q0 := 55 + 3 * i) (m1 := 2) (mc := 2) (ms := 96) (i_rI (As := []) (rest := [.ref q62, .int x2, .ref (ad 54)]) ⟨hx, hb, hml, hown, hts⟩ (c_X6_init l D cy H.size (ad2 (55 + 3 * i))) (cwI 0 hts (g_C mw_538) rfl rfl rfl (hts (.initialized RX6) (List.mem_cons_of_mem _ mw_196)) (hts (.methodLink RX7 38 yX6_init) (List.mem_cons_of_mem _ mw_525)) (hts (.instanceMethod yX6_init) (List.mem_cons_of_mem _ mw_526)) rfl (by decide +kernel) ⟨Nat.le_of_ble_eq_true rfl, Nat.le_of_ble_eq_true rfl⟩) hK hN hX hP (by omega) heq rfl hl.1 (by rw [haq]; rfl) (Nat.le_of_ble_eq_true rfl) dX7_init_66 ⟨by show 54 + 3 * i + 1 + 2 ≤ 72; omega, by show 762 + 104 * i + 8 + 96 ≤ 1386; omega⟩) (by omega) hP hD hS hA (fun ad3 ce3 H locs adc cec hp hc0 had3 hce3 heq3 hadn hcen hP hD hS => ?_)
        have hA3 : ∀ j, j < 55 + 3 * i → ad3 j = ad j := fun j hj => (had3 j (by omega)).trans (had j hj)
        have hC3 : ∀ j, j < 55 + 3 * i → ce3 j = ce j := fun j hj => (hce3 j (by omega) (by omega)).trans (hce j hj)
        have ha3 := (hA3 0 (by omega)).trans ha
        have aq : ad3 (55 + 3 * i) = q62 := (had3 _ (by omega)).trans haq
        have G : p6 cy (fun t => ad3 (55 + 3 * i + t)) (fun t => ce3 (55 + 3 * i + t)) := by
          refine p6_tr hp (fun t ht => ?_) (fun t ht => ?_)
          · rcases Nat.eq_zero_or_pos t with rfl | h
            · exact (had3 (55 + 3 * i) (by omega)).trans hc0.symm
            · have := hadn (t - 1) (by omega)
              rw [show 55 + 3 * i + 1 + (t - 1) = 55 + 3 * i + t by omega, show t - 1 + 1 = t by omega] at this
              exact this
          · rcases Nat.eq_zero_or_pos t with rfl | h
            · exact heq3
            · have := hcen (t - 1) (by omega)
              rw [show 55 + 3 * i + 1 + (t - 1) = 55 + 3 * i + t by omega, show t - 1 + 1 = t by omega] at this
              exact this
        have e543 := (hC3 54 (by omega)).trans e54
        refine y_astq hx hb hK hP hD hS 54 3 (55 + 3 * i) 6 (by omega) (by omega) (hA3 54 (by omega)) aq e543 rfl G.1 rfl (by omega) dX7_init_69 (fun ce4 H locs j hj h1 hne hP hD hS => ?_)
        have ej : j = i := by omega
        subst ej
        have hC4 : ∀ t, t < 55 + 3 * j → t ≠ 54 → ce4 t = ce t := fun t ht hn => (hne t hn).trans (hC3 t ht)
        refine z_iinc (lv' := fun w0 => [(2, .int w0), (0, .ref h0)]) hx hb dX7_init_70 hl (k := 1) rfl (by decide) (fun _ => rfl) (by decide) (by omega) (fun v70 ls h70 hl => ?_)
        refine lv_goto (tgt := 51) hx hb dX7_init_73 (by decide) ?_
        refine W.widen (k := 54 + 3 * (j + 1)) (n := 762 + 104 * (j + 1)) (by omega) (by omega) ?_
        refine ih (j + 1) (by omega) _ _ ad3 ce4 v70 (by omega) ha3 ⟨?_, p3_tr F1 (fun t ht => hA3 (1 + t) (by omega)) (fun t ht => hC4 (1 + t) (by omega) (by omega)), ?_, p5_tr F3 (fun t ht => hA3 (52 + t) (by omega)) (fun t ht => hC4 (52 + t) (by omega) (by omega)), ⟨_, h1, fun t ht => ?_⟩, fun t ht => ?_⟩ (by rw [show 55 + 3 * (j + 1) = 55 + 3 * j + 1 + 2 by omega]; exact hP) (by rw [show 55 + 3 * (j + 1) = 55 + 3 * j + 1 + 2 by omega]; exact hD) hS _ (lv_sub hl [1, 0] rfl)
        · rw [hC4 0 (by omega) (by omega), e0, hA3 1 (by omega), hA3 46 (by omega), hA3 52 (by omega), hA3 54 (by omega)]
        · rw [hA3 1 (by omega)]
          exact p2_tr F2 (fun t ht => hA3 (46 + t) (by omega)) (fun t ht => hC4 (46 + t) (by omega) (by omega))
        · by_cases e : t = j
          · subst e
            rw [va_up_eq, aq]
          · rw [va_up_ne _ _ e, hA3 _ (by omega)]
            exact hf t (by omega)
        · by_cases e : t = j
          · subst e
            exact p6_tr G (fun u hu => rfl) (fun u hu => hne _ (by omega))
          · exact p6_tr (F5 t (by omega)) (fun u hu => hA3 _ (by omega)) (fun u hu => hC4 _ (by omega) (by omega))
  have hl : lv_has ls 3 [(0, .ref h0)] := hl
  refine lv_aload_n hx hb dX7_init_0 rfl (lv_at hl 0 rfl) ?_
  refine W.objInit hx hb hown (hts (.methodLink RX7 3 objectInit) (List.mem_cons_of_mem _ mw_527)) (hts (.instanceMethod objectInit) (List.mem_cons_of_mem _ mw_493)) (hts (.code objectInit ⟨#[0xb1]⟩ 1 none) (List.mem_cons_of_mem _ mw_494)) rfl (by rw [hml]; exact hl.1) rfl dX7_init_1 (Nat.le_of_ble_eq_true rfl) (Nat.le_of_ble_eq_true rfl) ?_
  refine W.eq (g2 := F0 m 4 ls []) rfl ?_
  refine y_new (ci := 3) (C := RX3) (T := TX3) (N := 9) (fs := [.null, .null, .null, .null, .null, .null, .null, .int 0, .null]) hx hb hts inX3 tyX3 tyX3_ok hown (hts (.classLink RX7 9 RX3) (List.mem_cons_of_mem _ mw_528)) (hts (.instantiable RX3 9) (List.mem_cons_of_mem _ mw_529)) (hts (.initialized RX3) (List.mem_cons_of_mem _ mw_84)) hK hP hD hS hA rfl (fun j hj => by rcases (show j = 0 ∨ j = 1 ∨ j = 2 ∨ j = 3 ∨ j = 4 ∨ j = 5 ∨ j = 6 ∨ j = 7 ∨ j = 8 by omega) with rfl | rfl | rfl | rfl | rfl | rfl | rfl | rfl | rfl <;> rfl) (by decide) (by decide) dX7_init_4 (fun q4 H ad ce haq had heq hce hP hD hS => ?_)
  have ha := (had 0 (by decide)).trans ha
  have e0 := (hce 0 (by decide)).trans e0
  refine lv_dup hx hb dX7_init_7 rfl ?_
  refine i_after (q0 := 1) (m1 := 44) (mc := 44) (ms := 260) (i_rI (As := []) (rest := [.ref q4]) ⟨hx, hb, hml, hown, hts⟩ (c_X3_init l D cy H.size (ad 1)) (cwI 0 hts (g_C mw_539) rfl rfl rfl (hts (.initialized RX3) (List.mem_cons_of_mem _ mw_84)) (hts (.methodLink RX7 11 yX3_init) (List.mem_cons_of_mem _ mw_530)) (hts (.instanceMethod yX3_init) (List.mem_cons_of_mem _ mw_531)) rfl (by decide +kernel) ⟨Nat.le_of_ble_eq_true rfl, Nat.le_of_ble_eq_true rfl⟩) hK hN hX hP (by decide) heq rfl hl.1 (by rw [haq]; rfl) (Nat.le_of_ble_eq_true rfl) dX7_init_8 ⟨by decide, by decide⟩) (by decide) hP hD hS hA (fun ad ce H locs adc cec hp hc0 had3 hce3 heq3 hadn hcen hP hD hS => ?_)
  have ha := (had3 0 (by decide)).trans ha
  have e0 := (hce3 0 (by decide) (by decide)).trans e0
  have a1 := (had3 1 (by decide)).trans haq
  have F1 : p3 cy (fun t => ad (1 + t)) (fun t => ce (1 + t)) := by
    refine p3_tr hp (fun i hi => ?_) (fun i hi => ?_)
    · rcases Nat.eq_zero_or_pos i with rfl | h
      · exact (had3 1 (by decide)).trans hc0.symm
      · have := hadn (i - 1) (by omega)
        rw [show 2 + (i - 1) = 1 + i by omega, show i - 1 + 1 = i by omega] at this
        exact this
    · rcases Nat.eq_zero_or_pos i with rfl | h
      · exact heq3
      · have := hcen (i - 1) (by omega)
        rw [show 2 + (i - 1) = 1 + i by omega, show i - 1 + 1 = i by omega] at this
        exact this
  refine lv_astore_n (lv' := [(1, .ref q4), (0, .ref h0)]) hx hb dX7_init_11 rfl hl (by decide) rfl (fun ls hl => ?_)
  refine lv_aload_n hx hb dX7_init_12 rfl (lv_at hl 1 rfl) ?_
  refine lv_aload_n hx hb dX7_init_13 rfl (lv_at hl 0 rfl) ?_
  refine y_putF (ci := 7) (C := RX7) (T := TX7) (N := 6) hx hb hts inX7 tyX7 tyX7_ok nmX7 hown hK hP hD hS 0 (by decide) ha e0 rfl 0 (by decide) (hts (.fieldLink RX7 12 "GroundKeeper" "ground" "LGroundKeeper$Ground;") (List.mem_cons_of_mem _ mw_188)) (fun _ h => h) rfl hin rfl (ty := (.object "GroundKeeper$Ground")) (by decide +kernel) rfl rfl (Nat.le_of_ble_eq_true rfl) (fs1 := [.ref q4, .null, .null, .null, .int 0, .int 0]) rfl dX7_init_14 (fun ce H locs h0e hne hP hD hS => ?_)
  have F1 := p3_tr F1 (fun i hi => rfl) (fun i hi => hne (1 + i) (by omega))
  have e0 := h0e
  refine lv_aload_n hx hb dX7_init_17 rfl (lv_at hl 1 rfl) ?_
  refine y_new (ci := 2) (C := RX2) (T := TX2) (N := 9) (fs := [.null, .null, .null, .null, .null, .int 0, .int 0, .null, .int 0]) hx hb hts inX2 tyX2 tyX2_ok hown (hts (.classLink RX7 16 RX2) (List.mem_cons_of_mem _ mw_532)) (hts (.instantiable RX2 9) (List.mem_cons_of_mem _ mw_533)) (hts (.initialized RX2) (List.mem_cons_of_mem _ mw_146)) hK hP hD hS hA rfl (fun j hj => by rcases (show j = 0 ∨ j = 1 ∨ j = 2 ∨ j = 3 ∨ j = 4 ∨ j = 5 ∨ j = 6 ∨ j = 7 ∨ j = 8 by omega) with rfl | rfl | rfl | rfl | rfl | rfl | rfl | rfl | rfl <;> rfl) (by decide) (by decide) dX7_init_18 (fun q18 H ad2 ce2 haq had heq hce hP hD hS => ?_)
  have F1 := p3_tr F1 (fun i hi => had (1 + i) (by omega)) (fun i hi => hce (1 + i) (by omega))
  have ha := (had 0 (by decide)).trans ha
  have e0 := (hce 0 (by decide)).trans e0
  have a1 := (had 1 (by decide)).trans a1
  refine lv_dup hx hb dX7_init_21 rfl ?_
  refine lv_aload_n hx hb dX7_init_22 rfl (lv_at hl 0 rfl) ?_
  refine i_after (q0 := 46) (m1 := 5) (mc := 5) (ms := 382) (i_rI (As := [.ref q4]) (rest := [.ref q18, .ref h0]) ⟨hx, hb, hml, hown, hts⟩ (c_X2_init l D cy H.size (ad2 46) q4) (cwI 1 hts (g_C mw_540) rfl rfl rfl (hts (.initialized RX2) (List.mem_cons_of_mem _ mw_146)) (hts (.methodLink RX7 18 yX2_init) (List.mem_cons_of_mem _ mw_534)) (hts (.instanceMethod yX2_init) (List.mem_cons_of_mem _ mw_535)) rfl (by decide +kernel) ⟨Nat.le_of_ble_eq_true rfl, Nat.le_of_ble_eq_true rfl⟩) hK hN hX hP (by decide) heq rfl hl.1 (by rw [haq]; rfl) (Nat.le_of_ble_eq_true rfl) dX7_init_23 ⟨by decide, by decide⟩) (by decide) hP hD hS hA (fun ad ce H locs adc cec hp hc0 had3 hce3 heq3 hadn hcen hP hD hS => ?_)
  have F1 := p3_tr F1 (fun i hi => had3 (1 + i) (by omega)) (fun i hi => hce3 (1 + i) (by omega) (by omega))
  have ha := (had3 0 (by decide)).trans ha
  have e0 := (hce3 0 (by decide) (by decide)).trans e0
  have a1 := (had3 1 (by decide)).trans a1
  have a46 := (had3 46 (by decide)).trans haq
  have F2 : p2 cy q4 (fun t => ad (46 + t)) (fun t => ce (46 + t)) := by
    refine p2_tr hp (fun i hi => ?_) (fun i hi => ?_)
    · rcases Nat.eq_zero_or_pos i with rfl | h
      · exact (had3 46 (by omega)).trans hc0.symm
      · have := hadn (i - 1) (by omega)
        rw [show 46 + 1 + (i - 1) = 46 + i by omega, show i - 1 + 1 = i by omega] at this
        exact this
    · rcases Nat.eq_zero_or_pos i with rfl | h
      · exact heq3
      · have := hcen (i - 1) (by omega)
        rw [show 46 + 1 + (i - 1) = 46 + i by omega, show i - 1 + 1 = i by omega] at this
        exact this
  refine y_putF (ci := 7) (C := RX7) (T := TX7) (N := 6) hx hb hts inX7 tyX7 tyX7_ok nmX7 hown hK hP hD hS 0 (by decide) ha e0 rfl 1 (by decide) (hts (.fieldLink RX7 21 "GroundKeeper" "finder" "LGroundKeeper$Finder;") (List.mem_cons_of_mem _ mw_187)) (fun _ h => h) rfl hin rfl (ty := (.object "GroundKeeper$Finder")) (by decide +kernel) rfl rfl (Nat.le_of_ble_eq_true rfl) (fs1 := [.ref q4, .ref q18, .null, .null, .int 0, .int 0]) rfl dX7_init_26 (fun ce H locs h0e hne hP hD hS => ?_)
  have F1 := p3_tr F1 (fun i hi => rfl) (fun i hi => hne (1 + i) (by omega))
  have F2 := p2_tr F2 (fun i hi => rfl) (fun i hi => hne (46 + i) (by omega))
  have e0 := h0e
  refine lv_aload_n hx hb dX7_init_29 rfl (lv_at hl 1 rfl) ?_
  refine y_new (ci := 5) (C := RX5) (T := TX5) (N := 2) (fs := [.null, .int 0]) hx hb hts inX5 tyX5 tyX5_ok hown (hts (.classLink RX7 25 RX5) (List.mem_cons_of_mem _ mw_536)) (hts (.instantiable RX5 2) (List.mem_cons_of_mem _ mw_501)) (hts (.initialized RX5) (List.mem_cons_of_mem _ mw_502)) hK hP hD hS hA rfl (fun j hj => by rcases (show j = 0 ∨ j = 1 by omega) with rfl | rfl <;> rfl) (by decide) (by decide) dX7_init_30 (fun q30 H ad2 ce2 haq had heq hce hP hD hS => ?_)
  have F1 := p3_tr F1 (fun i hi => had (1 + i) (by omega)) (fun i hi => hce (1 + i) (by omega))
  have F2 := p2_tr F2 (fun i hi => had (46 + i) (by omega)) (fun i hi => hce (46 + i) (by omega))
  have ha := (had 0 (by decide)).trans ha
  have e0 := (hce 0 (by decide)).trans e0
  have a1 := (had 1 (by decide)).trans a1
  have a46 := (had 46 (by decide)).trans a46
  refine lv_dup hx hb dX7_init_33 rfl ?_
  refine i_after (q0 := 52) (m1 := 1) (mc := 1) (ms := 94) (i_rI (As := []) (rest := [.ref q30, .ref h0]) ⟨hx, hb, hml, hown, hts⟩ (c_X5_init l D cy H.size (ad2 52)) (cwI 0 hts (g_C mw_509) rfl rfl rfl (hts (.initialized RX5) (List.mem_cons_of_mem _ mw_502)) (hts (.methodLink RX7 27 yX5_init) (List.mem_cons_of_mem _ mw_537)) (hts (.instanceMethod yX5_init) (List.mem_cons_of_mem _ mw_504)) rfl (by decide +kernel) ⟨Nat.le_of_ble_eq_true rfl, Nat.le_of_ble_eq_true rfl⟩) hK hN hX hP (by decide) heq rfl hl.1 (by rw [haq]; rfl) (Nat.le_of_ble_eq_true rfl) dX7_init_34 ⟨by decide, by decide⟩) (by decide) hP hD hS hA (fun ad ce H locs adc cec hp hc0 had3 hce3 heq3 hadn hcen hP hD hS => ?_)
  have F1 := p3_tr F1 (fun i hi => had3 (1 + i) (by omega)) (fun i hi => hce3 (1 + i) (by omega) (by omega))
  have F2 := p2_tr F2 (fun i hi => had3 (46 + i) (by omega)) (fun i hi => hce3 (46 + i) (by omega) (by omega))
  have ha := (had3 0 (by decide)).trans ha
  have e0 := (hce3 0 (by decide) (by decide)).trans e0
  have a1 := (had3 1 (by decide)).trans a1
  have a46 := (had3 46 (by decide)).trans a46
  have a52 := (had3 52 (by decide)).trans haq
  have F3 : p5 cy (fun t => ad (52 + t)) (fun t => ce (52 + t)) := by
    refine p5_tr hp (fun i hi => ?_) (fun i hi => ?_)
    · rcases Nat.eq_zero_or_pos i with rfl | h
      · exact (had3 52 (by omega)).trans hc0.symm
      · have := hadn (i - 1) (by omega)
        rw [show 52 + 1 + (i - 1) = 52 + i by omega, show i - 1 + 1 = i by omega] at this
        exact this
    · rcases Nat.eq_zero_or_pos i with rfl | h
      · exact heq3
      · have := hcen (i - 1) (by omega)
        rw [show 52 + 1 + (i - 1) = 52 + i by omega, show i - 1 + 1 = i by omega] at this
        exact this
  refine y_putF (ci := 7) (C := RX7) (T := TX7) (N := 6) hx hb hts inX7 tyX7 tyX7_ok nmX7 hown hK hP hD hS 0 (by decide) ha e0 rfl 2 (by decide) (hts (.fieldLink RX7 28 "GroundKeeper" "latestWay" "LGroundKeeper$Row;") (List.mem_cons_of_mem _ mw_251)) (fun _ h => h) rfl hin rfl (ty := (.object "GroundKeeper$Row")) (by decide +kernel) rfl rfl (Nat.le_of_ble_eq_true rfl) (fs1 := [.ref q4, .ref q18, .ref q30, .null, .int 0, .int 0]) rfl dX7_init_37 (fun ce H locs h0e hne hP hD hS => ?_)
  have F1 := p3_tr F1 (fun i hi => rfl) (fun i hi => hne (1 + i) (by omega))
  have F2 := p2_tr F2 (fun i hi => rfl) (fun i hi => hne (46 + i) (by omega))
  have F3 := p5_tr F3 (fun i hi => rfl) (fun i hi => hne (52 + i) (by omega))
  have e0 := h0e
  refine lv_aload_n hx hb dX7_init_40 rfl (lv_at hl 1 rfl) ?_
  refine z_bi hx hb dX7_init_41 (by decide) (fun v41 h41 => ?_)
  refine y_newQ hx hb hown (hts (.classLink RX7 32 RX6) (List.mem_cons_of_mem _ mw_523)) hX.2 hK 3 rfl hP hD hS hA 6 (by omega) (by decide) (by decide) (by decide) dX7_init_43 (fun q43 H ad ce haq had heq hce hP hD hS => ?_)
  have F1 := p3_tr F1 (fun i hi => had (1 + i) (by omega)) (fun i hi => hce (1 + i) (by omega))
  have F2 := p2_tr F2 (fun i hi => had (46 + i) (by omega)) (fun i hi => hce (46 + i) (by omega))
  have F3 := p5_tr F3 (fun i hi => had (52 + i) (by omega)) (fun i hi => hce (52 + i) (by omega))
  have ha := (had 0 (by decide)).trans ha
  have e0 := (hce 0 (by decide)).trans e0
  have a1 := (had 1 (by decide)).trans a1
  have a46 := (had 46 (by decide)).trans a46
  have a52 := (had 52 (by decide)).trans a52
  refine y_putF (ci := 7) (C := RX7) (T := TX7) (N := 6) hx hb hts inX7 tyX7 tyX7_ok nmX7 hown hK hP hD hS 0 (by decide) ha e0 rfl 3 (by decide) (hts (.fieldLink RX7 34 "GroundKeeper" "walkers" "[LGroundKeeper$Walker;") (List.mem_cons_of_mem _ mw_184)) (fun _ h => h) rfl hin rfl (ty := (.array (.object "GroundKeeper$Walker"))) (by decide +kernel) rfl rfl (Nat.le_of_ble_eq_true rfl) (fs1 := [.ref q4, .ref q18, .ref q30, .ref q43, .int 0, .int 0]) rfl dX7_init_46 (fun ce H locs h0e hne hP hD hS => ?_)
  have F1 := p3_tr F1 (fun i hi => rfl) (fun i hi => hne (1 + i) (by omega))
  have F2 := p2_tr F2 (fun i hi => rfl) (fun i hi => hne (46 + i) (by omega))
  have F3 := p5_tr F3 (fun i hi => rfl) (fun i hi => hne (52 + i) (by omega))
  have e54 := (hne 54 (by decide)).trans heq
  refine z_ic hx hb dX7_init_49 (by decide) (fun v49 h49 => ?_)
  refine lv_istore_n (lv' := [(2, .int v49), (1, .ref q4), (0, .ref h0)]) hx hb dX7_init_50 rfl hl (by decide) rfl (fun ls hl => ?_)
  refine W.widen (k := 54 + 3 * 0) (n := 762 + 104 * 0) (by decide) (by decide) ?_
  exact L 6 0 (by omega) _ _ ad ce v49 (by omega) ha ⟨by rw [h0e, ← a1, ← a46, ← a52, ← haq], F1, by rw [a1]; exact F2, F3, ⟨_, e54, fun j hj => by omega⟩, fun j hj => by omega⟩ hP hD hS _ (lv_sub hl [2, 0] rfl)
