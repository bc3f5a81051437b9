
def I0 : va_E := .inr (0, [.int 0, .int 0, .int 0, .int 0, .int 0, .int 0])
def iI (cy : Nat → ClassId) (n : Nat) : va_E := .inl (cy 0, n, .inl (fun _ => 0))
def iZ (cy : Nat → ClassId) (n : Nat) : va_E := .inl (cy 1, n, .inl (fun _ => 0))
/-- Areas at k, their row at b, the areas behind it -/
def arO (cy : Nat → ClassId) (ad : Nat → Nat) (ce : Nat → va_E) (k b N : Nat) : Prop := ce k = .inr (1, [.ref (ad b), .int 0]) ∧ (∃ f : Nat → Option Nat, ce b = .inl (cy 2, N, .inr (.inr (.inr (.inr f)))) ∧ ∀ i : Nat, i < N → f i = some (ad (b + 1 + i))) ∧ ∀ i : Nat, i < N → ce (b + 1 + i) = I0
theorem arO_tr {cy : Nat → ClassId} {ad ad1 : Nat → Nat} {ce ce1 : Nat → va_E} {k b N : Nat} (h : arO cy ad ce k b N) (ha : ∀ j, (j = k ∨ (b ≤ j ∧ j ≤ b + N)) → ad1 j = ad j) (hc : ∀ j, (j = k ∨ (b ≤ j ∧ j ≤ b + N)) → True → ce1 j = ce j) : arO cy ad1 ce1 k b N := by
  obtain ⟨h1, ⟨f, h2, h3⟩, h4⟩ := h
  refine ⟨?_, ⟨f, ?_, fun i hi => ?_⟩, fun i hi => ?_⟩
  · rw [hc k (Or.inl rfl) trivial, ha b (Or.inr (by omega))]; exact h1
  · rw [hc b (Or.inr (by omega)) trivial]; exact h2
  · rw [ha _ (Or.inr (by omega))]; exact h3 i hi
  · rw [hc _ (Or.inr (by omega)) trivial]; exact h4 i hi
def p2 (cy : Nat → ClassId) (g : Nat) (ad : Nat → Nat) (ce : Nat → va_E) : Prop := ce 0 = .inr (2, [.ref g, .ref (ad 1), .ref (ad 2), .ref (ad 3), .ref (ad 4), .int 0, .int 0, .ref (ad 5), .int 0]) ∧ ce 1 = iI cy 94 ∧ ce 2 = iI cy 94 ∧ ce 3 = iI cy 94 ∧ ce 4 = iZ cy 94 ∧ ce 5 = iI cy 6
def p5 (cy : Nat → ClassId) (ad : Nat → Nat) (ce : Nat → va_E) : Prop := ce 0 = .inr (5, [.ref (ad 1), .int 0]) ∧ ce 1 = iI cy 94
def p6 (cy : Nat → ClassId) (ad : Nat → Nat) (ce : Nat → va_E) : Prop := ce 0 = .inr (6, [.ref (ad 1), .int 0, .int 0, .int 0, .int 0, .int 0, .int 0, .int 0]) ∧ ce 1 = .inr (5, [.ref (ad 2), .int 0]) ∧ ce 2 = iI cy 94
theorem p2_tr {cy : Nat → ClassId} {g : Nat} {ad ad1 : Nat → Nat} {ce ce1 : Nat → va_E} (h : p2 cy g ad ce) (ha : ∀ i, i ≤ 5 → ad1 i = ad i) (hc : ∀ i, i ≤ 5 → ce1 i = ce i) : p2 cy g ad1 ce1 := by
  unfold p2 at h ⊢
  rw [hc 0 (by omega), hc 1 (by omega), hc 2 (by omega), hc 3 (by omega), hc 4 (by omega), hc 5 (by omega), ha 1 (by omega), ha 2 (by omega), ha 3 (by omega), ha 4 (by omega), ha 5 (by omega)]
  exact h
theorem p5_tr {cy : Nat → ClassId} {ad ad1 : Nat → Nat} {ce ce1 : Nat → va_E} (h : p5 cy ad ce) (ha : ∀ i, i ≤ 1 → ad1 i = ad i) (hc : ∀ i, i ≤ 1 → ce1 i = ce i) : p5 cy ad1 ce1 := by
  unfold p5 at h ⊢
  rw [hc 0 (by omega), hc 1 (by omega), ha 1 (by omega)]
  exact h
theorem p6_tr {cy : Nat → ClassId} {ad ad1 : Nat → Nat} {ce ce1 : Nat → va_E} (h : p6 cy ad ce) (ha : ∀ i, i ≤ 2 → ad1 i = ad i) (hc : ∀ i, i ≤ 2 → ce1 i = ce i) : p6 cy ad1 ce1 := by
  unfold p6 at h ⊢
  rw [hc 0 (by omega), hc 1 (by omega), hc 2 (by omega), ha 1 (by omega), ha 2 (by omega)]
  exact h
set_option maxHeartbeats 8000000 in
set_option maxRecDepth 100000 in
theorem c_X0_init (l : Launch) (D : va_G) (cy : Nat → ClassId) (sz h0 : Nat) (e9 : va_E) : iM l D cy yX0_init vsX0_init { frames := 1, cells := 0, slots := 0, locals := 12 } (0) (0) (0) sz h0 (e9) [] (fun u => u.2 0 = e9) := by
  refine i_of (cc := cX0_init) (maxL := 1) (by decide) rfl rfl (Nat.le_of_ble_eq_true rfl) ?_
  intro p e s m below meth c hx hb hr hts hown hlocks hml hin hK hN hX hsz ad ce ha e0 h0l hP hD hS hA ls hl
  have hown : s.vm.findClass RX0 = some m.cls := hown
  have hl : lv_has ls 1 [(0, .ref h0)] := hl
  refine lv_aload_n hx hb dX0_init_0 rfl (lv_at hl 0 rfl) ?_
  refine W.objInit hx hb hown (hts (.methodLink RX0 1 objectInit) (List.mem_cons_of_mem _ mw_492)) (hts (.instanceMethod objectInit) (List.mem_cons_of_mem _ mw_493)) (hts (.code objectInit ⟨#[0xb1]⟩ 1 none) (List.mem_cons_of_mem _ mw_494)) rfl (by rw [hml]; exact hl.1) rfl dX0_init_1 (Nat.le_of_ble_eq_true rfl) (Nat.le_of_ble_eq_true rfl) ?_
  refine W.eq (g2 := F0 m 4 ls []) rfl ?_
  exact i_ret hx hb hr hlocks hP hD ha hS dX0_init_4 (Nat.le_refl _) (Nat.le_refl _) e0
set_option maxHeartbeats 8000000 in
set_option maxRecDepth 100000 in
theorem c_X4_init (l : Launch) (D : va_G) (cy : Nat → ClassId) (sz h0 : Nat) (e9 : va_E) : iM l D cy yX4_init vsX4_init { frames := 1, cells := 0, slots := 0, locals := 12 } (0) (0) (0) sz h0 (e9) [] (fun u => u.2 0 = e9) := by
  refine i_of (cc := cX4_init) (maxL := 1) (by decide) rfl rfl (Nat.le_of_ble_eq_true rfl) ?_
  intro p e s m below meth c hx hb hr hts hown hlocks hml hin hK hN hX hsz ad ce ha e0 h0l hP hD hS hA ls hl
  have hown : s.vm.findClass RX4 = some m.cls := hown
  have hl : lv_has ls 1 [(0, .ref h0)] := hl
  refine lv_aload_n hx hb dX4_init_0 rfl (lv_at hl 0 rfl) ?_
  refine W.objInit hx hb hown (hts (.methodLink RX4 1 objectInit) (List.mem_cons_of_mem _ mw_495)) (hts (.instanceMethod objectInit) (List.mem_cons_of_mem _ mw_493)) (hts (.code objectInit ⟨#[0xb1]⟩ 1 none) (List.mem_cons_of_mem _ mw_494)) rfl (by rw [hml]; exact hl.1) rfl dX4_init_1 (Nat.le_of_ble_eq_true rfl) (Nat.le_of_ble_eq_true rfl) ?_
  refine W.eq (g2 := F0 m 4 ls []) rfl ?_
  exact i_ret hx hb hr hlocks hP hD ha hS dX4_init_4 (Nat.le_refl _) (Nat.le_refl _) e0
set_option maxHeartbeats 8000000 in
set_option maxRecDepth 100000 in
theorem c_X5_init (l : Launch) (D : va_G) (cy : Nat → ClassId) (sz h0 : Nat) : iM l D cy yX5_init vsX5_init { frames := 1, cells := 1, slots := 94, locals := 12 } (1) (94) (1) sz h0 (.inr (5, [.null, .int 0])) [] (fun u => p5 cy u.1 u.2) := by
  refine i_of (cc := cX5_init) (maxL := 1) (by decide) rfl rfl (Nat.le_of_ble_eq_true rfl) ?_
  intro p e s m below meth c hx hb hr hts hown hlocks hml hin hK hN hX hsz ad ce ha e0 h0l hP hD hS hA ls hl
  have hown : s.vm.findClass RX5 = some m.cls := hown
  have inX5 : ∀ w ∈ u_ws RX5 TX5 2, w ∈ vsX5_init := fun w h => List.mem_cons_of_mem _ (inlX5 w h)
  have fl9 := hts (.fieldLink RX5 9 "GroundKeeper$Row" "places" "[I") (List.mem_cons_of_mem _ mw_496)
  have hl : lv_has ls 1 [(0, .ref h0)] := hl
  refine lv_aload_n hx hb dX5_init_0 rfl (lv_at hl 0 rfl) ?_
  refine W.objInit hx hb hown (hts (.methodLink RX5 3 objectInit) (List.mem_cons_of_mem _ mw_497)) (hts (.instanceMethod objectInit) (List.mem_cons_of_mem _ mw_493)) (hts (.code objectInit ⟨#[0xb1]⟩ 1 none) (List.mem_cons_of_mem _ mw_494)) rfl (by rw [hml]; exact hl.1) rfl dX5_init_1 (Nat.le_of_ble_eq_true rfl) (Nat.le_of_ble_eq_true rfl) ?_
  refine W.eq (g2 := F0 m 4 ls []) rfl ?_
  refine lv_aload_n hx hb dX5_init_4 rfl (lv_at hl 0 rfl) ?_
  refine z_bi hx hb dX5_init_5 (by decide) (fun v5 h5 => ?_)
  refine y_newI hx hb (hts (.arrayClass .int) (List.mem_cons_of_mem _ mw_498)) hK 0 rfl hP hD hS hA 94 (by omega) (by decide) (by decide) (by decide) dX5_init_7 (fun q7 H ad ce haq had heq hce hP hD hS => ?_)
  have ha := (had 0 (by decide)).trans ha
  have e0 := (hce 0 (by decide)).trans e0
  have a1 := haq
  have e1 := heq
  refine y_putF (ci := 5) (C := RX5) (T := TX5) (N := 2) hx hb hts inX5 tyX5 tyX5_ok nmX5 hown hK hP hD hS 0 (by decide) ha e0 rfl 0 (by decide) fl9 (fun _ h => h) rfl hin rfl (ty := (.array .int)) (by decide +kernel) rfl rfl (Nat.le_of_ble_eq_true rfl) (fs1 := [.ref q7, .int 0]) rfl dX5_init_9 (fun ce H locs h0e hne hP hD hS => ?_)
  have e1 := (hne 1 (by decide)).trans e1
  have e0 := h0e
  refine i_ret (k := 1) hx hb hr hlocks hP hD ha hS dX5_init_12 (Nat.le_refl _) (Nat.le_refl _) ⟨?_, e1⟩
  show ce 0 = _
  rw [e0, ← a1]
set_option maxHeartbeats 8000000 in
set_option maxRecDepth 100000 in
theorem c_X6_init (l : Launch) (D : va_G) (cy : Nat → ClassId) (sz h0 : Nat) : iM l D cy yX6_init vsX6_init { frames := 2, cells := 2, slots := 96, locals := 32 } (2) (96) (2) sz h0 (.inr (6, [.null, .int 0, .int 0, .int 0, .int 0, .int 0, .int 0, .int 0])) [] (fun u => p6 cy u.1 u.2) := by
  refine i_of (cc := cX6_init) (maxL := 1) (by decide) rfl rfl (Nat.le_of_ble_eq_true rfl) ?_
  intro p e s m below meth c hx hb hr hts hown hlocks hml hin hK hN hX hsz ad ce ha e0 h0l hP hD hS hA ls hl
  have hown : s.vm.findClass RX6 = some m.cls := hown
  have inX5 : ∀ w ∈ u_ws RX5 TX5 2, w ∈ vsX6_init := fun w h => List.mem_cons_of_mem _ (inlX5 w h)
  have inX6 : ∀ w ∈ u_ws RX6 TX6 8, w ∈ vsX6_init := fun w h => List.mem_cons_of_mem _ (inlX6 w h)
  have fl10 := hts (.fieldLink RX6 10 "GroundKeeper$Walker" "row" "LGroundKeeper$Row;") (List.mem_cons_of_mem _ mw_176)
  have hl : lv_has ls 1 [(0, .ref h0)] := hl
  refine lv_aload_n hx hb dX6_init_0 rfl (lv_at hl 0 rfl) ?_
  refine W.objInit hx hb hown (hts (.methodLink RX6 1 objectInit) (List.mem_cons_of_mem _ mw_499)) (hts (.instanceMethod objectInit) (List.mem_cons_of_mem _ mw_493)) (hts (.code objectInit ⟨#[0xb1]⟩ 1 none) (List.mem_cons_of_mem _ mw_494)) rfl (by rw [hml]; exact hl.1) rfl dX6_init_1 (Nat.le_of_ble_eq_true rfl) (Nat.le_of_ble_eq_true rfl) ?_
  refine W.eq (g2 := F0 m 4 ls []) rfl ?_
  refine lv_aload_n hx hb dX6_init_4 rfl (lv_at hl 0 rfl) ?_
  refine y_new (ci := 5) (C := RX5) (T := TX5) (N := 2) (fs := [.null, .int 0]) hx hb hts inX5 tyX5 tyX5_ok hown (hts (.classLink RX6 7 RX5) (List.mem_cons_of_mem _ mw_500)) (hts (.instantiable RX5 2) (List.mem_cons_of_mem _ mw_501)) (hts (.initialized RX5) (List.mem_cons_of_mem _ mw_502)) hK hP hD hS hA rfl (fun j hj => by rcases (show j = 0 ∨ j = 1 by omega) with rfl | rfl <;> rfl) (by decide) (by decide) dX6_init_5 (fun q5 H ad ce haq had heq hce hP hD hS => ?_)
  have ha := (had 0 (by decide)).trans ha
  have e0 := (hce 0 (by decide)).trans e0
  have a1 := haq
  have e1 := heq
  refine lv_dup hx hb dX6_init_8 rfl ?_
  refine i_after (q0 := 1) (m1 := 1) (mc := 1) (ms := 94) (i_rI (As := []) (rest := [.ref q5, .ref h0]) ⟨hx, hb, hml, hown, hts⟩ (c_X5_init l D cy H.size (ad 1)) (cwI 0 hts (g_C mw_509) rfl rfl rfl (hts (.initialized RX5) (List.mem_cons_of_mem _ mw_502)) (hts (.methodLink RX6 9 yX5_init) (List.mem_cons_of_mem _ mw_503)) (hts (.instanceMethod yX5_init) (List.mem_cons_of_mem _ mw_504)) rfl (by decide +kernel) ⟨Nat.le_of_ble_eq_true rfl, Nat.le_of_ble_eq_true rfl⟩) hK hN hX hP (by decide) e1 rfl hl.1 (by rw [a1]; rfl) (Nat.le_of_ble_eq_true rfl) dX6_init_9 ⟨by decide, by decide⟩) (by decide) hP hD hS hA (fun ad ce H locs adc cec hp hc0 had hce heq hadn hcen hP hD hS => ?_)
  have ha := (had 0 (by decide)).trans ha
  have a1 := (had 1 (by decide)).trans a1
  have e0 := (hce 0 (by decide) (by decide)).trans e0
  have b0 : ad 2 = adc 1 := hadn 0 (by decide)
  have e1 : ce 1 = .inr (5, [.ref (ad 2), .int 0]) := by rw [b0]; exact heq.trans hp.1
  have e2 : ce 2 = iI cy 94 := (hcen 0 (by decide)).trans hp.2
  refine y_putF (ci := 6) (C := RX6) (T := TX6) (N := 8) hx hb hts inX6 tyX6 tyX6_ok nmX6 hown hK hP hD hS 0 (by decide) ha e0 rfl 0 (by decide) fl10 (fun _ h => h) rfl hin rfl (ty := (.object "GroundKeeper$Row")) (by decide +kernel) rfl rfl (Nat.le_of_ble_eq_true rfl) (fs1 := [.ref q5, .int 0, .int 0, .int 0, .int 0, .int 0, .int 0, .int 0]) rfl dX6_init_12 (fun ce H locs h0e hne hP hD hS => ?_)
  have e1 := (hne 1 (by decide)).trans e1
  have e2 := (hne 2 (by decide)).trans e2
  have e0 := h0e
  refine i_ret (k := 2) hx hb hr hlocks hP hD ha hS dX6_init_15 (Nat.le_refl _) (Nat.le_refl _) ⟨?_, e1, e2⟩
  show ce 0 = _
  rw [e0, ← a1]
set_option maxHeartbeats 8000000 in
set_option maxRecDepth 100000 in
theorem c_X1_init (l : Launch) (D : va_G) (cy : Nat → ClassId) (sz h0 : Nat) (N : Nat) (p1 : Int32) (hp1 : p1.toInt = (N : Int)) (hN12 : N ≤ 12) : iM l D cy yX1_init vsX1_init { frames := 2, cells := 1 + N, slots := N + 6 * N, locals := 32 } (1 + N) (N + 6 * N) (N + 1) sz h0 (.inr (1, [.null, .int 0])) [.int p1] (fun u => arO cy u.1 u.2 0 1 N) := by
  refine i_of (cc := cX1_init) (maxL := 3) (by decide) rfl rfl (Nat.le_of_ble_eq_true rfl) ?_
  intro p e s m below meth c hx hb hr hts hown hlocks hml hin hK hN hX hsz ad ce ha e0 h0l hP hD hS hA ls hl
  have hown : s.vm.findClass RX1 = some m.cls := hown
  have inX0 : ∀ w ∈ u_ws RX0 TX0 6, w ∈ vsX1_init := fun w h => List.mem_cons_of_mem _ (inlX0 w h)
  have inX1 : ∀ w ∈ u_ws RX1 TX1 2, w ∈ vsX1_init := fun w h => List.mem_cons_of_mem _ (inlX1 w h)
  have fla := hts (.fieldLink RX1 11 "GroundKeeper$Areas" "all" "[LGroundKeeper$Area;") (List.mem_cons_of_mem _ mw_26)
  have L : ∀ r i : Nat, i + r = N → ∀ (H : Heap) (locs : List Loc) (ad : Nat → Nat) (ce : Nat → va_E) (x2 : Int32), x2.toInt = (i : Int) → ad 0 = h0 → ce 0 = .inr (1, [.ref (ad 1), .int 0]) → (∃ f : Nat → Option Nat, ce 1 = .inl (cy 2, N, .inr (.inr (.inr (.inr f)))) ∧ ∀ j : Nat, j < i → f j = some (ad (2 + j))) → (∀ j : Nat, j < i → ce (2 + j) = I0) → va_P D vwCl (zw (2 + i) ad ce) H → va_D (iA h0 s.heap.size) (zw (2 + i) ad ce) → va_S (iA h0 s.heap.size) s.heap H locs → ∀ ls : Array Slot, lv_has ls 3 [(0, .ref h0), (2, .int x2)] → W p l e { frames := 2, cells := 1 + N, slots := N + 6 * N, locals := 32 } s m (Value.ref h0 :: [.int p1]).toArray below meth c H locs (1 + i) (N + 6 * i) (MQ below (va_Qv (fun u => arO cy u.1 u.2 0 1 N) (iW D (N + 1) s.heap.size h0) (iA h0 s.heap.size)) (Value.ref h0 :: [.int p1]).toArray s (1 + N) (N + 6 * N) (iA h0 s.heap.size)) (F0 m 22 ls []) := by
    intro r
    induction r with
    | zero =>
      intro i hi H locs ad ce x2 hx2 ha e0 hf hz hP hD hS ls hl
      obtain ⟨f, e1, hf⟩ := hf
      refine lv_iload_n hx hb dX1_init_22 rfl (lv_at hl 1 rfl) ?_
      refine lv_aload_n hx hb dX1_init_23 rfl (lv_at hl 0 rfl) ?_
      refine y_get (ci := 1) (C := RX1) (T := TX1) (N := 2) hx hb hts inX1 hown hK hP 0 (by omega) ha e0 rfl 0 (by decide) fla (fun _ h => h) rfl dX1_init_24 ?_
      refine va_alen hx hb hK hP 1 2 (zw_at (by omega) e1) rfl (v := nI N) rfl dX1_init_27 ?_
      refine lv_topi (fun v27 h27 => ?_)
      have h27 : v27.toInt = (N : Int) := by rw [h27]; exact nI_toInt (by omega)
      refine z_icmp_ge (tgt := 50) hx hb dX1_init_28 (by decide) (fun c28 => ?_) (fun c28 => ?_)
      · skip
        have hiN : i = N := by omega
        subst hiN
        refine i_ret (k := i + 1) hx hb hr hlocks (by rw [show i + 1 + 1 = 2 + i by omega]; exact hP) (by rw [show i + 1 + 1 = 2 + i by omega]; exact hD) ha hS dX1_init_50 (Nat.le_refl _) (Nat.le_refl _) ⟨e0, ⟨f, e1, fun j hj => ?_⟩, fun j hj => ?_⟩
        · exact hf j hj
        · exact hz j hj
      · skip
        exfalso; omega
    | succ r ih =>
      intro i hi H locs ad ce x2 hx2 ha e0 hf hz hP hD hS ls hl
      obtain ⟨f, e1, hf⟩ := hf
      refine lv_iload_n hx hb dX1_init_22 rfl (lv_at hl 1 rfl) ?_
      refine lv_aload_n hx hb dX1_init_23 rfl (lv_at hl 0 rfl) ?_
      refine y_get (ci := 1) (C := RX1) (T := TX1) (N := 2) hx hb hts inX1 hown hK hP 0 (by omega) ha e0 rfl 0 (by decide) fla (fun _ h => h) rfl dX1_init_24 ?_
      refine va_alen hx hb hK hP 1 2 (zw_at (by omega) e1) rfl (v := nI N) rfl dX1_init_27 ?_
      refine lv_topi (fun v27 h27 => ?_)
      have h27 : v27.toInt = (N : Int) := by rw [h27]; exact nI_toInt (by omega)
      refine z_icmp_ge (tgt := 50) hx hb dX1_init_28 (by decide) (fun c28 => ?_) (fun c28 => ?_)
      · skip
        exfalso; omega
      · skip
        refine lv_aload_n hx hb dX1_init_31 rfl (lv_at hl 0 rfl) ?_
        refine y_get (ci := 1) (C := RX1) (T := TX1) (N := 2) hx hb hts inX1 hown hK hP 0 (by omega) ha e0 rfl 0 (by decide) fla (fun _ h => h) rfl dX1_init_32 ?_
        refine lv_iload_n hx hb dX1_init_35 rfl (lv_at hl 1 rfl) ?_
        refine y_new (ci := 0) (C := RX0) (T := TX0) (N := 6) (fs := [.int 0, .int 0, .int 0, .int 0, .int 0, .int 0]) hx hb hts inX0 tyX0 tyX0_ok hown (hts (.classLink RX1 9 RX0) (List.mem_cons_of_mem _ mw_505)) (hts (.instantiable RX0 6) (List.mem_cons_of_mem _ mw_506)) (hts (.initialized RX0) (List.mem_cons_of_mem _ mw_33)) hK hP hD hS hA rfl (fun j hj => by rcases (show j = 0 ∨ j = 1 ∨ j = 2 ∨ j = 3 ∨ j = 4 ∨ j = 5 by omega) with rfl | rfl | rfl | rfl | rfl | rfl <;> rfl) (by show 1 + i + 1 ≤ 1 + N; omega) (by show N + 6 * i + 6 ≤ N + 6 * N; omega) dX1_init_36 (fun q36 H ad2 ce haq had heq hce hP hD hS => ?_)
        have ha2 := (had 0 (by omega)).trans ha
        have a1 : ad2 1 = ad 1 := had 1 (by omega)
        have e0 := (hce 0 (by omega)).trans e0
        have e1 := (hce 1 (by omega)).trans e1
        refine lv_dup hx hb dX1_init_39 rfl ?_
        refine i_after (q0 := 2 + i) (m1 := 0) (mc := 0) (ms := 0) (i_rN (As := []) (rest := [.ref q36, .int x2, .ref (ad 1)]) ⟨hx, hb, hml, hown, hts⟩ (c_X0_init l D cy H.size (ad2 (2 + i)) (.inr (0, [.int 0, .int 0, .int 0, .int 0, .int 0, .int 0]))) ⟨va_cnB 0 hts (g_C mw_510) rfl rfl rfl (hN (.methodLinkNest RX1 17 yX0_init RX7) (by simp [nwL])) (hts (.initialized RX0) (List.mem_cons_of_mem _ mw_33)) (by decide +kernel) ⟨Nat.le_of_ble_eq_true rfl, Nat.le_of_ble_eq_true rfl⟩, rfl, hts (.instanceMethod yX0_init) (List.mem_cons_of_mem _ mw_507)⟩ hK hN hX hP (by omega) heq rfl hl.1 (by rw [haq]; rfl) (Nat.le_of_ble_eq_true rfl) dX1_init_40 ⟨by show 1 + i + 1 + 0 ≤ 1 + N; omega, by show N + 6 * i + 6 + 0 ≤ N + 6 * N; omega⟩) (by omega) hP hD hS hA (fun ad3 ce3 H locs adc cec hp hc0 had3 hce3 heq3 _ _ hP hD hS => ?_)
        have ha3 := (had3 0 (by omega)).trans ha2
        have a13 : ad3 1 = ad 1 := (had3 1 (by omega)).trans a1
        have aq : ad3 (2 + i) = q36 := (had3 (2 + i) (by omega)).trans haq
        have e0 := (hce3 0 (by omega) (by omega)).trans e0
        have e1 := (hce3 1 (by omega) (by omega)).trans e1
        have eq3 : ce3 (2 + i) = I0 := heq3.trans hp
        have hz3 : ∀ j : Nat, j < i → ce3 (2 + j) = I0 := fun j hj => ((hce3 (2 + j) (by omega) (by omega)).trans (hce (2 + j) (by omega))).trans (hz j hj)
        have hf3 : ∀ j : Nat, j < i → f j = some (ad3 (2 + j)) := fun j hj => by rw [had3 (2 + j) (by omega), had (2 + j) (by omega)]; exact hf j hj
        refine y_astq hx hb hK hP hD hS 1 2 (2 + i) 0 (by omega) (by omega) a13 aq e1 rfl eq3 rfl (by omega) dX1_init_43 (fun ce4 H locs j hj h1 hne hP hD hS => ?_)
        have ej : j = i := by omega
        subst ej
        refine z_iinc (lv' := fun w0 => [(2, .int w0), (0, .ref h0)]) hx hb dX1_init_44 hl (k := 1) rfl (by decide) (fun _ => rfl) (by decide) (by omega) (fun v44 ls h44 hl => ?_)
        refine lv_goto (tgt := 22) hx hb dX1_init_47 (by decide) ?_
        refine W.widen (k := 1 + (j + 1)) (n := N + 6 * (j + 1)) (by omega) (by omega) ?_
        exact ih (j + 1) (by omega) _ _ ad3 ce4 v44 (by omega) ha3 ((hne 0 (by omega)).trans (by rw [a13]; exact e0)) ⟨_, h1, fun t ht => by
          by_cases e : t = j
          · subst e; rw [va_up_eq, aq]
          · rw [va_up_ne _ _ e]; exact hf3 t (by omega)⟩ (fun t ht => by
          by_cases e : t = j
          · subst e; rw [hne _ (by omega)]; exact eq3
          · rw [hne _ (by omega)]; exact hz3 t (by omega)) (by rw [show 2 + (j + 1) = 2 + j + 1 + 0 by omega]; exact hP) (by rw [show 2 + (j + 1) = 2 + j + 1 + 0 by omega]; exact hD) hS _ (lv_sub hl [1, 0] rfl)
  have hl : lv_has ls 3 [(0, .ref h0), (1, .int p1)] := hl
  refine lv_aload_n hx hb dX1_init_0 rfl (lv_at hl 0 rfl) ?_
  refine W.objInit hx hb hown (hts (.methodLink RX1 3 objectInit) (List.mem_cons_of_mem _ mw_508)) (hts (.instanceMethod objectInit) (List.mem_cons_of_mem _ mw_493)) (hts (.code objectInit ⟨#[0xb1]⟩ 1 none) (List.mem_cons_of_mem _ mw_494)) rfl (by rw [hml]; exact hl.1) rfl dX1_init_1 (Nat.le_of_ble_eq_true rfl) (Nat.le_of_ble_eq_true rfl) ?_
  refine W.eq (g2 := F0 m 4 ls []) rfl ?_
  refine lv_aload_n hx hb dX1_init_4 rfl (lv_at hl 0 rfl) ?_
  refine lv_iload_n hx hb dX1_init_5 rfl (lv_at hl 1 rfl) ?_
  refine z_if_ge (tgt := 13) hx hb dX1_init_6 (by decide) (fun c6 => ?_) (fun c6 => ?_)
  · skip
    refine lv_iload_n hx hb dX1_init_13 rfl (lv_at hl 1 rfl) ?_
    refine y_newQ hx hb hown (hts (.classLink RX1 9 RX0) (List.mem_cons_of_mem _ mw_505)) hX.1 hK 2 rfl hP hD hS hA N hp1 (by omega) (by show 0 + 1 ≤ 1 + N; omega) (by show 0 + N ≤ N + 6 * N; omega) dX1_init_14 (fun q14 H ad ce haq had heq hce hP hD hS => ?_)
    have ha := (had 0 (by decide)).trans ha
    have e0 := (hce 0 (by decide)).trans e0
    refine y_putF (ci := 1) (C := RX1) (T := TX1) (N := 2) hx hb hts inX1 tyX1 tyX1_ok nmX1 hown hK hP hD hS 0 (by decide) ha e0 rfl 0 (by decide) (hts (.fieldLink RX1 11 "GroundKeeper$Areas" "all" "[LGroundKeeper$Area;") (List.mem_cons_of_mem _ mw_26)) (fun _ h => h) rfl hin rfl (ty := .array (.object "GroundKeeper$Area")) (by decide +kernel) rfl rfl (Nat.le_of_ble_eq_true rfl) (fs1 := [.ref q14, .int 0]) rfl dX1_init_17 (fun ce H locs h0e hne hP hD hS => ?_)
    have e1 := (hne 1 (by decide)).trans heq
    refine z_ic hx hb dX1_init_20 (by decide) (fun v20 h20 => ?_)
    refine lv_istore_n (lv' := [(2, .int v20), (0, .ref h0), (1, .int p1)]) hx hb dX1_init_21 rfl hl (by decide) rfl (fun ls hl => ?_)
    refine W.widen (k := 1 + 0) (n := N + 6 * 0) (by omega) (by omega) ?_
    exact L N 0 (by omega) _ _ ad ce v20 (by omega) ha (by rw [haq]; exact h0e) ⟨_, e1, fun j hj => by omega⟩ (fun j hj => by omega) hP hD hS _ (lv_sub hl [1, 0] rfl)
  · skip
    exfalso; omega
