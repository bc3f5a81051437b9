set_option maxHeartbeats 8000000 in
set_option maxRecDepth 100000 in
/-- the array classes by the tables' words -/
theorem lw_arr {s : State} {b : Nat} (hts : ∀ w ∈ lw_tbl, w.before #[Value.ref b] s = true) : ∃ cy : Nat → ClassId, ∀ (k : Nat) (q : ClassId × FieldType), (gT cy)[k]? = some q → ArrOfT s q.1 q.2 ∧ va_RA s q.1 q.2 := by
  obtain ⟨ci, ki, pi1, i1, i2, i3⟩ := Cond.arrayClass_spec (hts (.arrayClass .int) (by decide +kernel))
  obtain ⟨cz, kz, pz, z1, z2, z3⟩ := Cond.arrayClass_spec (hts (.arrayClass .boolean) (by decide +kernel))
  obtain ⟨pa, ca, ka, a1, _, a3, a4, a5⟩ := Cond.arrayOver_spec (hts (.arrayOver (.object RX0)) (by decide +kernel))
  obtain ⟨pw, cw, kw, w1, _, w3, w4, w5⟩ := Cond.arrayOver_spec (hts (.arrayOver (.object RX6)) (by decide +kernel))
  refine ⟨fun k => if k = 0 then ci else if k = 1 then cz else if k = 2 then ca else cw, ?_⟩
  intro k q hq
  match k, hq with
  | 0, hq => cases hq; exact ⟨fun n z => ⟨fun k h => (by cases h), ki, i2, pi1, i3⟩, i1⟩
  | 1, hq => cases hq; exact ⟨fun n z => ⟨fun k h => (by cases h), kz, z2, pz, z3⟩, z1⟩
  | 2, hq => cases hq; exact ⟨fun n z => ⟨fun k h => (by cases h), ka, a3, pa, a4⟩, ka, pa, a3, a4, a1, a5⟩
  | 3, hq => cases hq; exact ⟨fun n z => ⟨fun k h => (by cases h), kw, w3, pw, w4⟩, kw, pw, w3, w4, w1, w5⟩
  | k + 4, hq => simp [gT] at hq
set_option maxHeartbeats 8000000 in
set_option maxRecDepth 100000 in
theorem whole_start {p : Program} {e : Env} {s : State} {m : MethodId} {below : List Frame} {meth : Method} {c : Code} (l : Launch) {b L : Nat} {xs : Nat → Int32} (hL : L ≤ 4096) (C0 : lw_At p s m meth c b L xs) : W p l e room_1 s m #[Value.ref b] below meth c s.heap [] 0 0 (lw_Z below #[Value.ref b] s) (entryFrame m ([Value.ref b] : List Value).toArray 4) := by
  obtain ⟨hx, hb, hr, hml, hown, hts, hX, hbl, hlocks, hgv⟩ := id C0
  have hA : ∀ q : Nat, s.heap.size ≤ q → (fun q : Nat => s.heap.size ≤ q) q := fun _ h => h
  obtain ⟨cy, hcy⟩ := lw_arr hts
  obtain ⟨c0, iS0, hKn0⟩ := u_known (C := RX0) (T := TX0) (N := 6) (n := 6) hts (by decide +kernel) (hts (.instantiable RX0 6) (by decide +kernel))
  obtain ⟨c1, iS1, hKn1⟩ := u_known (C := RX1) (T := TX1) (N := 2) (n := 2) hts (by decide +kernel) (hts (.instantiable RX1 2) (by decide +kernel))
  obtain ⟨c2, iS2, hKn2⟩ := u_known (C := RX2) (T := TX2) (N := 9) (n := 9) hts (by decide +kernel) (hts (.instantiable RX2 9) (by decide +kernel))
  obtain ⟨c3, iS3, hKn3⟩ := u_known (C := RX3) (T := TX3) (N := 9) (n := 9) hts (by decide +kernel) (hts (.instantiable RX3 9) (by decide +kernel))
  obtain ⟨c4, iS4, hKn4⟩ := u_known (C := RX4) (T := TX4) (N := 10) (n := 10) hts (by decide +kernel) (hts (.instantiable RX4 10) (by decide +kernel))
  obtain ⟨c5, iS5, hKn5⟩ := u_known (C := RX5) (T := TX5) (N := 2) (n := 2) hts (by decide +kernel) (hts (.instantiable RX5 2) (by decide +kernel))
  obtain ⟨c6, iS6, hKn6⟩ := u_known (C := RX6) (T := TX6) (N := 8) (n := 8) hts (by decide +kernel) (hts (.instantiable RX6 8) (by decide +kernel))
  obtain ⟨c7, iS7, hKn7⟩ := u_known (C := RX7) (T := TX7) (N := 6) (n := 6) hts (by decide +kernel) (hts (.instantiable RX7 6) (by decide +kernel))
  obtain ⟨c8, iS8, hKn8⟩ := u_known (C := RX8) (T := TX8) (N := 49) (n := 49) hts (by decide +kernel) (hts (.instantiable RX8 49) (by decide +kernel))
  obtain ⟨dC, dI, hKc⟩ : ∃ (dC : Nat → ClassId) (dI : Nat → Nat → Nat), ∀ (k : Nat) (q : vw_C), vwCl[k]? = some q → u_Kn s q.1 q.2.1 q.2.2 (dC k) (dI k) := by
    refine ⟨fun k => if k = 0 then c0 else if k = 1 then c1 else if k = 2 then c2 else if k = 3 then c3 else if k = 4 then c4 else if k = 5 then c5 else if k = 6 then c6 else if k = 7 then c7 else c8, fun k => if k = 0 then iS0 else if k = 1 then iS1 else if k = 2 then iS2 else if k = 3 then iS3 else if k = 4 then iS4 else if k = 5 then iS5 else if k = 6 then iS6 else if k = 7 then iS7 else iS8, ?_⟩
    intro k q hq
    match k, hq with
    | 0, hq => cases hq; exact hKn0
    | 1, hq => cases hq; exact hKn1
    | 2, hq => cases hq; exact hKn2
    | 3, hq => cases hq; exact hKn3
    | 4, hq => cases hq; exact hKn4
    | 5, hq => cases hq; exact hKn5
    | 6, hq => cases hq; exact hKn6
    | 7, hq => cases hq; exact hKn7
    | 8, hq => cases hq; exact hKn8
    | k + 9, hq => simp [vwCl] at hq
  have hK : va_K (dC, dI) vwCl (gT cy) s := ⟨hKc, hcy⟩
  have hN : zN s := by
    intro w hw
    have hin : ∀ w ∈ nwL, w ∈ lw_tbl := by decide +kernel
    obtain ⟨a, i, x, g, rfl⟩ := zN_form w hw
    exact va_Nw.of rfl (hts _ (hin _ hw))
  have hXX : iX s := ⟨va_AO.of (hts (.arrayOver (.object RX0)) (by decide +kernel)), va_AO.of (hts (.arrayOver (.object RX6)) (by decide +kernel))⟩
  have hS : va_S (fun q : Nat => s.heap.size ≤ q) s.heap s.heap [] := va_S.rf
  have hP : va_P (dC, dI) vwCl (zw 0 (fun _ => 0) (fun _ => I0)) s.heap := fun k q h => by simp [zw] at h
  have hD : va_D (fun q : Nat => s.heap.size ≤ q) (zw 0 (fun _ => 0) (fun _ => I0)) := ⟨fun i j p q h => by simp [zw] at h, fun k q h => by simp [zw] at h⟩
  have hl := lv_entry ([.ref b]) (n := 4) (Nat.le_of_ble_eq_true rfl)
  rw [lg_entry_eq]
  generalize (lg_sl ([.ref b]) ++ List.replicate (4 - (lg_sl ([.ref b])).length) Slot.unset).toArray = ls at hl ⊢
  have hl : lv_has ls 4 [(0, .ref b)] := hl
  have htl : ∀ w ∈ wsL_law, w.before #[Value.ref b] s = true := fun w h => hts w (wsL_law_in w h)
  refine y_new (ci := 7) (C := RX7) (T := TX7) (N := 6) (fs := [.null, .null, .null, .null, .int 0, .int 0]) hx hb hts (by decide +kernel) tyX7 tyX7_ok hown (hts (.classLink R_law 7 RX7) (by decide +kernel)) (hts (.instantiable RX7 6) (by decide +kernel)) (hts (.initialized RX7) (by decide +kernel)) hK hP hD hS hA rfl (fun j hj => by rcases (show j = 0 ∨ j = 1 ∨ j = 2 ∨ j = 3 ∨ j = 4 ∨ j = 5 by omega) with rfl | rfl | rfl | rfl | rfl | rfl <;> rfl) (by decide) (by decide) dL_law_0 (fun q0 H ad ce haq had heq hce hP hD hS => ?_)
  refine lv_dup hx hb dL_law_3 rfl ?_
  refine i_after (q0 := 0) (m1 := 72) (mc := 72) (ms := 1386) (i_rI (As := []) (rest := [.ref q0]) ⟨hx, hb, hml, hown, htl⟩ (c_X7_init l (dC, dI) cy H.size (ad 0)) (cwI 0 htl (g_C0 mw_677) rfl rfl rfl (hts (.initialized RX7) (by decide +kernel)) (hts (.methodLink R_law 9 yX7_init) (by decide +kernel)) (hts (.instanceMethod yX7_init) (by decide +kernel)) rfl (by decide +kernel) ⟨Nat.le_of_ble_eq_true rfl, Nat.le_of_ble_eq_true rfl⟩) hK hN hXX hP (by decide) heq rfl hl.1 (by rw [haq]; rfl) (Nat.le_of_ble_eq_true rfl) dL_law_4 ⟨by decide, by decide⟩) (by decide) hP hD hS hA (fun ad ce H locs adc cec hp hc0 had3 hce3 heq3 hadn hcen hP hD hS => ?_)
  have a0 := (had3 0 (by decide)).trans haq
  have F7 : p7 cy ad ce 6 := by
    refine p7_tr hp (fun i hi => ?_) (fun i hi => ?_)
    · rcases Nat.eq_zero_or_pos i with rfl | h
      · exact (had3 0 (by decide)).trans hc0.symm
      · have := hadn (i - 1) (by omega)
        rw [show 0 + 1 + (i - 1) = i by omega, show i - 1 + 1 = i by omega] at this
        exact this
    · rcases Nat.eq_zero_or_pos i with rfl | h
      · exact heq3
      · have := hcen (i - 1) (by omega)
        rw [show 0 + 1 + (i - 1) = i by omega, show i - 1 + 1 = i by omega] at this
        exact this
  refine lv_astore_n (lv' := [(1, .ref q0), (0, .ref b)]) hx hb dL_law_7 rfl hl (by decide) rfl (fun ls hl => ?_)
  refine y_new (ci := 8) (C := RX8) (T := TX8) (N := 49) (fs := [.int 0, .null, .null, .null, .int 0, .null, .null, .int 0, .null, .null, .int 0, .null, .int 0, .int 0, .int 0, .int 0, .int 0, .int 0, .int 0, .null, .null, .int 0, .null, .null, .null, .null, .null, .null, .null, .int 0, .null, .int 0, .null, .null, .null, .int 0, .null, .null, .null, .null, .null, .null, .null, .null, .null, .null, .null, .null, .int 0]) hx hb hts (by decide +kernel) tyX8 tyX8_ok hown (hts (.classLink R_law 10 RX8) (by decide +kernel)) (hts (.instantiable RX8 49) (by decide +kernel)) (hts (.initialized RX8) (by decide +kernel)) hK hP hD hS hA rfl (fun j hj => by rcases (show j = 0 ∨ j = 1 ∨ j = 2 ∨ j = 3 ∨ j = 4 ∨ j = 5 ∨ j = 6 ∨ j = 7 ∨ j = 8 ∨ j = 9 ∨ j = 10 ∨ j = 11 ∨ j = 12 ∨ j = 13 ∨ j = 14 ∨ j = 15 ∨ j = 16 ∨ j = 17 ∨ j = 18 ∨ j = 19 ∨ j = 20 ∨ j = 21 ∨ j = 22 ∨ j = 23 ∨ j = 24 ∨ j = 25 ∨ j = 26 ∨ j = 27 ∨ j = 28 ∨ j = 29 ∨ j = 30 ∨ j = 31 ∨ j = 32 ∨ j = 33 ∨ j = 34 ∨ j = 35 ∨ j = 36 ∨ j = 37 ∨ j = 38 ∨ j = 39 ∨ j = 40 ∨ j = 41 ∨ j = 42 ∨ j = 43 ∨ j = 44 ∨ j = 45 ∨ j = 46 ∨ j = 47 ∨ j = 48 by omega) with rfl | rfl | rfl | rfl | rfl | rfl | rfl | rfl | rfl | rfl | rfl | rfl | rfl | rfl | rfl | rfl | rfl | rfl | rfl | rfl | rfl | rfl | rfl | rfl | rfl | rfl | rfl | rfl | rfl | rfl | rfl | rfl | rfl | rfl | rfl | rfl | rfl | rfl | rfl | rfl | rfl | rfl | rfl | rfl | rfl | rfl | rfl | rfl | rfl <;> rfl) (by decide) (by decide) dL_law_8 (fun q8 H ad2 ce2 haq had heq hce hP hD hS => ?_)
  have F7 := p7_tr F7 (fun i hi => had i (by omega)) (fun i hi => hce i (by omega))
  have a0 := (had 0 (by decide)).trans a0
  refine lv_dup hx hb dL_law_11 rfl ?_
  refine i_after (q0 := 73) (m1 := 33) (mc := 33) (ms := 3026) (i_rI (As := []) (rest := [.ref q8]) ⟨hx, hb, hml, hown, htl⟩ (c_X8_init l (dC, dI) cy H.size (ad2 73)) (cwI 0 htl (g_C0 mw_678) rfl rfl rfl (hts (.initialized RX8) (by decide +kernel)) (hts (.methodLink R_law 12 yX8_init) (by decide +kernel)) (hts (.instanceMethod yX8_init) (by decide +kernel)) rfl (by decide +kernel) ⟨Nat.le_of_ble_eq_true rfl, Nat.le_of_ble_eq_true rfl⟩) hK hN hXX hP (by decide) heq rfl hl.1 (by rw [haq]; rfl) (Nat.le_of_ble_eq_true rfl) dL_law_12 ⟨by decide, by decide⟩) (by decide) hP hD hS hA (fun ad ce H locs adc cec hp hc0 had3 hce3 heq3 hadn hcen hP hD hS => ?_)
  have F7 := p7_tr F7 (fun i hi => had3 i (by omega)) (fun i hi => hce3 i (by omega) (by omega))
  have a0 := (had3 0 (by decide)).trans a0
  have a73 := (had3 73 (by decide)).trans haq
  have F8 : p8 cy (fun t => ad (73 + t)) (fun t => ce (73 + t)) := by
    refine p8_tr hp (fun i hi => ?_) (fun i hi => ?_)
    · rcases Nat.eq_zero_or_pos i with rfl | h
      · exact (had3 73 (by decide)).trans hc0.symm
      · have := hadn (i - 1) (by omega)
        rw [show 0 + 1 + 72 + 1 + (i - 1) = 73 + i by omega, show i - 1 + 1 = i by omega] at this
        exact this
    · rcases Nat.eq_zero_or_pos i with rfl | h
      · exact heq3
      · have := hcen (i - 1) (by omega)
        rw [show 0 + 1 + 72 + 1 + (i - 1) = 73 + i by omega, show i - 1 + 1 = i by omega] at this
        exact this
  refine lv_astore_n (lv' := [(2, .ref q8), (1, .ref q0), (0, .ref b)]) hx hb dL_law_15 rfl hl (by decide) rfl (fun ls hl => ?_)
  refine z_ic hx hb dL_law_16 (by decide) (fun v16 h16 => ?_)
  refine lv_istore_n (lv' := [(3, .int v16), (2, .ref q8), (1, .ref q0), (0, .ref b)]) hx hb dL_law_17 rfl hl (by decide) rfl (fun ls hl => ?_)
  refine W.widen (k := 107) (n := 4467) (by decide) (by decide) ?_
  have hJ := zw_J hD
  have hP1 : va_P (dC, dI) vwCl (zw 73 (fun k => ad (pi k)) (fun k => ce (pi k))) H := by
    intro k q hk
    obtain ⟨h1, rfl⟩ := zw_of hk
    exact hP (pi k) _ (zw_at (by have := pi_lt k h1; omega) rfl)
  have hP2 : va_P (dC, dI) vwCl (zw 34 (fun t => ad (73 + t)) (fun t => ce (73 + t))) H := by
    intro k q hk
    obtain ⟨h1, rfl⟩ := zw_of hk
    exact hP (73 + k) _ (zw_at (by omega) rfl)
  refine law_loop hL (a1 := fun k => ad (pi k)) (a2 := fun t => ad (73 + t)) ⟨C0, hK, hN, fun i j h1 h2 h3 => ?_, fun i j h1 h2 h3 => ?_, fun i j h1 h2 h3 => ?_, fun i h1 => ?_, fun i h1 => ?_⟩ 513 0 (by omega) v16 (by omega) H locs ⟨fun _ => 0, _, _, gk_start F7, ⟨_, _, _, _, _, mr_start F8⟩, hP1, hP2⟩ hS ls ?_
  · exact pi_inj i h1 j h2 (hJ (pi i) (pi j) (by have := pi_lt i h1; omega) (by have := pi_lt j h2; omega) h3)
  · have := hJ (73 + i) (73 + j) (by omega) (by omega) h3
    omega
  · have := hJ (pi i) (73 + j) (by have := pi_lt i h1; omega) (by omega) h3
    have := pi_lt i h1
    omega
  · exact hD.2 (pi i) _ (zw_at (by have := pi_lt i h1; omega) rfl)
  · exact hD.2 (73 + i) _ (zw_at (by omega) rfl)
  · have e1 : ad (pi 0) = q0 := a0
    have e2 : ad (73 + 0) = q8 := a73
    show lv_has ls 4 [(0, .ref b), (1, .ref (ad (pi 0))), (2, .ref (ad (73 + 0))), (3, .int v16)]
    rw [e1, e2]
    exact lv_sub hl [3, 2, 1, 0] rfl
