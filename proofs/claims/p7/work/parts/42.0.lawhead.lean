-- ===== end of PART A; then your names; then what follows =====
/-! THE CLAIM OUT OF ONE WALK OF THE LAW'S BODY. Your part is whole_start (and what it stands on); all else here is the same for every law, but numbers. -/
def R_law : String := "GroundKeeperLaw"
def lw_P (b : Addr) (xs : List Int32) (args : Array Value) (s : State) : Prop := args = #[.ref b] ∧ s.IntsAt b xs ∧ xs.length ≤ 4096 ∧ (Jvm.Cond.and given_1 narrow_1).before args s = true
def lw_Q (_ : Array Value) (s : State) (o : Outcome) (t : State) : Prop := o = .returned (some (.int 1)) ∧ Framed s o t [] 600000 7302250
def lw_Z (below : List Frame) (a : Array Value) (s : State) : State → Prop := fun t => ∃ o, t.status = .running ∧ Ended t below o ∧ lw_Q a s o t
/-- the law's own end, with 1 on the stack, nothing written that was there before, its room as the claim has it -/
theorem lw_ret {p : Program} {l : Launch} {e : Env} {s : State} {m : MethodId} {below : List Frame} {meth : Method} {c : Code} {b : Nat} (hx : p.tables.exec = Jvm.exec) (hb : c.code = code) (hr : meth.sig.returnType = ret) (hlocks : meth.locks = false) {pc : Nat} {H : Heap} {ls : Array Slot} (hdg : decode code pc = .ok (.ireturn, 1)) : W p l e room_1 s m #[Value.ref b] below meth c H [] 600000 7302250 (lw_Z below #[Value.ref b] s) (F0 m pc ls [.int 1]) := by
  intro T hT X
  obtain ⟨fs, hret, hrun, hended, hW, hframe⟩ := X.leave (v := some (.int 1)) (hlocks := hlocks) (fun h => by rw [hr] at h; cases h)
  have hmeth' : T.vm.method? m = some meth := X.method'
  refine ⟨T.setFrames fs, ?_, .returned (some (.int 1)), hrun, hended, rfl, ⟨_, rfl⟩, hW, hframe⟩
  jvm_step X.here [X.here.top, hx, hb, hdg, hmeth', hr, ret, narrow_b1]
  (try refine ⟨rfl, ?_⟩); (try refine ⟨rfl, ?_⟩)
  first | (intro acts; rw [hret _ acts rfl rfl rfl]) | rw [hret _ _ rfl rfl rfl]
  exact Steps.refl _
/-- what holds at the law's entry: the machine, the code, the tables' words (any of lw_tbl by 'hts w (by decide +kernel)'), the script of L ints xs at the cell b, what the Statement gives of the start (any of its parts by flat_of_before) -/
def lw_At (p : Program) (s : State) (m : MethodId) (meth : Method) (c : Code) (b L : Nat) (xs : Nat → Int32) : Prop :=
  p.tables.exec = Jvm.exec ∧ c.code = code ∧ meth.sig.returnType = ret ∧ c.maxLocals = 4 ∧ s.vm.findClass R_law = some m.cls ∧ (∀ w ∈ lw_tbl, w.before #[Value.ref b] s = true) ∧ va_X b L xs s s.heap ∧ b < s.heap.size ∧ meth.locks = false ∧ (Jvm.Cond.and given_1 narrow_1).before #[Value.ref b] s = true

theorem top_tie {cy : Nat → ClassId} {a1 a2 : Nat → Nat} {cnt : Nat → Nat} {B k cap : Nat} {cond : Prop} {r1 r2 : Int32} {c1 c2 : Nat → va_E} (h1 : topP cy a1 cnt B cond k cap r1 c1) (h2 : mtopP cy a2 cnt cond k cap r2 c2) : r1.toInt = r2.toInt ∧ ∃ cnt2, gOK cy a1 cnt2 B c1 ∧ mEX cy a2 cnt2 c2 := by
  by_cases hc : cond
  · by_cases hk : cnt k = cap
    · have x1 := (h1.2 hc).1 hk
      have x2 := (h2.2 hc).1 hk
      exact ⟨by rw [x1.1, x2.1], cnt, x1.2, x2.2⟩
    · have x1 := (h1.2 hc).2 hk
      have x2 := (h2.2 hc).2 hk
      exact ⟨by rw [x1.1, x2.1], _, x1.2, x2.2⟩
  · have x1 := h1.1 hc
    have x2 := h2.1 hc
    exact ⟨by rw [x1.1, x2.1], cnt, x1.2, x2.2⟩
/-- the two pools of the law, at a number of calls -/
def lS (D : va_G) (cy : Nat → ClassId) (a1 a2 : Nat → Nat) (B : Nat) (H : Heap) : Prop := ∃ (cnt : Nat → Nat) (c1 c2 : Nat → va_E), gOK cy a1 cnt B c1 ∧ mEX cy a2 cnt c2 ∧ va_P D vwCl (zw 73 a1 c1) H ∧ va_P D vwCl (zw 34 a2 c2) H
def lK (p : Program) (s : State) (m : MethodId) (meth : Method) (c : Code) (b L : Nat) (xs : Nat → Int32) (D : va_G) (cy : Nat → ClassId) (a1 a2 : Nat → Nat) : Prop := lw_At p s m meth c b L xs ∧ va_K D vwCl (gT cy) s ∧ zN s ∧ zJ 73 a1 ∧ zJ 34 a2 ∧ (∀ i j, i < 73 → j < 34 → a1 i ≠ a2 j) ∧ (∀ i, i < 73 → s.heap.size ≤ a1 i) ∧ (∀ i, i < 34 → s.heap.size ≤ a2 i)
section ZU
variable {p : Program} {l : Launch} {e : Env} {R : Room} {s : State} {m : MethodId} {args : Array Value} {below : List Frame} {meth : Method} {c : Code} {H : Heap} {locs : List Loc} {cells slots : Nat} {Q : State → Prop}
variable {pc : Nat} {ls : Array Slot} {rest st0 : List Value} {D : va_G} {n n2 : Nat} {ad a2 : Nat → Nat} {c2 : Nat → va_E} {H0 : Heap} {a : Array Value} {A : Nat → Prop}
theorem u_kept {H1 : Heap} (hap : ∀ i j, i < n → j < n2 → ad i ≠ a2 j) (hP2 : va_P D vwCl (zw n2 a2 c2) H) (hk : ∀ q : Nat, q < H.size → ¬ zA n ad q → H1[q]? = H[q]?) : va_P D vwCl (zw n2 a2 c2) H1 := by
  intro k q hq
  obtain ⟨h1, rfl⟩ := zw_of hq
  have hv := hP2 k _ (zw_at h1 rfl)
  exact hv.kept (hk _ hv.lt (fun ⟨i, h2, h3⟩ => hap i k h2 h1 h3.symm))
theorem u_ci {post : Int32 → (Nat → va_E) → Prop} (hr : va_Run p l e R s m args below meth c H locs cells slots 0 0 (F0 m pc ls st0) rest (zQi D n ad post a) (zA n ad)) (hS : va_S A H0 H locs) (hA : ∀ i, i < n → A (ad i)) (hap : ∀ i j, i < n → j < n2 → ad i ≠ a2 j) (hP2 : va_P D vwCl (zw n2 a2 c2) H)
    (kk : ∀ (r : Int32) (ce1 : Nat → va_E) (H1 : Heap) (locs1 : List Loc), post r ce1 → va_P D vwCl (zw n ad ce1) H1 → va_P D vwCl (zw n2 a2 c2) H1 → va_S A H0 H1 locs1 → W p l e R s m args below meth c H1 locs1 cells slots Q (F0 m (pc + 3) ls (.int r :: rest))) : W p l e R s m args below meth c H locs cells slots Q (F0 m pc ls st0) :=
  va_calli hr hS (fun q _ h => by obtain ⟨i, h1, h2⟩ := h; rw [h2]; exact hA i h1) (fun q h => by obtain ⟨i, h1, h2⟩ := h; rw [h2]; exact hA i h1) (fun r u t H1 locs1 ht _ hp hB _ hk hS1 => kk r u H1 locs1 hp (by rw [← ht]; exact hB) (u_kept hap hP2 hk) hS1)
theorem u_cl {post : Int64 → (Nat → va_E) → Prop} (hr : va_Run p l e R s m args below meth c H locs cells slots 0 0 (F0 m pc ls st0) rest (zQl D n ad post a) (zA n ad)) (hS : va_S A H0 H locs) (hA : ∀ i, i < n → A (ad i)) (hap : ∀ i j, i < n → j < n2 → ad i ≠ a2 j) (hP2 : va_P D vwCl (zw n2 a2 c2) H)
    (kk : ∀ (r : Int64) (ce1 : Nat → va_E) (H1 : Heap) (locs1 : List Loc), post r ce1 → va_P D vwCl (zw n ad ce1) H1 → va_P D vwCl (zw n2 a2 c2) H1 → va_S A H0 H1 locs1 → W p l e R s m args below meth c H1 locs1 cells slots Q (F0 m (pc + 3) ls (.long r :: rest))) : W p l e R s m args below meth c H locs cells slots Q (F0 m pc ls st0) :=
  va_calll hr hS (fun q _ h => by obtain ⟨i, h1, h2⟩ := h; rw [h2]; exact hA i h1) (fun q h => by obtain ⟨i, h1, h2⟩ := h; rw [h2]; exact hA i h1) (fun r u t H1 locs1 ht _ hp hB _ hk hS1 => kk r u H1 locs1 hp (by rw [← ht]; exact hB) (u_kept hap hP2 hk) hS1)
variable {cc : ByteArray} {b L : Nat} {xs : Nat → Int32} {x3 : Int32} {v1 v2 : Value}
/-- an int of the script: the kth behind the call's first -/
theorem rd_a {q : Int} (k : Nat) (hx : p.tables.exec = Jvm.exec) (hb : c.code = cc) (hX : va_X b L xs s H0) (hbl : b < H0.size) (hbA : ¬ A b) (hS : va_S A H0 H locs) (hl : lv_has ls 4 [(0, .ref b), (1, v1), (2, v2), (3, .int x3)]) (h3 : 0 ≤ x3.toInt ∧ x3.toInt + 8 ≤ (L : Int)) (hL : L ≤ 4096) (hq : q = k) (hk : k < 8) (hqk : (Int32.ofInt q).toInt = q) (d0 : decode cc pc = .ok (.aload_n 0, 1)) (d1 : decode cc (pc + 1) = .ok (.iload_n 3, 1)) (d2 : decode cc (pc + 2) = .ok (.iconst q, 1)) (d3 : decode cc (pc + 3) = .ok (.iadd, 1)) (d4 : decode cc (pc + 4) = .ok (.iaload, 1))
    (kk : ∀ y : Int32, y = xs (x3.toInt.toNat + k) → W p l e R s m args below meth c H locs cells slots Q (F0 m (pc + 5) ls (.int y :: rest))) : W p l e R s m args below meth c H locs cells slots Q (F0 m pc ls rest) := by
  refine lv_aload_n hx hb d0 rfl (lv_at hl 0 rfl) ?_
  refine lv_iload_n hx hb d1 rfl (lv_at hl 3 rfl) ?_
  refine z_ic hx hb d2 hqk (fun v hv => ?_)
  refine z_addE hx hb d3 (by omega) (fun w hw => ?_)
  refine va_sld hx hb hX hbl hbA hS (z_in (by omega) (by omega)) d4 ?_
  have hc := z_cl (x := w) (by omega)
  rw [show w.toNatClampNeg = x3.toInt.toNat + k by omega]
  exact kk _ rfl
theorem rd_b {q : Int} (k : Nat) (hx : p.tables.exec = Jvm.exec) (hb : c.code = cc) (hX : va_X b L xs s H0) (hbl : b < H0.size) (hbA : ¬ A b) (hS : va_S A H0 H locs) (hl : lv_has ls 4 [(0, .ref b), (1, v1), (2, v2), (3, .int x3)]) (h3 : 0 ≤ x3.toInt ∧ x3.toInt + 8 ≤ (L : Int)) (hL : L ≤ 4096) (hq : q = k) (hk : k < 8) (hqk : (Int8.ofInt q).toInt32.toInt = q) (d0 : decode cc pc = .ok (.aload_n 0, 1)) (d1 : decode cc (pc + 1) = .ok (.iload_n 3, 1)) (d2 : decode cc (pc + 2) = .ok (.bipush q, 2)) (d3 : decode cc (pc + 4) = .ok (.iadd, 1)) (d4 : decode cc (pc + 5) = .ok (.iaload, 1))
    (kk : ∀ y : Int32, y = xs (x3.toInt.toNat + k) → W p l e R s m args below meth c H locs cells slots Q (F0 m (pc + 6) ls (.int y :: rest))) : W p l e R s m args below meth c H locs cells slots Q (F0 m pc ls rest) := by
  refine lv_aload_n hx hb d0 rfl (lv_at hl 0 rfl) ?_
  refine lv_iload_n hx hb d1 rfl (lv_at hl 3 rfl) ?_
  refine z_bi hx hb d2 hqk (fun v hv => ?_)
  refine z_addE hx hb d3 (by omega) (fun w hw => ?_)
  refine va_sld hx hb hX hbl hbA hS (z_in (by omega) (by omega)) d4 ?_
  have hc := z_cl (x := w) (by omega)
  rw [show w.toNatClampNeg = x3.toInt.toNat + k by omega]
  exact kk _ rfl
end ZU
def pi (k : Nat) : Nat := if k = 0 then 0 else if k = 1 then 1 else if k = 2 then 46 else if k = 3 then 45 else if k = 4 then 2 else if k = 5 then 16 else if k = 6 then 26 else if k = 7 then 34 else if k = 8 then 3 else if k = 9 then 17 else if k = 10 then 27 else if k = 11 then 35 else if k < 24 then k - 8 else if k < 32 then k - 6 else if k < 38 then k - 4 else if k < 44 then k - 2 else if k < 47 then k - 2 else if k < 52 then k else if k = 52 then 54 else if k < 59 then 55 + 3 * (k - 53) else if k < 65 then 56 + 3 * (k - 59) else if k = 65 then 52 else if k < 72 then 57 + 3 * (k - 66) else 53
theorem pi_lt : ∀ k, k < 73 → pi k < 73 := by decide +kernel
theorem pi_inj : ∀ i, i < 73 → ∀ j, j < 73 → pi i = pi j → i = j := by decide +kernel
theorem pi_a : ∀ i, i < 12 → pi (12 + i) = 1 + (2 + 1 + i) := by decide +kernel
theorem pi_b : ∀ i, i < 8 → pi (12 + (12 + i)) = 1 + (16 + 1 + i) := by decide +kernel
theorem pi_c : ∀ i, i < 6 → pi (12 + (20 + i)) = 1 + (26 + 1 + i) := by decide +kernel
theorem pi_d : ∀ i, i < 6 → pi (12 + (26 + i)) = 1 + (34 + 1 + i) := by decide +kernel
theorem pi_w : ∀ i, i < 6 → pi (53 + i) = 55 + 3 * i := by decide +kernel
theorem pi_r : ∀ i, i < 6 → pi (59 + i) = 55 + 3 * i + 1 := by decide +kernel
theorem pi_p : ∀ i, i < 6 → pi (66 + i) = 55 + 3 * i + 2 := by decide +kernel
theorem p7_tr {cy : Nat → ClassId} {ad ad1 : Nat → Nat} {ce ce1 : Nat → va_E} (h : p7 cy ad ce 6) (ha : ∀ i, i < 73 → ad1 i = ad i) (hc : ∀ i, i < 73 → ce1 i = ce i) : p7 cy ad1 ce1 6 := by
  obtain ⟨e0, F1, F2, F3, ⟨f, e54, hf⟩, F5⟩ := h
  refine ⟨?_, p3_tr F1 (fun t ht => ha (1 + t) (by omega)) (fun t ht => hc (1 + t) (by omega)), ?_, p5_tr F3 (fun t ht => ha (52 + t) (by omega)) (fun t ht => hc (52 + t) (by omega)), ⟨f, ?_, fun j hj => ?_⟩, fun j hj => p6_tr (F5 j hj) (fun t ht => ha _ (by omega)) (fun t ht => hc _ (by omega))⟩
  · rw [hc 0 (by omega), ha 1 (by omega), ha 46 (by omega), ha 52 (by omega), ha 54 (by omega)]; exact e0
  · rw [ha 1 (by omega)]; exact p2_tr F2 (fun t ht => ha (46 + t) (by omega)) (fun t ht => hc (46 + t) (by omega))
  · rw [hc 54 (by omega)]; exact e54
  · rw [ha _ (by omega)]; exact hf j hj
set_option maxRecDepth 100000 in
theorem gk_start {cy : Nat → ClassId} {ad : Nat → Nat} {ce : Nat → va_E} (h : p7 cy ad ce 6) : gOK cy (fun k => ad (pi k)) (fun _ => 0) 1 (fun k => ce (pi k)) := by
  obtain ⟨e0, ⟨g0, g1, g2, g3, g4, g5, g6, g7, g8⟩, ⟨f0, f1, f2, f3, f4, f5⟩, ⟨r0, r1⟩, ⟨f, e54, hf⟩, F5⟩ := h
  obtain ⟨a1, ⟨fa, a2, a3⟩, a4⟩ := g1
  obtain ⟨b1, ⟨fb, b2, b3⟩, b4⟩ := g2
  obtain ⟨c1, ⟨fc, c2, c3⟩, c4⟩ := g3
  obtain ⟨d1, ⟨fd, d2, d3⟩, d4⟩ := g4
  intro k
  by_cases hGK : k = 0
  · subst hGK
    exact gE_GK.mpr ⟨0, 0, e0, by decide, by decide⟩
  by_cases hGr : k = 1
  · subst hGr
    exact gE_Gr.mpr ⟨0, g0, by decide, by decide, by decide⟩
  by_cases hFi : k = 2
  · subst hFi
    exact gE_Fi.mpr ⟨0, 0, 0, f0, by decide, by decide, by decide, by decide, by decide, by decide⟩
  by_cases hLe : k = 3
  · subst hLe
    exact gE_Le.mpr ⟨0, 0, 0, 0, 0, 0, 0, 0, 0, 0, g8⟩
  by_cases hRo : k = 4
  · subst hRo
    exact gE_Ro.mpr ⟨0, a1, by decide, by decide, by decide⟩
  by_cases hBo : k = 5
  · subst hBo
    exact gE_Bo.mpr ⟨0, b1⟩
  by_cases hDo : k = 6
  · subst hDo
    exact gE_Do.mpr ⟨0, c1, by decide, by decide, by decide⟩
  by_cases hLg : k = 7
  · subst hLg
    exact gE_Lg.mpr ⟨0, d1, by decide, by decide, by decide⟩
  by_cases hRoA : k = 8
  · subst hRoA
    exact gE_RoA.mpr ⟨fa, a2, fun i hi => by rw [pi_a i hi]; exact a3 i hi⟩
  by_cases hBoA : k = 9
  · subst hBoA
    exact gE_BoA.mpr ⟨fb, b2, fun i hi => by rw [pi_b i hi]; exact b3 i hi⟩
  by_cases hDoA : k = 10
  · subst hDoA
    exact gE_DoA.mpr ⟨fc, c2, fun i hi => by rw [pi_c i hi]; exact c3 i hi⟩
  by_cases hLgA : k = 11
  · subst hLgA
    exact gE_LgA.mpr ⟨fd, d2, fun i hi => by rw [pi_d i hi]; exact d3 i hi⟩
  by_cases hAr : 12 ≤ k ∧ k < 44
  · obtain ⟨j, rfl⟩ : ∃ j, k = 12 + j := ⟨k - 12, by omega⟩
    refine (gE_Ar (by omega)).mpr ⟨0, 0, 0, 0, 0, 0, ?_⟩
    dsimp only
    by_cases h1 : j < 12
    · rw [pi_a j h1]; exact a4 j h1
    · by_cases h2 : j < 20
      · obtain ⟨i, rfl⟩ : ∃ i, j = 12 + i := ⟨j - 12, by omega⟩
        rw [pi_b i (by omega)]; exact b4 i (by omega)
      · by_cases h3 : j < 26
        · obtain ⟨i, rfl⟩ : ∃ i, j = 20 + i := ⟨j - 20, by omega⟩
          rw [pi_c i (by omega)]; exact c4 i (by omega)
        · obtain ⟨i, rfl⟩ : ∃ i, j = 26 + i := ⟨j - 26, by omega⟩
          rw [pi_d i (by omega)]; exact d4 i (by omega)
  by_cases hL0 : k = 44
  · subst hL0
    exact gE_L0.mpr ⟨_, g5⟩
  by_cases hL1 : k = 45
  · subst hL1
    exact gE_L1.mpr ⟨_, g6⟩
  by_cases hL2 : k = 46
  · subst hL2
    exact gE_L2.mpr ⟨_, g7⟩
  by_cases hPl : k = 47
  · subst hPl
    exact gE_Pl.mpr ⟨_, f1⟩
  by_cases hLn : k = 48
  · subst hLn
    exact gE_Ln.mpr ⟨_, f2⟩
  by_cases hCf : k = 49
  · subst hCf
    exact gE_Cf.mpr ⟨_, f3, fun i hi => by decide⟩
  by_cases hSt : k = 50
  · subst hSt
    exact gE_St.mpr ⟨_, f4⟩
  by_cases hAv : k = 51
  · subst hAv
    exact gE_Av.mpr ⟨_, f5⟩
  by_cases hWa : k = 52
  · subst hWa
    exact gE_Wa.mpr ⟨f, e54, fun i hi => by rw [pi_w i hi]; exact hf i hi⟩
  by_cases hWk : 53 ≤ k ∧ k < 59
  · obtain ⟨j, rfl⟩ : ∃ j, k = 53 + j := ⟨k - 53, by omega⟩
    refine (gE_Wk (by omega)).mpr ⟨0, 0, 0, 0, 0, 0, 0, ?_, by decide, by decide, by decide⟩
    dsimp only
    rw [pi_w j (by omega), pi_r j (by omega)]
    exact (F5 j (by omega)).1
  by_cases hRw : 59 ≤ k ∧ k < 66
  · obtain ⟨j, rfl⟩ : ∃ j, k = 59 + j := ⟨k - 59, by omega⟩
    refine (gE_Rw (by omega)).mpr ⟨0, ?_, by decide, by decide⟩
    by_cases h6 : j = 6
    · subst h6; exact r0
    · dsimp only
      rw [pi_r j (by omega), pi_p j (by omega)]
      exact (F5 j (by omega)).2.1
  by_cases hRp : 66 ≤ k ∧ k < 73
  · obtain ⟨j, rfl⟩ : ∃ j, k = 66 + j := ⟨k - 66, by omega⟩
    refine (gE_Rp (by omega)).mpr ⟨fun _ => 0, ?_⟩
    by_cases h6 : j = 6
    · subst h6; exact r1
    · dsimp only
      rw [pi_p j (by omega)]
      exact (F5 j (by omega)).2.2
  unfold gK
  rw [if_neg (by omega), if_neg (by omega), if_neg (by omega), if_neg (by omega), if_neg (by omega), if_neg (by omega), if_neg (by omega), if_neg (by omega), if_neg (by omega), if_neg (by omega), if_neg (by omega), if_neg (by omega), if_neg (by omega), if_neg (by omega), if_neg (by omega), if_neg (by omega), if_neg (by omega), if_neg (by omega), if_neg (by omega), if_neg (by omega), if_neg (by omega), if_neg (by omega), if_neg (by omega), if_neg (by omega), if_neg (by omega)]
  trivial
set_option maxRecDepth 100000 in
theorem mr_start {cy : Nat → ClassId} {ad : Nat → Nat} {ce : Nat → va_E} (h : p8 cy ad ce) : mOK cy ad (fun _ => 0) 0 0 (fun _ => 0) (fun _ => 0) (fun _ => 0) ce := by
  obtain ⟨h0, h1, h2, h3, h4, h5, h6, h7, h8, h9, h10, h11, h12, h13, h14, h15, h16, h17, h18, h19, h20, h21, h22, h23, h24, h25, h26, h27, h28, h29, h30, h31, h32, h33⟩ := h
  intro k
  by_cases q0 : k = 0
  · subst q0
    exact mE_Mo.mpr ⟨0, 0, 0, 0, 0, 0, 0, 0, 0, 0, 0, 0, 0, 0, 0, 0, h0, by decide, by decide, by decide, by decide, by decide, by decide, by decide, by decide, by decide, by decide, by decide, by decide, by decide, by decide, by decide, by decide, by decide, by decide, by decide, by decide, by decide, by decide⟩
  by_cases q1 : k = 1
  · subst q1
    exact mE_Rm.mpr ⟨_, h1⟩
  by_cases q2 : k = 2
  · subst q2
    exact mE_Dn.mpr ⟨_, h2⟩
  by_cases q3 : k = 3
  · subst q3
    exact mE_Bx.mpr ⟨_, h3⟩
  by_cases q4 : k = 4
  · subst q4
    exact mE_Dr.mpr ⟨_, h4⟩
  by_cases q5 : k = 5
  · subst q5
    exact mE_Sh.mpr ⟨_, h5⟩
  by_cases q6 : k = 6
  · subst q6
    exact mE_Lg.mpr ⟨_, h6⟩
  by_cases q7 : k = 7
  · subst q7
    exact mE_Ri.mpr ⟨_, h7⟩
  by_cases q8 : k = 8
  · subst q8
    exact mE_Ld.mpr ⟨_, h8⟩
  by_cases q9 : k = 9
  · subst q9
    exact mE_Sf.mpr ⟨_, h9⟩
  by_cases q10 : k = 10
  · subst q10
    exact mE_Sp.mpr ⟨_, h10⟩
  by_cases q11 : k = 11
  · subst q11
    exact mE_In.mpr ⟨_, h11⟩
  by_cases q12 : k = 12
  · subst q12
    exact mE_Nl.mpr ⟨_, h12⟩
  by_cases q13 : k = 13
  · subst q13
    exact mE_Nx.mpr ⟨_, h13⟩
  by_cases q14 : k = 14
  · subst q14
    exact mE_Ny.mpr ⟨_, h14⟩
  by_cases q15 : k = 15
  · subst q15
    exact mE_Fa.mpr ⟨_, h15⟩
  by_cases q16 : k = 16
  · subst q16
    exact mE_By.mpr ⟨h16, fun i hi => by decide⟩
  by_cases q17 : k = 17
  · subst q17
    exact mE_Se.mpr h17
  by_cases q18 : k = 18
  · subst q18
    exact mE_Wy.mpr ⟨_, h18, fun i hi => by decide⟩
  by_cases q19 : k = 19
  · subst q19
    exact mE_BX.mpr ⟨_, h19⟩
  by_cases q20 : k = 20
  · subst q20
    exact mE_BY.mpr ⟨_, h20⟩
  by_cases q21 : k = 21
  · subst q21
    exact mE_BL.mpr ⟨_, h21⟩
  by_cases q22 : k = 22
  · subst q22
    exact mE_Wl.mpr ⟨_, h22⟩
  by_cases q23 : k = 23
  · subst q23
    exact mE_Wx.mpr ⟨_, h23⟩
  by_cases q24 : k = 24
  · subst q24
    exact mE_Wz.mpr ⟨_, h24⟩
  by_cases q25 : k = 25
  · subst q25
    exact mE_Ah.mpr ⟨h25, fun i hi => by decide⟩
  by_cases q26 : k = 26
  · subst q26
    exact mE_RL.mpr ⟨_, h26⟩
  by_cases q27 : k = 27
  · subst q27
    exact mE_RX.mpr ⟨_, h27⟩
  by_cases q28 : k = 28
  · subst q28
    exact mE_RY.mpr ⟨_, h28⟩
  by_cases q29 : k = 29
  · subst q29
    exact mE_Wt.mpr ⟨_, h29⟩
  by_cases q30 : k = 30
  · subst q30
    exact mE_Is.mpr ⟨_, h30⟩
  by_cases q31 : k = 31
  · subst q31
    exact mE_Ss.mpr ⟨_, h31⟩
  by_cases q32 : k = 32
  · subst q32
    exact mE_We.mpr ⟨_, h32⟩
  by_cases q33 : k = 33
  · subst q33
    exact mE_Lo.mpr ⟨_, h33⟩
  unfold mK
  rw [if_neg (by omega), if_neg (by omega), if_neg (by omega), if_neg (by omega), if_neg (by omega), if_neg (by omega), if_neg (by omega), if_neg (by omega), if_neg (by omega), if_neg (by omega), if_neg (by omega), if_neg (by omega), if_neg (by omega), if_neg (by omega), if_neg (by omega), if_neg (by omega), if_neg (by omega), if_neg (by omega), if_neg (by omega), if_neg (by omega), if_neg (by omega), if_neg (by omega), if_neg (by omega), if_neg (by omega), if_neg (by omega), if_neg (by omega), if_neg (by omega), if_neg (by omega), if_neg (by omega), if_neg (by omega), if_neg (by omega), if_neg (by omega), if_neg (by omega), if_neg (by omega)]
  trivial
theorem p8_tr {cy : Nat → ClassId} {ad ad1 : Nat → Nat} {ce ce1 : Nat → va_E} (h : p8 cy ad ce) (ha : ∀ i, i ≤ 33 → ad1 i = ad i) (hc : ∀ i, i ≤ 33 → ce1 i = ce i) : p8 cy ad1 ce1 := by
  unfold p8 at h ⊢
  rw [hc 0 (by omega), hc 1 (by omega), hc 2 (by omega), hc 3 (by omega), hc 4 (by omega), hc 5 (by omega), hc 6 (by omega), hc 7 (by omega), hc 8 (by omega), hc 9 (by omega), hc 10 (by omega), hc 11 (by omega), hc 12 (by omega), hc 13 (by omega), hc 14 (by omega), hc 15 (by omega), hc 16 (by omega), hc 17 (by omega), hc 18 (by omega), hc 19 (by omega), hc 20 (by omega), hc 21 (by omega), hc 22 (by omega), hc 23 (by omega), hc 24 (by omega), hc 25 (by omega), hc 26 (by omega), hc 27 (by omega), hc 28 (by omega), hc 29 (by omega), hc 30 (by omega), hc 31 (by omega), hc 32 (by omega), hc 33 (by omega), ha 1 (by omega), ha 2 (by omega), ha 3 (by omega), ha 4 (by omega), ha 5 (by omega), ha 6 (by omega), ha 7 (by omega), ha 8 (by omega), ha 9 (by omega), ha 10 (by omega), ha 11 (by omega), ha 12 (by omega), ha 13 (by omega), ha 14 (by omega), ha 15 (by omega), ha 16 (by omega), ha 17 (by omega), ha 18 (by omega), ha 19 (by omega), ha 20 (by omega), ha 21 (by omega), ha 22 (by omega), ha 23 (by omega), ha 24 (by omega), ha 25 (by omega), ha 26 (by omega), ha 27 (by omega), ha 28 (by omega), ha 29 (by omega), ha 30 (by omega), ha 31 (by omega), ha 32 (by omega), ha 33 (by omega)]
  exact h
