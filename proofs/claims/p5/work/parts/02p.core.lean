/-! the world of a pool: n cells at the addresses ad, with the contents ce -/
def zw (n : Nat) (ad : Nat → Nat) (ce : Nat → va_E) : va_W := (List.range n).map (fun k => (ad k, ce k))
def zJ (n : Nat) (ad : Nat → Nat) : Prop := ∀ i j : Nat, i < n → j < n → ad i = ad j → i = j
def zA (n : Nat) (ad : Nat → Nat) : Nat → Prop := fun q => ∃ k : Nat, k < n ∧ q = ad k
theorem zw_at {n : Nat} {ad : Nat → Nat} {ce : Nat → va_E} {k : Nat} {e : va_E} (hk : k < n) (he : ce k = e) : (zw n ad ce)[k]? = some (ad k, e) := by
  subst he
  unfold zw
  rw [List.getElem?_map, List.getElem?_range hk]
  rfl
theorem zw_of {n : Nat} {ad : Nat → Nat} {ce : Nat → va_E} {k : Nat} {q : Nat × va_E} (h : (zw n ad ce)[k]? = some q) : k < n ∧ q = (ad k, ce k) := by
  by_cases hk : k < n
  · rw [zw_at hk rfl] at h
    exact ⟨hk, (Option.some.inj h).symm⟩
  · exfalso
    unfold zw at h
    rw [List.getElem?_map, List.getElem?_eq_none (by rw [List.length_range]; omega)] at h
    cases h
theorem zw_set {n : Nat} {ad : Nat → Nat} {ce ce1 : Nat → va_E} {k : Nat} {e : va_E} (hk : k < n) (h1 : ce1 k = e) (h2 : ∀ q, q ≠ k → ce1 q = ce q) : (zw n ad ce).set k (ad k, e) = zw n ad ce1 := by
  have hlen : ∀ f : Nat → va_E, (zw n ad f).length = n := fun f => by unfold zw; rw [List.length_map, List.length_range]
  apply List.ext_getElem?
  intro j
  by_cases hj : j < n
  · by_cases hjk : j = k
    · subst hjk
      rw [zw_at hj h1, List.getElem?_set_self (by rw [hlen]; exact hj)]
    · rw [List.getElem?_set_ne (fun h => hjk h.symm), zw_at hj rfl, zw_at hj rfl, h2 j hjk]
  · rw [List.getElem?_eq_none (by rw [List.length_set, hlen]; omega), List.getElem?_eq_none (by rw [hlen]; omega)]
theorem zw_D {n : Nat} {ad : Nat → Nat} {ce : Nat → va_E} (hJ : zJ n ad) : va_D (zA n ad) (zw n ad ce) := by
  refine ⟨fun i j p q hi hj h => ?_, fun k q hk => ?_⟩
  · obtain ⟨a1, rfl⟩ := zw_of hi
    obtain ⟨a2, rfl⟩ := zw_of hj
    exact hJ i j a1 a2 h
  · obtain ⟨a1, rfl⟩ := zw_of hk
    exact ⟨k, a1, rfl⟩
theorem z_up {OKK : Nat → va_E → Prop} {ce ce1 : Nat → va_E} (k : Nat) (h : ∀ q, OKK q (ce q)) (h2 : ∀ q, q ≠ k → ce1 q = ce q) (h1 : OKK k (ce1 k)) : ∀ q, OKK q (ce1 q) := by
  intro q
  by_cases hq : q = k
  · subst hq; exact h1
  · rw [h2 q hq]; exact h q
theorem z_up2 {OKK OKL : Nat → va_E → Prop} {ce ce1 : Nat → va_E} (k : Nat) (h : ∀ q, OKK q (ce q)) (h2 : ∀ q, q ≠ k → ce1 q = ce q) (hm : ∀ q e, q ≠ k → OKK q e → OKL q e) (h1 : OKL k (ce1 k)) : ∀ q, OKL q (ce1 q) := by
  intro q
  by_cases hq : q = k
  · subst hq; exact h1
  · rw [h2 q hq]; exact hm q _ hq (h q)
theorem z_updc {f : Nat → Int32} {N k : Nat} {lo hi : Int} {x : Int32} (h : ∀ i : Nat, i < N → lo ≤ (f i).toInt ∧ (f i).toInt ≤ hi) (hx : lo ≤ x.toInt ∧ x.toInt ≤ hi) (i : Nat) (hi' : i < N) : lo ≤ (upd f k x i).toInt ∧ (upd f k x i).toInt ≤ hi := by
  by_cases e : i = k
  · subst e; rw [pk_us]; exact hx
  · rw [pk_un e]; exact h i hi'
theorem z_toI {x y : Int32} (h : x.toInt = y.toInt) : x = y := Int32.toInt_inj.mp h
theorem z_nb {v : Int32} (h : v.toInt = 0 ∨ v.toInt = 1) : narrow .boolean (.int v) = .int v := by
  rcases h with h | h
  · have e : v = 0 := z_toI (by rw [h]; rfl)
    subst e; rfl
  · have e : v = 1 := z_toI (by rw [h]; rfl)
    subst e; rfl
theorem z_fb {v : Int32} (h : v.toInt = 0 ∨ v.toInt = 1) : fits .boolean (.int v) = true := by
  rcases h with h | h
  · have e : v = 0 := z_toI (by rw [h]; rfl)
    subst e; rfl
  · have e : v = 1 := z_toI (by rw [h]; rfl)
    subst e; rfl
theorem z_in {x : Int32} {n : Nat} (h1 : 0 ≤ x.toInt) (h2 : x.toInt < n) : vp_in x n := vp_in_iff.mpr ⟨h1, h2⟩
theorem z_cl {x : Int32} (h1 : 0 ≤ x.toInt) : ((x.toNatClampNeg : Nat) : Int) = x.toInt := by
  show ((x.toInt.toNat : Nat) : Int) = x.toInt
  exact Int.toNat_of_nonneg h1
theorem z_rng (x : Int32) : -2147483648 ≤ x.toInt ∧ x.toInt ≤ 2147483647 := by
  have h1 := Int32.le_toInt x
  have h2 := Int32.toInt_lt x
  constructor <;> omega
theorem z_addI {x y : Int32} (h1 : -2147483648 ≤ x.toInt + y.toInt) (h2 : x.toInt + y.toInt ≤ 2147483647) : (x + y).toInt = x.toInt + y.toInt := by
  rw [Int32.toInt_add]
  exact Int.bmod_eq_of_le (by omega) (by omega)
theorem z_subI {x y : Int32} (h1 : -2147483648 ≤ x.toInt - y.toInt) (h2 : x.toInt - y.toInt ≤ 2147483647) : (x - y).toInt = x.toInt - y.toInt := by
  rw [Int32.toInt_sub]
  exact Int.bmod_eq_of_le (by omega) (by omega)
theorem z_mulI {x y : Int32} (h1 : -2147483648 ≤ x.toInt * y.toInt) (h2 : x.toInt * y.toInt ≤ 2147483647) : (x * y).toInt = x.toInt * y.toInt := by
  rw [Int32.toInt_mul]
  exact Int.bmod_eq_of_le (by omega) (by omega)
theorem z_ne0 {y : Int32} (h : ¬ y.toInt = 0) : ¬ y = 0 := fun q => h (by rw [q]; rfl)
theorem z_same {f : Nat → Int32} {N : Nat} {i v w : Int32} (h : ∃ j : Nat, (j : Int) = i.toInt ∧ j < N ∧ v = f j) (h2 : ∃ j : Nat, (j : Int) = i.toInt ∧ j < N ∧ w = f j) : v.toInt = w.toInt := by
  obtain ⟨a, a1, _, a3⟩ := h
  obtain ⟨b, b1, _, b3⟩ := h2
  have e : a = b := by omega
  subst e
  rw [a3, b3]
theorem z_hA {f : Nat → Int32} {N : Nat} {i v : Int32} (h : ∃ j : Nat, (j : Int) = i.toInt ∧ j < N ∧ v = f j) (hv : 0 < v.toInt) : ∀ q : Nat, (q : Int) = i.toInt → 1 ≤ (f q).toInt := by
  intro q hq
  obtain ⟨a, a1, _, a3⟩ := h
  have e : q = a := by omega
  subst e
  rw [← a3]
  omega
section ZR
variable {p : Program} {l : Launch} {e : Env} {R : Room} {s : State} {m : MethodId} {args : Array Value} {below : List Frame} {meth : Method} {c : Code} {H : Heap} {locs : List Loc} {cells slots : Nat} {Q : State → Prop}
variable {cc : ByteArray} {pc : Nat} {ls : Array Slot} {rest : List Value} {D : va_G} {cl : List vw_C} {a : Nat} {tys : List (ClassId × FieldType)} {n : Nat} {ad : Nat → Nat} {ce : Nat → va_E} {H0 : Heap}
theorem z_ic (hx : p.tables.exec = Jvm.exec) (hb : c.code = cc) {k : Int} (hdg : decode cc pc = .ok (.iconst k, 1)) (hk : (Int32.ofInt k).toInt = k)
    (kk : ∀ v : Int32, v.toInt = k → W p l e R s m args below meth c H locs cells slots Q (F0 m (pc + 1) ls (.int v :: rest))) : W p l e R s m args below meth c H locs cells slots Q (F0 m pc ls rest) := lv_iconst hx hb hdg rfl (kk _ hk)
theorem z_bi (hx : p.tables.exec = Jvm.exec) (hb : c.code = cc) {k : Int} (hdg : decode cc pc = .ok (.bipush k, 2)) (hk : (Int8.ofInt k).toInt32.toInt = k)
    (kk : ∀ v : Int32, v.toInt = k → W p l e R s m args below meth c H locs cells slots Q (F0 m (pc + 2) ls (.int v :: rest))) : W p l e R s m args below meth c H locs cells slots Q (F0 m pc ls rest) := lv_bipush hx hb hdg rfl (kk _ hk)
theorem z_si (hx : p.tables.exec = Jvm.exec) (hb : c.code = cc) {k : Int} (hdg : decode cc pc = .ok (.sipush k, 3)) (hk : (Int16.ofInt k).toInt32.toInt = k)
    (kk : ∀ v : Int32, v.toInt = k → W p l e R s m args below meth c H locs cells slots Q (F0 m (pc + 3) ls (.int v :: rest))) : W p l e R s m args below meth c H locs cells slots Q (F0 m pc ls rest) := lv_sipush hx hb hdg rfl (kk _ hk)
theorem z_ldc (hx : p.tables.exec = Jvm.exec) (hb : c.code = cc) {own : String} {index : Nat} {v : Int32} {k : Int} (hown : s.vm.findClass own = some m.cls) (hc : (Jvm.Cond.constant own index v).before args s = true) (hdg : decode cc pc = .ok (.ldc index, 2)) (hk : v.toInt = k)
    (kk : ∀ v : Int32, v.toInt = k → W p l e R s m args below meth c H locs cells slots Q (F0 m (pc + 2) ls (.int v :: rest))) : W p l e R s m args below meth c H locs cells slots Q (F0 m pc ls rest) := lv_ldc hx hb hown hc hdg (kk _ hk)
theorem z_addE (hx : p.tables.exec = Jvm.exec) (hb : c.code = cc) {x y : Int32} (hdg : decode cc pc = .ok (.iadd, 1)) (h : -2147483648 ≤ x.toInt + y.toInt ∧ x.toInt + y.toInt ≤ 2147483647)
    (kk : ∀ v : Int32, v.toInt = x.toInt + y.toInt → W p l e R s m args below meth c H locs cells slots Q (F0 m (pc + 1) ls (.int v :: rest))) : W p l e R s m args below meth c H locs cells slots Q (F0 m pc ls (.int y :: .int x :: rest)) := lv_iadd hx hb hdg (kk _ (z_addI h.1 h.2))
theorem z_subE (hx : p.tables.exec = Jvm.exec) (hb : c.code = cc) {x y : Int32} (hdg : decode cc pc = .ok (.isub, 1)) (h : -2147483648 ≤ x.toInt - y.toInt ∧ x.toInt - y.toInt ≤ 2147483647)
    (kk : ∀ v : Int32, v.toInt = x.toInt - y.toInt → W p l e R s m args below meth c H locs cells slots Q (F0 m (pc + 1) ls (.int v :: rest))) : W p l e R s m args below meth c H locs cells slots Q (F0 m pc ls (.int y :: .int x :: rest)) := lv_isub hx hb hdg (kk _ (z_subI h.1 h.2))
/-- a product by a known number on top -/
theorem z_mulK (hx : p.tables.exec = Jvm.exec) (hb : c.code = cc) {x y : Int32} (k : Int) (hdg : decode cc pc = .ok (.imul, 1)) (hk : y.toInt = k) (h : -2147483648 ≤ x.toInt * k ∧ x.toInt * k ≤ 2147483647)
    (kk : ∀ v : Int32, v.toInt = x.toInt * k → W p l e R s m args below meth c H locs cells slots Q (F0 m (pc + 1) ls (.int v :: rest))) : W p l e R s m args below meth c H locs cells slots Q (F0 m pc ls (.int y :: .int x :: rest)) := by
  subst hk
  exact lv_imul hx hb hdg (kk _ (z_mulI h.1 h.2))
theorem z_mulJ (hx : p.tables.exec = Jvm.exec) (hb : c.code = cc) {x y : Int32} (k : Int) (hdg : decode cc pc = .ok (.imul, 1)) (hk : x.toInt = k) (h : -2147483648 ≤ k * y.toInt ∧ k * y.toInt ≤ 2147483647)
    (kk : ∀ v : Int32, v.toInt = k * y.toInt → W p l e R s m args below meth c H locs cells slots Q (F0 m (pc + 1) ls (.int v :: rest))) : W p l e R s m args below meth c H locs cells slots Q (F0 m pc ls (.int y :: .int x :: rest)) := by
  subst hk
  exact lv_imul hx hb hdg (kk _ (z_mulI h.1 h.2))
theorem z_divK (hx : p.tables.exec = Jvm.exec) (hb : c.code = cc) {x y : Int32} (k : Nat) (hdg : decode cc pc = .ok (.idiv, 1)) (hk : y.toInt = k) (h0 : 0 < k) (hk2 : k < 2147483648) (h : 0 ≤ x.toInt)
    (kk : ∀ v : Int32, v.toInt = x.toInt / k → W p l e R s m args below meth c H locs cells slots Q (F0 m (pc + 1) ls (.int v :: rest))) : W p l e R s m args below meth c H locs cells slots Q (F0 m pc ls (.int y :: .int x :: rest)) := by
  have hy : y = nI k := z_toI (by rw [hk, nI_toInt (by omega)])
  obtain ⟨j, hj, rfl⟩ := nI_of (x := x) (fun q => by
    have q2 := Int32.lt_iff_toInt_lt.mp q
    have e : (0 : Int32).toInt = 0 := rfl
    omega)
  subst hy
  have e1 := nI_toInt (n := j) hj
  refine lv_idiv hx hb hdg (nI_ne0 h0 (by omega)) (kk _ ?_)
  rw [pk_div hj h0 (by omega), nI_toInt (Nat.lt_of_le_of_lt (Nat.div_le_self j k) hj), e1]
  rfl
theorem z_remK (hx : p.tables.exec = Jvm.exec) (hb : c.code = cc) {x y : Int32} (k : Nat) (hdg : decode cc pc = .ok (.irem, 1)) (hk : y.toInt = k) (h0 : 0 < k) (hk2 : k < 2147483648)
    (kk : ∀ v : Int32, W p l e R s m args below meth c H locs cells slots Q (F0 m (pc + 1) ls (.int v :: rest))) : W p l e R s m args below meth c H locs cells slots Q (F0 m pc ls (.int y :: .int x :: rest)) := by
  refine lv_irem hx hb hdg (fun q => ?_) (kk _)
  subst q
  have e : (0 : Int32).toInt = 0 := rfl
  omega
theorem z_laddE (hx : p.tables.exec = Jvm.exec) (hb : c.code = cc) {x y : Int64} (hdg : decode cc pc = .ok (.ladd, 1)) (h : -9223372036854775808 ≤ x.toInt + y.toInt ∧ x.toInt + y.toInt ≤ 9223372036854775807)
    (kk : ∀ v : Int64, v.toInt = x.toInt + y.toInt → W p l e R s m args below meth c H locs cells slots Q (F0 m (pc + 1) ls (.long v :: rest))) : W p l e R s m args below meth c H locs cells slots Q (F0 m pc ls (.long y :: .long x :: rest)) :=
  lv_ladd hx hb hdg (kk _ (by rw [Int64.toInt_add]; exact Int.bmod_eq_of_le (by omega) (by omega)))
theorem z_lsubE (hx : p.tables.exec = Jvm.exec) (hb : c.code = cc) {x y : Int64} (hdg : decode cc pc = .ok (.lsub, 1)) (h : -9223372036854775808 ≤ x.toInt - y.toInt ∧ x.toInt - y.toInt ≤ 9223372036854775807)
    (kk : ∀ v : Int64, v.toInt = x.toInt - y.toInt → W p l e R s m args below meth c H locs cells slots Q (F0 m (pc + 1) ls (.long v :: rest))) : W p l e R s m args below meth c H locs cells slots Q (F0 m pc ls (.long y :: .long x :: rest)) :=
  lv_lsub hx hb hdg (kk _ (by rw [Int64.toInt_sub]; exact Int.bmod_eq_of_le (by omega) (by omega)))
theorem z_ldiv2 (hx : p.tables.exec = Jvm.exec) (hb : c.code = cc) {x y : Int64} (hdg : decode cc pc = .ok (.ldiv, 1)) (hk : y.toInt = 2) (h : 0 ≤ x.toInt)
    (kk : ∀ v : Int64, v.toInt = x.toInt / 2 → W p l e R s m args below meth c H locs cells slots Q (F0 m (pc + 1) ls (.long v :: rest))) : W p l e R s m args below meth c H locs cells slots Q (F0 m pc ls (.long y :: .long x :: rest)) := by
  have hy : y = lN 2 := Int64.toInt_inj.mp (by rw [hk]; rfl)
  obtain ⟨j, hj, rfl⟩ := pk_lOf (x := x) (fun q => by
    have q2 := Int64.lt_iff_toInt_lt.mp q
    have e : (0 : Int64).toInt = 0 := rfl
    omega)
  subst hy
  have e1 := pk_lT (n := j) hj
  refine lv_ldiv hx hb hdg (fun q => ?_) (kk _ ?_)
  · rw [q] at hk
    exact absurd hk (by decide)
  · rw [pk_lDiv hj (by decide) (by decide), pk_lT (by omega), e1]
    rfl
theorem z_lcmp (hx : p.tables.exec = Jvm.exec) (hb : c.code = cc) {x y : Int64} (hdg : decode cc pc = .ok (.lcmp, 1))
    (kk : ∀ v : Int32, ((x.toInt < y.toInt ∧ v.toInt = -1) ∨ (x.toInt = y.toInt ∧ v.toInt = 0) ∨ (y.toInt < x.toInt ∧ v.toInt = 1)) → W p l e R s m args below meth c H locs cells slots Q (F0 m (pc + 1) ls (.int v :: rest))) : W p l e R s m args below meth c H locs cells slots Q (F0 m pc ls (.long y :: .long x :: rest)) := by
  refine W.lcmp hx hb hdg (kk _ ?_)
  unfold lg_cmp
  by_cases h1 : x > y
  · rw [if_pos h1]
    exact Or.inr (Or.inr ⟨Int64.lt_iff_toInt_lt.mp h1, rfl⟩)
  · rw [if_neg h1]
    by_cases h2 : x = y
    · rw [if_pos h2]
      exact Or.inr (Or.inl ⟨by rw [h2], rfl⟩)
    · rw [if_neg h2]
      have h3 : ¬ y.toInt < x.toInt := fun q => h1 (Int64.lt_iff_toInt_lt.mpr q)
      have h4 : ¬ x.toInt = y.toInt := fun q => h2 (Int64.toInt_inj.mp q)
      exact Or.inl ⟨by omega, rfl⟩
theorem z_neg (hx : p.tables.exec = Jvm.exec) (hb : c.code = cc) {x : Int32} (hdg : decode cc pc = .ok (.ineg, 1))
    (kk : ∀ v : Int32, (v.toInt = 0 → x.toInt = 0) → W p l e R s m args below meth c H locs cells slots Q (F0 m (pc + 1) ls (.int v :: rest))) : W p l e R s m args below meth c H locs cells slots Q (F0 m pc ls (.int x :: rest)) := by
  refine lv_ineg hx hb hdg (kk _ (fun h => ?_))
  have e : -x = 0 := z_toI (by rw [h]; rfl)
  have e2 : x = 0 := by rw [← Int32.neg_neg (a := x), e]; rfl
  rw [e2]; rfl
theorem z_iinc (hx : p.tables.exec = Jvm.exec) (hb : c.code = cc) {i nL k : Nat} {q : Int} {x : Int32} {lv : List (Nat × Value)} (lv' : Int32 → List (Nat × Value)) (hdg : decode cc pc = .ok (.iinc i q, 3)) (h : lv_has ls nL lv) (hk : lv[k]? = some (i, .int x)) (hn : i < nL) (hl : ∀ v : Int32, (i, Value.int v) :: lv.filter (fun q => !(q.1 == i) && !(q.1 + 1 == i && q.2.category == 2)) = lv' v) (hq : (Int32.ofInt q).toInt = q) (hr : -2147483648 ≤ x.toInt + q ∧ x.toInt + q ≤ 2147483647)
    (kk : ∀ (v : Int32) (ls : Array Slot), v.toInt = x.toInt + q → lv_has ls nL (lv' v) → W p l e R s m args below meth c H locs cells slots Q (F0 m (pc + 3) ls rest)) : W p l e R s m args below meth c H locs cells slots Q (F0 m pc ls rest) :=
  lv_iinc (v := x + Int32.ofInt q) hx hb hdg h hk rfl hn (hl _) (fun ls1 h1 => kk _ ls1 (by rw [z_addI (by rw [hq]; exact hr.1) (by rw [hq]; exact hr.2), hq]) h1)
theorem z_if_eq (hx : p.tables.exec = Jvm.exec) (hb : c.code = cc) {x : Int32} {off : Int} {tgt : Nat} (hdg : decode cc pc = .ok (.ifCond .eq off, 3)) (ht : (pc : Int) + off = (tgt : Int))
    (kt : x.toInt = 0 → W p l e R s m args below meth c H locs cells slots Q (F0 m tgt ls rest)) (kf : ¬ x.toInt = 0 → W p l e R s m args below meth c H locs cells slots Q (F0 m (pc + 3) ls rest)) : W p l e R s m args below meth c H locs cells slots Q (F0 m pc ls (.int x :: rest)) :=
  lv_if_eq hx hb hdg ht (fun h => kt (by rw [h]; rfl)) (fun h => kf (fun q => h (z_toI (by rw [q]; rfl))))
theorem z_if_ne (hx : p.tables.exec = Jvm.exec) (hb : c.code = cc) {x : Int32} {off : Int} {tgt : Nat} (hdg : decode cc pc = .ok (.ifCond .ne off, 3)) (ht : (pc : Int) + off = (tgt : Int))
    (kt : ¬ x.toInt = 0 → W p l e R s m args below meth c H locs cells slots Q (F0 m tgt ls rest)) (kf : x.toInt = 0 → W p l e R s m args below meth c H locs cells slots Q (F0 m (pc + 3) ls rest)) : W p l e R s m args below meth c H locs cells slots Q (F0 m pc ls (.int x :: rest)) :=
  lv_if_ne hx hb hdg ht (fun h => kt (fun q => h (z_toI (by rw [q]; rfl)))) (fun h => kf (by rw [h]; rfl))
theorem z_if_lt (hx : p.tables.exec = Jvm.exec) (hb : c.code = cc) {x : Int32} {off : Int} {tgt : Nat} (hdg : decode cc pc = .ok (.ifCond .lt off, 3)) (ht : (pc : Int) + off = (tgt : Int))
    (kt : x.toInt < 0 → W p l e R s m args below meth c H locs cells slots Q (F0 m tgt ls rest)) (kf : 0 ≤ x.toInt → W p l e R s m args below meth c H locs cells slots Q (F0 m (pc + 3) ls rest)) : W p l e R s m args below meth c H locs cells slots Q (F0 m pc ls (.int x :: rest)) :=
  lv_if_lt hx hb hdg ht (fun h => kt (Int32.lt_iff_toInt_lt.mp h)) (fun h => kf (Int.not_lt.mp (fun q => h (Int32.lt_iff_toInt_lt.mpr q))))
theorem z_if_ge (hx : p.tables.exec = Jvm.exec) (hb : c.code = cc) {x : Int32} {off : Int} {tgt : Nat} (hdg : decode cc pc = .ok (.ifCond .ge off, 3)) (ht : (pc : Int) + off = (tgt : Int))
    (kt : 0 ≤ x.toInt → W p l e R s m args below meth c H locs cells slots Q (F0 m tgt ls rest)) (kf : x.toInt < 0 → W p l e R s m args below meth c H locs cells slots Q (F0 m (pc + 3) ls rest)) : W p l e R s m args below meth c H locs cells slots Q (F0 m pc ls (.int x :: rest)) :=
  lv_if_ge hx hb hdg ht (fun h => kt (Int32.le_iff_toInt_le.mp h)) (fun h => kf (Int.not_le.mp (fun q => h (Int32.le_iff_toInt_le.mpr q))))
theorem z_if_gt (hx : p.tables.exec = Jvm.exec) (hb : c.code = cc) {x : Int32} {off : Int} {tgt : Nat} (hdg : decode cc pc = .ok (.ifCond .gt off, 3)) (ht : (pc : Int) + off = (tgt : Int))
    (kt : 0 < x.toInt → W p l e R s m args below meth c H locs cells slots Q (F0 m tgt ls rest)) (kf : x.toInt ≤ 0 → W p l e R s m args below meth c H locs cells slots Q (F0 m (pc + 3) ls rest)) : W p l e R s m args below meth c H locs cells slots Q (F0 m pc ls (.int x :: rest)) :=
  lv_if_gt hx hb hdg ht (fun h => kt (Int32.lt_iff_toInt_lt.mp h)) (fun h => kf (Int.not_lt.mp (fun q => h (Int32.lt_iff_toInt_lt.mpr q))))
theorem z_if_le (hx : p.tables.exec = Jvm.exec) (hb : c.code = cc) {x : Int32} {off : Int} {tgt : Nat} (hdg : decode cc pc = .ok (.ifCond .le off, 3)) (ht : (pc : Int) + off = (tgt : Int))
    (kt : x.toInt ≤ 0 → W p l e R s m args below meth c H locs cells slots Q (F0 m tgt ls rest)) (kf : 0 < x.toInt → W p l e R s m args below meth c H locs cells slots Q (F0 m (pc + 3) ls rest)) : W p l e R s m args below meth c H locs cells slots Q (F0 m pc ls (.int x :: rest)) :=
  lv_if_le hx hb hdg ht (fun h => kt (Int32.le_iff_toInt_le.mp h)) (fun h => kf (Int.not_le.mp (fun q => h (Int32.le_iff_toInt_le.mpr q))))
theorem z_icmp_eq (hx : p.tables.exec = Jvm.exec) (hb : c.code = cc) {x y : Int32} {off : Int} {tgt : Nat} (hdg : decode cc pc = .ok (.if_icmp .eq off, 3)) (ht : (pc : Int) + off = (tgt : Int))
    (kt : x.toInt = y.toInt → W p l e R s m args below meth c H locs cells slots Q (F0 m tgt ls rest)) (kf : ¬ x.toInt = y.toInt → W p l e R s m args below meth c H locs cells slots Q (F0 m (pc + 3) ls rest)) : W p l e R s m args below meth c H locs cells slots Q (F0 m pc ls (.int y :: .int x :: rest)) :=
  lv_icmp_eq hx hb hdg ht (fun h => kt (by rw [h])) (fun h => kf (fun q => h (z_toI q)))
theorem z_icmp_ne (hx : p.tables.exec = Jvm.exec) (hb : c.code = cc) {x y : Int32} {off : Int} {tgt : Nat} (hdg : decode cc pc = .ok (.if_icmp .ne off, 3)) (ht : (pc : Int) + off = (tgt : Int))
    (kt : ¬ x.toInt = y.toInt → W p l e R s m args below meth c H locs cells slots Q (F0 m tgt ls rest)) (kf : x.toInt = y.toInt → W p l e R s m args below meth c H locs cells slots Q (F0 m (pc + 3) ls rest)) : W p l e R s m args below meth c H locs cells slots Q (F0 m pc ls (.int y :: .int x :: rest)) :=
  lv_icmp_ne hx hb hdg ht (fun h => kt (fun q => h (z_toI q))) (fun h => kf (by rw [h]))
theorem z_icmp_lt (hx : p.tables.exec = Jvm.exec) (hb : c.code = cc) {x y : Int32} {off : Int} {tgt : Nat} (hdg : decode cc pc = .ok (.if_icmp .lt off, 3)) (ht : (pc : Int) + off = (tgt : Int))
    (kt : x.toInt < y.toInt → W p l e R s m args below meth c H locs cells slots Q (F0 m tgt ls rest)) (kf : y.toInt ≤ x.toInt → W p l e R s m args below meth c H locs cells slots Q (F0 m (pc + 3) ls rest)) : W p l e R s m args below meth c H locs cells slots Q (F0 m pc ls (.int y :: .int x :: rest)) :=
  lv_icmp_lt hx hb hdg ht (fun h => kt (Int32.lt_iff_toInt_lt.mp h)) (fun h => kf (Int.not_lt.mp (fun q => h (Int32.lt_iff_toInt_lt.mpr q))))
theorem z_icmp_ge (hx : p.tables.exec = Jvm.exec) (hb : c.code = cc) {x y : Int32} {off : Int} {tgt : Nat} (hdg : decode cc pc = .ok (.if_icmp .ge off, 3)) (ht : (pc : Int) + off = (tgt : Int))
    (kt : y.toInt ≤ x.toInt → W p l e R s m args below meth c H locs cells slots Q (F0 m tgt ls rest)) (kf : x.toInt < y.toInt → W p l e R s m args below meth c H locs cells slots Q (F0 m (pc + 3) ls rest)) : W p l e R s m args below meth c H locs cells slots Q (F0 m pc ls (.int y :: .int x :: rest)) :=
  lv_icmp_ge hx hb hdg ht (fun h => kt (Int32.le_iff_toInt_le.mp h)) (fun h => kf (Int.not_le.mp (fun q => h (Int32.le_iff_toInt_le.mpr q))))
theorem z_icmp_gt (hx : p.tables.exec = Jvm.exec) (hb : c.code = cc) {x y : Int32} {off : Int} {tgt : Nat} (hdg : decode cc pc = .ok (.if_icmp .gt off, 3)) (ht : (pc : Int) + off = (tgt : Int))
    (kt : y.toInt < x.toInt → W p l e R s m args below meth c H locs cells slots Q (F0 m tgt ls rest)) (kf : x.toInt ≤ y.toInt → W p l e R s m args below meth c H locs cells slots Q (F0 m (pc + 3) ls rest)) : W p l e R s m args below meth c H locs cells slots Q (F0 m pc ls (.int y :: .int x :: rest)) :=
  lv_icmp_gt hx hb hdg ht (fun h => kt (Int32.lt_iff_toInt_lt.mp h)) (fun h => kf (Int.not_lt.mp (fun q => h (Int32.lt_iff_toInt_lt.mpr q))))
theorem z_icmp_le (hx : p.tables.exec = Jvm.exec) (hb : c.code = cc) {x y : Int32} {off : Int} {tgt : Nat} (hdg : decode cc pc = .ok (.if_icmp .le off, 3)) (ht : (pc : Int) + off = (tgt : Int))
    (kt : x.toInt ≤ y.toInt → W p l e R s m args below meth c H locs cells slots Q (F0 m tgt ls rest)) (kf : y.toInt < x.toInt → W p l e R s m args below meth c H locs cells slots Q (F0 m (pc + 3) ls rest)) : W p l e R s m args below meth c H locs cells slots Q (F0 m pc ls (.int y :: .int x :: rest)) :=
  lv_icmp_le hx hb hdg ht (fun h => kt (Int32.le_iff_toInt_le.mp h)) (fun h => kf (Int.not_le.mp (fun q => h (Int32.le_iff_toInt_le.mpr q))))
/-- a field is written: the cell's new contents, the others' as before -/
theorem z_put (hx : p.tables.exec = Jvm.exec) (hb : c.code = cc) {own ref C : String} {T : u_T} {N ci index : Nat} {Ts : List Cond} (hts : ∀ w ∈ Ts, w.before args s = true) (hin : ∀ w ∈ u_ws C T N, w ∈ Ts) (ty0 : Nat → FieldType) (hty : ∀ k, k < N → parseFieldDescriptor (T k).2.2.1 = some (ty0 k)) (hnm : ∀ a, a < N → ∀ b, b < N → a ≠ b → (T a).2.1 ≠ (T b).2.1) (hown : s.vm.findClass own = some m.cls) (hK : va_K D cl tys s) (hJ : zJ n ad) (hP : va_P D cl (zw n ad ce) H) (hS : va_S (zA n ad) H0 H locs) {q0 : Nat} (hq : q0 < n) {fs : List Value} (he : ce q0 = .inr (ci, fs)) (hc : cl[ci]? = some (C, T, N)) (k : Nat) (hk : k < N) (hlink : (Cond.fieldLink own index ref (T k).2.1 (T k).2.2.1).before args s = true) (hsame : ∀ x, s.fieldFound? (T k).1 (T k).2.1 (T k).2.2.1 = some x → s.fieldFound? ref (T k).2.1 (T k).2.2.1 = some x) (hfin : (T k).2.2.2 = false) {ty : FieldType} {v : Value} (hd : parseFieldDescriptor (T k).2.2.1 = some ty) (hn : narrow ty v = v) (hfit : fits ty v = true) (hl : k < fs.length) {fs1 : List Value} (hf1 : fs.set k v = fs1)
    (hdg : decode cc pc = .ok (.putfield index, 3)) (kk : ∀ (ce1 : Nat → va_E) (H1 : Heap) (locs1 : List Loc), ce1 q0 = .inr (ci, fs1) → (∀ q, q ≠ q0 → ce1 q = ce q) → va_P D cl (zw n ad ce1) H1 → va_S (zA n ad) H0 H1 locs1 → W p l e R s m args below meth c H1 locs1 cells slots Q (F0 m (pc + 3) ls rest)) : W p l e R s m args below meth c H locs cells slots Q (F0 m pc ls (v :: .ref (ad q0) :: rest)) := by
  subst hf1
  refine va_put hx hb hts hin ty0 hty hnm hown hK hP (zw_D hJ) hS q0 (zw_at hq he) hc k hk hlink hsame hfin hd hn hfit hl hdg (fun H1 locs1 h1 _ h3 => ?_)
  rw [zw_set (ce1 := va_up ce q0 (.inr (ci, fs.set k v))) hq (by unfold va_up; exact if_pos rfl) (fun q h => by unfold va_up; exact if_neg h)] at h1
  exact kk _ H1 locs1 (by unfold va_up; exact if_pos rfl) (fun q h => by unfold va_up; exact if_neg h) h1 h3
theorem z_iast (hx : p.tables.exec = Jvm.exec) (hb : c.code = cc) (hK : va_K D cl tys s) (hJ : zJ n ad) (hP : va_P D cl (zw n ad ce) H) (hS : va_S (zA n ad) H0 H locs) {q0 : Nat} (t0 : Nat) (hq : q0 < n) {cA : ClassId} {N : Nat} {f : Nat → Int32} (he : ce q0 = .inl (cA, N, .inl f)) (ht : tys[t0]? = some (cA, .int)) {i : Int32} {x : Int32} (hin : vp_in i N) (hdg : decode cc pc = .ok (.iastore, 1))
    (kk : ∀ (ce1 : Nat → va_E) (H1 : Heap) (locs1 : List Loc), ce1 q0 = .inl (cA, N, .inl (upd f i.toNatClampNeg x)) → (∀ q, q ≠ q0 → ce1 q = ce q) → va_P D cl (zw n ad ce1) H1 → va_S (zA n ad) H0 H1 locs1 → W p l e R s m args below meth c H1 locs1 cells slots Q (F0 m (pc + 1) ls rest)) : W p l e R s m args below meth c H locs cells slots Q (F0 m pc ls (.int x :: .int i :: .ref (ad q0) :: rest)) := by
  refine va_iast hx hb hK hP (zw_D hJ) hS q0 t0 (zw_at hq he) ht hin hdg (fun H1 locs1 h1 _ h3 => ?_)
  rw [zw_set (ce1 := va_up ce q0 (.inl (cA, N, .inl (upd f i.toNatClampNeg x)))) hq (by unfold va_up; exact if_pos rfl) (fun q h => by unfold va_up; exact if_neg h)] at h1
  exact kk _ H1 locs1 (by unfold va_up; exact if_pos rfl) (fun q h => by unfold va_up; exact if_neg h) h1 h3
theorem z_zast (hx : p.tables.exec = Jvm.exec) (hb : c.code = cc) (hK : va_K D cl tys s) (hJ : zJ n ad) (hP : va_P D cl (zw n ad ce) H) (hS : va_S (zA n ad) H0 H locs) {q0 : Nat} (t0 : Nat) (hq : q0 < n) {cA : ClassId} {N : Nat} {f : Nat → Int32} (he : ce q0 = .inl (cA, N, .inl f)) (ht : tys[t0]? = some (cA, .boolean)) {i : Int32} {x : Int32} (hin : vp_in i N) (hdg : decode cc pc = .ok (.bastore, 1))
    (kk : ∀ (ce1 : Nat → va_E) (H1 : Heap) (locs1 : List Loc), ce1 q0 = .inl (cA, N, .inl (upd f i.toNatClampNeg (vp_nar .boolean x))) → (∀ q, q ≠ q0 → ce1 q = ce q) → va_P D cl (zw n ad ce1) H1 → va_S (zA n ad) H0 H1 locs1 → W p l e R s m args below meth c H1 locs1 cells slots Q (F0 m (pc + 1) ls rest)) : W p l e R s m args below meth c H locs cells slots Q (F0 m pc ls (.int x :: .int i :: .ref (ad q0) :: rest)) := by
  refine va_zast hx hb hK hP (zw_D hJ) hS q0 t0 (zw_at hq he) ht hin hdg (fun H1 locs1 h1 _ h3 => ?_)
  rw [zw_set (ce1 := va_up ce q0 (.inl (cA, N, .inl (upd f i.toNatClampNeg (vp_nar .boolean x))))) hq (by unfold va_up; exact if_pos rfl) (fun q h => by unfold va_up; exact if_neg h)] at h1
  exact kk _ H1 locs1 (by unfold va_up; exact if_pos rfl) (fun q h => by unfold va_up; exact if_neg h) h1 h3
theorem z_iald (hx : p.tables.exec = Jvm.exec) (hb : c.code = cc) (hK : va_K D cl tys s) (hP : va_P D cl (zw n ad ce) H) {q0 : Nat} (t0 : Nat) (hq : q0 < n) {cA : ClassId} {N : Nat} {f : Nat → Int32} (he : ce q0 = .inl (cA, N, .inl f)) (ht : tys[t0]? = some (cA, .int)) {i : Int32} (h0 : 0 ≤ i.toInt ∧ i.toInt < N) (hdg : decode cc pc = .ok (.iaload, 1))
    (kk : ∀ v : Int32, (∃ j : Nat, (j : Int) = i.toInt ∧ j < N ∧ v = f j) → W p l e R s m args below meth c H locs cells slots Q (F0 m (pc + 1) ls (.int v :: rest))) : W p l e R s m args below meth c H locs cells slots Q (F0 m pc ls (.int i :: .ref (ad q0) :: rest)) :=
  va_iald hx hb hK hP q0 t0 (zw_at hq he) ht (z_in h0.1 h0.2) hdg (kk _ ⟨_, z_cl h0.1, by have := z_cl h0.1; omega, rfl⟩)
theorem z_zald (hx : p.tables.exec = Jvm.exec) (hb : c.code = cc) (hK : va_K D cl tys s) (hP : va_P D cl (zw n ad ce) H) {q0 : Nat} (t0 : Nat) (hq : q0 < n) {cA : ClassId} {N : Nat} {f : Nat → Int32} (he : ce q0 = .inl (cA, N, .inl f)) (ht : tys[t0]? = some (cA, .boolean)) {i : Int32} (h0 : 0 ≤ i.toInt ∧ i.toInt < N) (hdg : decode cc pc = .ok (.baload, 1))
    (kk : ∀ v : Int32, (∃ j : Nat, (j : Int) = i.toInt ∧ j < N ∧ v = f j) → W p l e R s m args below meth c H locs cells slots Q (F0 m (pc + 1) ls (.int v :: rest))) : W p l e R s m args below meth c H locs cells slots Q (F0 m pc ls (.int i :: .ref (ad q0) :: rest)) :=
  va_zald hx hb hK hP q0 t0 (zw_at hq he) ht (z_in h0.1 h0.2) hdg (kk _ ⟨_, z_cl h0.1, by have := z_cl h0.1; omega, rfl⟩)
theorem z_ald (hx : p.tables.exec = Jvm.exec) (hb : c.code = cc) (hK : va_K D cl tys s) (hP : va_P D cl (zw n ad ce) H) {q0 : Nat} (t0 : Nat) (hq : q0 < n) {cA : ClassId} {C : String} {N : Nat} {f : Nat → Option Nat} (he : ce q0 = .inl (cA, N, .inr (.inr (.inr (.inr f))))) (ht : tys[t0]? = some (cA, .object C)) {i : Int32} (h0 : 0 ≤ i.toInt ∧ i.toInt < N) {g : Nat → Nat} (hf : ∀ j : Nat, j < N → f j = some (ad (g j))) (hdg : decode cc pc = .ok (.aaload, 1))
    (kk : ∀ j : Nat, (j : Int) = i.toInt → W p l e R s m args below meth c H locs cells slots Q (F0 m (pc + 1) ls (.ref (ad (g j)) :: rest))) : W p l e R s m args below meth c H locs cells slots Q (F0 m pc ls (.int i :: .ref (ad q0) :: rest)) := by
  have hc := z_cl h0.1
  refine va_aldq hx hb hK hP q0 t0 (zw_at hq he) ht (z_in h0.1 h0.2) hdg ?_
  rw [hf _ (by omega)]
  exact kk _ hc
end ZR
def nwL : List Cond := [.methodLinkNest RX1 17 yX0_init RX7, .methodLinkNest RX3 41 yX4_init RX7, .methodLinkNest RX3 50 yX7_levelOf RX7, .methodLinkNest RX3 54 yX7_xOf RX7, .methodLinkNest RX3 57 yX7_yOf RX7, .methodLinkNest RX4 7 yX7_levelOf RX7, .methodLinkNest RX4 19 yX7_xOf RX7, .methodLinkNest RX4 25 yX7_yOf RX7, .methodLinkNest RX0 34 yX7_placeAt RX7, .methodLinkNest RX3 86 yX7_rootOf RX7]
def zN (U : State) : Prop := ∀ w ∈ nwL, va_Nw w U
theorem zN_form : ∀ w ∈ nwL, ∃ (a : String) (i : Nat) (x : MethodName) (h : String), w = .methodLinkNest a i x h := by
  intro w hw
  simp only [nwL, List.mem_cons, List.not_mem_nil, or_false] at hw
  rcases hw with h | h | h | h | h | h | h | h | h | h <;> exact ⟨_, _, _, _, h⟩
theorem zN_warm {s U : State} (hW : s.WarmedH U.vm) (h : zN s) : zN U := by
  intro w hw
  obtain ⟨a, i, x, g, rfl⟩ := zN_form w hw
  exact va_Nw.warmM hW (h _ hw)
theorem zN_same {u U : State} (hv : u.vm = U.vm) (h : zN u) : zN U := by
  intro w hw
  obtain ⟨a, i, x, g, rfl⟩ := zN_form w hw
  exact va_Nw.same rfl hv (h _ hw)
/-- a contract over a pool: nothing is made; the words, the tables, the contents OK at the start, Qc at the end -/
def zB (D : va_G) (tys : List (ClassId × FieldType)) (n : Nat) (ad : Nat → Nat) (OK : (Nat → va_E) → Prop) (U : State) : Prop := va_K D vwCl tys U ∧ zN U ∧ ∃ ce, OK ce ∧ va_P D vwCl (zw n ad ce) U.heap
def zM (l : Launch) (D : va_G) (tys : List (ClassId × FieldType)) (n : Nat) (ad : Nat → Nat) (OK : (Nat → va_E) → Prop) (y : MethodName) (ws : List Cond) (rm : Room) (av : List Value) (Qc : Array Value → State → Outcome → State → Prop) : Prop :=
  Met l y ws rm (va_Pc av (zB D tys n ad OK)) Qc 0 0 (zA n ad)
abbrev zQi (D : va_G) (n : Nat) (ad : Nat → Nat) (post : Int32 → (Nat → va_E) → Prop) : Array Value → State → Outcome → State → Prop := va_Qi post (fun ce t => va_P D vwCl (zw n ad ce) t.heap) (zA n ad)
abbrev zQl (D : va_G) (n : Nat) (ad : Nat → Nat) (post : Int64 → (Nat → va_E) → Prop) : Array Value → State → Outcome → State → Prop := va_Ql post (fun ce t => va_P D vwCl (zw n ad ce) t.heap) (zA n ad)
abbrev zQv (D : va_G) (n : Nat) (ad : Nat → Nat) (post : (Nat → va_E) → Prop) : Array Value → State → Outcome → State → Prop := va_Qv post (fun ce t => va_P D vwCl (zw n ad ce) t.heap) (zA n ad)
theorem zB_blind {D : va_G} {tys : List (ClassId × FieldType)} {n : Nat} {ad : Nat → Nat} {OK : (Nat → va_E) → Prop} {av : List Value} : FrameBlind (va_Pc av (zB D tys n ad OK)) := by
  intro a U g mk q
  obtain ⟨q0, qK, qN, ce, qO, qP⟩ := q
  exact ⟨q0, va_K.moved (u := U) (U := U.calling g mk a) (Vm.Alike.refl U.vm) qK, zN_same (u := U) (U := U.calling g mk a) rfl qN, ce, qO, qP⟩
theorem zB_at {D : va_G} {tys : List (ClassId × FieldType)} {n : Nat} {ad : Nat → Nat} {OK : (Nat → va_E) → Prop} {s : State} {H : Heap} {ce : Nat → va_E} {av : List Value} (hK : va_K D vwCl tys s) (hN : zN s) (hO : OK ce) (hP : va_P D vwCl (zw n ad ce) H) : ∀ U : State, U.heap = H → s.WarmedH U.vm → va_Pc av (zB D tys n ad OK) av.toArray U := by
  intro U hU hW
  exact ⟨rfl, va_K.moved hW.alike hK, zN_warm hW hN, ce, hO, by rw [hU]; exact hP⟩
theorem z_of {l : Launch} {D : va_G} {tys : List (ClassId × FieldType)} {n : Nat} {ad : Nat → Nat} {OK : (Nat → va_E) → Prop} {y : MethodName} {ws ws' : List Cond} {rm : Room} {av : List Value} {Qc : Array Value → State → Outcome → State → Prop} {cc : ByteArray} {maxL : Nat} {ret : Option FieldType} (hy : plainName y.cls = true) (hw : ws = Cond.code y cc maxL ret :: ws') (hn : (lg_sl av).length ≤ maxL)
    (body : ∀ (p : Program) (e : Env) (s : State) (m : MethodId) (below : List Frame) (meth : Method) (c : Code), p.tables.exec = Jvm.exec → c.code = cc → meth.sig.returnType = ret → (∀ w ∈ ws, w.before av.toArray s = true) → s.vm.findClass y.cls = some m.cls → meth.locks = false → c.maxLocals = maxL → va_K D vwCl tys s → zN s → ∀ ce : Nat → va_E, OK ce → va_P D vwCl (zw n ad ce) s.heap → ∀ ls : Array Slot, lv_has ls maxL (lv_args 0 av) → W p l e rm s m av.toArray below meth c s.heap [] 0 0 (MQ below Qc av.toArray s 0 0 (zA n ad)) (F0 m 0 ls [])) : zM l D tys n ad OK y ws rm av Qc := by
  refine Met.ofW (cc := cc) (maxL := maxL) (ret := ret) hy hw ?_
  intro p e s m args below meth c s₁ B hml hv
  obtain ⟨rfl, hK, hN, ce, hO, hP⟩ := hv
  have hl := lv_entry av (n := maxL) hn
  rw [lg_entry_eq]
  exact body p e s m below meth c B.exec B.bytes B.returns (atoms_spec (ws := ws) B.pre) (findClass_of_methodNamed B.named) B.notSynchronized hml hK hN ce hO hP _ hl
section ZC
variable {p : Program} {l : Launch} {e : Env} {R : Room} {s : State} {m : MethodId} {args : Array Value} {below : List Frame} {meth : Method} {c : Code} {H : Heap} {locs : List Loc} {cells slots : Nat} {Q : State → Prop}
variable {cc : ByteArray} {pc : Nat} {ls : Array Slot} {rest st0 : List Value} {D : va_G} {tys : List (ClassId × FieldType)} {n : Nat} {ad : Nat → Nat} {ce : Nat → va_E} {H0 : Heap} {a : Array Value}
theorem z_reti {post : Int32 → (Nat → va_E) → Prop} {v : Int32} (hx : p.tables.exec = Jvm.exec) (hb : c.code = cc) (hr : meth.sig.returnType = some .int) (hlocks : meth.locks = false) (hP : va_P D vwCl (zw n ad ce) H) (hS : va_S (zA n ad) s.heap H locs) (hdg : decode cc pc = .ok (.ireturn, 1)) (hpost : post v ce) : W p l e R s m args below meth c H locs cells slots (MQ below (zQi D n ad post) args s cells slots (zA n ad)) (F0 m pc ls [.int v]) :=
  W.iret hx hb hr (fun t ht _ => ⟨⟨v, ce, rfl, hpost, (by subst ht; exact hP)⟩, hS.F ht⟩) hS.2.2 hdg
theorem z_retz {post : Int32 → (Nat → va_E) → Prop} {v : Int32} (hx : p.tables.exec = Jvm.exec) (hb : c.code = cc) (hr : meth.sig.returnType = some .boolean) (hlocks : meth.locks = false) (hP : va_P D vwCl (zw n ad ce) H) (hS : va_S (zA n ad) s.heap H locs) (hdg : decode cc pc = .ok (.ireturn, 1)) (hz : v.toInt = 0 ∨ v.toInt = 1) (hpost : post v ce) : W p l e R s m args below meth c H locs cells slots (MQ below (zQi D n ad post) args s cells slots (zA n ad)) (F0 m pc ls [.int v]) :=
  W.zret hx hb hr (z_nb hz) (fun t ht _ => ⟨⟨v, ce, rfl, hpost, (by subst ht; exact hP)⟩, hS.F ht⟩) hS.2.2 hdg
theorem z_retl {post : Int64 → (Nat → va_E) → Prop} {v : Int64} (hx : p.tables.exec = Jvm.exec) (hb : c.code = cc) (hr : meth.sig.returnType = some .long) (hlocks : meth.locks = false) (hP : va_P D vwCl (zw n ad ce) H) (hS : va_S (zA n ad) s.heap H locs) (hdg : decode cc pc = .ok (.lreturn, 1)) (hpost : post v ce) : W p l e R s m args below meth c H locs cells slots (MQ below (zQl D n ad post) args s cells slots (zA n ad)) (F0 m pc ls [.long v]) :=
  W.lret hx hb hr (fun t ht _ => ⟨⟨v, ce, rfl, hpost, (by subst ht; exact hP)⟩, hS.F ht⟩) hS.2.2 hdg
theorem z_retv {post : (Nat → va_E) → Prop} (hx : p.tables.exec = Jvm.exec) (hb : c.code = cc) (hr : meth.sig.returnType = none) (hlocks : meth.locks = false) (hP : va_P D vwCl (zw n ad ce) H) (hS : va_S (zA n ad) s.heap H locs) (hdg : decode cc pc = .ok (.return_, 1)) (hpost : post ce) : W p l e R s m args below meth c H locs cells slots (MQ below (zQv D n ad post) args s cells slots (zA n ad)) (F0 m pc ls []) :=
  W.vret hx hb hr (fun t ht _ => ⟨⟨ce, rfl, hpost, (by subst ht; exact hP)⟩, hS.F ht⟩) hS.2.2 hdg
variable {y : MethodName} {bytes : ByteArray} {maxL nL nn index : Nat} {ret : Option FieldType} {ws : List Cond} {rm : Room} {Qc : Array Value → State → Outcome → State → Prop} {Ts : List Cond} {own C host : String} {As : List Value} {OK : (Nat → va_E) → Prop}
theorem z_rV {q0 ci : Nat} {fs : List Value} {T : u_T} {N : Nat} (S : CallFix p m c cc nL s args Ts own) (hM : zM l D tys n ad OK y ws rm (.ref (ad q0) :: As) Qc) (cw : CallW R s args own C index y bytes maxL ret ws rm 0 0 nn) (hK : va_K D vwCl tys s) (hN : zN s) (hO : OK ce) (hP : va_P D vwCl (zw n ad ce) H) (hq : q0 < n) (he : ce q0 = .inr (ci, fs)) (hc : vwCl[ci]? = some (C, T, N))
    (hn : As.length = nn) (hsize : ls.size = nL) (hstack : st0 = As.reverse ++ .ref (ad q0) :: rest) (hW : (rest.map fun v => v.category).sum ≤ 8) (hdg : decode cc pc = .ok (.invokevirtual index, 3)) (hf : cells ≤ R.cells ∧ slots ≤ R.slots) :
    va_Run p l e R s m args below meth c H locs cells slots 0 0 (F0 m pc ls st0) rest (Qc (Value.ref (ad q0) :: As).toArray) (zA n ad) :=
  va_runV S hM cw ⟨zB_blind, va_recv hK hP hc (zw_at hq he), zB_at hK hN hO hP⟩ rfl hn hsize hstack (lv_room hW) hdg hf
theorem z_rS (S : CallFix p m c cc nL s args Ts own) (hM : zM l D tys n ad OK y ws rm As Qc) (cw : CallB R s args own index y bytes maxL ret ws rm 0 0 nn ∧ (Cond.static y).before args s = true) (hK : va_K D vwCl tys s) (hN : zN s) (hO : OK ce) (hP : va_P D vwCl (zw n ad ce) H)
    (hn : As.length = nn) (hsize : ls.size = nL) (hstack : st0 = As.reverse ++ rest) (hW : (rest.map fun v => v.category).sum ≤ 8) (hdg : decode cc pc = .ok (.invokestatic index, 3)) (hf : cells ≤ R.cells ∧ slots ≤ R.slots) :
    va_Run p l e R s m args below meth c H locs cells slots 0 0 (F0 m pc ls st0) rest (Qc As.toArray) (zA n ad) :=
  va_runS S hM cw ⟨zB_blind, zB_at hK hN hO hP⟩ rfl hn hsize hstack (lv_room hW) hdg hf
theorem z_rN (S : CallFix p m c cc nL s args Ts own) (hM : zM l D tys n ad OK y ws rm As Qc) (cw : va_CN R s args own index y host bytes maxL ret ws rm 0 0 nn) (hst : (Cond.static y).before args s = true) (hK : va_K D vwCl tys s) (hN : zN s) (hO : OK ce) (hP : va_P D vwCl (zw n ad ce) H)
    (hn : As.length = nn) (hsize : ls.size = nL) (hstack : st0 = As.reverse ++ rest) (hW : (rest.map fun v => v.category).sum ≤ 8) (hdg : decode cc pc = .ok (.invokestatic index, 3)) (hf : cells ≤ R.cells ∧ slots ≤ R.slots) :
    va_Run p l e R s m args below meth c H locs cells slots 0 0 (F0 m pc ls st0) rest (Qc As.toArray) (zA n ad) :=
  va_runSN S hM ⟨cw, hst, trivial⟩ ⟨zB_blind, zB_at hK hN hO hP⟩ rfl hn hsize hstack (lv_room hW) hdg hf
theorem z_ci {post : Int32 → (Nat → va_E) → Prop} (hr : va_Run p l e R s m args below meth c H locs cells slots 0 0 (F0 m pc ls st0) rest (zQi D n ad post a) (zA n ad)) (hS : va_S (zA n ad) H0 H locs)
    (kk : ∀ (r : Int32) (ce1 : Nat → va_E) (H1 : Heap) (locs1 : List Loc), post r ce1 → va_P D vwCl (zw n ad ce1) H1 → va_S (zA n ad) H0 H1 locs1 → W p l e R s m args below meth c H1 locs1 cells slots Q (F0 m (pc + 3) ls (.int r :: rest))) : W p l e R s m args below meth c H locs cells slots Q (F0 m pc ls st0) :=
  va_calli hr hS (fun _ _ h => h) (fun _ h => h) (fun r u t H1 locs1 ht _ hp hB _ _ hS1 => kk r u H1 locs1 hp (by rw [← ht]; exact hB) hS1)
theorem z_cl_ {post : Int64 → (Nat → va_E) → Prop} (hr : va_Run p l e R s m args below meth c H locs cells slots 0 0 (F0 m pc ls st0) rest (zQl D n ad post a) (zA n ad)) (hS : va_S (zA n ad) H0 H locs)
    (kk : ∀ (r : Int64) (ce1 : Nat → va_E) (H1 : Heap) (locs1 : List Loc), post r ce1 → va_P D vwCl (zw n ad ce1) H1 → va_S (zA n ad) H0 H1 locs1 → W p l e R s m args below meth c H1 locs1 cells slots Q (F0 m (pc + 3) ls (.long r :: rest))) : W p l e R s m args below meth c H locs cells slots Q (F0 m pc ls st0) :=
  va_calll hr hS (fun _ _ h => h) (fun _ h => h) (fun r u t H1 locs1 ht _ hp hB _ _ hS1 => kk r u H1 locs1 hp (by rw [← ht]; exact hB) hS1)
theorem z_cv {post : (Nat → va_E) → Prop} (hr : va_Run p l e R s m args below meth c H locs cells slots 0 0 (F0 m pc ls st0) rest (zQv D n ad post a) (zA n ad)) (hS : va_S (zA n ad) H0 H locs)
    (kk : ∀ (ce1 : Nat → va_E) (H1 : Heap) (locs1 : List Loc), post ce1 → va_P D vwCl (zw n ad ce1) H1 → va_S (zA n ad) H0 H1 locs1 → W p l e R s m args below meth c H1 locs1 cells slots Q (F0 m (pc + 3) ls rest)) : W p l e R s m args below meth c H locs cells slots Q (F0 m pc ls st0) :=
  va_callv hr hS (fun _ _ h => h) (fun _ h => h) (fun u t H1 locs1 ht _ hp hB _ _ hS1 => kk u H1 locs1 hp (by rw [← ht]; exact hB) hS1)
theorem z_ciP {post : Int32 → Prop} {OKc : (Nat → va_E) → Prop} (hr : va_Run p l e R s m args below meth c H locs cells slots 0 0 (F0 m pc ls st0) rest (zQi D n ad (fun r c1 => OKc c1 ∧ post r) a) (zA n ad)) (hS : va_S (zA n ad) H0 H locs) (hO : ∀ c1, OKc c1 → c1 = ce)
    (kk : ∀ (r : Int32) (H1 : Heap) (locs1 : List Loc), post r → va_P D vwCl (zw n ad ce) H1 → va_S (zA n ad) H0 H1 locs1 → W p l e R s m args below meth c H1 locs1 cells slots Q (F0 m (pc + 3) ls (.int r :: rest))) : W p l e R s m args below meth c H locs cells slots Q (F0 m pc ls st0) :=
  z_ci hr hS (fun r c1 H1 locs1 hp hP hS1 => kk r H1 locs1 hp.2 (by rw [← hO c1 hp.1]; exact hP) hS1)
theorem z_clP {post : Int64 → Prop} {OKc : (Nat → va_E) → Prop} (hr : va_Run p l e R s m args below meth c H locs cells slots 0 0 (F0 m pc ls st0) rest (zQl D n ad (fun r c1 => OKc c1 ∧ post r) a) (zA n ad)) (hS : va_S (zA n ad) H0 H locs) (hO : ∀ c1, OKc c1 → c1 = ce)
    (kk : ∀ (r : Int64) (H1 : Heap) (locs1 : List Loc), post r → va_P D vwCl (zw n ad ce) H1 → va_S (zA n ad) H0 H1 locs1 → W p l e R s m args below meth c H1 locs1 cells slots Q (F0 m (pc + 3) ls (.long r :: rest))) : W p l e R s m args below meth c H locs cells slots Q (F0 m pc ls st0) :=
  z_cl_ hr hS (fun r c1 H1 locs1 hp hP hS1 => kk r H1 locs1 hp.2 (by rw [← hO c1 hp.1]; exact hP) hS1)
theorem z_cvP {post : Prop} {OKc : (Nat → va_E) → Prop} (hr : va_Run p l e R s m args below meth c H locs cells slots 0 0 (F0 m pc ls st0) rest (zQv D n ad (fun c1 => OKc c1 ∧ post) a) (zA n ad)) (hS : va_S (zA n ad) H0 H locs) (hO : ∀ c1, OKc c1 → c1 = ce)
    (kk : ∀ (H1 : Heap) (locs1 : List Loc), post → va_P D vwCl (zw n ad ce) H1 → va_S (zA n ad) H0 H1 locs1 → W p l e R s m args below meth c H1 locs1 cells slots Q (F0 m (pc + 3) ls rest)) : W p l e R s m args below meth c H locs cells slots Q (F0 m pc ls st0) :=
  z_cv hr hS (fun c1 H1 locs1 hp hP hS1 => kk H1 locs1 hp.2 (by rw [← hO c1 hp.1]; exact hP) hS1)
end ZC
