/-! worlds that grow: constructors -/
theorem zw_len (n : Nat) (ad : Nat → Nat) (ce : Nat → va_E) : (zw n ad ce).length = n := by
  unfold zw
  rw [List.length_map, List.length_range]
theorem zw_push {n q : Nat} {ad : Nat → Nat} {ce : Nat → va_E} {e : va_E} : zw n ad ce ++ [(q, e)] = zw (n + 1) (va_up ad n q) (va_up ce n e) := by
  apply List.ext_getElem?
  intro j
  by_cases h : j < n
  · rw [List.getElem?_append_left (by rw [zw_len]; exact h), zw_at h rfl, zw_at (by omega) rfl, va_up_ne _ _ (by omega), va_up_ne _ _ (by omega)]
  · by_cases h2 : j = n
    · subst h2
      rw [List.getElem?_append_right (by rw [zw_len]; omega), zw_len, Nat.sub_self, zw_at (k := j) (by omega) rfl]
      simp [va_up]
    · rw [List.getElem?_eq_none (by rw [List.length_append, zw_len]; simp; omega), List.getElem?_eq_none (by rw [zw_len]; omega)]
theorem zw_Dc {A : Nat → Prop} {n : Nat} {ad : Nat → Nat} {ce ce1 : Nat → va_E} (h : va_D A (zw n ad ce)) : va_D A (zw n ad ce1) := by
  refine ⟨fun i j p q hi hj e => ?_, fun k q hk => ?_⟩
  · obtain ⟨a1, rfl⟩ := zw_of hi
    obtain ⟨a2, rfl⟩ := zw_of hj
    exact h.1 i j _ _ (zw_at a1 rfl) (zw_at a2 rfl) e
  · obtain ⟨a1, rfl⟩ := zw_of hk
    have := h.2 k (ad k, ce k) (zw_at a1 rfl)
    exact this
theorem zw_J {A : Nat → Prop} {n : Nat} {ad : Nat → Nat} {ce : Nat → va_E} (h : va_D A (zw n ad ce)) : zJ n ad := fun i j hi hj e => h.1 i j _ _ (zw_at hi rfl) (zw_at hj rfl) e
theorem va_up_eq {α : Type} (f : Nat → α) (k : Nat) (v : α) : va_up f k v k = v := by unfold va_up; exact if_pos rfl
/-- one array class a kind of contents -/
theorem y_cA {D : va_G} {cl : List vw_C} {tys : List (ClassId × FieldType)} {s : State} {cA c0 : ClassId} {ty : FieldType} {t0 : Nat} (h : va_K D cl (tys ++ [(cA, ty)]) s) (ht : tys[t0]? = some (c0, ty)) : cA = c0 := by
  have h1 := (h.2 tys.length (cA, ty) (by simp)).2
  have hl : t0 < tys.length := (List.getElem?_eq_some_iff.mp ht).1
  have h2 := (h.2 t0 (c0, ty) (by rw [List.getElem?_append_left hl]; exact ht)).2
  cases ty with
  | object C =>
    obtain ⟨_, _, _, _, _, g1⟩ := h1
    obtain ⟨_, _, _, _, _, g2⟩ := h2
    exact Option.some.inj (g1.symm.trans g2)
  | _ => exact Option.some.inj (h1.symm.trans h2)
section YR
variable {p : Program} {l : Launch} {e : Env} {R : Room} {s : State} {m : MethodId} {args : Array Value} {below : List Frame} {meth : Method} {c : Code} {H : Heap} {locs : List Loc} {cells slots : Nat} {Q : State → Prop}
variable {cc : ByteArray} {pc : Nat} {ls : Array Slot} {rest : List Value} {D : va_G} {tys : List (ClassId × FieldType)} {n : Nat} {ad : Nat → Nat} {ce : Nat → va_E} {H0 : Heap} {A : Nat → Prop}
theorem y_new (hx : p.tables.exec = Jvm.exec) (hb : c.code = cc) {own C : String} {T : u_T} {N ci index : Nat} {Ts : List Cond} (hts : ∀ w ∈ Ts, w.before args s = true) (hin : ∀ w ∈ u_ws C T N, w ∈ Ts) (ty : Nat → FieldType) (hty : ∀ k, k < N → parseFieldDescriptor (T k).2.2.1 = some (ty k)) (hown : s.vm.findClass own = some m.cls) (hcl : (Cond.classLink own index C).before args s = true) (hinst : (Cond.instantiable C N).before args s = true) (hini : (Cond.initialized C).before args s = true)
    (hK : va_K D vwCl tys s) (hP : va_P D vwCl (zw n ad ce) H) (hD : va_D A (zw n ad ce)) (hS : va_S A H0 H locs) (hA : ∀ q, H0.size ≤ q → A q) (hc : vwCl[ci]? = some (C, T, N)) {fs : List Value} (hfs : ∀ j, j < N → defaultValue (ty j) = vp_V fs j) (hcells : cells + 1 ≤ R.cells) (hslots : slots + N ≤ R.slots) (hdg : decode cc pc = .ok (.new index, 3))
    (kk : ∀ (q : Nat) (H : Heap) (ad1 : Nat → Nat) (ce1 : Nat → va_E), ad1 n = q → (∀ j, j < n → ad1 j = ad j) → ce1 n = .inr (ci, fs) → (∀ j, j < n → ce1 j = ce j) → va_P D vwCl (zw (n + 1) ad1 ce1) H → va_D A (zw (n + 1) ad1 ce1) → va_S A H0 H locs →
      W p l e R s m args below meth c H locs (cells + 1) (slots + N) Q (F0 m (pc + 3) ls (.ref q :: rest))) : W p l e R s m args below meth c H locs cells slots Q (F0 m pc ls rest) := by
  refine va_new hx hb hts hin ty hty hown hcl hinst hini hK hP hD hS hA hc hfs hcells hslots hdg (fun q H1 h1 h2 h3 => ?_)
  rw [zw_push] at h1 h2
  exact kk q H1 _ _ (va_up_eq _ _ _) (fun j hj => va_up_ne _ _ (by omega)) (va_up_eq _ _ _) (fun j hj => va_up_ne _ _ (by omega)) h1 h2 h3
theorem y_newI (hx : p.tables.exec = Jvm.exec) (hb : c.code = cc) (harr : (Cond.arrayClass .int).before args s = true) (hK : va_K D vwCl tys s) (t0 : Nat) {c0 : ClassId} (ht : tys[t0]? = some (c0, .int)) (hP : va_P D vwCl (zw n ad ce) H) (hD : va_D A (zw n ad ce)) (hS : va_S A H0 H locs) (hA : ∀ q, H0.size ≤ q → A q)
    {x : Int32} (N : Nat) (hN : x.toInt = N) (hN2 : N ≤ 100000) (hcells : cells + 1 ≤ R.cells) (hslots : slots + N ≤ R.slots) (hdg : decode cc pc = .ok (.newarray .int, 2))
    (kk : ∀ (q : Nat) (H : Heap) (ad1 : Nat → Nat) (ce1 : Nat → va_E), ad1 n = q → (∀ j, j < n → ad1 j = ad j) → ce1 n = .inl (c0, N, .inl (fun _ => 0)) → (∀ j, j < n → ce1 j = ce j) → va_P D vwCl (zw (n + 1) ad1 ce1) H → va_D A (zw (n + 1) ad1 ce1) → va_S A H0 H locs →
      W p l e R s m args below meth c H locs (cells + 1) (slots + N) Q (F0 m (pc + 2) ls (.ref q :: rest))) : W p l e R s m args below meth c H locs cells slots Q (F0 m pc ls (.int x :: rest)) := by
  have hc := z_cl (x := x) (by omega)
  refine va_newa (atype := .int) (ty := .int) (N' := N) (a0 := (N, .inl (fun _ => 0))) hx hb harr rfl hK hP hD hS hA (fun _ => rfl) (fun q => by have := Int32.lt_iff_toInt_lt.mp q; have e0 : (0 : Int32).toInt = 0 := rfl; omega) (by omega) (by show N * 4 ≤ _; omega) hcells hslots hdg (fun q cA H1 hK1 h1 h2 h3 => ?_)
  have ec := y_cA hK1 ht
  subst ec
  rw [zw_push] at h1 h2
  exact kk q H1 _ _ (va_up_eq _ _ _) (fun j hj => va_up_ne _ _ (by omega)) (va_up_eq _ _ _) (fun j hj => va_up_ne _ _ (by omega)) h1 h2 h3
theorem y_newZ (hx : p.tables.exec = Jvm.exec) (hb : c.code = cc) (harr : (Cond.arrayClass .boolean).before args s = true) (hK : va_K D vwCl tys s) (t0 : Nat) {c0 : ClassId} (ht : tys[t0]? = some (c0, .boolean)) (hP : va_P D vwCl (zw n ad ce) H) (hD : va_D A (zw n ad ce)) (hS : va_S A H0 H locs) (hA : ∀ q, H0.size ≤ q → A q)
    {x : Int32} (N : Nat) (hN : x.toInt = N) (hN2 : N ≤ 100000) (hcells : cells + 1 ≤ R.cells) (hslots : slots + N ≤ R.slots) (hdg : decode cc pc = .ok (.newarray .boolean, 2))
    (kk : ∀ (q : Nat) (H : Heap) (ad1 : Nat → Nat) (ce1 : Nat → va_E), ad1 n = q → (∀ j, j < n → ad1 j = ad j) → ce1 n = .inl (c0, N, .inl (fun _ => 0)) → (∀ j, j < n → ce1 j = ce j) → va_P D vwCl (zw (n + 1) ad1 ce1) H → va_D A (zw (n + 1) ad1 ce1) → va_S A H0 H locs →
      W p l e R s m args below meth c H locs (cells + 1) (slots + N) Q (F0 m (pc + 2) ls (.ref q :: rest))) : W p l e R s m args below meth c H locs cells slots Q (F0 m pc ls (.int x :: rest)) := by
  have hc := z_cl (x := x) (by omega)
  refine va_newa (atype := .boolean) (ty := .boolean) (N' := N) (a0 := (N, .inl (fun _ => 0))) hx hb harr rfl hK hP hD hS hA (fun _ => rfl) (fun q => by have := Int32.lt_iff_toInt_lt.mp q; have e0 : (0 : Int32).toInt = 0 := rfl; omega) (by omega) (by show N * 1 ≤ _; omega) hcells hslots hdg (fun q cA H1 hK1 h1 h2 h3 => ?_)
  have ec := y_cA hK1 ht
  subst ec
  rw [zw_push] at h1 h2
  exact kk q H1 _ _ (va_up_eq _ _ _) (fun j hj => va_up_ne _ _ (by omega)) (va_up_eq _ _ _) (fun j hj => va_up_ne _ _ (by omega)) h1 h2 h3
theorem y_newQ (hx : p.tables.exec = Jvm.exec) (hb : c.code = cc) {own C : String} {index : Nat} (hown : s.vm.findClass own = some m.cls) (hcl : (Cond.classLink own index C).before args s = true) (hover : va_AO C s) (hK : va_K D vwCl tys s) (t0 : Nat) {c0 : ClassId} (ht : tys[t0]? = some (c0, .object C)) (hP : va_P D vwCl (zw n ad ce) H) (hD : va_D A (zw n ad ce)) (hS : va_S A H0 H locs) (hA : ∀ q, H0.size ≤ q → A q)
    {x : Int32} (N : Nat) (hN : x.toInt = N) (hN2 : N ≤ 100000) (hcells : cells + 1 ≤ R.cells) (hslots : slots + N ≤ R.slots) (hdg : decode cc pc = .ok (.anewarray index, 3))
    (kk : ∀ (q : Nat) (H : Heap) (ad1 : Nat → Nat) (ce1 : Nat → va_E), ad1 n = q → (∀ j, j < n → ad1 j = ad j) → ce1 n = .inl (c0, N, .inr (.inr (.inr (.inr (fun _ => none))))) → (∀ j, j < n → ce1 j = ce j) → va_P D vwCl (zw (n + 1) ad1 ce1) H → va_D A (zw (n + 1) ad1 ce1) → va_S A H0 H locs →
      W p l e R s m args below meth c H locs (cells + 1) (slots + N) Q (F0 m (pc + 3) ls (.ref q :: rest))) : W p l e R s m args below meth c H locs cells slots Q (F0 m pc ls (.int x :: rest)) := by
  have hc := z_cl (x := x) (by omega)
  refine va_newq (N' := N) hx hb hown hcl hover hK hP hD hS hA (fun q => by have := Int32.lt_iff_toInt_lt.mp q; have e0 : (0 : Int32).toInt = 0 := rfl; omega) (by omega) (by omega) hcells hslots hdg (fun q cA H1 hK1 h1 h2 h3 => ?_)
  have ec := y_cA hK1 ht
  subst ec
  rw [zw_push] at h1 h2
  exact kk q H1 _ _ (va_up_eq _ _ _) (fun j hj => va_up_ne _ _ (by omega)) (va_up_eq _ _ _) (fun j hj => va_up_ne _ _ (by omega)) h1 h2 h3
/-- a final field is set in a constructor -/
theorem y_putF (hx : p.tables.exec = Jvm.exec) (hb : c.code = cc) {own ref C : String} {T : u_T} {N ci index : Nat} {Ts : List Cond} (hts : ∀ w ∈ Ts, w.before args s = true) (hin : ∀ w ∈ u_ws C T N, w ∈ Ts) (ty0 : Nat → FieldType) (hty : ∀ k, k < N → parseFieldDescriptor (T k).2.2.1 = some (ty0 k)) (hnm : ∀ a, a < N → ∀ b, b < N → a ≠ b → (T a).2.1 ≠ (T b).2.1) (hown : s.vm.findClass own = some m.cls) (hK : va_K D vwCl tys s) (hP : va_P D vwCl (zw n ad ce) H) (hD : va_D A (zw n ad ce)) (hS : va_S A H0 H locs) (q0 : Nat) (hq : q0 < n) {a : Nat} (ha : ad q0 = a) {fs : List Value} (he : ce q0 = .inr (ci, fs)) (hc : vwCl[ci]? = some (C, T, N)) (k : Nat) (hk : k < N) (hlink : (Cond.fieldLink own index ref (T k).2.1 (T k).2.2.1).before args s = true) (hsame : ∀ x, s.fieldFound? (T k).1 (T k).2.1 (T k).2.2.1 = some x → s.fieldFound? ref (T k).2.1 (T k).2.2.1 = some x) (hfin : (T k).2.2.2 = true) (hin2 : meth.name = "<init>") (hdecl : (T k).1 = own) {ty : FieldType} {v : Value} (hd : parseFieldDescriptor (T k).2.2.1 = some ty) (hn : narrow ty v = v) (hfit : fits ty v = true) (hl : k < fs.length) {fs1 : List Value} (hf1 : fs.set k v = fs1)
    (hdg : decode cc pc = .ok (.putfield index, 3)) (kk : ∀ (ce1 : Nat → va_E) (H1 : Heap) (locs1 : List Loc), ce1 q0 = .inr (ci, fs1) → (∀ q, q ≠ q0 → ce1 q = ce q) → va_P D vwCl (zw n ad ce1) H1 → va_D A (zw n ad ce1) → va_S A H0 H1 locs1 → W p l e R s m args below meth c H1 locs1 cells slots Q (F0 m (pc + 3) ls rest)) : W p l e R s m args below meth c H locs cells slots Q (F0 m pc ls (v :: .ref a :: rest)) := by
  subst hf1
  subst ha
  refine va_putF hx hb hts hin ty0 hty hnm hown hK hP hD hS q0 (zw_at hq he) hc k hk hlink hsame hfin hin2 hdecl hd hn hfit hl hdg (fun H1 locs1 h1 _ h3 => ?_)
  rw [zw_set (ce1 := va_up ce q0 (.inr (ci, fs.set k v))) hq (by unfold va_up; exact if_pos rfl) (fun q h => by unfold va_up; exact if_neg h)] at h1
  exact kk _ H1 locs1 (by unfold va_up; exact if_pos rfl) (fun q h => by unfold va_up; exact if_neg h) h1 (zw_Dc hD) h3
theorem y_get (hx : p.tables.exec = Jvm.exec) (hb : c.code = cc) {own ref C : String} {T : u_T} {N ci index : Nat} {Ts : List Cond} (hts : ∀ w ∈ Ts, w.before args s = true) (hin : ∀ w ∈ u_ws C T N, w ∈ Ts) (hown : s.vm.findClass own = some m.cls) (hK : va_K D vwCl tys s) (hP : va_P D vwCl (zw n ad ce) H) (q0 : Nat) (hq : q0 < n) {a : Nat} (ha : ad q0 = a) {fs : List Value} (he : ce q0 = .inr (ci, fs)) (hc : vwCl[ci]? = some (C, T, N)) (k : Nat) (hk : k < N) (hlink : (Cond.fieldLink own index ref (T k).2.1 (T k).2.2.1).before args s = true) (hsame : ∀ x, s.fieldFound? (T k).1 (T k).2.1 (T k).2.2.1 = some x → s.fieldFound? ref (T k).2.1 (T k).2.2.1 = some x) {v : Value} (hv : fs[k]? = some v) (hdg : decode cc pc = .ok (.getfield index, 3))
    (kk : W p l e R s m args below meth c H locs cells slots Q (F0 m (pc + 3) ls (v :: rest))) : W p l e R s m args below meth c H locs cells slots Q (F0 m pc ls (.ref a :: rest)) := by
  subst ha
  exact va_get hx hb hts hin hown hK hP q0 (zw_at hq he) hc k hk hlink hsame hv hdg kk
theorem y_astq (hx : p.tables.exec = Jvm.exec) (hb : c.code = cc) (hK : va_K D vwCl tys s) (hP : va_P D vwCl (zw n ad ce) H) (hD : va_D A (zw n ad ce)) (hS : va_S A H0 H locs) (q0 t0 qk ci : Nat) (hq : q0 < n) (hqk : qk < n) {a v : Nat} (ha : ad q0 = a) (hv : ad qk = v) {cA : ClassId} {r : vw_C} {N : Nat} {vs : List Value} {f : Nat → Option Nat} (he : ce q0 = .inl (cA, N, .inr (.inr (.inr (.inr f))))) (ht : tys[t0]? = some (cA, .object r.1)) (hk : ce qk = .inr (ci, vs)) (hc : vwCl[ci]? = some r) {i : Int32} (h0 : 0 ≤ i.toInt ∧ i.toInt < N) (hdg : decode cc pc = .ok (.aastore, 1))
    (kk : ∀ (ce1 : Nat → va_E) (H1 : Heap) (locs1 : List Loc) (j : Nat), (j : Int) = i.toInt → ce1 q0 = .inl (cA, N, .inr (.inr (.inr (.inr (va_up f j (some v)))))) → (∀ q, q ≠ q0 → ce1 q = ce q) → va_P D vwCl (zw n ad ce1) H1 → va_D A (zw n ad ce1) → va_S A H0 H1 locs1 → W p l e R s m args below meth c H1 locs1 cells slots Q (F0 m (pc + 1) ls rest)) : W p l e R s m args below meth c H locs cells slots Q (F0 m pc ls (.ref v :: .int i :: .ref a :: rest)) := by
  subst ha
  subst hv
  refine va_astq hx hb hK hP hD hS q0 t0 qk ci (zw_at hq he) ht (zw_at hqk hk) hc (z_in h0.1 h0.2) hdg (fun H1 locs1 h1 _ h3 => ?_)
  rw [zw_set (ce1 := va_up ce q0 (.inl (cA, N, .inr (.inr (.inr (.inr (va_up f i.toNatClampNeg (some (ad qk))))))))) hq (by unfold va_up; exact if_pos rfl) (fun q h => by unfold va_up; exact if_neg h)] at h1
  exact kk _ H1 locs1 _ (z_cl h0.1) (by unfold va_up; exact if_pos rfl) (fun q h => by unfold va_up; exact if_neg h) h1 (zw_Dc hD) h3
end YR
/-! a constructor's contract: the object is cell 0 of a pool that m new cells are added to -/
def iA (h0 sz : Nat) : Nat → Prop := fun q => q = h0 ∨ sz ≤ q
def iX (U : State) : Prop := va_AO RX0 U ∧ va_AO RX6 U
def iB (D : va_G) (cy : Nat → ClassId) (sz h0 : Nat) (e0 : va_E) (U : State) : Prop := U.heap.size = sz ∧ va_K D vwCl (gT cy) U ∧ zN U ∧ iX U ∧ va_P D vwCl [(h0, e0)] U.heap
abbrev iS : Type := (Nat → Nat) × (Nat → va_E)
def iW (D : va_G) (k sz h0 : Nat) (u : iS) (t : State) : Prop := va_P D vwCl (zw (k + 1) u.1 u.2) t.heap ∧ u.1 0 = h0 ∧ zJ (k + 1) u.1 ∧ ∀ j, 1 ≤ j → j ≤ k → sz ≤ u.1 j
def iM (l : Launch) (D : va_G) (cy : Nat → ClassId) (y : MethodName) (ws : List Cond) (rm : Room) (mc ms k sz h0 : Nat) (e0 : va_E) (As : List Value) (post : iS → Prop) : Prop :=
  Met l y ws rm (va_Pc (.ref h0 :: As) (iB D cy sz h0 e0)) (va_Qv post (iW D k sz h0) (iA h0 sz)) mc ms (iA h0 sz)
theorem iX_moved {u U : State} (hv : u.vm.Alike U.vm) (h : iX u) : iX U := ⟨va_AO.moved hv h.1, va_AO.moved hv h.2⟩
theorem iB_blind {D : va_G} {cy : Nat → ClassId} {sz h0 : Nat} {e0 : va_E} {av : List Value} : FrameBlind (va_Pc av (iB D cy sz h0 e0)) := by
  intro a U g mk q
  obtain ⟨q0, q1, qK, qN, qX, qP⟩ := q
  exact ⟨q0, q1, va_K.moved (u := U) (U := U.calling g mk a) (Vm.Alike.refl U.vm) qK, zN_same (u := U) (U := U.calling g mk a) rfl qN, iX_moved (u := U) (U := U.calling g mk a) (Vm.Alike.refl U.vm) qX, qP⟩
theorem i_of {l : Launch} {D : va_G} {cy : Nat → ClassId} {y : MethodName} {ws ws' : List Cond} {rm : Room} {mc ms k sz h0 : Nat} {e0 : va_E} {As : List Value} {post : iS → Prop} {cc : ByteArray} {maxL : Nat} (hy : plainName y.cls = true) (hw : ws = Cond.code y cc maxL none :: ws') (hy1 : y.name = "<init>") (hn : (lg_sl (Value.ref h0 :: As)).length ≤ maxL)
    (body : ∀ (p : Program) (e : Env) (s : State) (m : MethodId) (below : List Frame) (meth : Method) (c : Code), p.tables.exec = Jvm.exec → c.code = cc → meth.sig.returnType = none → (∀ w ∈ ws, w.before (Value.ref h0 :: As).toArray s = true) → s.vm.findClass y.cls = some m.cls → meth.locks = false → c.maxLocals = maxL → meth.name = "<init>" → va_K D vwCl (gT cy) s → zN s → iX s → sz = s.heap.size → ∀ (ad : Nat → Nat) (ce : Nat → va_E), ad 0 = h0 → ce 0 = e0 → h0 < s.heap.size → va_P D vwCl (zw 1 ad ce) s.heap → va_D (iA h0 s.heap.size) (zw 1 ad ce) → va_S (iA h0 s.heap.size) s.heap s.heap [] → (∀ q, s.heap.size ≤ q → iA h0 s.heap.size q) → ∀ ls : Array Slot, lv_has ls maxL (lv_args 0 (Value.ref h0 :: As)) → W p l e rm s m (Value.ref h0 :: As).toArray below meth c s.heap [] 0 0 (MQ below (va_Qv post (iW D k s.heap.size h0) (iA h0 s.heap.size)) (Value.ref h0 :: As).toArray s mc ms (iA h0 s.heap.size)) (F0 m 0 ls [])) : iM l D cy y ws rm mc ms k sz h0 e0 As post := by
  refine Met.ofW (cc := cc) (maxL := maxL) (ret := none) hy hw ?_
  intro p e s m args below meth c s₁ B hml hv
  obtain ⟨rfl, hsz, hK, hN, hX, hP⟩ := hv
  subst hsz
  have hl := lv_entry (Value.ref h0 :: As) (n := maxL) hn
  rw [lg_entry_eq]
  have h0l : h0 < s.heap.size := (hP 0 (h0, e0) rfl).lt
  refine body p e s m below meth c B.exec B.bytes B.returns (atoms_spec (ws := ws) B.pre) (findClass_of_methodNamed B.named) B.notSynchronized hml ((name_of_methodNamed B.named B.method).1.trans hy1) hK hN hX rfl (fun _ => h0) (fun _ => e0) rfl rfl h0l hP ⟨fun i j p q hi hj _ => ?_, fun k q hk => ?_⟩ va_S.rf (fun q h => Or.inr h) _ hl
  · have a1 := (zw_of hi).1
    have a2 := (zw_of hj).1
    omega
  · obtain ⟨_, rfl⟩ := zw_of hk
    exact Or.inl rfl
section IC
variable {p : Program} {l : Launch} {e : Env} {R : Room} {s : State} {m : MethodId} {args : Array Value} {below : List Frame} {meth : Method} {c : Code} {H : Heap} {locs : List Loc} {cells slots : Nat} {Q : State → Prop}
variable {cc : ByteArray} {pc : Nat} {ls : Array Slot} {rest st0 : List Value} {D : va_G} {cy : Nat → ClassId} {n : Nat} {ad : Nat → Nat} {ce : Nat → va_E} {H0 : Heap} {A : Nat → Prop}
theorem i_ret {post : iS → Prop} {mc ms k h0 : Nat} (hx : p.tables.exec = Jvm.exec) (hb : c.code = cc) (hr : meth.sig.returnType = none) (hlocks : meth.locks = false) (hP : va_P D vwCl (zw (k + 1) ad ce) H) (hD : va_D (iA h0 s.heap.size) (zw (k + 1) ad ce)) (ha : ad 0 = h0) (hS : va_S (iA h0 s.heap.size) s.heap H locs) (hdg : decode cc pc = .ok (.return_, 1)) (h1 : cells ≤ mc) (h2 : slots ≤ ms) (hpost : post (ad, ce)) : W p l e R s m args below meth c H locs cells slots (MQ below (va_Qv post (iW D k s.heap.size h0) (iA h0 s.heap.size)) args s mc ms (iA h0 s.heap.size)) (F0 m pc ls []) := by
  refine W.widen h1 h2 ?_
  refine W.vret hx hb hr (fun t ht _ => ⟨⟨(ad, ce), rfl, hpost, ⟨by subst ht; exact hP, ha, zw_J hD, fun j h3 h4 => ?_⟩⟩, hS.F ht⟩) hS.2.2 hdg
  rcases hD.2 j _ (zw_at (by omega) rfl) with h | h
  · exfalso
    have := zw_J hD j 0 (by omega) (by omega) (h.trans ha.symm)
    omega
  · exact h
variable {y : MethodName} {bytes : ByteArray} {maxL nL nn index : Nat} {ws : List Cond} {rm : Room} {Ts : List Cond} {own host : String} {As : List Value} {mc ms m1 : Nat} {e0 : va_E} {post : iS → Prop}
/-- behind a constructor's call: its new cells come last -/
theorem i_after {q0 : Nat} {a : Array Value} (hr : va_Run p l e R s m args below meth c H locs cells slots mc ms (F0 m pc ls st0) rest (va_Qv post (iW D m1 H.size (ad q0)) (iA (ad q0) H.size) a) (iA (ad q0) H.size)) (hq : q0 < n) (hP : va_P D vwCl (zw n ad ce) H) (hD : va_D A (zw n ad ce)) (hS : va_S A H0 H locs) (hA : ∀ q, H0.size ≤ q → A q)
    (kk : ∀ (ad1 : Nat → Nat) (ce1 : Nat → va_E) (H1 : Heap) (locs1 : List Loc) (adc : Nat → Nat) (cec : Nat → va_E), post (adc, cec) → adc 0 = ad q0 → (∀ j, j < n → ad1 j = ad j) → (∀ j, j < n → j ≠ q0 → ce1 j = ce j) → ce1 q0 = cec 0 → (∀ j, j < m1 → ad1 (n + j) = adc (j + 1)) → (∀ j, j < m1 → ce1 (n + j) = cec (j + 1)) → va_P D vwCl (zw (n + m1) ad1 ce1) H1 → va_D A (zw (n + m1) ad1 ce1) → va_S A H0 H1 locs1 → W p l e R s m args below meth c H1 locs1 (cells + mc) (slots + ms) Q (F0 m (pc + 3) ls rest)) : W p l e R s m args below meth c H locs cells slots Q (F0 m pc ls st0) := by
  have hAq : A (ad q0) := hD.2 q0 _ (zw_at hq rfl)
  have hsub : ∀ q, iA (ad q0) H.size q → A q := fun q h => h.elim (fun h => by rw [h]; exact hAq) (fun h => hA q (Nat.le_trans hS.1 h))
  refine va_callv hr hS (fun q _ h => hsub q h) hsub (fun u t H1 locs1 ht _ hp hB hz hk hS1 => ?_)
  obtain ⟨adc, cec⟩ := u
  obtain ⟨hPc, h0, hJc, hge⟩ := hB
  rw [ht] at hPc
  have hold : ∀ j, j < n → ad j < H.size := fun j hj => (hP j _ (zw_at hj rfl)).lt
  refine kk (fun j => if j < n then ad j else adc (j - n + 1)) (fun j => if j = q0 then cec 0 else if j < n then ce j else cec (j - n + 1)) H1 locs1 adc cec hp h0 (fun j hj => if_pos hj) (fun j hj hne => by simp only [hne, if_false]; exact if_pos hj) (if_pos rfl) (fun j hj => by simp only [show ¬ (n + j < n) by omega, if_false]; exact congrArg adc (by omega)) (fun j hj => by simp only [show ¬ (n + j = q0) by omega, show ¬ (n + j < n) by omega, if_false]; exact congrArg cec (by omega)) (fun k q hk2 => ?_) ⟨fun i j x z hi hj hxz => ?_, fun k q hk2 => ?_⟩ hS1
  · obtain ⟨h1, rfl⟩ := zw_of hk2
    by_cases hkq : k = q0
    · subst hkq
      simp only [hq, if_true]
      have := hPc 0 _ (zw_at (by omega) rfl)
      rw [h0] at this
      exact this
    · simp only [hkq, if_false]
      by_cases hkn : k < n
      · simp only [hkn, if_true]
        refine (hP k _ (zw_at hkn rfl)).kept (hk _ (hold k hkn) (fun h => ?_))
        rcases h with h | h
        · exact hkq (zw_J hD k q0 hkn hq h)
        · exact absurd (hold k hkn) (by omega)
      · simp only [hkn, if_false]
        exact hPc (k - n + 1) _ (zw_at (by omega) rfl)
  · obtain ⟨h1, rfl⟩ := zw_of hi
    obtain ⟨h2, rfl⟩ := zw_of hj
    dsimp only at hxz
    by_cases hin : i < n
    · by_cases hjn : j < n
      · simp only [hin, hjn, if_true] at hxz
        exact zw_J hD i j hin hjn hxz
      · simp only [hin, hjn, if_true, if_false] at hxz
        have a1 := hold i hin
        have a2 : H.size ≤ adc (j - n + 1) := hge (j - n + 1) (by omega) (by omega)
        omega
    · by_cases hjn : j < n
      · simp only [hin, hjn, if_true, if_false] at hxz
        have a1 := hold j hjn
        have a2 : H.size ≤ adc (i - n + 1) := hge (i - n + 1) (by omega) (by omega)
        omega
      · simp only [hin, hjn, if_false] at hxz
        have := hJc (i - n + 1) (j - n + 1) (by omega) (by omega) hxz
        omega
  · obtain ⟨h1, rfl⟩ := zw_of hk2
    dsimp only
    by_cases hkn : k < n
    · simp only [hkn, if_true]
      exact hD.2 k _ (zw_at hkn rfl)
    · simp only [hkn, if_false]
      exact hA _ (Nat.le_trans hS.1 (hge (k - n + 1) (by omega) (by omega)))
theorem i_pre {q0 : Nat} (hq : q0 < n) (he : ce q0 = e0) (hK : va_K D vwCl (gT cy) s) (hN : zN s) (hX : iX s) (hP : va_P D vwCl (zw n ad ce) H) : ∀ U : State, U.heap = H → s.WarmedH U.vm → va_Pc (.ref (ad q0) :: As) (iB D cy H.size (ad q0) e0) (Value.ref (ad q0) :: As).toArray U := by
  intro U hU hW
  refine ⟨rfl, by rw [hU], va_K.moved hW.alike hK, zN_warm hW hN, iX_moved hW.alike hX, fun k q hk => ?_⟩
  have hk0 : k = 0 := by
    have := (List.getElem?_eq_some_iff.mp hk).1
    simp at this
    omega
  subst hk0
  cases hk
  rw [hU]
  exact hP q0 _ (zw_at hq he)
theorem i_rI {q0 : Nat} (S : CallFix p m c cc nL s args Ts own) (hM : iM l D cy y ws rm mc ms m1 H.size (ad q0) e0 As post) (cw : CallB R s args own index y bytes maxL none ws rm mc ms nn ∧ y.name = "<init>" ∧ (Cond.instanceMethod y).before args s = true) (hK : va_K D vwCl (gT cy) s) (hN : zN s) (hX : iX s) (hP : va_P D vwCl (zw n ad ce) H) (hq : q0 < n) (he : ce q0 = e0)
    (hn : As.length = nn) (hsize : ls.size = nL) (hstack : st0 = As.reverse ++ .ref (ad q0) :: rest) (hW : (rest.map fun v => v.category).sum ≤ 8) (hdg : decode cc pc = .ok (.invokespecial index, 3)) (hf : cells + mc ≤ R.cells ∧ slots + ms ≤ R.slots) :
    va_Run p l e R s m args below meth c H locs cells slots mc ms (F0 m pc ls st0) rest (va_Qv post (iW D m1 H.size (ad q0)) (iA (ad q0) H.size) (Value.ref (ad q0) :: As).toArray) (iA (ad q0) H.size) :=
  va_runI S hM cw ⟨iB_blind, i_pre hq he hK hN hX hP⟩ rfl hn hsize hstack (lv_room hW) hdg hf
theorem i_rN {q0 : Nat} (S : CallFix p m c cc nL s args Ts own) (hM : iM l D cy y ws rm mc ms m1 H.size (ad q0) e0 As post) (cw : va_CN R s args own index y host bytes maxL none ws rm mc ms nn ∧ y.name = "<init>" ∧ (Cond.instanceMethod y).before args s = true) (hK : va_K D vwCl (gT cy) s) (hN : zN s) (hX : iX s) (hP : va_P D vwCl (zw n ad ce) H) (hq : q0 < n) (he : ce q0 = e0)
    (hn : As.length = nn) (hsize : ls.size = nL) (hstack : st0 = As.reverse ++ .ref (ad q0) :: rest) (hW : (rest.map fun v => v.category).sum ≤ 8) (hdg : decode cc pc = .ok (.invokespecial index, 3)) (hf : cells + mc ≤ R.cells ∧ slots + ms ≤ R.slots) :
    va_Run p l e R s m args below meth c H locs cells slots mc ms (F0 m pc ls st0) rest (va_Qv post (iW D m1 H.size (ad q0)) (iA (ad q0) H.size) (Value.ref (ad q0) :: As).toArray) (iA (ad q0) H.size) :=
  va_runIN S hM cw ⟨iB_blind, i_pre hq he hK hN hX hP⟩ rfl hn hsize hstack (lv_room hW) hdg hf
end IC
