set_option maxHeartbeats 8000000 in
set_option maxRecDepth 100000 in
theorem law_loop {p : Program} {l : Launch} {e : Env} {s : State} {m : MethodId} {below : List Frame} {meth : Method} {c : Code} {b L : Nat} {xs : Nat → Int32} {D : va_G} {cy : Nat → ClassId} {a1 a2 : Nat → Nat} (hL : L ≤ 4096) (C0 : lK p s m meth c b L xs D cy a1 a2) :
    ∀ (r k : Nat), k + r = 513 → ∀ (x3 : Int32), x3.toInt = 8 * (k : Int) → ∀ (H : Heap) (locs : List Loc), lS D cy a1 a2 (1 + 60 * k) H → va_S (fun q : Nat => s.heap.size ≤ q) s.heap H locs → ∀ (ls : Array Slot), lv_has ls 4 [(0, .ref b), (1, .ref (a1 0)), (2, .ref (a2 0)), (3, .int x3)] → W p l e room_1 s m #[Value.ref b] below meth c H locs 107 4467 (lw_Z below #[Value.ref b] s) (F0 m 18 ls []) := by
  intro r
  obtain ⟨⟨hx, hb, hr, hml, hown, hts, hX, hbl, hlocks, hgv⟩, hrest⟩ := id C0
  have hbA : ¬ (fun q : Nat => s.heap.size ≤ q) b := Nat.not_le.mpr hbl
  induction r with
  | zero =>
    intro k hk x3 hx3 H locs hst hS ls hl
    refine lv_iload_n hx hb dL_law_18 rfl (lv_at hl 3 rfl) ?_
    refine lv_aload_n hx hb dL_law_19 rfl (lv_at hl 0 rfl) ?_
    refine va_slen hx hb hX hbl hbA hS dL_law_20 ?_
    refine lv_topi (fun v20 h20 => ?_)
    have h20 : v20.toInt = (L : Int) := by rw [h20]; exact nI_toInt (n := L) (by omega)
    refine z_bi hx hb dL_law_21 (by decide) (fun v21 h21 => ?_)
    refine z_subE hx hb dL_law_23 (by omega) (fun v23 h23 => ?_)
    refine z_icmp_gt (tgt := 1010) hx hb dL_law_24 (by decide) (fun c24 => ?_) (fun c24 => ?_)
    · skip
      refine lv_iconst (v := 1) hx hb dL_law_1010 (by decide) ?_
      refine va_forget (fun q hq => hS.2.2 q hq) ?_
      refine W.widen (k := 600000) (n := 7302250) (by decide) (by decide) ?_
      exact lw_ret hx hb hr hlocks dL_law_1011
    · exfalso; omega
  | succ r ih =>
    intro k hk x3 hx3 H locs hst hS ls hl
    refine lv_iload_n hx hb dL_law_18 rfl (lv_at hl 3 rfl) ?_
    refine lv_aload_n hx hb dL_law_19 rfl (lv_at hl 0 rfl) ?_
    refine va_slen hx hb hX hbl hbA hS dL_law_20 ?_
    refine lv_topi (fun v20 h20 => ?_)
    have h20 : v20.toInt = (L : Int) := by rw [h20]; exact nI_toInt (n := L) (by omega)
    refine z_bi hx hb dL_law_21 (by decide) (fun v21 h21 => ?_)
    refine z_subE hx hb dL_law_23 (by omega) (fun v23 h23 => ?_)
    refine z_icmp_gt (tgt := 1010) hx hb dL_law_24 (by decide) (fun c24 => ?_) (fun c24 => ?_)
    · skip
      refine lv_iconst (v := 1) hx hb dL_law_1010 (by decide) ?_
      refine va_forget (fun q hq => hS.2.2 q hq) ?_
      refine W.widen (k := 600000) (n := 7302250) (by decide) (by decide) ?_
      exact lw_ret hx hb hr hlocks dL_law_1011
    · skip
      have K : ∀ (H : Heap) (locs : List Loc), lS D cy a1 a2 (1 + 60 * k + 60) H → va_S (fun q : Nat => s.heap.size ≤ q) s.heap H locs → W p l e room_1 s m #[Value.ref b] below meth c H locs 107 4467 (lw_Z below #[Value.ref b] s) (F0 m 1004 ls []) := by
        intro H locs hst hS
        refine z_iinc (lv' := fun w0 => [(3, .int w0), (0, .ref b), (1, .ref (a1 0)), (2, .ref (a2 0))]) hx hb dL_law_1004 hl (k := 3) rfl (by decide) (fun _ => rfl) (by decide) (by omega) (fun w3 ls h3 hl => ?_)
        refine lv_goto (tgt := 18) hx hb dL_law_1007 (by decide) ?_
        exact ih (k + 1) (by omega) w3 (by omega) H locs (by rw [show 1 + 60 * (k + 1) = 1 + 60 * k + 60 by omega]; exact hst) hS ls (lv_sub hl [1, 2, 3, 0] rfl)
      refine lv_aload_n hx hb dL_law_27 rfl (lv_at hl 0 rfl) ?_
      refine lv_iload_n hx hb dL_law_28 rfl (lv_at hl 3 rfl) ?_
      refine va_sld hx hb hX hbl hbA hS (z_in (by omega) (by omega)) dL_law_29 ?_
      refine z_bi hx hb dL_law_30 (by decide) (fun v30 h30 => ?_)
      refine lv_iand hx hb dL_law_32 ?_
      refine lv_topi (fun v32 _ => ?_)
      by_cases w : v32.toInt < 0 ∨ 17 < v32.toInt
      · skip
        refine lv_tableOut (tgt := 1004) hx hb dL_law_33 w (by decide) ?_
        exact K H locs (by obtain ⟨cnt, c1, c2, h1, h2⟩ := hst; exact ⟨cnt, c1, c2, gOK_mono (by omega) h1, h2⟩) hS
      have w2 : v32.toInt = 0 ∨ v32.toInt = 1 ∨ v32.toInt = 2 ∨ v32.toInt = 3 ∨ v32.toInt = 4 ∨ v32.toInt = 5 ∨ v32.toInt = 6 ∨ v32.toInt = 7 ∨ v32.toInt = 8 ∨ v32.toInt = 9 ∨ v32.toInt = 10 ∨ v32.toInt = 11 ∨ v32.toInt = 12 ∨ v32.toInt = 13 ∨ v32.toInt = 14 ∨ v32.toInt = 15 ∨ v32.toInt = 16 ∨ v32.toInt = 17 := by omega
      rcases w2 with w2 | w2 | w2 | w2 | w2 | w2 | w2 | w2 | w2 | w2 | w2 | w2 | w2 | w2 | w2 | w2 | w2 | w2
      · skip
        refine lv_tableIn (off := 87) (tgt := 120) hx hb dL_law_33 (by omega) (by omega) (by rw [w2]; rfl) (by decide) ?_
        exact lc_0 hL C0 (by omega) (by omega) hst hS hl K
      · skip
        refine lv_tableIn (off := 150) (tgt := 183) hx hb dL_law_33 (by omega) (by omega) (by rw [w2]; rfl) (by decide) ?_
        exact lc_1 hL C0 (by omega) (by omega) hst hS hl K
      · skip
        refine lv_tableIn (off := 213) (tgt := 246) hx hb dL_law_33 (by omega) (by omega) (by rw [w2]; rfl) (by decide) ?_
        exact lc_2 hL C0 (by omega) (by omega) hst hS hl K
      · skip
        refine lv_tableIn (off := 236) (tgt := 269) hx hb dL_law_33 (by omega) (by omega) (by rw [w2]; rfl) (by decide) ?_
        exact lc_3 hL C0 (by omega) (by omega) hst hS hl K
      · skip
        refine lv_tableIn (off := 299) (tgt := 332) hx hb dL_law_33 (by omega) (by omega) (by rw [w2]; rfl) (by decide) ?_
        exact lc_4 hL C0 (by omega) (by omega) hst hS hl K
      · skip
        refine lv_tableIn (off := 348) (tgt := 381) hx hb dL_law_33 (by omega) (by omega) (by rw [w2]; rfl) (by decide) ?_
        exact lc_5 hL C0 (by omega) (by omega) hst hS hl K
      · skip
        refine lv_tableIn (off := 439) (tgt := 472) hx hb dL_law_33 (by omega) (by omega) (by rw [w2]; rfl) (by decide) ?_
        exact lc_6 hL C0 (by omega) (by omega) hst hS hl K
      · skip
        refine lv_tableIn (off := 526) (tgt := 559) hx hb dL_law_33 (by omega) (by omega) (by rw [w2]; rfl) (by decide) ?_
        exact lc_7 hL C0 (by omega) (by omega) hst hS hl K
      · skip
        refine lv_tableIn (off := 569) (tgt := 602) hx hb dL_law_33 (by omega) (by omega) (by rw [w2]; rfl) (by decide) ?_
        exact lc_8 hL C0 (by omega) (by omega) hst hS hl K
      · skip
        refine lv_tableIn (off := 632) (tgt := 665) hx hb dL_law_33 (by omega) (by omega) (by rw [w2]; rfl) (by decide) ?_
        exact lc_9 hL C0 (by omega) (by omega) hst hS hl K
      · skip
        refine lv_tableIn (off := 707) (tgt := 740) hx hb dL_law_33 (by omega) (by omega) (by rw [w2]; rfl) (by decide) ?_
        exact lc_10 hL C0 (by omega) (by omega) hst hS hl K
      · skip
        refine lv_tableIn (off := 740) (tgt := 773) hx hb dL_law_33 (by omega) (by omega) (by rw [w2]; rfl) (by decide) ?_
        exact lc_11 hL C0 (by omega) (by omega) hst hS hl K
      · skip
        refine lv_tableIn (off := 783) (tgt := 816) hx hb dL_law_33 (by omega) (by omega) (by rw [w2]; rfl) (by decide) ?_
        exact lc_12 hL C0 (by omega) (by omega) hst hS hl K
      · skip
        refine lv_tableIn (off := 826) (tgt := 859) hx hb dL_law_33 (by omega) (by omega) (by rw [w2]; rfl) (by decide) ?_
        exact lc_13 hL C0 (by omega) (by omega) hst hS hl K
      · skip
        refine lv_tableIn (off := 879) (tgt := 912) hx hb dL_law_33 (by omega) (by omega) (by rw [w2]; rfl) (by decide) ?_
        exact lc_14 hL C0 (by omega) (by omega) hst hS hl K
      · skip
        refine lv_tableIn (off := 902) (tgt := 935) hx hb dL_law_33 (by omega) (by omega) (by rw [w2]; rfl) (by decide) ?_
        exact lc_15 hL C0 (by omega) (by omega) hst hS hl K
      · skip
        refine lv_tableIn (off := 935) (tgt := 968) hx hb dL_law_33 (by omega) (by omega) (by rw [w2]; rfl) (by decide) ?_
        exact lc_16 hL C0 (by omega) (by omega) hst hS hl K
      · skip
        refine lv_tableIn (off := 958) (tgt := 991) hx hb dL_law_33 (by omega) (by omega) (by rw [w2]; rfl) (by decide) ?_
        exact lc_17 hL C0 (by omega) (by omega) hst hS hl K
