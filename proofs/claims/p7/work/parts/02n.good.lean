def gdW (w : Cond) : Prop := (w.onTables && w.keeps) = true ∨ ∃ ty, w = .arrayClass ty
theorem gd_wsL_law_r1 : ∀ w ∈ wsL_law_r1, gdW w := fun w h => good_of_word (List.all_eq_true.mp (show wsL_law_r1.all goodWord = true by decide +kernel) w h)
theorem gd_wsL_law_r2 : ∀ w ∈ wsL_law_r2, gdW w := fun w h => good_of_word (List.all_eq_true.mp (show wsL_law_r2.all goodWord = true by decide +kernel) w h)
theorem gd_wsL_law_r3 : ∀ w ∈ wsL_law_r3, gdW w := fun w h => good_of_word (List.all_eq_true.mp (show wsL_law_r3.all goodWord = true by decide +kernel) w h)
theorem gd_wsL_law_r4 : ∀ w ∈ wsL_law_r4, gdW w := fun w h => good_of_word (List.all_eq_true.mp (show wsL_law_r4.all goodWord = true by decide +kernel) w h)
theorem gd_wsL_law_r5 : ∀ w ∈ wsL_law_r5, gdW w := fun w h => good_of_word (List.all_eq_true.mp (show wsL_law_r5.all goodWord = true by decide +kernel) w h)
theorem gd_wsL_law_r6 : ∀ w ∈ wsL_law_r6, gdW w := fun w h => good_of_word (List.all_eq_true.mp (show wsL_law_r6.all goodWord = true by decide +kernel) w h)
theorem gd_wsL_law_r7 : ∀ w ∈ wsL_law_r7, gdW w := fun w h => good_of_word (List.all_eq_true.mp (show wsL_law_r7.all goodWord = true by decide +kernel) w h)
theorem gd_wsL_law_r8 : ∀ w ∈ wsL_law_r8, gdW w := fun w h => good_of_word (List.all_eq_true.mp (show wsL_law_r8.all goodWord = true by decide +kernel) w h)
theorem gd_wsL_law_r9 : ∀ w ∈ wsL_law_r9, gdW w := fun w h => good_of_word (List.all_eq_true.mp (show wsL_law_r9.all goodWord = true by decide +kernel) w h)
theorem gd_wsL_law_r10 : ∀ w ∈ wsL_law_r10, gdW w := fun w h => good_of_word (List.all_eq_true.mp (show wsL_law_r10.all goodWord = true by decide +kernel) w h)
theorem gd_wsL_law_r11 : ∀ w ∈ wsL_law_r11, gdW w := fun w h => good_of_word (List.all_eq_true.mp (show wsL_law_r11.all goodWord = true by decide +kernel) w h)
theorem gd_wsL_law_r12 : ∀ w ∈ wsL_law_r12, gdW w := fun w h => good_of_word (List.all_eq_true.mp (show wsL_law_r12.all goodWord = true by decide +kernel) w h)
theorem gd_wsL_law_r13 : ∀ w ∈ wsL_law_r13, gdW w := fun w h => good_of_word (List.all_eq_true.mp (show wsL_law_r13.all goodWord = true by decide +kernel) w h)
theorem gd_wsL_law_r14 : ∀ w ∈ wsL_law_r14, gdW w := fun w h => good_of_word (List.all_eq_true.mp (show wsL_law_r14.all goodWord = true by decide +kernel) w h)
theorem gd_wsL_law_r15 : ∀ w ∈ wsL_law_r15, gdW w := fun w h => good_of_word (List.all_eq_true.mp (show wsL_law_r15.all goodWord = true by decide +kernel) w h)
theorem gd_wsL_law_r16 : ∀ w ∈ wsL_law_r16, gdW w := fun w h => good_of_word (List.all_eq_true.mp (show wsL_law_r16.all goodWord = true by decide +kernel) w h)
theorem gd_wsL_law_r17 : ∀ w ∈ wsL_law_r17, gdW w := fun w h => good_of_word (List.all_eq_true.mp (show wsL_law_r17.all goodWord = true by decide +kernel) w h)
theorem gd_wsL_law_r18 : ∀ w ∈ wsL_law_r18, gdW w := fun w h => good_of_word (List.all_eq_true.mp (show wsL_law_r18.all goodWord = true by decide +kernel) w h)
theorem gd_wsL_law_r19 : ∀ w ∈ wsL_law_r19, gdW w := fun w h => good_of_word (List.all_eq_true.mp (show wsL_law_r19.all goodWord = true by decide +kernel) w h)
theorem gd_wsL_law_r20 : ∀ w ∈ wsL_law_r20, gdW w := fun w h => good_of_word (List.all_eq_true.mp (show wsL_law_r20.all goodWord = true by decide +kernel) w h)
theorem gd_wsL_law_r21 : ∀ w ∈ wsL_law_r21, gdW w := fun w h => good_of_word (List.all_eq_true.mp (show wsL_law_r21.all goodWord = true by decide +kernel) w h)
theorem gd_wsL_law_r22 : ∀ w ∈ wsL_law_r22, gdW w := fun w h => good_of_word (List.all_eq_true.mp (show wsL_law_r22.all goodWord = true by decide +kernel) w h)
theorem gd_wsL_law_r23 : ∀ w ∈ wsL_law_r23, gdW w := fun w h => good_of_word (List.all_eq_true.mp (show wsL_law_r23.all goodWord = true by decide +kernel) w h)
theorem gd_wsL_law_r24 : ∀ w ∈ wsL_law_r24, gdW w := fun w h => good_of_word (List.all_eq_true.mp (show wsL_law_r24.all goodWord = true by decide +kernel) w h)
theorem gd_wsL_law_r25 : ∀ w ∈ wsL_law_r25, gdW w := fun w h => good_of_word (List.all_eq_true.mp (show wsL_law_r25.all goodWord = true by decide +kernel) w h)
theorem gd_wsL_law_r26 : ∀ w ∈ wsL_law_r26, gdW w := fun w h => good_of_word (List.all_eq_true.mp (show wsL_law_r26.all goodWord = true by decide +kernel) w h)
theorem gd_wsL_law_r27 : ∀ w ∈ wsL_law_r27, gdW w := fun w h => good_of_word (List.all_eq_true.mp (show wsL_law_r27.all goodWord = true by decide +kernel) w h)
theorem gd_wsL_law_r28 : ∀ w ∈ wsL_law_r28, gdW w := fun w h => good_of_word (List.all_eq_true.mp (show wsL_law_r28.all goodWord = true by decide +kernel) w h)
theorem gd_wsL_law_r29 : ∀ w ∈ wsL_law_r29, gdW w := fun w h => good_of_word (List.all_eq_true.mp (show wsL_law_r29.all goodWord = true by decide +kernel) w h)
theorem gd_wsX70 : ∀ w ∈ wsX70, gdW w := fun w h => good_of_word (List.all_eq_true.mp (show wsX70.all goodWord = true by decide +kernel) w h)
theorem gd_wsX80 : ∀ w ∈ wsX80, gdW w := fun w h => good_of_word (List.all_eq_true.mp (show wsX80.all goodWord = true by decide +kernel) w h)
theorem gd_wsX30 : ∀ w ∈ wsX30, gdW w := fun w h => good_of_word (List.all_eq_true.mp (show wsX30.all goodWord = true by decide +kernel) w h)
theorem gd_wsX20 : ∀ w ∈ wsX20, gdW w := fun w h => good_of_word (List.all_eq_true.mp (show wsX20.all goodWord = true by decide +kernel) w h)
theorem gd_wsX50 : ∀ w ∈ wsX50, gdW w := fun w h => good_of_word (List.all_eq_true.mp (show wsX50.all goodWord = true by decide +kernel) w h)
theorem gd_wsX60 : ∀ w ∈ wsX60, gdW w := fun w h => good_of_word (List.all_eq_true.mp (show wsX60.all goodWord = true by decide +kernel) w h)
theorem gd_wsX10 : ∀ w ∈ wsX10, gdW w := fun w h => good_of_word (List.all_eq_true.mp (show wsX10.all goodWord = true by decide +kernel) w h)
theorem gd_wsX40 : ∀ w ∈ wsX40, gdW w := fun w h => good_of_word (List.all_eq_true.mp (show wsX40.all goodWord = true by decide +kernel) w h)
theorem gd_wsX00 : ∀ w ∈ wsX00, gdW w := fun w h => good_of_word (List.all_eq_true.mp (show wsX00.all goodWord = true by decide +kernel) w h)
theorem gd_all : ∀ w ∈ wsL_law, gdW w := List.forall_mem_append.mpr ⟨(List.forall_mem_append.mpr ⟨(List.forall_mem_append.mpr ⟨(List.forall_mem_append.mpr ⟨(List.forall_mem_append.mpr ⟨(List.forall_mem_append.mpr ⟨(List.forall_mem_append.mpr ⟨(List.forall_mem_append.mpr ⟨(List.forall_mem_append.mpr ⟨(List.forall_mem_append.mpr ⟨(List.forall_mem_append.mpr ⟨gd_wsL_law_r1, (List.forall_mem_append.mpr ⟨gd_wsL_law_r2, (List.forall_mem_append.mpr ⟨gd_wsL_law_r3, (List.forall_mem_append.mpr ⟨gd_wsL_law_r4, (List.forall_mem_append.mpr ⟨gd_wsL_law_r5, (List.forall_mem_append.mpr ⟨gd_wsL_law_r6, (List.forall_mem_append.mpr ⟨gd_wsL_law_r7, (List.forall_mem_append.mpr ⟨gd_wsL_law_r8, (List.forall_mem_append.mpr ⟨gd_wsL_law_r9, (List.forall_mem_append.mpr ⟨gd_wsL_law_r10, (List.forall_mem_append.mpr ⟨gd_wsL_law_r11, (List.forall_mem_append.mpr ⟨gd_wsL_law_r12, (List.forall_mem_append.mpr ⟨gd_wsL_law_r13, (List.forall_mem_append.mpr ⟨gd_wsL_law_r14, (List.forall_mem_append.mpr ⟨gd_wsL_law_r15, (List.forall_mem_append.mpr ⟨gd_wsL_law_r16, (List.forall_mem_append.mpr ⟨gd_wsL_law_r17, (List.forall_mem_append.mpr ⟨gd_wsL_law_r18, (List.forall_mem_append.mpr ⟨gd_wsL_law_r19, (List.forall_mem_append.mpr ⟨gd_wsL_law_r20, (List.forall_mem_append.mpr ⟨gd_wsL_law_r21, (List.forall_mem_append.mpr ⟨gd_wsL_law_r22, (List.forall_mem_append.mpr ⟨gd_wsL_law_r23, (List.forall_mem_append.mpr ⟨gd_wsL_law_r24, (List.forall_mem_append.mpr ⟨gd_wsL_law_r25, (List.forall_mem_append.mpr ⟨gd_wsL_law_r26, (List.forall_mem_append.mpr ⟨gd_wsL_law_r27, (List.forall_mem_append.mpr ⟨gd_wsL_law_r28, gd_wsL_law_r29⟩)⟩)⟩)⟩)⟩)⟩)⟩)⟩)⟩)⟩)⟩)⟩)⟩)⟩)⟩)⟩)⟩)⟩)⟩)⟩)⟩)⟩)⟩)⟩)⟩)⟩)⟩)⟩), gd_wsX70⟩), gd_wsX80⟩), gd_wsX30⟩), gd_wsX20⟩), gd_wsX50⟩), gd_wsX60⟩), gd_wsX10⟩), gd_wsX40⟩), gd_wsX00⟩), fun _ h => absurd h List.not_mem_nil⟩
theorem g_C0 {y : MethodName} {bytes : ByteArray} {n : Nat} {r : Option FieldType} (h : Cond.code y bytes n r ∈ wsL_law) : GoodIn wsL_law (.code y bytes n r :: wsL_law) := fun w hw => (List.mem_cons.mp hw).elim (fun e => by rw [e]; exact ⟨h, gd_all _ h⟩) (fun h2 => ⟨h2, gd_all _ h2⟩)
theorem g_up {big ws : List Cond} {x : Cond} (h : GoodIn big ws) : GoodIn (x :: big) ws := fun w hw => ⟨List.mem_cons_of_mem _ (h w hw).1, (h w hw).2⟩
theorem g_C {x : Cond} {y : MethodName} {bytes : ByteArray} {n : Nat} {r : Option FieldType} (h : Cond.code y bytes n r ∈ wsL_law) : GoodIn (x :: wsL_law) (.code y bytes n r :: wsL_law) := g_up (g_C0 h)
theorem g_V0 {own C : String} {i : Nat} {y : MethodName} {bytes : ByteArray} {n : Nat} {r : Option FieldType} (h1 : Cond.methodLink own i y ∈ wsL_law) (h2 : Cond.instanceMethod y ∈ wsL_law) (h3 : Cond.selects C y y ∈ wsL_law) (h4 : Cond.initialized C ∈ wsL_law) (h : Cond.code y bytes n r ∈ wsL_law) : GoodIn wsL_law (wsV own i C y (.code y bytes n r :: wsL_law)) := by
  intro w hw
  unfold wsV at hw
  rcases List.mem_append.mp hw with g | g
  · simp only [List.mem_cons, List.not_mem_nil, or_false] at g
    rcases g with e | e | e | e <;> (rw [e])
    · exact ⟨h1, gd_all _ h1⟩
    · exact ⟨h2, gd_all _ h2⟩
    · exact ⟨h3, gd_all _ h3⟩
    · exact ⟨h4, gd_all _ h4⟩
  · exact g_C0 h w g
theorem g_V {x : Cond} {own C : String} {i : Nat} {y : MethodName} {bytes : ByteArray} {n : Nat} {r : Option FieldType} (h1 : Cond.methodLink own i y ∈ wsL_law) (h2 : Cond.instanceMethod y ∈ wsL_law) (h3 : Cond.selects C y y ∈ wsL_law) (h4 : Cond.initialized C ∈ wsL_law) (h : Cond.code y bytes n r ∈ wsL_law) : GoodIn (x :: wsL_law) (wsV own i C y (.code y bytes n r :: wsL_law)) := g_up (g_V0 h1 h2 h3 h4 h)
theorem g_S {x : Cond} {own : String} {i : Nat} {y : MethodName} {bytes : ByteArray} {n : Nat} {r : Option FieldType} (h1 : Cond.methodLink own i y ∈ wsL_law) (h2 : Cond.static y ∈ wsL_law) (h4 : Cond.initialized y.cls ∈ wsL_law) (h : Cond.code y bytes n r ∈ wsL_law) : GoodIn (x :: wsL_law) (va_wsS own i y (.code y bytes n r :: wsL_law)) := by
  refine g_up (fun w hw => ?_)
  unfold va_wsS at hw
  rcases List.mem_append.mp hw with g | g
  · simp only [List.mem_cons, List.not_mem_nil, or_false] at g
    rcases g with e | e | e <;> (rw [e])
    · exact ⟨h1, gd_all _ h1⟩
    · exact ⟨h2, gd_all _ h2⟩
    · exact ⟨h4, gd_all _ h4⟩
  · exact g_C0 h w g
