/-! WORDS of the law's own methods that have tables; decode rows -/
abbrev y_Law_put : MethodName := ({ cls := "OrderTwoCasesLaw", name := "put", desc := "(LOrderTwoCases;IIJ[J)I" } : Jvm.MethodName)
abbrev b_Law_put : ByteArray := method_3_code
abbrev hh_Law_put : List (Nat × Nat × Nat × Nat) := [((0 : Nat), (19 : Nat), (22 : Nat), (13 : Nat)), ((0 : Nat), (19 : Nat), (26 : Nat), (15 : Nat))]
abbrev w_Law_put : List Cond := .codeWith y_Law_put b_Law_put 7 (Option.some Jvm.ClassFile.FieldType.int) hh_Law_put :: tT
set_option maxRecDepth 20000 in
theorem kw_put : Cond.codeWith y_Law_put b_Law_put 7 (Option.some Jvm.ClassFile.FieldType.int) hh_Law_put ∈ tT := tT_k 280 rfl (by decide +kernel)
theorem kv_put : ∀ w ∈ w_Law_put, w ∈ tT := fun w hw => (List.mem_cons.mp hw).elim (fun e => by rw [e]; exact kw_put) id
abbrev y_Law_at : MethodName := ({ cls := "OrderTwoCasesLaw", name := "at", desc := "(LOrderTwoCases;II[J)I" } : Jvm.MethodName)
abbrev b_Law_at : ByteArray := method_4_code
abbrev hh_Law_at : List (Nat × Nat × Nat × Nat) := [((0 : Nat), (10 : Nat), (13 : Nat), (13 : Nat)), ((0 : Nat), (10 : Nat), (17 : Nat), (15 : Nat))]
abbrev w_Law_at : List Cond := .codeWith y_Law_at b_Law_at 5 (Option.some Jvm.ClassFile.FieldType.int) hh_Law_at :: tT
set_option maxRecDepth 20000 in
theorem kw_at : Cond.codeWith y_Law_at b_Law_at 5 (Option.some Jvm.ClassFile.FieldType.int) hh_Law_at ∈ tT := tT_k 378 rfl (by decide +kernel)
theorem kv_at : ∀ w ∈ w_Law_at, w ∈ tT := fun w hw => (List.mem_cons.mp hw).elim (fun e => by rw [e]; exact kw_at) id
abbrev y_Law_tried : MethodName := ({ cls := "OrderTwoCasesLaw", name := "tried", desc := "(LOrderTwoCases;I[J)I" } : Jvm.MethodName)
abbrev b_Law_tried : ByteArray := method_5_code
abbrev hh_Law_tried : List (Nat × Nat × Nat × Nat) := [((0 : Nat), (9 : Nat), (12 : Nat), (25 : Nat)), ((0 : Nat), (9 : Nat), (15 : Nat), (13 : Nat))]
abbrev w_Law_tried : List Cond := .codeWith y_Law_tried b_Law_tried 4 (Option.some Jvm.ClassFile.FieldType.int) hh_Law_tried :: tT
set_option maxRecDepth 20000 in
theorem kw_tried : Cond.codeWith y_Law_tried b_Law_tried 4 (Option.some Jvm.ClassFile.FieldType.int) hh_Law_tried ∈ tT := tT_k 386 rfl (by decide +kernel)
theorem kv_tried : ∀ w ∈ w_Law_tried, w ∈ tT := fun w hw => (List.mem_cons.mp hw).elim (fun e => by rw [e]; exact kw_tried) id
abbrev y_Law_degree : MethodName := ({ cls := "OrderTwoCasesLaw", name := "degree", desc := "(LOrderTwoCases;I[J)I" } : Jvm.MethodName)
abbrev b_Law_degree : ByteArray := method_6_code
abbrev hh_Law_degree : List (Nat × Nat × Nat × Nat) := [((0 : Nat), (9 : Nat), (12 : Nat), (15 : Nat))]
abbrev w_Law_degree : List Cond := .codeWith y_Law_degree b_Law_degree 4 (Option.some Jvm.ClassFile.FieldType.int) hh_Law_degree :: tT
set_option maxRecDepth 20000 in
theorem kw_degree : Cond.codeWith y_Law_degree b_Law_degree 4 (Option.some Jvm.ClassFile.FieldType.int) hh_Law_degree ∈ tT := tT_k 411 rfl (by decide +kernel)
theorem kv_degree : ∀ w ∈ w_Law_degree, w ∈ tT := fun w hw => (List.mem_cons.mp hw).elim (fun e => by rw [e]; exact kw_degree) id
abbrev y_Law_polynomial : MethodName := ({ cls := "OrderTwoCasesLaw", name := "polynomial", desc := "(LOrderTwoCases;II[J)I" } : Jvm.MethodName)
abbrev b_Law_polynomial : ByteArray := method_7_code
abbrev hh_Law_polynomial : List (Nat × Nat × Nat × Nat) := [((0 : Nat), (10 : Nat), (13 : Nat), (15 : Nat))]
abbrev w_Law_polynomial : List Cond := .codeWith y_Law_polynomial b_Law_polynomial 5 (Option.some Jvm.ClassFile.FieldType.int) hh_Law_polynomial :: tT
set_option maxRecDepth 20000 in
theorem kw_polynomial : Cond.codeWith y_Law_polynomial b_Law_polynomial 5 (Option.some Jvm.ClassFile.FieldType.int) hh_Law_polynomial ∈ tT := tT_k 425 rfl (by decide +kernel)
theorem kv_polynomial : ∀ w ∈ w_Law_polynomial, w ∈ tT := fun w hw => (List.mem_cons.mp hw).elim (fun e => by rw [e]; exact kw_polynomial) id
abbrev y_Law_slope : MethodName := ({ cls := "OrderTwoCasesLaw", name := "slope", desc := "(LOrderTwoCases;II[J)I" } : Jvm.MethodName)
abbrev b_Law_slope : ByteArray := method_8_code
abbrev hh_Law_slope : List (Nat × Nat × Nat × Nat) := [((0 : Nat), (10 : Nat), (13 : Nat), (15 : Nat))]
abbrev w_Law_slope : List Cond := .codeWith y_Law_slope b_Law_slope 5 (Option.some Jvm.ClassFile.FieldType.int) hh_Law_slope :: tT
set_option maxRecDepth 20000 in
theorem kw_slope : Cond.codeWith y_Law_slope b_Law_slope 5 (Option.some Jvm.ClassFile.FieldType.int) hh_Law_slope ∈ tT := tT_k 433 rfl (by decide +kernel)
theorem kv_slope : ∀ w ∈ w_Law_slope, w ∈ tT := fun w hw => (List.mem_cons.mp hw).elim (fun e => by rw [e]; exact kw_slope) id
abbrev y_Law_series : MethodName := ({ cls := "OrderTwoCasesLaw", name := "series", desc := "(LOrderTwoCases;JJI[J)I" } : Jvm.MethodName)
abbrev b_Law_series : ByteArray := method_9_code
abbrev hh_Law_series : List (Nat × Nat × Nat × Nat) := [((0 : Nat), (13 : Nat), (16 : Nat), (15 : Nat))]
abbrev w_Law_series : List Cond := .codeWith y_Law_series b_Law_series 8 (Option.some Jvm.ClassFile.FieldType.int) hh_Law_series :: tT
set_option maxRecDepth 20000 in
theorem kw_series : Cond.codeWith y_Law_series b_Law_series 8 (Option.some Jvm.ClassFile.FieldType.int) hh_Law_series ∈ tT := tT_k 440 rfl (by decide +kernel)
theorem kv_series : ∀ w ∈ w_Law_series, w ∈ tT := fun w hw => (List.mem_cons.mp hw).elim (fun e => by rw [e]; exact kw_series) id
abbrev y_Law_answer : MethodName := ({ cls := "OrderTwoCasesLaw", name := "answer", desc := "(LOrderTwoCases;II[J)I" } : Jvm.MethodName)
abbrev b_Law_answer : ByteArray := method_10_code
abbrev hh_Law_answer : List (Nat × Nat × Nat × Nat) := [((0 : Nat), (10 : Nat), (13 : Nat), (15 : Nat))]
abbrev w_Law_answer : List Cond := .codeWith y_Law_answer b_Law_answer 5 (Option.some Jvm.ClassFile.FieldType.int) hh_Law_answer :: tT
set_option maxRecDepth 20000 in
theorem kw_answer : Cond.codeWith y_Law_answer b_Law_answer 5 (Option.some Jvm.ClassFile.FieldType.int) hh_Law_answer ∈ tT := tT_k 453 rfl (by decide +kernel)
theorem kv_answer : ∀ w ∈ w_Law_answer, w ∈ tT := fun w hw => (List.mem_cons.mp hw).elim (fun e => by rw [e]; exact kw_answer) id
theorem d_Law_put_0 : decode b_Law_put 0 = .ok (.aload 5, 2) := by decide +kernel
theorem d_Law_put_2 : decode b_Law_put 2 = .ok (.iconst 0, 1) := by decide +kernel
theorem d_Law_put_3 : decode b_Law_put 3 = .ok (.aload_n 0, 1) := by decide +kernel
theorem d_Law_put_4 : decode b_Law_put 4 = .ok (.iload_n 1, 1) := by decide +kernel
theorem d_Law_put_5 : decode b_Law_put 5 = .ok (.iload_n 2, 1) := by decide +kernel
theorem d_Law_put_6 : decode b_Law_put 6 = .ok (.lload_n 3, 1) := by decide +kernel
theorem d_Law_put_7 : decode b_Law_put 7 = .ok (.invokevirtual 7, 3) := by decide +kernel
theorem d_Law_put_10 : decode b_Law_put 10 = .ok (.ifCond .eq 7, 3) := by decide +kernel
theorem d_Law_put_13 : decode b_Law_put 13 = .ok (.lconst 1, 1) := by decide +kernel
theorem d_Law_put_14 : decode b_Law_put 14 = .ok (.goto 4, 3) := by decide +kernel
theorem d_Law_put_17 : decode b_Law_put 17 = .ok (.lconst 0, 1) := by decide +kernel
theorem d_Law_put_18 : decode b_Law_put 18 = .ok (.lastore, 1) := by decide +kernel
theorem d_Law_put_19 : decode b_Law_put 19 = .ok (.goto 11, 3) := by decide +kernel
theorem d_Law_put_22 : decode b_Law_put 22 = .ok (.astore 6, 2) := by decide +kernel
theorem d_Law_put_24 : decode b_Law_put 24 = .ok (.iconst 1, 1) := by decide +kernel
theorem d_Law_put_25 : decode b_Law_put 25 = .ok (.ireturn, 1) := by decide +kernel
theorem d_Law_put_26 : decode b_Law_put 26 = .ok (.astore 6, 2) := by decide +kernel
theorem d_Law_put_28 : decode b_Law_put 28 = .ok (.iconst 2, 1) := by decide +kernel
theorem d_Law_put_29 : decode b_Law_put 29 = .ok (.ireturn, 1) := by decide +kernel
theorem d_Law_put_30 : decode b_Law_put 30 = .ok (.iconst 0, 1) := by decide +kernel
theorem d_Law_put_31 : decode b_Law_put 31 = .ok (.ireturn, 1) := by decide +kernel
theorem d_Law_at_0 : decode b_Law_at 0 = .ok (.aload_n 3, 1) := by decide +kernel
theorem d_Law_at_1 : decode b_Law_at 1 = .ok (.iconst 0, 1) := by decide +kernel
theorem d_Law_at_2 : decode b_Law_at 2 = .ok (.aload_n 0, 1) := by decide +kernel
theorem d_Law_at_3 : decode b_Law_at 3 = .ok (.iload_n 1, 1) := by decide +kernel
theorem d_Law_at_4 : decode b_Law_at 4 = .ok (.iload_n 2, 1) := by decide +kernel
theorem d_Law_at_5 : decode b_Law_at 5 = .ok (.invokevirtual 17, 3) := by decide +kernel
theorem d_Law_at_8 : decode b_Law_at 8 = .ok (.i2l, 1) := by decide +kernel
theorem d_Law_at_9 : decode b_Law_at 9 = .ok (.lastore, 1) := by decide +kernel
theorem d_Law_at_10 : decode b_Law_at 10 = .ok (.goto 11, 3) := by decide +kernel
theorem d_Law_at_13 : decode b_Law_at 13 = .ok (.astore 4, 2) := by decide +kernel
theorem d_Law_at_15 : decode b_Law_at 15 = .ok (.iconst 1, 1) := by decide +kernel
theorem d_Law_at_16 : decode b_Law_at 16 = .ok (.ireturn, 1) := by decide +kernel
theorem d_Law_at_17 : decode b_Law_at 17 = .ok (.astore 4, 2) := by decide +kernel
theorem d_Law_at_19 : decode b_Law_at 19 = .ok (.iconst 2, 1) := by decide +kernel
theorem d_Law_at_20 : decode b_Law_at 20 = .ok (.ireturn, 1) := by decide +kernel
theorem d_Law_at_21 : decode b_Law_at 21 = .ok (.iconst 0, 1) := by decide +kernel
theorem d_Law_at_22 : decode b_Law_at 22 = .ok (.ireturn, 1) := by decide +kernel
theorem d_Law_tried_0 : decode b_Law_tried 0 = .ok (.aload_n 2, 1) := by decide +kernel
theorem d_Law_tried_1 : decode b_Law_tried 1 = .ok (.iconst 0, 1) := by decide +kernel
theorem d_Law_tried_2 : decode b_Law_tried 2 = .ok (.aload_n 0, 1) := by decide +kernel
theorem d_Law_tried_3 : decode b_Law_tried 3 = .ok (.iload_n 1, 1) := by decide +kernel
theorem d_Law_tried_4 : decode b_Law_tried 4 = .ok (.invokevirtual 21, 3) := by decide +kernel
theorem d_Law_tried_7 : decode b_Law_tried 7 = .ok (.i2l, 1) := by decide +kernel
theorem d_Law_tried_8 : decode b_Law_tried 8 = .ok (.lastore, 1) := by decide +kernel
theorem d_Law_tried_9 : decode b_Law_tried 9 = .ok (.goto 9, 3) := by decide +kernel
theorem d_Law_tried_12 : decode b_Law_tried 12 = .ok (.astore_n 3, 1) := by decide +kernel
theorem d_Law_tried_13 : decode b_Law_tried 13 = .ok (.iconst 1, 1) := by decide +kernel
theorem d_Law_tried_14 : decode b_Law_tried 14 = .ok (.ireturn, 1) := by decide +kernel
theorem d_Law_tried_15 : decode b_Law_tried 15 = .ok (.astore_n 3, 1) := by decide +kernel
theorem d_Law_tried_16 : decode b_Law_tried 16 = .ok (.iconst 2, 1) := by decide +kernel
theorem d_Law_tried_17 : decode b_Law_tried 17 = .ok (.ireturn, 1) := by decide +kernel
theorem d_Law_tried_18 : decode b_Law_tried 18 = .ok (.iconst 0, 1) := by decide +kernel
theorem d_Law_tried_19 : decode b_Law_tried 19 = .ok (.ireturn, 1) := by decide +kernel
theorem d_Law_degree_0 : decode b_Law_degree 0 = .ok (.aload_n 2, 1) := by decide +kernel
theorem d_Law_degree_1 : decode b_Law_degree 1 = .ok (.iconst 0, 1) := by decide +kernel
theorem d_Law_degree_2 : decode b_Law_degree 2 = .ok (.aload_n 0, 1) := by decide +kernel
theorem d_Law_degree_3 : decode b_Law_degree 3 = .ok (.iload_n 1, 1) := by decide +kernel
theorem d_Law_degree_4 : decode b_Law_degree 4 = .ok (.invokevirtual 27, 3) := by decide +kernel
theorem d_Law_degree_7 : decode b_Law_degree 7 = .ok (.i2l, 1) := by decide +kernel
theorem d_Law_degree_8 : decode b_Law_degree 8 = .ok (.lastore, 1) := by decide +kernel
theorem d_Law_degree_9 : decode b_Law_degree 9 = .ok (.goto 6, 3) := by decide +kernel
theorem d_Law_degree_12 : decode b_Law_degree 12 = .ok (.astore_n 3, 1) := by decide +kernel
theorem d_Law_degree_13 : decode b_Law_degree 13 = .ok (.iconst 1, 1) := by decide +kernel
theorem d_Law_degree_14 : decode b_Law_degree 14 = .ok (.ireturn, 1) := by decide +kernel
theorem d_Law_degree_15 : decode b_Law_degree 15 = .ok (.iconst 0, 1) := by decide +kernel
theorem d_Law_degree_16 : decode b_Law_degree 16 = .ok (.ireturn, 1) := by decide +kernel
theorem d_Law_polynomial_0 : decode b_Law_polynomial 0 = .ok (.aload_n 3, 1) := by decide +kernel
theorem d_Law_polynomial_1 : decode b_Law_polynomial 1 = .ok (.iconst 0, 1) := by decide +kernel
theorem d_Law_polynomial_2 : decode b_Law_polynomial 2 = .ok (.aload_n 0, 1) := by decide +kernel
theorem d_Law_polynomial_3 : decode b_Law_polynomial 3 = .ok (.iload_n 1, 1) := by decide +kernel
theorem d_Law_polynomial_4 : decode b_Law_polynomial 4 = .ok (.iload_n 2, 1) := by decide +kernel
theorem d_Law_polynomial_5 : decode b_Law_polynomial 5 = .ok (.invokevirtual 30, 3) := by decide +kernel
theorem d_Law_polynomial_8 : decode b_Law_polynomial 8 = .ok (.i2l, 1) := by decide +kernel
theorem d_Law_polynomial_9 : decode b_Law_polynomial 9 = .ok (.lastore, 1) := by decide +kernel
theorem d_Law_polynomial_10 : decode b_Law_polynomial 10 = .ok (.goto 7, 3) := by decide +kernel
theorem d_Law_polynomial_13 : decode b_Law_polynomial 13 = .ok (.astore 4, 2) := by decide +kernel
theorem d_Law_polynomial_15 : decode b_Law_polynomial 15 = .ok (.iconst 1, 1) := by decide +kernel
theorem d_Law_polynomial_16 : decode b_Law_polynomial 16 = .ok (.ireturn, 1) := by decide +kernel
theorem d_Law_polynomial_17 : decode b_Law_polynomial 17 = .ok (.iconst 0, 1) := by decide +kernel
theorem d_Law_polynomial_18 : decode b_Law_polynomial 18 = .ok (.ireturn, 1) := by decide +kernel
theorem d_Law_slope_0 : decode b_Law_slope 0 = .ok (.aload_n 3, 1) := by decide +kernel
theorem d_Law_slope_1 : decode b_Law_slope 1 = .ok (.iconst 0, 1) := by decide +kernel
theorem d_Law_slope_2 : decode b_Law_slope 2 = .ok (.aload_n 0, 1) := by decide +kernel
theorem d_Law_slope_3 : decode b_Law_slope 3 = .ok (.iload_n 1, 1) := by decide +kernel
theorem d_Law_slope_4 : decode b_Law_slope 4 = .ok (.iload_n 2, 1) := by decide +kernel
theorem d_Law_slope_5 : decode b_Law_slope 5 = .ok (.invokevirtual 33, 3) := by decide +kernel
theorem d_Law_slope_8 : decode b_Law_slope 8 = .ok (.i2l, 1) := by decide +kernel
theorem d_Law_slope_9 : decode b_Law_slope 9 = .ok (.lastore, 1) := by decide +kernel
theorem d_Law_slope_10 : decode b_Law_slope 10 = .ok (.goto 7, 3) := by decide +kernel
theorem d_Law_slope_13 : decode b_Law_slope 13 = .ok (.astore 4, 2) := by decide +kernel
theorem d_Law_slope_15 : decode b_Law_slope 15 = .ok (.iconst 1, 1) := by decide +kernel
theorem d_Law_slope_16 : decode b_Law_slope 16 = .ok (.ireturn, 1) := by decide +kernel
theorem d_Law_slope_17 : decode b_Law_slope 17 = .ok (.iconst 0, 1) := by decide +kernel
theorem d_Law_slope_18 : decode b_Law_slope 18 = .ok (.ireturn, 1) := by decide +kernel
theorem d_Law_series_0 : decode b_Law_series 0 = .ok (.aload 6, 2) := by decide +kernel
theorem d_Law_series_2 : decode b_Law_series 2 = .ok (.iconst 0, 1) := by decide +kernel
theorem d_Law_series_3 : decode b_Law_series 3 = .ok (.aload_n 0, 1) := by decide +kernel
theorem d_Law_series_4 : decode b_Law_series 4 = .ok (.lload_n 1, 1) := by decide +kernel
theorem d_Law_series_5 : decode b_Law_series 5 = .ok (.lload_n 3, 1) := by decide +kernel
theorem d_Law_series_6 : decode b_Law_series 6 = .ok (.iload 5, 2) := by decide +kernel
theorem d_Law_series_8 : decode b_Law_series 8 = .ok (.invokevirtual 36, 3) := by decide +kernel
theorem d_Law_series_11 : decode b_Law_series 11 = .ok (.i2l, 1) := by decide +kernel
theorem d_Law_series_12 : decode b_Law_series 12 = .ok (.lastore, 1) := by decide +kernel
theorem d_Law_series_13 : decode b_Law_series 13 = .ok (.goto 7, 3) := by decide +kernel
theorem d_Law_series_16 : decode b_Law_series 16 = .ok (.astore 7, 2) := by decide +kernel
theorem d_Law_series_18 : decode b_Law_series 18 = .ok (.iconst 1, 1) := by decide +kernel
theorem d_Law_series_19 : decode b_Law_series 19 = .ok (.ireturn, 1) := by decide +kernel
theorem d_Law_series_20 : decode b_Law_series 20 = .ok (.iconst 0, 1) := by decide +kernel
theorem d_Law_series_21 : decode b_Law_series 21 = .ok (.ireturn, 1) := by decide +kernel
theorem d_Law_answer_0 : decode b_Law_answer 0 = .ok (.aload_n 3, 1) := by decide +kernel
theorem d_Law_answer_1 : decode b_Law_answer 1 = .ok (.iconst 0, 1) := by decide +kernel
theorem d_Law_answer_2 : decode b_Law_answer 2 = .ok (.aload_n 0, 1) := by decide +kernel
theorem d_Law_answer_3 : decode b_Law_answer 3 = .ok (.iload_n 1, 1) := by decide +kernel
theorem d_Law_answer_4 : decode b_Law_answer 4 = .ok (.iload_n 2, 1) := by decide +kernel
theorem d_Law_answer_5 : decode b_Law_answer 5 = .ok (.invokevirtual 40, 3) := by decide +kernel
theorem d_Law_answer_8 : decode b_Law_answer 8 = .ok (.i2l, 1) := by decide +kernel
theorem d_Law_answer_9 : decode b_Law_answer 9 = .ok (.lastore, 1) := by decide +kernel
theorem d_Law_answer_10 : decode b_Law_answer 10 = .ok (.goto 7, 3) := by decide +kernel
theorem d_Law_answer_13 : decode b_Law_answer 13 = .ok (.astore 4, 2) := by decide +kernel
theorem d_Law_answer_15 : decode b_Law_answer 15 = .ok (.iconst 1, 1) := by decide +kernel
theorem d_Law_answer_16 : decode b_Law_answer 16 = .ok (.ireturn, 1) := by decide +kernel
theorem d_Law_answer_17 : decode b_Law_answer 17 = .ok (.iconst 0, 1) := by decide +kernel
theorem d_Law_answer_18 : decode b_Law_answer 18 = .ok (.ireturn, 1) := by decide +kernel

