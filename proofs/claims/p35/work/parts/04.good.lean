theorem gk_1 : ∀ w ∈ wsL_law0_r1, goodWord w = true := by decide +kernel
theorem gk_2 : ∀ w ∈ wsL_law0_r2, goodWord w = true := by decide +kernel
theorem gk_3 : ∀ w ∈ wsL_law0_r3, goodWord w = true := by decide +kernel
theorem gk_4 : ∀ w ∈ wsL_law0_r4, goodWord w = true := by decide +kernel
theorem gk_5 : ∀ w ∈ wsL_law0_r5, goodWord w = true := by decide +kernel
theorem gk_6 : ∀ w ∈ wsL_law0_r6, goodWord w = true := by decide +kernel
theorem gk_7 : ∀ w ∈ wsL_law0_r7, goodWord w = true := by decide +kernel
theorem gk_8 : ∀ w ∈ wsL_law0_r8, goodWord w = true := by decide +kernel
theorem gk_9 : ∀ w ∈ wsL_law0_r9, goodWord w = true := by decide +kernel
theorem gk_10 : ∀ w ∈ wsL_law0_r10, goodWord w = true := by decide +kernel
theorem gk_11 : ∀ w ∈ wsL_law0_r11, goodWord w = true := by decide +kernel
theorem gk_12 : ∀ w ∈ wsL_law0_r12, goodWord w = true := by decide +kernel
theorem gk_13 : ∀ w ∈ wsL_law0_r13, goodWord w = true := by decide +kernel
theorem gk_14 : ∀ w ∈ wsL_law0_r14, goodWord w = true := by decide +kernel
theorem gk_15 : ∀ w ∈ wsL_law0_r15, goodWord w = true := by decide +kernel
theorem gk_16 : ∀ w ∈ wsL_law0_r16, goodWord w = true := by decide +kernel
theorem gk_17 : ∀ w ∈ wsL_law0_r17, goodWord w = true := by decide +kernel
theorem gk_18 : ∀ w ∈ wsL_law0_r18, goodWord w = true := by decide +kernel
theorem gk_19 : ∀ w ∈ wsL_law0_r19, goodWord w = true := by decide +kernel
theorem gk_20 : ∀ w ∈ wsL_law0_r20, goodWord w = true := by decide +kernel
theorem gk_21 : ∀ w ∈ wsL_law0_r21, goodWord w = true := by decide +kernel
theorem gk_22 : ∀ w ∈ wsL_law0_r22, goodWord w = true := by decide +kernel
theorem gk_23 : ∀ w ∈ wsL_law0_r23, goodWord w = true := by decide +kernel
theorem gk_24 : ∀ w ∈ wsL_law0_r24, goodWord w = true := by decide +kernel
theorem gk_25 : ∀ w ∈ wsL_law0_r25, goodWord w = true := by decide +kernel
theorem gk_26 : ∀ w ∈ wsL_law0_r26, goodWord w = true := by decide +kernel
theorem gk_27 : ∀ w ∈ wsL_law0_r27, goodWord w = true := by decide +kernel
theorem gk_28 : ∀ w ∈ wsL_law0_r28, goodWord w = true := by decide +kernel
theorem gk_29 : ∀ w ∈ wsL_law0_r29, goodWord w = true := by decide +kernel
theorem gk_30 : ∀ w ∈ wsL_law0_r30, goodWord w = true := by decide +kernel
theorem gk_31 : ∀ w ∈ wsL_law0_r31, goodWord w = true := by decide +kernel
theorem gk_32 : ∀ w ∈ wsL_law0_r32, goodWord w = true := by decide +kernel
theorem gk_33 : ∀ w ∈ wsL_law0_r33, goodWord w = true := by decide +kernel
theorem gk_34 : ∀ w ∈ wsL_law0_r34, goodWord w = true := by decide +kernel
theorem gk_35 : ∀ w ∈ wsL_law0_r35, goodWord w = true := by decide +kernel
theorem gk_36 : ∀ w ∈ wsL_law0_r36, goodWord w = true := by decide +kernel
theorem gk_37 : ∀ w ∈ wsL_law0_r37, goodWord w = true := by decide +kernel
theorem gk_38 : ∀ w ∈ wsL_law0_r38, goodWord w = true := by decide +kernel
theorem gk_39 : ∀ w ∈ wsL_law0_r39, goodWord w = true := by decide +kernel
theorem gk_40 : ∀ w ∈ wsL_law0_r40, goodWord w = true := by decide +kernel
theorem gk_41 : ∀ w ∈ wsL_law0_r41, goodWord w = true := by decide +kernel
theorem gk_42 : ∀ w ∈ wsL_law0_r42, goodWord w = true := by decide +kernel
theorem gk_43 : ∀ w ∈ wsL_law0_r43, goodWord w = true := by decide +kernel
theorem gk_44 : ∀ w ∈ wsL_law0_r44, goodWord w = true := by decide +kernel
theorem gk_45 : ∀ w ∈ wsL_law0_r45, goodWord w = true := by decide +kernel
theorem gk_46 : ∀ w ∈ wsL_law0_r46, goodWord w = true := by decide +kernel
theorem gk_47 : ∀ w ∈ wsL_law0_r47, goodWord w = true := by decide +kernel
theorem gk_48 : ∀ w ∈ wsL_law0_r48, goodWord w = true := by decide +kernel
theorem gk_49 : ∀ w ∈ wsL_law0_r49, goodWord w = true := by decide +kernel
theorem gk_50 : ∀ w ∈ wsL_law0_r50, goodWord w = true := by decide +kernel
theorem gk_51 : ∀ w ∈ wsL_law0_r51, goodWord w = true := by decide +kernel
theorem gk_52 : ∀ w ∈ wsL_law0_r52, goodWord w = true := by decide +kernel
theorem gk_53 : ∀ w ∈ wsL_law0_r53, goodWord w = true := by decide +kernel
theorem gk_54 : ∀ w ∈ wsL_law0_r54, goodWord w = true := by decide +kernel
theorem gk_55 : ∀ w ∈ wsL_law0_r55, goodWord w = true := by decide +kernel
theorem gk_56 : ∀ w ∈ wsL_law0_r56, goodWord w = true := by decide +kernel
theorem gk_57 : ∀ w ∈ wsL_law0_r57, goodWord w = true := by decide +kernel
theorem gk_58 : ∀ w ∈ wsL_law0_r58, goodWord w = true := by decide +kernel
theorem gk_59 : ∀ w ∈ wsL_law0_r59, goodWord w = true := by decide +kernel
theorem gk_60 : ∀ w ∈ wsL_law0_r60, goodWord w = true := by decide +kernel
theorem gk_61 : ∀ w ∈ wsL_law0_r61, goodWord w = true := by decide +kernel
theorem gk_62 : ∀ w ∈ wsL_law0_r62, goodWord w = true := by decide +kernel
theorem gk_63 : ∀ w ∈ wsL_law0_r63, goodWord w = true := by decide +kernel
theorem gk_64 : ∀ w ∈ wsL_law0_r64, goodWord w = true := by decide +kernel
theorem gk_65 : ∀ w ∈ wsL_law0_r65, goodWord w = true := by decide +kernel
theorem gk_66 : ∀ w ∈ wsL_law0_r66, goodWord w = true := by decide +kernel
theorem gl_11 : ∀ w ∈ wsX110, goodWord w = true := by decide +kernel
theorem gl_12 : ∀ w ∈ wsX120, goodWord w = true := by decide +kernel
theorem gl_7 : ∀ w ∈ wsX70, goodWord w = true := by decide +kernel
theorem gl_0 : ∀ w ∈ wsX00, goodWord w = true := by decide +kernel
theorem gl_5 : ∀ w ∈ wsX50, goodWord w = true := by decide +kernel
theorem gl_2 : ∀ w ∈ wsX20, goodWord w = true := by decide +kernel
theorem gl_6 : ∀ w ∈ wsX60, goodWord w = true := by decide +kernel
theorem gl_4 : ∀ w ∈ wsX40, goodWord w = true := by decide +kernel
theorem gl_10 : ∀ w ∈ wsX100, goodWord w = true := by decide +kernel
theorem gl_3 : ∀ w ∈ wsX30, goodWord w = true := by decide +kernel
theorem gl_9 : ∀ w ∈ wsX90, goodWord w = true := by decide +kernel
theorem gl_8 : ∀ w ∈ wsX80, goodWord w = true := by decide +kernel
theorem gl_1 : ∀ w ∈ wsX10, goodWord w = true := by decide +kernel
theorem xg_good : ∀ w ∈ wsL_law, goodWord w = true := List.forall_mem_append.mpr ⟨List.forall_mem_append.mpr ⟨List.forall_mem_append.mpr ⟨List.forall_mem_append.mpr ⟨List.forall_mem_append.mpr ⟨List.forall_mem_append.mpr ⟨List.forall_mem_append.mpr ⟨List.forall_mem_append.mpr ⟨List.forall_mem_append.mpr ⟨List.forall_mem_append.mpr ⟨List.forall_mem_append.mpr ⟨List.forall_mem_append.mpr ⟨List.forall_mem_append.mpr ⟨List.forall_mem_append.mpr ⟨List.forall_mem_append.mpr ⟨gk_1, List.forall_mem_append.mpr ⟨gk_2, List.forall_mem_append.mpr ⟨gk_3, List.forall_mem_append.mpr ⟨gk_4, List.forall_mem_append.mpr ⟨gk_5, List.forall_mem_append.mpr ⟨gk_6, List.forall_mem_append.mpr ⟨gk_7, List.forall_mem_append.mpr ⟨gk_8, List.forall_mem_append.mpr ⟨gk_9, List.forall_mem_append.mpr ⟨gk_10, List.forall_mem_append.mpr ⟨gk_11, List.forall_mem_append.mpr ⟨gk_12, List.forall_mem_append.mpr ⟨gk_13, List.forall_mem_append.mpr ⟨gk_14, List.forall_mem_append.mpr ⟨gk_15, List.forall_mem_append.mpr ⟨gk_16, List.forall_mem_append.mpr ⟨gk_17, List.forall_mem_append.mpr ⟨gk_18, List.forall_mem_append.mpr ⟨gk_19, List.forall_mem_append.mpr ⟨gk_20, List.forall_mem_append.mpr ⟨gk_21, List.forall_mem_append.mpr ⟨gk_22, List.forall_mem_append.mpr ⟨gk_23, List.forall_mem_append.mpr ⟨gk_24, List.forall_mem_append.mpr ⟨gk_25, List.forall_mem_append.mpr ⟨gk_26, List.forall_mem_append.mpr ⟨gk_27, List.forall_mem_append.mpr ⟨gk_28, List.forall_mem_append.mpr ⟨gk_29, List.forall_mem_append.mpr ⟨gk_30, List.forall_mem_append.mpr ⟨gk_31, List.forall_mem_append.mpr ⟨gk_32, List.forall_mem_append.mpr ⟨gk_33, List.forall_mem_append.mpr ⟨gk_34, List.forall_mem_append.mpr ⟨gk_35, List.forall_mem_append.mpr ⟨gk_36, List.forall_mem_append.mpr ⟨gk_37, List.forall_mem_append.mpr ⟨gk_38, List.forall_mem_append.mpr ⟨gk_39, List.forall_mem_append.mpr ⟨gk_40, List.forall_mem_append.mpr ⟨gk_41, List.forall_mem_append.mpr ⟨gk_42, List.forall_mem_append.mpr ⟨gk_43, List.forall_mem_append.mpr ⟨gk_44, List.forall_mem_append.mpr ⟨gk_45, List.forall_mem_append.mpr ⟨gk_46, List.forall_mem_append.mpr ⟨gk_47, List.forall_mem_append.mpr ⟨gk_48, List.forall_mem_append.mpr ⟨gk_49, List.forall_mem_append.mpr ⟨gk_50, List.forall_mem_append.mpr ⟨gk_51, List.forall_mem_append.mpr ⟨gk_52, List.forall_mem_append.mpr ⟨gk_53, List.forall_mem_append.mpr ⟨gk_54, List.forall_mem_append.mpr ⟨gk_55, List.forall_mem_append.mpr ⟨gk_56, List.forall_mem_append.mpr ⟨gk_57, List.forall_mem_append.mpr ⟨gk_58, List.forall_mem_append.mpr ⟨gk_59, List.forall_mem_append.mpr ⟨gk_60, List.forall_mem_append.mpr ⟨gk_61, List.forall_mem_append.mpr ⟨gk_62, List.forall_mem_append.mpr ⟨gk_63, List.forall_mem_append.mpr ⟨gk_64, List.forall_mem_append.mpr ⟨gk_65, gk_66⟩⟩⟩⟩⟩⟩⟩⟩⟩⟩⟩⟩⟩⟩⟩⟩⟩⟩⟩⟩⟩⟩⟩⟩⟩⟩⟩⟩⟩⟩⟩⟩⟩⟩⟩⟩⟩⟩⟩⟩⟩⟩⟩⟩⟩⟩⟩⟩⟩⟩⟩⟩⟩⟩⟩⟩⟩⟩⟩⟩⟩⟩⟩⟩⟩, gl_11⟩, gl_12⟩, gl_7⟩, gl_0⟩, gl_5⟩, gl_2⟩, gl_6⟩, gl_4⟩, gl_10⟩, gl_3⟩, gl_9⟩, gl_8⟩, gl_1⟩, fun _ h => absurd h List.not_mem_nil⟩
theorem xg_code {c : Cond} (h : c ∈ wsL_law) : GoodIn wsL_law (c :: wsL_law) := fun w hw => by
  have hm : w ∈ wsL_law := (List.mem_cons.mp hw).elim (fun e => e ▸ h) id
  exact ⟨hm, good_of_word (xg_good w hm)⟩
theorem xg_all {l : List Cond} (h : ∀ w ∈ l, w ∈ wsL_law) : GoodIn wsL_law l := fun w hw => ⟨h w hw, good_of_word (xg_good w (h w hw))⟩
theorem xg_V {own C : String} {idx : Nat} {y : MethodName} {c : Cond} (h1 : Cond.methodLink own idx y ∈ wsL_law) (h2 : Cond.instanceMethod y ∈ wsL_law) (h3 : Cond.selects C y y ∈ wsL_law) (h4 : Cond.initialized C ∈ wsL_law) (h5 : c ∈ wsL_law) : GoodIn wsL_law (wsV own idx C y (c :: wsL_law)) :=
  goodIn_app (xg_all (List.forall_mem_cons.mpr ⟨h1, List.forall_mem_cons.mpr ⟨h2, List.forall_mem_cons.mpr ⟨h3, List.forall_mem_cons.mpr ⟨h4, fun _ h => absurd h List.not_mem_nil⟩⟩⟩⟩)) (xg_code h5)
theorem xg_S {own : String} {idx : Nat} {y : MethodName} {c : Cond} (h1 : Cond.methodLink own idx y ∈ wsL_law) (h2 : Cond.static y ∈ wsL_law) (h3 : Cond.initialized y.cls ∈ wsL_law) (h5 : c ∈ wsL_law) : GoodIn wsL_law (va_wsS own idx y (c :: wsL_law)) :=
  goodIn_app (xg_all (List.forall_mem_cons.mpr ⟨h1, List.forall_mem_cons.mpr ⟨h2, List.forall_mem_cons.mpr ⟨h3, fun _ h => absurd h List.not_mem_nil⟩⟩⟩)) (xg_code h5)

