theorem zin_sl {α : Type} {l : List α} {x : α} (a b : Nat) (h : x ∈ (l.drop a).take b) : x ∈ l := List.mem_of_mem_drop (List.mem_of_mem_take h)
set_option maxRecDepth 100000 in
theorem xq_words : ∀ j, j < 118 → Cond.eq (.elem (.field (Term.string RX3 19) "java/lang/String" "value" "[B") (.int (Int32.ofNat j))) (.int (((108 :: 97 :: 110 :: 100 :: 32 :: 102 :: 114 :: 111 :: 109 :: 32 :: 119 :: 101 :: 101 :: 107 :: 32 :: 109 :: 111 :: 111 :: 110 :: 32 :: 115 :: 117 :: 110 :: 32 :: 102 :: 101 :: 97 :: 115 :: 116 :: 32 :: 112 :: 101 :: 114 :: 115 :: 111 :: 110 :: 32 :: 100 :: 105 :: 101 :: 100 :: 32 :: 100 :: 101 :: 101 :: 100 :: 32 :: 121 :: 101 :: 97 :: 114 :: 115 :: 32 :: 100 :: 97 :: 121 :: 115 :: 32 :: 116 :: 105 :: 108 :: 108 :: 32 :: 112 :: 97 :: 121 :: 32 :: 110 :: 111 :: 116 :: 101 :: 32 :: 121 :: 101 :: 97 :: 114 :: 32 :: 100 :: 97 :: 121 :: 32 :: 115 :: 101 :: 97 :: 115 :: 111 :: [110, 32, 97, 108, 105, 118, 101, 32, 97, 102, 116, 101, 114, 32, 111, 114, 32, 97, 110, 100, 32, 110, 111, 116, 32, 108, 101, 110, 103, 116, 104, 32]) : List Int32).getD j 0)) ∈ flatC (Jvm.Cond.and given_1 narrow_1) := by
  have h : ((flatC (Jvm.Cond.and given_1 narrow_1)).drop 84).take 118 = (List.range 118).map (fun j => (Cond.eq (.elem (.field (Term.string RX3 19) "java/lang/String" "value" "[B") (.int (Int32.ofNat j))) (.int (((108 :: 97 :: 110 :: 100 :: 32 :: 102 :: 114 :: 111 :: 109 :: 32 :: 119 :: 101 :: 101 :: 107 :: 32 :: 109 :: 111 :: 111 :: 110 :: 32 :: 115 :: 117 :: 110 :: 32 :: 102 :: 101 :: 97 :: 115 :: 116 :: 32 :: 112 :: 101 :: 114 :: 115 :: 111 :: 110 :: 32 :: 100 :: 105 :: 101 :: 100 :: 32 :: 100 :: 101 :: 101 :: 100 :: 32 :: 121 :: 101 :: 97 :: 114 :: 115 :: 32 :: 100 :: 97 :: 121 :: 115 :: 32 :: 116 :: 105 :: 108 :: 108 :: 32 :: 112 :: 97 :: 121 :: 32 :: 110 :: 111 :: 116 :: 101 :: 32 :: 121 :: 101 :: 97 :: 114 :: 32 :: 100 :: 97 :: 121 :: 32 :: 115 :: 101 :: 97 :: 115 :: 111 :: [110, 32, 97, 108, 105, 118, 101, 32, 97, 102, 116, 101, 114, 32, 111, 114, 32, 97, 110, 100, 32, 110, 111, 116, 32, 108, 101, 110, 103, 116, 104, 32]) : List Int32).getD j 0)) : Cond)) := by rfl
  intro j hj
  have m : Cond.eq (.elem (.field (Term.string RX3 19) "java/lang/String" "value" "[B") (.int (Int32.ofNat j))) (.int (((108 :: 97 :: 110 :: 100 :: 32 :: 102 :: 114 :: 111 :: 109 :: 32 :: 119 :: 101 :: 101 :: 107 :: 32 :: 109 :: 111 :: 111 :: 110 :: 32 :: 115 :: 117 :: 110 :: 32 :: 102 :: 101 :: 97 :: 115 :: 116 :: 32 :: 112 :: 101 :: 114 :: 115 :: 111 :: 110 :: 32 :: 100 :: 105 :: 101 :: 100 :: 32 :: 100 :: 101 :: 101 :: 100 :: 32 :: 121 :: 101 :: 97 :: 114 :: 115 :: 32 :: 100 :: 97 :: 121 :: 115 :: 32 :: 116 :: 105 :: 108 :: 108 :: 32 :: 112 :: 97 :: 121 :: 32 :: 110 :: 111 :: 116 :: 101 :: 32 :: 121 :: 101 :: 97 :: 114 :: 32 :: 100 :: 97 :: 121 :: 32 :: 115 :: 101 :: 97 :: 115 :: 111 :: [110, 32, 97, 108, 105, 118, 101, 32, 97, 102, 116, 101, 114, 32, 111, 114, 32, 97, 110, 100, 32, 110, 111, 116, 32, 108, 101, 110, 103, 116, 104, 32]) : List Int32).getD j 0)) ∈ ((flatC (Jvm.Cond.and given_1 narrow_1)).drop 84).take 118 := by
    rw [h]
    exact List.mem_map_of_mem (f := fun j => (Cond.eq (.elem (.field (Term.string RX3 19) "java/lang/String" "value" "[B") (.int (Int32.ofNat j))) (.int (((108 :: 97 :: 110 :: 100 :: 32 :: 102 :: 114 :: 111 :: 109 :: 32 :: 119 :: 101 :: 101 :: 107 :: 32 :: 109 :: 111 :: 111 :: 110 :: 32 :: 115 :: 117 :: 110 :: 32 :: 102 :: 101 :: 97 :: 115 :: 116 :: 32 :: 112 :: 101 :: 114 :: 115 :: 111 :: 110 :: 32 :: 100 :: 105 :: 101 :: 100 :: 32 :: 100 :: 101 :: 101 :: 100 :: 32 :: 121 :: 101 :: 97 :: 114 :: 115 :: 32 :: 100 :: 97 :: 121 :: 115 :: 32 :: 116 :: 105 :: 108 :: 108 :: 32 :: 112 :: 97 :: 121 :: 32 :: 110 :: 111 :: 116 :: 101 :: 32 :: 121 :: 101 :: 97 :: 114 :: 32 :: 100 :: 97 :: 121 :: 32 :: 115 :: 101 :: 97 :: 115 :: 111 :: [110, 32, 97, 108, 105, 118, 101, 32, 97, 102, 116, 101, 114, 32, 111, 114, 32, 97, 110, 100, 32, 110, 111, 116, 32, 108, 101, 110, 103, 116, 104, 32]) : List Int32).getD j 0)) : Cond)) (List.mem_range.mpr hj)
  exact List.mem_of_mem_drop (List.mem_of_mem_take m)
theorem xs_words {s : State} {args : Array Value} {A : Nat → Prop} (hs : ∀ c ∈ flatC (Jvm.Cond.and given_1 narrow_1), c.before args s = true) (hA : ∀ a : Nat, a < s.heap.size → ¬ A a) : ∃ adK adV : Nat → Nat, vk_S 1 [118] [(108 :: 97 :: 110 :: 100 :: 32 :: 102 :: 114 :: 111 :: 109 :: 32 :: 119 :: 101 :: 101 :: 107 :: 32 :: 109 :: 111 :: 111 :: 110 :: 32 :: 115 :: 117 :: 110 :: 32 :: 102 :: 101 :: 97 :: 115 :: 116 :: 32 :: 112 :: 101 :: 114 :: 115 :: 111 :: 110 :: 32 :: 100 :: 105 :: 101 :: 100 :: 32 :: 100 :: 101 :: 101 :: 100 :: 32 :: 121 :: 101 :: 97 :: 114 :: 115 :: 32 :: 100 :: 97 :: 121 :: 115 :: 32 :: 116 :: 105 :: 108 :: 108 :: 32 :: 112 :: 97 :: 121 :: 32 :: 110 :: 111 :: 116 :: 101 :: 32 :: 121 :: 101 :: 97 :: 114 :: 32 :: 100 :: 97 :: 121 :: 32 :: 115 :: 101 :: 97 :: 115 :: 111 :: [110, 32, 97, 108, 105, 118, 101, 32, 97, 102, 116, 101, 114, 32, 111, 114, 32, 97, 110, 100, 32, 110, 111, 116, 32, 108, 101, 110, 103, 116, 104, 32])] adK adV A s s.heap ∧ ∀ i : Nat, i < 1 → (Term.string RX3 19).eval args s none [] s = some (.ref (adK i)) := by
  refine vk_Sof (N := 1) (tm := fun _ => (Term.string RX3 19)) (len := [118]) (byt := [(108 :: 97 :: 110 :: 100 :: 32 :: 102 :: 114 :: 111 :: 109 :: 32 :: 119 :: 101 :: 101 :: 107 :: 32 :: 109 :: 111 :: 111 :: 110 :: 32 :: 115 :: 117 :: 110 :: 32 :: 102 :: 101 :: 97 :: 115 :: 116 :: 32 :: 112 :: 101 :: 114 :: 115 :: 111 :: 110 :: 32 :: 100 :: 105 :: 101 :: 100 :: 32 :: 100 :: 101 :: 101 :: 100 :: 32 :: 121 :: 101 :: 97 :: 114 :: 115 :: 32 :: 100 :: 97 :: 121 :: 115 :: 32 :: 116 :: 105 :: 108 :: 108 :: 32 :: 112 :: 97 :: 121 :: 32 :: 110 :: 111 :: 116 :: 101 :: 32 :: 121 :: 101 :: 97 :: 114 :: 32 :: 100 :: 97 :: 121 :: 32 :: 115 :: 101 :: 97 :: 115 :: 111 :: [110, 32, 97, 108, 105, 118, 101, 32, 97, 102, 116, 101, 114, 32, 111, 114, 32, 97, 110, 100, 32, 110, 111, 116, 32, 108, 101, 110, 103, 116, 104, 32])]) ?_ ?_ ?_ ?_ ?_ ?_ ?_ hA
  · intro i hi; obtain rfl : i = 0 := by omega
    decide
  · intro i hi; exact hs _ (zin_sl 80 4 (by decide +kernel))
  · intro i hi; exact hs _ (zin_sl 80 4 (by decide +kernel))
  · intro i hi; exact hs _ (zin_sl 80 4 (by decide +kernel))
  · intro i hi; obtain rfl : i = 0 := by omega
    exact hs _ (zin_sl 80 4 (by decide +kernel))
  · intro i hi j hj; obtain rfl : i = 0 := by omega
    exact hs _ (xq_words j hj)
  · intro i j hi hj hne; omega
set_option maxRecDepth 100000 in
theorem xq_land : ∀ j, j < 12 → Cond.eq (.elem (.field (Term.string RX11 118) "java/lang/String" "value" "[B") (.int (Int32.ofNat j))) (.int (([110, 111, 32, 115, 117, 99, 104, 32, 108, 97, 110, 100] : List Int32).getD j 0)) ∈ flatC (Jvm.Cond.and given_1 narrow_1) := by
  have h : ((flatC (Jvm.Cond.and given_1 narrow_1)).drop 218).take 12 = (List.range 12).map (fun j => (Cond.eq (.elem (.field (Term.string RX11 118) "java/lang/String" "value" "[B") (.int (Int32.ofNat j))) (.int (([110, 111, 32, 115, 117, 99, 104, 32, 108, 97, 110, 100] : List Int32).getD j 0)) : Cond)) := by rfl
  intro j hj
  have m : Cond.eq (.elem (.field (Term.string RX11 118) "java/lang/String" "value" "[B") (.int (Int32.ofNat j))) (.int (([110, 111, 32, 115, 117, 99, 104, 32, 108, 97, 110, 100] : List Int32).getD j 0)) ∈ ((flatC (Jvm.Cond.and given_1 narrow_1)).drop 218).take 12 := by
    rw [h]
    exact List.mem_map_of_mem (f := fun j => (Cond.eq (.elem (.field (Term.string RX11 118) "java/lang/String" "value" "[B") (.int (Int32.ofNat j))) (.int (([110, 111, 32, 115, 117, 99, 104, 32, 108, 97, 110, 100] : List Int32).getD j 0)) : Cond)) (List.mem_range.mpr hj)
  exact List.mem_of_mem_drop (List.mem_of_mem_take m)
theorem xs_land {s : State} {args : Array Value} {A : Nat → Prop} (hs : ∀ c ∈ flatC (Jvm.Cond.and given_1 narrow_1), c.before args s = true) (hA : ∀ a : Nat, a < s.heap.size → ¬ A a) : ∃ adK adV : Nat → Nat, vk_S 1 [12] [[110, 111, 32, 115, 117, 99, 104, 32, 108, 97, 110, 100]] adK adV A s s.heap ∧ ∀ i : Nat, i < 1 → (Term.string RX11 118).eval args s none [] s = some (.ref (adK i)) := by
  refine vk_Sof (N := 1) (tm := fun _ => (Term.string RX11 118)) (len := [12]) (byt := [[110, 111, 32, 115, 117, 99, 104, 32, 108, 97, 110, 100]]) ?_ ?_ ?_ ?_ ?_ ?_ ?_ hA
  · intro i hi; obtain rfl : i = 0 := by omega
    decide
  · intro i hi; exact hs _ (zin_sl 214 4 (by decide +kernel))
  · intro i hi; exact hs _ (zin_sl 214 4 (by decide +kernel))
  · intro i hi; exact hs _ (zin_sl 214 4 (by decide +kernel))
  · intro i hi; obtain rfl : i = 0 := by omega
    exact hs _ (zin_sl 214 4 (by decide +kernel))
  · intro i hi j hj; obtain rfl : i = 0 := by omega
    exact hs _ (xq_land j hj)
  · intro i j hi hj hne; omega
set_option maxRecDepth 100000 in
theorem xq_what : ∀ j, j < 12 → Cond.eq (.elem (.field (Term.string RX11 136) "java/lang/String" "value" "[B") (.int (Int32.ofNat j))) (.int (([110, 111, 32, 115, 117, 99, 104, 32, 119, 104, 97, 116] : List Int32).getD j 0)) ∈ flatC (Jvm.Cond.and given_1 narrow_1) := by
  have h : ((flatC (Jvm.Cond.and given_1 narrow_1)).drop 236).take 12 = (List.range 12).map (fun j => (Cond.eq (.elem (.field (Term.string RX11 136) "java/lang/String" "value" "[B") (.int (Int32.ofNat j))) (.int (([110, 111, 32, 115, 117, 99, 104, 32, 119, 104, 97, 116] : List Int32).getD j 0)) : Cond)) := by rfl
  intro j hj
  have m : Cond.eq (.elem (.field (Term.string RX11 136) "java/lang/String" "value" "[B") (.int (Int32.ofNat j))) (.int (([110, 111, 32, 115, 117, 99, 104, 32, 119, 104, 97, 116] : List Int32).getD j 0)) ∈ ((flatC (Jvm.Cond.and given_1 narrow_1)).drop 236).take 12 := by
    rw [h]
    exact List.mem_map_of_mem (f := fun j => (Cond.eq (.elem (.field (Term.string RX11 136) "java/lang/String" "value" "[B") (.int (Int32.ofNat j))) (.int (([110, 111, 32, 115, 117, 99, 104, 32, 119, 104, 97, 116] : List Int32).getD j 0)) : Cond)) (List.mem_range.mpr hj)
  exact List.mem_of_mem_drop (List.mem_of_mem_take m)
theorem xs_what {s : State} {args : Array Value} {A : Nat → Prop} (hs : ∀ c ∈ flatC (Jvm.Cond.and given_1 narrow_1), c.before args s = true) (hA : ∀ a : Nat, a < s.heap.size → ¬ A a) : ∃ adK adV : Nat → Nat, vk_S 1 [12] [[110, 111, 32, 115, 117, 99, 104, 32, 119, 104, 97, 116]] adK adV A s s.heap ∧ ∀ i : Nat, i < 1 → (Term.string RX11 136).eval args s none [] s = some (.ref (adK i)) := by
  refine vk_Sof (N := 1) (tm := fun _ => (Term.string RX11 136)) (len := [12]) (byt := [[110, 111, 32, 115, 117, 99, 104, 32, 119, 104, 97, 116]]) ?_ ?_ ?_ ?_ ?_ ?_ ?_ hA
  · intro i hi; obtain rfl : i = 0 := by omega
    decide
  · intro i hi; exact hs _ (zin_sl 232 4 (by decide +kernel))
  · intro i hi; exact hs _ (zin_sl 232 4 (by decide +kernel))
  · intro i hi; exact hs _ (zin_sl 232 4 (by decide +kernel))
  · intro i hi; obtain rfl : i = 0 := by omega
    exact hs _ (zin_sl 232 4 (by decide +kernel))
  · intro i hi j hj; obtain rfl : i = 0 := by omega
    exact hs _ (xq_what j hj)
  · intro i j hi hj hne; omega
set_option maxRecDepth 100000 in
theorem xq_fault : ∀ j, j < 7 → Cond.eq (.elem (.field (Term.string RX7 58) "java/lang/String" "value" "[B") (.int (Int32.ofNat j))) (.int (([97, 32, 102, 97, 117, 108, 116] : List Int32).getD j 0)) ∈ flatC (Jvm.Cond.and given_1 narrow_1) := by
  have h : ((flatC (Jvm.Cond.and given_1 narrow_1)).drop 206).take 7 = (List.range 7).map (fun j => (Cond.eq (.elem (.field (Term.string RX7 58) "java/lang/String" "value" "[B") (.int (Int32.ofNat j))) (.int (([97, 32, 102, 97, 117, 108, 116] : List Int32).getD j 0)) : Cond)) := by rfl
  intro j hj
  have m : Cond.eq (.elem (.field (Term.string RX7 58) "java/lang/String" "value" "[B") (.int (Int32.ofNat j))) (.int (([97, 32, 102, 97, 117, 108, 116] : List Int32).getD j 0)) ∈ ((flatC (Jvm.Cond.and given_1 narrow_1)).drop 206).take 7 := by
    rw [h]
    exact List.mem_map_of_mem (f := fun j => (Cond.eq (.elem (.field (Term.string RX7 58) "java/lang/String" "value" "[B") (.int (Int32.ofNat j))) (.int (([97, 32, 102, 97, 117, 108, 116] : List Int32).getD j 0)) : Cond)) (List.mem_range.mpr hj)
  exact List.mem_of_mem_drop (List.mem_of_mem_take m)
theorem xs_fault {s : State} {args : Array Value} {A : Nat → Prop} (hs : ∀ c ∈ flatC (Jvm.Cond.and given_1 narrow_1), c.before args s = true) (hA : ∀ a : Nat, a < s.heap.size → ¬ A a) : ∃ adK adV : Nat → Nat, vk_S 1 [7] [[97, 32, 102, 97, 117, 108, 116]] adK adV A s s.heap ∧ ∀ i : Nat, i < 1 → (Term.string RX7 58).eval args s none [] s = some (.ref (adK i)) := by
  refine vk_Sof (N := 1) (tm := fun _ => (Term.string RX7 58)) (len := [7]) (byt := [[97, 32, 102, 97, 117, 108, 116]]) ?_ ?_ ?_ ?_ ?_ ?_ ?_ hA
  · intro i hi; obtain rfl : i = 0 := by omega
    decide
  · intro i hi; exact hs _ (zin_sl 202 4 (by decide +kernel))
  · intro i hi; exact hs _ (zin_sl 202 4 (by decide +kernel))
  · intro i hi; exact hs _ (zin_sl 202 4 (by decide +kernel))
  · intro i hi; obtain rfl : i = 0 := by omega
    exact hs _ (zin_sl 202 4 (by decide +kernel))
  · intro i hi j hj; obtain rfl : i = 0 := by omega
    exact hs _ (xq_fault j hj)
  · intro i j hi hj hne; omega
set_option maxRecDepth 100000 in
theorem xq_most : ∀ j, j < 5 → Cond.eq (.elem (.static "LongYears" "MOST_OF_KIND" "[I") (.int (Int32.ofNat j))) (.int (xk_most j)) ∈ flatC (Jvm.Cond.and given_1 narrow_1) := by
  have h : ((flatC (Jvm.Cond.and given_1 narrow_1)).drop 12).take 5 = (List.range 5).map (fun j => (Cond.eq (.elem (.static "LongYears" "MOST_OF_KIND" "[I") (.int (Int32.ofNat j))) (.int (xk_most j)) : Cond)) := by rfl
  intro j hj
  have m : Cond.eq (.elem (.static "LongYears" "MOST_OF_KIND" "[I") (.int (Int32.ofNat j))) (.int (xk_most j)) ∈ ((flatC (Jvm.Cond.and given_1 narrow_1)).drop 12).take 5 := by
    rw [h]
    exact List.mem_map_of_mem (f := fun j => (Cond.eq (.elem (.static "LongYears" "MOST_OF_KIND" "[I") (.int (Int32.ofNat j))) (.int (xk_most j)) : Cond)) (List.mem_range.mpr hj)
  exact List.mem_of_mem_drop (List.mem_of_mem_take m)
set_option maxRecDepth 100000 in
theorem xq_least : ∀ j, j < 5 → Cond.eq (.elem (.static "LongYears" "LEAST_SAID" "[I") (.int (Int32.ofNat j))) (.int (xk_least j)) ∈ flatC (Jvm.Cond.and given_1 narrow_1) := by
  have h : ((flatC (Jvm.Cond.and given_1 narrow_1)).drop 22).take 5 = (List.range 5).map (fun j => (Cond.eq (.elem (.static "LongYears" "LEAST_SAID" "[I") (.int (Int32.ofNat j))) (.int (xk_least j)) : Cond)) := by rfl
  intro j hj
  have m : Cond.eq (.elem (.static "LongYears" "LEAST_SAID" "[I") (.int (Int32.ofNat j))) (.int (xk_least j)) ∈ ((flatC (Jvm.Cond.and given_1 narrow_1)).drop 22).take 5 := by
    rw [h]
    exact List.mem_map_of_mem (f := fun j => (Cond.eq (.elem (.static "LongYears" "LEAST_SAID" "[I") (.int (Int32.ofNat j))) (.int (xk_least j)) : Cond)) (List.mem_range.mpr hj)
  exact List.mem_of_mem_drop (List.mem_of_mem_take m)
set_option maxRecDepth 100000 in
theorem xq_mosts : ∀ j, j < 5 → Cond.eq (.elem (.static "LongYears" "MOST_SAID" "[I") (.int (Int32.ofNat j))) (.int (xk_mosts j)) ∈ flatC (Jvm.Cond.and given_1 narrow_1) := by
  have h : ((flatC (Jvm.Cond.and given_1 narrow_1)).drop 30).take 5 = (List.range 5).map (fun j => (Cond.eq (.elem (.static "LongYears" "MOST_SAID" "[I") (.int (Int32.ofNat j))) (.int (xk_mosts j)) : Cond)) := by rfl
  intro j hj
  have m : Cond.eq (.elem (.static "LongYears" "MOST_SAID" "[I") (.int (Int32.ofNat j))) (.int (xk_mosts j)) ∈ ((flatC (Jvm.Cond.and given_1 narrow_1)).drop 30).take 5 := by
    rw [h]
    exact List.mem_map_of_mem (f := fun j => (Cond.eq (.elem (.static "LongYears" "MOST_SAID" "[I") (.int (Int32.ofNat j))) (.int (xk_mosts j)) : Cond)) (List.mem_range.mpr hj)
  exact List.mem_of_mem_drop (List.mem_of_mem_take m)
set_option maxRecDepth 100000 in
theorem xq_lookI : ∀ w ∈ xkI_at.filter goodWord, w ∈ lw_tbl := by decide +kernel
set_option maxRecDepth 100000 in
theorem xq_lookN : ∀ w ∈ xkN_at.filter goodWord, w ∈ lw_tbl := by decide +kernel
set_option maxRecDepth 100000 in
theorem xq_lookF : ∀ w ∈ xk_at.filter goodWord, w ∈ lw_tbl := by decide +kernel
set_option maxHeartbeats 4000000 in
set_option maxRecDepth 100000 in
theorem law_const {p : Program} {s : State} {m : MethodId} {meth : Method} {c : Code} {bs L : Nat} {xs : Nat → Int32} (C0 : lw_At p s m meth c bs L xs) {A : Nat → Prop} (hA : ∀ a : Nat, a < s.heap.size → ¬ A a) : ∃ (tK sK sV : Nat) (sL sO : Nat → Nat), xcN sK s ∧ xc tK sK sV A s s.heap ∧ xl sL A s s.heap ∧ xoL sO A s s.heap ∧ xN s := by
  obtain ⟨hx, hb, hr, hml, hown, hts, hX, hbl, hlocks, hgv⟩ := id C0
  have hs := flat_of_before _ hgv
  obtain ⟨adK, adV, hS1, hE1⟩ := xs_words hs hA
  obtain ⟨adL, adW, hS2, hE2⟩ := xs_land hs hA
  obtain ⟨adM, adX, hS3, hE3⟩ := xs_what hs hA
  obtain ⟨adF, adY, hS4, hE4⟩ := xs_fault hs hA
  obtain ⟨t0, hG0, hT0⟩ := va_Tof (tm := (.static "LongYears" "MOST_OF_KIND" "[I")) (ty := .int) (N := 5) (f := fun j => .int (xk_most j)) (A := A) (by decide) (hs _ (zin_sl 9 3 (by decide +kernel))) (va_eqt (hs _ (zin_sl 9 3 (by decide +kernel)))) (fun j hj => va_eqt (hs _ (xq_most j hj))) hA
  obtain ⟨t1, hG1, hT1⟩ := va_Tof (tm := (.static "LongYears" "LEAST_SAID" "[I")) (ty := .int) (N := 5) (f := fun j => .int (xk_least j)) (A := A) (by decide) (hs _ (zin_sl 19 3 (by decide +kernel))) (va_eqt (hs _ (zin_sl 19 3 (by decide +kernel)))) (fun j hj => va_eqt (hs _ (xq_least j hj))) hA
  obtain ⟨t2, hG2, hT2⟩ := va_Tof (tm := (.static "LongYears" "MOST_SAID" "[I")) (ty := .int) (N := 5) (f := fun j => .int (xk_mosts j)) (A := A) (by decide) (hs _ (zin_sl 27 3 (by decide +kernel))) (va_eqt (hs _ (zin_sl 27 3 (by decide +kernel)))) (fun j hj => va_eqt (hs _ (xq_mosts j hj))) hA
  obtain ⟨a1, a2, a3, a4⟩ := hS1.1 0 (by decide)
  refine ⟨t0, adK 0, adV 0, fun k => if k = 0 then adF 0 else if k = 1 then t0 else if k = 2 then t1 else t2, fun k => if k = 0 then adL 0 else adM 0, ⟨va_Nw.of rfl (hts _ (tb_1 _ (List.mem_of_getElem? (i := 40) rfl))), va_Nw.of rfl (hts _ (tb_1 _ (List.mem_of_getElem? (i := 179) rfl))), va_Nw.of rfl (hts _ (tb_1 _ (List.mem_of_getElem? (i := 215) rfl))), va_Nw.of rfl (hts _ (tb_2 _ (List.mem_of_getElem? (i := 1) rfl))), va_Nw.of rfl (hts _ (tb_2 _ (List.mem_of_getElem? (i := 23) rfl))), va_Nw.of rfl (hts _ (tb_2 _ (List.mem_of_getElem? (i := 113) rfl))), va_Nw.of rfl (hts _ (tb_2 _ (List.mem_of_getElem? (i := 121) rfl))), va_Nw.of rfl (hts _ (tb_2 _ (List.mem_of_getElem? (i := 152) rfl))), va_Nw.of rfl (hts _ (tb_2 _ (List.mem_of_getElem? (i := 202) rfl))), va_Nw.of rfl (hts _ (tb_2 _ (List.mem_of_getElem? (i := 220) rfl))), va_Nw.of rfl (hts _ (tb_2 _ (List.mem_of_getElem? (i := 222) rfl))), va_Nw.of rfl (hts _ (tb_2 _ (List.mem_of_getElem? (i := 224) rfl))), va_Nw.of rfl (hts _ (tb_1 _ (List.mem_of_getElem? (i := 173) rfl))), va_Nw.of rfl (hts _ (tb_1 _ (List.mem_of_getElem? (i := 219) rfl))), va_AO.of (hts _ (tb_1 _ (List.mem_of_getElem? (i := 176) rfl))), (hts _ (tb_1 _ (List.mem_of_getElem? (i := 172) rfl))), (hts _ (tb_2 _ (List.mem_of_getElem? (i := 118) rfl))), vk_R.of (hts _ (tb_1 _ (List.mem_of_getElem? (i := 50) rfl))) (hE1 0 (by decide))⟩, ⟨va_Zref (hts _ (tb_1 _ (List.mem_of_getElem? (i := 174) rfl))) (hts _ (tb_1 _ (List.mem_of_getElem? (i := 1) rfl))) hG0 hA, hT0, va_Zof (hts _ (tb_1 _ (List.mem_of_getElem? (i := 60) rfl))) (hts _ (tb_1 _ (List.mem_of_getElem? (i := 4) rfl))) (va_eqi (hs _ (by decide +kernel))) hA, va_Zqof (hts _ (tb_1 _ (List.mem_of_getElem? (i := 76) rfl))) (hts _ (tb_1 _ (List.mem_of_getElem? (i := 6) rfl))) (hs _ (by decide +kernel)) hA, a1, a2, a3, a4⟩, ⟨⟨vk_R.of (hts _ (tb_3 _ (List.mem_of_getElem? (i := 135) rfl))) (hE4 0 (by decide)), vx_Zqof (hts _ (tb_3 _ (List.mem_of_getElem? (i := 121) rfl))) (hts _ (tb_1 _ (List.mem_of_getElem? (i := 20) rfl))) (hs _ (by decide +kernel)) hA, vx_Zqof (hts _ (tb_3 _ (List.mem_of_getElem? (i := 123) rfl))) (hts _ (tb_1 _ (List.mem_of_getElem? (i := 20) rfl))) (hs _ (by decide +kernel)) hA, fun w hw => va_tabs (xk_on w (List.mem_filter.mp hw).1) rfl (hts w (xq_lookF w hw)), va_Nw.of rfl (hts _ (tb_3 _ (List.mem_of_getElem? (i := 98) rfl))), va_Nw.of rfl (hts _ (tb_3 _ (List.mem_of_getElem? (i := 100) rfl))), va_Nw.of rfl (hts _ (tb_3 _ (List.mem_of_getElem? (i := 102) rfl))), va_Nw.of rfl (hts _ (tb_3 _ (List.mem_of_getElem? (i := 96) rfl)))⟩, ⟨va_Zref (hts _ (tb_1 _ (List.mem_of_getElem? (i := 174) rfl))) (hts _ (tb_1 _ (List.mem_of_getElem? (i := 1) rfl))) hG0 hA, hT0, va_Zref (hts _ (tb_4 _ (List.mem_of_getElem? (i := 74) rfl))) (hts _ (tb_1 _ (List.mem_of_getElem? (i := 1) rfl))) hG1 hA, hT1, va_Zref (hts _ (tb_4 _ (List.mem_of_getElem? (i := 76) rfl))) (hts _ (tb_1 _ (List.mem_of_getElem? (i := 1) rfl))) hG2 hA, hT2, va_Nw.of rfl (hts _ (tb_3 _ (List.mem_of_getElem? (i := 90) rfl))), va_Nw.of rfl (hts _ (tb_4 _ (List.mem_of_getElem? (i := 73) rfl))), va_Nw.of rfl (hts _ (tb_4 _ (List.mem_of_getElem? (i := 75) rfl)))⟩⟩, ⟨⟨⟨vk_R.of (hts _ (tb_6 _ (List.mem_of_getElem? (i := 83) rfl))) (hE2 0 (by decide)), vx_Zqof (hts _ (tb_3 _ (List.mem_of_getElem? (i := 121) rfl))) (hts _ (tb_1 _ (List.mem_of_getElem? (i := 20) rfl))) (hs _ (by decide +kernel)) hA, vx_Zqof (hts _ (tb_3 _ (List.mem_of_getElem? (i := 123) rfl))) (hts _ (tb_1 _ (List.mem_of_getElem? (i := 20) rfl))) (hs _ (by decide +kernel)) hA, fun w hw => va_tabs (xkI_on w (List.mem_filter.mp hw).1) rfl (hts w (xq_lookI w hw)), va_Nw.of rfl (hts _ (tb_3 _ (List.mem_of_getElem? (i := 98) rfl))), va_Nw.of rfl (hts _ (tb_3 _ (List.mem_of_getElem? (i := 100) rfl))), va_Nw.of rfl (hts _ (tb_3 _ (List.mem_of_getElem? (i := 102) rfl))), va_Nw.of rfl (hts _ (tb_6 _ (List.mem_of_getElem? (i := 76) rfl)))⟩, ⟨vk_R.of (hts _ (tb_6 _ (List.mem_of_getElem? (i := 99) rfl))) (hE3 0 (by decide)), vx_Zqof (hts _ (tb_3 _ (List.mem_of_getElem? (i := 121) rfl))) (hts _ (tb_1 _ (List.mem_of_getElem? (i := 20) rfl))) (hs _ (by decide +kernel)) hA, vx_Zqof (hts _ (tb_3 _ (List.mem_of_getElem? (i := 123) rfl))) (hts _ (tb_1 _ (List.mem_of_getElem? (i := 20) rfl))) (hs _ (by decide +kernel)) hA, fun w hw => va_tabs (xkN_on w (List.mem_filter.mp hw).1) rfl (hts w (xq_lookN w hw)), va_Nw.of rfl (hts _ (tb_3 _ (List.mem_of_getElem? (i := 98) rfl))), va_Nw.of rfl (hts _ (tb_3 _ (List.mem_of_getElem? (i := 100) rfl))), va_Nw.of rfl (hts _ (tb_3 _ (List.mem_of_getElem? (i := 102) rfl))), va_Nw.of rfl (hts _ (tb_6 _ (List.mem_of_getElem? (i := 92) rfl)))⟩⟩, va_Nc.of (hs _ (by decide +kernel))⟩, ⟨va_Nw.of rfl (hts _ (tb_4 _ (List.mem_of_getElem? (i := 123) rfl))), va_Nw.of rfl (hts _ (tb_5 _ (List.mem_of_getElem? (i := 36) rfl)))⟩⟩
