theorem y_le {L : Nat} {i : Int32} (hL : L ≤ 3072) (h0 : 0 ≤ i.toInt) (h : ¬ (Int32.ofNat L - 6) < i) : i.toInt + 6 ≤ L := by
  have e : (Int32.ofNat L).toInt = L := Int32.toInt_ofNat_of_lt (by omega)
  have e6 : (6 : Int32).toInt = 6 := rfl
  have q : ((L : Int) - 6).bmod (2 ^ 32) = (L : Int) - 6 := Int.bmod_eq_of_le (by omega) (by omega)
  rw [Int32.lt_iff_toInt_lt, Int32.toInt_sub, e, e6, q] at h
  omega
theorem y_vp {L : Nat} {i : Int32} (h0 : 0 ≤ i.toInt) (h6 : i.toInt + 6 ≤ L) : vp_in i L := by
  rw [vp_in_iff]
  omega
theorem y_vk {L : Nat} {i k : Int32} (hL : L ≤ 3072) (h0 : 0 ≤ i.toInt) (h6 : i.toInt + 6 ≤ L) (k0 : 0 ≤ k.toInt) (k5 : k.toInt ≤ 5) : vp_in (i + k) L := by
  have q : (i.toInt + k.toInt).bmod (2 ^ 32) = i.toInt + k.toInt := Int.bmod_eq_of_le (by omega) (by omega)
  rw [vp_in_iff, Int32.toInt_add, q]
  omega
theorem dL_law_23 : decode cL_law 23 = .ok (.iload 4, 2) := zk_21 (by decide +kernel)
theorem dL_law_25 : decode cL_law 25 = .ok (.aload_n 0, 1) := zk_42 (by decide +kernel)
theorem dL_law_26 : decode cL_law 26 = .ok (.arraylength, 1) := zk_190 (by decide +kernel)
theorem dL_law_27 : decode cL_law 27 = .ok (.bipush 6, 2) := zk_16 (by decide +kernel)
theorem dL_law_29 : decode cL_law 29 = .ok (.isub, 1) := zk_100 (by decide +kernel)
theorem dL_law_30 : decode cL_law 30 = .ok (.if_icmp .gt 1988, 3) := zk_163 (by decide +kernel)
theorem dL_law_33 : decode cL_law 33 = .ok (.aload_n 0, 1) := zk_42 (by decide +kernel)
theorem dL_law_34 : decode cL_law 34 = .ok (.iload 4, 2) := zk_21 (by decide +kernel)
theorem dL_law_36 : decode cL_law 36 = .ok (.iaload, 1) := zk_46 (by decide +kernel)
theorem dL_law_37 : decode cL_law 37 = .ok (.bipush 63, 2) := zk_16 (by decide +kernel)
theorem dL_law_39 : decode cL_law 39 = .ok (.iand, 1) := zk_126 (by decide +kernel)
theorem dL_law_40 : decode cL_law 40 = .ok (.tableswitch 1972 0 36 #[164, 237, 262, 287, 324, 364, 401, 482, 563, 632, 701, 770, 839, 876, 957, 994, 1087, 1124, 1173, 1266, 1375, 1424, 1505, 1598, 1647, 1696, 1709, 1758, 1771, 1808, 1845, 1858, 1895, 1908, 1921, 1934, 1947], 164) := by decide +kernel
set_option maxHeartbeats 4000000 in
set_option maxRecDepth 100000 in
theorem y_head (l : Launch) {p : Program} {e : Env} {s : State} {m : MethodId} {below : List Frame} {meth : Method} {c : Code} {bs L : Nat} {xs : Nat → Int32} (C0 : lw_At p s m meth c bs L xs) (A : Nat → Prop) (hAe : ∀ q, A q ↔ s.heap.size ≤ q) {o3 mq x : Nat} {i : Int32} {H : Heap} {locs : List Loc} {ls : Array Slot} {ce sl : Nat} (hL : L ≤ 3072) (hn0 : 0 ≤ i.toInt) (y0 : Int32) (hy0 : xs (i).toNatClampNeg = y0) (hS : va_S A s.heap H locs) (hl : lv_has ls 7 [(4, .int i), (3, .ref o3), (2, .ref mq), (1, .ref x), (0, .ref bs)]) (k_feed : i.toInt + 6 ≤ L → W p l e room_1 s m #[Value.ref bs] below meth c H locs ce sl (lw_Z below #[Value.ref bs] s) (F0 m 204 ls [])) (k_text : i.toInt + 6 ≤ L → W p l e room_1 s m #[Value.ref bs] below meth c H locs ce sl (lw_Z below #[Value.ref bs] s) (F0 m 277 ls [])) (k_fault : i.toInt + 6 ≤ L → W p l e room_1 s m #[Value.ref bs] below meth c H locs ce sl (lw_Z below #[Value.ref bs] s) (F0 m 302 ls [])) (k_named : i.toInt + 6 ≤ L → W p l e room_1 s m #[Value.ref bs] below meth c H locs ce sl (lw_Z below #[Value.ref bs] s) (F0 m 327 ls [])) (k_look : i.toInt + 6 ≤ L → W p l e room_1 s m #[Value.ref bs] below meth c H locs ce sl (lw_Z below #[Value.ref bs] s) (F0 m 364 ls [])) (k_length : i.toInt + 6 ≤ L → W p l e room_1 s m #[Value.ref bs] below meth c H locs ce sl (lw_Z below #[Value.ref bs] s) (F0 m 404 ls [])) (k_date : i.toInt + 6 ≤ L → W p l e room_1 s m #[Value.ref bs] below meth c H locs ce sl (lw_Z below #[Value.ref bs] s) (F0 m 441 ls [])) (k_count : i.toInt + 6 ≤ L → W p l e room_1 s m #[Value.ref bs] below meth c H locs ce sl (lw_Z below #[Value.ref bs] s) (F0 m 522 ls [])) (k_round : i.toInt + 6 ≤ L → W p l e room_1 s m #[Value.ref bs] below meth c H locs ce sl (lw_Z below #[Value.ref bs] s) (F0 m 603 ls [])) (k_feast : i.toInt + 6 ≤ L → W p l e room_1 s m #[Value.ref bs] below meth c H locs ce sl (lw_Z below #[Value.ref bs] s) (F0 m 672 ls [])) (k_festive : i.toInt + 6 ≤ L → W p l e room_1 s m #[Value.ref bs] below meth c H locs ce sl (lw_Z below #[Value.ref bs] s) (F0 m 741 ls [])) (k_rule : i.toInt + 6 ≤ L → W p l e room_1 s m #[Value.ref bs] below meth c H locs ce sl (lw_Z below #[Value.ref bs] s) (F0 m 810 ls [])) (k_life : i.toInt + 6 ≤ L → W p l e room_1 s m #[Value.ref bs] below meth c H locs ce sl (lw_Z below #[Value.ref bs] s) (F0 m 879 ls [])) (k_age : i.toInt + 6 ≤ L → W p l e room_1 s m #[Value.ref bs] below meth c H locs ce sl (lw_Z below #[Value.ref bs] s) (F0 m 916 ls [])) (k_elder : i.toInt + 6 ≤ L → W p l e room_1 s m #[Value.ref bs] below meth c H locs ce sl (lw_Z below #[Value.ref bs] s) (F0 m 997 ls [])) (k_often : i.toInt + 6 ≤ L → W p l e room_1 s m #[Value.ref bs] below meth c H locs ce sl (lw_Z below #[Value.ref bs] s) (F0 m 1034 ls [])) (k_springs : i.toInt + 6 ≤ L → W p l e room_1 s m #[Value.ref bs] below meth c H locs ce sl (lw_Z below #[Value.ref bs] s) (F0 m 1127 ls [])) (k_many : i.toInt + 6 ≤ L → W p l e room_1 s m #[Value.ref bs] below meth c H locs ce sl (lw_Z below #[Value.ref bs] s) (F0 m 1164 ls [])) (k_next : i.toInt + 6 ≤ L → W p l e room_1 s m #[Value.ref bs] below meth c H locs ce sl (lw_Z below #[Value.ref bs] s) (F0 m 1213 ls [])) (k_alike : i.toInt + 6 ≤ L → W p l e room_1 s m #[Value.ref bs] below meth c H locs ce sl (lw_Z below #[Value.ref bs] s) (F0 m 1306 ls [])) (k_deed : i.toInt + 6 ≤ L → W p l e room_1 s m #[Value.ref bs] below meth c H locs ce sl (lw_Z below #[Value.ref bs] s) (F0 m 1415 ls [])) (k_ends : i.toInt + 6 ≤ L → W p l e room_1 s m #[Value.ref bs] below meth c H locs ce sl (lw_Z below #[Value.ref bs] s) (F0 m 1464 ls [])) (k_hire : i.toInt + 6 ≤ L → W p l e room_1 s m #[Value.ref bs] below meth c H locs ce sl (lw_Z below #[Value.ref bs] s) (F0 m 1545 ls [])) (k_parts : i.toInt + 6 ≤ L → W p l e room_1 s m #[Value.ref bs] below meth c H locs ce sl (lw_Z below #[Value.ref bs] s) (F0 m 1638 ls [])) (k_months : i.toInt + 6 ≤ L → W p l e room_1 s m #[Value.ref bs] below meth c H locs ce sl (lw_Z below #[Value.ref bs] s) (F0 m 1687 ls [])) (k_note : i.toInt + 6 ≤ L → W p l e room_1 s m #[Value.ref bs] below meth c H locs ce sl (lw_Z below #[Value.ref bs] s) (F0 m 1736 ls [])) (k_says : i.toInt + 6 ≤ L → W p l e room_1 s m #[Value.ref bs] below meth c H locs ce sl (lw_Z below #[Value.ref bs] s) (F0 m 1749 ls [])) (k_undo : i.toInt + 6 ≤ L → W p l e room_1 s m #[Value.ref bs] below meth c H locs ce sl (lw_Z below #[Value.ref bs] s) (F0 m 1798 ls [])) (k_alone : i.toInt + 6 ≤ L → W p l e room_1 s m #[Value.ref bs] below meth c H locs ce sl (lw_Z below #[Value.ref bs] s) (F0 m 1811 ls [])) (k_fits : i.toInt + 6 ≤ L → W p l e room_1 s m #[Value.ref bs] below meth c H locs ce sl (lw_Z below #[Value.ref bs] s) (F0 m 1848 ls [])) (k_gap : i.toInt + 6 ≤ L → W p l e room_1 s m #[Value.ref bs] below meth c H locs ce sl (lw_Z below #[Value.ref bs] s) (F0 m 1885 ls [])) (k_told : i.toInt + 6 ≤ L → W p l e room_1 s m #[Value.ref bs] below meth c H locs ce sl (lw_Z below #[Value.ref bs] s) (F0 m 1898 ls [])) (k_judged : i.toInt + 6 ≤ L → W p l e room_1 s m #[Value.ref bs] below meth c H locs ce sl (lw_Z below #[Value.ref bs] s) (F0 m 1935 ls [])) (k_forget : i.toInt + 6 ≤ L → W p l e room_1 s m #[Value.ref bs] below meth c H locs ce sl (lw_Z below #[Value.ref bs] s) (F0 m 1948 ls [])) (k_keep : i.toInt + 6 ≤ L → W p l e room_1 s m #[Value.ref bs] below meth c H locs ce sl (lw_Z below #[Value.ref bs] s) (F0 m 1961 ls [])) (k_back : i.toInt + 6 ≤ L → W p l e room_1 s m #[Value.ref bs] below meth c H locs ce sl (lw_Z below #[Value.ref bs] s) (F0 m 1974 ls [])) (k_size : i.toInt + 6 ≤ L → W p l e room_1 s m #[Value.ref bs] below meth c H locs ce sl (lw_Z below #[Value.ref bs] s) (F0 m 1987 ls [])) (k_inc : i.toInt + 6 ≤ L → W p l e room_1 s m #[Value.ref bs] below meth c H locs ce sl (lw_Z below #[Value.ref bs] s) (F0 m 2012 ls [])) (k_end : W p l e room_1 s m #[Value.ref bs] below meth c H locs ce sl (lw_Z below #[Value.ref bs] s) (F0 m 2018 ls [])) : W p l e room_1 s m #[Value.ref bs] below meth c H locs ce sl (lw_Z below #[Value.ref bs] s) (F0 m 23 ls []) := by
  obtain ⟨hx, hb, hr, hml, hown, hts, hX, hbl, hlocks, hgv⟩ := id C0
  have hbA : ¬ A bs := fun h => absurd ((hAe bs).mp h) (Nat.not_le.mpr hbl)
  refine lv_iload hx hb dL_law_23 (lv_at hl 0 rfl) ?_
  refine lv_aload_n hx hb dL_law_25 rfl (lv_at hl 4 rfl) ?_
  refine va_slen hx hb hX hbl hbA hS dL_law_26 ?_
  refine lv_bipush (v := 6) hx hb dL_law_27 (by decide) ?_
  refine lv_isub hx hb dL_law_29 ?_
  refine lv_icmp_gt (tgt := 2018) hx hb dL_law_30 (by decide) (fun c_1 => ?_) (fun c_1 => ?_)
  · exact k_end
  · have hlt := y_le hL hn0 c_1
    have hi0 : vp_in i L := y_vp hn0 hlt
    refine lv_aload_n hx hb dL_law_33 rfl (lv_at hl 4 rfl) ?_
    refine lv_iload hx hb dL_law_34 (lv_at hl 0 rfl) ?_
    refine va_sld hx hb hX hbl hbA hS hi0 dL_law_36 ?_
    rw [hy0]
    refine lv_bipush (v := 63) hx hb dL_law_37 (by decide) ?_
    refine lv_iand hx hb dL_law_39 ?_
    by_cases h_3 : (y0 &&& 63) = 0
    · refine lv_tableIn (off := 164) (tgt := 204) hx hb dL_law_40 (by rw [h_3]; decide) (by rw [h_3]; decide) (by rw [h_3]; decide) (by decide) ?_
      exact k_feed hlt
    by_cases h_4 : (y0 &&& 63) = 1
    · refine lv_tableIn (off := 237) (tgt := 277) hx hb dL_law_40 (by rw [h_4]; decide) (by rw [h_4]; decide) (by rw [h_4]; decide) (by decide) ?_
      exact k_text hlt
    by_cases h_5 : (y0 &&& 63) = 2
    · refine lv_tableIn (off := 262) (tgt := 302) hx hb dL_law_40 (by rw [h_5]; decide) (by rw [h_5]; decide) (by rw [h_5]; decide) (by decide) ?_
      exact k_fault hlt
    by_cases h_6 : (y0 &&& 63) = 3
    · refine lv_tableIn (off := 287) (tgt := 327) hx hb dL_law_40 (by rw [h_6]; decide) (by rw [h_6]; decide) (by rw [h_6]; decide) (by decide) ?_
      exact k_named hlt
    by_cases h_7 : (y0 &&& 63) = 4
    · refine lv_tableIn (off := 324) (tgt := 364) hx hb dL_law_40 (by rw [h_7]; decide) (by rw [h_7]; decide) (by rw [h_7]; decide) (by decide) ?_
      exact k_look hlt
    by_cases h_8 : (y0 &&& 63) = 5
    · refine lv_tableIn (off := 364) (tgt := 404) hx hb dL_law_40 (by rw [h_8]; decide) (by rw [h_8]; decide) (by rw [h_8]; decide) (by decide) ?_
      exact k_length hlt
    by_cases h_9 : (y0 &&& 63) = 6
    · refine lv_tableIn (off := 401) (tgt := 441) hx hb dL_law_40 (by rw [h_9]; decide) (by rw [h_9]; decide) (by rw [h_9]; decide) (by decide) ?_
      exact k_date hlt
    by_cases h_10 : (y0 &&& 63) = 7
    · refine lv_tableIn (off := 482) (tgt := 522) hx hb dL_law_40 (by rw [h_10]; decide) (by rw [h_10]; decide) (by rw [h_10]; decide) (by decide) ?_
      exact k_count hlt
    by_cases h_11 : (y0 &&& 63) = 8
    · refine lv_tableIn (off := 563) (tgt := 603) hx hb dL_law_40 (by rw [h_11]; decide) (by rw [h_11]; decide) (by rw [h_11]; decide) (by decide) ?_
      exact k_round hlt
    by_cases h_12 : (y0 &&& 63) = 9
    · refine lv_tableIn (off := 632) (tgt := 672) hx hb dL_law_40 (by rw [h_12]; decide) (by rw [h_12]; decide) (by rw [h_12]; decide) (by decide) ?_
      exact k_feast hlt
    by_cases h_13 : (y0 &&& 63) = 10
    · refine lv_tableIn (off := 701) (tgt := 741) hx hb dL_law_40 (by rw [h_13]; decide) (by rw [h_13]; decide) (by rw [h_13]; decide) (by decide) ?_
      exact k_festive hlt
    by_cases h_14 : (y0 &&& 63) = 11
    · refine lv_tableIn (off := 770) (tgt := 810) hx hb dL_law_40 (by rw [h_14]; decide) (by rw [h_14]; decide) (by rw [h_14]; decide) (by decide) ?_
      exact k_rule hlt
    by_cases h_15 : (y0 &&& 63) = 12
    · refine lv_tableIn (off := 839) (tgt := 879) hx hb dL_law_40 (by rw [h_15]; decide) (by rw [h_15]; decide) (by rw [h_15]; decide) (by decide) ?_
      exact k_life hlt
    by_cases h_16 : (y0 &&& 63) = 13
    · refine lv_tableIn (off := 876) (tgt := 916) hx hb dL_law_40 (by rw [h_16]; decide) (by rw [h_16]; decide) (by rw [h_16]; decide) (by decide) ?_
      exact k_age hlt
    by_cases h_17 : (y0 &&& 63) = 14
    · refine lv_tableIn (off := 957) (tgt := 997) hx hb dL_law_40 (by rw [h_17]; decide) (by rw [h_17]; decide) (by rw [h_17]; decide) (by decide) ?_
      exact k_elder hlt
    by_cases h_18 : (y0 &&& 63) = 15
    · refine lv_tableIn (off := 994) (tgt := 1034) hx hb dL_law_40 (by rw [h_18]; decide) (by rw [h_18]; decide) (by rw [h_18]; decide) (by decide) ?_
      exact k_often hlt
    by_cases h_19 : (y0 &&& 63) = 16
    · refine lv_tableIn (off := 1087) (tgt := 1127) hx hb dL_law_40 (by rw [h_19]; decide) (by rw [h_19]; decide) (by rw [h_19]; decide) (by decide) ?_
      exact k_springs hlt
    by_cases h_20 : (y0 &&& 63) = 17
    · refine lv_tableIn (off := 1124) (tgt := 1164) hx hb dL_law_40 (by rw [h_20]; decide) (by rw [h_20]; decide) (by rw [h_20]; decide) (by decide) ?_
      exact k_many hlt
    by_cases h_21 : (y0 &&& 63) = 18
    · refine lv_tableIn (off := 1173) (tgt := 1213) hx hb dL_law_40 (by rw [h_21]; decide) (by rw [h_21]; decide) (by rw [h_21]; decide) (by decide) ?_
      exact k_next hlt
    by_cases h_22 : (y0 &&& 63) = 19
    · refine lv_tableIn (off := 1266) (tgt := 1306) hx hb dL_law_40 (by rw [h_22]; decide) (by rw [h_22]; decide) (by rw [h_22]; decide) (by decide) ?_
      exact k_alike hlt
    by_cases h_23 : (y0 &&& 63) = 20
    · refine lv_tableIn (off := 1375) (tgt := 1415) hx hb dL_law_40 (by rw [h_23]; decide) (by rw [h_23]; decide) (by rw [h_23]; decide) (by decide) ?_
      exact k_deed hlt
    by_cases h_24 : (y0 &&& 63) = 21
    · refine lv_tableIn (off := 1424) (tgt := 1464) hx hb dL_law_40 (by rw [h_24]; decide) (by rw [h_24]; decide) (by rw [h_24]; decide) (by decide) ?_
      exact k_ends hlt
    by_cases h_25 : (y0 &&& 63) = 22
    · refine lv_tableIn (off := 1505) (tgt := 1545) hx hb dL_law_40 (by rw [h_25]; decide) (by rw [h_25]; decide) (by rw [h_25]; decide) (by decide) ?_
      exact k_hire hlt
    by_cases h_26 : (y0 &&& 63) = 23
    · refine lv_tableIn (off := 1598) (tgt := 1638) hx hb dL_law_40 (by rw [h_26]; decide) (by rw [h_26]; decide) (by rw [h_26]; decide) (by decide) ?_
      exact k_parts hlt
    by_cases h_27 : (y0 &&& 63) = 24
    · refine lv_tableIn (off := 1647) (tgt := 1687) hx hb dL_law_40 (by rw [h_27]; decide) (by rw [h_27]; decide) (by rw [h_27]; decide) (by decide) ?_
      exact k_months hlt
    by_cases h_28 : (y0 &&& 63) = 25
    · refine lv_tableIn (off := 1696) (tgt := 1736) hx hb dL_law_40 (by rw [h_28]; decide) (by rw [h_28]; decide) (by rw [h_28]; decide) (by decide) ?_
      exact k_note hlt
    by_cases h_29 : (y0 &&& 63) = 26
    · refine lv_tableIn (off := 1709) (tgt := 1749) hx hb dL_law_40 (by rw [h_29]; decide) (by rw [h_29]; decide) (by rw [h_29]; decide) (by decide) ?_
      exact k_says hlt
    by_cases h_30 : (y0 &&& 63) = 27
    · refine lv_tableIn (off := 1758) (tgt := 1798) hx hb dL_law_40 (by rw [h_30]; decide) (by rw [h_30]; decide) (by rw [h_30]; decide) (by decide) ?_
      exact k_undo hlt
    by_cases h_31 : (y0 &&& 63) = 28
    · refine lv_tableIn (off := 1771) (tgt := 1811) hx hb dL_law_40 (by rw [h_31]; decide) (by rw [h_31]; decide) (by rw [h_31]; decide) (by decide) ?_
      exact k_alone hlt
    by_cases h_32 : (y0 &&& 63) = 29
    · refine lv_tableIn (off := 1808) (tgt := 1848) hx hb dL_law_40 (by rw [h_32]; decide) (by rw [h_32]; decide) (by rw [h_32]; decide) (by decide) ?_
      exact k_fits hlt
    by_cases h_33 : (y0 &&& 63) = 30
    · refine lv_tableIn (off := 1845) (tgt := 1885) hx hb dL_law_40 (by rw [h_33]; decide) (by rw [h_33]; decide) (by rw [h_33]; decide) (by decide) ?_
      exact k_gap hlt
    by_cases h_34 : (y0 &&& 63) = 31
    · refine lv_tableIn (off := 1858) (tgt := 1898) hx hb dL_law_40 (by rw [h_34]; decide) (by rw [h_34]; decide) (by rw [h_34]; decide) (by decide) ?_
      exact k_told hlt
    by_cases h_35 : (y0 &&& 63) = 32
    · refine lv_tableIn (off := 1895) (tgt := 1935) hx hb dL_law_40 (by rw [h_35]; decide) (by rw [h_35]; decide) (by rw [h_35]; decide) (by decide) ?_
      exact k_judged hlt
    by_cases h_36 : (y0 &&& 63) = 33
    · refine lv_tableIn (off := 1908) (tgt := 1948) hx hb dL_law_40 (by rw [h_36]; decide) (by rw [h_36]; decide) (by rw [h_36]; decide) (by decide) ?_
      exact k_forget hlt
    by_cases h_37 : (y0 &&& 63) = 34
    · refine lv_tableIn (off := 1921) (tgt := 1961) hx hb dL_law_40 (by rw [h_37]; decide) (by rw [h_37]; decide) (by rw [h_37]; decide) (by decide) ?_
      exact k_keep hlt
    by_cases h_38 : (y0 &&& 63) = 35
    · refine lv_tableIn (off := 1934) (tgt := 1974) hx hb dL_law_40 (by rw [h_38]; decide) (by rw [h_38]; decide) (by rw [h_38]; decide) (by decide) ?_
      exact k_back hlt
    by_cases h_39 : (y0 &&& 63) = 36
    · refine lv_tableIn (off := 1947) (tgt := 1987) hx hb dL_law_40 (by rw [h_39]; decide) (by rw [h_39]; decide) (by rw [h_39]; decide) (by decide) ?_
      exact k_size hlt
    refine lv_tableOut (tgt := 2012) hx hb dL_law_40 (by have a0 := xg_ne h_3; have a1 := xg_ne h_4; have a2 := xg_ne h_5; have a3 := xg_ne h_6; have a4 := xg_ne h_7; have a5 := xg_ne h_8; have a6 := xg_ne h_9; have a7 := xg_ne h_10; have a8 := xg_ne h_11; have a9 := xg_ne h_12; have a10 := xg_ne h_13; have a11 := xg_ne h_14; have a12 := xg_ne h_15; have a13 := xg_ne h_16; have a14 := xg_ne h_17; have a15 := xg_ne h_18; have a16 := xg_ne h_19; have a17 := xg_ne h_20; have a18 := xg_ne h_21; have a19 := xg_ne h_22; have a20 := xg_ne h_23; have a21 := xg_ne h_24; have a22 := xg_ne h_25; have a23 := xg_ne h_26; have a24 := xg_ne h_27; have a25 := xg_ne h_28; have a26 := xg_ne h_29; have a27 := xg_ne h_30; have a28 := xg_ne h_31; have a29 := xg_ne h_32; have a30 := xg_ne h_33; have a31 := xg_ne h_34; have a32 := xg_ne h_35; have a33 := xg_ne h_36; have a34 := xg_ne h_37; have a35 := xg_ne h_38; have a36 := xg_ne h_39; have b0 : (0 : Int32).toInt = 0 := rfl; have b1 : (1 : Int32).toInt = 1 := rfl; have b2 : (2 : Int32).toInt = 2 := rfl; have b3 : (3 : Int32).toInt = 3 := rfl; have b4 : (4 : Int32).toInt = 4 := rfl; have b5 : (5 : Int32).toInt = 5 := rfl; have b6 : (6 : Int32).toInt = 6 := rfl; have b7 : (7 : Int32).toInt = 7 := rfl; have b8 : (8 : Int32).toInt = 8 := rfl; have b9 : (9 : Int32).toInt = 9 := rfl; have b10 : (10 : Int32).toInt = 10 := rfl; have b11 : (11 : Int32).toInt = 11 := rfl; have b12 : (12 : Int32).toInt = 12 := rfl; have b13 : (13 : Int32).toInt = 13 := rfl; have b14 : (14 : Int32).toInt = 14 := rfl; have b15 : (15 : Int32).toInt = 15 := rfl; have b16 : (16 : Int32).toInt = 16 := rfl; have b17 : (17 : Int32).toInt = 17 := rfl; have b18 : (18 : Int32).toInt = 18 := rfl; have b19 : (19 : Int32).toInt = 19 := rfl; have b20 : (20 : Int32).toInt = 20 := rfl; have b21 : (21 : Int32).toInt = 21 := rfl; have b22 : (22 : Int32).toInt = 22 := rfl; have b23 : (23 : Int32).toInt = 23 := rfl; have b24 : (24 : Int32).toInt = 24 := rfl; have b25 : (25 : Int32).toInt = 25 := rfl; have b26 : (26 : Int32).toInt = 26 := rfl; have b27 : (27 : Int32).toInt = 27 := rfl; have b28 : (28 : Int32).toInt = 28 := rfl; have b29 : (29 : Int32).toInt = 29 := rfl; have b30 : (30 : Int32).toInt = 30 := rfl; have b31 : (31 : Int32).toInt = 31 := rfl; have b32 : (32 : Int32).toInt = 32 := rfl; have b33 : (33 : Int32).toInt = 33 := rfl; have b34 : (34 : Int32).toInt = 34 := rfl; have b35 : (35 : Int32).toInt = 35 := rfl; have b36 : (36 : Int32).toInt = 36 := rfl; omega) (by decide) ?_
    exact k_inc hlt
