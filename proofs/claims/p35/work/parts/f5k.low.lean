theorem zul {f : Nat → Int32} {i k N : Nat} {v : Int32} (hi : N ≤ i) (hk : k < N) : upd f i v k = f k := by
  unfold upd
  rw [if_neg (by omega)]
theorem zulL {f : Nat → Int64} {i k N : Nat} {v : Int64} (hi : N ≤ i) (hk : k < N) : vp_updL f i v k = f k := by
  unfold vp_updL
  rw [if_neg (by omega)]
theorem zl_if {α : Type} {c : Prop} [Decidable c] {a b Y : α} {P : Prop} (h : Y = if c then a else b) (h1 : c → Y = a → P) (h2 : ¬ c → Y = b → P) : P := by
  by_cases d : c
  · exact h1 d (by rw [h, if_pos d])
  · exact h2 d (by rw [h, if_neg d])
theorem zl_xL {α β : Type} {v : α} {f : α → β} {Y : β} {P : Prop} (h : Y = xL v f) (k : ∀ X, X = v → Y = f X → P) : P := k v rfl (by rw [h, xL_eq])
theorem zl_i7 {c : Prop} [Decidable c] {x y : Int32} (h1 : x ≤ 7) (h2 : y ≤ 7) : (if c then x else y) ≤ 7 := by
  by_cases d : c
  · rw [if_pos d]; exact h1
  · rw [if_neg d]; exact h2
theorem zl_nw {a b X : Int32} (h : X = fq_noteWord a b) : X ≤ 7 := by
  rw [h, fq_noteWord]
  repeat' first | exact (by decide) | refine zl_i7 ?_ ?_
theorem zl_fq_newName8 {f_tape : Nat → Int32} {f_words : Nat → Int32} {f_na : Nat → Int32} {a0 : Int32} {m_fault : Int32} {m_faultPlace : Int32} {m_stop : Int32} {m_next : Int32} {m_kind : Int32} {m_which : Int32} {m_at : Int32} {Y : Int32 × (Nat → Int32) × (Int32) × (Int32) × (Int32) × (Int32) × (Int32) × (Int32)} (hY : Y = fq_newName8 f_tape f_words f_na a0 m_fault m_faultPlace m_stop m_next m_kind m_which m_at) (h0 : ¬ a0 < 0) (h1 : a0 ≤ 4) : (∀ k : Nat, k < 4 → Y.2.1 k = f_na k) := by
  rw [fq_newName8] at hY
  refine zl_if hY (fun c1 hY => ?_) (fun c1 hY => ?_)
  · refine zl_xL hY (fun r_2 hr_2 hY => ?_)
    refine zl_if hY (fun c2 hY => ?_) (fun c2 hY => ?_)
    · refine zl_xL hY (fun u_8 hu_8 hY => ?_)
      subst hY
      exact fun k hk => (zul (N := 4) (xi_nle (a := (4 : Int32)) (by decide) (by lia)) hk)
    · refine zl_xL hY (fun X_20 hX_20 hY => ?_)
      subst hY
      exact fun k hk => rfl
  · refine zl_xL hY (fun X_26 hX_26 hY => ?_)
    subst hY
    exact fun k hk => rfl
theorem zl_fq_newName12 {f_tape : Nat → Int32} {f_words : Nat → Int32} {f_na : Nat → Int32} {a0 : Int32} {m_fault : Int32} {m_faultPlace : Int32} {m_stop : Int32} {m_next : Int32} {m_kind : Int32} {m_which : Int32} {m_at : Int32} {Y : Int32 × (Nat → Int32) × (Int32) × (Int32) × (Int32) × (Int32) × (Int32) × (Int32)} (hY : Y = fq_newName12 f_tape f_words f_na a0 m_fault m_faultPlace m_stop m_next m_kind m_which m_at) (h0 : ¬ a0 < 0) (h1 : a0 ≤ 6) : (∀ k : Nat, k < 6 → Y.2.1 k = f_na k) := by
  rw [fq_newName12] at hY
  refine zl_if hY (fun c1 hY => ?_) (fun c1 hY => ?_)
  · refine zl_xL hY (fun r_2 hr_2 hY => ?_)
    refine zl_if hY (fun c2 hY => ?_) (fun c2 hY => ?_)
    · refine zl_xL hY (fun u_8 hu_8 hY => ?_)
      subst hY
      exact fun k hk => (zul (N := 6) (xi_nle (a := (6 : Int32)) (by decide) (by lia)) hk)
    · refine zl_xL hY (fun X_20 hX_20 hY => ?_)
      subst hY
      exact fun k hk => rfl
  · refine zl_xL hY (fun X_26 hX_26 hY => ?_)
    subst hY
    exact fun k hk => rfl
theorem zl_fq_landLine_t {m_landsRead : Int32} {m_fault_t : Int32} {m_faultPlace_t : Int32} {m_next_t : Int32} {m_kind_t : Int32} {m_which_t : Int32} {m_at_t : Int32} {m_got_t : Int32} {f_landName_t : Nat → Int32} {f_landHas_t : Nat → Int32} {Y : Int32 × (Nat → Int32) × (Nat → Int32) × (Int32) × (Int32) × (Int32) × (Int32) × (Int32) × (Int32) × (Int32) × (Int32)} (hY : Y = fq_landLine_t m_landsRead m_fault_t m_faultPlace_t m_next_t m_kind_t m_which_t m_at_t m_got_t f_landName_t f_landHas_t) : (∀ k : Nat, k < 12 → Y.2.1 k = f_landHas_t k) ∧ (∀ k : Nat, k < 4 → Y.2.2.1 k = f_landName_t k) := by
  rw [fq_landLine_t] at hY
  subst hY
  exact ⟨fun k hk => rfl, fun k hk => rfl⟩
theorem zl_fq_landLine {f_tape : Nat → Int32} {f_words : Nat → Int32} {f_landName : Nat → Int32} {f_landHas : Nat → Int32} {m_fault : Int32} {m_faultPlace : Int32} {m_stop : Int32} {m_next : Int32} {m_kind : Int32} {m_which : Int32} {m_at : Int32} {m_got : Int32} {m_landsRead : Int32} {Y : Int32 × (Nat → Int32) × (Nat → Int32) × (Int32) × (Int32) × (Int32) × (Int32) × (Int32) × (Int32) × (Int32) × (Int32)} (hY : Y = fq_landLine f_tape f_words f_landName f_landHas m_fault m_faultPlace m_stop m_next m_kind m_which m_at m_got m_landsRead) (h0 : ¬ m_landsRead < 0) (h1 : m_landsRead ≤ 4) : (∀ k : Nat, k < 12 → Y.2.1 k = f_landHas k) ∧ (∀ k : Nat, k < 4 → Y.2.2.1 k = f_landName k) := by
  rw [fq_landLine] at hY
  refine zl_if hY (fun c1 hY => ?_) (fun c1 hY => ?_)
  · refine zl_xL hY (fun X_88 hX_88 hY => ?_)
    subst hY
    exact ⟨fun k hk => rfl, fun k hk => rfl⟩
  · refine zl_xL hY (fun u_3 hu_3 hY => ?_)
    refine zl_xL hY (fun X_21 hX_21 hY => ?_)
    have zX_21 := zl_fq_newName8 hX_21 (by first | assumption | decide | lia) (by first | assumption | decide | lia)
    refine zl_if hY (fun c2 hY => ?_) (fun c2 hY => ?_)
    · subst hY
      exact ⟨fun k hk => rfl, fun k hk => (zX_21 k hk)⟩
    · refine zl_xL hY (fun X_36 hX_36 hY => ?_)
      refine zl_if hY (fun c3 hY => ?_) (fun c3 hY => ?_)
      · subst hY
        exact ⟨fun k hk => rfl, fun k hk => (zX_21 k hk)⟩
      · refine zl_xL hY (fun X_52 hX_52 hY => ?_)
        refine zl_if hY (fun c4 hY => ?_) (fun c4 hY => ?_)
        · subst hY
          exact ⟨fun k hk => (zul (N := 12) (xi_nle (a := (12 : Int32)) (by decide) (by lia)) hk), fun k hk => (zX_21 k hk)⟩
        · refine zl_xL hY (fun r_56 hr_56 hY => ?_)
          refine zl_if hY (fun c5 hY => ?_) (fun c5 hY => ?_)
          · have zT := zl_fq_landLine_t hY
            exact ⟨fun k hk => (zT.1 k hk).trans ((zul (N := 12) (xi_nle (a := (12 : Int32)) (by decide) (by lia)) hk).trans ((zul (N := 12) (xi_nle (a := (12 : Int32)) (by decide) (by lia)) hk).trans (zul (N := 12) (xi_nle (a := (12 : Int32)) (by decide) (by lia)) hk))), fun k hk => (zT.2 k hk).trans (zX_21 k hk)⟩
          · refine zl_xL hY (fun u_60 hu_60 hY => ?_)
            refine zl_xL hY (fun X_80 hX_80 hY => ?_)
            refine zl_if hY (fun c6 hY => ?_) (fun c6 hY => ?_)
            · subst hY
              exact ⟨fun k hk => ((zul (N := 12) (xi_nle (a := (12 : Int32)) (by decide) (by lia)) hk).trans ((zul (N := 12) (xi_nle (a := (12 : Int32)) (by decide) (by lia)) hk).trans (zul (N := 12) (xi_nle (a := (12 : Int32)) (by decide) (by lia)) hk))), fun k hk => (zX_21 k hk)⟩
            · have zT := zl_fq_landLine_t hY
              exact ⟨fun k hk => (zT.1 k hk).trans ((zul (N := 12) (xi_nle (a := (12 : Int32)) (by decide) (by lia)) hk).trans ((zul (N := 12) (xi_nle (a := (12 : Int32)) (by decide) (by lia)) hk).trans ((zul (N := 12) (xi_nle (a := (12 : Int32)) (by decide) (by lia)) hk).trans (zul (N := 12) (xi_nle (a := (12 : Int32)) (by decide) (by lia)) hk)))), fun k hk => (zT.2 k hk).trans (zX_21 k hk)⟩
theorem zl_fq_personLine {f_tape : Nat → Int32} {f_words : Nat → Int32} {f_landHas : Nat → Int32} {f_personName : Nat → Int32} {f_born : Nat → Int64} {f_died : Nat → Int64} {m_fault : Int32} {m_faultPlace : Int32} {m_stop : Int32} {m_next : Int32} {m_kind : Int32} {m_which : Int32} {m_at : Int32} {m_got : Int32} {m_landsRead : Int32} {m_peopleRead : Int32} {m_gotCount : Int64} {Y : Int32 × (Int32) × (Int32) × (Int32) × (Int32) × (Int32) × (Int32) × (Nat → Int32) × (Nat → Int64) × (Nat → Int64) × (Int32) × (Int32) × (Int64)} (hY : Y = fq_personLine f_tape f_words f_landHas f_personName f_born f_died m_fault m_faultPlace m_stop m_next m_kind m_which m_at m_got m_landsRead m_peopleRead m_gotCount) (h0 : ¬ m_peopleRead < 0) (h1 : m_peopleRead ≤ 6) : (∀ k : Nat, k < 6 → Y.2.2.2.2.2.2.2.1 k = f_personName k) ∧ (∀ k : Nat, k < 6 → Y.2.2.2.2.2.2.2.2.1 k = f_born k) ∧ (∀ k : Nat, k < 6 → Y.2.2.2.2.2.2.2.2.2.1 k = f_died k) := by
  rw [fq_personLine] at hY
  refine zl_if hY (fun c1 hY => ?_) (fun c1 hY => ?_)
  · refine zl_xL hY (fun X_69 hX_69 hY => ?_)
    subst hY
    exact ⟨fun k hk => rfl, fun k hk => rfl, fun k hk => rfl⟩
  · refine zl_xL hY (fun u_3 hu_3 hY => ?_)
    refine zl_xL hY (fun X_21 hX_21 hY => ?_)
    have zX_21 := zl_fq_newName12 hX_21 (by first | assumption | decide | lia) (by first | assumption | decide | lia)
    refine zl_if hY (fun c2 hY => ?_) (fun c2 hY => ?_)
    · subst hY
      exact ⟨fun k hk => (zX_21 k hk), fun k hk => rfl, fun k hk => rfl⟩
    · refine zl_xL hY (fun X_35 hX_35 hY => ?_)
      refine zl_if hY (fun c3 hY => ?_) (fun c3 hY => ?_)
      · subst hY
        exact ⟨fun k hk => (zX_21 k hk), fun k hk => rfl, fun k hk => rfl⟩
      · refine zl_xL hY (fun r_39 hr_39 hY => ?_)
        refine zl_if hY (fun c4 hY => ?_) (fun c4 hY => ?_)
        · subst hY
          exact ⟨fun k hk => (zX_21 k hk), fun k hk => (zulL (N := 6) (xi_nle (a := (6 : Int32)) (by decide) (by lia)) hk), fun k hk => (zulL (N := 6) (xi_nle (a := (6 : Int32)) (by decide) (by lia)) hk)⟩
        · refine zl_xL hY (fun u_42 hu_42 hY => ?_)
          refine zl_xL hY (fun X_61 hX_61 hY => ?_)
          refine zl_if hY (fun c5 hY => ?_) (fun c5 hY => ?_)
          · subst hY
            exact ⟨fun k hk => (zX_21 k hk), fun k hk => (zulL (N := 6) (xi_nle (a := (6 : Int32)) (by decide) (by lia)) hk), fun k hk => (zulL (N := 6) (xi_nle (a := (6 : Int32)) (by decide) (by lia)) hk)⟩
          · subst hY
            exact ⟨fun k hk => (zX_21 k hk), fun k hk => (zulL (N := 6) (xi_nle (a := (6 : Int32)) (by decide) (by lia)) hk), fun k hk => ((zulL (N := 6) (xi_nle (a := (6 : Int32)) (by decide) (by lia)) hk).trans (zulL (N := 6) (xi_nle (a := (6 : Int32)) (by decide) (by lia)) hk))⟩
theorem zl_fq_deedLine_t {f_tape : Nat → Int32} {f_words : Nat → Int32} {f_deedHas : Nat → Int32} {m_stop : Int32} {m_deedsRead : Int32} {L2t : Int32} {m_fault_t : Int32} {m_faultPlace_t : Int32} {m_next_t : Int32} {m_kind_t : Int32} {m_which_t : Int32} {m_at_t : Int32} {m_got_t : Int32} {m_gotCount_t : Int64} {f_deedName_t : Nat → Int32} {f_deedOn_t : Nat → Int64} {Y : Int32 × (Int32) × (Int32) × (Int32) × (Int32) × (Int32) × (Int32) × (Nat → Int32) × (Nat → Int64) × (Int32) × (Int64) × (Nat → Int32) × (Int32)} (hY : Y = fq_deedLine_t f_tape f_words f_deedHas m_stop m_deedsRead L2t m_fault_t m_faultPlace_t m_next_t m_kind_t m_which_t m_at_t m_got_t m_gotCount_t f_deedName_t f_deedOn_t) (h0 : ¬ m_deedsRead < 0) (h1 : m_deedsRead ≤ 4) : (∀ k : Nat, k < 4 → Y.2.2.2.2.2.2.2.1 k = f_deedName_t k) ∧ (∀ k : Nat, k < 4 → Y.2.2.2.2.2.2.2.2.1 k = f_deedOn_t k) ∧ (∀ k : Nat, k < 12 → Y.2.2.2.2.2.2.2.2.2.2.2.1 k = f_deedHas k) := by
  rw [fq_deedLine_t] at hY
  refine zl_xL hY (fun X_74 hX_74 hY => ?_)
  refine zl_if hY (fun c1 hY => ?_) (fun c1 hY => ?_)
  · subst hY
    exact ⟨fun k hk => rfl, fun k hk => rfl, fun k hk => ((zul (N := 12) (xi_nle (a := (12 : Int32)) (by decide) (by lia)) hk).trans (zul (N := 12) (xi_nle (a := (12 : Int32)) (by decide) (by lia)) hk))⟩
  · refine zl_xL hY (fun X_89 hX_89 hY => ?_)
    refine zl_if hY (fun c2 hY => ?_) (fun c2 hY => ?_)
    · subst hY
      exact ⟨fun k hk => rfl, fun k hk => rfl, fun k hk => ((zul (N := 12) (xi_nle (a := (12 : Int32)) (by decide) (by lia)) hk).trans (zul (N := 12) (xi_nle (a := (12 : Int32)) (by decide) (by lia)) hk))⟩
    · subst hY
      exact ⟨fun k hk => rfl, fun k hk => rfl, fun k hk => ((zul (N := 12) (xi_nle (a := (12 : Int32)) (by decide) (by lia)) hk).trans ((zul (N := 12) (xi_nle (a := (12 : Int32)) (by decide) (by lia)) hk).trans (zul (N := 12) (xi_nle (a := (12 : Int32)) (by decide) (by lia)) hk)))⟩
theorem zl_fq_deedLine {f_tape : Nat → Int32} {f_words : Nat → Int32} {f_landHas : Nat → Int32} {f_feastName : Nat → Int32} {f_deedName : Nat → Int32} {f_deedOn : Nat → Int64} {f_deedHas : Nat → Int32} {m_fault : Int32} {m_faultPlace : Int32} {m_stop : Int32} {m_next : Int32} {m_kind : Int32} {m_which : Int32} {m_at : Int32} {m_got : Int32} {m_landsRead : Int32} {m_feastsRead : Int32} {m_deedsRead : Int32} {m_gotCount : Int64} {Y : Int32 × (Int32) × (Int32) × (Int32) × (Int32) × (Int32) × (Int32) × (Nat → Int32) × (Nat → Int64) × (Int32) × (Int64) × (Nat → Int32) × (Int32)} (hY : Y = fq_deedLine f_tape f_words f_landHas f_feastName f_deedName f_deedOn f_deedHas m_fault m_faultPlace m_stop m_next m_kind m_which m_at m_got m_landsRead m_feastsRead m_deedsRead m_gotCount) (h0 : ¬ m_deedsRead < 0) (h1 : m_deedsRead ≤ 4) : (∀ k : Nat, k < 4 → Y.2.2.2.2.2.2.2.1 k = f_deedName k) ∧ (∀ k : Nat, k < 4 → Y.2.2.2.2.2.2.2.2.1 k = f_deedOn k) ∧ (∀ k : Nat, k < 12 → Y.2.2.2.2.2.2.2.2.2.2.2.1 k = f_deedHas k) := by
  rw [fq_deedLine] at hY
  refine zl_if hY (fun c1 hY => ?_) (fun c1 hY => ?_)
  · refine zl_xL hY (fun X_150 hX_150 hY => ?_)
    subst hY
    exact ⟨fun k hk => rfl, fun k hk => rfl, fun k hk => rfl⟩
  · refine zl_xL hY (fun u_3 hu_3 hY => ?_)
    refine zl_xL hY (fun X_21 hX_21 hY => ?_)
    have zX_21 := zl_fq_newName8 hX_21 (by first | assumption | decide | lia) (by first | assumption | decide | lia)
    refine zl_if hY (fun c2 hY => ?_) (fun c2 hY => ?_)
    · subst hY
      exact ⟨fun k hk => (zX_21 k hk), fun k hk => rfl, fun k hk => rfl⟩
    · refine zl_xL hY (fun X_35 hX_35 hY => ?_)
      refine zl_if hY (fun c3 hY => ?_) (fun c3 hY => ?_)
      · subst hY
        exact ⟨fun k hk => (zX_21 k hk), fun k hk => rfl, fun k hk => rfl⟩
      · refine zl_if hY (fun c4 hY => ?_) (fun c4 hY => ?_)
        · refine zl_if hY (fun c5 hY => ?_) (fun c5 hY => ?_)
          · refine zl_xL hY (fun X_51 hX_51 hY => ?_)
            subst hY
            exact ⟨fun k hk => (zX_21 k hk), fun k hk => (zulL (N := 4) (xi_nle (a := (4 : Int32)) (by decide) (by lia)) hk), fun k hk => rfl⟩
          · refine zl_if hY (fun c6 hY => ?_) (fun c6 hY => ?_)
            · refine zl_xL hY (fun u_54 hu_54 hY => ?_)
              refine zl_if hY (fun c7 hY => ?_) (fun c7 hY => ?_)
              · refine zl_xL hY (fun X_137 hX_137 hY => ?_)
                refine zl_if hY (fun c8 hY => ?_) (fun c8 hY => ?_)
                · subst hY
                  exact ⟨fun k hk => (zX_21 k hk), fun k hk => (zulL (N := 4) (xi_nle (a := (4 : Int32)) (by decide) (by lia)) hk), fun k hk => rfl⟩
                · have zT := zl_fq_deedLine_t hY (by first | assumption | decide | lia) (by first | assumption | decide | lia)
                  exact ⟨fun k hk => (zT.1 k hk).trans (zX_21 k hk), fun k hk => (zT.2.1 k hk).trans (zulL (N := 4) (xi_nle (a := (4 : Int32)) (by decide) (by lia)) hk), fun k hk => (zT.2.2 k hk)⟩
              · refine zl_if hY (fun c9 hY => ?_) (fun c9 hY => ?_)
                · refine zl_xL hY (fun X_122 hX_122 hY => ?_)
                  refine zl_if hY (fun c10 hY => ?_) (fun c10 hY => ?_)
                  · subst hY
                    exact ⟨fun k hk => (zX_21 k hk), fun k hk => (zulL (N := 4) (xi_nle (a := (4 : Int32)) (by decide) (by lia)) hk), fun k hk => rfl⟩
                  · have zT := zl_fq_deedLine_t hY (by first | assumption | decide | lia) (by first | assumption | decide | lia)
                    exact ⟨fun k hk => (zT.1 k hk).trans (zX_21 k hk), fun k hk => (zT.2.1 k hk).trans (zulL (N := 4) (xi_nle (a := (4 : Int32)) (by decide) (by lia)) hk), fun k hk => (zT.2.2 k hk)⟩
                · refine zl_xL hY (fun X_107 hX_107 hY => ?_)
                  refine zl_if hY (fun c11 hY => ?_) (fun c11 hY => ?_)
                  · subst hY
                    exact ⟨fun k hk => (zX_21 k hk), fun k hk => (zulL (N := 4) (xi_nle (a := (4 : Int32)) (by decide) (by lia)) hk), fun k hk => rfl⟩
                  · have zT := zl_fq_deedLine_t hY (by first | assumption | decide | lia) (by first | assumption | decide | lia)
                    exact ⟨fun k hk => (zT.1 k hk).trans (zX_21 k hk), fun k hk => (zT.2.1 k hk).trans (zulL (N := 4) (xi_nle (a := (4 : Int32)) (by decide) (by lia)) hk), fun k hk => (zT.2.2 k hk)⟩
            · refine zl_xL hY (fun X_144 hX_144 hY => ?_)
              subst hY
              exact ⟨fun k hk => (zX_21 k hk), fun k hk => (zulL (N := 4) (xi_nle (a := (4 : Int32)) (by decide) (by lia)) hk), fun k hk => rfl⟩
        · refine zl_xL hY (fun X_44 hX_44 hY => ?_)
          subst hY
          exact ⟨fun k hk => (zX_21 k hk), fun k hk => (zulL (N := 4) (xi_nle (a := (4 : Int32)) (by decide) (by lia)) hk), fun k hk => rfl⟩
theorem zl_fq_noteLine_d_n {m_notesRead : Int32} : ∀ (n : Nat) {L2d : Int32} {m_fault_d : Int32} {m_faultPlace_d : Int32} {m_next_d : Int32} {m_kind_d : Int32} {m_which_d : Int32} {m_at_d : Int32} {f_noteName_d : Nat → Int32} {f_noteHas_d : Nat → Int32} {Y : (Int32) × (Int32) × (Int32) × (Int32) × (Int32) × (Int32) × (Int32) × (Nat → Int32) × (Nat → Int32)} (hY : Y = fq_noteLine_d m_notesRead n L2d m_fault_d m_faultPlace_d m_next_d m_kind_d m_which_d m_at_d f_noteName_d f_noteHas_d) (h0 : ¬ m_notesRead < 0) (h1 : m_notesRead ≤ 6) (h2 : ¬ L2d < 0) (h3 : L2d ≤ 11), (∀ k : Nat, k < 6 → Y.2.2.2.2.2.2.2.1 k = f_noteName_d k) ∧ (∀ k : Nat, k < 132 → Y.2.2.2.2.2.2.2.2 k = f_noteHas_d k) := by
  intro n
  induction n with
  | zero =>
    intro L2d m_fault_d m_faultPlace_d m_next_d m_kind_d m_which_d m_at_d f_noteName_d f_noteHas_d Y hY h0 h1 h2 h3
    rw [fq_noteLine_d] at hY
    subst hY
    exact ⟨fun k hk => rfl, fun k hk => rfl⟩
  | succ n ih =>
    intro L2d m_fault_d m_faultPlace_d m_next_d m_kind_d m_which_d m_at_d f_noteName_d f_noteHas_d Y hY h0 h1 h2 h3
    rw [fq_noteLine_d] at hY
    refine zl_if hY (fun c1 hY => ?_) (fun c1 hY => ?_)
    · subst hY
      exact ⟨fun k hk => rfl, fun k hk => rfl⟩
    · have zT := ih hY (by first | assumption | decide | lia) (by first | assumption | decide | lia) (by first | assumption | decide | lia) (by first | assumption | decide | lia)
      exact ⟨fun k hk => (zT.1 k hk), fun k hk => (zT.2 k hk).trans (zul (N := 132) (xi_nle (a := (132 : Int32)) (by decide) (by lia)) hk)⟩
theorem zl_fq_noteLine_d {m_notesRead : Int32} {n : Nat} {L2d : Int32} {m_fault_d : Int32} {m_faultPlace_d : Int32} {m_next_d : Int32} {m_kind_d : Int32} {m_which_d : Int32} {m_at_d : Int32} {f_noteName_d : Nat → Int32} {f_noteHas_d : Nat → Int32} {Y : (Int32) × (Int32) × (Int32) × (Int32) × (Int32) × (Int32) × (Int32) × (Nat → Int32) × (Nat → Int32)} (hY : Y = fq_noteLine_d m_notesRead n L2d m_fault_d m_faultPlace_d m_next_d m_kind_d m_which_d m_at_d f_noteName_d f_noteHas_d) (h0 : ¬ m_notesRead < 0) (h1 : m_notesRead ≤ 6) (h2 : ¬ L2d < 0) (h3 : L2d ≤ 11) : (∀ k : Nat, k < 6 → Y.2.2.2.2.2.2.2.1 k = f_noteName_d k) ∧ (∀ k : Nat, k < 132 → Y.2.2.2.2.2.2.2.2 k = f_noteHas_d k) := zl_fq_noteLine_d_n n hY h0 h1 h2 h3
theorem zl_fq_saysRead {f_tape : Nat → Int32} {f_words : Nat → Int32} {f_feastName : Nat → Int32} {f_personName : Nat → Int32} {f_noteName : Nat → Int32} {f_noteHas : Nat → Int32} {a0 : Int32} {a1 : Int32} {m_fault : Int32} {m_faultPlace : Int32} {m_stop : Int32} {m_next : Int32} {m_kind : Int32} {m_which : Int32} {m_at : Int32} {m_got : Int32} {m_feastsRead : Int32} {m_peopleRead : Int32} {m_notesRead : Int32} {Y : Int32 × (Nat → Int32) × (Int32) × (Int32) × (Int32) × (Int32) × (Int32) × (Int32) × (Int32)} (hY : Y = fq_saysRead f_tape f_words f_feastName f_personName f_noteName f_noteHas a0 a1 m_fault m_faultPlace m_stop m_next m_kind m_which m_at m_got m_feastsRead m_peopleRead m_notesRead) (h0 : ¬ a0 < 132) (h1 : a0 ≤ 300) (h2 : ¬ a1 < 0) (h3 : a1 ≤ 7) : (∀ k : Nat, k < 132 → Y.2.1 k = f_noteHas k) := by
  rw [fq_saysRead] at hY
  refine zl_if hY (fun c1 hY => ?_) (fun c1 hY => ?_)
  · refine zl_xL hY (fun X_140 hX_140 hY => ?_)
    refine zl_if hY (fun c2 hY => ?_) (fun c2 hY => ?_)
    · subst hY
      exact fun k hk => rfl
    · refine zl_xL hY (fun X_156 hX_156 hY => ?_)
      refine zl_if hY (fun c3 hY => ?_) (fun c3 hY => ?_)
      · subst hY
        exact fun k hk => (zul (N := 132) (xi_nle (a := (132 : Int32)) (by decide) (by lia)) hk)
      · subst hY
        exact fun k hk => ((zul (N := 132) (xi_nle (a := (132 : Int32)) (by decide) (by lia)) hk).trans (zul (N := 132) (xi_nle (a := (132 : Int32)) (by decide) (by lia)) hk))
  · refine zl_xL hY (fun X_2 hX_2 hY => ?_)
    refine zl_if hY (fun c4 hY => ?_) (fun c4 hY => ?_)
    · subst hY
      exact fun k hk => rfl
    · refine zl_if hY (fun c5 hY => ?_) (fun c5 hY => ?_)
      · refine zl_xL hY (fun X_20 hX_20 hY => ?_)
        refine zl_if hY (fun c6 hY => ?_) (fun c6 hY => ?_)
        · subst hY
          exact fun k hk => (zul (N := 132) (xi_nle (a := (132 : Int32)) (by decide) (by lia)) hk)
        · subst hY
          exact fun k hk => ((zul (N := 132) (xi_nle (a := (132 : Int32)) (by decide) (by lia)) hk).trans (zul (N := 132) (xi_nle (a := (132 : Int32)) (by decide) (by lia)) hk))
      · subst hY
        exact fun k hk => (zul (N := 132) (xi_nle (a := (132 : Int32)) (by decide) (by lia)) hk)
theorem zl_fq_noteLine_e_n {f_tape : Nat → Int32} {f_words : Nat → Int32} {f_feastName : Nat → Int32} {f_personName : Nat → Int32} {m_stop : Int32} {m_feastsRead : Int32} {m_peopleRead : Int32} {m_notesRead : Int32} {f_noteName_dx : Nat → Int32} : ∀ (n : Nat) {L2e : Int32} {m_fault_e : Int32} {m_faultPlace_e : Int32} {m_next_e : Int32} {m_kind_e : Int32} {m_which_e : Int32} {m_at_e : Int32} {m_got_e : Int32} {f_noteHas_e : Nat → Int32} {Y : Int32 × (Int32) × (Int32) × (Int32) × (Int32) × (Int32) × (Int32) × (Nat → Int32) × (Nat → Int32) × (Int32) × (Int32)} (hY : Y = fq_noteLine_e f_tape f_words f_feastName f_personName m_stop m_feastsRead m_peopleRead m_notesRead f_noteName_dx n L2e m_fault_e m_faultPlace_e m_next_e m_kind_e m_which_e m_at_e m_got_e f_noteHas_e) (h0 : ¬ m_notesRead < 0) (h1 : m_notesRead ≤ 6) (h2 : L2e ≤ 7), (∀ k : Nat, k < 6 → Y.2.2.2.2.2.2.2.1 k = f_noteName_dx k) ∧ (∀ k : Nat, k < 132 → Y.2.2.2.2.2.2.2.2.1 k = f_noteHas_e k) := by
  intro n
  induction n with
  | zero =>
    intro L2e m_fault_e m_faultPlace_e m_next_e m_kind_e m_which_e m_at_e m_got_e f_noteHas_e Y hY h0 h1 h2
    rw [fq_noteLine_e] at hY
    refine zl_if hY (fun c1 hY => ?_) (fun c1 hY => ?_)
    · subst hY
      exact ⟨fun k hk => rfl, fun k hk => rfl⟩
    · refine zl_xL hY (fun r_31 hr_31 hY => ?_)
      refine zl_xL hY (fun X_38 hX_38 hY => ?_)
      subst hY
      exact ⟨fun k hk => rfl, fun k hk => rfl⟩
  | succ n ih =>
    intro L2e m_fault_e m_faultPlace_e m_next_e m_kind_e m_which_e m_at_e m_got_e f_noteHas_e Y hY h0 h1 h2
    rw [fq_noteLine_e] at hY
    refine zl_if hY (fun c2 hY => ?_) (fun c2 hY => ?_)
    · subst hY
      exact ⟨fun k hk => rfl, fun k hk => rfl⟩
    · refine zl_xL hY (fun r_40 hr_40 hY => ?_)
      refine zl_if hY (fun c3 hY => ?_) (fun c3 hY => ?_)
      · refine zl_xL hY (fun u_44 hu_44 hY => ?_)
        refine zl_xL hY (fun X_66 hX_66 hY => ?_)
        have zX_66 := zl_fq_saysRead hX_66 (by first | assumption | decide | lia) (by first | assumption | decide | lia) (by first | assumption | decide | lia) (by first | assumption | decide | lia)
        refine zl_if hY (fun c4 hY => ?_) (fun c4 hY => ?_)
        · subst hY
          exact ⟨fun k hk => rfl, fun k hk => ((zX_66 k hk).trans (zul (N := 132) (xi_nle (a := (132 : Int32)) (by decide) (by lia)) hk))⟩
        · refine zl_xL hY (fun r_68 hr_68 hY => ?_)
          have zr_68 := zl_nw hr_68
          have zT := ih hY (by first | assumption | decide | lia) (by first | assumption | decide | lia) (by first | assumption | decide | lia)
          exact ⟨fun k hk => (zT.1 k hk), fun k hk => (zT.2 k hk).trans ((zX_66 k hk).trans (zul (N := 132) (xi_nle (a := (132 : Int32)) (by decide) (by lia)) hk))⟩
      · refine zl_xL hY (fun X_76 hX_76 hY => ?_)
        subst hY
        exact ⟨fun k hk => rfl, fun k hk => rfl⟩
theorem zl_fq_noteLine_e {f_tape : Nat → Int32} {f_words : Nat → Int32} {f_feastName : Nat → Int32} {f_personName : Nat → Int32} {m_stop : Int32} {m_feastsRead : Int32} {m_peopleRead : Int32} {m_notesRead : Int32} {f_noteName_dx : Nat → Int32} {n : Nat} {L2e : Int32} {m_fault_e : Int32} {m_faultPlace_e : Int32} {m_next_e : Int32} {m_kind_e : Int32} {m_which_e : Int32} {m_at_e : Int32} {m_got_e : Int32} {f_noteHas_e : Nat → Int32} {Y : Int32 × (Int32) × (Int32) × (Int32) × (Int32) × (Int32) × (Int32) × (Nat → Int32) × (Nat → Int32) × (Int32) × (Int32)} (hY : Y = fq_noteLine_e f_tape f_words f_feastName f_personName m_stop m_feastsRead m_peopleRead m_notesRead f_noteName_dx n L2e m_fault_e m_faultPlace_e m_next_e m_kind_e m_which_e m_at_e m_got_e f_noteHas_e) (h0 : ¬ m_notesRead < 0) (h1 : m_notesRead ≤ 6) (h2 : L2e ≤ 7) : (∀ k : Nat, k < 6 → Y.2.2.2.2.2.2.2.1 k = f_noteName_dx k) ∧ (∀ k : Nat, k < 132 → Y.2.2.2.2.2.2.2.2.1 k = f_noteHas_e k) := zl_fq_noteLine_e_n n hY h0 h1 h2
theorem zl_fq_noteLine {f_tape : Nat → Int32} {f_words : Nat → Int32} {f_feastName : Nat → Int32} {f_personName : Nat → Int32} {f_noteName : Nat → Int32} {f_noteHas : Nat → Int32} {m_fault : Int32} {m_faultPlace : Int32} {m_stop : Int32} {m_next : Int32} {m_kind : Int32} {m_which : Int32} {m_at : Int32} {m_got : Int32} {m_feastsRead : Int32} {m_peopleRead : Int32} {m_notesRead : Int32} {Y : Int32 × (Int32) × (Int32) × (Int32) × (Int32) × (Int32) × (Int32) × (Nat → Int32) × (Nat → Int32) × (Int32) × (Int32)} (hY : Y = fq_noteLine f_tape f_words f_feastName f_personName f_noteName f_noteHas m_fault m_faultPlace m_stop m_next m_kind m_which m_at m_got m_feastsRead m_peopleRead m_notesRead) (h0 : ¬ m_notesRead < 0) (h1 : m_notesRead ≤ 6) : (∀ k : Nat, k < 6 → Y.2.2.2.2.2.2.2.1 k = f_noteName k) ∧ (∀ k : Nat, k < 132 → Y.2.2.2.2.2.2.2.2.1 k = f_noteHas k) := by
  rw [fq_noteLine] at hY
  refine zl_if hY (fun c1 hY => ?_) (fun c1 hY => ?_)
  · refine zl_xL hY (fun X_86 hX_86 hY => ?_)
    subst hY
    exact ⟨fun k hk => rfl, fun k hk => rfl⟩
  · refine zl_xL hY (fun u_3 hu_3 hY => ?_)
    refine zl_xL hY (fun X_22 hX_22 hY => ?_)
    have zX_22 := zl_fq_newName12 hX_22 (by first | assumption | decide | lia) (by first | assumption | decide | lia)
    refine zl_if hY (fun c2 hY => ?_) (fun c2 hY => ?_)
    · subst hY
      exact ⟨fun k hk => (zX_22 k hk), fun k hk => rfl⟩
    · refine zl_xL hY (fun X_24 hX_24 hY => ?_)
      have zX_24 := zl_fq_noteLine_d hX_24 (by first | assumption | decide | lia) (by first | assumption | decide | lia) (by first | assumption | decide | lia) (by first | assumption | decide | lia)
      refine zl_xL hY (fun r_26 hr_26 hY => ?_)
      have zr_26 := zl_nw hr_26
      have zT := zl_fq_noteLine_e hY (by first | assumption | decide | lia) (by first | assumption | decide | lia) (by first | assumption | decide | lia)
      exact ⟨fun k hk => (zT.1 k hk).trans ((zX_24.1 k hk).trans (zX_22 k hk)), fun k hk => (zT.2 k hk).trans (zX_24.2 k hk)⟩
theorem zl_fq_roundRead9_j {f_sky : Nat → Int32} {u_2 : (Int32) × (Int32) × (Int32) × (Int32) × (Int32) × (Int32) × (Int32)} {Y : (Int32) × (Int32) × (Int32) × (Int32) × (Int32) × (Int32) × (Int32) × (Int32) × (Nat → Int32)} (hY : Y = fq_roundRead9_j f_sky u_2) : (∀ k : Nat, k < 7 → Y.2.2.2.2.2.2.2.2 k = f_sky k) := by
  rw [fq_roundRead9_j] at hY
  refine zl_if hY (fun c1 hY => ?_) (fun c1 hY => ?_)
  · subst hY
    exact fun k hk => (zul (N := 7) (by decide) hk)
  · subst hY
    exact fun k hk => (zul (N := 7) (by decide) hk)
theorem zl_fq_roundRead12_j {f_sky : Nat → Int32} {u_2 : (Int32) × (Int32) × (Int32) × (Int32) × (Int32) × (Int32) × (Int32)} {Y : (Int32) × (Int32) × (Int32) × (Int32) × (Int32) × (Int32) × (Int32) × (Int32) × (Nat → Int32)} (hY : Y = fq_roundRead12_j f_sky u_2) : (∀ k : Nat, k < 7 → Y.2.2.2.2.2.2.2.2 k = f_sky k) := by
  rw [fq_roundRead12_j] at hY
  refine zl_if hY (fun c1 hY => ?_) (fun c1 hY => ?_)
  · subst hY
    exact fun k hk => (zul (N := 7) (by decide) hk)
  · subst hY
    exact fun k hk => (zul (N := 7) (by decide) hk)
theorem zl_fq_roundRead9 {f_tape : Nat → Int32} {f_words : Nat → Int32} {f_sky : Nat → Int32} {m_fault : Int32} {m_faultPlace : Int32} {m_stop : Int32} {m_next : Int32} {m_kind : Int32} {m_which : Int32} {m_at : Int32} {m_got : Int32} {Y : Int32 × (Int32) × (Int32) × (Int32) × (Int32) × (Int32) × (Int32) × (Int32) × (Nat → Int32)} (hY : Y = fq_roundRead9 f_tape f_words f_sky m_fault m_faultPlace m_stop m_next m_kind m_which m_at m_got) : (∀ k : Nat, k < 7 → Y.2.2.2.2.2.2.2.2 k = f_sky k) := by
  rw [fq_roundRead9] at hY
  refine zl_xL hY (fun X_14 hX_14 hY => ?_)
  refine zl_if hY (fun c1 hY => ?_) (fun c1 hY => ?_)
  · subst hY
    exact fun k hk => rfl
  · refine zl_xL hY (fun X_17 hX_17 hY => ?_)
    have zX_17 := zl_fq_roundRead9_j hX_17
    refine zl_xL hY (fun X_32 hX_32 hY => ?_)
    refine zl_if hY (fun c2 hY => ?_) (fun c2 hY => ?_)
    · subst hY
      exact fun k hk => (zX_17 k hk)
    · subst hY
      exact fun k hk => ((zul (N := 7) (by decide) hk).trans (zX_17 k hk))
theorem zl_fq_roundRead12 {f_tape : Nat → Int32} {f_words : Nat → Int32} {f_sky : Nat → Int32} {m_fault : Int32} {m_faultPlace : Int32} {m_stop : Int32} {m_next : Int32} {m_kind : Int32} {m_which : Int32} {m_at : Int32} {m_got : Int32} {Y : Int32 × (Int32) × (Int32) × (Int32) × (Int32) × (Int32) × (Int32) × (Int32) × (Nat → Int32)} (hY : Y = fq_roundRead12 f_tape f_words f_sky m_fault m_faultPlace m_stop m_next m_kind m_which m_at m_got) : (∀ k : Nat, k < 7 → Y.2.2.2.2.2.2.2.2 k = f_sky k) := by
  rw [fq_roundRead12] at hY
  refine zl_xL hY (fun X_14 hX_14 hY => ?_)
  refine zl_if hY (fun c1 hY => ?_) (fun c1 hY => ?_)
  · subst hY
    exact fun k hk => rfl
  · refine zl_xL hY (fun X_17 hX_17 hY => ?_)
    have zX_17 := zl_fq_roundRead12_j hX_17
    refine zl_xL hY (fun X_32 hX_32 hY => ?_)
    refine zl_if hY (fun c2 hY => ?_) (fun c2 hY => ?_)
    · subst hY
      exact fun k hk => (zX_17 k hk)
    · subst hY
      exact fun k hk => ((zul (N := 7) (by decide) hk).trans (zX_17 k hk))
theorem zl_fq_weekLine {f_tape : Nat → Int32} {f_words : Nat → Int32} {f_sky : Nat → Int32} {m_fault : Int32} {m_faultPlace : Int32} {m_stop : Int32} {m_next : Int32} {m_kind : Int32} {m_which : Int32} {m_at : Int32} {m_got : Int32} {m_weekTold : Int32} {Y : Int32 × (Nat → Int32) × (Int32) × (Int32) × (Int32) × (Int32) × (Int32) × (Int32) × (Int32) × (Int32)} (hY : Y = fq_weekLine f_tape f_words f_sky m_fault m_faultPlace m_stop m_next m_kind m_which m_at m_got m_weekTold) : (∀ k : Nat, k < 7 → Y.2.1 k = f_sky k) := by
  rw [fq_weekLine] at hY
  refine zl_if hY (fun c1 hY => ?_) (fun c1 hY => ?_)
  · refine zl_xL hY (fun u_3 hu_3 hY => ?_)
    refine zl_xL hY (fun X_23 hX_23 hY => ?_)
    refine zl_if hY (fun c2 hY => ?_) (fun c2 hY => ?_)
    · subst hY
      exact fun k hk => rfl
    · refine zl_xL hY (fun X_39 hX_39 hY => ?_)
      refine zl_if hY (fun c3 hY => ?_) (fun c3 hY => ?_)
      · subst hY
        exact fun k hk => (zul (N := 7) (by decide) hk)
      · subst hY
        exact fun k hk => ((zul (N := 7) (by decide) hk).trans (zul (N := 7) (by decide) hk))
  · refine zl_xL hY (fun X_47 hX_47 hY => ?_)
    subst hY
    exact fun k hk => rfl
theorem zl_fq_moonLine {f_tape : Nat → Int32} {f_words : Nat → Int32} {f_sky : Nat → Int32} {m_fault : Int32} {m_faultPlace : Int32} {m_stop : Int32} {m_next : Int32} {m_kind : Int32} {m_which : Int32} {m_at : Int32} {m_got : Int32} {m_moonTold : Int32} {Y : Int32 × (Int32) × (Int32) × (Int32) × (Int32) × (Int32) × (Int32) × (Int32) × (Int32) × (Nat → Int32)} (hY : Y = fq_moonLine f_tape f_words f_sky m_fault m_faultPlace m_stop m_next m_kind m_which m_at m_got m_moonTold) : (∀ k : Nat, k < 7 → Y.2.2.2.2.2.2.2.2.2 k = f_sky k) := by
  rw [fq_moonLine] at hY
  refine zl_if hY (fun c1 hY => ?_) (fun c1 hY => ?_)
  · refine zl_xL hY (fun u_3 hu_3 hY => ?_)
    refine zl_xL hY (fun X_22 hX_22 hY => ?_)
    have zX_22 := zl_fq_roundRead9 hX_22
    refine zl_if hY (fun c2 hY => ?_) (fun c2 hY => ?_)
    · subst hY
      exact fun k hk => (zX_22 k hk)
    · refine zl_xL hY (fun X_37 hX_37 hY => ?_)
      refine zl_if hY (fun c3 hY => ?_) (fun c3 hY => ?_)
      · subst hY
        exact fun k hk => (zX_22 k hk)
      · subst hY
        exact fun k hk => ((zul (N := 7) (by decide) hk).trans (zX_22 k hk))
  · refine zl_xL hY (fun X_45 hX_45 hY => ?_)
    subst hY
    exact fun k hk => rfl
theorem zl_fq_sunLine {f_tape : Nat → Int32} {f_words : Nat → Int32} {f_sky : Nat → Int32} {m_fault : Int32} {m_faultPlace : Int32} {m_stop : Int32} {m_next : Int32} {m_kind : Int32} {m_which : Int32} {m_at : Int32} {m_got : Int32} {m_sunTold : Int32} {Y : Int32 × (Int32) × (Int32) × (Int32) × (Int32) × (Int32) × (Int32) × (Int32) × (Int32) × (Nat → Int32)} (hY : Y = fq_sunLine f_tape f_words f_sky m_fault m_faultPlace m_stop m_next m_kind m_which m_at m_got m_sunTold) : (∀ k : Nat, k < 7 → Y.2.2.2.2.2.2.2.2.2 k = f_sky k) := by
  rw [fq_sunLine] at hY
  refine zl_if hY (fun c1 hY => ?_) (fun c1 hY => ?_)
  · refine zl_xL hY (fun u_3 hu_3 hY => ?_)
    refine zl_xL hY (fun X_22 hX_22 hY => ?_)
    have zX_22 := zl_fq_roundRead12 hX_22
    subst hY
    exact fun k hk => (zX_22 k hk)
  · refine zl_xL hY (fun X_28 hX_28 hY => ?_)
    subst hY
    exact fun k hk => rfl
theorem zl_fq_feastLine {f_tape : Nat → Int32} {f_words : Nat → Int32} {f_feastName : Nat → Int32} {f_first : Nat → Int32} {f_last : Nat → Int32} {f_knot : Nat → Int32} {f_part : Nat → Int32} {f_other : Nat → Int32} {f_wait : Nat → Int32} {f_held : Nat → Int32} {m_fault : Int32} {m_faultPlace : Int32} {m_stop : Int32} {m_next : Int32} {m_kind : Int32} {m_which : Int32} {m_at : Int32} {m_feastsRead : Int32} {m_knotsRead : Int32} {m_waits : Int32} {m_helds : Int32} {m_brackets : Int32} {m_counted : Int32} {m_wants : Int32} {m_mayNot : Int32} {Y : Int32 × (Nat → Int32) × (Nat → Int32) × (Nat → Int32) × (Int32) × (Int32) × (Int32) × (Int32) × (Int32) × (Int32) × (Int32) × (Int32) × (Int32) × (Int32) × (Int32) × (Int32) × (Int32) × (Int32) × (Nat → Int32) × (Nat → Int32) × (Nat → Int32) × (Nat → Int32) × (Nat → Int32)} (hY : Y = fq_feastLine f_tape f_words f_feastName f_first f_last f_knot f_part f_other f_wait f_held m_fault m_faultPlace m_stop m_next m_kind m_which m_at m_feastsRead m_knotsRead m_waits m_helds m_brackets m_counted m_wants m_mayNot) (h0 : ¬ m_feastsRead < 0) (h1 : m_feastsRead ≤ 4) : (∀ k : Nat, k < 4 → Y.2.1 k = f_first k) ∧ (∀ k : Nat, k < 4 → Y.2.2.1 k = f_last k) ∧ (∀ k : Nat, k < 4 → Y.2.2.2.1 k = f_feastName k) := by
  rw [fq_feastLine] at hY
  refine zl_if hY (fun c1 hY => ?_) (fun c1 hY => ?_)
  · refine zl_xL hY (fun X_61 hX_61 hY => ?_)
    subst hY
    exact ⟨fun k hk => rfl, fun k hk => rfl, fun k hk => rfl⟩
  · refine zl_xL hY (fun u_3 hu_3 hY => ?_)
    refine zl_xL hY (fun X_22 hX_22 hY => ?_)
    have zX_22 := zl_fq_newName8 hX_22 (by first | assumption | decide | lia) (by first | assumption | decide | lia)
    refine zl_if hY (fun c2 hY => ?_) (fun c2 hY => ?_)
    · subst hY
      exact ⟨fun k hk => rfl, fun k hk => rfl, fun k hk => (zX_22 k hk)⟩
    · refine zl_xL hY (fun X_53 hX_53 hY => ?_)
      refine zl_if hY (fun c3 hY => ?_) (fun c3 hY => ?_)
      · subst hY
        exact ⟨fun k hk => (zul (N := 4) (xi_nle (a := (4 : Int32)) (by decide) (by lia)) hk), fun k hk => rfl, fun k hk => (zX_22 k hk)⟩
      · subst hY
        exact ⟨fun k hk => (zul (N := 4) (xi_nle (a := (4 : Int32)) (by decide) (by lia)) hk), fun k hk => (zul (N := 4) (xi_nle (a := (4 : Int32)) (by decide) (by lia)) hk), fun k hk => (zX_22 k hk)⟩
theorem zl_fq_lineRead_t {f_tape : Nat → Int32} {f_words : Nat → Int32} {m_stop : Int32} {L1t : Int32} {m_fault_t : Int32} {m_faultPlace_t : Int32} {m_next_t : Int32} {m_kind_t : Int32} {m_which_t : Int32} {m_at_t : Int32} {m_got_t : Int32} {m_landsRead_t : Int32} {m_feastsRead_t : Int32} {m_peopleRead_t : Int32} {m_deedsRead_t : Int32} {m_notesRead_t : Int32} {m_knotsRead_t : Int32} {m_weekTold_t : Int32} {m_moonTold_t : Int32} {m_sunTold_t : Int32} {m_gotCount_t : Int64} {m_waits_t : Int32} {m_helds_t : Int32} {m_brackets_t : Int32} {m_counted_t : Int32} {m_wants_t : Int32} {m_mayNot_t : Int32} {f_sky_t : Nat → Int32} {f_landName_t : Nat → Int32} {f_landHas_t : Nat → Int32} {f_feastName_t : Nat → Int32} {f_first_t : Nat → Int32} {f_last_t : Nat → Int32} {f_personName_t : Nat → Int32} {f_born_t : Nat → Int64} {f_died_t : Nat → Int64} {f_deedName_t : Nat → Int32} {f_deedOn_t : Nat → Int64} {f_deedHas_t : Nat → Int32} {f_noteName_t : Nat → Int32} {f_noteHas_t : Nat → Int32} {f_knot_t : Nat → Int32} {f_part_t : Nat → Int32} {f_other_t : Nat → Int32} {f_wait_t : Nat → Int32} {f_held_t : Nat → Int32} {Y : Int32 × (Int32) × (Int32) × (Nat → Int32) × (Nat → Int32) × (Nat → Int32) × (Nat → Int32) × (Nat → Int32) × (Nat → Int32) × (Nat → Int32) × (Nat → Int64) × (Nat → Int64) × (Nat → Int32) × (Nat → Int64) × (Nat → Int32) × (Nat → Int32) × (Nat → Int32) × (Nat → Int32) × (Nat → Int32) × (Nat → Int32) × (Nat → Int32) × (Nat → Int32) × (Int32) × (Int32) × (Int32) × (Int32) × (Int32) × (Int32) × (Int32) × (Int32) × (Int32) × (Int32) × (Int32) × (Int32) × (Int32) × (Int32) × (Int64) × (Int32) × (Int32) × (Int32) × (Int32) × (Int32) × (Int32)} (hY : Y = fq_lineRead_t f_tape f_words m_stop L1t m_fault_t m_faultPlace_t m_next_t m_kind_t m_which_t m_at_t m_got_t m_landsRead_t m_feastsRead_t m_peopleRead_t m_deedsRead_t m_notesRead_t m_knotsRead_t m_weekTold_t m_moonTold_t m_sunTold_t m_gotCount_t m_waits_t m_helds_t m_brackets_t m_counted_t m_wants_t m_mayNot_t f_sky_t f_landName_t f_landHas_t f_feastName_t f_first_t f_last_t f_personName_t f_born_t f_died_t f_deedName_t f_deedOn_t f_deedHas_t f_noteName_t f_noteHas_t f_knot_t f_part_t f_other_t f_wait_t f_held_t) : (∀ k : Nat, k < 7 → Y.2.2.2.1 k = f_sky_t k) ∧ (∀ k : Nat, k < 4 → Y.2.2.2.2.1 k = f_landName_t k) ∧ (∀ k : Nat, k < 12 → Y.2.2.2.2.2.1 k = f_landHas_t k) ∧ (∀ k : Nat, k < 4 → Y.2.2.2.2.2.2.1 k = f_feastName_t k) ∧ (∀ k : Nat, k < 4 → Y.2.2.2.2.2.2.2.1 k = f_first_t k) ∧ (∀ k : Nat, k < 4 → Y.2.2.2.2.2.2.2.2.1 k = f_last_t k) ∧ (∀ k : Nat, k < 6 → Y.2.2.2.2.2.2.2.2.2.1 k = f_personName_t k) ∧ (∀ k : Nat, k < 6 → Y.2.2.2.2.2.2.2.2.2.2.1 k = f_born_t k) ∧ (∀ k : Nat, k < 6 → Y.2.2.2.2.2.2.2.2.2.2.2.1 k = f_died_t k) ∧ (∀ k : Nat, k < 4 → Y.2.2.2.2.2.2.2.2.2.2.2.2.1 k = f_deedName_t k) ∧ (∀ k : Nat, k < 4 → Y.2.2.2.2.2.2.2.2.2.2.2.2.2.1 k = f_deedOn_t k) ∧ (∀ k : Nat, k < 12 → Y.2.2.2.2.2.2.2.2.2.2.2.2.2.2.1 k = f_deedHas_t k) ∧ (∀ k : Nat, k < 6 → Y.2.2.2.2.2.2.2.2.2.2.2.2.2.2.2.1 k = f_noteName_t k) ∧ (∀ k : Nat, k < 132 → Y.2.2.2.2.2.2.2.2.2.2.2.2.2.2.2.2.1 k = f_noteHas_t k) := by
  rw [fq_lineRead_t] at hY
  refine zl_if hY (fun c1 hY => ?_) (fun c1 hY => ?_)
  · subst hY
    exact ⟨fun k hk => rfl, fun k hk => rfl, fun k hk => rfl, fun k hk => rfl, fun k hk => rfl, fun k hk => rfl, fun k hk => rfl, fun k hk => rfl, fun k hk => rfl, fun k hk => rfl, fun k hk => rfl, fun k hk => rfl, fun k hk => rfl, fun k hk => rfl⟩
  · refine zl_xL hY (fun r_11 hr_11 hY => ?_)
    refine zl_if hY (fun c2 hY => ?_) (fun c2 hY => ?_)
    · refine zl_xL hY (fun X_27 hX_27 hY => ?_)
      subst hY
      exact ⟨fun k hk => rfl, fun k hk => rfl, fun k hk => rfl, fun k hk => rfl, fun k hk => rfl, fun k hk => rfl, fun k hk => rfl, fun k hk => rfl, fun k hk => rfl, fun k hk => rfl, fun k hk => rfl, fun k hk => rfl, fun k hk => rfl, fun k hk => rfl⟩
    · refine zl_xL hY (fun u_14 hu_14 hY => ?_)
      subst hY
      exact ⟨fun k hk => rfl, fun k hk => rfl, fun k hk => rfl, fun k hk => rfl, fun k hk => rfl, fun k hk => rfl, fun k hk => rfl, fun k hk => rfl, fun k hk => rfl, fun k hk => rfl, fun k hk => rfl, fun k hk => rfl, fun k hk => rfl, fun k hk => rfl⟩
theorem zl_fq_lineRead {f_tape : Nat → Int32} {f_words : Nat → Int32} {f_sky : Nat → Int32} {f_landName : Nat → Int32} {f_landHas : Nat → Int32} {f_feastName : Nat → Int32} {f_first : Nat → Int32} {f_last : Nat → Int32} {f_personName : Nat → Int32} {f_born : Nat → Int64} {f_died : Nat → Int64} {f_deedName : Nat → Int32} {f_deedOn : Nat → Int64} {f_deedHas : Nat → Int32} {f_noteName : Nat → Int32} {f_noteHas : Nat → Int32} {f_knot : Nat → Int32} {f_part : Nat → Int32} {f_other : Nat → Int32} {f_wait : Nat → Int32} {f_held : Nat → Int32} {m_fault : Int32} {m_faultPlace : Int32} {m_stop : Int32} {m_next : Int32} {m_kind : Int32} {m_which : Int32} {m_at : Int32} {m_got : Int32} {m_landsRead : Int32} {m_feastsRead : Int32} {m_peopleRead : Int32} {m_deedsRead : Int32} {m_notesRead : Int32} {m_knotsRead : Int32} {m_weekTold : Int32} {m_moonTold : Int32} {m_sunTold : Int32} {m_gotCount : Int64} {m_waits : Int32} {m_helds : Int32} {m_brackets : Int32} {m_counted : Int32} {m_wants : Int32} {m_mayNot : Int32} {Y : Int32 × (Int32) × (Int32) × (Nat → Int32) × (Nat → Int32) × (Nat → Int32) × (Nat → Int32) × (Nat → Int32) × (Nat → Int32) × (Nat → Int32) × (Nat → Int64) × (Nat → Int64) × (Nat → Int32) × (Nat → Int64) × (Nat → Int32) × (Nat → Int32) × (Nat → Int32) × (Nat → Int32) × (Nat → Int32) × (Nat → Int32) × (Nat → Int32) × (Nat → Int32) × (Int32) × (Int32) × (Int32) × (Int32) × (Int32) × (Int32) × (Int32) × (Int32) × (Int32) × (Int32) × (Int32) × (Int32) × (Int32) × (Int32) × (Int64) × (Int32) × (Int32) × (Int32) × (Int32) × (Int32) × (Int32)} (hY : Y = fq_lineRead f_tape f_words f_sky f_landName f_landHas f_feastName f_first f_last f_personName f_born f_died f_deedName f_deedOn f_deedHas f_noteName f_noteHas f_knot f_part f_other f_wait f_held m_fault m_faultPlace m_stop m_next m_kind m_which m_at m_got m_landsRead m_feastsRead m_peopleRead m_deedsRead m_notesRead m_knotsRead m_weekTold m_moonTold m_sunTold m_gotCount m_waits m_helds m_brackets m_counted m_wants m_mayNot) (h0 : ¬ m_landsRead < 0) (h1 : m_landsRead ≤ 4) (h2 : ¬ m_feastsRead < 0) (h3 : m_feastsRead ≤ 4) (h4 : ¬ m_peopleRead < 0) (h5 : m_peopleRead ≤ 6) (h6 : ¬ m_deedsRead < 0) (h7 : m_deedsRead ≤ 4) (h8 : ¬ m_notesRead < 0) (h9 : m_notesRead ≤ 6) : (∀ k : Nat, k < 7 → Y.2.2.2.1 k = f_sky k) ∧ (∀ k : Nat, k < 4 → Y.2.2.2.2.1 k = f_landName k) ∧ (∀ k : Nat, k < 12 → Y.2.2.2.2.2.1 k = f_landHas k) ∧ (∀ k : Nat, k < 4 → Y.2.2.2.2.2.2.1 k = f_feastName k) ∧ (∀ k : Nat, k < 4 → Y.2.2.2.2.2.2.2.1 k = f_first k) ∧ (∀ k : Nat, k < 4 → Y.2.2.2.2.2.2.2.2.1 k = f_last k) ∧ (∀ k : Nat, k < 6 → Y.2.2.2.2.2.2.2.2.2.1 k = f_personName k) ∧ (∀ k : Nat, k < 6 → Y.2.2.2.2.2.2.2.2.2.2.1 k = f_born k) ∧ (∀ k : Nat, k < 6 → Y.2.2.2.2.2.2.2.2.2.2.2.1 k = f_died k) ∧ (∀ k : Nat, k < 4 → Y.2.2.2.2.2.2.2.2.2.2.2.2.1 k = f_deedName k) ∧ (∀ k : Nat, k < 4 → Y.2.2.2.2.2.2.2.2.2.2.2.2.2.1 k = f_deedOn k) ∧ (∀ k : Nat, k < 12 → Y.2.2.2.2.2.2.2.2.2.2.2.2.2.2.1 k = f_deedHas k) ∧ (∀ k : Nat, k < 6 → Y.2.2.2.2.2.2.2.2.2.2.2.2.2.2.2.1 k = f_noteName k) ∧ (∀ k : Nat, k < 132 → Y.2.2.2.2.2.2.2.2.2.2.2.2.2.2.2.2.1 k = f_noteHas k) := by
  rw [fq_lineRead] at hY
  refine zl_if hY (fun c1 hY => ?_) (fun c1 hY => ?_)
  · refine zl_if hY (fun c2 hY => ?_) (fun c2 hY => ?_)
    · refine zl_if hY (fun c3 hY => ?_) (fun c3 hY => ?_)
      · refine zl_xL hY (fun X_48 hX_48 hY => ?_)
        have zX_48 := zl_fq_landLine hX_48 (by first | assumption | decide | lia) (by first | assumption | decide | lia)
        have zT := zl_fq_lineRead_t hY
        exact ⟨fun k hk => (zT.1 k hk), fun k hk => (zT.2.1 k hk).trans (zX_48.2 k hk), fun k hk => (zT.2.2.1 k hk).trans (zX_48.1 k hk), fun k hk => (zT.2.2.2.1 k hk), fun k hk => (zT.2.2.2.2.1 k hk), fun k hk => (zT.2.2.2.2.2.1 k hk), fun k hk => (zT.2.2.2.2.2.2.1 k hk), fun k hk => (zT.2.2.2.2.2.2.2.1 k hk), fun k hk => (zT.2.2.2.2.2.2.2.2.1 k hk), fun k hk => (zT.2.2.2.2.2.2.2.2.2.1 k hk), fun k hk => (zT.2.2.2.2.2.2.2.2.2.2.1 k hk), fun k hk => (zT.2.2.2.2.2.2.2.2.2.2.2.1 k hk), fun k hk => (zT.2.2.2.2.2.2.2.2.2.2.2.2.1 k hk), fun k hk => (zT.2.2.2.2.2.2.2.2.2.2.2.2.2 k hk)⟩
      · refine zl_if hY (fun c4 hY => ?_) (fun c4 hY => ?_)
        · refine zl_xL hY (fun X_86 hX_86 hY => ?_)
          have zX_86 := zl_fq_feastLine hX_86 (by first | assumption | decide | lia) (by first | assumption | decide | lia)
          have zT := zl_fq_lineRead_t hY
          exact ⟨fun k hk => (zT.1 k hk), fun k hk => (zT.2.1 k hk), fun k hk => (zT.2.2.1 k hk), fun k hk => (zT.2.2.2.1 k hk).trans (zX_86.2.2 k hk), fun k hk => (zT.2.2.2.2.1 k hk).trans (zX_86.1 k hk), fun k hk => (zT.2.2.2.2.2.1 k hk).trans (zX_86.2.1 k hk), fun k hk => (zT.2.2.2.2.2.2.1 k hk), fun k hk => (zT.2.2.2.2.2.2.2.1 k hk), fun k hk => (zT.2.2.2.2.2.2.2.2.1 k hk), fun k hk => (zT.2.2.2.2.2.2.2.2.2.1 k hk), fun k hk => (zT.2.2.2.2.2.2.2.2.2.2.1 k hk), fun k hk => (zT.2.2.2.2.2.2.2.2.2.2.2.1 k hk), fun k hk => (zT.2.2.2.2.2.2.2.2.2.2.2.2.1 k hk), fun k hk => (zT.2.2.2.2.2.2.2.2.2.2.2.2.2 k hk)⟩
        · refine zl_if hY (fun c5 hY => ?_) (fun c5 hY => ?_)
          · refine zl_xL hY (fun X_109 hX_109 hY => ?_)
            have zX_109 := zl_fq_personLine hX_109 (by first | assumption | decide | lia) (by first | assumption | decide | lia)
            have zT := zl_fq_lineRead_t hY
            exact ⟨fun k hk => (zT.1 k hk), fun k hk => (zT.2.1 k hk), fun k hk => (zT.2.2.1 k hk), fun k hk => (zT.2.2.2.1 k hk), fun k hk => (zT.2.2.2.2.1 k hk), fun k hk => (zT.2.2.2.2.2.1 k hk), fun k hk => (zT.2.2.2.2.2.2.1 k hk).trans (zX_109.1 k hk), fun k hk => (zT.2.2.2.2.2.2.2.1 k hk).trans (zX_109.2.1 k hk), fun k hk => (zT.2.2.2.2.2.2.2.2.1 k hk).trans (zX_109.2.2 k hk), fun k hk => (zT.2.2.2.2.2.2.2.2.2.1 k hk), fun k hk => (zT.2.2.2.2.2.2.2.2.2.2.1 k hk), fun k hk => (zT.2.2.2.2.2.2.2.2.2.2.2.1 k hk), fun k hk => (zT.2.2.2.2.2.2.2.2.2.2.2.2.1 k hk), fun k hk => (zT.2.2.2.2.2.2.2.2.2.2.2.2.2 k hk)⟩
          · refine zl_if hY (fun c6 hY => ?_) (fun c6 hY => ?_)
            · refine zl_xL hY (fun X_133 hX_133 hY => ?_)
              have zX_133 := zl_fq_deedLine hX_133 (by first | assumption | decide | lia) (by first | assumption | decide | lia)
              have zT := zl_fq_lineRead_t hY
              exact ⟨fun k hk => (zT.1 k hk), fun k hk => (zT.2.1 k hk), fun k hk => (zT.2.2.1 k hk), fun k hk => (zT.2.2.2.1 k hk), fun k hk => (zT.2.2.2.2.1 k hk), fun k hk => (zT.2.2.2.2.2.1 k hk), fun k hk => (zT.2.2.2.2.2.2.1 k hk), fun k hk => (zT.2.2.2.2.2.2.2.1 k hk), fun k hk => (zT.2.2.2.2.2.2.2.2.1 k hk), fun k hk => (zT.2.2.2.2.2.2.2.2.2.1 k hk).trans (zX_133.1 k hk), fun k hk => (zT.2.2.2.2.2.2.2.2.2.2.1 k hk).trans (zX_133.2.1 k hk), fun k hk => (zT.2.2.2.2.2.2.2.2.2.2.2.1 k hk).trans (zX_133.2.2 k hk), fun k hk => (zT.2.2.2.2.2.2.2.2.2.2.2.2.1 k hk), fun k hk => (zT.2.2.2.2.2.2.2.2.2.2.2.2.2 k hk)⟩
            · refine zl_if hY (fun c7 hY => ?_) (fun c7 hY => ?_)
              · refine zl_xL hY (fun X_154 hX_154 hY => ?_)
                have zX_154 := zl_fq_noteLine hX_154 (by first | assumption | decide | lia) (by first | assumption | decide | lia)
                have zT := zl_fq_lineRead_t hY
                exact ⟨fun k hk => (zT.1 k hk), fun k hk => (zT.2.1 k hk), fun k hk => (zT.2.2.1 k hk), fun k hk => (zT.2.2.2.1 k hk), fun k hk => (zT.2.2.2.2.1 k hk), fun k hk => (zT.2.2.2.2.2.1 k hk), fun k hk => (zT.2.2.2.2.2.2.1 k hk), fun k hk => (zT.2.2.2.2.2.2.2.1 k hk), fun k hk => (zT.2.2.2.2.2.2.2.2.1 k hk), fun k hk => (zT.2.2.2.2.2.2.2.2.2.1 k hk), fun k hk => (zT.2.2.2.2.2.2.2.2.2.2.1 k hk), fun k hk => (zT.2.2.2.2.2.2.2.2.2.2.2.1 k hk), fun k hk => (zT.2.2.2.2.2.2.2.2.2.2.2.2.1 k hk).trans (zX_154.1 k hk), fun k hk => (zT.2.2.2.2.2.2.2.2.2.2.2.2.2 k hk).trans (zX_154.2 k hk)⟩
              · refine zl_if hY (fun c8 hY => ?_) (fun c8 hY => ?_)
                · refine zl_xL hY (fun X_174 hX_174 hY => ?_)
                  have zX_174 := zl_fq_sunLine hX_174
                  have zT := zl_fq_lineRead_t hY
                  exact ⟨fun k hk => (zT.1 k hk).trans (zX_174 k hk), fun k hk => (zT.2.1 k hk), fun k hk => (zT.2.2.1 k hk), fun k hk => (zT.2.2.2.1 k hk), fun k hk => (zT.2.2.2.2.1 k hk), fun k hk => (zT.2.2.2.2.2.1 k hk), fun k hk => (zT.2.2.2.2.2.2.1 k hk), fun k hk => (zT.2.2.2.2.2.2.2.1 k hk), fun k hk => (zT.2.2.2.2.2.2.2.2.1 k hk), fun k hk => (zT.2.2.2.2.2.2.2.2.2.1 k hk), fun k hk => (zT.2.2.2.2.2.2.2.2.2.2.1 k hk), fun k hk => (zT.2.2.2.2.2.2.2.2.2.2.2.1 k hk), fun k hk => (zT.2.2.2.2.2.2.2.2.2.2.2.2.1 k hk), fun k hk => (zT.2.2.2.2.2.2.2.2.2.2.2.2.2 k hk)⟩
                · refine zl_if hY (fun c9 hY => ?_) (fun c9 hY => ?_)
                  · refine zl_xL hY (fun X_194 hX_194 hY => ?_)
                    have zX_194 := zl_fq_weekLine hX_194
                    have zT := zl_fq_lineRead_t hY
                    exact ⟨fun k hk => (zT.1 k hk).trans (zX_194 k hk), fun k hk => (zT.2.1 k hk), fun k hk => (zT.2.2.1 k hk), fun k hk => (zT.2.2.2.1 k hk), fun k hk => (zT.2.2.2.2.1 k hk), fun k hk => (zT.2.2.2.2.2.1 k hk), fun k hk => (zT.2.2.2.2.2.2.1 k hk), fun k hk => (zT.2.2.2.2.2.2.2.1 k hk), fun k hk => (zT.2.2.2.2.2.2.2.2.1 k hk), fun k hk => (zT.2.2.2.2.2.2.2.2.2.1 k hk), fun k hk => (zT.2.2.2.2.2.2.2.2.2.2.1 k hk), fun k hk => (zT.2.2.2.2.2.2.2.2.2.2.2.1 k hk), fun k hk => (zT.2.2.2.2.2.2.2.2.2.2.2.2.1 k hk), fun k hk => (zT.2.2.2.2.2.2.2.2.2.2.2.2.2 k hk)⟩
                  · refine zl_xL hY (fun X_213 hX_213 hY => ?_)
                    have zX_213 := zl_fq_moonLine hX_213
                    have zT := zl_fq_lineRead_t hY
                    exact ⟨fun k hk => (zT.1 k hk).trans (zX_213 k hk), fun k hk => (zT.2.1 k hk), fun k hk => (zT.2.2.1 k hk), fun k hk => (zT.2.2.2.1 k hk), fun k hk => (zT.2.2.2.2.1 k hk), fun k hk => (zT.2.2.2.2.2.1 k hk), fun k hk => (zT.2.2.2.2.2.2.1 k hk), fun k hk => (zT.2.2.2.2.2.2.2.1 k hk), fun k hk => (zT.2.2.2.2.2.2.2.2.1 k hk), fun k hk => (zT.2.2.2.2.2.2.2.2.2.1 k hk), fun k hk => (zT.2.2.2.2.2.2.2.2.2.2.1 k hk), fun k hk => (zT.2.2.2.2.2.2.2.2.2.2.2.1 k hk), fun k hk => (zT.2.2.2.2.2.2.2.2.2.2.2.2.1 k hk), fun k hk => (zT.2.2.2.2.2.2.2.2.2.2.2.2.2 k hk)⟩
    · refine zl_xL hY (fun X_219 hX_219 hY => ?_)
      subst hY
      exact ⟨fun k hk => rfl, fun k hk => rfl, fun k hk => rfl, fun k hk => rfl, fun k hk => rfl, fun k hk => rfl, fun k hk => rfl, fun k hk => rfl, fun k hk => rfl, fun k hk => rfl, fun k hk => rfl, fun k hk => rfl, fun k hk => rfl, fun k hk => rfl⟩
  · refine zl_xL hY (fun X_7 hX_7 hY => ?_)
    subst hY
    exact ⟨fun k hk => rfl, fun k hk => rfl, fun k hk => rfl, fun k hk => rfl, fun k hk => rfl, fun k hk => rfl, fun k hk => rfl, fun k hk => rfl, fun k hk => rfl, fun k hk => rfl, fun k hk => rfl, fun k hk => rfl, fun k hk => rfl, fun k hk => rfl⟩
