set_option maxRecDepth 100000 in
theorem xKeep {fsky fln flh ffn ff fl fpn : Nat → Int32} {fb fd : Nat → Int64} {fdn : Nat → Int32} {fdo : Nat → Int64} {fdh fnn fnh fk fp fo : Nat → Int32} {lr fr pr dr nr kr : Int32} {u : (Int32) × (Int32) × (Int32) × (Int32) × (Int32) × (Int32) × (Int32) × (Int32) × (Int32) × (Int32) × (Nat → Int32) × (Nat → Int32) × (Nat → Int32) × (Nat → Int32) × (Nat → Int32) × (Nat → Int32) × (Nat → Int32) × (Nat → Int64) × (Nat → Int64) × (Nat → Int32) × (Nat → Int64) × (Nat → Int32) × (Nat → Int32) × (Nat → Int32) × (Nat → Int32) × (Nat → Int32) × (Nat → Int32)}
    (hu : u = fq_keepText fsky fln flh ffn ff fl fpn fb fd fdn fdo fdh fnn fnh fk fp fo lr fr pr dr nr kr) (l0 : ¬ lr < 0) (l4 : lr ≤ 4) (f0 : ¬ fr < 0) (f4 : fr ≤ 4) (p0 : ¬ pr < 0) (p6 : pr ≤ 6) (d0 : ¬ dr < 0) (d4 : dr ≤ 4) (n0 : ¬ nr < 0) (n6 : nr ≤ 6)
    (hLZ : xLZ flh lr) (hSK : xSK fsky) (hFA : xFA ff fl fr) (hBO : xBO fb pr) (hDE : xDE fdo fdh dr fr) (hNA : xNA fnh nr pr fr) (hKu : xKU fk fp fo) : xLow u.1 u.2.1 u.2.2.1 u.2.2.2.1 u.2.2.2.2.1 u.2.2.2.2.2.2.1 u.2.2.2.2.2.2.2.2.2.2.2.2.1 u.2.2.2.2.2.2.2.2.2.2.1 u.2.2.2.2.2.2.2.2.2.2.2.2.2.2.1 u.2.2.2.2.2.2.2.2.2.2.2.2.2.2.2.1 u.2.2.2.2.2.2.2.2.2.2.2.2.2.2.2.2.2.2.2.2.2.2.2.2.1 u.2.2.2.2.2.2.2.2.2.2.2.2.2.2.2.2.2.2.2.2.2.2.2.2.2.1 u.2.2.2.2.2.2.2.2.2.2.2.2.2.2.2.2.2.2.2.2.2.2.2.2.2.2 u.2.2.2.2.2.2.2.2.2.2.2.2.2.2.2.2.2.1 u.2.2.2.2.2.2.2.2.2.2.2.2.2.2.2.2.2.2.2.2.1 u.2.2.2.2.2.2.2.2.2.2.2.2.2.2.2.2.2.2.2.2.2.1 u.2.2.2.2.2.2.2.2.2.2.2.2.2.2.2.2.2.2.2.2.2.2.2.1 ∧ xKU u.2.2.2.2.2.2.2.2.2.2.2.2.2.2.2.2.2.2.2.2.2.2.2.2.1 u.2.2.2.2.2.2.2.2.2.2.2.2.2.2.2.2.2.2.2.2.2.2.2.2.2.1 u.2.2.2.2.2.2.2.2.2.2.2.2.2.2.2.2.2.2.2.2.2.2.2.2.2.2 := by
  subst hu
  exact ⟨⟨⟨l0, l4⟩, ⟨f0, f4⟩, ⟨p0, p6⟩, ⟨d0, d4⟩, ⟨n0, (show nr ≤ 12 from by lia)⟩, ⟨n0, n6⟩, xKp_LZ l0 l4 hLZ, xKp_SK hSK, xKp_FA f0 f4 hFA, xKp_K hKu, xKp_BO p0 p6 hBO, xKp_DE d0 d4 hDE, xKp_NA n0 n6 hNA⟩, xKp_KU hKu⟩

def fq_text_d (f_tape : Nat → Int32) (f_words : Nat → Int32) (a0 : Int32) (m_lands : Int32) (m_feasts : Int32) (m_people : Int32) (m_deeds : Int32) (m_notes : Int32) (m_knots : Int32) (m_named1 : Int32) (m_undos : Int32) (m_tolds : Int32) (m_hasImage : Int32) : Nat → (Int32) → (Int32) → (Int32) → (Int32) → (Int32) → (Int32) → (Int32) → (Int32) → (Int32) → (Int32) → (Int32) → (Int32) → (Int32) → (Int32) → (Int32) → (Int32) → (Int32) → (Int64) → (Int32) → (Int32) → (Int32) → (Int32) → (Int32) → (Int32) → (Nat → Int32) → (Nat → Int32) → (Nat → Int32) → (Nat → Int32) → (Nat → Int32) → (Nat → Int32) → (Nat → Int32) → (Nat → Int64) → (Nat → Int64) → (Nat → Int32) → (Nat → Int64) → (Nat → Int32) → (Nat → Int32) → (Nat → Int32) → (Nat → Int32) → (Nat → Int32) → (Nat → Int32) → (Nat → Int32) → (Nat → Int32) → Int32 × (Int32) × (Int32) × (Int32) × (Int32) × (Int32) × (Int32) × (Int32) × (Int32) × (Int32) × (Int32) × (Int32) × (Int32) × (Int32) × (Int32) × (Int32) × (Int32) × (Int32) × (Int32) × (Int32) × (Int32) × (Int32) × (Int32) × (Int32) × (Int32) × (Int32) × (Int32) × (Int32) × (Int32) × (Int32) × (Nat → Int32) × (Nat → Int32) × (Nat → Int32) × (Nat → Int32) × (Nat → Int32) × (Nat → Int32) × (Nat → Int32) × (Nat → Int64) × (Nat → Int64) × (Nat → Int32) × (Nat → Int64) × (Nat → Int32) × (Nat → Int32) × (Nat → Int32) × (Nat → Int32) × (Nat → Int32) × (Nat → Int32) × (Int32) × (Int64) × (Int32) × (Int32) × (Int32) × (Int32) × (Int32) × (Nat → Int32) × (Nat → Int32)
  | 0, L2d, m_fault_d, m_faultPlace_d, m_next_d, m_kind_d, m_which_d, m_at_d, m_got_d, m_landsRead_d, m_feastsRead_d, m_peopleRead_d, m_deedsRead_d, m_notesRead_d, m_knotsRead_d, m_weekTold_d, m_moonTold_d, m_sunTold_d, m_gotCount_d, m_waits_d, m_helds_d, m_brackets_d, m_counted_d, m_wants_d, m_mayNot_d, f_sky_d, f_landName_d, f_landHas_d, f_feastName_d, f_first_d, f_last_d, f_personName_d, f_born_d, f_died_d, f_deedName_d, f_deedOn_d, f_deedHas_d, f_noteName_d, f_noteHas_d, f_knot_d, f_part_d, f_other_d, f_wait_d, f_held_d => (if m_kind_d = 0 then (xL ((fq_keepText f_sky_d f_landName_d f_landHas_d f_feastName_d f_first_d f_last_d f_personName_d f_born_d f_died_d f_deedName_d f_deedOn_d f_deedHas_d f_noteName_d f_noteHas_d f_knot_d f_part_d f_other_d m_landsRead_d m_feastsRead_d m_peopleRead_d m_deedsRead_d m_notesRead_d m_knotsRead_d)) (fun u_28 => (L2d, (0 : Int32), (0 : Int32), m_fault_d, m_faultPlace_d, a0, m_next_d, m_kind_d, m_which_d, m_at_d, u_28.1, u_28.2.1, u_28.2.2.1, u_28.2.2.2.1, u_28.2.2.2.2.1, u_28.2.2.2.2.2.1, m_landsRead_d, m_feastsRead_d, m_peopleRead_d, m_deedsRead_d, m_notesRead_d, m_knotsRead_d, m_weekTold_d, m_moonTold_d, m_sunTold_d, m_counted_d, u_28.2.2.2.2.2.2.1, u_28.2.2.2.2.2.2.2.1, u_28.2.2.2.2.2.2.2.2.1, u_28.2.2.2.2.2.2.2.2.2.1, u_28.2.2.2.2.2.2.2.2.2.2.1, u_28.2.2.2.2.2.2.2.2.2.2.2.1, u_28.2.2.2.2.2.2.2.2.2.2.2.2.1, u_28.2.2.2.2.2.2.2.2.2.2.2.2.2.1, u_28.2.2.2.2.2.2.2.2.2.2.2.2.2.2.1, u_28.2.2.2.2.2.2.2.2.2.2.2.2.2.2.2.1, u_28.2.2.2.2.2.2.2.2.2.2.2.2.2.2.2.2.1, u_28.2.2.2.2.2.2.2.2.2.2.2.2.2.2.2.2.2.1, u_28.2.2.2.2.2.2.2.2.2.2.2.2.2.2.2.2.2.2.1, u_28.2.2.2.2.2.2.2.2.2.2.2.2.2.2.2.2.2.2.2.1, u_28.2.2.2.2.2.2.2.2.2.2.2.2.2.2.2.2.2.2.2.2.1, u_28.2.2.2.2.2.2.2.2.2.2.2.2.2.2.2.2.2.2.2.2.2.1, u_28.2.2.2.2.2.2.2.2.2.2.2.2.2.2.2.2.2.2.2.2.2.2.1, u_28.2.2.2.2.2.2.2.2.2.2.2.2.2.2.2.2.2.2.2.2.2.2.2.1, u_28.2.2.2.2.2.2.2.2.2.2.2.2.2.2.2.2.2.2.2.2.2.2.2.2.1, u_28.2.2.2.2.2.2.2.2.2.2.2.2.2.2.2.2.2.2.2.2.2.2.2.2.2.1, u_28.2.2.2.2.2.2.2.2.2.2.2.2.2.2.2.2.2.2.2.2.2.2.2.2.2.2, m_got_d, m_gotCount_d, m_waits_d, m_helds_d, m_brackets_d, m_wants_d, m_mayNot_d, f_wait_d, f_held_d))) else (xL ((fq_lineRead f_tape f_words f_sky_d f_landName_d f_landHas_d f_feastName_d f_first_d f_last_d f_personName_d f_born_d f_died_d f_deedName_d f_deedOn_d f_deedHas_d f_noteName_d f_noteHas_d f_knot_d f_part_d f_other_d f_wait_d f_held_d m_fault_d m_faultPlace_d a0 m_next_d m_kind_d m_which_d m_at_d m_got_d m_landsRead_d m_feastsRead_d m_peopleRead_d m_deedsRead_d m_notesRead_d m_knotsRead_d m_weekTold_d m_moonTold_d m_sunTold_d m_gotCount_d m_waits_d m_helds_d m_brackets_d m_counted_d m_wants_d m_mayNot_d)) (fun X_132 => ((-1 : Int32), (0 : Int32), (0 : Int32), X_132.2.1, X_132.2.2.1, a0, X_132.2.2.2.2.2.2.2.2.2.2.2.2.2.2.2.2.2.2.2.2.2.2.1, X_132.2.2.2.2.2.2.2.2.2.2.2.2.2.2.2.2.2.2.2.2.2.2.2.1, X_132.2.2.2.2.2.2.2.2.2.2.2.2.2.2.2.2.2.2.2.2.2.2.2.2.1, X_132.2.2.2.2.2.2.2.2.2.2.2.2.2.2.2.2.2.2.2.2.2.2.2.2.2.1, m_lands, m_feasts, m_people, m_deeds, m_notes, m_knots, X_132.2.2.2.2.2.2.2.2.2.2.2.2.2.2.2.2.2.2.2.2.2.2.2.2.2.2.2.1, X_132.2.2.2.2.2.2.2.2.2.2.2.2.2.2.2.2.2.2.2.2.2.2.2.2.2.2.2.2.1, X_132.2.2.2.2.2.2.2.2.2.2.2.2.2.2.2.2.2.2.2.2.2.2.2.2.2.2.2.2.2.1, X_132.2.2.2.2.2.2.2.2.2.2.2.2.2.2.2.2.2.2.2.2.2.2.2.2.2.2.2.2.2.2.1, X_132.2.2.2.2.2.2.2.2.2.2.2.2.2.2.2.2.2.2.2.2.2.2.2.2.2.2.2.2.2.2.2.1, X_132.2.2.2.2.2.2.2.2.2.2.2.2.2.2.2.2.2.2.2.2.2.2.2.2.2.2.2.2.2.2.2.2.1, X_132.2.2.2.2.2.2.2.2.2.2.2.2.2.2.2.2.2.2.2.2.2.2.2.2.2.2.2.2.2.2.2.2.2.1, X_132.2.2.2.2.2.2.2.2.2.2.2.2.2.2.2.2.2.2.2.2.2.2.2.2.2.2.2.2.2.2.2.2.2.2.1, X_132.2.2.2.2.2.2.2.2.2.2.2.2.2.2.2.2.2.2.2.2.2.2.2.2.2.2.2.2.2.2.2.2.2.2.2.1, X_132.2.2.2.2.2.2.2.2.2.2.2.2.2.2.2.2.2.2.2.2.2.2.2.2.2.2.2.2.2.2.2.2.2.2.2.2.2.2.2.2.1, m_named1, m_undos, m_tolds, m_hasImage, X_132.2.2.2.1, X_132.2.2.2.2.1, X_132.2.2.2.2.2.1, X_132.2.2.2.2.2.2.1, X_132.2.2.2.2.2.2.2.1, X_132.2.2.2.2.2.2.2.2.1, X_132.2.2.2.2.2.2.2.2.2.1, X_132.2.2.2.2.2.2.2.2.2.2.1, X_132.2.2.2.2.2.2.2.2.2.2.2.1, X_132.2.2.2.2.2.2.2.2.2.2.2.2.1, X_132.2.2.2.2.2.2.2.2.2.2.2.2.2.1, X_132.2.2.2.2.2.2.2.2.2.2.2.2.2.2.1, X_132.2.2.2.2.2.2.2.2.2.2.2.2.2.2.2.1, X_132.2.2.2.2.2.2.2.2.2.2.2.2.2.2.2.2.1, X_132.2.2.2.2.2.2.2.2.2.2.2.2.2.2.2.2.2.1, X_132.2.2.2.2.2.2.2.2.2.2.2.2.2.2.2.2.2.2.1, X_132.2.2.2.2.2.2.2.2.2.2.2.2.2.2.2.2.2.2.2.1, X_132.2.2.2.2.2.2.2.2.2.2.2.2.2.2.2.2.2.2.2.2.2.2.2.2.2.2.1, X_132.2.2.2.2.2.2.2.2.2.2.2.2.2.2.2.2.2.2.2.2.2.2.2.2.2.2.2.2.2.2.2.2.2.2.2.2.1, X_132.2.2.2.2.2.2.2.2.2.2.2.2.2.2.2.2.2.2.2.2.2.2.2.2.2.2.2.2.2.2.2.2.2.2.2.2.2.1, X_132.2.2.2.2.2.2.2.2.2.2.2.2.2.2.2.2.2.2.2.2.2.2.2.2.2.2.2.2.2.2.2.2.2.2.2.2.2.2.1, X_132.2.2.2.2.2.2.2.2.2.2.2.2.2.2.2.2.2.2.2.2.2.2.2.2.2.2.2.2.2.2.2.2.2.2.2.2.2.2.2.1, X_132.2.2.2.2.2.2.2.2.2.2.2.2.2.2.2.2.2.2.2.2.2.2.2.2.2.2.2.2.2.2.2.2.2.2.2.2.2.2.2.2.2.1, X_132.2.2.2.2.2.2.2.2.2.2.2.2.2.2.2.2.2.2.2.2.2.2.2.2.2.2.2.2.2.2.2.2.2.2.2.2.2.2.2.2.2.2, X_132.2.2.2.2.2.2.2.2.2.2.2.2.2.2.2.2.2.2.2.2.1, X_132.2.2.2.2.2.2.2.2.2.2.2.2.2.2.2.2.2.2.2.2.2.1))))
  | n + 1, L2d, m_fault_d, m_faultPlace_d, m_next_d, m_kind_d, m_which_d, m_at_d, m_got_d, m_landsRead_d, m_feastsRead_d, m_peopleRead_d, m_deedsRead_d, m_notesRead_d, m_knotsRead_d, m_weekTold_d, m_moonTold_d, m_sunTold_d, m_gotCount_d, m_waits_d, m_helds_d, m_brackets_d, m_counted_d, m_wants_d, m_mayNot_d, f_sky_d, f_landName_d, f_landHas_d, f_feastName_d, f_first_d, f_last_d, f_personName_d, f_born_d, f_died_d, f_deedName_d, f_deedOn_d, f_deedHas_d, f_noteName_d, f_noteHas_d, f_knot_d, f_part_d, f_other_d, f_wait_d, f_held_d => (if m_kind_d = 0 then (xL ((fq_keepText f_sky_d f_landName_d f_landHas_d f_feastName_d f_first_d f_last_d f_personName_d f_born_d f_died_d f_deedName_d f_deedOn_d f_deedHas_d f_noteName_d f_noteHas_d f_knot_d f_part_d f_other_d m_landsRead_d m_feastsRead_d m_peopleRead_d m_deedsRead_d m_notesRead_d m_knotsRead_d)) (fun u_136 => (L2d, (0 : Int32), (0 : Int32), m_fault_d, m_faultPlace_d, a0, m_next_d, m_kind_d, m_which_d, m_at_d, u_136.1, u_136.2.1, u_136.2.2.1, u_136.2.2.2.1, u_136.2.2.2.2.1, u_136.2.2.2.2.2.1, m_landsRead_d, m_feastsRead_d, m_peopleRead_d, m_deedsRead_d, m_notesRead_d, m_knotsRead_d, m_weekTold_d, m_moonTold_d, m_sunTold_d, m_counted_d, u_136.2.2.2.2.2.2.1, u_136.2.2.2.2.2.2.2.1, u_136.2.2.2.2.2.2.2.2.1, u_136.2.2.2.2.2.2.2.2.2.1, u_136.2.2.2.2.2.2.2.2.2.2.1, u_136.2.2.2.2.2.2.2.2.2.2.2.1, u_136.2.2.2.2.2.2.2.2.2.2.2.2.1, u_136.2.2.2.2.2.2.2.2.2.2.2.2.2.1, u_136.2.2.2.2.2.2.2.2.2.2.2.2.2.2.1, u_136.2.2.2.2.2.2.2.2.2.2.2.2.2.2.2.1, u_136.2.2.2.2.2.2.2.2.2.2.2.2.2.2.2.2.1, u_136.2.2.2.2.2.2.2.2.2.2.2.2.2.2.2.2.2.1, u_136.2.2.2.2.2.2.2.2.2.2.2.2.2.2.2.2.2.2.1, u_136.2.2.2.2.2.2.2.2.2.2.2.2.2.2.2.2.2.2.2.1, u_136.2.2.2.2.2.2.2.2.2.2.2.2.2.2.2.2.2.2.2.2.1, u_136.2.2.2.2.2.2.2.2.2.2.2.2.2.2.2.2.2.2.2.2.2.1, u_136.2.2.2.2.2.2.2.2.2.2.2.2.2.2.2.2.2.2.2.2.2.2.1, u_136.2.2.2.2.2.2.2.2.2.2.2.2.2.2.2.2.2.2.2.2.2.2.2.1, u_136.2.2.2.2.2.2.2.2.2.2.2.2.2.2.2.2.2.2.2.2.2.2.2.2.1, u_136.2.2.2.2.2.2.2.2.2.2.2.2.2.2.2.2.2.2.2.2.2.2.2.2.2.1, u_136.2.2.2.2.2.2.2.2.2.2.2.2.2.2.2.2.2.2.2.2.2.2.2.2.2.2, m_got_d, m_gotCount_d, m_waits_d, m_helds_d, m_brackets_d, m_wants_d, m_mayNot_d, f_wait_d, f_held_d))) else (xL ((fq_lineRead f_tape f_words f_sky_d f_landName_d f_landHas_d f_feastName_d f_first_d f_last_d f_personName_d f_born_d f_died_d f_deedName_d f_deedOn_d f_deedHas_d f_noteName_d f_noteHas_d f_knot_d f_part_d f_other_d f_wait_d f_held_d m_fault_d m_faultPlace_d a0 m_next_d m_kind_d m_which_d m_at_d m_got_d m_landsRead_d m_feastsRead_d m_peopleRead_d m_deedsRead_d m_notesRead_d m_knotsRead_d m_weekTold_d m_moonTold_d m_sunTold_d m_gotCount_d m_waits_d m_helds_d m_brackets_d m_counted_d m_wants_d m_mayNot_d)) (fun X_240 => (if X_240.1 = 0 then ((-1 : Int32), (0 : Int32), (0 : Int32), X_240.2.1, X_240.2.2.1, a0, X_240.2.2.2.2.2.2.2.2.2.2.2.2.2.2.2.2.2.2.2.2.2.2.1, X_240.2.2.2.2.2.2.2.2.2.2.2.2.2.2.2.2.2.2.2.2.2.2.2.1, X_240.2.2.2.2.2.2.2.2.2.2.2.2.2.2.2.2.2.2.2.2.2.2.2.2.1, X_240.2.2.2.2.2.2.2.2.2.2.2.2.2.2.2.2.2.2.2.2.2.2.2.2.2.1, m_lands, m_feasts, m_people, m_deeds, m_notes, m_knots, X_240.2.2.2.2.2.2.2.2.2.2.2.2.2.2.2.2.2.2.2.2.2.2.2.2.2.2.2.1, X_240.2.2.2.2.2.2.2.2.2.2.2.2.2.2.2.2.2.2.2.2.2.2.2.2.2.2.2.2.1, X_240.2.2.2.2.2.2.2.2.2.2.2.2.2.2.2.2.2.2.2.2.2.2.2.2.2.2.2.2.2.1, X_240.2.2.2.2.2.2.2.2.2.2.2.2.2.2.2.2.2.2.2.2.2.2.2.2.2.2.2.2.2.2.1, X_240.2.2.2.2.2.2.2.2.2.2.2.2.2.2.2.2.2.2.2.2.2.2.2.2.2.2.2.2.2.2.2.1, X_240.2.2.2.2.2.2.2.2.2.2.2.2.2.2.2.2.2.2.2.2.2.2.2.2.2.2.2.2.2.2.2.2.1, X_240.2.2.2.2.2.2.2.2.2.2.2.2.2.2.2.2.2.2.2.2.2.2.2.2.2.2.2.2.2.2.2.2.2.1, X_240.2.2.2.2.2.2.2.2.2.2.2.2.2.2.2.2.2.2.2.2.2.2.2.2.2.2.2.2.2.2.2.2.2.2.1, X_240.2.2.2.2.2.2.2.2.2.2.2.2.2.2.2.2.2.2.2.2.2.2.2.2.2.2.2.2.2.2.2.2.2.2.2.1, X_240.2.2.2.2.2.2.2.2.2.2.2.2.2.2.2.2.2.2.2.2.2.2.2.2.2.2.2.2.2.2.2.2.2.2.2.2.2.2.2.2.1, m_named1, m_undos, m_tolds, m_hasImage, X_240.2.2.2.1, X_240.2.2.2.2.1, X_240.2.2.2.2.2.1, X_240.2.2.2.2.2.2.1, X_240.2.2.2.2.2.2.2.1, X_240.2.2.2.2.2.2.2.2.1, X_240.2.2.2.2.2.2.2.2.2.1, X_240.2.2.2.2.2.2.2.2.2.2.1, X_240.2.2.2.2.2.2.2.2.2.2.2.1, X_240.2.2.2.2.2.2.2.2.2.2.2.2.1, X_240.2.2.2.2.2.2.2.2.2.2.2.2.2.1, X_240.2.2.2.2.2.2.2.2.2.2.2.2.2.2.1, X_240.2.2.2.2.2.2.2.2.2.2.2.2.2.2.2.1, X_240.2.2.2.2.2.2.2.2.2.2.2.2.2.2.2.2.1, X_240.2.2.2.2.2.2.2.2.2.2.2.2.2.2.2.2.2.1, X_240.2.2.2.2.2.2.2.2.2.2.2.2.2.2.2.2.2.2.1, X_240.2.2.2.2.2.2.2.2.2.2.2.2.2.2.2.2.2.2.2.1, X_240.2.2.2.2.2.2.2.2.2.2.2.2.2.2.2.2.2.2.2.2.2.2.2.2.2.2.1, X_240.2.2.2.2.2.2.2.2.2.2.2.2.2.2.2.2.2.2.2.2.2.2.2.2.2.2.2.2.2.2.2.2.2.2.2.2.1, X_240.2.2.2.2.2.2.2.2.2.2.2.2.2.2.2.2.2.2.2.2.2.2.2.2.2.2.2.2.2.2.2.2.2.2.2.2.2.1, X_240.2.2.2.2.2.2.2.2.2.2.2.2.2.2.2.2.2.2.2.2.2.2.2.2.2.2.2.2.2.2.2.2.2.2.2.2.2.2.1, X_240.2.2.2.2.2.2.2.2.2.2.2.2.2.2.2.2.2.2.2.2.2.2.2.2.2.2.2.2.2.2.2.2.2.2.2.2.2.2.2.1, X_240.2.2.2.2.2.2.2.2.2.2.2.2.2.2.2.2.2.2.2.2.2.2.2.2.2.2.2.2.2.2.2.2.2.2.2.2.2.2.2.2.2.1, X_240.2.2.2.2.2.2.2.2.2.2.2.2.2.2.2.2.2.2.2.2.2.2.2.2.2.2.2.2.2.2.2.2.2.2.2.2.2.2.2.2.2.2, X_240.2.2.2.2.2.2.2.2.2.2.2.2.2.2.2.2.2.2.2.2.1, X_240.2.2.2.2.2.2.2.2.2.2.2.2.2.2.2.2.2.2.2.2.2.1) else fq_text_d f_tape f_words a0 m_lands m_feasts m_people m_deeds m_notes m_knots m_named1 m_undos m_tolds m_hasImage n (L2d + 1) X_240.2.1 X_240.2.2.1 X_240.2.2.2.2.2.2.2.2.2.2.2.2.2.2.2.2.2.2.2.2.2.2.1 X_240.2.2.2.2.2.2.2.2.2.2.2.2.2.2.2.2.2.2.2.2.2.2.2.1 X_240.2.2.2.2.2.2.2.2.2.2.2.2.2.2.2.2.2.2.2.2.2.2.2.2.1 X_240.2.2.2.2.2.2.2.2.2.2.2.2.2.2.2.2.2.2.2.2.2.2.2.2.2.1 X_240.2.2.2.2.2.2.2.2.2.2.2.2.2.2.2.2.2.2.2.2.2.2.2.2.2.2.1 X_240.2.2.2.2.2.2.2.2.2.2.2.2.2.2.2.2.2.2.2.2.2.2.2.2.2.2.2.1 X_240.2.2.2.2.2.2.2.2.2.2.2.2.2.2.2.2.2.2.2.2.2.2.2.2.2.2.2.2.1 X_240.2.2.2.2.2.2.2.2.2.2.2.2.2.2.2.2.2.2.2.2.2.2.2.2.2.2.2.2.2.1 X_240.2.2.2.2.2.2.2.2.2.2.2.2.2.2.2.2.2.2.2.2.2.2.2.2.2.2.2.2.2.2.1 X_240.2.2.2.2.2.2.2.2.2.2.2.2.2.2.2.2.2.2.2.2.2.2.2.2.2.2.2.2.2.2.2.1 X_240.2.2.2.2.2.2.2.2.2.2.2.2.2.2.2.2.2.2.2.2.2.2.2.2.2.2.2.2.2.2.2.2.1 X_240.2.2.2.2.2.2.2.2.2.2.2.2.2.2.2.2.2.2.2.2.2.2.2.2.2.2.2.2.2.2.2.2.2.1 X_240.2.2.2.2.2.2.2.2.2.2.2.2.2.2.2.2.2.2.2.2.2.2.2.2.2.2.2.2.2.2.2.2.2.2.1 X_240.2.2.2.2.2.2.2.2.2.2.2.2.2.2.2.2.2.2.2.2.2.2.2.2.2.2.2.2.2.2.2.2.2.2.2.1 X_240.2.2.2.2.2.2.2.2.2.2.2.2.2.2.2.2.2.2.2.2.2.2.2.2.2.2.2.2.2.2.2.2.2.2.2.2.1 X_240.2.2.2.2.2.2.2.2.2.2.2.2.2.2.2.2.2.2.2.2.2.2.2.2.2.2.2.2.2.2.2.2.2.2.2.2.2.1 X_240.2.2.2.2.2.2.2.2.2.2.2.2.2.2.2.2.2.2.2.2.2.2.2.2.2.2.2.2.2.2.2.2.2.2.2.2.2.2.1 X_240.2.2.2.2.2.2.2.2.2.2.2.2.2.2.2.2.2.2.2.2.2.2.2.2.2.2.2.2.2.2.2.2.2.2.2.2.2.2.2.1 X_240.2.2.2.2.2.2.2.2.2.2.2.2.2.2.2.2.2.2.2.2.2.2.2.2.2.2.2.2.2.2.2.2.2.2.2.2.2.2.2.2.1 X_240.2.2.2.2.2.2.2.2.2.2.2.2.2.2.2.2.2.2.2.2.2.2.2.2.2.2.2.2.2.2.2.2.2.2.2.2.2.2.2.2.2.1 X_240.2.2.2.2.2.2.2.2.2.2.2.2.2.2.2.2.2.2.2.2.2.2.2.2.2.2.2.2.2.2.2.2.2.2.2.2.2.2.2.2.2.2 X_240.2.2.2.1 X_240.2.2.2.2.1 X_240.2.2.2.2.2.1 X_240.2.2.2.2.2.2.1 X_240.2.2.2.2.2.2.2.1 X_240.2.2.2.2.2.2.2.2.1 X_240.2.2.2.2.2.2.2.2.2.1 X_240.2.2.2.2.2.2.2.2.2.2.1 X_240.2.2.2.2.2.2.2.2.2.2.2.1 X_240.2.2.2.2.2.2.2.2.2.2.2.2.1 X_240.2.2.2.2.2.2.2.2.2.2.2.2.2.1 X_240.2.2.2.2.2.2.2.2.2.2.2.2.2.2.1 X_240.2.2.2.2.2.2.2.2.2.2.2.2.2.2.2.1 X_240.2.2.2.2.2.2.2.2.2.2.2.2.2.2.2.2.1 X_240.2.2.2.2.2.2.2.2.2.2.2.2.2.2.2.2.2.1 X_240.2.2.2.2.2.2.2.2.2.2.2.2.2.2.2.2.2.2.1 X_240.2.2.2.2.2.2.2.2.2.2.2.2.2.2.2.2.2.2.2.1 X_240.2.2.2.2.2.2.2.2.2.2.2.2.2.2.2.2.2.2.2.2.1 X_240.2.2.2.2.2.2.2.2.2.2.2.2.2.2.2.2.2.2.2.2.2.1))))
def fq_text (f_tape : Nat → Int32) (f_words : Nat → Int32) (f_sky : Nat → Int32) (f_landName : Nat → Int32) (f_landHas : Nat → Int32) (f_feastName : Nat → Int32) (f_first : Nat → Int32) (f_last : Nat → Int32) (f_personName : Nat → Int32) (f_born : Nat → Int64) (f_died : Nat → Int64) (f_deedName : Nat → Int32) (f_deedOn : Nat → Int64) (f_deedHas : Nat → Int32) (f_noteName : Nat → Int32) (f_noteHas : Nat → Int32) (f_knot : Nat → Int32) (f_part : Nat → Int32) (f_other : Nat → Int32) (f_wait : Nat → Int32) (f_held : Nat → Int32) (a0 : Int32) (m_tapeSize : Int32) (m_fault : Int32) (m_faultPlace : Int32) (m_stop : Int32) (m_next : Int32) (m_kind : Int32) (m_which : Int32) (m_at : Int32) (m_got : Int32) (m_lands : Int32) (m_feasts : Int32) (m_people : Int32) (m_deeds : Int32) (m_notes : Int32) (m_knots : Int32) (m_landsRead : Int32) (m_feastsRead : Int32) (m_peopleRead : Int32) (m_deedsRead : Int32) (m_notesRead : Int32) (m_knotsRead : Int32) (m_weekTold : Int32) (m_moonTold : Int32) (m_sunTold : Int32) (m_gotCount : Int64) (m_waits : Int32) (m_helds : Int32) (m_brackets : Int32) (m_counted : Int32) (m_wants : Int32) (m_mayNot : Int32) (m_named1 : Int32) (m_undos : Int32) (m_tolds : Int32) (m_hasImage : Int32) : Int32 × (Int32) × (Int32) × (Int32) × (Int32) × (Int32) × (Int32) × (Int32) × (Int32) × (Int32) × (Int32) × (Int32) × (Int32) × (Int32) × (Int32) × (Int32) × (Int32) × (Int32) × (Int32) × (Int32) × (Int32) × (Int32) × (Int32) × (Int32) × (Int32) × (Int32) × (Int32) × (Int32) × (Int32) × (Int32) × (Nat → Int32) × (Nat → Int32) × (Nat → Int32) × (Nat → Int32) × (Nat → Int32) × (Nat → Int32) × (Nat → Int32) × (Nat → Int64) × (Nat → Int64) × (Nat → Int32) × (Nat → Int64) × (Nat → Int32) × (Nat → Int32) × (Nat → Int32) × (Nat → Int32) × (Nat → Int32) × (Nat → Int32) × (Int32) × (Int64) × (Int32) × (Int32) × (Int32) × (Int32) × (Int32) × (Nat → Int32) × (Nat → Int32) := (if a0 < 0 then ((-2 : Int32), (0 : Int32), m_tapeSize, m_fault, m_faultPlace, m_stop, m_next, m_kind, m_which, m_at, m_lands, m_feasts, m_people, m_deeds, m_notes, m_knots, m_landsRead, m_feastsRead, m_peopleRead, m_deedsRead, m_notesRead, m_knotsRead, m_weekTold, m_moonTold, m_sunTold, m_counted, m_named1, m_undos, m_tolds, m_hasImage, f_sky, f_landName, f_landHas, f_feastName, f_first, f_last, f_personName, f_born, f_died, f_deedName, f_deedOn, f_deedHas, f_noteName, f_noteHas, f_knot, f_part, f_other, m_got, m_gotCount, m_waits, m_helds, m_brackets, m_wants, m_mayNot, f_wait, f_held) else (if a0 ≤ m_tapeSize then (xL ((fq_plain f_sky)) (fun u_4 => (xL ((fq_token f_tape f_words a0 (0 : Int32) m_which)) (fun u_17 => fq_text_d f_tape f_words a0 m_lands m_feasts m_people m_deeds m_notes m_knots m_named1 m_undos m_tolds m_hasImage 27 (0 : Int32) (0 : Int32) (-1 : Int32) u_17.1 u_17.2.1 u_17.2.2.1 u_17.2.2.2 m_got u_4.1 u_4.2.1 u_4.2.2.1 u_4.2.2.2.1 u_4.2.2.2.2.1 u_4.2.2.2.2.2.1 u_4.2.2.2.2.2.2.1 u_4.2.2.2.2.2.2.2.1 u_4.2.2.2.2.2.2.2.2.1 m_gotCount m_waits m_helds m_brackets u_4.2.2.2.2.2.2.2.2.2.1 m_wants m_mayNot u_4.2.2.2.2.2.2.2.2.2.2 f_landName f_landHas f_feastName f_first f_last f_personName f_born f_died f_deedName f_deedOn f_deedHas f_noteName f_noteHas f_knot f_part f_other f_wait f_held)))) else ((-2 : Int32), (0 : Int32), m_tapeSize, m_fault, m_faultPlace, m_stop, m_next, m_kind, m_which, m_at, m_lands, m_feasts, m_people, m_deeds, m_notes, m_knots, m_landsRead, m_feastsRead, m_peopleRead, m_deedsRead, m_notesRead, m_knotsRead, m_weekTold, m_moonTold, m_sunTold, m_counted, m_named1, m_undos, m_tolds, m_hasImage, f_sky, f_landName, f_landHas, f_feastName, f_first, f_last, f_personName, f_born, f_died, f_deedName, f_deedOn, f_deedHas, f_noteName, f_noteHas, f_knot, f_part, f_other, m_got, m_gotCount, m_waits, m_helds, m_brackets, m_wants, m_mayNot, f_wait, f_held)))
theorem gq_text_s0  : ¬ ((0 : Int32) < 0) := (by decide)
theorem gq_text_s1 {y0 : Int32} (h0 : ¬ (y0 < 0)) : 0 ≤ y0 := by lia
theorem gq_text_s2 {y0 : Int32} {y1 : Int32} (h0 : y0 ≤ y1) (h1 : y1 ≤ 900) : y0 ≤ 900 := by lia
theorem gq_text_s3 {y0 : Int32} {y1 : Int32} (h0 : y0 ≤ y1) (h1 : y1 ≤ 900) : y0 ≤ 900 := by lia
theorem gq_text_s4 {y0 : Int32} {y1 : Int32} {y2 : Int32} {y3 : Int32} {y4 : Int32} {y5 : Int32} {y6 : Int32} {y7 : Int32} {y8 : Int32} {y9 : Int32} {y10 : Int32} {y11 : Int32} {y12 : Int32} {y13 : Int32} {y14 : Int32} {y15 : Int32} (h0 : (((((((y8 + y9) + y10) + y11) + y12) + y13) + y14) + y15) = ((((((((y0 + y1) + y2) + y3) + y4) + y5) + y6) + y7) + 1)) (h1 : y0 ≤ 4) (h2 : ¬ (y1 < 0)) (h3 : y1 ≤ 4) (h4 : ¬ (y2 < 0)) (h5 : y2 ≤ 6) (h6 : ¬ (y3 < 0)) (h7 : y3 ≤ 4) (h8 : ¬ (y4 < 0)) (h9 : y4 ≤ 6) (h10 : ¬ (y5 < 0)) (h11 : y5 ≤ 1) (h12 : ¬ (y6 < 0)) (h13 : y6 ≤ 1) (h14 : ¬ (y7 < 0)) (h15 : y7 ≤ 1) (h16 : y8 ≤ 4) (h17 : ¬ (y9 < 0)) (h18 : y9 ≤ 4) (h19 : ¬ (y10 < 0)) (h20 : y10 ≤ 6) (h21 : ¬ (y11 < 0)) (h22 : y11 ≤ 4) (h23 : ¬ (y12 < 0)) (h24 : y12 ≤ 6) (h25 : ¬ (y13 < 0)) (h26 : y13 ≤ 1) (h27 : ¬ (y14 < 0)) (h28 : y14 ≤ 1) (h29 : ¬ (y15 < 0)) (h30 : y15 ≤ 1) : ¬ (27 ≤ (((((((y0 + y1) + y2) + y3) + y4) + y5) + y6) + y7)) := by
  have k_h1 : y0.toInt ≤ 4 := Int32.le_iff_toInt_le.mp h1
  have k_h2 : 0 ≤ y1.toInt := Int.not_lt.mp (fun z => h2 (Int32.lt_iff_toInt_lt.mpr z))
  have k_h3 : y1.toInt ≤ 4 := Int32.le_iff_toInt_le.mp h3
  have k_h4 : 0 ≤ y2.toInt := Int.not_lt.mp (fun z => h4 (Int32.lt_iff_toInt_lt.mpr z))
  have k_h5 : y2.toInt ≤ 6 := Int32.le_iff_toInt_le.mp h5
  have k_h6 : 0 ≤ y3.toInt := Int.not_lt.mp (fun z => h6 (Int32.lt_iff_toInt_lt.mpr z))
  have k_h7 : y3.toInt ≤ 4 := Int32.le_iff_toInt_le.mp h7
  have k_h8 : 0 ≤ y4.toInt := Int.not_lt.mp (fun z => h8 (Int32.lt_iff_toInt_lt.mpr z))
  have k_h9 : y4.toInt ≤ 6 := Int32.le_iff_toInt_le.mp h9
  have k_h10 : 0 ≤ y5.toInt := Int.not_lt.mp (fun z => h10 (Int32.lt_iff_toInt_lt.mpr z))
  have k_h11 : y5.toInt ≤ 1 := Int32.le_iff_toInt_le.mp h11
  have k_h12 : 0 ≤ y6.toInt := Int.not_lt.mp (fun z => h12 (Int32.lt_iff_toInt_lt.mpr z))
  have k_h13 : y6.toInt ≤ 1 := Int32.le_iff_toInt_le.mp h13
  have k_h14 : 0 ≤ y7.toInt := Int.not_lt.mp (fun z => h14 (Int32.lt_iff_toInt_lt.mpr z))
  have k_h15 : y7.toInt ≤ 1 := Int32.le_iff_toInt_le.mp h15
  have k_h16 : y8.toInt ≤ 4 := Int32.le_iff_toInt_le.mp h16
  have k_h17 : 0 ≤ y9.toInt := Int.not_lt.mp (fun z => h17 (Int32.lt_iff_toInt_lt.mpr z))
  have k_h18 : y9.toInt ≤ 4 := Int32.le_iff_toInt_le.mp h18
  have k_h19 : 0 ≤ y10.toInt := Int.not_lt.mp (fun z => h19 (Int32.lt_iff_toInt_lt.mpr z))
  have k_h20 : y10.toInt ≤ 6 := Int32.le_iff_toInt_le.mp h20
  have k_h21 : 0 ≤ y11.toInt := Int.not_lt.mp (fun z => h21 (Int32.lt_iff_toInt_lt.mpr z))
  have k_h22 : y11.toInt ≤ 4 := Int32.le_iff_toInt_le.mp h22
  have k_h23 : 0 ≤ y12.toInt := Int.not_lt.mp (fun z => h23 (Int32.lt_iff_toInt_lt.mpr z))
  have k_h24 : y12.toInt ≤ 6 := Int32.le_iff_toInt_le.mp h24
  have k_h25 : 0 ≤ y13.toInt := Int.not_lt.mp (fun z => h25 (Int32.lt_iff_toInt_lt.mpr z))
  have k_h26 : y13.toInt ≤ 1 := Int32.le_iff_toInt_le.mp h26
  have k_h27 : 0 ≤ y14.toInt := Int.not_lt.mp (fun z => h27 (Int32.lt_iff_toInt_lt.mpr z))
  have k_h28 : y14.toInt ≤ 1 := Int32.le_iff_toInt_le.mp h28
  have k_h29 : 0 ≤ y15.toInt := Int.not_lt.mp (fun z => h29 (Int32.lt_iff_toInt_lt.mpr z))
  have k_h30 : y15.toInt ≤ 1 := Int32.le_iff_toInt_le.mp h30
  have k_ly0 : -2147483648 ≤ y0.toInt := by have k := y0.le_toInt; omega
  have k_ly8 : -2147483648 ≤ y8.toInt := by have k := y8.le_toInt; omega
  obtain ⟨e0, f0, g0⟩ := zai32 (a := y8) (b := y9) (L := -2147483648) (U := 8) k_ly8 k_h16 k_h17 k_h18 (by decide) (by decide) (by decide) (by decide)
  obtain ⟨e1, f1, g1⟩ := zai32 (a := (y8 + y9)) (b := y10) (L := -2147483648) (U := 14) f0 g0 k_h19 k_h20 (by decide) (by decide) (by decide) (by decide)
  obtain ⟨e2, f2, g2⟩ := zai32 (a := ((y8 + y9) + y10)) (b := y11) (L := -2147483648) (U := 18) f1 g1 k_h21 k_h22 (by decide) (by decide) (by decide) (by decide)
  obtain ⟨e3, f3, g3⟩ := zai32 (a := (((y8 + y9) + y10) + y11)) (b := y12) (L := -2147483648) (U := 24) f2 g2 k_h23 k_h24 (by decide) (by decide) (by decide) (by decide)
  obtain ⟨e4, f4, g4⟩ := zai32 (a := ((((y8 + y9) + y10) + y11) + y12)) (b := y13) (L := -2147483648) (U := 25) f3 g3 k_h25 k_h26 (by decide) (by decide) (by decide) (by decide)
  obtain ⟨e5, f5, g5⟩ := zai32 (a := (((((y8 + y9) + y10) + y11) + y12) + y13)) (b := y14) (L := -2147483648) (U := 26) f4 g4 k_h27 k_h28 (by decide) (by decide) (by decide) (by decide)
  obtain ⟨e6, f6, g6⟩ := zai32 (a := ((((((y8 + y9) + y10) + y11) + y12) + y13) + y14)) (b := y15) (L := -2147483648) (U := 27) f5 g5 k_h29 k_h30 (by decide) (by decide) (by decide) (by decide)
  obtain ⟨e7, f7, g7⟩ := zai32 (a := y0) (b := y1) (L := -2147483648) (U := 8) k_ly0 k_h1 k_h2 k_h3 (by decide) (by decide) (by decide) (by decide)
  obtain ⟨e8, f8, g8⟩ := zai32 (a := (y0 + y1)) (b := y2) (L := -2147483648) (U := 14) f7 g7 k_h4 k_h5 (by decide) (by decide) (by decide) (by decide)
  obtain ⟨e9, f9, g9⟩ := zai32 (a := ((y0 + y1) + y2)) (b := y3) (L := -2147483648) (U := 18) f8 g8 k_h6 k_h7 (by decide) (by decide) (by decide) (by decide)
  obtain ⟨e10, f10, g10⟩ := zai32 (a := (((y0 + y1) + y2) + y3)) (b := y4) (L := -2147483648) (U := 24) f9 g9 k_h8 k_h9 (by decide) (by decide) (by decide) (by decide)
  obtain ⟨e11, f11, g11⟩ := zai32 (a := ((((y0 + y1) + y2) + y3) + y4)) (b := y5) (L := -2147483648) (U := 25) f10 g10 k_h10 k_h11 (by decide) (by decide) (by decide) (by decide)
  obtain ⟨e12, f12, g12⟩ := zai32 (a := (((((y0 + y1) + y2) + y3) + y4) + y5)) (b := y6) (L := -2147483648) (U := 26) f11 g11 k_h12 k_h13 (by decide) (by decide) (by decide) (by decide)
  obtain ⟨e13, f13, g13⟩ := zai32 (a := ((((((y0 + y1) + y2) + y3) + y4) + y5) + y6)) (b := y7) (L := -2147483648) (U := 27) f12 g12 k_h14 k_h15 (by decide) (by decide) (by decide) (by decide)
  have n14 : (1 : Int32).toInt = 1 := rfl
  have n14a : 1 ≤ (1 : Int32).toInt := by decide
  have n14b : (1 : Int32).toInt ≤ 1 := by decide
  obtain ⟨e15, f15, g15⟩ := zai32 (a := (((((((y0 + y1) + y2) + y3) + y4) + y5) + y6) + y7)) (b := 1) (L := -2147483647) (U := 28) f13 g13 n14a n14b (by decide) (by decide) (by decide) (by decide)
  have k_h0 : ((((((((y8 + y9) + y10) + y11) + y12) + y13) + y14) + y15) : Int32).toInt = (((((((((y0 + y1) + y2) + y3) + y4) + y5) + y6) + y7) + 1) : Int32).toInt := congrArg Int32.toInt h0
  exact fun z => by have z : 27 ≤ ((((((((y0 + y1) + y2) + y3) + y4) + y5) + y6) + y7) : Int32).toInt := Int32.le_iff_toInt_le.mp z; clear h0 h1 h2 h3 h4 h5 h6 h7 h8 h9 h10 h11 h12 h13 h14 h15 h16 h17 h18 h19 h20 h21 h22 h23 h24 h25 h26 h27 h28 h29 h30; omega
theorem gq_text_s5 {y0 : Int32} {y1 : Int32} (h0 : y0 ≤ y1) (h1 : y1 ≤ 900) : y0 ≤ 900 := by lia
theorem gq_text_s6 {y0 : Int32} {y1 : Int32} {y2 : Int32} {y3 : Int32} {y4 : Int32} {y5 : Int32} {y6 : Int32} {y7 : Int32} (h0 : y0 ≤ 4) (h1 : ¬ (y1 < 0)) (h2 : y1 ≤ 4) (h3 : ¬ (y2 < 0)) (h4 : y2 ≤ 6) (h5 : ¬ (y3 < 0)) (h6 : y3 ≤ 4) (h7 : ¬ (y4 < 0)) (h8 : y4 ≤ 6) (h9 : ¬ (y5 < 0)) (h10 : y5 ≤ 1) (h11 : ¬ (y6 < 0)) (h12 : y6 ≤ 1) (h13 : ¬ (y7 < 0)) (h14 : y7 ≤ 1) : (((((((y0 + y1) + y2) + y3) + y4) + y5) + y6) + y7) < 2000 := by
  have k_h0 : y0.toInt ≤ 4 := Int32.le_iff_toInt_le.mp h0
  have k_h1 : 0 ≤ y1.toInt := Int.not_lt.mp (fun z => h1 (Int32.lt_iff_toInt_lt.mpr z))
  have k_h2 : y1.toInt ≤ 4 := Int32.le_iff_toInt_le.mp h2
  have k_h3 : 0 ≤ y2.toInt := Int.not_lt.mp (fun z => h3 (Int32.lt_iff_toInt_lt.mpr z))
  have k_h4 : y2.toInt ≤ 6 := Int32.le_iff_toInt_le.mp h4
  have k_h5 : 0 ≤ y3.toInt := Int.not_lt.mp (fun z => h5 (Int32.lt_iff_toInt_lt.mpr z))
  have k_h6 : y3.toInt ≤ 4 := Int32.le_iff_toInt_le.mp h6
  have k_h7 : 0 ≤ y4.toInt := Int.not_lt.mp (fun z => h7 (Int32.lt_iff_toInt_lt.mpr z))
  have k_h8 : y4.toInt ≤ 6 := Int32.le_iff_toInt_le.mp h8
  have k_h9 : 0 ≤ y5.toInt := Int.not_lt.mp (fun z => h9 (Int32.lt_iff_toInt_lt.mpr z))
  have k_h10 : y5.toInt ≤ 1 := Int32.le_iff_toInt_le.mp h10
  have k_h11 : 0 ≤ y6.toInt := Int.not_lt.mp (fun z => h11 (Int32.lt_iff_toInt_lt.mpr z))
  have k_h12 : y6.toInt ≤ 1 := Int32.le_iff_toInt_le.mp h12
  have k_h13 : 0 ≤ y7.toInt := Int.not_lt.mp (fun z => h13 (Int32.lt_iff_toInt_lt.mpr z))
  have k_h14 : y7.toInt ≤ 1 := Int32.le_iff_toInt_le.mp h14
  have k_ly0 : -2147483648 ≤ y0.toInt := by have k := y0.le_toInt; omega
  obtain ⟨e0, f0, g0⟩ := zai32 (a := y0) (b := y1) (L := -2147483648) (U := 8) k_ly0 k_h0 k_h1 k_h2 (by decide) (by decide) (by decide) (by decide)
  obtain ⟨e1, f1, g1⟩ := zai32 (a := (y0 + y1)) (b := y2) (L := -2147483648) (U := 14) f0 g0 k_h3 k_h4 (by decide) (by decide) (by decide) (by decide)
  obtain ⟨e2, f2, g2⟩ := zai32 (a := ((y0 + y1) + y2)) (b := y3) (L := -2147483648) (U := 18) f1 g1 k_h5 k_h6 (by decide) (by decide) (by decide) (by decide)
  obtain ⟨e3, f3, g3⟩ := zai32 (a := (((y0 + y1) + y2) + y3)) (b := y4) (L := -2147483648) (U := 24) f2 g2 k_h7 k_h8 (by decide) (by decide) (by decide) (by decide)
  obtain ⟨e4, f4, g4⟩ := zai32 (a := ((((y0 + y1) + y2) + y3) + y4)) (b := y5) (L := -2147483648) (U := 25) f3 g3 k_h9 k_h10 (by decide) (by decide) (by decide) (by decide)
  obtain ⟨e5, f5, g5⟩ := zai32 (a := (((((y0 + y1) + y2) + y3) + y4) + y5)) (b := y6) (L := -2147483648) (U := 26) f4 g4 k_h11 k_h12 (by decide) (by decide) (by decide) (by decide)
  obtain ⟨e6, f6, g6⟩ := zai32 (a := ((((((y0 + y1) + y2) + y3) + y4) + y5) + y6)) (b := y7) (L := -2147483648) (U := 27) f5 g5 k_h13 k_h14 (by decide) (by decide) (by decide) (by decide)
  exact Int32.lt_iff_toInt_lt.mpr (show ((((((((y0 + y1) + y2) + y3) + y4) + y5) + y6) + y7) : Int32).toInt < 2000 by clear h0 h1 h2 h3 h4 h5 h6 h7 h8 h9 h10 h11 h12 h13 h14; omega)
theorem gq_text_s7 {y0 : Int32} (h0 : y0 = 0) : ¬ (y0 < 0) := by lia
theorem gq_text_s8 {y0 : Int32} (h0 : y0 = 0) : y0 ≤ 4 := by lia
theorem gq_text_s9 {y0 : Int32} (h0 : y0 = 0) : ¬ (y0 < 0) := by lia
theorem gq_text_s10 {y0 : Int32} (h0 : y0 = 0) : y0 ≤ 4 := by lia
theorem gq_text_s11 {y0 : Int32} (h0 : y0 = 0) : ¬ (y0 < 0) := by lia
theorem gq_text_s12 {y0 : Int32} (h0 : y0 = 0) : y0 ≤ 6 := by lia
theorem gq_text_s13 {y0 : Int32} (h0 : y0 = 0) : ¬ (y0 < 0) := by lia
theorem gq_text_s14 {y0 : Int32} (h0 : y0 = 0) : y0 ≤ 4 := by lia
theorem gq_text_s15 {y0 : Int32} (h0 : y0 = 0) : ¬ (y0 < 0) := by lia
theorem gq_text_s16 {y0 : Int32} (h0 : y0 = 0) : y0 ≤ 6 := by lia
theorem gq_text_s17 {y0 : Int32} (h0 : y0 = 0) : ¬ (y0 < 0) := by lia
theorem gq_text_s18 {y0 : Int32} (h0 : y0 = 0) : y0 ≤ 1 := by lia
theorem gq_text_s19 {y0 : Int32} (h0 : y0 = 0) : ¬ (y0 < 0) := by lia
theorem gq_text_s20 {y0 : Int32} (h0 : y0 = 0) : y0 ≤ 1 := by lia
theorem gq_text_s21 {y0 : Int32} (h0 : y0 = 0) : ¬ (y0 < 0) := by lia
theorem gq_text_s22 {y0 : Int32} (h0 : y0 = 0) : y0 ≤ 1 := by lia
theorem gq_text_s23 {y0 : Int32} (h0 : y0 = 0) : ¬ (y0 < 0) := by lia
theorem gq_text_s24 {y0 : Int32} (h0 : y0 = 0) : y0 ≤ 64 := by lia
theorem gq_text_s25 {y0 : Int32} {y1 : Int32} (h0 : y0 = 0) (h1 : y1 = 0) : y0 = y1 := by lia
theorem gq_text_s26 {y0 : Int32} {y1 : Int32} {y2 : Int32} {y3 : Int32} {y4 : Int32} {y5 : Int32} {y6 : Int32} {y7 : Int32} (h0 : y0 = 0) (h1 : y1 = 0) (h2 : y2 = 0) (h3 : y3 = 0) (h4 : y4 = 0) (h5 : y5 = 0) (h6 : y6 = 0) (h7 : y7 = 0) : (((((((y0 + y1) + y2) + y3) + y4) + y5) + y6) + y7) = 0 := by
  have l_y0 := y0.le_toInt
  have u_y0 := y0.toInt_lt
  have l_y1 := y1.le_toInt
  have u_y1 := y1.toInt_lt
  have l_y2 := y2.le_toInt
  have u_y2 := y2.toInt_lt
  have l_y3 := y3.le_toInt
  have u_y3 := y3.toInt_lt
  have l_y4 := y4.le_toInt
  have u_y4 := y4.toInt_lt
  have l_y5 := y5.le_toInt
  have u_y5 := y5.toInt_lt
  have l_y6 := y6.le_toInt
  have u_y6 := y6.toInt_lt
  have l_y7 := y7.le_toInt
  have u_y7 := y7.toInt_lt
  have h0 : y0.toInt = 0 := congrArg Int32.toInt h0
  have h1 : y1.toInt = 0 := congrArg Int32.toInt h1
  have h2 : y2.toInt = 0 := congrArg Int32.toInt h2
  have h3 : y3.toInt = 0 := congrArg Int32.toInt h3
  have h4 : y4.toInt = 0 := congrArg Int32.toInt h4
  have h5 : y5.toInt = 0 := congrArg Int32.toInt h5
  have h6 : y6.toInt = 0 := congrArg Int32.toInt h6
  have h7 : y7.toInt = 0 := congrArg Int32.toInt h7
  have e24 : ((y0 + y1) : Int32).toInt = y0.toInt + y1.toInt := by rw [Int32.toInt_add, Int.bmod_eq_of_le (by omega) (by omega)]
  have e25 : (((y0 + y1) + y2) : Int32).toInt = ((y0 + y1) : Int32).toInt + y2.toInt := by rw [Int32.toInt_add, Int.bmod_eq_of_le (by omega) (by omega)]
  have e26 : ((((y0 + y1) + y2) + y3) : Int32).toInt = (((y0 + y1) + y2) : Int32).toInt + y3.toInt := by rw [Int32.toInt_add, Int.bmod_eq_of_le (by omega) (by omega)]
  have e27 : (((((y0 + y1) + y2) + y3) + y4) : Int32).toInt = ((((y0 + y1) + y2) + y3) : Int32).toInt + y4.toInt := by rw [Int32.toInt_add, Int.bmod_eq_of_le (by omega) (by omega)]
  have e28 : ((((((y0 + y1) + y2) + y3) + y4) + y5) : Int32).toInt = (((((y0 + y1) + y2) + y3) + y4) : Int32).toInt + y5.toInt := by rw [Int32.toInt_add, Int.bmod_eq_of_le (by omega) (by omega)]
  have e29 : (((((((y0 + y1) + y2) + y3) + y4) + y5) + y6) : Int32).toInt = ((((((y0 + y1) + y2) + y3) + y4) + y5) : Int32).toInt + y6.toInt := by rw [Int32.toInt_add, Int.bmod_eq_of_le (by omega) (by omega)]
  have e30 : ((((((((y0 + y1) + y2) + y3) + y4) + y5) + y6) + y7) : Int32).toInt = (((((((y0 + y1) + y2) + y3) + y4) + y5) + y6) : Int32).toInt + y7.toInt := by rw [Int32.toInt_add, Int.bmod_eq_of_le (by omega) (by omega)]
  exact Int32.toInt_inj.mp (show ((((((((y0 + y1) + y2) + y3) + y4) + y5) + y6) + y7) : Int32).toInt = 0 by omega)
theorem dX12_text_0 : decode cX12_text 0 = .ok (.aload_n 0, 1) := zk_42 (by decide +kernel)
theorem dX12_text_1 : decode cX12_text 1 = .ok (.iconst 0, 1) := zk_3 (by decide +kernel)
theorem dX12_text_2 : decode cX12_text 2 = .ok (.putfield 119, 3) := zk_181 (by decide +kernel)
theorem dX12_text_5 : decode cX12_text 5 = .ok (.iload_n 1, 1) := zk_27 (by decide +kernel)
theorem dX12_text_6 : decode cX12_text 6 = .ok (.ifCond .lt 11, 3) := zk_155 (by decide +kernel)
theorem dX12_text_17 : decode cX12_text 17 = .ok (.bipush (-2), 2) := zk_16 (by decide +kernel)
theorem dX12_text_19 : decode cX12_text 19 = .ok (.ireturn, 1) := zk_172 (by decide +kernel)
theorem dX12_text_9 : decode cX12_text 9 = .ok (.iload_n 1, 1) := zk_27 (by decide +kernel)
theorem dX12_text_10 : decode cX12_text 10 = .ok (.aload_n 0, 1) := zk_42 (by decide +kernel)
theorem dX12_text_11 : decode cX12_text 11 = .ok (.getfield 122, 3) := zk_180 (by decide +kernel)
theorem dX12_text_14 : decode cX12_text 14 = .ok (.if_icmp .le 6, 3) := zk_164 (by decide +kernel)
theorem dX12_text_20 : decode cX12_text 20 = .ok (.aload_n 0, 1) := zk_42 (by decide +kernel)
theorem dX12_text_21 : decode cX12_text 21 = .ok (.iload_n 1, 1) := zk_27 (by decide +kernel)
theorem dX12_text_22 : decode cX12_text 22 = .ok (.putfield 133, 3) := zk_181 (by decide +kernel)
theorem dX12_text_25 : decode cX12_text 25 = .ok (.aload_n 0, 1) := zk_42 (by decide +kernel)
theorem dX12_text_26 : decode cX12_text 26 = .ok (.iconst 0, 1) := zk_3 (by decide +kernel)
theorem dX12_text_27 : decode cX12_text 27 = .ok (.putfield 122, 3) := zk_181 (by decide +kernel)
theorem dX12_text_30 : decode cX12_text 30 = .ok (.aload_n 0, 1) := zk_42 (by decide +kernel)
theorem dX12_text_31 : decode cX12_text 31 = .ok (.iconst 0, 1) := zk_3 (by decide +kernel)
theorem dX12_text_32 : decode cX12_text 32 = .ok (.putfield 127, 3) := zk_181 (by decide +kernel)
theorem dX12_text_35 : decode cX12_text 35 = .ok (.aload_n 0, 1) := zk_42 (by decide +kernel)
theorem dX12_text_36 : decode cX12_text 36 = .ok (.iconst (-1), 1) := zk_2 (by decide +kernel)
theorem dX12_text_37 : decode cX12_text 37 = .ok (.putfield 16, 3) := zk_181 (by decide +kernel)
theorem dX12_text_40 : decode cX12_text 40 = .ok (.aload_n 0, 1) := zk_42 (by decide +kernel)
theorem dX12_text_41 : decode cX12_text 41 = .ok (.iconst 0, 1) := zk_3 (by decide +kernel)
theorem dX12_text_42 : decode cX12_text 42 = .ok (.putfield 136, 3) := zk_181 (by decide +kernel)
theorem dX12_text_45 : decode cX12_text 45 = .ok (.aload_n 0, 1) := zk_42 (by decide +kernel)
theorem dX12_text_46 : decode cX12_text 46 = .ok (.invokevirtual 113, 3) := zk_182 (by decide +kernel)
theorem dX12_text_49 : decode cX12_text 49 = .ok (.aload_n 0, 1) := zk_42 (by decide +kernel)
theorem dX12_text_50 : decode cX12_text 50 = .ok (.invokevirtual 173, 3) := zk_182 (by decide +kernel)
theorem dX12_text_53 : decode cX12_text 53 = .ok (.iconst 0, 1) := zk_3 (by decide +kernel)
theorem dX12_text_54 : decode cX12_text 54 = .ok (.istore_n 2, 1) := zk_61 (by decide +kernel)
theorem dX12_text_55 : decode cX12_text 55 = .ok (.aload_n 0, 1) := zk_42 (by decide +kernel)
theorem dX12_text_56 : decode cX12_text 56 = .ok (.getfield 139, 3) := zk_180 (by decide +kernel)
theorem dX12_text_59 : decode cX12_text 59 = .ok (.ifCond .eq 18, 3) := zk_153 (by decide +kernel)
theorem dX12_text_77 : decode cX12_text 77 = .ok (.aload_n 0, 1) := zk_42 (by decide +kernel)
theorem dX12_text_78 : decode cX12_text 78 = .ok (.invokevirtual 116, 3) := zk_182 (by decide +kernel)
theorem dX12_text_81 : decode cX12_text 81 = .ok (.iload_n 2, 1) := zk_28 (by decide +kernel)
theorem dX12_text_82 : decode cX12_text 82 = .ok (.ireturn, 1) := zk_172 (by decide +kernel)
theorem dX12_text_62 : decode cX12_text 62 = .ok (.aload_n 0, 1) := zk_42 (by decide +kernel)
theorem dX12_text_63 : decode cX12_text 63 = .ok (.invokevirtual 327, 3) := zk_182 (by decide +kernel)
theorem dX12_text_66 : decode cX12_text 66 = .ok (.ifCond .ne 5, 3) := zk_154 (by decide +kernel)
theorem dX12_text_69 : decode cX12_text 69 = .ok (.iconst (-1), 1) := zk_2 (by decide +kernel)
theorem dX12_text_70 : decode cX12_text 70 = .ok (.ireturn, 1) := zk_172 (by decide +kernel)
theorem dX12_text_71 : decode cX12_text 71 = .ok (.iinc 2 1, 3) := zk_132 (by decide +kernel)
theorem dX12_text_74 : decode cX12_text 74 = .ok (.goto (-19), 3) := zk_167 (by decide +kernel)
theorem mF_cg {f f2 : Nat → Int32} {l l2 : Nat → Int64} {rf : Nat → Nat} (e1 : f 1 = f2 1) (e2 : f 2 = f2 2) (e4 : f 4 = f2 4) (e5 : f 5 = f2 5) (e6 : f 6 = f2 6) (e7 : f 7 = f2 7) (e8 : f 8 = f2 8) (e9 : f 9 = f2 9) (e10 : f 10 = f2 10) (e11 : f 11 = f2 11) (e12 : f 12 = f2 12) (e13 : f 13 = f2 13) (e14 : f 14 = f2 14) (e15 : f 15 = f2 15) (e16 : f 16 = f2 16) (e17 : f 17 = f2 17) (e18 : f 18 = f2 18) (e19 : f 19 = f2 19) (e20 : f 20 = f2 20) (e21 : f 21 = f2 21) (e22 : f 22 = f2 22) (e23 : f 23 = f2 23) (e25 : f 25 = f2 25) (e26 : f 26 = f2 26) (e27 : f 27 = f2 27) (e47 : f 47 = f2 47) (e48 : f 48 = f2 48) (e49 : f 49 = f2 49) (e50 : f 50 = f2 50) (e51 : f 51 = f2 51) (e52 : f 52 = f2 52) (e57 : f 57 = f2 57) (e58 : f 58 = f2 58) (e59 : f 59 = f2 59) (e62 : f 62 = f2 62) (e63 : f 63 = f2 63) (e64 : f 64 = f2 64) (e67 : f 67 = f2 67) (e70 : f 70 = f2 70) (e71 : f 71 = f2 71) (e72 : f 72 = f2 72) (e44 : l 44 = l2 44) (e53 : l 53 = l2 53) (e54 : l 54 = l2 54) : mF f l rf = mF f2 l2 rf := by
  simp only [mF, e1, e2, e4, e5, e6, e7, e8, e9, e10, e11, e12, e13, e14, e15, e16, e17, e18, e19, e20, e21, e22, e23, e25, e26, e27, e47, e48, e49, e50, e51, e52, e57, e58, e59, e62, e63, e64, e67, e70, e71, e72, e44, e53, e54]
