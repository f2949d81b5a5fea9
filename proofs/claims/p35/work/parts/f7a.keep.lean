set_option maxHeartbeats 4000000 in
set_option maxRecDepth 100000 in
theorem kp_feed1 {v : YV} (hI : yI v) {y1 y2 y3 y4 y5 : Int32} : ∀ (r_6 : Int32), r_6 = (fx_feed v.lfi v.fBy y1 y2 y3 y4 y5).1 → ∀ (u_7 : (Int32) × (Nat → Int32)), u_7 = (fx_feed v.lfi v.fBy y1 y2 y3 y4 y5).2 → ∀ (X_20 : Int32 × (Int32) × (Int32) × (Nat → Int32)), X_20 = (fq_feed v.f_tape y1 y2 y3 y4 y5 (v.g 1)) → ∀ (r_15 : Int32), r_15 = X_20.1 → ∀ (u_16 : (Int32) × (Int32) × (Nat → Int32)), u_16 = X_20.2 → yI ((((v.s_lfi u_7.1).s_fBy u_7.2).s_g (upd (upd v.g 1 u_16.2.1) 2 u_16.1)).s_f_tape u_16.2.2) := by
  intro r_6 hq_r_6 u_7 hq_u_7 X_20 hX_20 r_15 hq_r_15 u_16 hq_u_16
  have hf := yS_feed (f := v.fBy) (ft := v.f_tape) (y1 := y1) (y2 := y2) (y3 := y3) (y4 := y4) (y5 := y5) hI.fi0 hI.fi9
  subst hq_u_7
  subst hq_u_16
  rw [hI.tape] at hX_20
  subst hX_20
  exact yI_mk hI.iz0 hI.iz2 hf.2.2.1 hf.2.2.2 hI.lz0 hI.lz2 hI.sc0 hI.sc8 hI.hT hI.hE hf.2.1.symm hI.low hI.ku hI.tc hI.to0 hI.to2 hI.w7 hI.un0 hI.unP hI.im (zfeed hI.fi0 hI.fi9 hI.tb) hI.co hI.wd hI.fa hI.fp hI.lw hI.fw hI.st hI.lg hI.ig
set_option maxHeartbeats 4000000 in
set_option maxRecDepth 100000 in
theorem kp_fault1 {v : YV} (hI : yI v) {y1 : Int32} : ∀ (r_2 : Int32), r_2 = (fx_fault v.pfa v.pfp y1) → ∀ (X_7 : Int32 × (Int32)), X_7 = (fq_fault y1 (v.g 4) (v.g 5)) → ∀ (r_4 : Int32), r_4 = X_7.1 → ∀ (u_5 : (Int32)), u_5 = X_7.2 → yI (v.s_g (upd v.g 2 u_5)) := by
  intro r_2 hq_r_2 X_7 hX_7 r_4 hq_r_4 u_5 hq_u_5
  exact hI
set_option maxHeartbeats 4000000 in
set_option maxRecDepth 100000 in
theorem kp_named1 {v : YV} (hI : yI v) {y1 y2 : Int32} : ∀ (r_3 : Int32), r_3 = (fx_named v.fTo v.fNm y1 y2) → ∀ (X_9 : Int32 × (Int32)), X_9 = (fq_named v.f_landName v.f_feastName v.f_personName v.f_deedName v.f_noteName y1 y2 (v.g 12) (v.g 13) (v.g 14) (v.g 15) (v.g 58)) → ∀ (r_6 : Int32), r_6 = X_9.1 → ∀ (u_7 : (Int32)), u_7 = X_9.2 → yI (v.s_g (upd v.g 2 u_7)) := by
  intro r_3 hq_r_3 X_9 hX_9 r_6 hq_r_6 u_7 hq_u_7
  exact hI
set_option maxHeartbeats 4000000 in
set_option maxRecDepth 100000 in
theorem kp_look1 {v : YV} (hI : yI v) {y1 y2 : Int32} : ∀ (X_6 : Int32 × (Nat → Int64)), X_6 = (fL_look v.f3 v.fTo v.FI v.GR v.FR y1 y2) → ∀ (r_3 : Int32), r_3 = X_6.1 → ∀ (u_4 : (Nat → Int64)), u_4 = X_6.2 → ∀ (X_12 : Int32 × (Int32)), X_12 = (fq_look v.f_landHas y1 y2 (v.g 12)) → ∀ (r_9 : Int32), r_9 = X_12.1 → ∀ (u_10 : (Int32)), u_10 = X_12.2 → yI ((v.s_f3 u_4).s_g (upd v.g 2 u_10)) := by
  intro X_6 hX_6 r_3 hq_r_3 u_4 hq_u_4 X_12 hX_12 r_9 hq_r_9 u_10 hq_u_10
  exact hI
set_option maxHeartbeats 4000000 in
set_option maxRecDepth 100000 in
theorem kp_length1 {v : YV} (hI : yI v) {y1 y2 : Int32} : ∀ (r_3 : Int64), r_3 = (fx_length v.fTo v.FI v.GR v.FR y1 y2) → ∀ (X_9 : Int64 × (Int32)), X_9 = (fq_length v.f_landHas y1 y2 (v.g 12)) → ∀ (r_6 : Int64), r_6 = X_9.1 → ∀ (u_7 : (Int32)), u_7 = X_9.2 → yI (v.s_g (upd v.g 2 u_7)) := by
  intro r_3 hq_r_3 X_9 hX_9 r_6 hq_r_6 u_7 hq_u_7
  exact hI
set_option maxHeartbeats 4000000 in
set_option maxRecDepth 100000 in
theorem kp_date1 {v : YV} (hI : yI v) {y1 y2 y3 y4 : Int32} : ∀ (r_5 : Int64), r_5 = (fx_date v.fTo v.FI v.GR v.FR y1 ((y2.toInt64 <<< ((32 : Int32).toInt64 &&& 63)) ||| (y3.toInt64 &&& 4294967295)) y4) → ∀ (X_15 : Int64 × (Int32) × (Int64) × (Int64)), X_15 = (fq_date v.f_landHas y1 ((y2.toInt64 <<< ((32 : Int32).toInt64 &&& 63)) ||| (y3.toInt64 &&& 4294967295)) y4 (v.g 12) (v.gl 53) (v.gl 54)) → ∀ (r_10 : Int64), r_10 = X_15.1 → ∀ (u_11 : (Int32) × (Int64) × (Int64)), u_11 = X_15.2 → yI ((v.s_g (upd v.g 2 u_11.1)).s_gl (vp_updL (vp_updL v.gl 53 u_11.2.1) 54 u_11.2.2)) := by
  intro r_5 hq_r_5 X_15 hX_15 r_10 hq_r_10 u_11 hq_u_11
  exact hI
set_option maxHeartbeats 4000000 in
set_option maxRecDepth 100000 in
theorem kp_count1 {v : YV} (hI : yI v) {y1 y2 y3 y4 : Int32} : ∀ (r_5 : Int64), r_5 = (fx_count v.fTo v.FI v.GR v.FR y1 y2 ((y3.toInt64 <<< ((32 : Int32).toInt64 &&& 63)) ||| (y4.toInt64 &&& 4294967295))) → ∀ (X_13 : Int64 × (Int32)), X_13 = (fq_count v.f_landHas y1 y2 ((y3.toInt64 <<< ((32 : Int32).toInt64 &&& 63)) ||| (y4.toInt64 &&& 4294967295)) (v.g 12)) → ∀ (r_10 : Int64), r_10 = X_13.1 → ∀ (u_11 : (Int32)), u_11 = X_13.2 → yI (v.s_g (upd v.g 2 u_11)) := by
  intro r_5 hq_r_5 X_13 hX_13 r_10 hq_r_10 u_11 hq_u_11
  exact hI
set_option maxHeartbeats 4000000 in
set_option maxRecDepth 100000 in
theorem kp_round1 {v : YV} (hI : yI v) {y1 y2 y3 : Int32} : ∀ (r_4 : Int32), r_4 = (fx_round v.wd v.wf v.mp v.mb v.mo v.sp v.sb ((y1.toInt64 <<< ((32 : Int32).toInt64 &&& 63)) ||| (y2.toInt64 &&& 4294967295)) y3) → ∀ (X_11 : Int32 × (Int32)), X_11 = (fq_round v.f_sky ((y1.toInt64 <<< ((32 : Int32).toInt64 &&& 63)) ||| (y2.toInt64 &&& 4294967295)) y3) → ∀ (r_8 : Int32), r_8 = X_11.1 → ∀ (u_9 : (Int32)), u_9 = X_11.2 → yI (v.s_g (upd v.g 2 u_9)) := by
  intro r_4 hq_r_4 X_11 hX_11 r_8 hq_r_8 u_9 hq_u_9
  exact hI
set_option maxHeartbeats 4000000 in
set_option maxRecDepth 100000 in
theorem kp_feast1 {a : YA} {v : YV} (hI : yI v) {y1 y2 y3 : Int32} : ∀ (X_12 : Int32 × (Nat → Int64) × (Value) × (Int64) × (Int64) × (Int64) × (Int64)), X_12 = (fx_feast v.mla v.mct v.myr v.mdy v.mlg v.fTo a.La v.FI v.GR v.FR v.wd v.wf v.mp v.mb v.mo v.sp v.sb v.fRc v.fRe v.fRs y1 ((y2.toInt64 <<< ((32 : Int32).toInt64 &&& 63)) ||| (y3.toInt64 &&& 4294967295))) → ∀ (r_4 : Int32), r_4 = X_12.1 → ∀ (u_5 : (Nat → Int64) × (Value) × (Int64) × (Int64) × (Int64) × (Int64)), u_5 = X_12.2 → ∀ (X_24 : Int32 × (Int32) × (Int64) × (Int64) × (Int32) × (Nat → Int64) × (Nat → Int64)), X_24 = (fq_feast v.f_sky v.f_landHas v.f_first v.f_last v.f_knot v.f_part v.f_other v.f_names v.f_value y1 ((y2.toInt64 <<< ((32 : Int32).toInt64 &&& 63)) ||| (y3.toInt64 &&& 4294967295)) (v.g 12) (v.g 13) (v.gl 53) (v.gl 54) (v.g 57)) → ∀ (r_16 : Int32), r_16 = X_24.1 → ∀ (u_17 : (Int32) × (Int64) × (Int64) × (Int32) × (Nat → Int64) × (Nat → Int64)), u_17 = X_24.2 → yI ((((((((((v.s_mla (u_5.2.1)).s_mct u_5.2.2.1).s_myr u_5.2.2.2.1).s_mdy u_5.2.2.2.2.1).s_mlg u_5.2.2.2.2.2).s_fRs u_5.1).s_g (upd (upd v.g 2 u_17.1) 57 u_17.2.2.2.1)).s_gl (vp_updL (vp_updL v.gl 53 u_17.2.1) 54 u_17.2.2.1)).s_f_names u_17.2.2.2.2.1).s_f_value u_17.2.2.2.2.2) := by
  intro X_12 hX_12 r_4 hq_r_4 u_5 hq_u_5 X_24 hX_24 r_16 hq_r_16 u_17 hq_u_17
  exact hI
set_option maxHeartbeats 4000000 in
set_option maxRecDepth 100000 in
theorem kp_festive1 {a : YA} {v : YV} (hI : yI v) {y1 y2 y3 : Int32} : ∀ (X_17 : Int64 × (Value) × (Int64) × (Int64) × (Int64) × (Int64) × (Int32) × (Int32) × (Int32) × (Int32) × (Int32) × (Nat → Int64)), X_17 = (fx_festive v.mla v.mct v.myr v.mdy v.mlg v.w0 v.w1 v.w2 v.w3 v.w4 v.fTo a.La v.FI v.GR v.FR v.wd v.wf v.mp v.mb v.mo v.sp v.sb v.fRc v.fRe v.fRs y1 ((y2.toInt64 <<< ((32 : Int32).toInt64 &&& 63)) ||| (y3.toInt64 &&& 4294967295))) → ∀ (r_4 : Int64), r_4 = X_17.1 → ∀ (u_5 : (Value) × (Int64) × (Int64) × (Int64) × (Int64) × (Int32) × (Int32) × (Int32) × (Int32) × (Int32) × (Nat → Int64)), u_5 = X_17.2 → ∀ (X_29 : Int64 × (Int32) × (Int64) × (Int64) × (Int32) × (Nat → Int64) × (Nat → Int64)), X_29 = (fq_festive v.f_sky v.f_landHas v.f_first v.f_last v.f_knot v.f_part v.f_other v.f_names v.f_value y1 ((y2.toInt64 <<< ((32 : Int32).toInt64 &&& 63)) ||| (y3.toInt64 &&& 4294967295)) (v.g 12) (v.g 13) (v.gl 53) (v.gl 54) (v.g 57)) → ∀ (r_21 : Int64), r_21 = X_29.1 → ∀ (u_22 : (Int32) × (Int64) × (Int64) × (Int32) × (Nat → Int64) × (Nat → Int64)), u_22 = X_29.2 → yI (((((((((((((((v.s_mla (u_5.1)).s_mct u_5.2.1).s_myr u_5.2.2.1).s_mdy u_5.2.2.2.1).s_mlg u_5.2.2.2.2.1).s_w0 u_5.2.2.2.2.2.1).s_w1 u_5.2.2.2.2.2.2.1).s_w2 u_5.2.2.2.2.2.2.2.1).s_w3 u_5.2.2.2.2.2.2.2.2.1).s_w4 u_5.2.2.2.2.2.2.2.2.2.1).s_fRs u_5.2.2.2.2.2.2.2.2.2.2).s_g (upd (upd v.g 2 u_22.1) 57 u_22.2.2.2.1)).s_gl (vp_updL (vp_updL v.gl 53 u_22.2.1) 54 u_22.2.2.1)).s_f_names u_22.2.2.2.2.1).s_f_value u_22.2.2.2.2.2) := by
  intro X_17 hX_17 r_4 hq_r_4 u_5 hq_u_5 X_29 hX_29 r_21 hq_r_21 u_22 hq_u_22
  exact hI
set_option maxHeartbeats 4000000 in
set_option maxRecDepth 100000 in
theorem kp_rule1 {a : YA} {v : YV} (hI : yI v) {y1 y2 y3 : Int32} : ∀ (X_12 : Int64 × (Nat → Int64) × (Value) × (Int64) × (Int64) × (Int64) × (Int64)), X_12 = (fx_rule v.mla v.mct v.myr v.mdy v.mlg v.fTo a.La v.FI v.GR v.FR v.wd v.wf v.mp v.mb v.mo v.sp v.sb v.fRc v.fRe v.fRs y1 ((y2.toInt64 <<< ((32 : Int32).toInt64 &&& 63)) ||| (y3.toInt64 &&& 4294967295))) → ∀ (r_4 : Int64), r_4 = X_12.1 → ∀ (u_5 : (Nat → Int64) × (Value) × (Int64) × (Int64) × (Int64) × (Int64)), u_5 = X_12.2 → ∀ (X_24 : Int64 × (Int32) × (Int64) × (Int64) × (Int32) × (Nat → Int64) × (Nat → Int64)), X_24 = (fq_rule v.f_sky v.f_landHas v.f_first v.f_last v.f_knot v.f_part v.f_other v.f_names v.f_value y1 ((y2.toInt64 <<< ((32 : Int32).toInt64 &&& 63)) ||| (y3.toInt64 &&& 4294967295)) (v.g 12) (v.g 13) (v.gl 53) (v.gl 54) (v.g 57)) → ∀ (r_16 : Int64), r_16 = X_24.1 → ∀ (u_17 : (Int32) × (Int64) × (Int64) × (Int32) × (Nat → Int64) × (Nat → Int64)), u_17 = X_24.2 → yI ((((((((((v.s_mla (u_5.2.1)).s_mct u_5.2.2.1).s_myr u_5.2.2.2.1).s_mdy u_5.2.2.2.2.1).s_mlg u_5.2.2.2.2.2).s_fRs u_5.1).s_g (upd (upd v.g 2 u_17.1) 57 u_17.2.2.2.1)).s_gl (vp_updL (vp_updL v.gl 53 u_17.2.1) 54 u_17.2.2.1)).s_f_names u_17.2.2.2.2.1).s_f_value u_17.2.2.2.2.2) := by
  intro X_12 hX_12 r_4 hq_r_4 u_5 hq_u_5 X_24 hX_24 r_16 hq_r_16 u_17 hq_u_17
  exact hI
set_option maxHeartbeats 4000000 in
set_option maxRecDepth 100000 in
theorem kp_life1 {v : YV} (hI : yI v) {y1 y2 : Int32} : ∀ (r_3 : Int64), r_3 = (fx_life v.fTo v.fBo v.fDi y1 y2) → ∀ (X_9 : Int64 × (Int32)), X_9 = (fq_life v.f_born v.f_died y1 y2 (v.g 14)) → ∀ (r_6 : Int64), r_6 = X_9.1 → ∀ (u_7 : (Int32)), u_7 = X_9.2 → yI (v.s_g (upd v.g 2 u_7)) := by
  intro r_3 hq_r_3 X_9 hX_9 r_6 hq_r_6 u_7 hq_u_7
  exact hI
set_option maxHeartbeats 4000000 in
set_option maxRecDepth 100000 in
theorem kp_age1 {v : YV} (hI : yI v) {y1 y2 y3 y4 : Int32} : ∀ (r_5 : Int64), r_5 = (fx_age v.fTo v.FI v.GR v.FR v.fBo y1 ((y2.toInt64 <<< ((32 : Int32).toInt64 &&& 63)) ||| (y3.toInt64 &&& 4294967295)) y4) → ∀ (X_15 : Int64 × (Int32) × (Int64) × (Int64)), X_15 = (fq_age v.f_landHas v.f_born y1 ((y2.toInt64 <<< ((32 : Int32).toInt64 &&& 63)) ||| (y3.toInt64 &&& 4294967295)) y4 (v.g 12) (v.g 14) (v.gl 53) (v.gl 54)) → ∀ (r_10 : Int64), r_10 = X_15.1 → ∀ (u_11 : (Int32) × (Int64) × (Int64)), u_11 = X_15.2 → yI ((v.s_g (upd v.g 2 u_11.1)).s_gl (vp_updL (vp_updL v.gl 53 u_11.2.1) 54 u_11.2.2)) := by
  intro r_5 hq_r_5 X_15 hX_15 r_10 hq_r_10 u_11 hq_u_11
  exact hI
set_option maxHeartbeats 4000000 in
set_option maxRecDepth 100000 in
theorem kp_elder1 {v : YV} (hI : yI v) {y1 y2 : Int32} : ∀ (r_3 : Int32), r_3 = (fx_elder v.fTo v.fBo y1 y2) → ∀ (X_9 : Int32 × (Int32)), X_9 = (fq_elder v.f_born y1 y2 (v.g 14)) → ∀ (r_6 : Int32), r_6 = X_9.1 → ∀ (u_7 : (Int32)), u_7 = X_9.2 → yI (v.s_g (upd v.g 2 u_7)) := by
  intro r_3 hq_r_3 X_9 hX_9 r_6 hq_r_6 u_7 hq_u_7
  exact hI
set_option maxHeartbeats 4000000 in
set_option maxRecDepth 100000 in
theorem kp_often1 {v : YV} (hI : yI v) {y1 y2 y3 y4 y5 : Int32} : ∀ (r_6 : Int64), r_6 = (fx_often v.fTo v.FI v.GR v.FR y1 y2 y3 ((y4.toInt64 <<< ((32 : Int32).toInt64 &&& 63)) ||| (y5.toInt64 &&& 4294967295))) → ∀ (X_15 : Int64 × (Int32)), X_15 = (fq_often v.f_landHas y1 y2 y3 ((y4.toInt64 <<< ((32 : Int32).toInt64 &&& 63)) ||| (y5.toInt64 &&& 4294967295)) (v.g 12)) → ∀ (r_12 : Int64), r_12 = X_15.1 → ∀ (u_13 : (Int32)), u_13 = X_15.2 → yI (v.s_g (upd v.g 2 u_13)) := by
  intro r_6 hq_r_6 X_15 hX_15 r_12 hq_r_12 u_13 hq_u_13
  exact hI
set_option maxHeartbeats 4000000 in
set_option maxRecDepth 100000 in
theorem kp_springs1 {v : YV} (hI : yI v) {y1 y2 : Int32} : ∀ (r_3 : Int64), r_3 = (fx_springs v.fTo v.FI v.GR v.FR v.wd v.wf v.mp v.mb v.mo v.sp v.sb y1 y2) → ∀ (X_9 : Int64 × (Int32)), X_9 = (fq_springs v.f_sky v.f_landHas y1 y2 (v.g 12)) → ∀ (r_6 : Int64), r_6 = X_9.1 → ∀ (u_7 : (Int32)), u_7 = X_9.2 → yI (v.s_g (upd v.g 2 u_7)) := by
  intro r_3 hq_r_3 X_9 hX_9 r_6 hq_r_6 u_7 hq_u_7
  exact hI
set_option maxHeartbeats 4000000 in
set_option maxRecDepth 100000 in
theorem kp_many1 {v : YV} (hI : yI v) {y1 y2 y3 : Int32} : ∀ (r_4 : Int32), r_4 = (fx_many v.fTo v.FI v.GR v.FR v.wd v.wf v.mp v.mb v.mo v.sp v.sb y1 y2 y3) → ∀ (X_11 : Int32 × (Int32)), X_11 = (fq_many v.f_sky v.f_landHas y1 y2 y3 (v.g 12)) → ∀ (r_8 : Int32), r_8 = X_11.1 → ∀ (u_9 : (Int32)), u_9 = X_11.2 → yI (v.s_g (upd v.g 2 u_9)) := by
  intro r_4 hq_r_4 X_11 hX_11 r_8 hq_r_8 u_9 hq_u_9
  exact hI
set_option maxHeartbeats 4000000 in
set_option maxRecDepth 100000 in
theorem kp_next1 {a : YA} {v : YV} (hI : yI v) {y1 y2 y3 y4 y5 : Int32} : ∀ (X_19 : Int64 × (Value) × (Int64) × (Int64) × (Int64) × (Int64) × (Int32) × (Int32) × (Int32) × (Int32) × (Int32) × (Nat → Int64)), X_19 = (fx_next v.mla v.mct v.myr v.mdy v.mlg v.w0 v.w1 v.w2 v.w3 v.w4 v.fTo a.La v.FI v.GR v.FR v.wd v.wf v.mp v.mb v.mo v.sp v.sb v.fRc v.fRe v.fRs ((y1.toInt64 <<< ((32 : Int32).toInt64 &&& 63)) ||| (y2.toInt64 &&& 4294967295)) y3 y4 y5) → ∀ (r_6 : Int64), r_6 = X_19.1 → ∀ (u_7 : (Value) × (Int64) × (Int64) × (Int64) × (Int64) × (Int32) × (Int32) × (Int32) × (Int32) × (Int32) × (Nat → Int64)), u_7 = X_19.2 → ∀ (X_30 : Int64 × (Int32) × (Int64) × (Int64)), X_30 = (fq_next v.f_sky v.f_landHas ((y1.toInt64 <<< ((32 : Int32).toInt64 &&& 63)) ||| (y2.toInt64 &&& 4294967295)) y3 y4 y5 (v.g 12) (v.gl 53) (v.gl 54)) → ∀ (r_25 : Int64), r_25 = X_30.1 → ∀ (u_26 : (Int32) × (Int64) × (Int64)), u_26 = X_30.2 → yI (((((((((((((v.s_mla (u_7.1)).s_mct u_7.2.1).s_myr u_7.2.2.1).s_mdy u_7.2.2.2.1).s_mlg u_7.2.2.2.2.1).s_w0 u_7.2.2.2.2.2.1).s_w1 u_7.2.2.2.2.2.2.1).s_w2 u_7.2.2.2.2.2.2.2.1).s_w3 u_7.2.2.2.2.2.2.2.2.1).s_w4 u_7.2.2.2.2.2.2.2.2.2.1).s_fRs u_7.2.2.2.2.2.2.2.2.2.2).s_g (upd v.g 2 u_26.1)).s_gl (vp_updL (vp_updL v.gl 53 u_26.2.1) 54 u_26.2.2)) := by
  intro X_19 hX_19 r_6 hq_r_6 u_7 hq_u_7 X_30 hX_30 r_25 hq_r_25 u_26 hq_u_26
  exact hI
set_option maxHeartbeats 4000000 in
set_option maxRecDepth 100000 in
theorem kp_deed1 {a : YA} {v : YV} (hI : yI v) {y1 y2 y3 : Int32} : ∀ (X_17 : Int64 × (Value) × (Int64) × (Int64) × (Int64) × (Int64) × (Int32) × (Int32) × (Int32) × (Int32) × (Int32) × (Nat → Int64)), X_17 = (fx_deed v.mla v.mct v.myr v.mdy v.mlg v.w0 v.w1 v.w2 v.w3 v.w4 v.fTo a.La v.FI v.GR v.FR v.wd v.wf v.mp v.mb v.mo v.sp v.sb v.fRc v.fRe v.fRs v.fDa v.fDk v.fDt v.fDp y1 y2 y3) → ∀ (r_4 : Int64), r_4 = X_17.1 → ∀ (u_5 : (Value) × (Int64) × (Int64) × (Int64) × (Int64) × (Int32) × (Int32) × (Int32) × (Int32) × (Int32) × (Nat → Int64)), u_5 = X_17.2 → ∀ (X_29 : Int64 × (Int32) × (Int64) × (Int64) × (Int32) × (Nat → Int64) × (Nat → Int64)), X_29 = (fq_deed v.f_sky v.f_landHas v.f_first v.f_last v.f_deedOn v.f_deedHas v.f_knot v.f_part v.f_other v.f_names v.f_value y1 y2 y3 (v.g 12) (v.g 15) (v.gl 53) (v.gl 54) (v.g 57)) → ∀ (r_21 : Int64), r_21 = X_29.1 → ∀ (u_22 : (Int32) × (Int64) × (Int64) × (Int32) × (Nat → Int64) × (Nat → Int64)), u_22 = X_29.2 → yI (((((((((((((((v.s_mla (u_5.1)).s_mct u_5.2.1).s_myr u_5.2.2.1).s_mdy u_5.2.2.2.1).s_mlg u_5.2.2.2.2.1).s_w0 u_5.2.2.2.2.2.1).s_w1 u_5.2.2.2.2.2.2.1).s_w2 u_5.2.2.2.2.2.2.2.1).s_w3 u_5.2.2.2.2.2.2.2.2.1).s_w4 u_5.2.2.2.2.2.2.2.2.2.1).s_fRs u_5.2.2.2.2.2.2.2.2.2.2).s_g (upd (upd v.g 2 u_22.1) 57 u_22.2.2.2.1)).s_gl (vp_updL (vp_updL v.gl 53 u_22.2.1) 54 u_22.2.2.1)).s_f_names u_22.2.2.2.2.1).s_f_value u_22.2.2.2.2.2) := by
  intro X_17 hX_17 r_4 hq_r_4 u_5 hq_u_5 X_29 hX_29 r_21 hq_r_21 u_22 hq_u_22
  exact hI
set_option maxHeartbeats 4000000 in
set_option maxRecDepth 100000 in
theorem kp_ends1 {v : YV} (hI : yI v) {y1 y2 y3 y4 : Int32} : ∀ (r_5 : Int32), r_5 = (fx_ends v.fTo v.FI v.GR v.FR y1 ((y2.toInt64 <<< ((32 : Int32).toInt64 &&& 63)) ||| (y3.toInt64 &&& 4294967295)) y4) → ∀ (X_15 : Int32 × (Int32) × (Int64) × (Int64)), X_15 = (fq_ends v.f_landHas y1 ((y2.toInt64 <<< ((32 : Int32).toInt64 &&& 63)) ||| (y3.toInt64 &&& 4294967295)) y4 (v.g 12) (v.gl 53) (v.gl 54)) → ∀ (r_10 : Int32), r_10 = X_15.1 → ∀ (u_11 : (Int32) × (Int64) × (Int64)), u_11 = X_15.2 → yI ((v.s_g (upd v.g 2 u_11.1)).s_gl (vp_updL (vp_updL v.gl 53 u_11.2.1) 54 u_11.2.2)) := by
  intro r_5 hq_r_5 X_15 hX_15 r_10 hq_r_10 u_11 hq_u_11
  exact hI
set_option maxHeartbeats 4000000 in
set_option maxRecDepth 100000 in
theorem kp_hire1 {v : YV} (hI : yI v) {y1 y2 y3 y4 y5 : Int32} : ∀ (r_6 : Int64), r_6 = (fx_hire v.fTo v.FI v.GR v.FR y1 ((y2.toInt64 <<< ((32 : Int32).toInt64 &&& 63)) ||| (y3.toInt64 &&& 4294967295)) y4 y5) → ∀ (X_17 : Int64 × (Int32) × (Int64) × (Int64)), X_17 = (fq_hire v.f_landHas y1 ((y2.toInt64 <<< ((32 : Int32).toInt64 &&& 63)) ||| (y3.toInt64 &&& 4294967295)) y4 y5 (v.g 12) (v.gl 53) (v.gl 54)) → ∀ (r_12 : Int64), r_12 = X_17.1 → ∀ (u_13 : (Int32) × (Int64) × (Int64)), u_13 = X_17.2 → yI ((v.s_g (upd v.g 2 u_13.1)).s_gl (vp_updL (vp_updL v.gl 53 u_13.2.1) 54 u_13.2.2)) := by
  intro r_6 hq_r_6 X_17 hX_17 r_12 hq_r_12 u_13 hq_u_13
  exact hI
set_option maxHeartbeats 4000000 in
set_option maxRecDepth 100000 in
theorem kp_parts1 {v : YV} (hI : yI v) {y1 y2 y3 : Int32} : ∀ (r_4 : Int32), r_4 = (fx_parts v.fTo v.FI v.GR v.FR y1 y2 y3) → ∀ (X_11 : Int32 × (Int32)), X_11 = (fq_parts v.f_landHas y1 y2 y3 (v.g 12)) → ∀ (r_8 : Int32), r_8 = X_11.1 → ∀ (u_9 : (Int32)), u_9 = X_11.2 → yI (v.s_g (upd v.g 2 u_9)) := by
  intro r_4 hq_r_4 X_11 hX_11 r_8 hq_r_8 u_9 hq_u_9
  exact hI
set_option maxHeartbeats 4000000 in
set_option maxRecDepth 100000 in
theorem kp_months1 {v : YV} (hI : yI v) {y1 y2 y3 : Int32} : ∀ (r_4 : Int32), r_4 = (fx_months v.fTo v.FI v.GR v.FR y1 y2 y3) → ∀ (X_11 : Int32 × (Int32)), X_11 = (fq_months v.f_landHas y1 y2 y3 (v.g 12)) → ∀ (r_8 : Int32), r_8 = X_11.1 → ∀ (u_9 : (Int32)), u_9 = X_11.2 → yI (v.s_g (upd v.g 2 u_9)) := by
  intro r_4 hq_r_4 X_11 hX_11 r_8 hq_r_8 u_9 hq_u_9
  exact hI
set_option maxHeartbeats 4000000 in
set_option maxRecDepth 100000 in
theorem kp_note1 {v : YV} (hI : yI v) : ∀ (X_10 : Int32 × (Int32) × (Nat → Int32) × (Int32) × (Nat → Int32) × (Int32)), X_10 = (fx_note v.xsc v.fSt v.dfr v.ns v.fNs) → ∀ (r_1 : Int32), r_1 = X_10.1 → ∀ (u_2 : (Int32) × (Nat → Int32) × (Int32) × (Nat → Int32) × (Int32)), u_2 = X_10.2 → ∀ (X_18 : Int32 × (Int32) × (Int32) × (Int32) × (Nat → Int32) × (Nat → Int32)), X_18 = (fq_note v.f_noteHas v.f_undo (v.g 16) (v.g 59)) → ∀ (r_11 : Int32), r_11 = X_18.1 → ∀ (u_12 : (Int32) × (Int32) × (Int32) × (Nat → Int32) × (Nat → Int32)), u_12 = X_18.2 → (¬ u_2.1 < 0) → (u_2.1 ≤ 108) → yI ((((((((v.s_xsc u_2.1).s_fSt u_2.2.1).s_dfr u_2.2.2.2.2).s_ns u_2.2.2.1).s_fNs u_2.2.2.2.1).s_g (upd (upd (upd v.g 2 u_12.1) 16 u_12.2.1) 59 u_12.2.2.1)).s_f_noteHas u_12.2.2.2.1).s_f_undo u_12.2.2.2.2) := by
  intro X_10 hX_10 r_1 hq_r_1 u_2 hq_u_2 X_18 hX_18 r_11 hq_r_11 u_12 hq_u_12 hp_8 hp_9
  have n0 := hI.low.2.2.2.2.1.1
  have n2 := hI.low.2.2.2.2.1.2
  have hN := xLow_N hI.low
  have hk := zk_note hI.lw.2.2.2.2.2.2.2 hI.st n0 n2 hI.un0 hI.un8 hI.unP _ hX_10 _ hX_18
  subst hq_u_2
  subst hq_u_12
  rcases yS_note hX_18 n0 n2 with ⟨e1, e2, e3, e4⟩ | ⟨e0, e1, e2, e3, e4, e5⟩
  · have hN2 : yNN X_18.2.2.2.2.1 X_18.2.2.1 (v.g 14) (v.g 13) := by rw [e1, e3]; exact hN
    have hP2 : yPu X_18.2.2.2.2.2 X_18.2.2.2.2.1 X_18.2.2.2.1 X_18.2.2.1 := by rw [e1, e2, e3, e4]; exact hI.unP
    have hZ : ¬ X_18.2.2.1 < 0 ∧ X_18.2.2.1 ≤ 12 ∧ ¬ X_18.2.2.2.1 < 0 := by rw [e1, e2]; exact ⟨n0, n2, hI.un0⟩
    exact yI_mk hI.iz0 hI.iz2 hI.fi0 hI.fi9 hI.lz0 hI.lz2 hp_8 hp_9 hI.hT hI.hE hI.tape (xLow_n (no2 := X_18.2.2.1) (fnh2 := X_18.2.2.2.2.1) hI.low hZ.1 hZ.2.1 hN2) hI.ku hI.tc hI.to0 hI.to2 hI.w7 hZ.2.2 hP2 hI.im hI.tb hI.co hI.wd hI.fa hI.fp (⟨hI.lw.1, hI.lw.2.1, hI.lw.2.2.1, hI.lw.2.2.2.1, hI.lw.2.2.2.2.1, hI.lw.2.2.2.2.2.1, hI.lw.2.2.2.2.2.2.1, hk.2.1⟩) hI.fw hk.2.2 hI.lg hI.ig
  · have hN2 : yNN X_18.2.2.2.2.1 X_18.2.2.1 (v.g 14) (v.g 13) := by rw [e1]; exact yNN_note n0 n2 hN e3 e4
    have hP2 : yPu X_18.2.2.2.2.2 X_18.2.2.2.2.1 X_18.2.2.2.1 X_18.2.2.1 := by rw [e1, e2, e5]; exact yPu_note hI.un0 hI.un8 n0 n2 hI.unP e3
    have hZ : ¬ X_18.2.2.1 < 0 ∧ X_18.2.2.1 ≤ 12 ∧ ¬ X_18.2.2.2.1 < 0 := by rw [e1, e2]; have q8 := hI.un8; have q0 := hI.un0; exact ⟨by lia, by lia, by lia⟩
    exact yI_mk hI.iz0 hI.iz2 hI.fi0 hI.fi9 hI.lz0 hI.lz2 hp_8 hp_9 hI.hT hI.hE hI.tape (xLow_n (no2 := X_18.2.2.1) (fnh2 := X_18.2.2.2.2.1) hI.low hZ.1 hZ.2.1 hN2) hI.ku hI.tc hI.to0 hI.to2 hI.w7 hZ.2.2 hP2 hI.im hI.tb hI.co hI.wd hI.fa hI.fp (⟨hI.lw.1, hI.lw.2.1, hI.lw.2.2.1, hI.lw.2.2.2.1, hI.lw.2.2.2.2.1, hI.lw.2.2.2.2.2.1, hI.lw.2.2.2.2.2.2.1, hk.2.1⟩) hI.fw hk.2.2 hI.lg hI.ig
set_option maxHeartbeats 4000000 in
set_option maxRecDepth 100000 in
theorem kp_says1 {v : YV} (hI : yI v) {y1 y2 y3 : Int32} : ∀ (X_14 : Int32 × (Int32) × (Nat → Int32) × (Int32) × (Nat → Int32) × (Nat → Int32) × (Nat → Int32)), X_14 = (fx_says v.xsc v.fSt v.dfr v.fTo v.ns v.fNs v.fNf v.fNz y1 y2 y3) → ∀ (r_4 : Int32), r_4 = X_14.1 → ∀ (u_5 : (Int32) × (Nat → Int32) × (Int32) × (Nat → Int32) × (Nat → Int32) × (Nat → Int32)), u_5 = X_14.2 → ∀ (X_24 : Int32 × (Int32) × (Int32) × (Nat → Int32) × (Nat → Int32)), X_24 = (fq_says v.f_noteHas v.f_undo y1 y2 y3 (v.g 13) (v.g 14) (v.g 16) (v.g 59)) → ∀ (r_18 : Int32), r_18 = X_24.1 → ∀ (u_19 : (Int32) × (Int32) × (Nat → Int32) × (Nat → Int32)), u_19 = X_24.2 → (¬ u_5.1 < 0) → (u_5.1 ≤ 108) → yI (((((((((v.s_xsc u_5.1).s_fSt u_5.2.1).s_dfr u_5.2.2.1).s_fNs u_5.2.2.2.1).s_fNf u_5.2.2.2.2.1).s_fNz u_5.2.2.2.2.2).s_g (upd (upd v.g 2 u_19.1) 59 u_19.2.1)).s_f_noteHas u_19.2.2.1).s_f_undo u_19.2.2.2) := by
  intro X_14 hX_14 r_4 hq_r_4 u_5 hq_u_5 X_24 hX_24 r_18 hq_r_18 u_19 hq_u_19 hp_12 hp_13
  have n0 := hI.low.2.2.2.2.1.1
  have n2 := hI.low.2.2.2.2.1.2
  have hN := xLow_N hI.low
  have hk := zk_says hI.lw.2.2.2.2.2.2.2 hI.st n0 n2 hI.un0 hI.un8 hI.unP hI.lw.1.2.1 hI.lw.1.2.2.1 hN _ hX_14 _ hX_24
  subst hq_u_5
  subst hq_u_19
  rcases yS_says hX_24 n0 n2 with ⟨e1, e2, e3⟩ | ⟨e0, w0, w8, e1, e2, e3, e4⟩
  · have hN2 : yNN X_24.2.2.2.1 (v.g 16) (v.g 14) (v.g 13) := by rw [e2]; exact hN
    have hP2 : yPu X_24.2.2.2.2 X_24.2.2.2.1 X_24.2.2.1 (v.g 16) := by rw [e1, e2, e3]; exact hI.unP
    have hZ : ¬ X_24.2.2.1 < 0 := by rw [e1]; exact hI.un0
    exact yI_mk hI.iz0 hI.iz2 hI.fi0 hI.fi9 hI.lz0 hI.lz2 hp_12 hp_13 hI.hT hI.hE hI.tape (xLow_n (no2 := v.g 16) (fnh2 := X_24.2.2.2.1) hI.low n0 n2 hN2) hI.ku hI.tc hI.to0 hI.to2 hI.w7 hZ hP2 hI.im hI.tb hI.co hI.wd hI.fa hI.fp (⟨hI.lw.1, hI.lw.2.1, hI.lw.2.2.1, hI.lw.2.2.2.1, hI.lw.2.2.2.2.1, hI.lw.2.2.2.2.2.1, hI.lw.2.2.2.2.2.2.1, hk.2.1⟩) hI.fw hk.2.2 hI.lg hI.ig
  · have hq := yNN_says e0 n2 w0 w8 hN e4
    have hix : (11 * (v.g 16 - 1)).toNatClampNeg = 11 * (v.g 16 - 1).toNatClampNeg := by
      rw [xl_m0 11 (by decide) (by decide) (by lia) (by lia)]
      rfl
    rw [hix] at e3
    have hN2 : yNN X_24.2.2.2.1 (v.g 16) (v.g 14) (v.g 13) := hq.1
    have hP2 : yPu X_24.2.2.2.2 X_24.2.2.2.1 X_24.2.2.1 (v.g 16) := by rw [e1, e2]; exact yPu_says hI.un0 hI.un8 e0 n2 w0 w8 hI.unP e3 hq.2.2 hq.2.1
    have hZ : ¬ X_24.2.2.1 < 0 := by rw [e1]; have q8 := hI.un8; have q0 := hI.un0; lia
    exact yI_mk hI.iz0 hI.iz2 hI.fi0 hI.fi9 hI.lz0 hI.lz2 hp_12 hp_13 hI.hT hI.hE hI.tape (xLow_n (no2 := v.g 16) (fnh2 := X_24.2.2.2.1) hI.low n0 n2 hN2) hI.ku hI.tc hI.to0 hI.to2 hI.w7 hZ hP2 hI.im hI.tb hI.co hI.wd hI.fa hI.fp (⟨hI.lw.1, hI.lw.2.1, hI.lw.2.2.1, hI.lw.2.2.2.1, hI.lw.2.2.2.2.1, hI.lw.2.2.2.2.2.1, hI.lw.2.2.2.2.2.2.1, hk.2.1⟩) hI.fw hk.2.2 hI.lg hI.ig
set_option maxHeartbeats 4000000 in
set_option maxRecDepth 100000 in
theorem kp_undo1 {v : YV} (hI : yI v) : ∀ (X_9 : Int32 × (Int32) × (Int32) × (Nat → Int32) × (Int32)), X_9 = (fx_undo v.xsc v.fSt v.dfr v.ns v.fNs) → ∀ (r_1 : Int32), r_1 = X_9.1 → ∀ (u_2 : (Int32) × (Int32) × (Nat → Int32) × (Int32)), u_2 = X_9.2 → ∀ (X_16 : Int32 × (Int32) × (Int32) × (Nat → Int32) × (Int32)), X_16 = (fq_undo v.f_noteHas v.f_undo (v.g 16) (v.g 59)) → ∀ (r_10 : Int32), r_10 = X_16.1 → ∀ (u_11 : (Int32) × (Int32) × (Nat → Int32) × (Int32)), u_11 = X_16.2 → (¬ u_2.1 < 0) → (u_2.1 ≤ 108) → yI ((((((v.s_xsc u_2.1).s_dfr u_2.2.2.2).s_ns u_2.2.1).s_fNs u_2.2.2.1).s_g (upd (upd (upd v.g 2 u_11.1) 16 u_11.2.2.2) 59 u_11.2.1)).s_f_noteHas u_11.2.2.1) := by
  intro X_9 hX_9 r_1 hq_r_1 u_2 hq_u_2 X_16 hX_16 r_10 hq_r_10 u_11 hq_u_11 hp_7 hp_8
  have n0 := hI.low.2.2.2.2.1.1
  have n2 := hI.low.2.2.2.2.1.2
  have hN := xLow_N hI.low
  have hk := zk_undo hI.lw.2.2.2.2.2.2.2 hI.st n0 n2 hI.un0 hI.un8 hI.unP _ hX_9 _ hX_16
  subst hq_u_2
  subst hq_u_11
  obtain ⟨z1, z2, z3, z4, z5⟩ := yS_undo hX_16 n0 n2 hI.un0 hI.unP hN
  exact yI_mk hI.iz0 hI.iz2 hI.fi0 hI.fi9 hI.lz0 hI.lz2 hp_7 hp_8 hI.hT hI.hE hI.tape (xLow_n (no2 := X_16.2.2.2.2) (fnh2 := X_16.2.2.2.1) hI.low z2 z3 z5) hI.ku hI.tc hI.to0 hI.to2 hI.w7 z1 z4 hI.im hI.tb hI.co hI.wd hI.fa hI.fp (⟨hI.lw.1, hI.lw.2.1, hI.lw.2.2.1, hI.lw.2.2.2.1, hI.lw.2.2.2.2.1, hI.lw.2.2.2.2.2.1, hI.lw.2.2.2.2.2.2.1, hk.2.1⟩) hI.fw hk.2.2 hI.lg hI.ig
set_option maxHeartbeats 4000000 in
set_option maxRecDepth 100000 in
theorem kp_alone1 {a : YA} {v : YV} (hI : yI v) {y1 y2 : Int32} : ∀ (X_20 : Int32 × (Value) × (Int64) × (Int64) × (Int64) × (Int64) × (Int32) × (Int32) × (Int32) × (Int32) × (Int32) × (Nat → Int64) × (Int32) × (Nat → Int32) × (Nat → Int32) × (Nat → Nat → Int64)), X_20 = (fx_alone v.dfr v.fRw v.fSh v.fTp v.dla v.dct v.dyr v.ddy v.dlg v.v0 v.v1 v.v2 v.v3 v.v4 v.fTo a.La v.FI v.GR v.FR v.wd v.wf v.mp v.mb v.mo v.sp v.sb v.fRc v.fRe v.fRs v.fBo v.fDi v.ns v.fNs v.fNf v.fNz y1 y2) → ∀ (r_3 : Int32), r_3 = X_20.1 → ∀ (u_4 : (Value) × (Int64) × (Int64) × (Int64) × (Int64) × (Int32) × (Int32) × (Int32) × (Int32) × (Int32) × (Nat → Int64) × (Int32) × (Nat → Int32) × (Nat → Int32) × (Nat → Nat → Int64)), u_4 = X_20.2 → ∀ (X_35 : Int32 × (Int32) × (Int64) × (Int64) × (Int32) × (Int32) × (Int32) × (Int32) × (Nat → Int64) × (Nat → Int64) × (Nat → Int32)), X_35 = (fq_alone v.f_sky v.f_landHas v.f_first v.f_last v.f_born v.f_died v.f_noteHas v.f_knot v.f_part v.f_other v.f_names v.f_value v.f_can y1 y2 (v.g 12) (v.g 16) (v.gl 53) (v.gl 54) (v.g 57) (v.g 62) (v.g 63) (v.g 64)) → ∀ (r_23 : Int32), r_23 = X_35.1 → ∀ (u_24 : (Int32) × (Int64) × (Int64) × (Int32) × (Int32) × (Int32) × (Int32) × (Nat → Int64) × (Nat → Int64) × (Nat → Int32)), u_24 = X_35.2 → yI ((((((((((((((((((((v.s_dfr u_4.2.2.2.2.2.2.2.2.2.2.2.1).s_fRw u_4.2.2.2.2.2.2.2.2.2.2.2.2.2.2).s_fSh u_4.2.2.2.2.2.2.2.2.2.2.2.2.1).s_fTp u_4.2.2.2.2.2.2.2.2.2.2.2.2.2.1).s_dla (u_4.1)).s_dct u_4.2.1).s_dyr u_4.2.2.1).s_ddy u_4.2.2.2.1).s_dlg u_4.2.2.2.2.1).s_v0 u_4.2.2.2.2.2.1).s_v1 u_4.2.2.2.2.2.2.1).s_v2 u_4.2.2.2.2.2.2.2.1).s_v3 u_4.2.2.2.2.2.2.2.2.1).s_v4 u_4.2.2.2.2.2.2.2.2.2.1).s_fRs u_4.2.2.2.2.2.2.2.2.2.2.1).s_g (upd (upd (upd (upd (upd v.g 2 u_24.1) 57 u_24.2.2.2.1) 62 u_24.2.2.2.2.1) 63 u_24.2.2.2.2.2.1) 64 u_24.2.2.2.2.2.2.1)).s_gl (vp_updL (vp_updL v.gl 53 u_24.2.1) 54 u_24.2.2.1)).s_f_names u_24.2.2.2.2.2.2.2.1).s_f_value u_24.2.2.2.2.2.2.2.2.1).s_f_can u_24.2.2.2.2.2.2.2.2.2) := by
  intro X_20 hX_20 r_3 hq_r_3 u_4 hq_u_4 X_35 hX_35 r_23 hq_r_23 u_24 hq_u_24
  exact hI
set_option maxHeartbeats 4000000 in
set_option maxRecDepth 100000 in
theorem kp_fits1 {a : YA} {v : YV} (hI : yI v) {y1 y2 : Int32} : ∀ (X_20 : Int32 × (Value) × (Int64) × (Int64) × (Int64) × (Int64) × (Int32) × (Int32) × (Int32) × (Int32) × (Int32) × (Nat → Int64) × (Int32) × (Nat → Int32) × (Nat → Int32) × (Nat → Nat → Int64)), X_20 = (fx_fits v.dfr v.fRw v.fSh v.fTp v.dla v.dct v.dyr v.ddy v.dlg v.v0 v.v1 v.v2 v.v3 v.v4 v.fTo a.La v.FI v.GR v.FR v.wd v.wf v.mp v.mb v.mo v.sp v.sb v.fRc v.fRe v.fRs v.fBo v.fDi v.ns v.fNs v.fNf v.fNz y1 y2) → ∀ (r_3 : Int32), r_3 = X_20.1 → ∀ (u_4 : (Value) × (Int64) × (Int64) × (Int64) × (Int64) × (Int32) × (Int32) × (Int32) × (Int32) × (Int32) × (Nat → Int64) × (Int32) × (Nat → Int32) × (Nat → Int32) × (Nat → Nat → Int64)), u_4 = X_20.2 → ∀ (X_37 : Int32 × (Int32) × (Nat → Int64) × (Nat → Int64) × (Int64) × (Int64) × (Int32) × (Int32) × (Int32) × (Int32) × (Nat → Int32) × (Nat → Int32) × (Nat → Int32)), X_37 = (fq_fits v.f_sky v.f_landHas v.f_first v.f_last v.f_born v.f_died v.f_noteHas v.f_knot v.f_part v.f_other v.f_names v.f_value v.f_can v.f_root v.f_off y1 y2 (v.g 12) (v.g 16) (v.gl 53) (v.gl 54) (v.g 57) (v.g 62) (v.g 63) (v.g 64)) → ∀ (r_23 : Int32), r_23 = X_37.1 → ∀ (u_24 : (Int32) × (Nat → Int64) × (Nat → Int64) × (Int64) × (Int64) × (Int32) × (Int32) × (Int32) × (Int32) × (Nat → Int32) × (Nat → Int32) × (Nat → Int32)), u_24 = X_37.2 → yI ((((((((((((((((((((((v.s_dfr u_4.2.2.2.2.2.2.2.2.2.2.2.1).s_fRw u_4.2.2.2.2.2.2.2.2.2.2.2.2.2.2).s_fSh u_4.2.2.2.2.2.2.2.2.2.2.2.2.1).s_fTp u_4.2.2.2.2.2.2.2.2.2.2.2.2.2.1).s_dla (u_4.1)).s_dct u_4.2.1).s_dyr u_4.2.2.1).s_ddy u_4.2.2.2.1).s_dlg u_4.2.2.2.2.1).s_v0 u_4.2.2.2.2.2.1).s_v1 u_4.2.2.2.2.2.2.1).s_v2 u_4.2.2.2.2.2.2.2.1).s_v3 u_4.2.2.2.2.2.2.2.2.1).s_v4 u_4.2.2.2.2.2.2.2.2.2.1).s_fRs u_4.2.2.2.2.2.2.2.2.2.2.1).s_g (upd (upd (upd (upd (upd v.g 2 u_24.1) 57 u_24.2.2.2.2.2.1) 62 u_24.2.2.2.2.2.2.1) 63 u_24.2.2.2.2.2.2.2.1) 64 u_24.2.2.2.2.2.2.2.2.1)).s_gl (vp_updL (vp_updL v.gl 53 u_24.2.2.2.1) 54 u_24.2.2.2.2.1)).s_f_names u_24.2.1).s_f_value u_24.2.2.1).s_f_can u_24.2.2.2.2.2.2.2.2.2.1).s_f_root u_24.2.2.2.2.2.2.2.2.2.2.1).s_f_off u_24.2.2.2.2.2.2.2.2.2.2.2) := by
  intro X_20 hX_20 r_3 hq_r_3 u_4 hq_u_4 X_37 hX_37 r_23 hq_r_23 u_24 hq_u_24
  exact hI
set_option maxHeartbeats 4000000 in
set_option maxRecDepth 100000 in
theorem kp_gap1 {a : YA} {v : YV} (hI : yI v) : ∀ (X_18 : Int32 × (Value) × (Int64) × (Int64) × (Int64) × (Int64) × (Int32) × (Int32) × (Int32) × (Int32) × (Int32) × (Nat → Int64) × (Int32) × (Nat → Int32) × (Nat → Int32) × (Nat → Nat → Int64)), X_18 = (fx_gap v.dfr v.fRw v.fSh v.fTp v.dla v.dct v.dyr v.ddy v.dlg v.v0 v.v1 v.v2 v.v3 v.v4 v.fTo a.La v.FI v.GR v.FR v.wd v.wf v.mp v.mb v.mo v.sp v.sb v.fRc v.fRe v.fRs v.fBo v.fDi v.ns v.fNs v.fNf v.fNz) → ∀ (r_1 : Int32), r_1 = X_18.1 → ∀ (u_2 : (Value) × (Int64) × (Int64) × (Int64) × (Int64) × (Int32) × (Int32) × (Int32) × (Int32) × (Int32) × (Nat → Int64) × (Int32) × (Nat → Int32) × (Nat → Int32) × (Nat → Nat → Int64)), u_2 = X_18.2 → ∀ (X_33 : Int32 × (Int32) × (Int64) × (Int64) × (Int32) × (Nat → Int64) × (Nat → Int64) × (Nat → Int32) × (Int32) × (Int32) × (Int32) × (Nat → Int32) × (Nat → Int32)), X_33 = (fq_gap v.f_sky v.f_landHas v.f_first v.f_last v.f_born v.f_died v.f_noteHas v.f_knot v.f_part v.f_other v.f_names v.f_value v.f_can v.f_root v.f_off (v.g 12) (v.g 16) (v.gl 53) (v.gl 54) (v.g 57) (v.g 62) (v.g 63) (v.g 64)) → ∀ (r_19 : Int32), r_19 = X_33.1 → ∀ (u_20 : (Int32) × (Int64) × (Int64) × (Int32) × (Nat → Int64) × (Nat → Int64) × (Nat → Int32) × (Int32) × (Int32) × (Int32) × (Nat → Int32) × (Nat → Int32)), u_20 = X_33.2 → yI ((((((((((((((((((((((v.s_dfr u_2.2.2.2.2.2.2.2.2.2.2.2.1).s_fRw u_2.2.2.2.2.2.2.2.2.2.2.2.2.2.2).s_fSh u_2.2.2.2.2.2.2.2.2.2.2.2.2.1).s_fTp u_2.2.2.2.2.2.2.2.2.2.2.2.2.2.1).s_dla (u_2.1)).s_dct u_2.2.1).s_dyr u_2.2.2.1).s_ddy u_2.2.2.2.1).s_dlg u_2.2.2.2.2.1).s_v0 u_2.2.2.2.2.2.1).s_v1 u_2.2.2.2.2.2.2.1).s_v2 u_2.2.2.2.2.2.2.2.1).s_v3 u_2.2.2.2.2.2.2.2.2.1).s_v4 u_2.2.2.2.2.2.2.2.2.2.1).s_fRs u_2.2.2.2.2.2.2.2.2.2.2.1).s_g (upd (upd (upd (upd (upd v.g 2 u_20.1) 57 u_20.2.2.2.1) 62 u_20.2.2.2.2.2.2.2.1) 63 u_20.2.2.2.2.2.2.2.2.1) 64 u_20.2.2.2.2.2.2.2.2.2.1)).s_gl (vp_updL (vp_updL v.gl 53 u_20.2.1) 54 u_20.2.2.1)).s_f_names u_20.2.2.2.2.1).s_f_value u_20.2.2.2.2.2.1).s_f_can u_20.2.2.2.2.2.2.1).s_f_root u_20.2.2.2.2.2.2.2.2.2.2.1).s_f_off u_20.2.2.2.2.2.2.2.2.2.2.2) := by
  intro X_18 hX_18 r_1 hq_r_1 u_2 hq_u_2 X_33 hX_33 r_19 hq_r_19 u_20 hq_u_20
  exact hI
set_option maxHeartbeats 4000000 in
set_option maxRecDepth 100000 in
theorem kp_told1 {v : YV} (hI : yI v) {y1 y2 : Int32} : ∀ (X_10 : Int32 × (Int32) × (Nat → Int32) × (Nat → Int32)), X_10 = (fx_told v.lz v.fLn v.fLc v.ns y1 y2) → ∀ (r_3 : Int32), r_3 = X_10.1 → ∀ (u_4 : (Int32) × (Nat → Int32) × (Nat → Int32)), u_4 = X_10.2 → ∀ (X_19 : Int32 × (Int32) × (Int32) × (Nat → Int32) × (Nat → Int32)), X_19 = (fq_told v.f_toldNote v.f_toldCount y1 y2 (v.g 16) (v.g 67)) → ∀ (r_13 : Int32), r_13 = X_19.1 → ∀ (u_14 : (Int32) × (Int32) × (Nat → Int32) × (Nat → Int32)), u_14 = X_19.2 → (¬ u_4.1 < 0) → (u_4.1 ≤ 20) → yI ((((((v.s_lz u_4.1).s_fLn u_4.2.1).s_fLc u_4.2.2).s_g (upd (upd v.g 2 u_14.1) 67 u_14.2.1)).s_f_toldNote u_14.2.2.1).s_f_toldCount u_14.2.2.2) := by
  intro X_10 hX_10 r_3 hq_r_3 u_4 hq_u_4 X_19 hX_19 r_13 hq_r_13 u_14 hq_u_14 hp_8 hp_9
  have n0 := hI.low.2.2.2.2.1.1
  have n2 := hI.low.2.2.2.2.1.2
  have hN := xLow_N hI.low
  have hk := zk_told hI.lg hI.to0 hI.to2 hI.lw.2.2.2.2.2.2.2.1 _ hX_10 _ hX_19
  subst hq_u_4
  subst hq_u_14
  obtain ⟨z1, z2, z3⟩ := yS_told hX_19 hI.to0 hI.to2 hI.tc
  exact yI_mk hI.iz0 hI.iz2 hI.fi0 hI.fi9 hp_8 hp_9 hI.sc0 hI.sc8 hI.hT hI.hE hI.tape hI.low hI.ku z3 z1 z2 hI.w7 hI.un0 hI.unP hI.im hI.tb hI.co hI.wd hI.fa hI.fp hI.lw hI.fw hI.st hk.2 hI.ig
set_option maxHeartbeats 4000000 in
set_option maxRecDepth 100000 in
theorem kp_judged1 {a : YA} {v : YV} (hI : yI v) : ∀ (X_16 : Int32 × (Int32) × (Value) × (Int64) × (Int64) × (Int64) × (Int64) × (Int32) × (Int32) × (Int32) × (Int32) × (Int32) × (Nat → Int64) × (Nat → Nat → Int64)), X_16 = (fx_judged v.lz v.fLn v.fLc v.dfr v.fRw v.dla v.dct v.dyr v.ddy v.dlg v.v0 v.v1 v.v2 v.v3 v.v4 v.fTo a.La v.FI v.GR v.FR v.wd v.wf v.mp v.mb v.mo v.sp v.sb v.fRc v.fRe v.fRs v.fBo v.fDi v.ns v.fNs v.fNf v.fNz) → ∀ (r_1 : Int32), r_1 = X_16.1 → ∀ (u_2 : (Int32) × (Value) × (Int64) × (Int64) × (Int64) × (Int64) × (Int32) × (Int32) × (Int32) × (Int32) × (Int32) × (Nat → Int64) × (Nat → Nat → Int64)), u_2 = X_16.2 → ∀ (X_25 : Int32 × (Int32) × (Int64) × (Int64) × (Int32) × (Nat → Int64) × (Nat → Int64)), X_25 = (fq_judged v.f_sky v.f_landHas v.f_first v.f_last v.f_born v.f_died v.f_noteHas v.f_knot v.f_part v.f_other v.f_names v.f_value v.f_toldNote v.f_toldCount (v.g 12) (v.g 16) (v.gl 53) (v.gl 54) (v.g 57) (v.g 67)) → ∀ (r_17 : Int32), r_17 = X_25.1 → ∀ (u_18 : (Int32) × (Int64) × (Int64) × (Int32) × (Nat → Int64) × (Nat → Int64)), u_18 = X_25.2 → yI (((((((((((((((((v.s_dfr u_2.1).s_fRw u_2.2.2.2.2.2.2.2.2.2.2.2.2).s_dla (u_2.2.1)).s_dct u_2.2.2.1).s_dyr u_2.2.2.2.1).s_ddy u_2.2.2.2.2.1).s_dlg u_2.2.2.2.2.2.1).s_v0 u_2.2.2.2.2.2.2.1).s_v1 u_2.2.2.2.2.2.2.2.1).s_v2 u_2.2.2.2.2.2.2.2.2.1).s_v3 u_2.2.2.2.2.2.2.2.2.2.1).s_v4 u_2.2.2.2.2.2.2.2.2.2.2.1).s_fRs u_2.2.2.2.2.2.2.2.2.2.2.2.1).s_g (upd (upd v.g 2 u_18.1) 57 u_18.2.2.2.1)).s_gl (vp_updL (vp_updL v.gl 53 u_18.2.1) 54 u_18.2.2.1)).s_f_names u_18.2.2.2.2.1).s_f_value u_18.2.2.2.2.2) := by
  intro X_16 hX_16 r_1 hq_r_1 u_2 hq_u_2 X_25 hX_25 r_17 hq_r_17 u_18 hq_u_18
  exact hI
set_option maxHeartbeats 4000000 in
set_option maxRecDepth 100000 in
theorem kp_forget1 {v : YV} (hI : yI v) : ∀ (X_6 : Int32 × (Int32)), X_6 = (fx_forget v.lz) → ∀ (r_1 : Int32), r_1 = X_6.1 → ∀ (u_2 : (Int32)), u_2 = X_6.2 → ∀ (X_11 : Int32 × (Int32) × (Int32)), X_11 = (fq_forget (v.g 67)) → ∀ (r_7 : Int32), r_7 = X_11.1 → ∀ (u_8 : (Int32) × (Int32)), u_8 = X_11.2 → (¬ u_2 < 0) → (u_2 ≤ 20) → yI ((v.s_lz u_2).s_g (upd (upd v.g 2 u_8.1) 67 u_8.2)) := by
  intro X_6 hX_6 r_1 hq_r_1 u_2 hq_u_2 X_11 hX_11 r_7 hq_r_7 u_8 hq_u_8 hp_4 hp_5
  have n0 := hI.low.2.2.2.2.1.1
  have n2 := hI.low.2.2.2.2.1.2
  have hN := xLow_N hI.low
  have hk := zk_forget hI.lg _ hX_6 _ hX_11
  subst hq_u_2
  subst hq_u_8
  subst hX_11
  exact yI_mk hI.iz0 hI.iz2 hI.fi0 hI.fi9 hp_4 hp_5 hI.sc0 hI.sc8 hI.hT hI.hE hI.tape hI.low hI.ku hI.tc (by decide : ¬ (0 : Int32) < 0) (by decide : (0 : Int32) ≤ 20) hI.w7 hI.un0 hI.unP hI.im hI.tb hI.co hI.wd hI.fa hI.fp hI.lw hI.fw hI.st hk.2 hI.ig
set_option maxHeartbeats 4000000 in
set_option maxRecDepth 100000 in
theorem kp_keep1 {v : YV} (hI : yI v) : ∀ (X_13 : Int32 × (Int32) × (Int32) × (Nat → Int32) × (Nat → Int32) × (Nat → Int32) × (Int32) × (Nat → Int32) × (Nat → Int32)), X_13 = (fx_keep v.lz v.fLn v.fLc v.fIs v.fIf v.fIz v.fIn v.fIc v.ns v.fNs v.fNf v.fNz) → ∀ (r_1 : Int32), r_1 = X_13.1 → ∀ (u_2 : (Int32) × (Int32) × (Nat → Int32) × (Nat → Int32) × (Nat → Int32) × (Int32) × (Nat → Int32) × (Nat → Int32)), u_2 = X_13.2 → ∀ (X_23 : Int32 × (Int32) × (Int32) × (Int32) × (Int32) × (Nat → Int32) × (Nat → Int32) × (Nat → Int32)), X_23 = (fq_keep v.f_noteHas v.f_toldNote v.f_toldCount v.f_keptHas v.f_keptNote v.f_keptCount (v.g 16) (v.g 67)) → ∀ (r_14 : Int32), r_14 = X_23.1 → ∀ (u_15 : (Int32) × (Int32) × (Int32) × (Int32) × (Nat → Int32) × (Nat → Int32) × (Nat → Int32)), u_15 = X_23.2 → (¬ u_2.2.2.2.2.2.1 < 0) → (u_2.2.2.2.2.2.1 ≤ 20) → yI ((((((((((((v.s_xik u_2.1).s_is u_2.2.1).s_fIs u_2.2.2.1).s_fIf u_2.2.2.2.1).s_fIz u_2.2.2.2.2.1).s_iz u_2.2.2.2.2.2.1).s_fIn u_2.2.2.2.2.2.2.1).s_fIc u_2.2.2.2.2.2.2.2).s_g (upd (upd (upd (upd v.g 2 u_15.1) 70 u_15.2.1) 71 u_15.2.2.1) 72 u_15.2.2.2.1)).s_f_keptHas u_15.2.2.2.2.1).s_f_keptNote u_15.2.2.2.2.2.1).s_f_keptCount u_15.2.2.2.2.2.2) := by
  intro X_13 hX_13 r_1 hq_r_1 u_2 hq_u_2 X_23 hX_23 r_14 hq_r_14 u_15 hq_u_15 hp_11 hp_12
  have n0 := hI.low.2.2.2.2.1.1
  have n2 := hI.low.2.2.2.2.1.2
  have hN := xLow_N hI.low
  have hk := zk_keep hI.lw.2.2.2.2.2.2.2 n0 n2 hI.lg hI.to0 hI.to2 _ hX_13 _ hX_23
  subst hq_u_2
  subst hq_u_15
  obtain ⟨e1, e2, e3, e4⟩ := yS_keep hX_23
  have hm : yIm X_23.2.2.2.1 X_23.2.2.2.2.1 (v.g 14) (v.g 13) X_23.2.2.2.2.2.1 X_23.2.2.2.2.2.2.2 := by
    rw [e1, e2]
    exact ⟨⟨n0, n2⟩, ⟨hI.to0, hI.to2⟩, fun k hk => by rw [e4 k hk]; exact hI.tc k, yNN_c n0 n2 e3 hN⟩
  exact yI_mk hp_11 hp_12 hI.fi0 hI.fi9 hI.lz0 hI.lz2 hI.sc0 hI.sc8 hI.hT hI.hE hI.tape hI.low hI.ku hI.tc hI.to0 hI.to2 hI.w7 hI.un0 hI.unP (Or.inr hm) hI.tb hI.co hI.wd hI.fa hI.fp hI.lw hI.fw hI.st hI.lg hk.2
set_option maxHeartbeats 4000000 in
set_option maxRecDepth 100000 in
theorem kp_back1 {v : YV} (hI : yI v) : ∀ (X_16 : Int32 × (Int32) × (Int32) × (Nat → Int32) × (Nat → Int32) × (Nat → Int32) × (Int32) × (Nat → Int32) × (Nat → Int32) × (Int32)), X_16 = (fx_back v.xsc v.xik v.lz v.fLn v.fLc v.is v.fIs v.fIf v.fIz v.iz v.fIn v.fIc v.dfr v.ns v.fNs v.fNf v.fNz) → ∀ (r_1 : Int32), r_1 = X_16.1 → ∀ (u_2 : (Int32) × (Int32) × (Nat → Int32) × (Nat → Int32) × (Nat → Int32) × (Int32) × (Nat → Int32) × (Nat → Int32) × (Int32)), u_2 = X_16.2 → ∀ (X_26 : Int32 × (Int32) × (Int32) × (Int32) × (Int32) × (Nat → Int32) × (Nat → Int32) × (Nat → Int32)), X_26 = (fq_back v.f_noteHas v.f_toldNote v.f_toldCount v.f_keptHas v.f_keptNote v.f_keptCount (v.g 16) (v.g 59) (v.g 67) (v.g 70) (v.g 71) (v.g 72)) → ∀ (r_17 : Int32), r_17 = X_26.1 → ∀ (u_18 : (Int32) × (Int32) × (Int32) × (Int32) × (Nat → Int32) × (Nat → Int32) × (Nat → Int32)), u_18 = X_26.2 → (¬ u_2.1 < 0) → (u_2.1 ≤ 108) → (¬ u_2.2.2.2.2.2.1 < 0) → (u_2.2.2.2.2.2.1 ≤ 20) → yI (((((((((((((v.s_xsc u_2.1).s_lz u_2.2.2.2.2.2.1).s_fLn u_2.2.2.2.2.2.2.1).s_fLc u_2.2.2.2.2.2.2.2.1).s_dfr u_2.2.2.2.2.2.2.2.2).s_ns u_2.2.1).s_fNs u_2.2.2.1).s_fNf u_2.2.2.2.1).s_fNz u_2.2.2.2.2.1).s_g (upd (upd (upd (upd v.g 2 u_18.1) 16 u_18.2.1) 59 u_18.2.2.1) 67 u_18.2.2.2.1)).s_f_noteHas u_18.2.2.2.2.1).s_f_toldNote u_18.2.2.2.2.2.1).s_f_toldCount u_18.2.2.2.2.2.2) := by
  intro X_16 hX_16 r_1 hq_r_1 u_2 hq_u_2 X_26 hX_26 r_17 hq_r_17 u_18 hq_u_18 hp_12 hp_13 hp_14 hp_15
  have n0 := hI.low.2.2.2.2.1.1
  have n2 := hI.low.2.2.2.2.1.2
  have hN := xLow_N hI.low
  have hk := zk_back hI.lw.2.2.2.2.2.2.2 hI.st hI.lg hI.ig hI.im _ hX_16 _ hX_26
  subst hq_u_2
  subst hq_u_18
  rcases yS_back hX_26 with ⟨e1, e2, e3, e4, e5⟩ | ⟨e0, e1, e2, e3, e4, e5⟩
  · have hZ : ¬ X_26.2.2.1 < 0 ∧ X_26.2.2.1 ≤ 12 ∧ ¬ X_26.2.2.2.1 < 0 := by rw [e1, e2]; exact ⟨n0, n2, hI.un0⟩
    have hN2 : yNN X_26.2.2.2.2.2.1 X_26.2.2.1 (v.g 14) (v.g 13) := by rw [e1, e4]; exact hN
    have hP2 : yPu v.f_undo X_26.2.2.2.2.2.1 X_26.2.2.2.1 X_26.2.2.1 := by rw [e1, e2, e4]; exact hI.unP
    have hT : ¬ X_26.2.2.2.2.1 < 0 ∧ X_26.2.2.2.2.1 ≤ 20 := by rw [e3]; exact ⟨hI.to0, hI.to2⟩
    have hC : ∀ k : Nat, ¬ X_26.2.2.2.2.2.2.2 k < 0 ∧ X_26.2.2.2.2.2.2.2 k < 20000 := by rw [e5]; exact hI.tc
    exact yI_mk hI.iz0 hI.iz2 hI.fi0 hI.fi9 hp_14 hp_15 hp_12 hp_13 hI.hT hI.hE hI.tape (xLow_n (no2 := X_26.2.2.1) (fnh2 := X_26.2.2.2.2.2.1) hI.low hZ.1 hZ.2.1 hN2) hI.ku hC hT.1 hT.2 hI.w7 hZ.2.2 hP2 hI.im hI.tb hI.co hI.wd hI.fa hI.fp (⟨hI.lw.1, hI.lw.2.1, hI.lw.2.2.1, hI.lw.2.2.2.1, hI.lw.2.2.2.2.1, hI.lw.2.2.2.2.2.1, hI.lw.2.2.2.2.2.2.1, hk.2.1⟩) hI.fw hk.2.2.1 hk.2.2.2 hI.ig
  · obtain ⟨q1, q2, q3, q4⟩ := hI.im.resolve_left e0
    have hZ : ¬ X_26.2.2.1 < 0 ∧ X_26.2.2.1 ≤ 12 ∧ ¬ X_26.2.2.2.1 < 0 := by rw [e1, e2]; exact ⟨q1.1, q1.2, by decide⟩
    have hN2 : yNN X_26.2.2.2.2.2.1 X_26.2.2.1 (v.g 14) (v.g 13) := by rw [e1]; exact yNN_c q1.1 q1.2 e4 q4
    have hP2 : yPu v.f_undo X_26.2.2.2.2.2.1 X_26.2.2.2.1 X_26.2.2.1 := by rw [e2]; exact yPu_0
    have hT : ¬ X_26.2.2.2.2.1 < 0 ∧ X_26.2.2.2.2.1 ≤ 20 := by rw [e3]; exact q2
    have hC : ∀ k : Nat, ¬ X_26.2.2.2.2.2.2.2 k < 0 ∧ X_26.2.2.2.2.2.2.2 k < 20000 := fun k => by rw [e5 k]; exact yS_ite (q3 k) (hI.tc k)
    exact yI_mk hI.iz0 hI.iz2 hI.fi0 hI.fi9 hp_14 hp_15 hp_12 hp_13 hI.hT hI.hE hI.tape (xLow_n (no2 := X_26.2.2.1) (fnh2 := X_26.2.2.2.2.2.1) hI.low hZ.1 hZ.2.1 hN2) hI.ku hC hT.1 hT.2 hI.w7 hZ.2.2 hP2 hI.im hI.tb hI.co hI.wd hI.fa hI.fp (⟨hI.lw.1, hI.lw.2.1, hI.lw.2.2.1, hI.lw.2.2.2.1, hI.lw.2.2.2.2.1, hI.lw.2.2.2.2.2.1, hI.lw.2.2.2.2.2.2.1, hk.2.1⟩) hI.fw hk.2.2.1 hk.2.2.2 hI.ig
set_option maxHeartbeats 4000000 in
set_option maxRecDepth 100000 in
theorem kp_size1 {v : YV} (hI : yI v) {y1 : Int32} : ∀ (r_2 : Int32), r_2 = (fx_size v.xsc v.lz v.fTo v.wd v.rkn v.ns y1) → ∀ (X_7 : Int32 × (Int32)), X_7 = (fq_size v.f_sky y1 (v.g 12) (v.g 13) (v.g 14) (v.g 15) (v.g 16) (v.g 17) (v.g 59) (v.g 67)) → ∀ (r_4 : Int32), r_4 = X_7.1 → ∀ (u_5 : (Int32)), u_5 = X_7.2 → yI (v.s_g (upd v.g 2 u_5)) := by
  intro r_2 hq_r_2 X_7 hX_7 r_4 hq_r_4 u_5 hq_u_5
  exact hI
