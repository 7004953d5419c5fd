theorem app_P {D : va_G} {cl : List vw_C} {w1 w2 : va_W} {H : Heap} (h : va_P D cl (w1 ++ w2) H) : va_P D cl (w2 ++ w1) H := memP h (fun q hq => (List.mem_append.mp hq).elim (fun a => List.mem_append_right _ a) (fun a => List.mem_append_left _ a))
theorem kn_new {wf : Nat → Option Nat} {nw q : Nat} (h : nw < 40) : knF (va_up wf nw (some q)) (nw + 1) (nI nw) = some q := by
  have h1 : ¬ nI nw < 0 := nI_pos (by omega)
  have h2 : ¬ nI (nw + 1) ≤ nI nw := nI_ge (by omega) (by omega)
  have h3 : ¬ nI 40 ≤ nI nw := nI_ge (by omega) (by decide)
  simp [knF, h1, h2, h3, nI_clamp (show nw < 2 ^ 31 by omega), va_up]
theorem inK {kd : Int32} : inB kd 0 63 = (!decide (kd < 0) && decide (kd ≤ 63)) := by
  simp only [inB]
  congr 1
  by_cases h : (63 : Int32) < kd
  · simp [h, Int32.not_le.mpr h]
  · simp [h, Int32.not_lt.mp h]

set_option maxHeartbeats 1000000 in
set_option maxRecDepth 100000 in
theorem c_X10_word_n {l : Launch} {D : va_G} {cI cJ cW : ClassId} {x t d v th z g u w k h : Nat} {db dn fa ct : Nat} {df fo : Nat → Int32} {vw vj nw nj : Nat} {wf : Nat → Option Nat} {dy : va_W} {wa : Nat → Nat → Nat} {wz : Nat → Nat → Int32} {wn : Nat → Nat} {wt : Nat → Nat → Int32} {lg kd : Int32} (hct : ct < 2 ^ 31) (hdn : dn ≤ 20) (hnw : nw ≤ 40) (hwf : ∀ i, i < nw → wf i = some (wa i 0)) (hdw : Dw cI wa wz wn wt nw dy) (hno : ¬ (okW lg kd = true ∧ ¬ dn = 0 ∧ (nw < 40 ∨ ∃ j, fwC ct fo wz wn wt nw df lg 0 dn = some j))) : RO l yX10_word wsX10_word { frames := 4, cells := 0, slots := 0, locals := 87 } D (ty3 cI cJ cW) [.ref x, .int lg, .int kd] ((x, .inr (10, [.ref t, .ref d, .ref v, .ref th, .ref z, .ref g, .ref u, .ref w, .ref k, .ref h])) :: (d, .inr (4, [.ref db, .int (nI dn)])) :: (db, .inl (cI, 20, .inl df)) :: (v, .inr (8, [.ref t, .ref vw, .ref vj, .int (nI nw), .int (nI nj)])) :: (vw, .inl (cW, 40, .inr (.inr (.inr (.inr wf))))) :: (t, .inr (3, [.int (nI ct), .ref fa])) :: (fa, .inl (cI, 32, .inl fo)) :: dy) (.int (aWordN dn lg kd)) := by
  refine ro_of (cc := cX10_word) (maxL := 5) (ret := (some .int)) (by decide) rfl (Nat.le_of_ble_eq_true rfl) ?_
  intro pr en ss mi below meth cd X hP hK ls hl
  obtain ⟨hx, hb, hml, hown, hts, hr, hlocks⟩ := id X
  have fl_118 := hts (.fieldLink RX10 118 "WordTables$Row" "count" "I") (by decide +kernel)
  have fl_30 := hts (.fieldLink RX10 30 "WordTables" "draft" "LWordTables$Row;") (by decide +kernel)
  have fl_39 := hts (.fieldLink RX10 39 "WordTables" "vocabulary" "LWordTables$Vocabulary;") (by decide +kernel)
  have in_X10 : ∀ w ∈ wsX100, w ∈ wsX10_word := by decide +kernel
  have in_X4 : ∀ w ∈ wsX40, w ∈ wsX10_word := by decide +kernel
  have hl : lv_has ls 5 [(0, .ref x), (1, .int lg), (2, .int kd)] := hl
  refine lv_iload_n hx hb dX10_word_0 rfl (lv_at hl 1 rfl) ?_
  refine ro_S (n := 1) X hK (c_X10_isLanguage) gX10_word_X10_isLanguage rfl (by decide +kernel) ⟨rfl, rfl⟩ ⟨Nat.le_of_ble_eq_true rfl, Nat.le_of_ble_eq_true rfl⟩ (hP.sub [] rfl) rfl hl.1 rfl (Nat.le_of_ble_eq_true rfl) dX10_word_1 ⟨Nat.zero_le _, Nat.zero_le _⟩ ?_
  refine lv_if_eq (tgt := 17) hx hb dX10_word_4 (by decide) (fun c_4 => ?_) (fun c_4 => ?_)
  · replace c_4 := bI_0.mp c_4
    refine lv_bipush (v := -3) hx hb dX10_word_17 (by decide) ?_
    exact ro_iret X (by rw [aWordN, if_neg (fun q => by rw [okW, inK] at q; simp [c_4] at q)]) dX10_word_19
  · replace c_4 := bI_n0.mp c_4
    refine lv_iload_n hx hb dX10_word_7 rfl (lv_at hl 2 rfl) ?_
    refine lv_if_lt (tgt := 17) hx hb dX10_word_8 (by decide) (fun c_8 => ?_) (fun c_8 => ?_)
    · refine lv_bipush (v := -3) hx hb dX10_word_17 (by decide) ?_
      exact ro_iret X (by rw [aWordN, if_neg (fun q => by rw [okW, inK] at q; simp [c_4, c_8] at q)]) dX10_word_19
    · refine lv_iload_n hx hb dX10_word_11 rfl (lv_at hl 2 rfl) ?_
      refine lv_bipush (v := 63) hx hb dX10_word_12 (by decide) ?_
      refine lv_icmp_le (tgt := 20) hx hb dX10_word_14 (by decide) (fun c_14 => ?_) (fun c_14 => ?_)
      · have hok : okW lg kd = true := by rw [okW, inK]; simp [c_4, c_8, c_14]
        refine lv_aload_n hx hb dX10_word_20 rfl (lv_at hl 0 rfl) ?_
        refine va_get (D := D) (ci := 10) (C := RX10) (T := TX10) (N := 10) hx hb hts in_X10 hown hK hP 0 rfl rfl 1 (by decide) fl_30 (fun _ h9 => h9) rfl dX10_word_21 ?_
        refine va_get (D := D) (ci := 4) (C := RX4) (T := TX4) (N := 2) hx hb hts in_X4 hown hK hP 1 rfl rfl 1 (by decide) fl_118 (fun _ h9 => h9) rfl dX10_word_24 ?_
        refine lv_if_ne (tgt := 33) hx hb dX10_word_27 (by decide) (fun c_27 => ?_) (fun c_27 => ?_)
        · have h0 : ¬ dn = 0 := fun q => c_27 (by rw [q]; rfl)
          refine lv_aload_n hx hb dX10_word_33 rfl (lv_at hl 0 rfl) ?_
          refine va_get (D := D) (ci := 10) (C := RX10) (T := TX10) (N := 10) hx hb hts in_X10 hown hK hP 0 rfl rfl 2 (by decide) fl_39 (fun _ h9 => h9) rfl dX10_word_34 ?_
          refine lv_iload_n hx hb dX10_word_37 rfl (lv_at hl 1 rfl) ?_
          refine lv_aload_n hx hb dX10_word_38 rfl (lv_at hl 0 rfl) ?_
          refine va_get (D := D) (ci := 10) (C := RX10) (T := TX10) (N := 10) hx hb hts in_X10 hown hK hP 0 rfl rfl 1 (by decide) fl_30 (fun _ h9 => h9) rfl dX10_word_39 ?_
          refine lv_iconst (v := 0) hx hb dX10_word_42 (by decide) ?_
          refine lv_aload_n hx hb dX10_word_43 rfl (lv_at hl 0 rfl) ?_
          refine va_get (D := D) (ci := 10) (C := RX10) (T := TX10) (N := 10) hx hb hts in_X10 hown hK hP 0 rfl rfl 1 (by decide) fl_30 (fun _ h9 => h9) rfl dX10_word_44 ?_
          refine va_get (D := D) (ci := 4) (C := RX4) (T := TX4) (N := 2) hx hb hts in_X4 hown hK hP 1 rfl rfl 1 (by decide) fl_118 (fun _ h9 => h9) rfl dX10_word_47 ?_
          refine ro_V (n := 4) X hK (c_X8_likeIn (fr := 0) hct (by decide) hdn (by omega) hnw hwf hdw) gX10_word_X8_likeIn rfl (by decide +kernel) ⟨rfl, rfl⟩ ⟨Nat.le_of_ble_eq_true rfl, Nat.le_of_ble_eq_true rfl⟩ (ro_tl hP [3, 4, 5, 6, 1, 2] rfl (fun _ hq => by simp [hq])) (va_recv hK hP (ci := 8) (q0 := 3) rfl rfl) rfl hl.1 rfl (Nat.le_of_ble_eq_true rfl) dX10_word_50 ⟨Nat.zero_le _, Nat.zero_le _⟩ ?_
          rcases h_50 : fwC ct fo wz wn wt nw df lg 0 dn with _ | j_50
          · refine lv_istore_n (lv' := [(3, _), (0, _), (1, _), (2, _)]) hx hb dX10_word_53 rfl hl (by decide) rfl (fun ls hl => ?_)
            refine lv_iload_n hx hb dX10_word_54 rfl (lv_at hl 0 rfl) ?_
            refine lv_iconst (v := -1) hx hb dX10_word_55 (by decide) ?_
            refine lv_icmp_ne (tgt := 72) hx hb dX10_word_56 (by decide) (fun c_56 => absurd c_56 (by decide)) (fun _ => ?_)
            have h40 : nw = 40 := by rcases Nat.lt_or_ge nw 40 with q | q; exact absurd ⟨hok, h0, Or.inl q⟩ hno; omega
            refine lv_aload_n hx hb dX10_word_59 rfl (lv_at hl 1 rfl) ?_
            refine va_get (D := D) (ci := 10) (C := RX10) (T := TX10) (N := 10) hx hb hts in_X10 hown hK hP 0 rfl rfl 2 (by decide) fl_39 (fun _ h9 => h9) rfl dX10_word_60 ?_
            refine lv_aload_n hx hb dX10_word_63 rfl (lv_at hl 1 rfl) ?_
            refine va_get (D := D) (ci := 10) (C := RX10) (T := TX10) (N := 10) hx hb hts in_X10 hown hK hP 0 rfl rfl 1 (by decide) fl_30 (fun _ h9 => h9) rfl dX10_word_64 ?_
            refine lv_iload_n hx hb dX10_word_67 rfl (lv_at hl 2 rfl) ?_
            refine ro_V (n := 2) X hK (c_X8_addWord_n h40) gX10_word_X8_addWord rfl (by decide +kernel) ⟨rfl, rfl⟩ ⟨Nat.le_of_ble_eq_true rfl, Nat.le_of_ble_eq_true rfl⟩ (hP.sub [3, 4, 1, 2] rfl) (va_recv hK hP (ci := 8) (q0 := 3) rfl rfl) rfl hl.1 rfl (Nat.le_of_ble_eq_true rfl) dX10_word_68 ⟨Nat.zero_le _, Nat.zero_le _⟩ ?_
            refine lv_istore_n (lv' := [(3, _), (0, _), (1, _), (2, _)]) hx hb dX10_word_71 rfl hl (by decide) rfl (fun ls hl => ?_)
            refine lv_aload_n hx hb dX10_word_72 rfl (lv_at hl 1 rfl) ?_
            refine va_get (D := D) (ci := 10) (C := RX10) (T := TX10) (N := 10) hx hb hts in_X10 hown hK hP 0 rfl rfl 2 (by decide) fl_39 (fun _ h9 => h9) rfl dX10_word_73 ?_
            refine lv_iload_n hx hb dX10_word_76 rfl (lv_at hl 0 rfl) ?_
            refine ro_V (n := 1) X hK (c_X8_known) gX10_word_X8_known rfl (by decide +kernel) ⟨rfl, rfl⟩ ⟨Nat.le_of_ble_eq_true rfl, Nat.le_of_ble_eq_true rfl⟩ (hP.sub [3, 4] rfl) (va_recv hK hP (ci := 8) (q0 := 3) rfl rfl) rfl hl.1 rfl (Nat.le_of_ble_eq_true rfl) dX10_word_77 ⟨Nat.zero_le _, Nat.zero_le _⟩ ?_
            refine rf_eqN (kn_out (Or.inl (by decide))) ?_
            refine lv_astoreN (lv' := [(4, _), (3, _), (0, _), (1, _), (2, _)]) hx hb dX10_word_80 hl (by decide) rfl (fun ls hl => ?_)
            refine lv_aloadN hx hb dX10_word_82 (lv_at hl 0 rfl) ?_
            refine lv_ifnonnullN hx hb dX10_word_84 ?_
            refine lv_bipush (v := -5) hx hb dX10_word_87 (by decide) ?_
            exact ro_iret X (by rw [aWordN, if_pos hok, if_neg h0]) dX10_word_89
          · refine lv_istore_n (lv' := [(3, _), (0, _), (1, _), (2, _)]) hx hb dX10_word_53 rfl hl (by decide) rfl (fun ls hl => ?_)
            refine lv_iload_n hx hb dX10_word_54 rfl (lv_at hl 0 rfl) ?_
            refine lv_iconst (v := -1) hx hb dX10_word_55 (by decide) ?_
            refine lv_icmp_ne (tgt := 72) hx hb dX10_word_56 (by decide) (fun _ => ?_) (fun c_56 => absurd c_56 (oI_m1 (by have := (fiO_some _ _ _ h_50).2.1; omega)))
            exact absurd ⟨hok, h0, Or.inr ⟨_, h_50⟩⟩ hno
        · have h0 : dn = 0 := (nI_eq (a := dn) (b := 0) (by omega) (by decide)).mp c_27
          refine lv_bipush (v := -4) hx hb dX10_word_30 (by decide) ?_
          exact ro_iret X (by rw [aWordN, if_pos hok, if_pos h0]) dX10_word_32
      · refine lv_bipush (v := -3) hx hb dX10_word_17 (by decide) ?_
        exact ro_iret X (by rw [aWordN, if_neg (fun q => by rw [okW, inK] at q; simp [c_4, c_8, c_14] at q)]) dX10_word_19

set_option maxHeartbeats 1000000 in
set_option maxRecDepth 100000 in
theorem c_X10_word_f {l : Launch} {D : va_G} {cI cJ cW : ClassId} {sz : Nat} {x t d v th z g u w k h : Nat} {db dn fa ct : Nat} {df fo : Nat → Int32} {vw vj nw nj : Nat} {wf : Nat → Option Nat} {dy : va_W} {wa : Nat → Nat → Nat} {wz : Nat → Nat → Int32} {wn : Nat → Nat} {wt : Nat → Nat → Int32} {lg kd : Int32} {j : Nat} (hct : ct < 2 ^ 31) (hdn : dn ≤ 20) (hnw : nw ≤ 40) (hwf : ∀ i, i < nw → wf i = some (wa i 0)) (hdw : Dw cI wa wz wn wt nw dy) (hok : okW lg kd = true) (h0 : ¬ dn = 0) (hf : fwC ct fo wz wn wt nw df lg 0 dn = some j) : MU l yX10_word wsX10_word { frames := 4, cells := 0, slots := 0, locals := 87 } D (ty3 cI cJ cW) [.ref x, .int lg, .int kd] ((x, .inr (10, [.ref t, .ref d, .ref v, .ref th, .ref z, .ref g, .ref u, .ref w, .ref k, .ref h])) :: (d, .inr (4, [.ref db, .int (nI dn)])) :: (db, .inl (cI, 20, .inl df)) :: (v, .inr (8, [.ref t, .ref vw, .ref vj, .int (nI nw), .int (nI nj)])) :: (vw, .inl (cW, 40, .inr (.inr (.inr (.inr wf))))) :: (t, .inr (3, [.int (nI ct), .ref fa])) :: (fa, .inl (cI, 32, .inl fo)) :: dy) sz (some (.int (nI j))) ((x, .inr (10, [.ref t, .ref d, .ref v, .ref th, .ref z, .ref g, .ref u, .ref w, .ref k, .ref h])) :: (d, .inr (4, [.ref db, .int 0])) :: (db, .inl (cI, 20, .inl df)) :: (v, .inr (8, [.ref t, .ref vw, .ref vj, .int (nI nw), .int (nI nj)])) :: (vw, .inl (cW, 40, .inr (.inr (.inr (.inr wf))))) :: (t, .inr (3, [.int (nI ct), .ref fa])) :: (fa, .inl (cI, 32, .inl fo)) :: (dySet dy (wa j 0) (.inr (9, [.ref (wa j 1), .int (wz j 1), .int (wz j 2 ||| kd), .int (wz j 3), .int (wz j 4), .int (wz j 5)])))) := by
  have hj : j < nw := by have := (fiO_some _ _ _ hf).2.1; omega
  refine mu_of (cc := cX10_word) (maxL := 5) (ret := (some .int)) (by decide) rfl (Nat.le_of_ble_eq_true rfl) ?_
  intro pr en ss mi below meth cd X hK A hA hP hD hS ls hl
  obtain ⟨hx, hb, hml, hown, hts, hr, hlocks⟩ := id X
  have fl_118 := hts (.fieldLink RX10 118 "WordTables$Row" "count" "I") (by decide +kernel)
  have fl_136 := hts (.fieldLink RX10 136 "WordTables$Word" "kinds" "I") (by decide +kernel)
  have fl_30 := hts (.fieldLink RX10 30 "WordTables" "draft" "LWordTables$Row;") (by decide +kernel)
  have fl_39 := hts (.fieldLink RX10 39 "WordTables" "vocabulary" "LWordTables$Vocabulary;") (by decide +kernel)
  have in_X10 : ∀ w ∈ wsX100, w ∈ wsX10_word := by decide +kernel
  have in_X4 : ∀ w ∈ wsX40, w ∈ wsX10_word := by decide +kernel
  have in_X9 : ∀ w ∈ wsX90, w ∈ wsX10_word := by decide +kernel
  have hl : lv_has ls 5 [(0, .ref x), (1, .int lg), (2, .int kd)] := hl
  refine lv_iload_n hx hb dX10_word_0 rfl (lv_at hl 1 rfl) ?_
  refine ro_S (n := 1) X hK (c_X10_isLanguage) gX10_word_X10_isLanguage rfl (by decide +kernel) ⟨rfl, rfl⟩ ⟨Nat.le_of_ble_eq_true rfl, Nat.le_of_ble_eq_true rfl⟩ (hP.sub [] rfl) rfl hl.1 rfl (Nat.le_of_ble_eq_true rfl) dX10_word_1 ⟨Nat.zero_le _, Nat.zero_le _⟩ ?_
  refine lv_if_eq (tgt := 17) hx hb dX10_word_4 (by decide) (fun c_4 => ?_) (fun c_4 => ?_)
  · replace c_4 := bI_0.mp c_4
    exact absurd hok (fun q => by rw [okW, inK] at q; simp [c_4] at q)
  · replace c_4 := bI_n0.mp c_4
    refine lv_iload_n hx hb dX10_word_7 rfl (lv_at hl 2 rfl) ?_
    refine lv_if_lt (tgt := 17) hx hb dX10_word_8 (by decide) (fun c_8 => ?_) (fun c_8 => ?_)
    · exact absurd hok (fun q => by rw [okW, inK] at q; simp [c_4, c_8] at q)
    · refine lv_iload_n hx hb dX10_word_11 rfl (lv_at hl 2 rfl) ?_
      refine lv_bipush (v := 63) hx hb dX10_word_12 (by decide) ?_
      refine lv_icmp_le (tgt := 20) hx hb dX10_word_14 (by decide) (fun c_14 => ?_) (fun c_14 => ?_)
      · refine lv_aload_n hx hb dX10_word_20 rfl (lv_at hl 0 rfl) ?_
        refine va_get (D := D) (ci := 10) (C := RX10) (T := TX10) (N := 10) hx hb hts in_X10 hown hK hP 0 rfl rfl 1 (by decide) fl_30 (fun _ h9 => h9) rfl dX10_word_21 ?_
        refine va_get (D := D) (ci := 4) (C := RX4) (T := TX4) (N := 2) hx hb hts in_X4 hown hK hP 1 rfl rfl 1 (by decide) fl_118 (fun _ h9 => h9) rfl dX10_word_24 ?_
        refine lv_if_ne (tgt := 33) hx hb dX10_word_27 (by decide) (fun c_27 => ?_) (fun c_27 => ?_)
        · refine lv_aload_n hx hb dX10_word_33 rfl (lv_at hl 0 rfl) ?_
          refine va_get (D := D) (ci := 10) (C := RX10) (T := TX10) (N := 10) hx hb hts in_X10 hown hK hP 0 rfl rfl 2 (by decide) fl_39 (fun _ h9 => h9) rfl dX10_word_34 ?_
          refine lv_iload_n hx hb dX10_word_37 rfl (lv_at hl 1 rfl) ?_
          refine lv_aload_n hx hb dX10_word_38 rfl (lv_at hl 0 rfl) ?_
          refine va_get (D := D) (ci := 10) (C := RX10) (T := TX10) (N := 10) hx hb hts in_X10 hown hK hP 0 rfl rfl 1 (by decide) fl_30 (fun _ h9 => h9) rfl dX10_word_39 ?_
          refine lv_iconst (v := 0) hx hb dX10_word_42 (by decide) ?_
          refine lv_aload_n hx hb dX10_word_43 rfl (lv_at hl 0 rfl) ?_
          refine va_get (D := D) (ci := 10) (C := RX10) (T := TX10) (N := 10) hx hb hts in_X10 hown hK hP 0 rfl rfl 1 (by decide) fl_30 (fun _ h9 => h9) rfl dX10_word_44 ?_
          refine va_get (D := D) (ci := 4) (C := RX4) (T := TX4) (N := 2) hx hb hts in_X4 hown hK hP 1 rfl rfl 1 (by decide) fl_118 (fun _ h9 => h9) rfl dX10_word_47 ?_
          refine ro_V (n := 4) X hK (c_X8_likeIn (fr := 0) hct (by decide) hdn (by omega) hnw hwf hdw) gX10_word_X8_likeIn rfl (by decide +kernel) ⟨rfl, rfl⟩ ⟨Nat.le_of_ble_eq_true rfl, Nat.le_of_ble_eq_true rfl⟩ (ro_tl hP [3, 4, 5, 6, 1, 2] rfl (fun _ hq => by simp [hq])) (va_recv hK hP (ci := 8) (q0 := 3) rfl rfl) rfl hl.1 rfl (Nat.le_of_ble_eq_true rfl) dX10_word_50 ⟨Nat.zero_le _, Nat.zero_le _⟩ ?_
          rw [hf]
          refine lv_istore_n (lv' := [(3, _), (0, _), (1, _), (2, _)]) hx hb dX10_word_53 rfl hl (by decide) rfl (fun ls hl => ?_)
          refine lv_iload_n hx hb dX10_word_54 rfl (lv_at hl 0 rfl) ?_
          refine lv_iconst (v := -1) hx hb dX10_word_55 (by decide) ?_
          refine lv_icmp_ne (tgt := 72) hx hb dX10_word_56 (by decide) (fun c_56 => ?_) (fun c_56 => ?_)
          · refine lv_aload_n hx hb dX10_word_72 rfl (lv_at hl 1 rfl) ?_
            refine va_get (D := D) (ci := 10) (C := RX10) (T := TX10) (N := 10) hx hb hts in_X10 hown hK hP 0 rfl rfl 2 (by decide) fl_39 (fun _ h9 => h9) rfl dX10_word_73 ?_
            refine lv_iload_n hx hb dX10_word_76 rfl (lv_at hl 0 rfl) ?_
            refine ro_V (n := 1) X hK (c_X8_known) gX10_word_X8_known rfl (by decide +kernel) ⟨rfl, rfl⟩ ⟨Nat.le_of_ble_eq_true rfl, Nat.le_of_ble_eq_true rfl⟩ (hP.sub [3, 4] rfl) (va_recv hK hP (ci := 8) (q0 := 3) rfl rfl) rfl hl.1 rfl (Nat.le_of_ble_eq_true rfl) dX10_word_77 ⟨Nat.zero_le _, Nat.zero_le _⟩ ?_
            refine rf_eq (kn_nI hj hnw hwf) ?_
            have hw : va_P D vwCl [((wa j 0), .inr (9, [.ref (wa j 1), .int (wz j 1), .int (wz j 2), .int (wz j 3), .int (wz j 4), .int (wz j 5)])), ((wa j 1), .inr (4, [.ref (wa j 2), .int (nI (wn j))])), ((wa j 2), .inl (cI, (wn j), .inl (wt j)))] _ := memP (w := wCells cI wa wz wn wt j) hP (fun q hq => List.mem_cons_of_mem _ (List.mem_cons_of_mem _ (List.mem_cons_of_mem _ (List.mem_cons_of_mem _ (List.mem_cons_of_mem _ (List.mem_cons_of_mem _ (List.mem_cons_of_mem _ ((hdw j hj).2 q hq))))))))
            refine lv_astore (lv' := [(4, _), (3, _), (0, _), (1, _), (2, _)]) hx hb dX10_word_80 hl (by decide) rfl (fun ls hl => ?_)
            refine lv_aload hx hb dX10_word_82 (lv_at hl 0 rfl) ?_
            refine lv_ifnonnull (tgt := 90) hx hb dX10_word_84 (by decide) ?_
            refine lv_aload hx hb dX10_word_90 (lv_at hl 0 rfl) ?_
            refine lv_dup hx hb dX10_word_92 rfl ?_
            refine va_get (D := D) (ci := 9) (C := RX9) (T := TX9) (N := 6) hx hb hts in_X9 hown hK hw 0 rfl rfl 2 (by decide) fl_136 (fun _ h9 => h9) rfl dX10_word_93 ?_
            refine lv_iload_n hx hb dX10_word_96 rfl (lv_at hl 4 rfl) ?_
            refine lv_ior hx hb dX10_word_97 ?_
            refine put_dy (D := D) (ci := 9) (fs := [.ref (wa j 1), .int (wz j 1), .int (wz j 2), .int (wz j 3), .int (wz j 4), .int (wz j 5)]) (ty := .int) (C := RX9) (T := TX9) (N := 6) [_, _, _, _, _, _, _] hx hb hts in_X9 tyX9 tyX9_ok nmX9 hown hK hP hD hS ((hdw j hj).2 _ (by simp [wCells])) rfl 2 (by decide) fl_136 (fun _ h9 => h9) rfl (by decide +kernel) rfl rfl (Nat.le_of_ble_eq_true rfl) dX10_word_98 (fun H locs hP hD hS => ?_)
            have hP : va_P D vwCl ((x, .inr (10, [.ref t, .ref d, .ref v, .ref th, .ref z, .ref g, .ref u, .ref w, .ref k, .ref h])) :: (d, .inr (4, [.ref db, _])) :: (db, .inl (cI, 20, .inl _)) :: (v, .inr (8, [.ref t, .ref vw, .ref vj, _, _])) :: (vw, .inl (cW, 40, .inr (.inr (.inr (.inr _))))) :: (t, .inr (3, [_, .ref fa])) :: (fa, .inl (cI, 32, .inl _)) :: (dySet dy (wa j 0) (.inr (9, [.ref (wa j 1), .int (wz j 1), .int (wz j 2 ||| kd), .int (wz j 3), .int (wz j 4), .int (wz j 5)])))) H := hP
            have hD : va_D A ((x, .inr (10, [.ref t, .ref d, .ref v, .ref th, .ref z, .ref g, .ref u, .ref w, .ref k, .ref h])) :: (d, .inr (4, [.ref db, _])) :: (db, .inl (cI, 20, .inl _)) :: (v, .inr (8, [.ref t, .ref vw, .ref vj, _, _])) :: (vw, .inl (cW, 40, .inr (.inr (.inr (.inr _))))) :: (t, .inr (3, [_, .ref fa])) :: (fa, .inl (cI, 32, .inl _)) :: (dySet dy (wa j 0) (.inr (9, [.ref (wa j 1), .int (wz j 1), .int (wz j 2 ||| kd), .int (wz j 3), .int (wz j 4), .int (wz j 5)])))) := hD
            refine lv_aload_n hx hb dX10_word_101 rfl (lv_at hl 2 rfl) ?_
            refine va_get (D := D) (ci := 10) (C := RX10) (T := TX10) (N := 10) hx hb hts in_X10 hown hK hP 0 rfl rfl 1 (by decide) fl_30 (fun _ h9 => h9) rfl dX10_word_102 ?_
            refine mu_V (n := 0) X hK (c_X4_clear) gX10_word_X4_clear rfl (by decide +kernel) ⟨rfl, rfl⟩ ⟨Nat.le_of_ble_eq_true rfl, Nat.le_of_ble_eq_true rfl⟩ [1, 2] rfl rfl rfl rfl hA hP hD hS (va_recv hK hP (ci := 4) (q0 := 1) rfl rfl) rfl hl.1 rfl (Nat.le_of_ble_eq_true rfl) dX10_word_105 ⟨Nat.zero_le _, Nat.zero_le _⟩ (fun H locs hP hD hS => ?_)
            have hP : va_P D vwCl ((x, .inr (10, [.ref t, .ref d, .ref v, .ref th, .ref z, .ref g, .ref u, .ref w, .ref k, .ref h])) :: (d, .inr (4, [.ref db, _])) :: (db, .inl (cI, 20, .inl _)) :: (v, .inr (8, [.ref t, .ref vw, .ref vj, _, _])) :: (vw, .inl (cW, 40, .inr (.inr (.inr (.inr _))))) :: (t, .inr (3, [_, .ref fa])) :: (fa, .inl (cI, 32, .inl _)) :: (dySet dy (wa j 0) (.inr (9, [.ref (wa j 1), .int (wz j 1), .int (wz j 2 ||| kd), .int (wz j 3), .int (wz j 4), .int (wz j 5)])))) H := hP
            have hD : va_D A ((x, .inr (10, [.ref t, .ref d, .ref v, .ref th, .ref z, .ref g, .ref u, .ref w, .ref k, .ref h])) :: (d, .inr (4, [.ref db, _])) :: (db, .inl (cI, 20, .inl _)) :: (v, .inr (8, [.ref t, .ref vw, .ref vj, _, _])) :: (vw, .inl (cW, 40, .inr (.inr (.inr (.inr _))))) :: (t, .inr (3, [_, .ref fa])) :: (fa, .inl (cI, 32, .inl _)) :: (dySet dy (wa j 0) (.inr (9, [.ref (wa j 1), .int (wz j 1), .int (wz j 2 ||| kd), .int (wz j 3), .int (wz j 4), .int (wz j 5)])))) := hD
            refine lv_iload_n hx hb dX10_word_108 rfl (lv_at hl 1 rfl) ?_
            exact mu_iret X hP hS (rfl) (rfl) dX10_word_109
          · exact absurd c_56 (oI_m1 (by omega))
        · exact absurd ((nI_eq (a := dn) (b := 0) (by omega) (by decide)).mp c_27) h0
      · exact absurd hok (fun q => by rw [okW, inK] at q; simp [c_4, c_8, c_14] at q)

set_option maxHeartbeats 1000000 in
set_option maxRecDepth 100000 in
theorem c_X10_word_w {l : Launch} {D : va_G} {cI cJ cW : ClassId} {sz : Nat} {x t d v th z g u w k h : Nat} {db dn fa ct : Nat} {df fo : Nat → Int32} {vw vj nw nj : Nat} {wf : Nat → Option Nat} {dy : va_W} {wa : Nat → Nat → Nat} {wz : Nat → Nat → Int32} {wn : Nat → Nat} {wt : Nat → Nat → Int32} {lg kd : Int32} (hct : ct < 2 ^ 31) (hdn : dn ≤ 20) (hnw : nw ≤ 40) (hwf : ∀ i, i < nw → wf i = some (wa i 0)) (hdw : Dw cI wa wz wn wt nw dy) (hok : okW lg kd = true) (h0 : ¬ dn = 0) (hf : fwC ct fo wz wn wt nw df lg 0 dn = none) (h40 : nw < 40) : NU l yX10_word wsX10_word { frames := 4, cells := 3, slots := 28, locals := 87 } D (ty3 cI cJ cW) [.ref x, .int lg, .int kd] ((x, .inr (10, [.ref t, .ref d, .ref v, .ref th, .ref z, .ref g, .ref u, .ref w, .ref k, .ref h])) :: (d, .inr (4, [.ref db, .int (nI dn)])) :: (db, .inl (cI, 20, .inl df)) :: (v, .inr (8, [.ref t, .ref vw, .ref vj, .int (nI nw), .int (nI nj)])) :: (vw, .inl (cW, 40, .inr (.inr (.inr (.inr wf))))) :: (t, .inr (3, [.int (nI ct), .ref fa])) :: (fa, .inl (cI, 32, .inl fo)) :: dy) sz (fun (_ : Nat × Nat × Nat) => (some (.int (nI nw)))) (fun (un : Nat × Nat × Nat) => ((x, .inr (10, [.ref t, .ref d, .ref v, .ref th, .ref z, .ref g, .ref u, .ref w, .ref k, .ref h])) :: (d, .inr (4, [.ref db, .int 0])) :: (db, .inl (cI, 20, .inl df)) :: (v, .inr (8, [.ref t, .ref vw, .ref vj, .int (nI (nw + 1)), .int (nI nj)])) :: (vw, .inl (cW, 40, .inr (.inr (.inr (.inr (va_up wf nw (some un.1))))))) :: (t, .inr (3, [.int (nI ct), .ref fa])) :: (fa, .inl (cI, 32, .inl fo)) :: dy) ++ [(un.1, .inr (9, [.ref un.2.1, .int lg, .int kd, .int 0, .int (-1), .int 0])), (un.2.1, .inr (4, [.ref un.2.2, .int (nI dn)])), (un.2.2, .inl (cI, dn, .inl (cpF (fun _ => 0) df dn)))]) 3 28 := by
  refine nu_of (cc := cX10_word) (maxL := 5) (ret := (some .int)) (by decide) rfl (Nat.le_of_ble_eq_true rfl) ?_
  intro pr en ss mi below meth cd X hK hE hin A hA hP hD hS ls hl
  obtain ⟨hx, hb, hml, hown, hts, hr, hlocks⟩ := id X
  have fl_118 := hts (.fieldLink RX10 118 "WordTables$Row" "count" "I") (by decide +kernel)
  have fl_136 := hts (.fieldLink RX10 136 "WordTables$Word" "kinds" "I") (by decide +kernel)
  have fl_30 := hts (.fieldLink RX10 30 "WordTables" "draft" "LWordTables$Row;") (by decide +kernel)
  have fl_39 := hts (.fieldLink RX10 39 "WordTables" "vocabulary" "LWordTables$Vocabulary;") (by decide +kernel)
  have in_X10 : ∀ w ∈ wsX100, w ∈ wsX10_word := by decide +kernel
  have in_X4 : ∀ w ∈ wsX40, w ∈ wsX10_word := by decide +kernel
  have in_X9 : ∀ w ∈ wsX90, w ∈ wsX10_word := by decide +kernel
  have hl : lv_has ls 5 [(0, .ref x), (1, .int lg), (2, .int kd)] := hl
  refine lv_iload_n hx hb dX10_word_0 rfl (lv_at hl 1 rfl) ?_
  refine ro_S (n := 1) X hK (c_X10_isLanguage) gX10_word_X10_isLanguage rfl (by decide +kernel) ⟨rfl, rfl⟩ ⟨Nat.le_of_ble_eq_true rfl, Nat.le_of_ble_eq_true rfl⟩ (hP.sub [] rfl) rfl hl.1 rfl (Nat.le_of_ble_eq_true rfl) dX10_word_1 ⟨by show 0 ≤ 3; omega, by show 0 ≤ 28; omega⟩ ?_
  refine lv_if_eq (tgt := 17) hx hb dX10_word_4 (by decide) (fun c_4 => ?_) (fun c_4 => ?_)
  · replace c_4 := bI_0.mp c_4
    exact absurd hok (fun q => by rw [okW, inK] at q; simp [c_4] at q)
  · replace c_4 := bI_n0.mp c_4
    refine lv_iload_n hx hb dX10_word_7 rfl (lv_at hl 2 rfl) ?_
    refine lv_if_lt (tgt := 17) hx hb dX10_word_8 (by decide) (fun c_8 => ?_) (fun c_8 => ?_)
    · exact absurd hok (fun q => by rw [okW, inK] at q; simp [c_4, c_8] at q)
    · refine lv_iload_n hx hb dX10_word_11 rfl (lv_at hl 2 rfl) ?_
      refine lv_bipush (v := 63) hx hb dX10_word_12 (by decide) ?_
      refine lv_icmp_le (tgt := 20) hx hb dX10_word_14 (by decide) (fun c_14 => ?_) (fun c_14 => ?_)
      · refine lv_aload_n hx hb dX10_word_20 rfl (lv_at hl 0 rfl) ?_
        refine va_get (D := D) (ci := 10) (C := RX10) (T := TX10) (N := 10) hx hb hts in_X10 hown hK hP 0 rfl rfl 1 (by decide) fl_30 (fun _ h9 => h9) rfl dX10_word_21 ?_
        refine va_get (D := D) (ci := 4) (C := RX4) (T := TX4) (N := 2) hx hb hts in_X4 hown hK hP 1 rfl rfl 1 (by decide) fl_118 (fun _ h9 => h9) rfl dX10_word_24 ?_
        refine lv_if_ne (tgt := 33) hx hb dX10_word_27 (by decide) (fun c_27 => ?_) (fun c_27 => ?_)
        · refine lv_aload_n hx hb dX10_word_33 rfl (lv_at hl 0 rfl) ?_
          refine va_get (D := D) (ci := 10) (C := RX10) (T := TX10) (N := 10) hx hb hts in_X10 hown hK hP 0 rfl rfl 2 (by decide) fl_39 (fun _ h9 => h9) rfl dX10_word_34 ?_
          refine lv_iload_n hx hb dX10_word_37 rfl (lv_at hl 1 rfl) ?_
          refine lv_aload_n hx hb dX10_word_38 rfl (lv_at hl 0 rfl) ?_
          refine va_get (D := D) (ci := 10) (C := RX10) (T := TX10) (N := 10) hx hb hts in_X10 hown hK hP 0 rfl rfl 1 (by decide) fl_30 (fun _ h9 => h9) rfl dX10_word_39 ?_
          refine lv_iconst (v := 0) hx hb dX10_word_42 (by decide) ?_
          refine lv_aload_n hx hb dX10_word_43 rfl (lv_at hl 0 rfl) ?_
          refine va_get (D := D) (ci := 10) (C := RX10) (T := TX10) (N := 10) hx hb hts in_X10 hown hK hP 0 rfl rfl 1 (by decide) fl_30 (fun _ h9 => h9) rfl dX10_word_44 ?_
          refine va_get (D := D) (ci := 4) (C := RX4) (T := TX4) (N := 2) hx hb hts in_X4 hown hK hP 1 rfl rfl 1 (by decide) fl_118 (fun _ h9 => h9) rfl dX10_word_47 ?_
          refine ro_V (n := 4) X hK (c_X8_likeIn (fr := 0) hct (by decide) hdn (by omega) hnw hwf hdw) gX10_word_X8_likeIn rfl (by decide +kernel) ⟨rfl, rfl⟩ ⟨Nat.le_of_ble_eq_true rfl, Nat.le_of_ble_eq_true rfl⟩ (ro_tl hP [3, 4, 5, 6, 1, 2] rfl (fun _ hq => by simp [hq])) (va_recv hK hP (ci := 8) (q0 := 3) rfl rfl) rfl hl.1 rfl (Nat.le_of_ble_eq_true rfl) dX10_word_50 ⟨by show 0 ≤ 3; omega, by show 0 ≤ 28; omega⟩ ?_
          rw [hf]
          refine lv_istore_n (lv' := [(3, _), (0, _), (1, _), (2, _)]) hx hb dX10_word_53 rfl hl (by decide) rfl (fun ls hl => ?_)
          refine lv_iload_n hx hb dX10_word_54 rfl (lv_at hl 0 rfl) ?_
          refine lv_iconst (v := -1) hx hb dX10_word_55 (by decide) ?_
          refine lv_icmp_ne (tgt := 72) hx hb dX10_word_56 (by decide) (fun c_56 => ?_) (fun c_56 => ?_)
          · exact absurd rfl c_56
          · refine lv_aload_n hx hb dX10_word_59 rfl (lv_at hl 1 rfl) ?_
            refine va_get (D := D) (ci := 10) (C := RX10) (T := TX10) (N := 10) hx hb hts in_X10 hown hK hP 0 rfl rfl 2 (by decide) fl_39 (fun _ h9 => h9) rfl dX10_word_60 ?_
            refine lv_aload_n hx hb dX10_word_63 rfl (lv_at hl 1 rfl) ?_
            refine va_get (D := D) (ci := 10) (C := RX10) (T := TX10) (N := 10) hx hb hts in_X10 hown hK hP 0 rfl rfl 1 (by decide) fl_30 (fun _ h9 => h9) rfl dX10_word_64 ?_
            refine lv_iload_n hx hb dX10_word_67 rfl (lv_at hl 2 rfl) ?_
            refine nu_V (n := 2) (ms := 28) X hK hE (c_X8_addWord h40 hdn) gX10_word_X8_addWord rfl (by decide +kernel) ⟨rfl, rfl⟩ ⟨Nat.le_of_ble_eq_true rfl, Nat.le_of_ble_eq_true rfl⟩ [3, 4, 1, 2] rfl rfl (fun _ => rfl) (fun _ => rfl) (fun _ => rfl) hA hP hD hS (va_recv hK hP (ci := 8) (q0 := 3) rfl rfl) rfl hl.1 rfl (Nat.le_of_ble_eq_true rfl) dX10_word_68 ⟨by show 0 + 3 ≤ 3; omega, by show 0 + 28 ≤ 28; omega⟩ (fun un H locs hP hD hS => ?_)
            obtain ⟨q0, q1, q2⟩ := un
            have hP : va_P D vwCl ((q0, .inr (9, [.ref q1, _, _, _, _, _])) :: (q1, .inr (4, [.ref q2, _])) :: (q2, .inl (cI, dn, .inl _)) :: (x, .inr (10, [.ref t, .ref d, .ref v, .ref th, .ref z, .ref g, .ref u, .ref w, .ref k, .ref h])) :: (d, .inr (4, [.ref db, _])) :: (db, .inl (cI, 20, .inl _)) :: (v, .inr (8, [.ref t, .ref vw, .ref vj, _, _])) :: (vw, .inl (cW, 40, .inr (.inr (.inr (.inr _))))) :: (t, .inr (3, [_, .ref fa])) :: (fa, .inl (cI, 32, .inl _)) :: dy) H := hP
            have hD : va_D A ((q0, .inr (9, [.ref q1, _, _, _, _, _])) :: (q1, .inr (4, [.ref q2, _])) :: (q2, .inl (cI, dn, .inl _)) :: (x, .inr (10, [.ref t, .ref d, .ref v, .ref th, .ref z, .ref g, .ref u, .ref w, .ref k, .ref h])) :: (d, .inr (4, [.ref db, _])) :: (db, .inl (cI, 20, .inl _)) :: (v, .inr (8, [.ref t, .ref vw, .ref vj, _, _])) :: (vw, .inl (cW, 40, .inr (.inr (.inr (.inr _))))) :: (t, .inr (3, [_, .ref fa])) :: (fa, .inl (cI, 32, .inl _)) :: dy) := hD
            refine lv_istore_n (lv' := [(3, _), (0, _), (1, _), (2, _)]) hx hb dX10_word_71 rfl hl (by decide) rfl (fun ls hl => ?_)
            refine lv_aload_n hx hb dX10_word_72 rfl (lv_at hl 1 rfl) ?_
            refine va_get (D := D) (ci := 10) (C := RX10) (T := TX10) (N := 10) hx hb hts in_X10 hown hK hP 3 rfl rfl 2 (by decide) fl_39 (fun _ h9 => h9) rfl dX10_word_73 ?_
            refine lv_iload_n hx hb dX10_word_76 rfl (lv_at hl 0 rfl) ?_
            refine ro_V (n := 1) X hK (c_X8_known) gX10_word_X8_known rfl (by decide +kernel) ⟨rfl, rfl⟩ ⟨Nat.le_of_ble_eq_true rfl, Nat.le_of_ble_eq_true rfl⟩ (hP.sub [6, 7] rfl) (va_recv hK hP (ci := 8) (q0 := 6) rfl rfl) rfl hl.1 rfl (Nat.le_of_ble_eq_true rfl) dX10_word_77 ⟨by show 3 ≤ 3; omega, by show 0 + 28 ≤ 28; omega⟩ ?_
            refine rf_eq (q := q0) (kn_new h40) ?_
            refine lv_astore (lv' := [(4, _), (3, _), (0, _), (1, _), (2, _)]) hx hb dX10_word_80 hl (by decide) rfl (fun ls hl => ?_)
            refine lv_aload hx hb dX10_word_82 (lv_at hl 0 rfl) ?_
            refine lv_ifnonnull (tgt := 90) hx hb dX10_word_84 (by decide) ?_
            refine lv_aload hx hb dX10_word_90 (lv_at hl 0 rfl) ?_
            refine lv_dup hx hb dX10_word_92 rfl ?_
            refine va_get (D := D) (ci := 9) (C := RX9) (T := TX9) (N := 6) hx hb hts in_X9 hown hK hP 0 rfl rfl 2 (by decide) fl_136 (fun _ h9 => h9) rfl dX10_word_93 ?_
            refine lv_iload_n hx hb dX10_word_96 rfl (lv_at hl 4 rfl) ?_
            refine lv_ior hx hb dX10_word_97 ?_
            refine topi_eq (show (0 : Int32) ||| kd = kd from Int32.zero_or) ?_
            refine va_put (D := D) (ci := 9) (ty := .int) (C := RX9) (T := TX9) (N := 6) hx hb hts in_X9 tyX9 tyX9_ok nmX9 hown hK hP hD hS 0 rfl rfl 2 (by decide) fl_136 (fun _ h9 => h9) rfl (by decide +kernel) rfl rfl (Nat.le_of_ble_eq_true rfl) dX10_word_98 (fun H locs hP hD hS => ?_)
            have hP : va_P D vwCl ((q0, .inr (9, [.ref q1, _, _, _, _, _])) :: (q1, .inr (4, [.ref q2, _])) :: (q2, .inl (cI, dn, .inl _)) :: (x, .inr (10, [.ref t, .ref d, .ref v, .ref th, .ref z, .ref g, .ref u, .ref w, .ref k, .ref h])) :: (d, .inr (4, [.ref db, _])) :: (db, .inl (cI, 20, .inl _)) :: (v, .inr (8, [.ref t, .ref vw, .ref vj, _, _])) :: (vw, .inl (cW, 40, .inr (.inr (.inr (.inr _))))) :: (t, .inr (3, [_, .ref fa])) :: (fa, .inl (cI, 32, .inl _)) :: dy) H := hP
            have hD : va_D A ((q0, .inr (9, [.ref q1, _, _, _, _, _])) :: (q1, .inr (4, [.ref q2, _])) :: (q2, .inl (cI, dn, .inl _)) :: (x, .inr (10, [.ref t, .ref d, .ref v, .ref th, .ref z, .ref g, .ref u, .ref w, .ref k, .ref h])) :: (d, .inr (4, [.ref db, _])) :: (db, .inl (cI, 20, .inl _)) :: (v, .inr (8, [.ref t, .ref vw, .ref vj, _, _])) :: (vw, .inl (cW, 40, .inr (.inr (.inr (.inr _))))) :: (t, .inr (3, [_, .ref fa])) :: (fa, .inl (cI, 32, .inl _)) :: dy) := hD
            refine lv_aload_n hx hb dX10_word_101 rfl (lv_at hl 2 rfl) ?_
            refine va_get (D := D) (ci := 10) (C := RX10) (T := TX10) (N := 10) hx hb hts in_X10 hown hK hP 3 rfl rfl 1 (by decide) fl_30 (fun _ h9 => h9) rfl dX10_word_102 ?_
            refine mu_V (n := 0) X hK (c_X4_clear) gX10_word_X4_clear rfl (by decide +kernel) ⟨rfl, rfl⟩ ⟨Nat.le_of_ble_eq_true rfl, Nat.le_of_ble_eq_true rfl⟩ [4, 5] rfl rfl rfl rfl hA hP hD hS (va_recv hK hP (ci := 4) (q0 := 4) rfl rfl) rfl hl.1 rfl (Nat.le_of_ble_eq_true rfl) dX10_word_105 ⟨by show 3 ≤ 3; omega, by show 0 + 28 ≤ 28; omega⟩ (fun H locs hP hD hS => ?_)
            have hP : va_P D vwCl ((q0, .inr (9, [.ref q1, _, _, _, _, _])) :: (q1, .inr (4, [.ref q2, _])) :: (q2, .inl (cI, dn, .inl _)) :: (x, .inr (10, [.ref t, .ref d, .ref v, .ref th, .ref z, .ref g, .ref u, .ref w, .ref k, .ref h])) :: (d, .inr (4, [.ref db, _])) :: (db, .inl (cI, 20, .inl _)) :: (v, .inr (8, [.ref t, .ref vw, .ref vj, _, _])) :: (vw, .inl (cW, 40, .inr (.inr (.inr (.inr _))))) :: (t, .inr (3, [_, .ref fa])) :: (fa, .inl (cI, 32, .inl _)) :: dy) H := hP
            have hD : va_D A ((q0, .inr (9, [.ref q1, _, _, _, _, _])) :: (q1, .inr (4, [.ref q2, _])) :: (q2, .inl (cI, dn, .inl _)) :: (x, .inr (10, [.ref t, .ref d, .ref v, .ref th, .ref z, .ref g, .ref u, .ref w, .ref k, .ref h])) :: (d, .inr (4, [.ref db, _])) :: (db, .inl (cI, 20, .inl _)) :: (v, .inr (8, [.ref t, .ref vw, .ref vj, _, _])) :: (vw, .inl (cW, 40, .inr (.inr (.inr (.inr _))))) :: (t, .inr (3, [_, .ref fa])) :: (fa, .inl (cI, 32, .inl _)) :: dy) := hD
            refine lv_iload_n hx hb dX10_word_108 rfl (lv_at hl 1 rfl) ?_
            have hP := app_P (w1 := [(q0, .inr (9, [.ref q1, _, _, _, _, _])), (q1, .inr (4, [.ref q2, _])), (q2, .inl (cI, dn, .inl _))]) (w2 := ((x, .inr (10, [.ref t, .ref d, .ref v, .ref th, .ref z, .ref g, .ref u, .ref w, .ref k, .ref h])) :: (d, .inr (4, [.ref db, _])) :: (db, .inl (cI, 20, .inl _)) :: (v, .inr (8, [.ref t, .ref vw, .ref vj, _, _])) :: (vw, .inl (cW, 40, .inr (.inr (.inr (.inr _))))) :: (t, .inr (3, [_, .ref fa])) :: (fa, .inl (cI, 32, .inl _)) :: dy)) hP
            have hD := app_D (w1 := [(q0, .inr (9, [.ref q1, _, _, _, _, _])), (q1, .inr (4, [.ref q2, _])), (q2, .inl (cI, dn, .inl _))]) (w2 := ((x, .inr (10, [.ref t, .ref d, .ref v, .ref th, .ref z, .ref g, .ref u, .ref w, .ref k, .ref h])) :: (d, .inr (4, [.ref db, _])) :: (db, .inl (cI, 20, .inl _)) :: (v, .inr (8, [.ref t, .ref vw, .ref vj, _, _])) :: (vw, .inl (cW, 40, .inr (.inr (.inr (.inr _))))) :: (t, .inr (3, [_, .ref fa])) :: (fa, .inl (cI, 32, .inl _)) :: dy)) hD
            exact nu_iret (q0, q1, q2) X hP hD hS (rfl) (rfl) ⟨by show 3 ≤ 3; omega, by show 0 + 28 ≤ 28; omega⟩ dX10_word_109
        · exact absurd ((nI_eq (a := dn) (b := 0) (by omega) (by decide)).mp c_27) h0
      · exact absurd hok (fun q => by rw [okW, inK] at q; simp [c_4, c_8, c_14] at q)

set_option maxHeartbeats 1000000 in
set_option maxRecDepth 100000 in
theorem c_X10_join_n {l : Launch} {D : va_G} {cI cJ cW : ClassId} {x t d v th z g u w k h : Nat} {db dn vw vj nw nj : Nat} {df : Nat → Int32} {wf jf : Nat → Option Nat} {wa : Nat → Nat → Nat} {y e : Int32} (hdn : dn ≤ 20) (hnw : nw ≤ 40) (hwf : ∀ i, i < nw → wf i = some (wa i 0)) (hnj : nj ≤ 8) (hno : ¬ (((ixO nw y).isSome && (ixO nw e).isSome) = true ∧ ¬ dn = 0 ∧ nj < 8)) : RO l yX10_join wsX10_join { frames := 4, cells := 0, slots := 0, locals := 89 } D (ty3 cI cJ cW) [.ref x, .int y, .int e] [(x, .inr (10, [.ref t, .ref d, .ref v, .ref th, .ref z, .ref g, .ref u, .ref w, .ref k, .ref h])), (d, .inr (4, [.ref db, .int (nI dn)])), (db, .inl (cI, 20, .inl df)), (v, .inr (8, [.ref t, .ref vw, .ref vj, .int (nI nw), .int (nI nj)])), (vw, .inl (cW, 40, .inr (.inr (.inr (.inr wf))))), (vj, .inl (cJ, 8, .inr (.inr (.inr (.inr jf)))))] (.int (aJoinN nw dn y e)) := by
  refine ro_of (cc := cX10_join) (maxL := 3) (ret := (some .int)) (by decide) rfl (Nat.le_of_ble_eq_true rfl) ?_
  intro pr en ss mi below meth cd X hP hK ls hl
  obtain ⟨hx, hb, hml, hown, hts, hr, hlocks⟩ := id X
  have fl_118 := hts (.fieldLink RX10 118 "WordTables$Row" "count" "I") (by decide +kernel)
  have fl_30 := hts (.fieldLink RX10 30 "WordTables" "draft" "LWordTables$Row;") (by decide +kernel)
  have fl_39 := hts (.fieldLink RX10 39 "WordTables" "vocabulary" "LWordTables$Vocabulary;") (by decide +kernel)
  have in_X10 : ∀ w ∈ wsX100, w ∈ wsX10_join := by decide +kernel
  have in_X4 : ∀ w ∈ wsX40, w ∈ wsX10_join := by decide +kernel
  have hl : lv_has ls 3 [(0, .ref x), (1, .int y), (2, .int e)] := hl
  refine lv_aload_n hx hb dX10_join_0 rfl (lv_at hl 0 rfl) ?_
  refine va_get (D := D) (ci := 10) (C := RX10) (T := TX10) (N := 10) hx hb hts in_X10 hown hK hP 0 rfl rfl 2 (by decide) fl_39 (fun _ h9 => h9) rfl dX10_join_1 ?_
  refine lv_iload_n hx hb dX10_join_4 rfl (lv_at hl 1 rfl) ?_
  refine ro_V (n := 1) X hK (c_X8_known) gX10_join_X8_known rfl (by decide +kernel) ⟨rfl, rfl⟩ ⟨Nat.le_of_ble_eq_true rfl, Nat.le_of_ble_eq_true rfl⟩ (hP.sub [3, 4] rfl) (va_recv hK hP (ci := 8) (q0 := 3) rfl rfl) rfl hl.1 rfl (Nat.le_of_ble_eq_true rfl) dX10_join_5 ⟨Nat.zero_le _, Nat.zero_le _⟩ ?_
  refine lv_splitq (fun e_5 => ?_) (fun q_5 e_5 => ?_)
  · refine lv_ifnullN (tgt := 22) hx hb dX10_join_8 (by decide) ?_
    have hok : ((ixO nw y).isSome && (ixO nw e).isSome) = false := by first | (rw [ixO_out (kn_none e_5 hnw hwf)]; rfl) | (rw [ixO_out (kn_none e_16 hnw hwf)]; simp)
    refine lv_bipush (v := -2) hx hb dX10_join_22 (by decide) ?_
    exact ro_iret X (by rw [aJoinN, if_neg (by rw [hok]; decide)]) dX10_join_24
  · have hx_5 : (ixO nw y).isSome = true := by rw [← Option.isSome_map (f := fun j => wa j 0), ← kn_ix hnw hwf, e_5]; rfl
    refine lv_ifnull hx hb dX10_join_8 ?_
    refine lv_aload_n hx hb dX10_join_11 rfl (lv_at hl 0 rfl) ?_
    refine va_get (D := D) (ci := 10) (C := RX10) (T := TX10) (N := 10) hx hb hts in_X10 hown hK hP 0 rfl rfl 2 (by decide) fl_39 (fun _ h9 => h9) rfl dX10_join_12 ?_
    refine lv_iload_n hx hb dX10_join_15 rfl (lv_at hl 2 rfl) ?_
    refine ro_V (n := 1) X hK (c_X8_known) gX10_join_X8_known rfl (by decide +kernel) ⟨rfl, rfl⟩ ⟨Nat.le_of_ble_eq_true rfl, Nat.le_of_ble_eq_true rfl⟩ (hP.sub [3, 4] rfl) (va_recv hK hP (ci := 8) (q0 := 3) rfl rfl) rfl hl.1 rfl (Nat.le_of_ble_eq_true rfl) dX10_join_16 ⟨Nat.zero_le _, Nat.zero_le _⟩ ?_
    refine lv_splitq (fun e_16 => ?_) (fun q_16 e_16 => ?_)
    · refine lv_ifnonnullN hx hb dX10_join_19 ?_
      have hok : ((ixO nw y).isSome && (ixO nw e).isSome) = false := by first | (rw [ixO_out (kn_none e_5 hnw hwf)]; rfl) | (rw [ixO_out (kn_none e_16 hnw hwf)]; simp)
      refine lv_bipush (v := -2) hx hb dX10_join_22 (by decide) ?_
      exact ro_iret X (by rw [aJoinN, if_neg (by rw [hok]; decide)]) dX10_join_24
    · have hx_16 : (ixO nw e).isSome = true := by rw [← Option.isSome_map (f := fun j => wa j 0), ← kn_ix hnw hwf, e_16]; rfl
      refine lv_ifnonnull (tgt := 25) hx hb dX10_join_19 (by decide) ?_
      have hok : ((ixO nw y).isSome && (ixO nw e).isSome) = true := by rw [hx_5, hx_16]; rfl
      refine lv_aload_n hx hb dX10_join_25 rfl (lv_at hl 0 rfl) ?_
      refine va_get (D := D) (ci := 10) (C := RX10) (T := TX10) (N := 10) hx hb hts in_X10 hown hK hP 0 rfl rfl 1 (by decide) fl_30 (fun _ h9 => h9) rfl dX10_join_26 ?_
      refine va_get (D := D) (ci := 4) (C := RX4) (T := TX4) (N := 2) hx hb hts in_X4 hown hK hP 1 rfl rfl 1 (by decide) fl_118 (fun _ h9 => h9) rfl dX10_join_29 ?_
      refine lv_if_ne (tgt := 38) hx hb dX10_join_32 (by decide) (fun c_32 => ?_) (fun c_32 => ?_)
      · have h0 : ¬ dn = 0 := fun q => c_32 (by rw [q]; rfl)
        have h8 : nj = 8 := by rcases Nat.lt_or_ge nj 8 with q | q; exact absurd ⟨hok, h0, q⟩ hno; omega
        refine lv_aload_n hx hb dX10_join_38 rfl (lv_at hl 0 rfl) ?_
        refine va_get (D := D) (ci := 10) (C := RX10) (T := TX10) (N := 10) hx hb hts in_X10 hown hK hP 0 rfl rfl 2 (by decide) fl_39 (fun _ h9 => h9) rfl dX10_join_39 ?_
        refine lv_aload_n hx hb dX10_join_42 rfl (lv_at hl 0 rfl) ?_
        refine va_get (D := D) (ci := 10) (C := RX10) (T := TX10) (N := 10) hx hb hts in_X10 hown hK hP 0 rfl rfl 1 (by decide) fl_30 (fun _ h9 => h9) rfl dX10_join_43 ?_
        refine lv_iload_n hx hb dX10_join_46 rfl (lv_at hl 1 rfl) ?_
        refine lv_iload_n hx hb dX10_join_47 rfl (lv_at hl 2 rfl) ?_
        refine ro_V (n := 3) X hK (c_X8_addJoin_n h8) gX10_join_X8_addJoin rfl (by decide +kernel) ⟨rfl, rfl⟩ ⟨Nat.le_of_ble_eq_true rfl, Nat.le_of_ble_eq_true rfl⟩ (hP.sub [3, 5, 1, 2] rfl) (va_recv hK hP (ci := 8) (q0 := 3) rfl rfl) rfl hl.1 rfl (Nat.le_of_ble_eq_true rfl) dX10_join_48 ⟨Nat.zero_le _, Nat.zero_le _⟩ ?_
        refine lv_if_ne (tgt := 57) hx hb dX10_join_51 (by decide) (fun c_51 => ?_) (fun c_51 => ?_)
        · replace c_51 := bI_n0.mp c_51
          exact absurd c_51 (by decide)
        · replace c_51 := bI_0.mp c_51
          refine lv_bipush (v := -5) hx hb dX10_join_54 (by decide) ?_
          exact ro_iret X (by rw [aJoinN, if_pos hok, if_neg h0]) dX10_join_56
      · have h0 : dn = 0 := (nI_eq (a := dn) (b := 0) (by omega) (by decide)).mp c_32
        refine lv_bipush (v := -4) hx hb dX10_join_35 (by decide) ?_
        exact ro_iret X (by rw [aJoinN, if_pos hok, if_pos h0]) dX10_join_37

set_option maxHeartbeats 1000000 in
set_option maxRecDepth 100000 in
theorem c_X10_join {l : Launch} {D : va_G} {cI cJ cW : ClassId} {sz : Nat} {x t d v th z g u w k h : Nat} {db dn vw vj nw nj : Nat} {df : Nat → Int32} {wf jf : Nat → Option Nat} {wa : Nat → Nat → Nat} {y e : Int32} (hdn : dn ≤ 20) (hnw : nw ≤ 40) (hwf : ∀ i, i < nw → wf i = some (wa i 0)) (hnj : nj ≤ 8) (hok : ((ixO nw y).isSome && (ixO nw e).isSome) = true) (h0 : ¬ dn = 0) (h8 : nj < 8) : NU l yX10_join wsX10_join { frames := 4, cells := 3, slots := 25, locals := 89 } D (ty3 cI cJ cW) [.ref x, .int y, .int e] [(x, .inr (10, [.ref t, .ref d, .ref v, .ref th, .ref z, .ref g, .ref u, .ref w, .ref k, .ref h])), (d, .inr (4, [.ref db, .int (nI dn)])), (db, .inl (cI, 20, .inl df)), (v, .inr (8, [.ref t, .ref vw, .ref vj, .int (nI nw), .int (nI nj)])), (vw, .inl (cW, 40, .inr (.inr (.inr (.inr wf))))), (vj, .inl (cJ, 8, .inr (.inr (.inr (.inr jf)))))] sz (fun (_ : Nat × Nat × Nat) => (some (.int (nI (nj + 1))))) (fun (un : Nat × Nat × Nat) => [(x, .inr (10, [.ref t, .ref d, .ref v, .ref th, .ref z, .ref g, .ref u, .ref w, .ref k, .ref h])), (d, .inr (4, [.ref db, .int 0])), (db, .inl (cI, 20, .inl df)), (v, .inr (8, [.ref t, .ref vw, .ref vj, .int (nI nw), .int (nI (nj + 1))])), (vw, .inl (cW, 40, .inr (.inr (.inr (.inr wf))))), (vj, .inl (cJ, 8, .inr (.inr (.inr (.inr (va_up jf nj (some un.1)))))))] ++ [(un.1, .inr (2, [.ref un.2.1, .int y, .int e])), (un.2.1, .inr (4, [.ref un.2.2, .int (nI dn)])), (un.2.2, .inl (cI, dn, .inl (cpF (fun _ => 0) df dn)))]) 3 25 := by
  refine nu_of (cc := cX10_join) (maxL := 3) (ret := (some .int)) (by decide) rfl (Nat.le_of_ble_eq_true rfl) ?_
  intro pr en ss mi below meth cd X hK hE hin A hA hP hD hS ls hl
  obtain ⟨hx, hb, hml, hown, hts, hr, hlocks⟩ := id X
  have fl_118 := hts (.fieldLink RX10 118 "WordTables$Row" "count" "I") (by decide +kernel)
  have fl_30 := hts (.fieldLink RX10 30 "WordTables" "draft" "LWordTables$Row;") (by decide +kernel)
  have fl_39 := hts (.fieldLink RX10 39 "WordTables" "vocabulary" "LWordTables$Vocabulary;") (by decide +kernel)
  have fl_97 := hts (.fieldLink RX10 97 "WordTables$Vocabulary" "joinCount" "I") (by decide +kernel)
  have in_X10 : ∀ w ∈ wsX100, w ∈ wsX10_join := by decide +kernel
  have in_X4 : ∀ w ∈ wsX40, w ∈ wsX10_join := by decide +kernel
  have in_X8 : ∀ w ∈ wsX80, w ∈ wsX10_join := by decide +kernel
  have hl : lv_has ls 3 [(0, .ref x), (1, .int y), (2, .int e)] := hl
  refine lv_aload_n hx hb dX10_join_0 rfl (lv_at hl 0 rfl) ?_
  refine va_get (D := D) (ci := 10) (C := RX10) (T := TX10) (N := 10) hx hb hts in_X10 hown hK hP 0 rfl rfl 2 (by decide) fl_39 (fun _ h9 => h9) rfl dX10_join_1 ?_
  refine lv_iload_n hx hb dX10_join_4 rfl (lv_at hl 1 rfl) ?_
  refine ro_V (n := 1) X hK (c_X8_known) gX10_join_X8_known rfl (by decide +kernel) ⟨rfl, rfl⟩ ⟨Nat.le_of_ble_eq_true rfl, Nat.le_of_ble_eq_true rfl⟩ (hP.sub [3, 4] rfl) (va_recv hK hP (ci := 8) (q0 := 3) rfl rfl) rfl hl.1 rfl (Nat.le_of_ble_eq_true rfl) dX10_join_5 ⟨by show 0 ≤ 3; omega, by show 0 ≤ 25; omega⟩ ?_
  refine lv_splitq (fun e_5 => ?_) (fun q_5 e_5 => ?_)
  · refine lv_ifnullN (tgt := 22) hx hb dX10_join_8 (by decide) ?_
    exact absurd hok (by first | (rw [ixO_out (kn_none e_5 hnw hwf)]; simp; done) | (rw [ixO_out (kn_none e_16 hnw hwf)]; simp))
  · have hx_5 : (ixO nw y).isSome = true := by rw [← Option.isSome_map (f := fun j => wa j 0), ← kn_ix hnw hwf, e_5]; rfl
    refine lv_ifnull hx hb dX10_join_8 ?_
    refine lv_aload_n hx hb dX10_join_11 rfl (lv_at hl 0 rfl) ?_
    refine va_get (D := D) (ci := 10) (C := RX10) (T := TX10) (N := 10) hx hb hts in_X10 hown hK hP 0 rfl rfl 2 (by decide) fl_39 (fun _ h9 => h9) rfl dX10_join_12 ?_
    refine lv_iload_n hx hb dX10_join_15 rfl (lv_at hl 2 rfl) ?_
    refine ro_V (n := 1) X hK (c_X8_known) gX10_join_X8_known rfl (by decide +kernel) ⟨rfl, rfl⟩ ⟨Nat.le_of_ble_eq_true rfl, Nat.le_of_ble_eq_true rfl⟩ (hP.sub [3, 4] rfl) (va_recv hK hP (ci := 8) (q0 := 3) rfl rfl) rfl hl.1 rfl (Nat.le_of_ble_eq_true rfl) dX10_join_16 ⟨by show 0 ≤ 3; omega, by show 0 ≤ 25; omega⟩ ?_
    refine lv_splitq (fun e_16 => ?_) (fun q_16 e_16 => ?_)
    · refine lv_ifnonnullN hx hb dX10_join_19 ?_
      exact absurd hok (by first | (rw [ixO_out (kn_none e_5 hnw hwf)]; simp; done) | (rw [ixO_out (kn_none e_16 hnw hwf)]; simp))
    · have hx_16 : (ixO nw e).isSome = true := by rw [← Option.isSome_map (f := fun j => wa j 0), ← kn_ix hnw hwf, e_16]; rfl
      refine lv_ifnonnull (tgt := 25) hx hb dX10_join_19 (by decide) ?_
      refine lv_aload_n hx hb dX10_join_25 rfl (lv_at hl 0 rfl) ?_
      refine va_get (D := D) (ci := 10) (C := RX10) (T := TX10) (N := 10) hx hb hts in_X10 hown hK hP 0 rfl rfl 1 (by decide) fl_30 (fun _ h9 => h9) rfl dX10_join_26 ?_
      refine va_get (D := D) (ci := 4) (C := RX4) (T := TX4) (N := 2) hx hb hts in_X4 hown hK hP 1 rfl rfl 1 (by decide) fl_118 (fun _ h9 => h9) rfl dX10_join_29 ?_
      refine lv_if_ne (tgt := 38) hx hb dX10_join_32 (by decide) (fun c_32 => ?_) (fun c_32 => ?_)
      · refine lv_aload_n hx hb dX10_join_38 rfl (lv_at hl 0 rfl) ?_
        refine va_get (D := D) (ci := 10) (C := RX10) (T := TX10) (N := 10) hx hb hts in_X10 hown hK hP 0 rfl rfl 2 (by decide) fl_39 (fun _ h9 => h9) rfl dX10_join_39 ?_
        refine lv_aload_n hx hb dX10_join_42 rfl (lv_at hl 0 rfl) ?_
        refine va_get (D := D) (ci := 10) (C := RX10) (T := TX10) (N := 10) hx hb hts in_X10 hown hK hP 0 rfl rfl 1 (by decide) fl_30 (fun _ h9 => h9) rfl dX10_join_43 ?_
        refine lv_iload_n hx hb dX10_join_46 rfl (lv_at hl 1 rfl) ?_
        refine lv_iload_n hx hb dX10_join_47 rfl (lv_at hl 2 rfl) ?_
        refine nu_V (n := 3) (ms := 25) X hK hE (c_X8_addJoin h8 hdn) gX10_join_X8_addJoin rfl (by decide +kernel) ⟨rfl, rfl⟩ ⟨Nat.le_of_ble_eq_true rfl, Nat.le_of_ble_eq_true rfl⟩ [3, 5, 1, 2] rfl rfl (fun _ => rfl) (fun _ => rfl) (fun _ => rfl) hA hP hD hS (va_recv hK hP (ci := 8) (q0 := 3) rfl rfl) rfl hl.1 rfl (Nat.le_of_ble_eq_true rfl) dX10_join_48 ⟨by show 0 + 3 ≤ 3; omega, by show 0 + 25 ≤ 25; omega⟩ (fun un H locs hP hD hS => ?_)
        obtain ⟨q0, q1, q2⟩ := un
        have hP : va_P D vwCl [(q0, .inr (2, [.ref q1, _, _])), (q1, .inr (4, [.ref q2, _])), (q2, .inl (cI, dn, .inl _)), (x, .inr (10, [.ref t, .ref d, .ref v, .ref th, .ref z, .ref g, .ref u, .ref w, .ref k, .ref h])), (d, .inr (4, [.ref db, _])), (db, .inl (cI, 20, .inl _)), (v, .inr (8, [.ref t, .ref vw, .ref vj, _, _])), (vw, .inl (cW, 40, .inr (.inr (.inr (.inr _))))), (vj, .inl (cJ, 8, .inr (.inr (.inr (.inr _)))))] H := hP
        have hD : va_D A [(q0, .inr (2, [.ref q1, _, _])), (q1, .inr (4, [.ref q2, _])), (q2, .inl (cI, dn, .inl _)), (x, .inr (10, [.ref t, .ref d, .ref v, .ref th, .ref z, .ref g, .ref u, .ref w, .ref k, .ref h])), (d, .inr (4, [.ref db, _])), (db, .inl (cI, 20, .inl _)), (v, .inr (8, [.ref t, .ref vw, .ref vj, _, _])), (vw, .inl (cW, 40, .inr (.inr (.inr (.inr _))))), (vj, .inl (cJ, 8, .inr (.inr (.inr (.inr _)))))] := hD
        refine lv_if_ne (tgt := 57) hx hb dX10_join_51 (by decide) (fun c_51 => ?_) (fun c_51 => ?_)
        · replace c_51 := bI_n0.mp c_51
          refine lv_aload_n hx hb dX10_join_57 rfl (lv_at hl 0 rfl) ?_
          refine va_get (D := D) (ci := 10) (C := RX10) (T := TX10) (N := 10) hx hb hts in_X10 hown hK hP 3 rfl rfl 1 (by decide) fl_30 (fun _ h9 => h9) rfl dX10_join_58 ?_
          refine mu_V (n := 0) X hK (c_X4_clear) gX10_join_X4_clear rfl (by decide +kernel) ⟨rfl, rfl⟩ ⟨Nat.le_of_ble_eq_true rfl, Nat.le_of_ble_eq_true rfl⟩ [4, 5] rfl rfl rfl rfl hA hP hD hS (va_recv hK hP (ci := 4) (q0 := 4) rfl rfl) rfl hl.1 rfl (Nat.le_of_ble_eq_true rfl) dX10_join_61 ⟨by show 3 ≤ 3; omega, by show 0 + 25 ≤ 25; omega⟩ (fun H locs hP hD hS => ?_)
          have hP : va_P D vwCl [(q0, .inr (2, [.ref q1, _, _])), (q1, .inr (4, [.ref q2, _])), (q2, .inl (cI, dn, .inl _)), (x, .inr (10, [.ref t, .ref d, .ref v, .ref th, .ref z, .ref g, .ref u, .ref w, .ref k, .ref h])), (d, .inr (4, [.ref db, _])), (db, .inl (cI, 20, .inl _)), (v, .inr (8, [.ref t, .ref vw, .ref vj, _, _])), (vw, .inl (cW, 40, .inr (.inr (.inr (.inr _))))), (vj, .inl (cJ, 8, .inr (.inr (.inr (.inr _)))))] H := hP
          have hD : va_D A [(q0, .inr (2, [.ref q1, _, _])), (q1, .inr (4, [.ref q2, _])), (q2, .inl (cI, dn, .inl _)), (x, .inr (10, [.ref t, .ref d, .ref v, .ref th, .ref z, .ref g, .ref u, .ref w, .ref k, .ref h])), (d, .inr (4, [.ref db, _])), (db, .inl (cI, 20, .inl _)), (v, .inr (8, [.ref t, .ref vw, .ref vj, _, _])), (vw, .inl (cW, 40, .inr (.inr (.inr (.inr _))))), (vj, .inl (cJ, 8, .inr (.inr (.inr (.inr _)))))] := hD
          refine lv_aload_n hx hb dX10_join_64 rfl (lv_at hl 0 rfl) ?_
          refine va_get (D := D) (ci := 10) (C := RX10) (T := TX10) (N := 10) hx hb hts in_X10 hown hK hP 3 rfl rfl 2 (by decide) fl_39 (fun _ h9 => h9) rfl dX10_join_65 ?_
          refine va_get (D := D) (ci := 8) (C := RX8) (T := TX8) (N := 5) hx hb hts in_X8 hown hK hP 6 rfl rfl 4 (by decide) fl_97 (fun _ h9 => h9) rfl dX10_join_68 ?_
          have hP := hP.sub (ws' := [(x, .inr (10, [.ref t, .ref d, .ref v, .ref th, .ref z, .ref g, .ref u, .ref w, .ref k, .ref h])), (d, .inr (4, [.ref db, _])), (db, .inl (cI, 20, .inl _)), (v, .inr (8, [.ref t, .ref vw, .ref vj, _, _])), (vw, .inl (cW, 40, .inr (.inr (.inr (.inr _))))), (vj, .inl (cJ, 8, .inr (.inr (.inr (.inr _))))), (q0, .inr (2, [.ref q1, _, _])), (q1, .inr (4, [.ref q2, _])), (q2, .inl (cI, dn, .inl _))]) [3, 4, 5, 6, 7, 8, 0, 1, 2] rfl
          have hD := hD.sub (ws' := [(x, .inr (10, [.ref t, .ref d, .ref v, .ref th, .ref z, .ref g, .ref u, .ref w, .ref k, .ref h])), (d, .inr (4, [.ref db, _])), (db, .inl (cI, 20, .inl _)), (v, .inr (8, [.ref t, .ref vw, .ref vj, _, _])), (vw, .inl (cW, 40, .inr (.inr (.inr (.inr _))))), (vj, .inl (cJ, 8, .inr (.inr (.inr (.inr _))))), (q0, .inr (2, [.ref q1, _, _])), (q1, .inr (4, [.ref q2, _])), (q2, .inl (cI, dn, .inl _))]) [3, 4, 5, 6, 7, 8, 0, 1, 2] (by decide) rfl
          exact nu_iret (q0, q1, q2) X hP hD hS (rfl) (rfl) ⟨by show 3 ≤ 3; omega, by show 0 + 25 ≤ 25; omega⟩ dX10_join_71
        · replace c_51 := bI_0.mp c_51
          exact absurd c_51 (by decide)
      · exact absurd ((nI_eq (a := dn) (b := 0) (by omega) (by decide)).mp c_32) h0
