/-! WordTables: the answers, in words that both sides share -/
def ixO (n : Nat) (x : Int32) : Option Nat := if x < 0 then none else if nI n ≤ x then none else some x.toNatClampNeg
theorem ixO_nI {n j : Nat} (h : j < n) (hn : n < 2 ^ 31) : ixO n (nI j) = some j := by
  have h1 : ¬ nI j < 0 := nI_pos (by omega)
  have h2 : ¬ nI n ≤ nI j := nI_ge h hn
  simp [ixO, h1, h2, nI_clamp (show j < 2 ^ 31 by omega)]
theorem ixO_out {n : Nat} {x : Int32} (h : x < 0 ∨ nI n ≤ x) : ixO n x = none := by
  rcases h with h | h <;> simp [ixO, h]
theorem ixO_some {n j : Nat} {x : Int32} (h : ixO n x = some j) (hn : n < 2 ^ 31) : j < n ∧ x = nI j := by
  rcases pk_ix x hn with h1 | h1 | ⟨i, hi, rfl⟩
  · rw [ixO_out (Or.inl h1)] at h; cases h
  · rw [ixO_out (Or.inr h1)] at h; cases h
  · rw [ixO_nI hi hn] at h; cases h; exact ⟨hi, rfl⟩
theorem ixO_none {n : Nat} {x : Int32} (h : ixO n x = none) (hn : n < 2 ^ 31) : x < 0 ∨ nI n ≤ x := by
  rcases pk_ix x hn with h1 | h1 | ⟨i, hi, rfl⟩
  · exact Or.inl h1
  · exact Or.inr h1
  · rw [ixO_nI hi hn] at h; cases h
theorem kn_ix {wf : Nat → Option Nat} {nw : Nat} {x : Int32} {wa : Nat → Nat → Nat} (hnw : nw ≤ 40) (hwf : ∀ i, i < nw → wf i = some (wa i 0)) : knF wf nw x = (ixO nw x).map (fun j => wa j 0) := by
  rcases pk_ix x (n := nw) (by omega) with h1 | h1 | ⟨i, hi, rfl⟩
  · rw [ixO_out (Or.inl h1), kn_out (Or.inl h1)]; rfl
  · rw [ixO_out (Or.inr h1), kn_out (Or.inr h1)]; rfl
  · rw [ixO_nI hi (by omega), kn_nI hi hnw hwf]; rfl
theorem hasK_t {tn : Nat} {x : Int32} (h : hasK (nI tn) x = true) (hn : tn ≤ 24) : ∃ i, i < tn ∧ x = nI i := by
  simp only [hasK, Bool.and_eq_true, Bool.not_eq_true', decide_eq_false_iff_not] at h
  rcases pk_ix x (n := tn) (by omega) with h1 | h1 | h1
  · exact absurd h1 h.1.1
  · exact absurd h1 h.1.2
  · exact h1
theorem hasK_nI {tn i : Nat} (h : i < tn) (hn : tn ≤ 24) : hasK (nI tn) (nI i) = true := by
  have h1 : ¬ nI i < 0 := nI_pos (by omega)
  have h2 : ¬ nI tn ≤ nI i := nI_ge h (by omega)
  have h3 : ¬ (24 : Int32) ≤ nI i := nI_ge (b := 24) (by omega) (by decide)
  simp [hasK, h1, h2, h3]
theorem hasK_f {tn : Nat} {x : Int32} (h : hasK (nI tn) x = false) (hn : tn ≤ 24) : ixO tn x = none := by
  rcases pk_ix x (n := tn) (by omega) with h1 | h1 | ⟨i, hi, rfl⟩
  · exact ixO_out (Or.inl h1)
  · exact ixO_out (Or.inr h1)
  · rw [hasK_nI hi hn] at h; cases h
def tokW (T : Nat → Nat → Int32) (nw i : Nat) : Option Nat := if T 1 i = 0 then ixO nw (T 4 i) else none
def tmI (T : Nat → Nat → Int32) (nw : Nat) (wz : Nat → Nat → Int32) (mt mw mf : Nat → Int32) (fu : Int32) (mm i : Nat) : Int32 := match tokW T nw i with
  | none => 0
  | some j => (if wz j 4 = -1 then mbF mt mw mf fu (T 4 i) mm else mbF mt mw mf fu (T 4 i) mm ||| mbF mt mw mf fu (wz j 4) mm) ||| (if wz j 2 &&& 16 = 0 then 0 else wz j 5)
def aTold (x a0 a1 a2 a3 a4 a5 a6 : Int32) : Int32 := if x = 0 then a0 else if x = 1 then a1 else if x = 2 then a2 else if x = 3 then a3 else if x = 4 then a4 else if x = 5 then a5 else if x = 6 then a6 else -2
def aAbout (nw : Nat) (wz : Nat → Nat → Int32) (wn : Nat → Nat) (w x : Int32) : Int32 := match ixO nw w with
  | none => -2
  | some j => if x = 0 then wz j 1 else if x = 1 then wz j 2 else if x = 2 then wz j 3 else if x = 3 then wz j 4 else if x = 4 then nI (wn j) else if x = 5 then wz j 5 else -2
def aEqual (nw ct : Nat) (fo : Nat → Int32) (wn : Nat → Nat) (wt : Nat → Nat → Int32) (a b : Int32) : Int32 := match ixO nw a with
  | none => -2
  | some i => match ixO nw b with
    | none => -2
    | some j => bI (likeB ct (foC fo) (wt i) (wn i) (wt j) (wn j))
def aToken (tn nw : Nat) (T wz : Nat → Nat → Int32) (w x : Int32) : Int32 := match ixO tn w with
  | none => -2
  | some i => if x = 0 then T 1 i else if x = 1 then T 2 i else if x = 2 then T 3 i else if x = 3 then T 4 i else if x = 4 then (match tokW T nw i with | none => 0 | some j => wz j 2) else -2
def aAt (tn xn : Nat) (T : Nat → Nat → Int32) (X : Nat → Int32) (w x : Int32) : Int32 := match ixO tn w with
  | none => -2
  | some i => if x < 0 then -2 else if x < T 3 i then rowAt (nI xn) 80 X (T 2 i + x) else -2
def aMeant (tn nw : Nat) (T wz : Nat → Nat → Int32) (mt mw mf : Nat → Int32) (fu : Int32) (mm : Nat) (w : Int32) : Int32 := match ixO tn w with
  | none => -2
  | some i => tmI T nw wz mt mw mf fu mm i
def isLg (x : Int32) : Bool := !decide (x < 0) && !decide (3 ≤ x)
def isFl (x : Int32) : Bool := !decide (x < 0) && !decide (8 ≤ x)
/-- the amount from place i on: (rest, part, length) -/
def smF (T : Nat → Nat → Int32) (tn nw : Nat) (wz : Nat → Nat → Int32) : Nat → Nat → Int32 × Int32 × Int32 → Int32 × Int32 × Int32
  | 0, _, σ => σ
  | m + 1, k, σ => if k < tn then (match tokW T nw k with
    | none => σ
    | some j => if wz j 2 &&& 32 = 0 then σ else if (sumA σ.1 σ.2.1 σ.2.2 (wz j 3)).1 = true then smF T tn nw wz m (k + 1) (sumA σ.1 σ.2.1 σ.2.2 (wz j 3)).2 else (sumA σ.1 σ.2.1 σ.2.2 (wz j 3)).2) else σ
def smA (T : Nat → Nat → Int32) (tn nw : Nat) (wz : Nat → Nat → Int32) (i : Nat) : Int32 × Int32 × Int32 := if T 1 i = 2 then (0, T 4 i, 1) else smF T tn nw wz (tn - i) i (0, 0, 0)
def phF (T : Nat → Nat → Int32) (tn nw : Nat) (wz : Nat → Nat → Int32) (me : Nat → Int32) : Nat → Nat → Int32 × Int32 → Int32 × Int32
  | 0, _, σ => σ
  | m + 1, k, σ => if k < tn then (match tokW T nw k with
    | none => σ
    | some j => if wz j 2 &&& 22 = 0 then σ else if (coA σ.1 σ.2 (me k)).1 = true then phF T tn nw wz me m (k + 1) (coA σ.1 σ.2 (me k)).2 else (coA σ.1 σ.2 (me k)).2) else σ

set_option maxHeartbeats 1000000 in
set_option maxRecDepth 100000 in
theorem c_X10_isLanguage {l : Launch} {D : va_G} {cI cJ cW : ClassId} {y : Int32}  : RO l yX10_isLanguage wsX10_isLanguage { frames := 0, cells := 0, slots := 0, locals := 0 } D (ty3 cI cJ cW) [.int y] [] (.int (bI (isLg y))) := by
  refine ro_of (cc := cX10_isLanguage) (maxL := 1) (ret := (some .boolean)) (by decide) rfl (Nat.le_of_ble_eq_true rfl) ?_
  intro pr en ss mi below meth cd X hP hK ls hl
  obtain ⟨hx, hb, hml, hown, hts, hr, hlocks⟩ := id X
  have hl : lv_has ls 1 [(0, .int y)] := hl
  refine lv_iload_n hx hb dX10_isLanguage_0 rfl (lv_at hl 0 rfl) ?_
  refine lv_if_lt (tgt := 13) hx hb dX10_isLanguage_1 (by decide) (fun c_1 => ?_) (fun c_1 => ?_)
  · refine lv_iconst (v := 0) hx hb dX10_isLanguage_13 (by decide) ?_
    exact ro_zret X (by simp [isLg, bI, c_1]) dX10_isLanguage_14
  · refine lv_iload_n hx hb dX10_isLanguage_4 rfl (lv_at hl 0 rfl) ?_
    refine lv_iconst (v := 3) hx hb dX10_isLanguage_5 (by decide) ?_
    refine lv_icmp_ge (tgt := 13) hx hb dX10_isLanguage_6 (by decide) (fun c_6 => ?_) (fun c_6 => ?_)
    · refine lv_iconst (v := 0) hx hb dX10_isLanguage_13 (by decide) ?_
      exact ro_zret X (by simp [isLg, bI, c_1, c_6]) dX10_isLanguage_14
    · refine lv_iconst (v := 1) hx hb dX10_isLanguage_9 (by decide) ?_
      refine lv_goto (tgt := 14) hx hb dX10_isLanguage_10 (by decide) ?_
      exact ro_zret X (by simp [isLg, bI, c_1, c_6]) dX10_isLanguage_14

set_option maxHeartbeats 1000000 in
set_option maxRecDepth 100000 in
theorem c_X10_isFlag {l : Launch} {D : va_G} {cI cJ cW : ClassId} {y : Int32}  : RO l yX10_isFlag wsX10_isFlag { frames := 0, cells := 0, slots := 0, locals := 0 } D (ty3 cI cJ cW) [.int y] [] (.int (bI (isFl y))) := by
  refine ro_of (cc := cX10_isFlag) (maxL := 1) (ret := (some .boolean)) (by decide) rfl (Nat.le_of_ble_eq_true rfl) ?_
  intro pr en ss mi below meth cd X hP hK ls hl
  obtain ⟨hx, hb, hml, hown, hts, hr, hlocks⟩ := id X
  have hl : lv_has ls 1 [(0, .int y)] := hl
  refine lv_iload_n hx hb dX10_isFlag_0 rfl (lv_at hl 0 rfl) ?_
  refine lv_if_lt (tgt := 14) hx hb dX10_isFlag_1 (by decide) (fun c_1 => ?_) (fun c_1 => ?_)
  · refine lv_iconst (v := 0) hx hb dX10_isFlag_14 (by decide) ?_
    exact ro_zret X (by simp [isFl, bI, c_1]) dX10_isFlag_15
  · refine lv_iload_n hx hb dX10_isFlag_4 rfl (lv_at hl 0 rfl) ?_
    refine lv_bipush (v := 8) hx hb dX10_isFlag_5 (by decide) ?_
    refine lv_icmp_ge (tgt := 14) hx hb dX10_isFlag_7 (by decide) (fun c_7 => ?_) (fun c_7 => ?_)
    · refine lv_iconst (v := 0) hx hb dX10_isFlag_14 (by decide) ?_
      exact ro_zret X (by simp [isFl, bI, c_1, c_7]) dX10_isFlag_15
    · refine lv_iconst (v := 1) hx hb dX10_isFlag_10 (by decide) ?_
      refine lv_goto (tgt := 15) hx hb dX10_isFlag_11 (by decide) ?_
      exact ro_zret X (by simp [isFl, bI, c_1, c_7]) dX10_isFlag_15

set_option maxHeartbeats 1000000 in
set_option maxRecDepth 100000 in
theorem c_X10_kindsOf {l : Launch} {D : va_G} {cI cJ cW : ClassId} {q wr : Nat} {w1 w2 w3 w4 w5 : Int32}  : RO l yX10_kindsOf wsX10_kindsOf { frames := 0, cells := 0, slots := 0, locals := 0 } D (ty3 cI cJ cW) [.ref q] [(q, .inr (9, [.ref wr, .int w1, .int w2, .int w3, .int w4, .int w5]))] (.int w2) := by
  refine ro_of (cc := cX10_kindsOf) (maxL := 1) (ret := (some .int)) (by decide) rfl (Nat.le_of_ble_eq_true rfl) ?_
  intro pr en ss mi below meth cd X hP hK ls hl
  obtain ⟨hx, hb, hml, hown, hts, hr, hlocks⟩ := id X
  have fl_136 := hts (.fieldLink RX10 136 "WordTables$Word" "kinds" "I") (by decide +kernel)
  have in_X9 : ∀ w ∈ wsX90, w ∈ wsX10_kindsOf := by decide +kernel
  have hl : lv_has ls 1 [(0, .ref q)] := hl
  refine lv_aload_n hx hb dX10_kindsOf_0 rfl (lv_at hl 0 rfl) ?_
  refine lv_ifnonnull (tgt := 8) hx hb dX10_kindsOf_1 (by decide) ?_
  refine lv_aload_n hx hb dX10_kindsOf_8 rfl (lv_at hl 0 rfl) ?_
  refine va_get (D := D) (ci := 9) (C := RX9) (T := TX9) (N := 6) hx hb hts in_X9 hown hK hP 0 rfl rfl 2 (by decide) fl_136 (fun _ h9 => h9) rfl dX10_kindsOf_9 ?_
  exact ro_iret X (rfl) dX10_kindsOf_12

set_option maxHeartbeats 1000000 in
set_option maxRecDepth 100000 in
theorem c_X10_kindsOfN {l : Launch} {D : va_G} {cI cJ cW : ClassId}   : RO l yX10_kindsOf wsX10_kindsOf { frames := 0, cells := 0, slots := 0, locals := 0 } D (ty3 cI cJ cW) [.null] [] (.int 0) := by
  refine ro_of (cc := cX10_kindsOf) (maxL := 1) (ret := (some .int)) (by decide) rfl (Nat.le_of_ble_eq_true rfl) ?_
  intro pr en ss mi below meth cd X hP hK ls hl
  obtain ⟨hx, hb, hml, hown, hts, hr, hlocks⟩ := id X
  have hl : lv_has ls 1 [(0, .null)] := hl
  refine lv_aload_nN hx hb dX10_kindsOf_0 rfl (lv_at hl 0 rfl) ?_
  refine lv_ifnonnullN hx hb dX10_kindsOf_1 ?_
  refine lv_iconst (v := 0) hx hb dX10_kindsOf_4 (by decide) ?_
  refine lv_goto (tgt := 12) hx hb dX10_kindsOf_5 (by decide) ?_
  exact ro_iret X (rfl) dX10_kindsOf_12

set_option maxHeartbeats 1000000 in
set_option maxRecDepth 100000 in
theorem c_X10_about {l : Launch} {D : va_G} {cI cJ cW : ClassId} {x t d v th z g u w k h : Nat} {vw vj nw nj : Nat} {wf : Nat → Option Nat} {dy : va_W} {wa : Nat → Nat → Nat} {wz : Nat → Nat → Int32} {wn : Nat → Nat} {wt : Nat → Nat → Int32} {y e : Int32} (hnw : nw ≤ 40) (hwf : ∀ i, i < nw → wf i = some (wa i 0)) (hdw : Dw cI wa wz wn wt nw dy) : RO l yX10_about wsX10_about { frames := 1, cells := 0, slots := 0, locals := 21 } D (ty3 cI cJ cW) [.ref x, .int y, .int e] ((x, .inr (10, [.ref t, .ref d, .ref v, .ref th, .ref z, .ref g, .ref u, .ref w, .ref k, .ref h])) :: (v, .inr (8, [.ref t, .ref vw, .ref vj, .int (nI nw), .int (nI nj)])) :: (vw, .inl (cW, 40, .inr (.inr (.inr (.inr wf))))) :: dy) (.int (aAbout nw wz wn y e)) := by
  refine ro_of (cc := cX10_about) (maxL := 4) (ret := (some .int)) (by decide) rfl (Nat.le_of_ble_eq_true rfl) ?_
  intro pr en ss mi below meth cd X hP hK ls hl
  obtain ⟨hx, hb, hml, hown, hts, hr, hlocks⟩ := id X
  have fl_118 := hts (.fieldLink RX10 118 "WordTables$Row" "count" "I") (by decide +kernel)
  have fl_136 := hts (.fieldLink RX10 136 "WordTables$Word" "kinds" "I") (by decide +kernel)
  have fl_147 := hts (.fieldLink RX10 147 "WordTables$Word" "worth" "I") (by decide +kernel)
  have fl_150 := hts (.fieldLink RX10 150 "WordTables$Word" "pluralOf" "I") (by decide +kernel)
  have fl_231 := hts (.fieldLink RX10 231 "WordTables$Word" "refersTo" "I") (by decide +kernel)
  have fl_244 := hts (.fieldLink RX10 244 "WordTables$Word" "language" "I") (by decide +kernel)
  have fl_247 := hts (.fieldLink RX10 247 "WordTables$Word" "spelling" "LWordTables$Row;") (by decide +kernel)
  have fl_39 := hts (.fieldLink RX10 39 "WordTables" "vocabulary" "LWordTables$Vocabulary;") (by decide +kernel)
  have in_X10 : ∀ w ∈ wsX100, w ∈ wsX10_about := by decide +kernel
  have in_X4 : ∀ w ∈ wsX40, w ∈ wsX10_about := by decide +kernel
  have in_X9 : ∀ w ∈ wsX90, w ∈ wsX10_about := by decide +kernel
  have hl : lv_has ls 4 [(0, .ref x), (1, .int y), (2, .int e)] := hl
  refine lv_aload_n hx hb dX10_about_0 rfl (lv_at hl 0 rfl) ?_
  refine va_get (D := D) (ci := 10) (C := RX10) (T := TX10) (N := 10) hx hb hts in_X10 hown hK hP 0 rfl rfl 2 (by decide) fl_39 (fun _ h9 => h9) rfl dX10_about_1 ?_
  refine lv_iload_n hx hb dX10_about_4 rfl (lv_at hl 1 rfl) ?_
  refine ro_V (n := 1) X hK (c_X8_known) gX10_about_X8_known rfl (by decide +kernel) ⟨rfl, rfl⟩ ⟨Nat.le_of_ble_eq_true rfl, Nat.le_of_ble_eq_true rfl⟩ (hP.sub [1, 2] rfl) (va_recv hK hP (ci := 8) (q0 := 1) rfl rfl) rfl hl.1 rfl (Nat.le_of_ble_eq_true rfl) dX10_about_5 ⟨Nat.zero_le _, Nat.zero_le _⟩ ?_
  refine lv_splitq (fun e_5 => ?_) (fun q_5 e_5 => ?_)
  · refine lv_astore_nN (lv' := [(3, _), (0, _), (1, _), (2, _)]) hx hb dX10_about_8 rfl hl (by decide) rfl (fun ls hl => ?_)
    refine lv_aload_nN hx hb dX10_about_9 rfl (lv_at hl 0 rfl) ?_
    refine lv_ifnonnullN hx hb dX10_about_10 ?_
    refine lv_bipush (v := -2) hx hb dX10_about_13 (by decide) ?_
    exact ro_iret X (by simp [aAbout, ixO_out (kn_none e_5 hnw hwf)]) dX10_about_15
  · obtain ⟨j_5, hj_5, rfl, rfl⟩ := kn_some e_5 hnw hwf
    have hw_5 : va_P D vwCl [((wa j_5 0), .inr (9, [.ref (wa j_5 1), .int (wz j_5 1), .int (wz j_5 2), .int (wz j_5 3), .int (wz j_5 4), .int (wz j_5 5)])), ((wa j_5 1), .inr (4, [.ref (wa j_5 2), .int (nI (wn j_5))])), ((wa j_5 2), .inl (cI, (wn j_5), .inl (wt j_5)))] _ := memP (w := wCells cI wa wz wn wt j_5) hP (fun q hq => List.mem_cons_of_mem _ (List.mem_cons_of_mem _ (List.mem_cons_of_mem _ ((hdw j_5 hj_5).2 q hq))))
    refine lv_astore_n (lv' := [(3, _), (0, _), (1, _), (2, _)]) hx hb dX10_about_8 rfl hl (by decide) rfl (fun ls hl => ?_)
    refine lv_aload_n hx hb dX10_about_9 rfl (lv_at hl 0 rfl) ?_
    refine lv_ifnonnull (tgt := 16) hx hb dX10_about_10 (by decide) ?_
    refine lv_iload_n hx hb dX10_about_16 rfl (lv_at hl 3 rfl) ?_
    refine ts_case (0) (fun t_17_0 => ?_) (fun t_17_0 => ?_)
    · refine lv_tableIn (tgt := 56) hx hb dX10_about_17 (by decide) (by decide) rfl (by decide) ?_
      refine lv_aload_n hx hb dX10_about_56 rfl (lv_at hl 0 rfl) ?_
      refine va_get (D := D) (ci := 9) (C := RX9) (T := TX9) (N := 6) hx hb hts in_X9 hown hK hw_5 0 rfl rfl 1 (by decide) fl_244 (fun _ h9 => h9) rfl dX10_about_57 ?_
      exact ro_iret X (by simp [aAbout, ixO_nI hj_5 (show nw < 2 ^ 31 by omega), t_17_0]) dX10_about_60
    refine ts_case (1) (fun t_17_1 => ?_) (fun t_17_1 => ?_)
    · refine lv_tableIn (tgt := 61) hx hb dX10_about_17 (by decide) (by decide) rfl (by decide) ?_
      refine lv_aload_n hx hb dX10_about_61 rfl (lv_at hl 0 rfl) ?_
      refine va_get (D := D) (ci := 9) (C := RX9) (T := TX9) (N := 6) hx hb hts in_X9 hown hK hw_5 0 rfl rfl 2 (by decide) fl_136 (fun _ h9 => h9) rfl dX10_about_62 ?_
      exact ro_iret X (by simp [aAbout, ixO_nI hj_5 (show nw < 2 ^ 31 by omega), t_17_1]) dX10_about_65
    refine ts_case (2) (fun t_17_2 => ?_) (fun t_17_2 => ?_)
    · refine lv_tableIn (tgt := 66) hx hb dX10_about_17 (by decide) (by decide) rfl (by decide) ?_
      refine lv_aload_n hx hb dX10_about_66 rfl (lv_at hl 0 rfl) ?_
      refine va_get (D := D) (ci := 9) (C := RX9) (T := TX9) (N := 6) hx hb hts in_X9 hown hK hw_5 0 rfl rfl 3 (by decide) fl_147 (fun _ h9 => h9) rfl dX10_about_67 ?_
      exact ro_iret X (by simp [aAbout, ixO_nI hj_5 (show nw < 2 ^ 31 by omega), t_17_2]) dX10_about_70
    refine ts_case (3) (fun t_17_3 => ?_) (fun t_17_3 => ?_)
    · refine lv_tableIn (tgt := 71) hx hb dX10_about_17 (by decide) (by decide) rfl (by decide) ?_
      refine lv_aload_n hx hb dX10_about_71 rfl (lv_at hl 0 rfl) ?_
      refine va_get (D := D) (ci := 9) (C := RX9) (T := TX9) (N := 6) hx hb hts in_X9 hown hK hw_5 0 rfl rfl 4 (by decide) fl_150 (fun _ h9 => h9) rfl dX10_about_72 ?_
      exact ro_iret X (by simp [aAbout, ixO_nI hj_5 (show nw < 2 ^ 31 by omega), t_17_3]) dX10_about_75
    refine ts_case (4) (fun t_17_4 => ?_) (fun t_17_4 => ?_)
    · refine lv_tableIn (tgt := 76) hx hb dX10_about_17 (by decide) (by decide) rfl (by decide) ?_
      refine lv_aload_n hx hb dX10_about_76 rfl (lv_at hl 0 rfl) ?_
      refine va_get (D := D) (ci := 9) (C := RX9) (T := TX9) (N := 6) hx hb hts in_X9 hown hK hw_5 0 rfl rfl 0 (by decide) fl_247 (fun _ h9 => h9) rfl dX10_about_77 ?_
      refine va_get (D := D) (ci := 4) (C := RX4) (T := TX4) (N := 2) hx hb hts in_X4 hown hK hw_5 1 rfl rfl 1 (by decide) fl_118 (fun _ h9 => h9) rfl dX10_about_80 ?_
      exact ro_iret X (by simp [aAbout, ixO_nI hj_5 (show nw < 2 ^ 31 by omega), t_17_4]) dX10_about_83
    refine ts_case (5) (fun t_17_5 => ?_) (fun t_17_5 => ?_)
    · refine lv_tableIn (tgt := 84) hx hb dX10_about_17 (by decide) (by decide) rfl (by decide) ?_
      refine lv_aload_n hx hb dX10_about_84 rfl (lv_at hl 0 rfl) ?_
      refine va_get (D := D) (ci := 9) (C := RX9) (T := TX9) (N := 6) hx hb hts in_X9 hown hK hw_5 0 rfl rfl 5 (by decide) fl_231 (fun _ h9 => h9) rfl dX10_about_85 ?_
      exact ro_iret X (by simp [aAbout, ixO_nI hj_5 (show nw < 2 ^ 31 by omega), t_17_5]) dX10_about_88
    refine lv_tableOut (tgt := 89) hx hb dX10_about_17 (by have := lv_neT t_17_0 (a := 0) (by decide); have := lv_neT t_17_1 (a := 1) (by decide); have := lv_neT t_17_2 (a := 2) (by decide); have := lv_neT t_17_3 (a := 3) (by decide); have := lv_neT t_17_4 (a := 4) (by decide); have := lv_neT t_17_5 (a := 5) (by decide); omega) (by decide) ?_
    refine lv_bipush (v := -2) hx hb dX10_about_89 (by decide) ?_
    exact ro_iret X (by simp [aAbout, ixO_nI hj_5 (show nw < 2 ^ 31 by omega), t_17_0, t_17_1, t_17_2, t_17_3, t_17_4, t_17_5]) dX10_about_91

set_option maxHeartbeats 1000000 in
set_option maxRecDepth 100000 in
theorem c_X10_equal {l : Launch} {D : va_G} {cI cJ cW : ClassId} {x t d v th z g u w k h : Nat} {vw vj nw nj : Nat} {wf : Nat → Option Nat} {fa ct : Nat} {fo : Nat → Int32} {dy : va_W} {wa : Nat → Nat → Nat} {wz : Nat → Nat → Int32} {wn : Nat → Nat} {wt : Nat → Nat → Int32} {y e : Int32} (hct : ct < 2 ^ 31) (hnw : nw ≤ 40) (hwf : ∀ i, i < nw → wf i = some (wa i 0)) (hdw : Dw cI wa wz wn wt nw dy) : RO l yX10_equal wsX10_equal { frames := 2, cells := 0, slots := 0, locals := 48 } D (ty3 cI cJ cW) [.ref x, .int y, .int e] ((x, .inr (10, [.ref t, .ref d, .ref v, .ref th, .ref z, .ref g, .ref u, .ref w, .ref k, .ref h])) :: (v, .inr (8, [.ref t, .ref vw, .ref vj, .int (nI nw), .int (nI nj)])) :: (vw, .inl (cW, 40, .inr (.inr (.inr (.inr wf))))) :: (t, .inr (3, [.int (nI ct), .ref fa])) :: (fa, .inl (cI, 32, .inl fo)) :: dy) (.int (aEqual nw ct fo wn wt y e)) := by
  refine ro_of (cc := cX10_equal) (maxL := 5) (ret := (some .int)) (by decide) rfl (Nat.le_of_ble_eq_true rfl) ?_
  intro pr en ss mi below meth cd X hP hK ls hl
  obtain ⟨hx, hb, hml, hown, hts, hr, hlocks⟩ := id X
  have fl_118 := hts (.fieldLink RX10 118 "WordTables$Row" "count" "I") (by decide +kernel)
  have fl_23 := hts (.fieldLink RX10 23 "WordTables" "letters" "LWordTables$Letters;") (by decide +kernel)
  have fl_247 := hts (.fieldLink RX10 247 "WordTables$Word" "spelling" "LWordTables$Row;") (by decide +kernel)
  have fl_39 := hts (.fieldLink RX10 39 "WordTables" "vocabulary" "LWordTables$Vocabulary;") (by decide +kernel)
  have in_X10 : ∀ w ∈ wsX100, w ∈ wsX10_equal := by decide +kernel
  have in_X4 : ∀ w ∈ wsX40, w ∈ wsX10_equal := by decide +kernel
  have in_X9 : ∀ w ∈ wsX90, w ∈ wsX10_equal := by decide +kernel
  have hl : lv_has ls 5 [(0, .ref x), (1, .int y), (2, .int e)] := hl
  refine lv_aload_n hx hb dX10_equal_0 rfl (lv_at hl 0 rfl) ?_
  refine va_get (D := D) (ci := 10) (C := RX10) (T := TX10) (N := 10) hx hb hts in_X10 hown hK hP 0 rfl rfl 2 (by decide) fl_39 (fun _ h9 => h9) rfl dX10_equal_1 ?_
  refine lv_iload_n hx hb dX10_equal_4 rfl (lv_at hl 1 rfl) ?_
  refine ro_V (n := 1) X hK (c_X8_known) gX10_equal_X8_known rfl (by decide +kernel) ⟨rfl, rfl⟩ ⟨Nat.le_of_ble_eq_true rfl, Nat.le_of_ble_eq_true rfl⟩ (hP.sub [1, 2] rfl) (va_recv hK hP (ci := 8) (q0 := 1) rfl rfl) rfl hl.1 rfl (Nat.le_of_ble_eq_true rfl) dX10_equal_5 ⟨Nat.zero_le _, Nat.zero_le _⟩ ?_
  refine lv_splitq (fun e_5 => ?_) (fun q_5 e_5 => ?_)
  · refine lv_astore_nN (lv' := [(3, _), (0, _), (1, _), (2, _)]) hx hb dX10_equal_8 rfl hl (by decide) rfl (fun ls hl => ?_)
    refine lv_aload_n hx hb dX10_equal_9 rfl (lv_at hl 1 rfl) ?_
    refine va_get (D := D) (ci := 10) (C := RX10) (T := TX10) (N := 10) hx hb hts in_X10 hown hK hP 0 rfl rfl 2 (by decide) fl_39 (fun _ h9 => h9) rfl dX10_equal_10 ?_
    refine lv_iload_n hx hb dX10_equal_13 rfl (lv_at hl 3 rfl) ?_
    refine ro_V (n := 1) X hK (c_X8_known) gX10_equal_X8_known rfl (by decide +kernel) ⟨rfl, rfl⟩ ⟨Nat.le_of_ble_eq_true rfl, Nat.le_of_ble_eq_true rfl⟩ (hP.sub [1, 2] rfl) (va_recv hK hP (ci := 8) (q0 := 1) rfl rfl) rfl hl.1 rfl (Nat.le_of_ble_eq_true rfl) dX10_equal_14 ⟨Nat.zero_le _, Nat.zero_le _⟩ ?_
    refine lv_splitq (fun e_14 => ?_) (fun q_14 e_14 => ?_)
    · refine lv_astoreN (lv' := [(4, _), (3, _), (0, _), (1, _), (2, _)]) hx hb dX10_equal_17 hl (by decide) rfl (fun ls hl => ?_)
      refine lv_aload_nN hx hb dX10_equal_19 rfl (lv_at hl 1 rfl) ?_
      refine lv_ifnullN (tgt := 28) hx hb dX10_equal_20 (by decide) ?_
      refine lv_bipush (v := -2) hx hb dX10_equal_28 (by decide) ?_
      exact ro_iret X (by simp [aEqual, ixO_out (kn_none e_5 hnw hwf)]) dX10_equal_30
    · obtain ⟨j_14, hj_14, rfl, rfl⟩ := kn_some e_14 hnw hwf
      have hw_14 : va_P D vwCl [((wa j_14 0), .inr (9, [.ref (wa j_14 1), .int (wz j_14 1), .int (wz j_14 2), .int (wz j_14 3), .int (wz j_14 4), .int (wz j_14 5)])), ((wa j_14 1), .inr (4, [.ref (wa j_14 2), .int (nI (wn j_14))])), ((wa j_14 2), .inl (cI, (wn j_14), .inl (wt j_14)))] _ := memP (w := wCells cI wa wz wn wt j_14) hP (fun q hq => List.mem_cons_of_mem _ (List.mem_cons_of_mem _ (List.mem_cons_of_mem _ (List.mem_cons_of_mem _ (List.mem_cons_of_mem _ ((hdw j_14 hj_14).2 q hq))))))
      refine lv_astore (lv' := [(4, _), (3, _), (0, _), (1, _), (2, _)]) hx hb dX10_equal_17 hl (by decide) rfl (fun ls hl => ?_)
      refine lv_aload_nN hx hb dX10_equal_19 rfl (lv_at hl 1 rfl) ?_
      refine lv_ifnullN (tgt := 28) hx hb dX10_equal_20 (by decide) ?_
      refine lv_bipush (v := -2) hx hb dX10_equal_28 (by decide) ?_
      exact ro_iret X (by simp [aEqual, ixO_out (kn_none e_5 hnw hwf)]) dX10_equal_30
  · obtain ⟨j_5, hj_5, rfl, rfl⟩ := kn_some e_5 hnw hwf
    have hw_5 : va_P D vwCl [((wa j_5 0), .inr (9, [.ref (wa j_5 1), .int (wz j_5 1), .int (wz j_5 2), .int (wz j_5 3), .int (wz j_5 4), .int (wz j_5 5)])), ((wa j_5 1), .inr (4, [.ref (wa j_5 2), .int (nI (wn j_5))])), ((wa j_5 2), .inl (cI, (wn j_5), .inl (wt j_5)))] _ := memP (w := wCells cI wa wz wn wt j_5) hP (fun q hq => List.mem_cons_of_mem _ (List.mem_cons_of_mem _ (List.mem_cons_of_mem _ (List.mem_cons_of_mem _ (List.mem_cons_of_mem _ ((hdw j_5 hj_5).2 q hq))))))
    refine lv_astore_n (lv' := [(3, _), (0, _), (1, _), (2, _)]) hx hb dX10_equal_8 rfl hl (by decide) rfl (fun ls hl => ?_)
    refine lv_aload_n hx hb dX10_equal_9 rfl (lv_at hl 1 rfl) ?_
    refine va_get (D := D) (ci := 10) (C := RX10) (T := TX10) (N := 10) hx hb hts in_X10 hown hK hP 0 rfl rfl 2 (by decide) fl_39 (fun _ h9 => h9) rfl dX10_equal_10 ?_
    refine lv_iload_n hx hb dX10_equal_13 rfl (lv_at hl 3 rfl) ?_
    refine ro_V (n := 1) X hK (c_X8_known) gX10_equal_X8_known rfl (by decide +kernel) ⟨rfl, rfl⟩ ⟨Nat.le_of_ble_eq_true rfl, Nat.le_of_ble_eq_true rfl⟩ (hP.sub [1, 2] rfl) (va_recv hK hP (ci := 8) (q0 := 1) rfl rfl) rfl hl.1 rfl (Nat.le_of_ble_eq_true rfl) dX10_equal_14 ⟨Nat.zero_le _, Nat.zero_le _⟩ ?_
    refine lv_splitq (fun e_14 => ?_) (fun q_14 e_14 => ?_)
    · refine lv_astoreN (lv' := [(4, _), (3, _), (0, _), (1, _), (2, _)]) hx hb dX10_equal_17 hl (by decide) rfl (fun ls hl => ?_)
      refine lv_aload_n hx hb dX10_equal_19 rfl (lv_at hl 1 rfl) ?_
      refine lv_ifnull hx hb dX10_equal_20 ?_
      refine lv_aloadN hx hb dX10_equal_23 (lv_at hl 0 rfl) ?_
      refine lv_ifnonnullN hx hb dX10_equal_25 ?_
      refine lv_bipush (v := -2) hx hb dX10_equal_28 (by decide) ?_
      exact ro_iret X (by simp [aEqual, ixO_nI hj_5 (show nw < 2 ^ 31 by omega), ixO_out (kn_none e_14 hnw hwf)]) dX10_equal_30
    · obtain ⟨j_14, hj_14, rfl, rfl⟩ := kn_some e_14 hnw hwf
      have hw_14 : va_P D vwCl [((wa j_14 0), .inr (9, [.ref (wa j_14 1), .int (wz j_14 1), .int (wz j_14 2), .int (wz j_14 3), .int (wz j_14 4), .int (wz j_14 5)])), ((wa j_14 1), .inr (4, [.ref (wa j_14 2), .int (nI (wn j_14))])), ((wa j_14 2), .inl (cI, (wn j_14), .inl (wt j_14)))] _ := memP (w := wCells cI wa wz wn wt j_14) hP (fun q hq => List.mem_cons_of_mem _ (List.mem_cons_of_mem _ (List.mem_cons_of_mem _ (List.mem_cons_of_mem _ (List.mem_cons_of_mem _ ((hdw j_14 hj_14).2 q hq))))))
      refine lv_astore (lv' := [(4, _), (3, _), (0, _), (1, _), (2, _)]) hx hb dX10_equal_17 hl (by decide) rfl (fun ls hl => ?_)
      refine lv_aload_n hx hb dX10_equal_19 rfl (lv_at hl 1 rfl) ?_
      refine lv_ifnull hx hb dX10_equal_20 ?_
      refine lv_aload hx hb dX10_equal_23 (lv_at hl 0 rfl) ?_
      refine lv_ifnonnull (tgt := 31) hx hb dX10_equal_25 (by decide) ?_
      refine lv_aload_n hx hb dX10_equal_31 rfl (lv_at hl 2 rfl) ?_
      refine va_get (D := D) (ci := 10) (C := RX10) (T := TX10) (N := 10) hx hb hts in_X10 hown hK hP 0 rfl rfl 0 (by decide) fl_23 (fun _ h9 => h9) rfl dX10_equal_32 ?_
      refine lv_aload_n hx hb dX10_equal_35 rfl (lv_at hl 1 rfl) ?_
      refine va_get (D := D) (ci := 9) (C := RX9) (T := TX9) (N := 6) hx hb hts in_X9 hown hK hw_5 0 rfl rfl 0 (by decide) fl_247 (fun _ h9 => h9) rfl dX10_equal_36 ?_
      refine lv_aload hx hb dX10_equal_39 (lv_at hl 0 rfl) ?_
      refine va_get (D := D) (ci := 9) (C := RX9) (T := TX9) (N := 6) hx hb hts in_X9 hown hK hw_14 0 rfl rfl 0 (by decide) fl_247 (fun _ h9 => h9) rfl dX10_equal_41 ?_
      refine lv_iconst (v := 0) hx hb dX10_equal_44 (by decide) ?_
      refine lv_aload hx hb dX10_equal_45 (lv_at hl 0 rfl) ?_
      refine va_get (D := D) (ci := 9) (C := RX9) (T := TX9) (N := 6) hx hb hts in_X9 hown hK hw_14 0 rfl rfl 0 (by decide) fl_247 (fun _ h9 => h9) rfl dX10_equal_47 ?_
      refine va_get (D := D) (ci := 4) (C := RX4) (T := TX4) (N := 2) hx hb hts in_X4 hown hK hw_14 1 rfl rfl 1 (by decide) fl_118 (fun _ h9 => h9) rfl dX10_equal_50 ?_
      refine ro_V (n := 4) X hK (c_X3_areLike (fr := 0) hct (by have := (hdw j_5 hj_5).1; omega) (by have := (hdw j_14 hj_14).1; omega) (Nat.le_refl _) (Nat.le_refl _) (by omega)) gX10_equal_X3_areLike rfl (by decide +kernel) ⟨rfl, rfl⟩ ⟨Nat.le_of_ble_eq_true rfl, Nat.le_of_ble_eq_true rfl⟩ (va_P.app (hP.sub (ws' := [_, _]) [3, 4] rfl) (va_P.app (hw_5.sub (ws' := [_, _]) [1, 2] rfl) (hw_14.sub (ws' := [_, _]) [1, 2] rfl))) (va_recv hK hP (ci := 3) (q0 := 3) rfl rfl) rfl hl.1 rfl (Nat.le_of_ble_eq_true rfl) dX10_equal_53 ⟨Nat.zero_le _, Nat.zero_le _⟩ ?_
      simp only [Nat.zero_add]
      refine lv_if_eq (tgt := 63) hx hb dX10_equal_56 (by decide) (fun c_56 => ?_) (fun c_56 => ?_)
      · replace c_56 := bI_0.mp c_56
        refine lv_iconst (v := 0) hx hb dX10_equal_63 (by decide) ?_
        exact ro_iret X (by simp [aEqual, bI, ixO_nI hj_5 (show nw < 2 ^ 31 by omega), ixO_nI hj_14 (show nw < 2 ^ 31 by omega), c_56]) dX10_equal_64
      · replace c_56 := bI_n0.mp c_56
        refine lv_iconst (v := 1) hx hb dX10_equal_59 (by decide) ?_
        refine lv_goto (tgt := 64) hx hb dX10_equal_60 (by decide) ?_
        exact ro_iret X (by simp [aEqual, bI, ixO_nI hj_5 (show nw < 2 ^ 31 by omega), ixO_nI hj_14 (show nw < 2 ^ 31 by omega), c_56]) dX10_equal_64

set_option maxHeartbeats 1000000 in
set_option maxRecDepth 100000 in
theorem c_X10_wordOf {l : Launch} {D : va_G} {cI cJ cW : ClassId} {x t d v th z g u w k h : Nat} {kx k1 k2 k3 k4 tn : Nat} {tm : Int32} {T : Nat → Nat → Int32} {vw vj nw nj : Nat} {wf : Nat → Option Nat} {wa : Nat → Nat → Nat} {i : Nat} (htn : tn ≤ 24) (hnw : nw ≤ 40) (hwf : ∀ i, i < nw → wf i = some (wa i 0)) (hi : i < tn) : RO l yX10_wordOf wsX10_wordOf { frames := 1, cells := 0, slots := 0, locals := 21 } D (ty3 cI cJ cW) [.ref x, .int (nI i)] [(x, .inr (10, [.ref t, .ref d, .ref v, .ref th, .ref z, .ref g, .ref u, .ref w, .ref k, .ref h])), (k, .inr (7, [.ref kx, .ref k1, .ref k2, .ref k3, .ref k4, .int (nI tn), .int tm])), (k1, .inl (cI, 24, .inl (T 1))), (k4, .inl (cI, 24, .inl (T 4))), (v, .inr (8, [.ref t, .ref vw, .ref vj, .int (nI nw), .int (nI nj)])), (vw, .inl (cW, 40, .inr (.inr (.inr (.inr wf)))))] (va_rf ((tokW T nw i).map (fun j => wa j 0))) := by
  refine ro_of (cc := cX10_wordOf) (maxL := 2) (ret := (some (.object "WordTables$Word"))) (by decide) rfl (Nat.le_of_ble_eq_true rfl) ?_
  intro pr en ss mi below meth cd X hP hK ls hl
  obtain ⟨hx, hb, hml, hown, hts, hr, hlocks⟩ := id X
  have fl_168 := hts (.fieldLink RX10 168 "WordTables$Tokens" "sorts" "[I") (by decide +kernel)
  have fl_178 := hts (.fieldLink RX10 178 "WordTables$Tokens" "numbers" "[I") (by decide +kernel)
  have fl_39 := hts (.fieldLink RX10 39 "WordTables" "vocabulary" "LWordTables$Vocabulary;") (by decide +kernel)
  have fl_79 := hts (.fieldLink RX10 79 "WordTables" "tokens" "LWordTables$Tokens;") (by decide +kernel)
  have in_X10 : ∀ w ∈ wsX100, w ∈ wsX10_wordOf := by decide +kernel
  have in_X7 : ∀ w ∈ wsX70, w ∈ wsX10_wordOf := by decide +kernel
  have hl : lv_has ls 2 [(0, .ref x), (1, .int (nI i))] := hl
  refine lv_aload_n hx hb dX10_wordOf_0 rfl (lv_at hl 0 rfl) ?_
  refine va_get (D := D) (ci := 10) (C := RX10) (T := TX10) (N := 10) hx hb hts in_X10 hown hK hP 0 rfl rfl 8 (by decide) fl_79 (fun _ h9 => h9) rfl dX10_wordOf_1 ?_
  refine lv_iload_n hx hb dX10_wordOf_4 rfl (lv_at hl 1 rfl) ?_
  refine ro_V (n := 1) X hK (c_X7_has) gX10_wordOf_X7_has rfl (by decide +kernel) ⟨rfl, rfl⟩ ⟨Nat.le_of_ble_eq_true rfl, Nat.le_of_ble_eq_true rfl⟩ (hP.sub [1] rfl) (va_recv hK hP (ci := 7) (q0 := 1) rfl rfl) rfl hl.1 rfl (Nat.le_of_ble_eq_true rfl) dX10_wordOf_5 ⟨Nat.zero_le _, Nat.zero_le _⟩ ?_
  refine lv_if_eq (tgt := 23) hx hb dX10_wordOf_8 (by decide) (fun c_8 => ?_) (fun c_8 => ?_)
  · replace c_8 := bI_0.mp c_8
    exact absurd c_8 (by rw [hasK_nI hi htn]; decide)
  · replace c_8 := bI_n0.mp c_8
    refine lv_aload_n hx hb dX10_wordOf_11 rfl (lv_at hl 0 rfl) ?_
    refine va_get (D := D) (ci := 10) (C := RX10) (T := TX10) (N := 10) hx hb hts in_X10 hown hK hP 0 rfl rfl 8 (by decide) fl_79 (fun _ h9 => h9) rfl dX10_wordOf_12 ?_
    refine va_get (D := D) (ci := 7) (C := RX7) (T := TX7) (N := 7) hx hb hts in_X7 hown hK hP 1 rfl rfl 1 (by decide) fl_168 (fun _ h9 => h9) rfl dX10_wordOf_15 ?_
    refine lv_iload_n hx hb dX10_wordOf_18 rfl (lv_at hl 1 rfl) ?_
    refine ald_n hx hb hK hP 2 0 rfl rfl (show i < 24 by omega) (by first | decide | omega) dX10_wordOf_19 ?_
    refine lv_if_eq (tgt := 25) hx hb dX10_wordOf_20 (by decide) (fun c_20 => ?_) (fun c_20 => ?_)
    · refine lv_aload_n hx hb dX10_wordOf_25 rfl (lv_at hl 0 rfl) ?_
      refine va_get (D := D) (ci := 10) (C := RX10) (T := TX10) (N := 10) hx hb hts in_X10 hown hK hP 0 rfl rfl 2 (by decide) fl_39 (fun _ h9 => h9) rfl dX10_wordOf_26 ?_
      refine lv_aload_n hx hb dX10_wordOf_29 rfl (lv_at hl 0 rfl) ?_
      refine va_get (D := D) (ci := 10) (C := RX10) (T := TX10) (N := 10) hx hb hts in_X10 hown hK hP 0 rfl rfl 8 (by decide) fl_79 (fun _ h9 => h9) rfl dX10_wordOf_30 ?_
      refine va_get (D := D) (ci := 7) (C := RX7) (T := TX7) (N := 7) hx hb hts in_X7 hown hK hP 1 rfl rfl 4 (by decide) fl_178 (fun _ h9 => h9) rfl dX10_wordOf_33 ?_
      refine lv_iload_n hx hb dX10_wordOf_36 rfl (lv_at hl 1 rfl) ?_
      refine ald_n hx hb hK hP 3 0 rfl rfl (show i < 24 by omega) (by first | decide | omega) dX10_wordOf_37 ?_
      refine ro_V (n := 1) X hK (c_X8_known) gX10_wordOf_X8_known rfl (by decide +kernel) ⟨rfl, rfl⟩ ⟨Nat.le_of_ble_eq_true rfl, Nat.le_of_ble_eq_true rfl⟩ (hP.sub [4, 5] rfl) (va_recv hK hP (ci := 8) (q0 := 4) rfl rfl) rfl hl.1 rfl (Nat.le_of_ble_eq_true rfl) dX10_wordOf_38 ⟨Nat.zero_le _, Nat.zero_le _⟩ ?_
      exact ro_aret X (by rw [kn_ix hnw hwf, tokW, if_pos c_20]) dX10_wordOf_41
    · refine lv_null hx hb dX10_wordOf_23 ?_
      exact ro_aret X (by rw [tokW, if_neg c_20]; rfl) dX10_wordOf_24

theorem tokW_lt {T : Nat → Nat → Int32} {nw i j : Nat} (h : tokW T nw i = some j) (hnw : nw ≤ 40) : j < nw := by
  unfold tokW at h
  split at h
  · exact (ixO_some h (by omega)).1
  · cases h

set_option maxHeartbeats 1000000 in
set_option maxRecDepth 100000 in
theorem c_X10_token {l : Launch} {D : va_G} {cI cJ cW : ClassId} {x t d v th z g u w k h : Nat} {kx k1 k2 k3 k4 tn : Nat} {tm : Int32} {T : Nat → Nat → Int32} {vw vj nw nj : Nat} {wf : Nat → Option Nat} {dy : va_W} {wa : Nat → Nat → Nat} {wz : Nat → Nat → Int32} {wn : Nat → Nat} {wt : Nat → Nat → Int32} {y e : Int32} (htn : tn ≤ 24) (hnw : nw ≤ 40) (hwf : ∀ i, i < nw → wf i = some (wa i 0)) (hdw : Dw cI wa wz wn wt nw dy) : RO l yX10_token wsX10_token { frames := 2, cells := 0, slots := 0, locals := 42 } D (ty3 cI cJ cW) [.ref x, .int y, .int e] ((x, .inr (10, [.ref t, .ref d, .ref v, .ref th, .ref z, .ref g, .ref u, .ref w, .ref k, .ref h])) :: (k, .inr (7, [.ref kx, .ref k1, .ref k2, .ref k3, .ref k4, .int (nI tn), .int tm])) :: (k1, .inl (cI, 24, .inl (T 1))) :: (k2, .inl (cI, 24, .inl (T 2))) :: (k3, .inl (cI, 24, .inl (T 3))) :: (k4, .inl (cI, 24, .inl (T 4))) :: (v, .inr (8, [.ref t, .ref vw, .ref vj, .int (nI nw), .int (nI nj)])) :: (vw, .inl (cW, 40, .inr (.inr (.inr (.inr wf))))) :: dy) (.int (aToken tn nw T wz y e)) := by
  refine ro_of (cc := cX10_token) (maxL := 3) (ret := (some .int)) (by decide) rfl (Nat.le_of_ble_eq_true rfl) ?_
  intro pr en ss mi below meth cd X hP hK ls hl
  obtain ⟨hx, hb, hml, hown, hts, hr, hlocks⟩ := id X
  have fl_168 := hts (.fieldLink RX10 168 "WordTables$Tokens" "sorts" "[I") (by decide +kernel)
  have fl_172 := hts (.fieldLink RX10 172 "WordTables$Tokens" "places" "[I") (by decide +kernel)
  have fl_175 := hts (.fieldLink RX10 175 "WordTables$Tokens" "lengths" "[I") (by decide +kernel)
  have fl_178 := hts (.fieldLink RX10 178 "WordTables$Tokens" "numbers" "[I") (by decide +kernel)
  have fl_79 := hts (.fieldLink RX10 79 "WordTables" "tokens" "LWordTables$Tokens;") (by decide +kernel)
  have in_X10 : ∀ w ∈ wsX100, w ∈ wsX10_token := by decide +kernel
  have in_X7 : ∀ w ∈ wsX70, w ∈ wsX10_token := by decide +kernel
  have hl : lv_has ls 3 [(0, .ref x), (1, .int y), (2, .int e)] := hl
  refine lv_aload_n hx hb dX10_token_0 rfl (lv_at hl 0 rfl) ?_
  refine va_get (D := D) (ci := 10) (C := RX10) (T := TX10) (N := 10) hx hb hts in_X10 hown hK hP 0 rfl rfl 8 (by decide) fl_79 (fun _ h9 => h9) rfl dX10_token_1 ?_
  refine lv_iload_n hx hb dX10_token_4 rfl (lv_at hl 1 rfl) ?_
  refine ro_V (n := 1) X hK (c_X7_has) gX10_token_X7_has rfl (by decide +kernel) ⟨rfl, rfl⟩ ⟨Nat.le_of_ble_eq_true rfl, Nat.le_of_ble_eq_true rfl⟩ (hP.sub [1] rfl) (va_recv hK hP (ci := 7) (q0 := 1) rfl rfl) rfl hl.1 rfl (Nat.le_of_ble_eq_true rfl) dX10_token_5 ⟨Nat.zero_le _, Nat.zero_le _⟩ ?_
  refine lv_if_ne (tgt := 14) hx hb dX10_token_8 (by decide) (fun c_8 => ?_) (fun c_8 => ?_)
  · replace c_8 := bI_n0.mp c_8
    obtain ⟨i, hi, rfl⟩ := hasK_t c_8 htn
    refine lv_iload_n hx hb dX10_token_14 rfl (lv_at hl 2 rfl) ?_
    refine ts_case (0) (fun t_15_0 => ?_) (fun t_15_0 => ?_)
    · refine lv_tableIn (tgt := 48) hx hb dX10_token_15 (by decide) (by decide) rfl (by decide) ?_
      refine lv_aload_n hx hb dX10_token_48 rfl (lv_at hl 0 rfl) ?_
      refine va_get (D := D) (ci := 10) (C := RX10) (T := TX10) (N := 10) hx hb hts in_X10 hown hK hP 0 rfl rfl 8 (by decide) fl_79 (fun _ h9 => h9) rfl dX10_token_49 ?_
      refine va_get (D := D) (ci := 7) (C := RX7) (T := TX7) (N := 7) hx hb hts in_X7 hown hK hP 1 rfl rfl 1 (by decide) fl_168 (fun _ h9 => h9) rfl dX10_token_52 ?_
      refine lv_iload_n hx hb dX10_token_55 rfl (lv_at hl 1 rfl) ?_
      refine ald_n hx hb hK hP 2 0 rfl rfl (show i < 24 by omega) (by first | decide | omega) dX10_token_56 ?_
      exact ro_iret X (by simp [aToken, ixO_nI hi (show tn < 2 ^ 31 by omega), c_8, t_15_0]) dX10_token_57
    refine ts_case (1) (fun t_15_1 => ?_) (fun t_15_1 => ?_)
    · refine lv_tableIn (tgt := 58) hx hb dX10_token_15 (by decide) (by decide) rfl (by decide) ?_
      refine lv_aload_n hx hb dX10_token_58 rfl (lv_at hl 0 rfl) ?_
      refine va_get (D := D) (ci := 10) (C := RX10) (T := TX10) (N := 10) hx hb hts in_X10 hown hK hP 0 rfl rfl 8 (by decide) fl_79 (fun _ h9 => h9) rfl dX10_token_59 ?_
      refine va_get (D := D) (ci := 7) (C := RX7) (T := TX7) (N := 7) hx hb hts in_X7 hown hK hP 1 rfl rfl 2 (by decide) fl_172 (fun _ h9 => h9) rfl dX10_token_62 ?_
      refine lv_iload_n hx hb dX10_token_65 rfl (lv_at hl 1 rfl) ?_
      refine ald_n hx hb hK hP 3 0 rfl rfl (show i < 24 by omega) (by first | decide | omega) dX10_token_66 ?_
      exact ro_iret X (by simp [aToken, ixO_nI hi (show tn < 2 ^ 31 by omega), c_8, t_15_1]) dX10_token_67
    refine ts_case (2) (fun t_15_2 => ?_) (fun t_15_2 => ?_)
    · refine lv_tableIn (tgt := 68) hx hb dX10_token_15 (by decide) (by decide) rfl (by decide) ?_
      refine lv_aload_n hx hb dX10_token_68 rfl (lv_at hl 0 rfl) ?_
      refine va_get (D := D) (ci := 10) (C := RX10) (T := TX10) (N := 10) hx hb hts in_X10 hown hK hP 0 rfl rfl 8 (by decide) fl_79 (fun _ h9 => h9) rfl dX10_token_69 ?_
      refine va_get (D := D) (ci := 7) (C := RX7) (T := TX7) (N := 7) hx hb hts in_X7 hown hK hP 1 rfl rfl 3 (by decide) fl_175 (fun _ h9 => h9) rfl dX10_token_72 ?_
      refine lv_iload_n hx hb dX10_token_75 rfl (lv_at hl 1 rfl) ?_
      refine ald_n hx hb hK hP 4 0 rfl rfl (show i < 24 by omega) (by first | decide | omega) dX10_token_76 ?_
      exact ro_iret X (by simp [aToken, ixO_nI hi (show tn < 2 ^ 31 by omega), c_8, t_15_2]) dX10_token_77
    refine ts_case (3) (fun t_15_3 => ?_) (fun t_15_3 => ?_)
    · refine lv_tableIn (tgt := 78) hx hb dX10_token_15 (by decide) (by decide) rfl (by decide) ?_
      refine lv_aload_n hx hb dX10_token_78 rfl (lv_at hl 0 rfl) ?_
      refine va_get (D := D) (ci := 10) (C := RX10) (T := TX10) (N := 10) hx hb hts in_X10 hown hK hP 0 rfl rfl 8 (by decide) fl_79 (fun _ h9 => h9) rfl dX10_token_79 ?_
      refine va_get (D := D) (ci := 7) (C := RX7) (T := TX7) (N := 7) hx hb hts in_X7 hown hK hP 1 rfl rfl 4 (by decide) fl_178 (fun _ h9 => h9) rfl dX10_token_82 ?_
      refine lv_iload_n hx hb dX10_token_85 rfl (lv_at hl 1 rfl) ?_
      refine ald_n hx hb hK hP 5 0 rfl rfl (show i < 24 by omega) (by first | decide | omega) dX10_token_86 ?_
      exact ro_iret X (by simp [aToken, ixO_nI hi (show tn < 2 ^ 31 by omega), c_8, t_15_3]) dX10_token_87
    refine ts_case (4) (fun t_15_4 => ?_) (fun t_15_4 => ?_)
    · refine lv_tableIn (tgt := 88) hx hb dX10_token_15 (by decide) (by decide) rfl (by decide) ?_
      refine lv_aload_n hx hb dX10_token_88 rfl (lv_at hl 0 rfl) ?_
      refine lv_iload_n hx hb dX10_token_89 rfl (lv_at hl 1 rfl) ?_
      refine ro_V (n := 1) X hK (c_X10_wordOf htn hnw hwf hi) gX10_token_X10_wordOf rfl (by decide +kernel) ⟨rfl, rfl⟩ ⟨Nat.le_of_ble_eq_true rfl, Nat.le_of_ble_eq_true rfl⟩ (hP.sub [0, 1, 2, 5, 6, 7] rfl) (va_recv hK hP (ci := 10) (q0 := 0) rfl rfl) rfl hl.1 rfl (Nat.le_of_ble_eq_true rfl) dX10_token_90 ⟨Nat.zero_le _, Nat.zero_le _⟩ ?_
      rcases h_90 : tokW T nw i with _ | j_90
      · refine rf_eqN rfl ?_
        refine ro_S (n := 1) X hK (c_X10_kindsOfN) gX10_token_X10_kindsOf rfl (by decide +kernel) ⟨rfl, rfl⟩ ⟨Nat.le_of_ble_eq_true rfl, Nat.le_of_ble_eq_true rfl⟩ (hP.sub [] rfl) rfl hl.1 rfl (Nat.le_of_ble_eq_true rfl) dX10_token_93 ⟨Nat.zero_le _, Nat.zero_le _⟩ ?_
        exact ro_iret X (by simp [aToken, ixO_nI hi (show tn < 2 ^ 31 by omega), c_8, t_15_4, h_90]) dX10_token_96
      · refine rf_eq (q := (wa j_90 0)) rfl ?_
        have hj_90 : j_90 < nw := tokW_lt h_90 hnw
        have hw_90 : va_P D vwCl [((wa j_90 0), .inr (9, [.ref (wa j_90 1), .int (wz j_90 1), .int (wz j_90 2), .int (wz j_90 3), .int (wz j_90 4), .int (wz j_90 5)])), ((wa j_90 1), .inr (4, [.ref (wa j_90 2), .int (nI (wn j_90))])), ((wa j_90 2), .inl (cI, (wn j_90), .inl (wt j_90)))] _ := memP (w := wCells cI wa wz wn wt j_90) hP (fun q hq => List.mem_cons_of_mem _ (List.mem_cons_of_mem _ (List.mem_cons_of_mem _ (List.mem_cons_of_mem _ (List.mem_cons_of_mem _ (List.mem_cons_of_mem _ (List.mem_cons_of_mem _ (List.mem_cons_of_mem _ ((hdw j_90 hj_90).2 q hq)))))))))
        refine ro_S (n := 1) X hK (c_X10_kindsOf) gX10_token_X10_kindsOf rfl (by decide +kernel) ⟨rfl, rfl⟩ ⟨Nat.le_of_ble_eq_true rfl, Nat.le_of_ble_eq_true rfl⟩ (hw_90.sub [0] rfl) rfl hl.1 rfl (Nat.le_of_ble_eq_true rfl) dX10_token_93 ⟨Nat.zero_le _, Nat.zero_le _⟩ ?_
        exact ro_iret X (by simp [aToken, ixO_nI hi (show tn < 2 ^ 31 by omega), c_8, t_15_4, h_90]) dX10_token_96
    refine lv_tableOut (tgt := 97) hx hb dX10_token_15 (by have := lv_neT t_15_0 (a := 0) (by decide); have := lv_neT t_15_1 (a := 1) (by decide); have := lv_neT t_15_2 (a := 2) (by decide); have := lv_neT t_15_3 (a := 3) (by decide); have := lv_neT t_15_4 (a := 4) (by decide); omega) (by decide) ?_
    refine lv_bipush (v := -2) hx hb dX10_token_97 (by decide) ?_
    exact ro_iret X (by simp [aToken, ixO_nI hi (show tn < 2 ^ 31 by omega), c_8, t_15_0, t_15_1, t_15_2, t_15_3, t_15_4]) dX10_token_99
  · replace c_8 := bI_0.mp c_8
    refine lv_bipush (v := -2) hx hb dX10_token_11 (by decide) ?_
    exact ro_iret X (by simp [aToken, hasK_f c_8 htn]) dX10_token_13

set_option maxHeartbeats 1000000 in
set_option maxRecDepth 100000 in
theorem c_X10_at {l : Launch} {D : va_G} {cI cJ cW : ClassId} {x t d v th z g u w k h : Nat} {kx k1 k2 k3 k4 tn : Nat} {tm : Int32} {T : Nat → Nat → Int32} {xb xn : Nat} {X : Nat → Int32} {y e : Int32} (htn : tn ≤ 24) : RO l yX10_at wsX10_at { frames := 1, cells := 0, slots := 0, locals := 21 } D (ty3 cI cJ cW) [.ref x, .int y, .int e] [(x, .inr (10, [.ref t, .ref d, .ref v, .ref th, .ref z, .ref g, .ref u, .ref w, .ref k, .ref h])), (k, .inr (7, [.ref kx, .ref k1, .ref k2, .ref k3, .ref k4, .int (nI tn), .int tm])), (k1, .inl (cI, 24, .inl (T 1))), (k2, .inl (cI, 24, .inl (T 2))), (k3, .inl (cI, 24, .inl (T 3))), (k4, .inl (cI, 24, .inl (T 4))), (kx, .inr (4, [.ref xb, .int (nI xn)])), (xb, .inl (cI, 80, .inl X))] (.int (aAt tn xn T X y e)) := by
  refine ro_of (cc := cX10_at) (maxL := 3) (ret := (some .int)) (by decide) rfl (Nat.le_of_ble_eq_true rfl) ?_
  intro pr en ss mi below meth cd X hP hK ls hl
  obtain ⟨hx, hb, hml, hown, hts, hr, hlocks⟩ := id X
  have fl_172 := hts (.fieldLink RX10 172 "WordTables$Tokens" "places" "[I") (by decide +kernel)
  have fl_175 := hts (.fieldLink RX10 175 "WordTables$Tokens" "lengths" "[I") (by decide +kernel)
  have fl_188 := hts (.fieldLink RX10 188 "WordTables$Tokens" "text" "LWordTables$Row;") (by decide +kernel)
  have fl_79 := hts (.fieldLink RX10 79 "WordTables" "tokens" "LWordTables$Tokens;") (by decide +kernel)
  have in_X10 : ∀ w ∈ wsX100, w ∈ wsX10_at := by decide +kernel
  have in_X7 : ∀ w ∈ wsX70, w ∈ wsX10_at := by decide +kernel
  have hl : lv_has ls 3 [(0, .ref x), (1, .int y), (2, .int e)] := hl
  refine lv_aload_n hx hb dX10_at_0 rfl (lv_at hl 0 rfl) ?_
  refine va_get (D := D) (ci := 10) (C := RX10) (T := TX10) (N := 10) hx hb hts in_X10 hown hK hP 0 rfl rfl 8 (by decide) fl_79 (fun _ h9 => h9) rfl dX10_at_1 ?_
  refine lv_iload_n hx hb dX10_at_4 rfl (lv_at hl 1 rfl) ?_
  refine ro_V (n := 1) X hK (c_X7_has) gX10_at_X7_has rfl (by decide +kernel) ⟨rfl, rfl⟩ ⟨Nat.le_of_ble_eq_true rfl, Nat.le_of_ble_eq_true rfl⟩ (hP.sub [1] rfl) (va_recv hK hP (ci := 7) (q0 := 1) rfl rfl) rfl hl.1 rfl (Nat.le_of_ble_eq_true rfl) dX10_at_5 ⟨Nat.zero_le _, Nat.zero_le _⟩ ?_
  refine lv_if_eq (tgt := 28) hx hb dX10_at_8 (by decide) (fun c_8 => ?_) (fun c_8 => ?_)
  · replace c_8 := bI_0.mp c_8
    refine lv_bipush (v := -2) hx hb dX10_at_28 (by decide) ?_
    exact ro_iret X (by simp [aAt, hasK_f c_8 htn]) dX10_at_30
  · replace c_8 := bI_n0.mp c_8
    obtain ⟨i, hi, rfl⟩ := hasK_t c_8 htn
    refine lv_iload_n hx hb dX10_at_11 rfl (lv_at hl 2 rfl) ?_
    refine lv_if_lt (tgt := 28) hx hb dX10_at_12 (by decide) (fun c_12 => ?_) (fun c_12 => ?_)
    · refine lv_bipush (v := -2) hx hb dX10_at_28 (by decide) ?_
      exact ro_iret X (by simp [aAt, ixO_nI hi (show tn < 2 ^ 31 by omega), c_8, c_12]) dX10_at_30
    · refine lv_iload_n hx hb dX10_at_15 rfl (lv_at hl 2 rfl) ?_
      refine lv_aload_n hx hb dX10_at_16 rfl (lv_at hl 0 rfl) ?_
      refine va_get (D := D) (ci := 10) (C := RX10) (T := TX10) (N := 10) hx hb hts in_X10 hown hK hP 0 rfl rfl 8 (by decide) fl_79 (fun _ h9 => h9) rfl dX10_at_17 ?_
      refine va_get (D := D) (ci := 7) (C := RX7) (T := TX7) (N := 7) hx hb hts in_X7 hown hK hP 1 rfl rfl 3 (by decide) fl_175 (fun _ h9 => h9) rfl dX10_at_20 ?_
      refine lv_iload_n hx hb dX10_at_23 rfl (lv_at hl 1 rfl) ?_
      refine ald_n hx hb hK hP 4 0 rfl rfl (show i < 24 by omega) (by first | decide | omega) dX10_at_24 ?_
      refine lv_icmp_lt (tgt := 31) hx hb dX10_at_25 (by decide) (fun c_25 => ?_) (fun c_25 => ?_)
      · refine lv_aload_n hx hb dX10_at_31 rfl (lv_at hl 0 rfl) ?_
        refine va_get (D := D) (ci := 10) (C := RX10) (T := TX10) (N := 10) hx hb hts in_X10 hown hK hP 0 rfl rfl 8 (by decide) fl_79 (fun _ h9 => h9) rfl dX10_at_32 ?_
        refine va_get (D := D) (ci := 7) (C := RX7) (T := TX7) (N := 7) hx hb hts in_X7 hown hK hP 1 rfl rfl 0 (by decide) fl_188 (fun _ h9 => h9) rfl dX10_at_35 ?_
        refine lv_aload_n hx hb dX10_at_38 rfl (lv_at hl 0 rfl) ?_
        refine va_get (D := D) (ci := 10) (C := RX10) (T := TX10) (N := 10) hx hb hts in_X10 hown hK hP 0 rfl rfl 8 (by decide) fl_79 (fun _ h9 => h9) rfl dX10_at_39 ?_
        refine va_get (D := D) (ci := 7) (C := RX7) (T := TX7) (N := 7) hx hb hts in_X7 hown hK hP 1 rfl rfl 2 (by decide) fl_172 (fun _ h9 => h9) rfl dX10_at_42 ?_
        refine lv_iload_n hx hb dX10_at_45 rfl (lv_at hl 1 rfl) ?_
        refine ald_n hx hb hK hP 3 0 rfl rfl (show i < 24 by omega) (by first | decide | omega) dX10_at_46 ?_
        refine lv_iload_n hx hb dX10_at_47 rfl (lv_at hl 2 rfl) ?_
        refine lv_iadd hx hb dX10_at_48 ?_
        refine ro_V (n := 1) X hK (c_X4_byteAt (by decide)) gX10_at_X4_byteAt rfl (by decide +kernel) ⟨rfl, rfl⟩ ⟨Nat.le_of_ble_eq_true rfl, Nat.le_of_ble_eq_true rfl⟩ (hP.sub [6, 7] rfl) (va_recv hK hP (ci := 4) (q0 := 6) rfl rfl) rfl hl.1 rfl (Nat.le_of_ble_eq_true rfl) dX10_at_49 ⟨Nat.zero_le _, Nat.zero_le _⟩ ?_
        exact ro_iret X (by simp [aAt, ixO_nI hi (show tn < 2 ^ 31 by omega), c_8, c_12, c_25]) dX10_at_52
      · refine lv_bipush (v := -2) hx hb dX10_at_28 (by decide) ?_
        exact ro_iret X (by simp [aAt, ixO_nI hi (show tn < 2 ^ 31 by omega), c_8, c_12, c_25]) dX10_at_30

set_option maxHeartbeats 1000000 in
set_option maxRecDepth 100000 in
theorem c_X10_told {l : Launch} {D : va_G} {cI cJ cW : ClassId} {x t d v th z g u w k h : Nat} {db dn vw vj nw nj tb n kx k1 k2 k3 k4 tn g0 g1 g2 mm : Nat} {tm tc fu y : Int32}  : RO l yX10_told wsX10_told { frames := 0, cells := 0, slots := 0, locals := 0 } D (ty3 cI cJ cW) [.ref x, .int y] [(x, .inr (10, [.ref t, .ref d, .ref v, .ref th, .ref z, .ref g, .ref u, .ref w, .ref k, .ref h])), (d, .inr (4, [.ref db, .int (nI dn)])), (v, .inr (8, [.ref t, .ref vw, .ref vj, .int (nI nw), .int (nI nj)])), (th, .inr (4, [.ref tb, .int (nI n)])), (k, .inr (7, [.ref kx, .ref k1, .ref k2, .ref k3, .ref k4, .int (nI tn), .int tm])), (g, .inr (6, [.ref g0, .ref g1, .ref g2, .int tc, .int (nI mm), .int fu]))] (.int (aTold y (nI dn) (nI nw) (nI nj) (nI n) (nI tn) tc (nI mm))) := by
  refine ro_of (cc := cX10_told) (maxL := 2) (ret := (some .int)) (by decide) rfl (Nat.le_of_ble_eq_true rfl) ?_
  intro pr en ss mi below meth cd X hP hK ls hl
  obtain ⟨hx, hb, hml, hown, hts, hr, hlocks⟩ := id X
  have fl_118 := hts (.fieldLink RX10 118 "WordTables$Row" "count" "I") (by decide +kernel)
  have fl_209 := hts (.fieldLink RX10 209 "WordTables$Things" "count" "I") (by decide +kernel)
  have fl_218 := hts (.fieldLink RX10 218 "WordTables$Things" "meaningCount" "I") (by decide +kernel)
  have fl_254 := hts (.fieldLink RX10 254 "WordTables$Tokens" "count" "I") (by decide +kernel)
  have fl_30 := hts (.fieldLink RX10 30 "WordTables" "draft" "LWordTables$Row;") (by decide +kernel)
  have fl_39 := hts (.fieldLink RX10 39 "WordTables" "vocabulary" "LWordTables$Vocabulary;") (by decide +kernel)
  have fl_43 := hts (.fieldLink RX10 43 "WordTables" "line" "LWordTables$Row;") (by decide +kernel)
  have fl_58 := hts (.fieldLink RX10 58 "WordTables" "things" "LWordTables$Things;") (by decide +kernel)
  have fl_79 := hts (.fieldLink RX10 79 "WordTables" "tokens" "LWordTables$Tokens;") (by decide +kernel)
  have fl_93 := hts (.fieldLink RX10 93 "WordTables$Vocabulary" "wordCount" "I") (by decide +kernel)
  have fl_97 := hts (.fieldLink RX10 97 "WordTables$Vocabulary" "joinCount" "I") (by decide +kernel)
  have in_X10 : ∀ w ∈ wsX100, w ∈ wsX10_told := by decide +kernel
  have in_X4 : ∀ w ∈ wsX40, w ∈ wsX10_told := by decide +kernel
  have in_X6 : ∀ w ∈ wsX60, w ∈ wsX10_told := by decide +kernel
  have in_X7 : ∀ w ∈ wsX70, w ∈ wsX10_told := by decide +kernel
  have in_X8 : ∀ w ∈ wsX80, w ∈ wsX10_told := by decide +kernel
  have hl : lv_has ls 2 [(0, .ref x), (1, .int y)] := hl
  refine lv_iload_n hx hb dX10_told_0 rfl (lv_at hl 1 rfl) ?_
  refine ts_case (0) (fun t_1_0 => ?_) (fun t_1_0 => ?_)
  · refine lv_tableIn (tgt := 44) hx hb dX10_told_1 (by decide) (by decide) rfl (by decide) ?_
    refine lv_aload_n hx hb dX10_told_44 rfl (lv_at hl 0 rfl) ?_
    refine va_get (D := D) (ci := 10) (C := RX10) (T := TX10) (N := 10) hx hb hts in_X10 hown hK hP 0 rfl rfl 1 (by decide) fl_30 (fun _ h9 => h9) rfl dX10_told_45 ?_
    refine va_get (D := D) (ci := 4) (C := RX4) (T := TX4) (N := 2) hx hb hts in_X4 hown hK hP 1 rfl rfl 1 (by decide) fl_118 (fun _ h9 => h9) rfl dX10_told_48 ?_
    exact ro_iret X (by simp [aTold, t_1_0]) dX10_told_51
  refine ts_case (1) (fun t_1_1 => ?_) (fun t_1_1 => ?_)
  · refine lv_tableIn (tgt := 52) hx hb dX10_told_1 (by decide) (by decide) rfl (by decide) ?_
    refine lv_aload_n hx hb dX10_told_52 rfl (lv_at hl 0 rfl) ?_
    refine va_get (D := D) (ci := 10) (C := RX10) (T := TX10) (N := 10) hx hb hts in_X10 hown hK hP 0 rfl rfl 2 (by decide) fl_39 (fun _ h9 => h9) rfl dX10_told_53 ?_
    refine va_get (D := D) (ci := 8) (C := RX8) (T := TX8) (N := 5) hx hb hts in_X8 hown hK hP 2 rfl rfl 3 (by decide) fl_93 (fun _ h9 => h9) rfl dX10_told_56 ?_
    exact ro_iret X (by simp [aTold, t_1_1]) dX10_told_59
  refine ts_case (2) (fun t_1_2 => ?_) (fun t_1_2 => ?_)
  · refine lv_tableIn (tgt := 60) hx hb dX10_told_1 (by decide) (by decide) rfl (by decide) ?_
    refine lv_aload_n hx hb dX10_told_60 rfl (lv_at hl 0 rfl) ?_
    refine va_get (D := D) (ci := 10) (C := RX10) (T := TX10) (N := 10) hx hb hts in_X10 hown hK hP 0 rfl rfl 2 (by decide) fl_39 (fun _ h9 => h9) rfl dX10_told_61 ?_
    refine va_get (D := D) (ci := 8) (C := RX8) (T := TX8) (N := 5) hx hb hts in_X8 hown hK hP 2 rfl rfl 4 (by decide) fl_97 (fun _ h9 => h9) rfl dX10_told_64 ?_
    exact ro_iret X (by simp [aTold, t_1_2]) dX10_told_67
  refine ts_case (3) (fun t_1_3 => ?_) (fun t_1_3 => ?_)
  · refine lv_tableIn (tgt := 68) hx hb dX10_told_1 (by decide) (by decide) rfl (by decide) ?_
    refine lv_aload_n hx hb dX10_told_68 rfl (lv_at hl 0 rfl) ?_
    refine va_get (D := D) (ci := 10) (C := RX10) (T := TX10) (N := 10) hx hb hts in_X10 hown hK hP 0 rfl rfl 3 (by decide) fl_43 (fun _ h9 => h9) rfl dX10_told_69 ?_
    refine va_get (D := D) (ci := 4) (C := RX4) (T := TX4) (N := 2) hx hb hts in_X4 hown hK hP 3 rfl rfl 1 (by decide) fl_118 (fun _ h9 => h9) rfl dX10_told_72 ?_
    exact ro_iret X (by simp [aTold, t_1_3]) dX10_told_75
  refine ts_case (4) (fun t_1_4 => ?_) (fun t_1_4 => ?_)
  · refine lv_tableIn (tgt := 76) hx hb dX10_told_1 (by decide) (by decide) rfl (by decide) ?_
    refine lv_aload_n hx hb dX10_told_76 rfl (lv_at hl 0 rfl) ?_
    refine va_get (D := D) (ci := 10) (C := RX10) (T := TX10) (N := 10) hx hb hts in_X10 hown hK hP 0 rfl rfl 8 (by decide) fl_79 (fun _ h9 => h9) rfl dX10_told_77 ?_
    refine va_get (D := D) (ci := 7) (C := RX7) (T := TX7) (N := 7) hx hb hts in_X7 hown hK hP 4 rfl rfl 5 (by decide) fl_254 (fun _ h9 => h9) rfl dX10_told_80 ?_
    exact ro_iret X (by simp [aTold, t_1_4]) dX10_told_83
  refine ts_case (5) (fun t_1_5 => ?_) (fun t_1_5 => ?_)
  · refine lv_tableIn (tgt := 84) hx hb dX10_told_1 (by decide) (by decide) rfl (by decide) ?_
    refine lv_aload_n hx hb dX10_told_84 rfl (lv_at hl 0 rfl) ?_
    refine va_get (D := D) (ci := 10) (C := RX10) (T := TX10) (N := 10) hx hb hts in_X10 hown hK hP 0 rfl rfl 5 (by decide) fl_58 (fun _ h9 => h9) rfl dX10_told_85 ?_
    refine va_get (D := D) (ci := 6) (C := RX6) (T := TX6) (N := 6) hx hb hts in_X6 hown hK hP 5 rfl rfl 3 (by decide) fl_209 (fun _ h9 => h9) rfl dX10_told_88 ?_
    exact ro_iret X (by simp [aTold, t_1_5]) dX10_told_91
  refine ts_case (6) (fun t_1_6 => ?_) (fun t_1_6 => ?_)
  · refine lv_tableIn (tgt := 92) hx hb dX10_told_1 (by decide) (by decide) rfl (by decide) ?_
    refine lv_aload_n hx hb dX10_told_92 rfl (lv_at hl 0 rfl) ?_
    refine va_get (D := D) (ci := 10) (C := RX10) (T := TX10) (N := 10) hx hb hts in_X10 hown hK hP 0 rfl rfl 5 (by decide) fl_58 (fun _ h9 => h9) rfl dX10_told_93 ?_
    refine va_get (D := D) (ci := 6) (C := RX6) (T := TX6) (N := 6) hx hb hts in_X6 hown hK hP 5 rfl rfl 4 (by decide) fl_218 (fun _ h9 => h9) rfl dX10_told_96 ?_
    exact ro_iret X (by simp [aTold, t_1_6]) dX10_told_99
  refine lv_tableOut (tgt := 100) hx hb dX10_told_1 (by have := lv_neT t_1_0 (a := 0) (by decide); have := lv_neT t_1_1 (a := 1) (by decide); have := lv_neT t_1_2 (a := 2) (by decide); have := lv_neT t_1_3 (a := 3) (by decide); have := lv_neT t_1_4 (a := 4) (by decide); have := lv_neT t_1_5 (a := 5) (by decide); have := lv_neT t_1_6 (a := 6) (by decide); omega) (by decide) ?_
  refine lv_bipush (v := -2) hx hb dX10_told_100 (by decide) ?_
  exact ro_iret X (by simp [aTold, t_1_0, t_1_1, t_1_2, t_1_3, t_1_4, t_1_5, t_1_6]) dX10_told_102

set_option maxHeartbeats 1000000 in
set_option maxRecDepth 100000 in
theorem c_X10_thingsMeantAt {l : Launch} {D : va_G} {cI cJ cW : ClassId} {x t d v th z g u w k h : Nat} {kx k1 k2 k3 k4 tn : Nat} {tm : Int32} {T : Nat → Nat → Int32} {vw vj nw nj : Nat} {wf : Nat → Option Nat} {g0 g1 g2 mm : Nat} {tc fu : Int32} {mt mw mf : Nat → Int32} {dy : va_W} {wa : Nat → Nat → Nat} {wz : Nat → Nat → Int32} {wn : Nat → Nat} {wt : Nat → Nat → Int32} {i : Nat} (htn : tn ≤ 24) (hnw : nw ≤ 40) (hwf : ∀ i, i < nw → wf i = some (wa i 0)) (hdw : Dw cI wa wz wn wt nw dy) (hmm : mm ≤ 60) (hi : i < tn) : RO l yX10_thingsMeantAt wsX10_thingsMeantAt { frames := 2, cells := 0, slots := 0, locals := 45 } D (ty3 cI cJ cW) [.ref x, .int (nI i)] ((x, .inr (10, [.ref t, .ref d, .ref v, .ref th, .ref z, .ref g, .ref u, .ref w, .ref k, .ref h])) :: (k, .inr (7, [.ref kx, .ref k1, .ref k2, .ref k3, .ref k4, .int (nI tn), .int tm])) :: (k1, .inl (cI, 24, .inl (T 1))) :: (k2, .inl (cI, 24, .inl (T 2))) :: (k3, .inl (cI, 24, .inl (T 3))) :: (k4, .inl (cI, 24, .inl (T 4))) :: (v, .inr (8, [.ref t, .ref vw, .ref vj, .int (nI nw), .int (nI nj)])) :: (vw, .inl (cW, 40, .inr (.inr (.inr (.inr wf))))) :: (g, .inr (6, [.ref g0, .ref g1, .ref g2, .int tc, .int (nI mm), .int fu])) :: (g0, .inl (cI, 60, .inl mt)) :: (g1, .inl (cI, 60, .inl mw)) :: (g2, .inl (cI, 60, .inl mf)) :: dy) (.int (tmI T nw wz mt mw mf fu mm i)) := by
  refine ro_of (cc := cX10_thingsMeantAt) (maxL := 4) (ret := (some .int)) (by decide) rfl (Nat.le_of_ble_eq_true rfl) ?_
  intro pr en ss mi below meth cd X hP hK ls hl
  obtain ⟨hx, hb, hml, hown, hts, hr, hlocks⟩ := id X
  have fl_150 := hts (.fieldLink RX10 150 "WordTables$Word" "pluralOf" "I") (by decide +kernel)
  have fl_178 := hts (.fieldLink RX10 178 "WordTables$Tokens" "numbers" "[I") (by decide +kernel)
  have fl_231 := hts (.fieldLink RX10 231 "WordTables$Word" "refersTo" "I") (by decide +kernel)
  have fl_58 := hts (.fieldLink RX10 58 "WordTables" "things" "LWordTables$Things;") (by decide +kernel)
  have fl_79 := hts (.fieldLink RX10 79 "WordTables" "tokens" "LWordTables$Tokens;") (by decide +kernel)
  have in_X10 : ∀ w ∈ wsX100, w ∈ wsX10_thingsMeantAt := by decide +kernel
  have in_X7 : ∀ w ∈ wsX70, w ∈ wsX10_thingsMeantAt := by decide +kernel
  have in_X9 : ∀ w ∈ wsX90, w ∈ wsX10_thingsMeantAt := by decide +kernel
  have hl : lv_has ls 4 [(0, .ref x), (1, .int (nI i))] := hl
  refine lv_aload_n hx hb dX10_thingsMeantAt_0 rfl (lv_at hl 0 rfl) ?_
  refine lv_iload_n hx hb dX10_thingsMeantAt_1 rfl (lv_at hl 1 rfl) ?_
  refine ro_V (n := 1) X hK (c_X10_wordOf htn hnw hwf hi) gX10_thingsMeantAt_X10_wordOf rfl (by decide +kernel) ⟨rfl, rfl⟩ ⟨Nat.le_of_ble_eq_true rfl, Nat.le_of_ble_eq_true rfl⟩ (hP.sub [0, 1, 2, 5, 6, 7] rfl) (va_recv hK hP (ci := 10) (q0 := 0) rfl rfl) rfl hl.1 rfl (Nat.le_of_ble_eq_true rfl) dX10_thingsMeantAt_2 ⟨Nat.zero_le _, Nat.zero_le _⟩ ?_
  rcases h_2 : tokW T nw i with _ | j_2
  · refine rf_eqN rfl ?_
    refine lv_astore_nN (lv' := [(2, _), (0, _), (1, _)]) hx hb dX10_thingsMeantAt_5 rfl hl (by decide) rfl (fun ls hl => ?_)
    refine lv_aload_nN hx hb dX10_thingsMeantAt_6 rfl (lv_at hl 0 rfl) ?_
    refine lv_ifnonnullN hx hb dX10_thingsMeantAt_7 ?_
    refine lv_iconst (v := 0) hx hb dX10_thingsMeantAt_10 (by decide) ?_
    exact ro_iret X (by simp [tmI, h_2]) dX10_thingsMeantAt_11
  · refine rf_eq (q := (wa j_2 0)) rfl ?_
    have hj_2 : j_2 < nw := tokW_lt h_2 hnw
    have hw_2 : va_P D vwCl [((wa j_2 0), .inr (9, [.ref (wa j_2 1), .int (wz j_2 1), .int (wz j_2 2), .int (wz j_2 3), .int (wz j_2 4), .int (wz j_2 5)])), ((wa j_2 1), .inr (4, [.ref (wa j_2 2), .int (nI (wn j_2))])), ((wa j_2 2), .inl (cI, (wn j_2), .inl (wt j_2)))] _ := memP (w := wCells cI wa wz wn wt j_2) hP (fun q hq => List.mem_cons_of_mem _ (List.mem_cons_of_mem _ (List.mem_cons_of_mem _ (List.mem_cons_of_mem _ (List.mem_cons_of_mem _ (List.mem_cons_of_mem _ (List.mem_cons_of_mem _ (List.mem_cons_of_mem _ (List.mem_cons_of_mem _ (List.mem_cons_of_mem _ (List.mem_cons_of_mem _ (List.mem_cons_of_mem _ ((hdw j_2 hj_2).2 q hq)))))))))))))
    refine lv_astore_n (lv' := [(2, _), (0, _), (1, _)]) hx hb dX10_thingsMeantAt_5 rfl hl (by decide) rfl (fun ls hl => ?_)
    refine lv_aload_n hx hb dX10_thingsMeantAt_6 rfl (lv_at hl 0 rfl) ?_
    refine lv_ifnonnull (tgt := 12) hx hb dX10_thingsMeantAt_7 (by decide) ?_
    refine lv_aload_n hx hb dX10_thingsMeantAt_12 rfl (lv_at hl 1 rfl) ?_
    refine va_get (D := D) (ci := 10) (C := RX10) (T := TX10) (N := 10) hx hb hts in_X10 hown hK hP 0 rfl rfl 5 (by decide) fl_58 (fun _ h9 => h9) rfl dX10_thingsMeantAt_13 ?_
    refine lv_aload_n hx hb dX10_thingsMeantAt_16 rfl (lv_at hl 1 rfl) ?_
    refine va_get (D := D) (ci := 10) (C := RX10) (T := TX10) (N := 10) hx hb hts in_X10 hown hK hP 0 rfl rfl 8 (by decide) fl_79 (fun _ h9 => h9) rfl dX10_thingsMeantAt_17 ?_
    refine va_get (D := D) (ci := 7) (C := RX7) (T := TX7) (N := 7) hx hb hts in_X7 hown hK hP 1 rfl rfl 4 (by decide) fl_178 (fun _ h9 => h9) rfl dX10_thingsMeantAt_20 ?_
    refine lv_iload_n hx hb dX10_thingsMeantAt_23 rfl (lv_at hl 2 rfl) ?_
    refine ald_n hx hb hK hP 5 0 rfl rfl (show i < 24 by omega) (by first | decide | omega) dX10_thingsMeantAt_24 ?_
    refine ro_V (n := 1) X hK (c_X6_meantBy hmm) gX10_thingsMeantAt_X6_meantBy rfl (by decide +kernel) ⟨rfl, rfl⟩ ⟨Nat.le_of_ble_eq_true rfl, Nat.le_of_ble_eq_true rfl⟩ (hP.sub [8, 9, 10, 11] rfl) (va_recv hK hP (ci := 6) (q0 := 8) rfl rfl) rfl hl.1 rfl (Nat.le_of_ble_eq_true rfl) dX10_thingsMeantAt_25 ⟨Nat.zero_le _, Nat.zero_le _⟩ ?_
    refine lv_istore_n (lv' := [(3, _), (2, _), (0, _), (1, _)]) hx hb dX10_thingsMeantAt_28 rfl hl (by decide) rfl (fun ls hl => ?_)
    refine lv_aload_n hx hb dX10_thingsMeantAt_29 rfl (lv_at hl 1 rfl) ?_
    refine va_get (D := D) (ci := 9) (C := RX9) (T := TX9) (N := 6) hx hb hts in_X9 hown hK hw_2 0 rfl rfl 4 (by decide) fl_150 (fun _ h9 => h9) rfl dX10_thingsMeantAt_30 ?_
    refine lv_iconst (v := -1) hx hb dX10_thingsMeantAt_33 (by decide) ?_
    refine lv_icmp_eq (tgt := 51) hx hb dX10_thingsMeantAt_34 (by decide) (fun c_34 => ?_) (fun c_34 => ?_)
    · refine lv_aload_n hx hb dX10_thingsMeantAt_51 rfl (lv_at hl 1 rfl) ?_
      refine lv_bipush (v := 16) hx hb dX10_thingsMeantAt_52 (by decide) ?_
      refine ro_V (n := 1) X hK (c_X9_isOneOf) gX10_thingsMeantAt_X9_isOneOf rfl (by decide +kernel) ⟨rfl, rfl⟩ ⟨Nat.le_of_ble_eq_true rfl, Nat.le_of_ble_eq_true rfl⟩ (hw_2.sub [0] rfl) (va_recv hK hw_2 (ci := 9) (q0 := 0) rfl rfl) rfl hl.1 rfl (Nat.le_of_ble_eq_true rfl) dX10_thingsMeantAt_54 ⟨Nat.zero_le _, Nat.zero_le _⟩ ?_
      refine lv_if_eq (tgt := 67) hx hb dX10_thingsMeantAt_57 (by decide) (fun c_57 => ?_) (fun c_57 => ?_)
      · replace c_57 := bI_0.mp c_57
        refine lv_iload_n hx hb dX10_thingsMeantAt_67 rfl (lv_at hl 0 rfl) ?_
        exact ro_iret X (by simp_all [tmI]) dX10_thingsMeantAt_68
      · replace c_57 := bI_n0.mp c_57
        refine lv_iload_n hx hb dX10_thingsMeantAt_60 rfl (lv_at hl 0 rfl) ?_
        refine lv_aload_n hx hb dX10_thingsMeantAt_61 rfl (lv_at hl 1 rfl) ?_
        refine va_get (D := D) (ci := 9) (C := RX9) (T := TX9) (N := 6) hx hb hts in_X9 hown hK hw_2 0 rfl rfl 5 (by decide) fl_231 (fun _ h9 => h9) rfl dX10_thingsMeantAt_62 ?_
        refine lv_ior hx hb dX10_thingsMeantAt_65 ?_
        refine lv_istore_n (lv' := [(3, _), (2, _), (0, _), (1, _)]) hx hb dX10_thingsMeantAt_66 rfl hl (by decide) rfl (fun ls hl => ?_)
        refine lv_iload_n hx hb dX10_thingsMeantAt_67 rfl (lv_at hl 0 rfl) ?_
        exact ro_iret X (by simp_all [tmI]) dX10_thingsMeantAt_68
    · refine lv_iload_n hx hb dX10_thingsMeantAt_37 rfl (lv_at hl 0 rfl) ?_
      refine lv_aload_n hx hb dX10_thingsMeantAt_38 rfl (lv_at hl 2 rfl) ?_
      refine va_get (D := D) (ci := 10) (C := RX10) (T := TX10) (N := 10) hx hb hts in_X10 hown hK hP 0 rfl rfl 5 (by decide) fl_58 (fun _ h9 => h9) rfl dX10_thingsMeantAt_39 ?_
      refine lv_aload_n hx hb dX10_thingsMeantAt_42 rfl (lv_at hl 1 rfl) ?_
      refine va_get (D := D) (ci := 9) (C := RX9) (T := TX9) (N := 6) hx hb hts in_X9 hown hK hw_2 0 rfl rfl 4 (by decide) fl_150 (fun _ h9 => h9) rfl dX10_thingsMeantAt_43 ?_
      refine ro_V (n := 1) X hK (c_X6_meantBy hmm) gX10_thingsMeantAt_X6_meantBy rfl (by decide +kernel) ⟨rfl, rfl⟩ ⟨Nat.le_of_ble_eq_true rfl, Nat.le_of_ble_eq_true rfl⟩ (hP.sub [8, 9, 10, 11] rfl) (va_recv hK hP (ci := 6) (q0 := 8) rfl rfl) rfl hl.1 rfl (Nat.le_of_ble_eq_true rfl) dX10_thingsMeantAt_46 ⟨Nat.zero_le _, Nat.zero_le _⟩ ?_
      refine lv_ior hx hb dX10_thingsMeantAt_49 ?_
      refine lv_istore_n (lv' := [(3, _), (2, _), (0, _), (1, _)]) hx hb dX10_thingsMeantAt_50 rfl hl (by decide) rfl (fun ls hl => ?_)
      refine lv_aload_n hx hb dX10_thingsMeantAt_51 rfl (lv_at hl 1 rfl) ?_
      refine lv_bipush (v := 16) hx hb dX10_thingsMeantAt_52 (by decide) ?_
      refine ro_V (n := 1) X hK (c_X9_isOneOf) gX10_thingsMeantAt_X9_isOneOf rfl (by decide +kernel) ⟨rfl, rfl⟩ ⟨Nat.le_of_ble_eq_true rfl, Nat.le_of_ble_eq_true rfl⟩ (hw_2.sub [0] rfl) (va_recv hK hw_2 (ci := 9) (q0 := 0) rfl rfl) rfl hl.1 rfl (Nat.le_of_ble_eq_true rfl) dX10_thingsMeantAt_54 ⟨Nat.zero_le _, Nat.zero_le _⟩ ?_
      refine lv_if_eq (tgt := 67) hx hb dX10_thingsMeantAt_57 (by decide) (fun c_57 => ?_) (fun c_57 => ?_)
      · replace c_57 := bI_0.mp c_57
        refine lv_iload_n hx hb dX10_thingsMeantAt_67 rfl (lv_at hl 0 rfl) ?_
        exact ro_iret X (by simp_all [tmI]) dX10_thingsMeantAt_68
      · replace c_57 := bI_n0.mp c_57
        refine lv_iload_n hx hb dX10_thingsMeantAt_60 rfl (lv_at hl 0 rfl) ?_
        refine lv_aload_n hx hb dX10_thingsMeantAt_61 rfl (lv_at hl 1 rfl) ?_
        refine va_get (D := D) (ci := 9) (C := RX9) (T := TX9) (N := 6) hx hb hts in_X9 hown hK hw_2 0 rfl rfl 5 (by decide) fl_231 (fun _ h9 => h9) rfl dX10_thingsMeantAt_62 ?_
        refine lv_ior hx hb dX10_thingsMeantAt_65 ?_
        refine lv_istore_n (lv' := [(3, _), (2, _), (0, _), (1, _)]) hx hb dX10_thingsMeantAt_66 rfl hl (by decide) rfl (fun ls hl => ?_)
        refine lv_iload_n hx hb dX10_thingsMeantAt_67 rfl (lv_at hl 0 rfl) ?_
        exact ro_iret X (by simp_all [tmI]) dX10_thingsMeantAt_68

set_option maxHeartbeats 1000000 in
set_option maxRecDepth 100000 in
theorem c_X10_meant {l : Launch} {D : va_G} {cI cJ cW : ClassId} {x t d v th z g u w k h : Nat} {kx k1 k2 k3 k4 tn : Nat} {tm : Int32} {T : Nat → Nat → Int32} {vw vj nw nj : Nat} {wf : Nat → Option Nat} {g0 g1 g2 mm : Nat} {tc fu : Int32} {mt mw mf : Nat → Int32} {dy : va_W} {wa : Nat → Nat → Nat} {wz : Nat → Nat → Int32} {wn : Nat → Nat} {wt : Nat → Nat → Int32} {y : Int32} (htn : tn ≤ 24) (hnw : nw ≤ 40) (hwf : ∀ i, i < nw → wf i = some (wa i 0)) (hdw : Dw cI wa wz wn wt nw dy) (hmm : mm ≤ 60) : RO l yX10_meant wsX10_meant { frames := 3, cells := 0, slots := 0, locals := 68 } D (ty3 cI cJ cW) [.ref x, .int y] ((x, .inr (10, [.ref t, .ref d, .ref v, .ref th, .ref z, .ref g, .ref u, .ref w, .ref k, .ref h])) :: (k, .inr (7, [.ref kx, .ref k1, .ref k2, .ref k3, .ref k4, .int (nI tn), .int tm])) :: (k1, .inl (cI, 24, .inl (T 1))) :: (k2, .inl (cI, 24, .inl (T 2))) :: (k3, .inl (cI, 24, .inl (T 3))) :: (k4, .inl (cI, 24, .inl (T 4))) :: (v, .inr (8, [.ref t, .ref vw, .ref vj, .int (nI nw), .int (nI nj)])) :: (vw, .inl (cW, 40, .inr (.inr (.inr (.inr wf))))) :: (g, .inr (6, [.ref g0, .ref g1, .ref g2, .int tc, .int (nI mm), .int fu])) :: (g0, .inl (cI, 60, .inl mt)) :: (g1, .inl (cI, 60, .inl mw)) :: (g2, .inl (cI, 60, .inl mf)) :: dy) (.int (aMeant tn nw T wz mt mw mf fu mm y)) := by
  refine ro_of (cc := cX10_meant) (maxL := 2) (ret := (some .int)) (by decide) rfl (Nat.le_of_ble_eq_true rfl) ?_
  intro pr en ss mi below meth cd X hP hK ls hl
  obtain ⟨hx, hb, hml, hown, hts, hr, hlocks⟩ := id X
  have fl_79 := hts (.fieldLink RX10 79 "WordTables" "tokens" "LWordTables$Tokens;") (by decide +kernel)
  have in_X10 : ∀ w ∈ wsX100, w ∈ wsX10_meant := by decide +kernel
  have hl : lv_has ls 2 [(0, .ref x), (1, .int y)] := hl
  refine lv_aload_n hx hb dX10_meant_0 rfl (lv_at hl 0 rfl) ?_
  refine va_get (D := D) (ci := 10) (C := RX10) (T := TX10) (N := 10) hx hb hts in_X10 hown hK hP 0 rfl rfl 8 (by decide) fl_79 (fun _ h9 => h9) rfl dX10_meant_1 ?_
  refine lv_iload_n hx hb dX10_meant_4 rfl (lv_at hl 1 rfl) ?_
  refine ro_V (n := 1) X hK (c_X7_has) gX10_meant_X7_has rfl (by decide +kernel) ⟨rfl, rfl⟩ ⟨Nat.le_of_ble_eq_true rfl, Nat.le_of_ble_eq_true rfl⟩ (hP.sub [1] rfl) (va_recv hK hP (ci := 7) (q0 := 1) rfl rfl) rfl hl.1 rfl (Nat.le_of_ble_eq_true rfl) dX10_meant_5 ⟨Nat.zero_le _, Nat.zero_le _⟩ ?_
  refine lv_if_eq (tgt := 19) hx hb dX10_meant_8 (by decide) (fun c_8 => ?_) (fun c_8 => ?_)
  · replace c_8 := bI_0.mp c_8
    refine lv_bipush (v := -2) hx hb dX10_meant_19 (by decide) ?_
    exact ro_iret X (by simp [aMeant, hasK_f c_8 htn]) dX10_meant_21
  · replace c_8 := bI_n0.mp c_8
    obtain ⟨i, hi, rfl⟩ := hasK_t c_8 htn
    refine lv_aload_n hx hb dX10_meant_11 rfl (lv_at hl 0 rfl) ?_
    refine lv_iload_n hx hb dX10_meant_12 rfl (lv_at hl 1 rfl) ?_
    refine ro_V (n := 1) X hK (c_X10_thingsMeantAt htn hnw hwf hdw hmm hi) gX10_meant_X10_thingsMeantAt rfl (by decide +kernel) ⟨rfl, rfl⟩ ⟨Nat.le_of_ble_eq_true rfl, Nat.le_of_ble_eq_true rfl⟩ (ro_tl hP [0, 1, 2, 3, 4, 5, 6, 7, 8, 9, 10, 11] rfl (fun _ hq => by simp [hq])) (va_recv hK hP (ci := 10) (q0 := 0) rfl rfl) rfl hl.1 rfl (Nat.le_of_ble_eq_true rfl) dX10_meant_13 ⟨Nat.zero_le _, Nat.zero_le _⟩ ?_
    refine lv_goto (tgt := 21) hx hb dX10_meant_16 (by decide) ?_
    exact ro_iret X (by simp [aMeant, ixO_nI hi (show tn < 2 ^ 31 by omega)]) dX10_meant_21
