/-! the model: its small methods -/
def inB (v lo hi : Int32) : Bool := !decide (v < lo) && !decide (hi < v)
theorem isLe_in (c : Int32) : isLe c = (inB c 65 90 || inB c 97 122 || inB c 128 159) := rfl
theorem inB_of {c : Int32} (lo hi : Nat) (h : inB c (nI lo) (nI hi) = true) (hh : hi < 2 ^ 30) (hl : lo ≤ hi) : ∃ j, lo ≤ j ∧ j ≤ hi ∧ c = nI j := by
  simp only [inB, Bool.and_eq_true, Bool.not_eq_true', decide_eq_false_iff_not] at h
  rcases pk_ix c (n := hi + 1) (by omega) with q | q | ⟨j, hj, rfl⟩
  · exact absurd (by rw [Int32.lt_iff_toInt_lt] at q ⊢; rw [nI_toInt (by omega)]; have : (0 : Int32).toInt = 0 := rfl; omega) h.1
  · exact absurd (by rw [Int32.le_iff_toInt_le, nI_toInt (by omega)] at q; rw [Int32.lt_iff_toInt_lt, nI_toInt (by omega)]; omega) h.2
  · refine ⟨j, ?_, by omega, rfl⟩
    rcases Nat.lt_or_ge j lo with q | q
    · exact absurd (nI_lt q (by omega)) h.1
    · exact q
theorem le_cases {c : Int32} (h : isLe c = true) : ∃ j, c = nI j ∧ (65 ≤ j ∧ j ≤ 90 ∨ 97 ≤ j ∧ j ≤ 122 ∨ 128 ≤ j ∧ j ≤ 159) := by
  rw [isLe_in] at h
  simp only [Bool.or_eq_true] at h
  rcases h with (h | h) | h
  · obtain ⟨j, h1, h2, e⟩ := inB_of 65 90 h (by decide) (by decide); exact ⟨j, e, Or.inl ⟨h1, h2⟩⟩
  · obtain ⟨j, h1, h2, e⟩ := inB_of 97 122 h (by decide) (by decide); exact ⟨j, e, Or.inr (Or.inl ⟨h1, h2⟩)⟩
  · obtain ⟨j, h1, h2, e⟩ := inB_of 128 159 h (by decide) (by decide); exact ⟨j, e, Or.inr (Or.inr ⟨h1, h2⟩)⟩
theorem foC_up {fo : Nat → Int32} {j : Nat} (h : 65 ≤ j) (h2 : j ≤ 90) : foC fo (nI j) = nI j + 32 := by
  have e : nI j - 128 < 0 := pk_sneg (b := 128) (by decide) (by omega)
  have h3 : ¬ nI j < 65 := fun q => by have := (nI_ltI (a := j) (b := 65) (by omega) (by decide)).mp q; omega
  have h4 : ¬ (90 : Int32) < nI j := fun q => by have := (nI_ltI (a := 90) (b := j) (by decide) (by omega)).mp q; omega
  rw [foC, if_pos e, foB, if_neg h3, if_neg h4]
  show nI j - nI 65 + nI 97 = nI j + nI 32
  rw [pk_sub h, nI_add, nI_add]; congr 1; omega
theorem foC_lo {fo : Nat → Int32} {j : Nat} (h : 90 < j) (h2 : j ≤ 127) : foC fo (nI j) = nI j := by
  have e : nI j - 128 < 0 := pk_sneg (b := 128) (by decide) (by omega)
  have h3 : ¬ nI j < 65 := fun q => by have := (nI_ltI (a := j) (b := 65) (by omega) (by decide)).mp q; omega
  have h4 : (90 : Int32) < nI j := (nI_ltI (a := 90) (b := j) (by decide) (by omega)).mpr h
  rw [foC, if_pos e, foB, if_neg h3, if_pos h4]
theorem foC_hi {fo : Nat → Int32} {j : Nat} (h : 128 ≤ j) (h2 : j ≤ 159) : foC fo (nI j) = fo (j - 128) ∧ nI j - 128 = nI (j - 128) := by
  have e : nI j - 128 = nI (j - 128) := pk_sub (b := 128) h
  refine ⟨?_, e⟩
  rw [foC, e, if_neg (nI_pos (by omega)), if_neg (nI_ge (by omega) (by decide)), nI_clamp (by omega)]
theorem isW {nw : Nat} {w : Int32} (hn : nw < 2 ^ 30) : inB w 0 (nI nw - 1) = (ixO nw w).isSome := by
  have hm : (nI nw - 1).toInt = (nw : Int) - 1 := by
    have := pk_sub_toInt (a := nw) (b := 1) hn (by decide); exact this
  rcases pk_ix w (n := nw) (by omega) with q | q | ⟨j, hj, rfl⟩
  · rw [ixO_out (Or.inl q)]; simp [inB, q]
  · rw [ixO_out (Or.inr q)]
    have : nI nw - 1 < w := by rw [Int32.lt_iff_toInt_lt, hm]; rw [Int32.le_iff_toInt_le, nI_toInt (by omega)] at q; omega
    simp [inB, this]
  · rw [ixO_nI hj (by omega)]
    have h1 : ¬ nI j < 0 := nI_pos (by omega)
    have h2 : ¬ nI nw - 1 < nI j := by rw [Int32.lt_iff_toInt_lt, hm, nI_toInt (by omega)]; omega
    simp [inB, h1, h2]
def kdB (k d : Int32) : Bool := decide ((k >>> (d &&& 31)) &&& 1 = 1)
theorem kd5 : ∀ q, q < 64 → kdB (nI q) 5 = decide (¬ nI q &&& 32 = 0) := by decide +kernel
theorem kd4 : ∀ q, q < 64 → kdB (nI q) 4 = decide (¬ nI q &&& 16 = 0) := by decide +kernel
/-- the words and the joins as the model has them -/
def RW (F : Nat → Nat → Int32) (nw : Nat) (wz : Nat → Nat → Int32) (wn : Nat → Nat) (wt : Nat → Nat → Int32) : Prop := ∀ j, j < nw → F 7 j = nI (wn j) ∧ wn j ≤ 20 ∧ (∀ k, k < wn j → F 6 (20 * j + k) = wt j k ∧ isLe (wt j k) = true) ∧ F 8 j = wz j 1 ∧ F 9 j = wz j 2 ∧ F 10 j = wz j 3 ∧ F 11 j = wz j 4 ∧ F 12 j = wz j 5 ∧ (∃ q, q < 64 ∧ wz j 2 = nI q)
def RJ (F : Nat → Nat → Int32) (nj : Nat) (jz : Nat → Nat → Int32) (jn : Nat → Nat) (jt : Nat → Nat → Int32) : Prop := ∀ j, j < nj → F 7 (40 + j) = nI (jn j) ∧ jn j ≤ 20 ∧ (∀ k, k < jn j → F 6 (20 * (40 + j) + k) = jt j k ∧ isLe (jt j k) = true) ∧ F 13 j = jz j 1 ∧ F 14 j = jz j 2
/-- the tokens as the model has them -/
def RT (F T : Nat → Nat → Int32) (tn nw xn : Nat) : Prop := ∀ i, i < tn → F 18 i = T 1 i ∧ F 19 i = T 2 i ∧ F 20 i = T 3 i ∧ F 21 i = T 4 i ∧ (T 1 i = 0 → ∃ j, j < nw ∧ T 4 i = nI j) ∧ ∃ p w, T 2 i = nI p ∧ T 3 i = nI w ∧ p + w ≤ xn
theorem RT_w {F T : Nat → Nat → Int32} {tn nw xn i : Nat} (h : RT F T tn nw xn) (hi : i < tn) (hnw : nw ≤ 40) (h0 : T 1 i = 0) : ∃ j, j < nw ∧ T 4 i = nI j ∧ tokW T nw i = some j := by
  obtain ⟨j, hj, e⟩ := (h i hi).2.2.2.2.1 h0
  exact ⟨j, hj, e, by rw [tokW, if_pos h0, e, ixO_nI hj (by omega)]⟩
theorem RT_n {T : Nat → Nat → Int32} {nw i : Nat} (h0 : ¬ T 1 i = 0) : tokW T nw i = none := by rw [tokW, if_neg h0]

set_option maxHeartbeats 1000000 in
set_option maxRecDepth 100000 in
theorem c_X11_in {l : Launch} {D : va_G} {cI cJ cW : ClassId} {v lo hi : Int32}  : RO l yX11_in wsX11_in { frames := 0, cells := 0, slots := 0, locals := 0 } D (ty3 cI cJ cW) [.int v, .int lo, .int hi] [] (.int (bI (inB v lo hi))) := by
  refine ro_of (cc := cX11_in) (maxL := 3) (ret := (some .boolean)) (by decide) rfl (Nat.le_of_ble_eq_true rfl) ?_
  intro pr en ss mi below meth cd X hP hK ls hl
  obtain ⟨hx, hb, hml, hown, hts, hr, hlocks⟩ := id X
  have hl : lv_has ls 3 [(0, .int v), (1, .int lo), (2, .int hi)] := hl
  refine lv_iload_n hx hb dX11_in_0 rfl (lv_at hl 0 rfl) ?_
  refine lv_iload_n hx hb dX11_in_1 rfl (lv_at hl 1 rfl) ?_
  refine lv_icmp_lt (tgt := 14) hx hb dX11_in_2 (by decide) (fun c_2 => ?_) (fun c_2 => ?_)
  · refine lv_iconst (v := 0) hx hb dX11_in_14 (by decide) ?_
    exact ro_zret X (by simp [inB, bI, c_2]) dX11_in_15
  · refine lv_iload_n hx hb dX11_in_5 rfl (lv_at hl 0 rfl) ?_
    refine lv_iload_n hx hb dX11_in_6 rfl (lv_at hl 2 rfl) ?_
    refine lv_icmp_gt (tgt := 14) hx hb dX11_in_7 (by decide) (fun c_7 => ?_) (fun c_7 => ?_)
    · refine lv_iconst (v := 0) hx hb dX11_in_14 (by decide) ?_
      exact ro_zret X (by simp [inB, bI, c_2, c_7]) dX11_in_15
    · refine lv_iconst (v := 1) hx hb dX11_in_10 (by decide) ?_
      refine lv_goto (tgt := 15) hx hb dX11_in_11 (by decide) ?_
      exact ro_zret X (by simp [inB, bI, c_2, c_7]) dX11_in_15

set_option maxHeartbeats 1000000 in
set_option maxRecDepth 100000 in
theorem c_X11_isLetter {l : Launch} {D : va_G} {cI cJ cW : ClassId} {y : Int32}  : RO l yX11_isLetter wsX11_isLetter { frames := 1, cells := 0, slots := 0, locals := 22 } D (ty3 cI cJ cW) [.int y] [] (.int (bI (isLe y))) := by
  refine ro_of (cc := cX11_isLetter) (maxL := 1) (ret := (some .boolean)) (by decide) rfl (Nat.le_of_ble_eq_true rfl) ?_
  intro pr en ss mi below meth cd X hP hK ls hl
  obtain ⟨hx, hb, hml, hown, hts, hr, hlocks⟩ := id X
  have hl : lv_has ls 1 [(0, .int y)] := hl
  refine lv_iload_n hx hb dX11_isLetter_0 rfl (lv_at hl 0 rfl) ?_
  refine lv_bipush (v := 65) hx hb dX11_isLetter_1 (by decide) ?_
  refine lv_bipush (v := 90) hx hb dX11_isLetter_3 (by decide) ?_
  refine ro_S (n := 3) X hK (c_X11_in) gX11_isLetter_X11_in rfl (by decide +kernel) ⟨rfl, rfl⟩ ⟨Nat.le_of_ble_eq_true rfl, Nat.le_of_ble_eq_true rfl⟩ (hP.sub [] rfl) rfl hl.1 rfl (Nat.le_of_ble_eq_true rfl) dX11_isLetter_5 ⟨Nat.zero_le _, Nat.zero_le _⟩ ?_
  refine lv_if_ne (tgt := 35) hx hb dX11_isLetter_8 (by decide) (fun c_8 => ?_) (fun c_8 => ?_)
  · replace c_8 := bI_n0.mp c_8
    refine lv_iconst (v := 1) hx hb dX11_isLetter_35 (by decide) ?_
    refine lv_goto (tgt := 40) hx hb dX11_isLetter_36 (by decide) ?_
    exact ro_zret X (by rw [isLe_in]; simp [bI, c_8]) dX11_isLetter_40
  · replace c_8 := bI_0.mp c_8
    refine lv_iload_n hx hb dX11_isLetter_11 rfl (lv_at hl 0 rfl) ?_
    refine lv_bipush (v := 97) hx hb dX11_isLetter_12 (by decide) ?_
    refine lv_bipush (v := 122) hx hb dX11_isLetter_14 (by decide) ?_
    refine ro_S (n := 3) X hK (c_X11_in) gX11_isLetter_X11_in rfl (by decide +kernel) ⟨rfl, rfl⟩ ⟨Nat.le_of_ble_eq_true rfl, Nat.le_of_ble_eq_true rfl⟩ (hP.sub [] rfl) rfl hl.1 rfl (Nat.le_of_ble_eq_true rfl) dX11_isLetter_16 ⟨Nat.zero_le _, Nat.zero_le _⟩ ?_
    refine lv_if_ne (tgt := 35) hx hb dX11_isLetter_19 (by decide) (fun c_19 => ?_) (fun c_19 => ?_)
    · replace c_19 := bI_n0.mp c_19
      refine lv_iconst (v := 1) hx hb dX11_isLetter_35 (by decide) ?_
      refine lv_goto (tgt := 40) hx hb dX11_isLetter_36 (by decide) ?_
      exact ro_zret X (by rw [isLe_in]; simp [bI, c_8, c_19]) dX11_isLetter_40
    · replace c_19 := bI_0.mp c_19
      refine lv_iload_n hx hb dX11_isLetter_22 rfl (lv_at hl 0 rfl) ?_
      refine lv_sipush (v := 128) hx hb dX11_isLetter_23 (by decide) ?_
      refine lv_sipush (v := 159) hx hb dX11_isLetter_26 (by decide) ?_
      refine ro_S (n := 3) X hK (c_X11_in) gX11_isLetter_X11_in rfl (by decide +kernel) ⟨rfl, rfl⟩ ⟨Nat.le_of_ble_eq_true rfl, Nat.le_of_ble_eq_true rfl⟩ (hP.sub [] rfl) rfl hl.1 rfl (Nat.le_of_ble_eq_true rfl) dX11_isLetter_29 ⟨Nat.zero_le _, Nat.zero_le _⟩ ?_
      refine lv_if_eq (tgt := 39) hx hb dX11_isLetter_32 (by decide) (fun c_32 => ?_) (fun c_32 => ?_)
      · replace c_32 := bI_0.mp c_32
        refine lv_iconst (v := 0) hx hb dX11_isLetter_39 (by decide) ?_
        exact ro_zret X (by rw [isLe_in]; simp [bI, c_8, c_19, c_32]) dX11_isLetter_40
      · replace c_32 := bI_n0.mp c_32
        refine lv_iconst (v := 1) hx hb dX11_isLetter_35 (by decide) ?_
        refine lv_goto (tgt := 40) hx hb dX11_isLetter_36 (by decide) ?_
        exact ro_zret X (by rw [isLe_in]; simp [bI, c_8, c_19, c_32]) dX11_isLetter_40

set_option maxHeartbeats 1000000 in
set_option maxRecDepth 100000 in
theorem c_X11_isDigit {l : Launch} {D : va_G} {cI cJ cW : ClassId} {y : Int32}  : RO l yX11_isDigit wsX11_isDigit { frames := 1, cells := 0, slots := 0, locals := 22 } D (ty3 cI cJ cW) [.int y] [] (.int (bI (isDi y))) := by
  refine ro_of (cc := cX11_isDigit) (maxL := 1) (ret := (some .boolean)) (by decide) rfl (Nat.le_of_ble_eq_true rfl) ?_
  intro pr en ss mi below meth cd X hP hK ls hl
  obtain ⟨hx, hb, hml, hown, hts, hr, hlocks⟩ := id X
  have hl : lv_has ls 1 [(0, .int y)] := hl
  refine lv_iload_n hx hb dX11_isDigit_0 rfl (lv_at hl 0 rfl) ?_
  refine lv_bipush (v := 48) hx hb dX11_isDigit_1 (by decide) ?_
  refine lv_bipush (v := 57) hx hb dX11_isDigit_3 (by decide) ?_
  refine ro_S (n := 3) X hK (c_X11_in) gX11_isDigit_X11_in rfl (by decide +kernel) ⟨rfl, rfl⟩ ⟨Nat.le_of_ble_eq_true rfl, Nat.le_of_ble_eq_true rfl⟩ (hP.sub [] rfl) rfl hl.1 rfl (Nat.le_of_ble_eq_true rfl) dX11_isDigit_5 ⟨Nat.zero_le _, Nat.zero_le _⟩ ?_
  exact ro_zret X (rfl) dX11_isDigit_8

set_option maxHeartbeats 1000000 in
set_option maxRecDepth 100000 in
theorem c_X11_isStop {l : Launch} {D : va_G} {cI cJ cW : ClassId} {y : Int32}  : RO l yX11_isStop wsX11_isStop { frames := 0, cells := 0, slots := 0, locals := 0 } D (ty3 cI cJ cW) [.int y] [] (.int (bI (isMk y))) := by
  refine ro_of (cc := cX11_isStop) (maxL := 1) (ret := (some .boolean)) (by decide) rfl (Nat.le_of_ble_eq_true rfl) ?_
  intro pr en ss mi below meth cd X hP hK ls hl
  obtain ⟨hx, hb, hml, hown, hts, hr, hlocks⟩ := id X
  have hl : lv_has ls 1 [(0, .int y)] := hl
  refine lv_iload_n hx hb dX11_isStop_0 rfl (lv_at hl 0 rfl) ?_
  refine lv_bipush (v := 46) hx hb dX11_isStop_1 (by decide) ?_
  refine lv_icmp_eq (tgt := 30) hx hb dX11_isStop_3 (by decide) (fun c_3 => ?_) (fun c_3 => ?_)
  · refine lv_iconst (v := 1) hx hb dX11_isStop_30 (by decide) ?_
    refine lv_goto (tgt := 35) hx hb dX11_isStop_31 (by decide) ?_
    exact ro_zret X (by simp [isMk, bI, c_3]) dX11_isStop_35
  · refine lv_iload_n hx hb dX11_isStop_6 rfl (lv_at hl 0 rfl) ?_
    refine lv_bipush (v := 44) hx hb dX11_isStop_7 (by decide) ?_
    refine lv_icmp_eq (tgt := 30) hx hb dX11_isStop_9 (by decide) (fun c_9 => ?_) (fun c_9 => ?_)
    · refine lv_iconst (v := 1) hx hb dX11_isStop_30 (by decide) ?_
      refine lv_goto (tgt := 35) hx hb dX11_isStop_31 (by decide) ?_
      exact ro_zret X (by simp [isMk, bI, c_3, c_9]) dX11_isStop_35
    · refine lv_iload_n hx hb dX11_isStop_12 rfl (lv_at hl 0 rfl) ?_
      refine lv_bipush (v := 59) hx hb dX11_isStop_13 (by decide) ?_
      refine lv_icmp_eq (tgt := 30) hx hb dX11_isStop_15 (by decide) (fun c_15 => ?_) (fun c_15 => ?_)
      · refine lv_iconst (v := 1) hx hb dX11_isStop_30 (by decide) ?_
        refine lv_goto (tgt := 35) hx hb dX11_isStop_31 (by decide) ?_
        exact ro_zret X (by simp [isMk, bI, c_3, c_9, c_15]) dX11_isStop_35
      · refine lv_iload_n hx hb dX11_isStop_18 rfl (lv_at hl 0 rfl) ?_
        refine lv_bipush (v := 33) hx hb dX11_isStop_19 (by decide) ?_
        refine lv_icmp_eq (tgt := 30) hx hb dX11_isStop_21 (by decide) (fun c_21 => ?_) (fun c_21 => ?_)
        · refine lv_iconst (v := 1) hx hb dX11_isStop_30 (by decide) ?_
          refine lv_goto (tgt := 35) hx hb dX11_isStop_31 (by decide) ?_
          exact ro_zret X (by simp [isMk, bI, c_3, c_9, c_15, c_21]) dX11_isStop_35
        · refine lv_iload_n hx hb dX11_isStop_24 rfl (lv_at hl 0 rfl) ?_
          refine lv_bipush (v := 63) hx hb dX11_isStop_25 (by decide) ?_
          refine lv_icmp_ne (tgt := 34) hx hb dX11_isStop_27 (by decide) (fun c_27 => ?_) (fun c_27 => ?_)
          · refine lv_iconst (v := 0) hx hb dX11_isStop_34 (by decide) ?_
            exact ro_zret X (by simp [isMk, bI, c_3, c_9, c_15, c_21, c_27]) dX11_isStop_35
          · refine lv_iconst (v := 1) hx hb dX11_isStop_30 (by decide) ?_
            refine lv_goto (tgt := 35) hx hb dX11_isStop_31 (by decide) ?_
            exact ro_zret X (by simp [isMk, bI, c_3, c_9, c_15, c_21, c_27]) dX11_isStop_35

set_option maxHeartbeats 1000000 in
set_option maxRecDepth 100000 in
theorem c_X11_isOther {l : Launch} {D : va_G} {cI cJ cW : ClassId} {y : Int32}  : RO l yX11_isOther wsX11_isOther { frames := 2, cells := 0, slots := 0, locals := 42 } D (ty3 cI cJ cW) [.int y] [] (.int (bI (!decide (y < 0) && isOt y))) := by
  refine ro_of (cc := cX11_isOther) (maxL := 1) (ret := (some .boolean)) (by decide) rfl (Nat.le_of_ble_eq_true rfl) ?_
  intro pr en ss mi below meth cd X hP hK ls hl
  obtain ⟨hx, hb, hml, hown, hts, hr, hlocks⟩ := id X
  have hl : lv_has ls 1 [(0, .int y)] := hl
  refine lv_iload_n hx hb dX11_isOther_0 rfl (lv_at hl 0 rfl) ?_
  refine lv_if_lt (tgt := 41) hx hb dX11_isOther_1 (by decide) (fun c_1 => ?_) (fun c_1 => ?_)
  · refine lv_iconst (v := 0) hx hb dX11_isOther_41 (by decide) ?_
    exact ro_zret X (by simp [isOt, bI, c_1]) dX11_isOther_42
  · refine lv_iload_n hx hb dX11_isOther_4 rfl (lv_at hl 0 rfl) ?_
    refine ro_S (n := 1) X hK (c_X11_isLetter) gX11_isOther_X11_isLetter rfl (by decide +kernel) ⟨rfl, rfl⟩ ⟨Nat.le_of_ble_eq_true rfl, Nat.le_of_ble_eq_true rfl⟩ (hP.sub [] rfl) rfl hl.1 rfl (Nat.le_of_ble_eq_true rfl) dX11_isOther_5 ⟨Nat.zero_le _, Nat.zero_le _⟩ ?_
    refine lv_if_ne (tgt := 41) hx hb dX11_isOther_8 (by decide) (fun c_8 => ?_) (fun c_8 => ?_)
    · replace c_8 := bI_n0.mp c_8
      refine lv_iconst (v := 0) hx hb dX11_isOther_41 (by decide) ?_
      exact ro_zret X (by simp [isOt, bI, c_1, c_8]) dX11_isOther_42
    · replace c_8 := bI_0.mp c_8
      refine lv_iload_n hx hb dX11_isOther_11 rfl (lv_at hl 0 rfl) ?_
      refine ro_S (n := 1) X hK (c_X11_isDigit) gX11_isOther_X11_isDigit rfl (by decide +kernel) ⟨rfl, rfl⟩ ⟨Nat.le_of_ble_eq_true rfl, Nat.le_of_ble_eq_true rfl⟩ (hP.sub [] rfl) rfl hl.1 rfl (Nat.le_of_ble_eq_true rfl) dX11_isOther_12 ⟨Nat.zero_le _, Nat.zero_le _⟩ ?_
      refine lv_if_ne (tgt := 41) hx hb dX11_isOther_15 (by decide) (fun c_15 => ?_) (fun c_15 => ?_)
      · replace c_15 := bI_n0.mp c_15
        refine lv_iconst (v := 0) hx hb dX11_isOther_41 (by decide) ?_
        exact ro_zret X (by simp [isOt, bI, c_1, c_8, c_15]) dX11_isOther_42
      · replace c_15 := bI_0.mp c_15
        refine lv_iload_n hx hb dX11_isOther_18 rfl (lv_at hl 0 rfl) ?_
        refine lv_bipush (v := 32) hx hb dX11_isOther_19 (by decide) ?_
        refine lv_icmp_eq (tgt := 41) hx hb dX11_isOther_21 (by decide) (fun c_21 => ?_) (fun c_21 => ?_)
        · refine lv_iconst (v := 0) hx hb dX11_isOther_41 (by decide) ?_
          exact ro_zret X (by simp [isOt, bI, c_1, c_8, c_15, c_21]) dX11_isOther_42
        · refine lv_iload_n hx hb dX11_isOther_24 rfl (lv_at hl 0 rfl) ?_
          refine lv_bipush (v := 34) hx hb dX11_isOther_25 (by decide) ?_
          refine lv_icmp_eq (tgt := 41) hx hb dX11_isOther_27 (by decide) (fun c_27 => ?_) (fun c_27 => ?_)
          · refine lv_iconst (v := 0) hx hb dX11_isOther_41 (by decide) ?_
            exact ro_zret X (by simp [isOt, bI, c_1, c_8, c_15, c_21, c_27]) dX11_isOther_42
          · refine lv_iload_n hx hb dX11_isOther_30 rfl (lv_at hl 0 rfl) ?_
            refine ro_S (n := 1) X hK (c_X11_isStop) gX11_isOther_X11_isStop rfl (by decide +kernel) ⟨rfl, rfl⟩ ⟨Nat.le_of_ble_eq_true rfl, Nat.le_of_ble_eq_true rfl⟩ (hP.sub [] rfl) rfl hl.1 rfl (Nat.le_of_ble_eq_true rfl) dX11_isOther_31 ⟨Nat.zero_le _, Nat.zero_le _⟩ ?_
            refine lv_if_ne (tgt := 41) hx hb dX11_isOther_34 (by decide) (fun c_34 => ?_) (fun c_34 => ?_)
            · replace c_34 := bI_n0.mp c_34
              refine lv_iconst (v := 0) hx hb dX11_isOther_41 (by decide) ?_
              exact ro_zret X (by simp [isOt, bI, c_1, c_8, c_15, c_21, c_27, c_34]) dX11_isOther_42
            · replace c_34 := bI_0.mp c_34
              refine lv_iconst (v := 1) hx hb dX11_isOther_37 (by decide) ?_
              refine lv_goto (tgt := 42) hx hb dX11_isOther_38 (by decide) ?_
              exact ro_zret X (by simp [isOt, bI, c_1, c_8, c_15, c_21, c_27, c_34]) dX11_isOther_42

set_option maxHeartbeats 1000000 in
set_option maxRecDepth 100000 in
theorem c_X11_folded {l : Launch} {D : va_G} {cI cJ cW : ClassId} {m : Nat} {a : Nat → Nat} {ct dn nw nj n tn tc mm : Nat} {τ : TS} {fu am pb : Int32} {fo : Nat → Int32} {y : Int32} (hle : isLe y = true) : RO l yX11_folded wsX11_folded { frames := 1, cells := 0, slots := 0, locals := 22 } D (ty3 cI cJ cW) [.ref m, .int y] [(m, .inr (11, [.int (nI ct), .ref (a 1), .ref (a 2), .int (nI dn), .int (nI nw), .int (nI nj), .ref (a 6), .ref (a 7), .ref (a 8), .ref (a 9), .ref (a 10), .ref (a 11), .ref (a 12), .ref (a 13), .ref (a 14), .ref (a 15), .int (nI n), .int (nI tn), .ref (a 18), .ref (a 19), .ref (a 20), .ref (a 21), .ref (a 22), .ref (a 23), .ref (a 24), .ref (a 25), .int (nI τ.1), .int (τ.2.1), .ref (a 28), .int (nI tc), .int (nI mm), .ref (a 31), .ref (a 32), .ref (a 33), .int (fu), .int (am), .int (pb)])), ((a 1), .inl (cI, 32, .inl fo))] (.int (foC fo y)) := by
  refine ro_of (cc := cX11_folded) (maxL := 2) (ret := (some .int)) (by decide) rfl (Nat.le_of_ble_eq_true rfl) ?_
  intro pr en ss mi below meth cd X hP hK ls hl
  obtain ⟨hx, hb, hml, hown, hts, hr, hlocks⟩ := id X
  have fl_7 := hts (.fieldLink RX11 7 "WordTablesModel" "folds" "[I") (by decide +kernel)
  have in_X11 : ∀ w ∈ wsX110, w ∈ wsX11_folded := by decide +kernel
  have hl : lv_has ls 2 [(0, .ref m), (1, .int y)] := hl
  refine lv_iload_n hx hb dX11_folded_0 rfl (lv_at hl 1 rfl) ?_
  refine lv_bipush (v := 65) hx hb dX11_folded_1 (by decide) ?_
  refine lv_bipush (v := 90) hx hb dX11_folded_3 (by decide) ?_
  refine ro_S (n := 3) X hK (c_X11_in) gX11_folded_X11_in rfl (by decide +kernel) ⟨rfl, rfl⟩ ⟨Nat.le_of_ble_eq_true rfl, Nat.le_of_ble_eq_true rfl⟩ (hP.sub [] rfl) rfl hl.1 rfl (Nat.le_of_ble_eq_true rfl) dX11_folded_5 ⟨Nat.zero_le _, Nat.zero_le _⟩ ?_
  refine lv_if_eq (tgt := 18) hx hb dX11_folded_8 (by decide) (fun c_8 => ?_) (fun c_8 => ?_)
  · replace c_8 := bI_0.mp c_8
    obtain ⟨j, rfl, hjc⟩ := le_cases hle
    have h65 : ¬ (65 ≤ j ∧ j ≤ 90) := fun q => by
      have h1 : ¬ nI j < 65 := fun h => by have := (nI_ltI (a := j) (b := 65) (by omega) (by decide)).mp h; omega
      have h2 : ¬ (90 : Int32) < nI j := fun h => by have := (nI_ltI (a := 90) (b := j) (by decide) (by omega)).mp h; omega
      simp [inB, h1, h2] at c_8
    refine lv_iload_n hx hb dX11_folded_18 rfl (lv_at hl 1 rfl) ?_
    refine lv_bipush (v := 127) hx hb dX11_folded_19 (by decide) ?_
    refine lv_icmp_le (tgt := 37) hx hb dX11_folded_21 (by decide) (fun c_21 => ?_) (fun c_21 => ?_)
    · have h127 := leL (a := j) (b := 127) c_21
      refine lv_iload_n hx hb dX11_folded_37 rfl (lv_at hl 1 rfl) ?_
      exact ro_iret X (by first | exact (foC_lo (by omega) h127).symm | exact hfh.1.symm) dX11_folded_38
    · have h127 : 128 ≤ j := by have := leN (a := j) (b := 127) c_21; omega
      have hfh := foC_hi (fo := fo) h127 (show j ≤ 159 by omega)
      refine lv_aload_n hx hb dX11_folded_24 rfl (lv_at hl 0 rfl) ?_
      refine va_get (D := D) (ci := 11) (C := RX11) (T := TX11) (N := 37) hx hb hts in_X11 hown hK hP 0 rfl rfl 1 (by decide) fl_7 (fun _ h9 => h9) rfl dX11_folded_25 ?_
      refine lv_iload_n hx hb dX11_folded_28 rfl (lv_at hl 1 rfl) ?_
      refine lv_sipush (v := 128) hx hb dX11_folded_29 (by decide) ?_
      refine lv_isub hx hb dX11_folded_32 ?_
      refine topi_eq hfh.2 ?_
      refine ald_n hx hb hK hP 1 0 rfl rfl (show j - 128 < 32 by omega) (by first | decide | omega) dX11_folded_33 ?_
      refine lv_goto (tgt := 38) hx hb dX11_folded_34 (by decide) ?_
      exact ro_iret X (by first | exact (foC_lo (by omega) h127).symm | exact hfh.1.symm) dX11_folded_38
  · replace c_8 := bI_n0.mp c_8
    obtain ⟨j, h65, h90, rfl⟩ := inB_of 65 90 c_8 (by decide) (by decide)
    refine lv_iload_n hx hb dX11_folded_11 rfl (lv_at hl 1 rfl) ?_
    refine lv_bipush (v := 32) hx hb dX11_folded_12 (by decide) ?_
    refine lv_iadd hx hb dX11_folded_14 ?_
    refine lv_goto (tgt := 38) hx hb dX11_folded_15 (by decide) ?_
    exact ro_iret X (by rw [foC_up h65 h90]) dX11_folded_38

set_option maxHeartbeats 1000000 in
set_option maxRecDepth 100000 in
theorem c_X11_isWord {l : Launch} {D : va_G} {cI cJ cW : ClassId} {m : Nat} {a : Nat → Nat} {ct dn nw nj n tn tc mm : Nat} {τ : TS} {fu am pb : Int32} {y : Int32} (hnw : nw ≤ 40) : RO l yX11_isWord wsX11_isWord { frames := 1, cells := 0, slots := 0, locals := 22 } D (ty3 cI cJ cW) [.ref m, .int y] [(m, .inr (11, [.int (nI ct), .ref (a 1), .ref (a 2), .int (nI dn), .int (nI nw), .int (nI nj), .ref (a 6), .ref (a 7), .ref (a 8), .ref (a 9), .ref (a 10), .ref (a 11), .ref (a 12), .ref (a 13), .ref (a 14), .ref (a 15), .int (nI n), .int (nI tn), .ref (a 18), .ref (a 19), .ref (a 20), .ref (a 21), .ref (a 22), .ref (a 23), .ref (a 24), .ref (a 25), .int (nI τ.1), .int (τ.2.1), .ref (a 28), .int (nI tc), .int (nI mm), .ref (a 31), .ref (a 32), .ref (a 33), .int (fu), .int (am), .int (pb)]))] (.int (bI (ixO nw y).isSome)) := by
  refine ro_of (cc := cX11_isWord) (maxL := 2) (ret := (some .boolean)) (by decide) rfl (Nat.le_of_ble_eq_true rfl) ?_
  intro pr en ss mi below meth cd X hP hK ls hl
  obtain ⟨hx, hb, hml, hown, hts, hr, hlocks⟩ := id X
  have fl_90 := hts (.fieldLink RX11 90 "WordTablesModel" "words" "I") (by decide +kernel)
  have in_X11 : ∀ w ∈ wsX110, w ∈ wsX11_isWord := by decide +kernel
  have hl : lv_has ls 2 [(0, .ref m), (1, .int y)] := hl
  refine lv_iload_n hx hb dX11_isWord_0 rfl (lv_at hl 1 rfl) ?_
  refine lv_iconst (v := 0) hx hb dX11_isWord_1 (by decide) ?_
  refine lv_aload_n hx hb dX11_isWord_2 rfl (lv_at hl 0 rfl) ?_
  refine va_get (D := D) (ci := 11) (C := RX11) (T := TX11) (N := 37) hx hb hts in_X11 hown hK hP 0 rfl rfl 4 (by decide) fl_90 (fun _ h9 => h9) rfl dX11_isWord_3 ?_
  refine lv_iconst (v := 1) hx hb dX11_isWord_6 (by decide) ?_
  refine lv_isub hx hb dX11_isWord_7 ?_
  refine ro_S (n := 3) X hK (c_X11_in) gX11_isWord_X11_in rfl (by decide +kernel) ⟨rfl, rfl⟩ ⟨Nat.le_of_ble_eq_true rfl, Nat.le_of_ble_eq_true rfl⟩ (hP.sub [] rfl) rfl hl.1 rfl (Nat.le_of_ble_eq_true rfl) dX11_isWord_8 ⟨Nat.zero_le _, Nat.zero_le _⟩ ?_
  exact ro_zret X (by rw [isW (by omega)]) dX11_isWord_11

set_option maxHeartbeats 1000000 in
set_option maxRecDepth 100000 in
theorem c_X11_isToken {l : Launch} {D : va_G} {cI cJ cW : ClassId} {m : Nat} {a : Nat → Nat} {ct dn nw nj n tn tc mm : Nat} {τ : TS} {fu am pb : Int32} {y : Int32} (htn : tn ≤ 24) : RO l yX11_isToken wsX11_isToken { frames := 1, cells := 0, slots := 0, locals := 22 } D (ty3 cI cJ cW) [.ref m, .int y] [(m, .inr (11, [.int (nI ct), .ref (a 1), .ref (a 2), .int (nI dn), .int (nI nw), .int (nI nj), .ref (a 6), .ref (a 7), .ref (a 8), .ref (a 9), .ref (a 10), .ref (a 11), .ref (a 12), .ref (a 13), .ref (a 14), .ref (a 15), .int (nI n), .int (nI tn), .ref (a 18), .ref (a 19), .ref (a 20), .ref (a 21), .ref (a 22), .ref (a 23), .ref (a 24), .ref (a 25), .int (nI τ.1), .int (τ.2.1), .ref (a 28), .int (nI tc), .int (nI mm), .ref (a 31), .ref (a 32), .ref (a 33), .int (fu), .int (am), .int (pb)]))] (.int (bI (ixO tn y).isSome)) := by
  refine ro_of (cc := cX11_isToken) (maxL := 2) (ret := (some .boolean)) (by decide) rfl (Nat.le_of_ble_eq_true rfl) ?_
  intro pr en ss mi below meth cd X hP hK ls hl
  obtain ⟨hx, hb, hml, hown, hts, hr, hlocks⟩ := id X
  have fl_170 := hts (.fieldLink RX11 170 "WordTablesModel" "tokens" "I") (by decide +kernel)
  have in_X11 : ∀ w ∈ wsX110, w ∈ wsX11_isToken := by decide +kernel
  have hl : lv_has ls 2 [(0, .ref m), (1, .int y)] := hl
  refine lv_iload_n hx hb dX11_isToken_0 rfl (lv_at hl 1 rfl) ?_
  refine lv_iconst (v := 0) hx hb dX11_isToken_1 (by decide) ?_
  refine lv_aload_n hx hb dX11_isToken_2 rfl (lv_at hl 0 rfl) ?_
  refine va_get (D := D) (ci := 11) (C := RX11) (T := TX11) (N := 37) hx hb hts in_X11 hown hK hP 0 rfl rfl 17 (by decide) fl_170 (fun _ h9 => h9) rfl dX11_isToken_3 ?_
  refine lv_iconst (v := 1) hx hb dX11_isToken_6 (by decide) ?_
  refine lv_isub hx hb dX11_isToken_7 ?_
  refine ro_S (n := 3) X hK (c_X11_in) gX11_isToken_X11_in rfl (by decide +kernel) ⟨rfl, rfl⟩ ⟨Nat.le_of_ble_eq_true rfl, Nat.le_of_ble_eq_true rfl⟩ (hP.sub [] rfl) rfl hl.1 rfl (Nat.le_of_ble_eq_true rfl) dX11_isToken_8 ⟨Nat.zero_le _, Nat.zero_le _⟩ ?_
  exact ro_zret X (by rw [isW (by omega)]) dX11_isToken_11

set_option maxHeartbeats 1000000 in
set_option maxRecDepth 100000 in
theorem c_X11_isKind {l : Launch} {D : va_G} {cI cJ cW : ClassId} {m : Nat} {a : Nat → Nat} {ct dn nw nj n tn tc mm : Nat} {τ : TS} {fu am pb : Int32} {F : Nat → Nat → Int32} {j : Nat} {y : Int32} (hj : j < 40) : RO l yX11_isKind wsX11_isKind { frames := 0, cells := 0, slots := 0, locals := 0 } D (ty3 cI cJ cW) [.ref m, .int (nI j), .int y] [(m, .inr (11, [.int (nI ct), .ref (a 1), .ref (a 2), .int (nI dn), .int (nI nw), .int (nI nj), .ref (a 6), .ref (a 7), .ref (a 8), .ref (a 9), .ref (a 10), .ref (a 11), .ref (a 12), .ref (a 13), .ref (a 14), .ref (a 15), .int (nI n), .int (nI tn), .ref (a 18), .ref (a 19), .ref (a 20), .ref (a 21), .ref (a 22), .ref (a 23), .ref (a 24), .ref (a 25), .int (nI τ.1), .int (τ.2.1), .ref (a 28), .int (nI tc), .int (nI mm), .ref (a 31), .ref (a 32), .ref (a 33), .int (fu), .int (am), .int (pb)])), ((a 9), .inl (cI, 40, .inl (F 9)))] (.int (bI (kdB (F 9 j) y))) := by
  refine ro_of (cc := cX11_isKind) (maxL := 3) (ret := (some .boolean)) (by decide) rfl (Nat.le_of_ble_eq_true rfl) ?_
  intro pr en ss mi below meth cd X hP hK ls hl
  obtain ⟨hx, hb, hml, hown, hts, hr, hlocks⟩ := id X
  have fl_25 := hts (.fieldLink RX11 25 "WordTablesModel" "kinds" "[I") (by decide +kernel)
  have in_X11 : ∀ w ∈ wsX110, w ∈ wsX11_isKind := by decide +kernel
  have hl : lv_has ls 3 [(0, .ref m), (1, .int (nI j)), (2, .int y)] := hl
  refine lv_aload_n hx hb dX11_isKind_0 rfl (lv_at hl 0 rfl) ?_
  refine va_get (D := D) (ci := 11) (C := RX11) (T := TX11) (N := 37) hx hb hts in_X11 hown hK hP 0 rfl rfl 9 (by decide) fl_25 (fun _ h9 => h9) rfl dX11_isKind_1 ?_
  refine lv_iload_n hx hb dX11_isKind_4 rfl (lv_at hl 1 rfl) ?_
  refine ald_n hx hb hK hP 1 0 rfl rfl hj (by first | decide | omega) dX11_isKind_5 ?_
  refine lv_iload_n hx hb dX11_isKind_6 rfl (lv_at hl 2 rfl) ?_
  refine lv_ishr hx hb dX11_isKind_7 ?_
  refine lv_iconst (v := 1) hx hb dX11_isKind_8 (by decide) ?_
  refine lv_iand hx hb dX11_isKind_9 ?_
  refine lv_iconst (v := 1) hx hb dX11_isKind_10 (by decide) ?_
  refine lv_icmp_ne (tgt := 18) hx hb dX11_isKind_11 (by decide) (fun c_11 => ?_) (fun c_11 => ?_)
  · refine lv_iconst (v := 0) hx hb dX11_isKind_18 (by decide) ?_
    exact ro_zret X (by simp [kdB, bI, c_11]) dX11_isKind_19
  · refine lv_iconst (v := 1) hx hb dX11_isKind_14 (by decide) ?_
    refine lv_goto (tgt := 19) hx hb dX11_isKind_15 (by decide) ?_
    exact ro_zret X (by simp [kdB, bI, c_11]) dX11_isKind_19

set_option maxHeartbeats 1000000 in
set_option maxRecDepth 100000 in
theorem c_X11_byteAt {l : Launch} {D : va_G} {cI cJ cW : ClassId} {m : Nat} {a : Nat → Nat} {ct dn nw nj n tn tc mm : Nat} {τ : TS} {fu am pb : Int32} {L : Nat → Int32} {k : Nat} (hn : n ≤ 80) (hk : k < 2 ^ 31) : RO l yX11_byteAt wsX11_byteAt { frames := 0, cells := 0, slots := 0, locals := 0 } D (ty3 cI cJ cW) [.ref m, .int (nI k)] [(m, .inr (11, [.int (nI ct), .ref (a 1), .ref (a 2), .int (nI dn), .int (nI nw), .int (nI nj), .ref (a 6), .ref (a 7), .ref (a 8), .ref (a 9), .ref (a 10), .ref (a 11), .ref (a 12), .ref (a 13), .ref (a 14), .ref (a 15), .int (nI n), .int (nI tn), .ref (a 18), .ref (a 19), .ref (a 20), .ref (a 21), .ref (a 22), .ref (a 23), .ref (a 24), .ref (a 25), .int (nI τ.1), .int (τ.2.1), .ref (a 28), .int (nI tc), .int (nI mm), .ref (a 31), .ref (a 32), .ref (a 33), .int (fu), .int (am), .int (pb)])), ((a 15), .inl (cI, 80, .inl L))] (.int (bt n L k)) := by
  refine ro_of (cc := cX11_byteAt) (maxL := 2) (ret := (some .int)) (by decide) rfl (Nat.le_of_ble_eq_true rfl) ?_
  intro pr en ss mi below meth cd X hP hK ls hl
  obtain ⟨hx, hb, hml, hown, hts, hr, hlocks⟩ := id X
  have fl_126 := hts (.fieldLink RX11 126 "WordTablesModel" "lined" "I") (by decide +kernel)
  have fl_43 := hts (.fieldLink RX11 43 "WordTablesModel" "line" "[I") (by decide +kernel)
  have in_X11 : ∀ w ∈ wsX110, w ∈ wsX11_byteAt := by decide +kernel
  have hl : lv_has ls 2 [(0, .ref m), (1, .int (nI k))] := hl
  refine lv_iload_n hx hb dX11_byteAt_0 rfl (lv_at hl 1 rfl) ?_
  refine lv_aload_n hx hb dX11_byteAt_1 rfl (lv_at hl 0 rfl) ?_
  refine va_get (D := D) (ci := 11) (C := RX11) (T := TX11) (N := 37) hx hb hts in_X11 hown hK hP 0 rfl rfl 16 (by decide) fl_126 (fun _ h9 => h9) rfl dX11_byteAt_2 ?_
  refine lv_icmp_ge (tgt := 17) hx hb dX11_byteAt_5 (by decide) (fun c_5 => ?_) (fun c_5 => ?_)
  · have hge := leL (a := n) (b := k) c_5
    refine lv_iconst (v := -1) hx hb dX11_byteAt_17 (by decide) ?_
    exact ro_iret X (by rw [bt, if_neg (by omega)]) dX11_byteAt_18
  · have hlt : k < n := leN (a := n) (b := k) c_5
    refine lv_aload_n hx hb dX11_byteAt_8 rfl (lv_at hl 0 rfl) ?_
    refine va_get (D := D) (ci := 11) (C := RX11) (T := TX11) (N := 37) hx hb hts in_X11 hown hK hP 0 rfl rfl 15 (by decide) fl_43 (fun _ h9 => h9) rfl dX11_byteAt_9 ?_
    refine lv_iload_n hx hb dX11_byteAt_12 rfl (lv_at hl 1 rfl) ?_
    refine ald_n hx hb hK hP 1 0 rfl rfl (show k < 80 by omega) (by first | decide | omega) dX11_byteAt_13 ?_
    refine lv_goto (tgt := 18) hx hb dX11_byteAt_14 (by decide) ?_
    exact ro_iret X (by rw [bt, if_pos hlt]) dX11_byteAt_18

theorem likeB_c {ct np nq : Nat} {fo : Int32 → Int32} {p q : Nat → Int32} : likeB ct fo p np q nq = likeB ct fo q nq p np := by
  by_cases h : min np ct = min nq ct
  · simp only [likeB, h, decide_true, Bool.true_and]
    congr 1; funext k; exact decide_eq_decide.mpr ⟨Eq.symm, Eq.symm⟩
  · rw [likeB_f1 h, likeB_f1 (fun e => h e.symm)]

set_option maxHeartbeats 1000000 in
set_option maxRecDepth 100000 in
theorem c_X11_isLike {l : Launch} {D : va_G} {cI cJ cW : ClassId} {m : Nat} {a : Nat → Nat} {ct dn nw nj n tn tc mm : Nat} {τ : TS} {fu am pb : Int32} {F : Nat → Nat → Int32} {fo rf q : Nat → Int32} {r rN fr mn wd sw : Nat} (hct : ct < 2 ^ 30) (hrN : rN ≤ 960) (hfl : fr + mn ≤ rN) (hw : wd < 48) (hsz : F 7 wd = nI sw) (hsw : sw ≤ 20) (hq : ∀ k, k < sw → F 6 (20 * wd + k) = q k ∧ isLe (q k) = true) (hrl : ∀ k, k < mn → isLe (rf (fr + k)) = true) : RO l yX11_isLike wsX11_isLike { frames := 2, cells := 0, slots := 0, locals := 43 } D (ty3 cI cJ cW) [.ref m, .ref r, .int (nI fr), .int (nI mn), .int (nI wd)] [(m, .inr (11, [.int (nI ct), .ref (a 1), .ref (a 2), .int (nI dn), .int (nI nw), .int (nI nj), .ref (a 6), .ref (a 7), .ref (a 8), .ref (a 9), .ref (a 10), .ref (a 11), .ref (a 12), .ref (a 13), .ref (a 14), .ref (a 15), .int (nI n), .int (nI tn), .ref (a 18), .ref (a 19), .ref (a 20), .ref (a 21), .ref (a 22), .ref (a 23), .ref (a 24), .ref (a 25), .int (nI τ.1), .int (τ.2.1), .ref (a 28), .int (nI tc), .int (nI mm), .ref (a 31), .ref (a 32), .ref (a 33), .int (fu), .int (am), .int (pb)])), ((a 1), .inl (cI, 32, .inl fo)), ((a 6), .inl (cI, 960, .inl (F 6))), ((a 7), .inl (cI, 48, .inl (F 7))), (r, .inl (cI, rN, .inl rf))] (.int (bI (likeB ct (foC fo) q sw (fun k => rf (fr + k)) mn))) := by
  refine ro_of (cc := cX11_isLike) (maxL := 9) (ret := (some .boolean)) (by decide) rfl (Nat.le_of_ble_eq_true rfl) ?_
  intro pr en ss mi below meth cd X hP hK ls hl
  obtain ⟨hx, hb, hml, hown, hts, hr, hlocks⟩ := id X
  have fl_16 := hts (.fieldLink RX11 16 "WordTablesModel" "letter" "[I") (by decide +kernel)
  have fl_19 := hts (.fieldLink RX11 19 "WordTablesModel" "size" "[I") (by decide +kernel)
  have fl_82 := hts (.fieldLink RX11 82 "WordTablesModel" "cut" "I") (by decide +kernel)
  have in_X11 : ∀ w ∈ wsX110, w ∈ wsX11_isLike := by decide +kernel
  have hl : lv_has ls 9 [(0, .ref m), (1, .ref r), (2, .int (nI fr)), (3, .int (nI mn)), (4, .int (nI wd))] := hl
  refine lv_iload_n hx hb dX11_isLike_0 rfl (lv_at hl 3 rfl) ?_
  refine lv_aload_n hx hb dX11_isLike_1 rfl (lv_at hl 0 rfl) ?_
  refine va_get (D := D) (ci := 11) (C := RX11) (T := TX11) (N := 37) hx hb hts in_X11 hown hK hP 0 rfl rfl 0 (by decide) fl_82 (fun _ h9 => h9) rfl dX11_isLike_2 ?_
  refine lv_icmp_ge (tgt := 12) hx hb dX11_isLike_5 (by decide) (fun c_5 => ?_) (fun c_5 => ?_)
  · refine lv_aload_n hx hb dX11_isLike_12 rfl (lv_at hl 0 rfl) ?_
    refine va_get (D := D) (ci := 11) (C := RX11) (T := TX11) (N := 37) hx hb hts in_X11 hown hK hP 0 rfl rfl 0 (by decide) fl_82 (fun _ h9 => h9) rfl dX11_isLike_13 ?_
    refine topi_eq (y := nI (min mn ct)) (by first | (rw [Nat.min_eq_left (Nat.le_of_lt (leN (a := ct) (b := mn) c_5))]) | (rw [Nat.min_eq_right (leL (a := ct) (b := mn) c_5)])) ?_
    refine lv_istore (lv' := [(5, _), (0, _), (1, _), (2, _), (3, _), (4, _)]) hx hb dX11_isLike_16 hl (by decide) rfl (fun ls hl => ?_)
    refine lv_aload_n hx hb dX11_isLike_18 rfl (lv_at hl 1 rfl) ?_
    refine va_get (D := D) (ci := 11) (C := RX11) (T := TX11) (N := 37) hx hb hts in_X11 hown hK hP 0 rfl rfl 7 (by decide) fl_19 (fun _ h9 => h9) rfl dX11_isLike_19 ?_
    refine lv_iload hx hb dX11_isLike_22 (lv_at hl 5 rfl) ?_
    refine ald_n hx hb hK hP 3 0 rfl rfl (show wd < 48 from hw) (by first | decide | omega) dX11_isLike_24 ?_
    refine topi_eq hsz ?_
    refine lv_aload_n hx hb dX11_isLike_25 rfl (lv_at hl 1 rfl) ?_
    refine va_get (D := D) (ci := 11) (C := RX11) (T := TX11) (N := 37) hx hb hts in_X11 hown hK hP 0 rfl rfl 0 (by decide) fl_82 (fun _ h9 => h9) rfl dX11_isLike_26 ?_
    refine lv_icmp_ge (tgt := 42) hx hb dX11_isLike_29 (by decide) (fun c_29 => ?_) (fun c_29 => ?_)
    · refine lv_aload_n hx hb dX11_isLike_42 rfl (lv_at hl 1 rfl) ?_
      refine va_get (D := D) (ci := 11) (C := RX11) (T := TX11) (N := 37) hx hb hts in_X11 hown hK hP 0 rfl rfl 0 (by decide) fl_82 (fun _ h9 => h9) rfl dX11_isLike_43 ?_
      refine topi_eq (y := nI (min sw ct)) (by first | (rw [Nat.min_eq_left (Nat.le_of_lt (leN (a := ct) (b := sw) c_29))]) | (rw [Nat.min_eq_right (leL (a := ct) (b := sw) c_29)])) ?_
      refine lv_istore (lv' := [(6, _), (5, _), (0, _), (1, _), (2, _), (3, _), (4, _)]) hx hb dX11_isLike_46 hl (by decide) rfl (fun ls hl => ?_)
      refine lv_iload hx hb dX11_isLike_48 (lv_at hl 1 rfl) ?_
      refine lv_iload hx hb dX11_isLike_50 (lv_at hl 0 rfl) ?_
      refine lv_icmp_ne (tgt := 59) hx hb dX11_isLike_52 (by decide) (fun c_52 => ?_) (fun c_52 => ?_)
      · have he : ¬ (min mn ct) = (min sw ct) := fun e => c_52 (by rw [e])
        refine lv_iconst (v := 0) hx hb dX11_isLike_59 (by decide) ?_
        refine lv_istore (lv' := [(7, _), (6, _), (5, _), (0, _), (1, _), (2, _), (3, _), (4, _)]) hx hb dX11_isLike_60 hl (by decide) rfl (fun ls hl => ?_)
        refine lv_iconst (v := 0) hx hb dX11_isLike_62 (by decide) ?_
        refine lv_istore (lv' := [(8, _), (7, _), (6, _), (5, _), (0, _), (1, _), (2, _), (3, _), (4, _)]) hx hb dX11_isLike_63 hl (by decide) rfl (fun ls hl => ?_)
        have loop_65 : ∀ (fuel : Nat) (k : Nat) (isq : Bool), (min mn ct) - k < fuel → k ≤ (min mn ct) → ((isq = true → (min mn ct) = (min sw ct) ∧ ∀ i, i < k → foC fo (rf (fr + i)) = foC fo (q i)) ∧ (isq = false → likeB ct (foC fo) q sw (fun k => rf (fr + k)) mn = false)) → ∀ ls : Array Slot, lv_has ls 9 [(0, .ref m), (1, .ref r), (2, .int (nI fr)), (3, .int (nI mn)), (4, .int (nI wd)), (5, .int (nI (min mn ct))), (6, .int (nI (min sw ct))), (7, .int (bI isq)), (8, .int (nI k))] → W pr l en { frames := 2, cells := 0, slots := 0, locals := 43 } ss mi ([.ref m, .ref r, .int (nI fr), .int (nI mn), .int (nI wd)] : List Value).toArray below meth cd ss.heap [] 0 0 (MQ below (k2_QcV (.int (bI (likeB ct (foC fo) q sw (fun k => rf (fr + k)) mn)))) ([.ref m, .ref r, .int (nI fr), .int (nI mn), .int (nI wd)] : List Value).toArray ss 0 0 (fun _ => False)) (F0 mi 65 ls []) := by
          intro fuel
          induction fuel with
          | zero => intro k isq hm; exact absurd hm (Nat.not_lt_zero _)
          | succ fuel ih =>
            intro k isq hm hk hr  ls hl
            refine lv_iload hx hb dX11_isLike_65 (lv_at hl 8 rfl) ?_
            refine lv_iload hx hb dX11_isLike_67 (lv_at hl 5 rfl) ?_
            refine lv_icmp_ge (tgt := 120) hx hb dX11_isLike_69 (by decide) (fun c_69 => ?_) (fun c_69 => ?_)
            · have hfin : isq = likeB ct (foC fo) q sw (fun k => rf (fr + k)) mn := by
                cases isq
                · exact (hr.2 rfl).symm
                · obtain ⟨he1, ha⟩ := hr.1 rfl
                  first
                  | exact absurd c_74 (by decide)
                  | (have hkm : k = (min mn ct) := eq_ge c_69 hk (by omega); rw [likeB_t he1.symm (fun i hi => (ha i (by omega)).symm)])
              refine lv_iload hx hb dX11_isLike_120 (lv_at hl 7 rfl) ?_
              exact ro_zret X (by rw [hfin]) dX11_isLike_122
            · refine lv_iload hx hb dX11_isLike_72 (lv_at hl 7 rfl) ?_
              refine lv_if_eq (tgt := 120) hx hb dX11_isLike_74 (by decide) (fun c_74 => ?_) (fun c_74 => ?_)
              · replace c_74 := bI_0.mp c_74
                have hfin : isq = likeB ct (foC fo) q sw (fun k => rf (fr + k)) mn := by
                  cases isq
                  · exact (hr.2 rfl).symm
                  · obtain ⟨he1, ha⟩ := hr.1 rfl
                    first
                    | exact absurd c_74 (by decide)
                    | (have hkm : k = (min mn ct) := eq_ge c_69 hk (by omega); rw [likeB_t he1.symm (fun i hi => (ha i (by omega)).symm)])
                refine lv_iload hx hb dX11_isLike_120 (lv_at hl 7 rfl) ?_
                exact ro_zret X (by rw [hfin]) dX11_isLike_122
              · replace c_74 := bI_n0.mp c_74
                have hlt : k < (min mn ct) := lt_nge c_69 hk (by omega)
                obtain ⟨he1, ha⟩ := hr.1 c_74
                refine lv_aload_n hx hb dX11_isLike_77 rfl (lv_at hl 0 rfl) ?_
                refine lv_aload_n hx hb dX11_isLike_78 rfl (lv_at hl 1 rfl) ?_
                refine lv_iload_n hx hb dX11_isLike_79 rfl (lv_at hl 2 rfl) ?_
                refine lv_iload hx hb dX11_isLike_80 (lv_at hl 8 rfl) ?_
                refine lv_iadd hx hb dX11_isLike_82 ?_
                refine topi_eq (nI_add fr k) ?_
                refine ald_n hx hb hK hP 4 0 rfl rfl (show fr + k < rN by omega) (by first | decide | omega) dX11_isLike_83 ?_
                refine ro_V (n := 1) X hK (c_X11_folded (hrl k (by omega))) gX11_isLike_X11_folded rfl (by decide +kernel) ⟨rfl, rfl⟩ ⟨Nat.le_of_ble_eq_true rfl, Nat.le_of_ble_eq_true rfl⟩ (hP.sub [0, 1] rfl) (va_recv hK hP (ci := 11) (q0 := 0) rfl rfl) rfl hl.1 rfl (Nat.le_of_ble_eq_true rfl) dX11_isLike_84 ⟨Nat.zero_le _, Nat.zero_le _⟩ ?_
                refine lv_aload_n hx hb dX11_isLike_87 rfl (lv_at hl 0 rfl) ?_
                refine lv_aload_n hx hb dX11_isLike_88 rfl (lv_at hl 0 rfl) ?_
                refine va_get (D := D) (ci := 11) (C := RX11) (T := TX11) (N := 37) hx hb hts in_X11 hown hK hP 0 rfl rfl 6 (by decide) fl_16 (fun _ h9 => h9) rfl dX11_isLike_89 ?_
                refine lv_bipush (v := 20) hx hb dX11_isLike_92 (by decide) ?_
                refine lv_iload hx hb dX11_isLike_94 (lv_at hl 4 rfl) ?_
                refine lv_imul hx hb dX11_isLike_96 ?_
                refine lv_iload hx hb dX11_isLike_97 (lv_at hl 8 rfl) ?_
                refine lv_iadd hx hb dX11_isLike_99 ?_
                refine topi_eq (show (20 : Int32) * nI wd + nI k = nI (20 * wd + k) from by rw [show (20 : Int32) = nI 20 from rfl, pk_mul, nI_add]) ?_
                refine ald_n hx hb hK hP 2 0 rfl rfl (show 20 * wd + k < 960 by omega) (by first | decide | omega) dX11_isLike_100 ?_
                refine topi_eq (hq k (by omega)).1 ?_
                refine ro_V (n := 1) X hK (c_X11_folded (hq k (by omega)).2) gX11_isLike_X11_folded rfl (by decide +kernel) ⟨rfl, rfl⟩ ⟨Nat.le_of_ble_eq_true rfl, Nat.le_of_ble_eq_true rfl⟩ (hP.sub [0, 1] rfl) (va_recv hK hP (ci := 11) (q0 := 0) rfl rfl) rfl hl.1 rfl (Nat.le_of_ble_eq_true rfl) dX11_isLike_101 ⟨Nat.zero_le _, Nat.zero_le _⟩ ?_
                refine lv_icmp_ne (tgt := 111) hx hb dX11_isLike_104 (by decide) (fun c_104 => ?_) (fun c_104 => ?_)
                · refine lv_iconst (v := 0) hx hb dX11_isLike_111 (by decide) ?_
                  refine lv_istore (lv' := [(7, _), (0, _), (1, _), (2, _), (3, _), (4, _), (5, _), (6, _), (8, _)]) hx hb dX11_isLike_112 hl (by decide) rfl (fun ls hl => ?_)
                  refine lv_iinc (v := (_ : Int32) + 1) (lv' := [(8, _), (7, _), (0, _), (1, _), (2, _), (3, _), (4, _), (5, _), (6, _)]) hx hb dX11_isLike_114 hl (k := 8) rfl rfl (by decide) rfl (fun ls hl => ?_)
                  refine lv_goto (tgt := 65) hx hb dX11_isLike_117 (by decide) ?_
                  rw [nI_1] at hl
                  exact ih (k + 1) false (by omega) (by omega) ⟨fun h => (by cases h), fun _ => likeB_f2 (fo := foC fo) (p := q) (q := fun k => rf (fr + k)) (k := k) (by omega) (fun e => c_104 e.symm)⟩  _ (lv_sub hl [2, 3, 4, 5, 6, 7, 8, 1, 0] rfl)
                · refine lv_iconst (v := 1) hx hb dX11_isLike_107 (by decide) ?_
                  refine lv_goto (tgt := 112) hx hb dX11_isLike_108 (by decide) ?_
                  refine lv_istore (lv' := [(7, _), (0, _), (1, _), (2, _), (3, _), (4, _), (5, _), (6, _), (8, _)]) hx hb dX11_isLike_112 hl (by decide) rfl (fun ls hl => ?_)
                  refine lv_iinc (v := (_ : Int32) + 1) (lv' := [(8, _), (7, _), (0, _), (1, _), (2, _), (3, _), (4, _), (5, _), (6, _)]) hx hb dX11_isLike_114 hl (k := 8) rfl rfl (by decide) rfl (fun ls hl => ?_)
                  refine lv_goto (tgt := 65) hx hb dX11_isLike_117 (by decide) ?_
                  rw [nI_1] at hl
                  exact ih (k + 1) true (by omega) (by omega) ⟨fun _ => ⟨he1, lt_s ha c_104⟩, fun h => (by cases h)⟩  _ (lv_sub hl [2, 3, 4, 5, 6, 7, 8, 1, 0] rfl)
        exact loop_65 ((min mn ct) + 1) 0 false (by omega) (Nat.zero_le _) ⟨fun h => (by cases h), fun _ => likeB_f1 (fun e => he e.symm)⟩  ls (lv_sub hl [4, 5, 6, 7, 8, 3, 2, 1, 0] rfl)
      · have he : (min mn ct) = (min sw ct) := (nI_eq (by omega) (by omega)).mp c_52
        refine lv_iconst (v := 1) hx hb dX11_isLike_55 (by decide) ?_
        refine lv_goto (tgt := 60) hx hb dX11_isLike_56 (by decide) ?_
        refine lv_istore (lv' := [(7, _), (6, _), (5, _), (0, _), (1, _), (2, _), (3, _), (4, _)]) hx hb dX11_isLike_60 hl (by decide) rfl (fun ls hl => ?_)
        refine lv_iconst (v := 0) hx hb dX11_isLike_62 (by decide) ?_
        refine lv_istore (lv' := [(8, _), (7, _), (6, _), (5, _), (0, _), (1, _), (2, _), (3, _), (4, _)]) hx hb dX11_isLike_63 hl (by decide) rfl (fun ls hl => ?_)
        have loop_65 : ∀ (fuel : Nat) (k : Nat) (isq : Bool), (min mn ct) - k < fuel → k ≤ (min mn ct) → ((isq = true → (min mn ct) = (min sw ct) ∧ ∀ i, i < k → foC fo (rf (fr + i)) = foC fo (q i)) ∧ (isq = false → likeB ct (foC fo) q sw (fun k => rf (fr + k)) mn = false)) → ∀ ls : Array Slot, lv_has ls 9 [(0, .ref m), (1, .ref r), (2, .int (nI fr)), (3, .int (nI mn)), (4, .int (nI wd)), (5, .int (nI (min mn ct))), (6, .int (nI (min sw ct))), (7, .int (bI isq)), (8, .int (nI k))] → W pr l en { frames := 2, cells := 0, slots := 0, locals := 43 } ss mi ([.ref m, .ref r, .int (nI fr), .int (nI mn), .int (nI wd)] : List Value).toArray below meth cd ss.heap [] 0 0 (MQ below (k2_QcV (.int (bI (likeB ct (foC fo) q sw (fun k => rf (fr + k)) mn)))) ([.ref m, .ref r, .int (nI fr), .int (nI mn), .int (nI wd)] : List Value).toArray ss 0 0 (fun _ => False)) (F0 mi 65 ls []) := by
          intro fuel
          induction fuel with
          | zero => intro k isq hm; exact absurd hm (Nat.not_lt_zero _)
          | succ fuel ih =>
            intro k isq hm hk hr  ls hl
            refine lv_iload hx hb dX11_isLike_65 (lv_at hl 8 rfl) ?_
            refine lv_iload hx hb dX11_isLike_67 (lv_at hl 5 rfl) ?_
            refine lv_icmp_ge (tgt := 120) hx hb dX11_isLike_69 (by decide) (fun c_69 => ?_) (fun c_69 => ?_)
            · have hfin : isq = likeB ct (foC fo) q sw (fun k => rf (fr + k)) mn := by
                cases isq
                · exact (hr.2 rfl).symm
                · obtain ⟨he1, ha⟩ := hr.1 rfl
                  first
                  | exact absurd c_74 (by decide)
                  | (have hkm : k = (min mn ct) := eq_ge c_69 hk (by omega); rw [likeB_t he1.symm (fun i hi => (ha i (by omega)).symm)])
              refine lv_iload hx hb dX11_isLike_120 (lv_at hl 7 rfl) ?_
              exact ro_zret X (by rw [hfin]) dX11_isLike_122
            · refine lv_iload hx hb dX11_isLike_72 (lv_at hl 7 rfl) ?_
              refine lv_if_eq (tgt := 120) hx hb dX11_isLike_74 (by decide) (fun c_74 => ?_) (fun c_74 => ?_)
              · replace c_74 := bI_0.mp c_74
                have hfin : isq = likeB ct (foC fo) q sw (fun k => rf (fr + k)) mn := by
                  cases isq
                  · exact (hr.2 rfl).symm
                  · obtain ⟨he1, ha⟩ := hr.1 rfl
                    first
                    | exact absurd c_74 (by decide)
                    | (have hkm : k = (min mn ct) := eq_ge c_69 hk (by omega); rw [likeB_t he1.symm (fun i hi => (ha i (by omega)).symm)])
                refine lv_iload hx hb dX11_isLike_120 (lv_at hl 7 rfl) ?_
                exact ro_zret X (by rw [hfin]) dX11_isLike_122
              · replace c_74 := bI_n0.mp c_74
                have hlt : k < (min mn ct) := lt_nge c_69 hk (by omega)
                obtain ⟨he1, ha⟩ := hr.1 c_74
                refine lv_aload_n hx hb dX11_isLike_77 rfl (lv_at hl 0 rfl) ?_
                refine lv_aload_n hx hb dX11_isLike_78 rfl (lv_at hl 1 rfl) ?_
                refine lv_iload_n hx hb dX11_isLike_79 rfl (lv_at hl 2 rfl) ?_
                refine lv_iload hx hb dX11_isLike_80 (lv_at hl 8 rfl) ?_
                refine lv_iadd hx hb dX11_isLike_82 ?_
                refine topi_eq (nI_add fr k) ?_
                refine ald_n hx hb hK hP 4 0 rfl rfl (show fr + k < rN by omega) (by first | decide | omega) dX11_isLike_83 ?_
                refine ro_V (n := 1) X hK (c_X11_folded (hrl k (by omega))) gX11_isLike_X11_folded rfl (by decide +kernel) ⟨rfl, rfl⟩ ⟨Nat.le_of_ble_eq_true rfl, Nat.le_of_ble_eq_true rfl⟩ (hP.sub [0, 1] rfl) (va_recv hK hP (ci := 11) (q0 := 0) rfl rfl) rfl hl.1 rfl (Nat.le_of_ble_eq_true rfl) dX11_isLike_84 ⟨Nat.zero_le _, Nat.zero_le _⟩ ?_
                refine lv_aload_n hx hb dX11_isLike_87 rfl (lv_at hl 0 rfl) ?_
                refine lv_aload_n hx hb dX11_isLike_88 rfl (lv_at hl 0 rfl) ?_
                refine va_get (D := D) (ci := 11) (C := RX11) (T := TX11) (N := 37) hx hb hts in_X11 hown hK hP 0 rfl rfl 6 (by decide) fl_16 (fun _ h9 => h9) rfl dX11_isLike_89 ?_
                refine lv_bipush (v := 20) hx hb dX11_isLike_92 (by decide) ?_
                refine lv_iload hx hb dX11_isLike_94 (lv_at hl 4 rfl) ?_
                refine lv_imul hx hb dX11_isLike_96 ?_
                refine lv_iload hx hb dX11_isLike_97 (lv_at hl 8 rfl) ?_
                refine lv_iadd hx hb dX11_isLike_99 ?_
                refine topi_eq (show (20 : Int32) * nI wd + nI k = nI (20 * wd + k) from by rw [show (20 : Int32) = nI 20 from rfl, pk_mul, nI_add]) ?_
                refine ald_n hx hb hK hP 2 0 rfl rfl (show 20 * wd + k < 960 by omega) (by first | decide | omega) dX11_isLike_100 ?_
                refine topi_eq (hq k (by omega)).1 ?_
                refine ro_V (n := 1) X hK (c_X11_folded (hq k (by omega)).2) gX11_isLike_X11_folded rfl (by decide +kernel) ⟨rfl, rfl⟩ ⟨Nat.le_of_ble_eq_true rfl, Nat.le_of_ble_eq_true rfl⟩ (hP.sub [0, 1] rfl) (va_recv hK hP (ci := 11) (q0 := 0) rfl rfl) rfl hl.1 rfl (Nat.le_of_ble_eq_true rfl) dX11_isLike_101 ⟨Nat.zero_le _, Nat.zero_le _⟩ ?_
                refine lv_icmp_ne (tgt := 111) hx hb dX11_isLike_104 (by decide) (fun c_104 => ?_) (fun c_104 => ?_)
                · refine lv_iconst (v := 0) hx hb dX11_isLike_111 (by decide) ?_
                  refine lv_istore (lv' := [(7, _), (0, _), (1, _), (2, _), (3, _), (4, _), (5, _), (6, _), (8, _)]) hx hb dX11_isLike_112 hl (by decide) rfl (fun ls hl => ?_)
                  refine lv_iinc (v := (_ : Int32) + 1) (lv' := [(8, _), (7, _), (0, _), (1, _), (2, _), (3, _), (4, _), (5, _), (6, _)]) hx hb dX11_isLike_114 hl (k := 8) rfl rfl (by decide) rfl (fun ls hl => ?_)
                  refine lv_goto (tgt := 65) hx hb dX11_isLike_117 (by decide) ?_
                  rw [nI_1] at hl
                  exact ih (k + 1) false (by omega) (by omega) ⟨fun h => (by cases h), fun _ => likeB_f2 (fo := foC fo) (p := q) (q := fun k => rf (fr + k)) (k := k) (by omega) (fun e => c_104 e.symm)⟩  _ (lv_sub hl [2, 3, 4, 5, 6, 7, 8, 1, 0] rfl)
                · refine lv_iconst (v := 1) hx hb dX11_isLike_107 (by decide) ?_
                  refine lv_goto (tgt := 112) hx hb dX11_isLike_108 (by decide) ?_
                  refine lv_istore (lv' := [(7, _), (0, _), (1, _), (2, _), (3, _), (4, _), (5, _), (6, _), (8, _)]) hx hb dX11_isLike_112 hl (by decide) rfl (fun ls hl => ?_)
                  refine lv_iinc (v := (_ : Int32) + 1) (lv' := [(8, _), (7, _), (0, _), (1, _), (2, _), (3, _), (4, _), (5, _), (6, _)]) hx hb dX11_isLike_114 hl (k := 8) rfl rfl (by decide) rfl (fun ls hl => ?_)
                  refine lv_goto (tgt := 65) hx hb dX11_isLike_117 (by decide) ?_
                  rw [nI_1] at hl
                  exact ih (k + 1) true (by omega) (by omega) ⟨fun _ => ⟨he1, lt_s ha c_104⟩, fun h => (by cases h)⟩  _ (lv_sub hl [2, 3, 4, 5, 6, 7, 8, 1, 0] rfl)
        exact loop_65 ((min mn ct) + 1) 0 true (by omega) (Nat.zero_le _) ⟨fun _ => ⟨he, fun i hi => absurd hi (Nat.not_lt_zero i)⟩, fun h => (by cases h)⟩  ls (lv_sub hl [4, 5, 6, 7, 8, 3, 2, 1, 0] rfl)
    · refine lv_aload_n hx hb dX11_isLike_32 rfl (lv_at hl 1 rfl) ?_
      refine va_get (D := D) (ci := 11) (C := RX11) (T := TX11) (N := 37) hx hb hts in_X11 hown hK hP 0 rfl rfl 7 (by decide) fl_19 (fun _ h9 => h9) rfl dX11_isLike_33 ?_
      refine lv_iload hx hb dX11_isLike_36 (lv_at hl 5 rfl) ?_
      refine ald_n hx hb hK hP 3 0 rfl rfl (show wd < 48 from hw) (by first | decide | omega) dX11_isLike_38 ?_
      refine topi_eq hsz ?_
      refine lv_goto (tgt := 46) hx hb dX11_isLike_39 (by decide) ?_
      refine topi_eq (y := nI (min sw ct)) (by first | (rw [Nat.min_eq_left (Nat.le_of_lt (leN (a := ct) (b := sw) c_29))]) | (rw [Nat.min_eq_right (leL (a := ct) (b := sw) c_29)])) ?_
      refine lv_istore (lv' := [(6, _), (5, _), (0, _), (1, _), (2, _), (3, _), (4, _)]) hx hb dX11_isLike_46 hl (by decide) rfl (fun ls hl => ?_)
      refine lv_iload hx hb dX11_isLike_48 (lv_at hl 1 rfl) ?_
      refine lv_iload hx hb dX11_isLike_50 (lv_at hl 0 rfl) ?_
      refine lv_icmp_ne (tgt := 59) hx hb dX11_isLike_52 (by decide) (fun c_52 => ?_) (fun c_52 => ?_)
      · have he : ¬ (min mn ct) = (min sw ct) := fun e => c_52 (by rw [e])
        refine lv_iconst (v := 0) hx hb dX11_isLike_59 (by decide) ?_
        refine lv_istore (lv' := [(7, _), (6, _), (5, _), (0, _), (1, _), (2, _), (3, _), (4, _)]) hx hb dX11_isLike_60 hl (by decide) rfl (fun ls hl => ?_)
        refine lv_iconst (v := 0) hx hb dX11_isLike_62 (by decide) ?_
        refine lv_istore (lv' := [(8, _), (7, _), (6, _), (5, _), (0, _), (1, _), (2, _), (3, _), (4, _)]) hx hb dX11_isLike_63 hl (by decide) rfl (fun ls hl => ?_)
        have loop_65 : ∀ (fuel : Nat) (k : Nat) (isq : Bool), (min mn ct) - k < fuel → k ≤ (min mn ct) → ((isq = true → (min mn ct) = (min sw ct) ∧ ∀ i, i < k → foC fo (rf (fr + i)) = foC fo (q i)) ∧ (isq = false → likeB ct (foC fo) q sw (fun k => rf (fr + k)) mn = false)) → ∀ ls : Array Slot, lv_has ls 9 [(0, .ref m), (1, .ref r), (2, .int (nI fr)), (3, .int (nI mn)), (4, .int (nI wd)), (5, .int (nI (min mn ct))), (6, .int (nI (min sw ct))), (7, .int (bI isq)), (8, .int (nI k))] → W pr l en { frames := 2, cells := 0, slots := 0, locals := 43 } ss mi ([.ref m, .ref r, .int (nI fr), .int (nI mn), .int (nI wd)] : List Value).toArray below meth cd ss.heap [] 0 0 (MQ below (k2_QcV (.int (bI (likeB ct (foC fo) q sw (fun k => rf (fr + k)) mn)))) ([.ref m, .ref r, .int (nI fr), .int (nI mn), .int (nI wd)] : List Value).toArray ss 0 0 (fun _ => False)) (F0 mi 65 ls []) := by
          intro fuel
          induction fuel with
          | zero => intro k isq hm; exact absurd hm (Nat.not_lt_zero _)
          | succ fuel ih =>
            intro k isq hm hk hr  ls hl
            refine lv_iload hx hb dX11_isLike_65 (lv_at hl 8 rfl) ?_
            refine lv_iload hx hb dX11_isLike_67 (lv_at hl 5 rfl) ?_
            refine lv_icmp_ge (tgt := 120) hx hb dX11_isLike_69 (by decide) (fun c_69 => ?_) (fun c_69 => ?_)
            · have hfin : isq = likeB ct (foC fo) q sw (fun k => rf (fr + k)) mn := by
                cases isq
                · exact (hr.2 rfl).symm
                · obtain ⟨he1, ha⟩ := hr.1 rfl
                  first
                  | exact absurd c_74 (by decide)
                  | (have hkm : k = (min mn ct) := eq_ge c_69 hk (by omega); rw [likeB_t he1.symm (fun i hi => (ha i (by omega)).symm)])
              refine lv_iload hx hb dX11_isLike_120 (lv_at hl 7 rfl) ?_
              exact ro_zret X (by rw [hfin]) dX11_isLike_122
            · refine lv_iload hx hb dX11_isLike_72 (lv_at hl 7 rfl) ?_
              refine lv_if_eq (tgt := 120) hx hb dX11_isLike_74 (by decide) (fun c_74 => ?_) (fun c_74 => ?_)
              · replace c_74 := bI_0.mp c_74
                have hfin : isq = likeB ct (foC fo) q sw (fun k => rf (fr + k)) mn := by
                  cases isq
                  · exact (hr.2 rfl).symm
                  · obtain ⟨he1, ha⟩ := hr.1 rfl
                    first
                    | exact absurd c_74 (by decide)
                    | (have hkm : k = (min mn ct) := eq_ge c_69 hk (by omega); rw [likeB_t he1.symm (fun i hi => (ha i (by omega)).symm)])
                refine lv_iload hx hb dX11_isLike_120 (lv_at hl 7 rfl) ?_
                exact ro_zret X (by rw [hfin]) dX11_isLike_122
              · replace c_74 := bI_n0.mp c_74
                have hlt : k < (min mn ct) := lt_nge c_69 hk (by omega)
                obtain ⟨he1, ha⟩ := hr.1 c_74
                refine lv_aload_n hx hb dX11_isLike_77 rfl (lv_at hl 0 rfl) ?_
                refine lv_aload_n hx hb dX11_isLike_78 rfl (lv_at hl 1 rfl) ?_
                refine lv_iload_n hx hb dX11_isLike_79 rfl (lv_at hl 2 rfl) ?_
                refine lv_iload hx hb dX11_isLike_80 (lv_at hl 8 rfl) ?_
                refine lv_iadd hx hb dX11_isLike_82 ?_
                refine topi_eq (nI_add fr k) ?_
                refine ald_n hx hb hK hP 4 0 rfl rfl (show fr + k < rN by omega) (by first | decide | omega) dX11_isLike_83 ?_
                refine ro_V (n := 1) X hK (c_X11_folded (hrl k (by omega))) gX11_isLike_X11_folded rfl (by decide +kernel) ⟨rfl, rfl⟩ ⟨Nat.le_of_ble_eq_true rfl, Nat.le_of_ble_eq_true rfl⟩ (hP.sub [0, 1] rfl) (va_recv hK hP (ci := 11) (q0 := 0) rfl rfl) rfl hl.1 rfl (Nat.le_of_ble_eq_true rfl) dX11_isLike_84 ⟨Nat.zero_le _, Nat.zero_le _⟩ ?_
                refine lv_aload_n hx hb dX11_isLike_87 rfl (lv_at hl 0 rfl) ?_
                refine lv_aload_n hx hb dX11_isLike_88 rfl (lv_at hl 0 rfl) ?_
                refine va_get (D := D) (ci := 11) (C := RX11) (T := TX11) (N := 37) hx hb hts in_X11 hown hK hP 0 rfl rfl 6 (by decide) fl_16 (fun _ h9 => h9) rfl dX11_isLike_89 ?_
                refine lv_bipush (v := 20) hx hb dX11_isLike_92 (by decide) ?_
                refine lv_iload hx hb dX11_isLike_94 (lv_at hl 4 rfl) ?_
                refine lv_imul hx hb dX11_isLike_96 ?_
                refine lv_iload hx hb dX11_isLike_97 (lv_at hl 8 rfl) ?_
                refine lv_iadd hx hb dX11_isLike_99 ?_
                refine topi_eq (show (20 : Int32) * nI wd + nI k = nI (20 * wd + k) from by rw [show (20 : Int32) = nI 20 from rfl, pk_mul, nI_add]) ?_
                refine ald_n hx hb hK hP 2 0 rfl rfl (show 20 * wd + k < 960 by omega) (by first | decide | omega) dX11_isLike_100 ?_
                refine topi_eq (hq k (by omega)).1 ?_
                refine ro_V (n := 1) X hK (c_X11_folded (hq k (by omega)).2) gX11_isLike_X11_folded rfl (by decide +kernel) ⟨rfl, rfl⟩ ⟨Nat.le_of_ble_eq_true rfl, Nat.le_of_ble_eq_true rfl⟩ (hP.sub [0, 1] rfl) (va_recv hK hP (ci := 11) (q0 := 0) rfl rfl) rfl hl.1 rfl (Nat.le_of_ble_eq_true rfl) dX11_isLike_101 ⟨Nat.zero_le _, Nat.zero_le _⟩ ?_
                refine lv_icmp_ne (tgt := 111) hx hb dX11_isLike_104 (by decide) (fun c_104 => ?_) (fun c_104 => ?_)
                · refine lv_iconst (v := 0) hx hb dX11_isLike_111 (by decide) ?_
                  refine lv_istore (lv' := [(7, _), (0, _), (1, _), (2, _), (3, _), (4, _), (5, _), (6, _), (8, _)]) hx hb dX11_isLike_112 hl (by decide) rfl (fun ls hl => ?_)
                  refine lv_iinc (v := (_ : Int32) + 1) (lv' := [(8, _), (7, _), (0, _), (1, _), (2, _), (3, _), (4, _), (5, _), (6, _)]) hx hb dX11_isLike_114 hl (k := 8) rfl rfl (by decide) rfl (fun ls hl => ?_)
                  refine lv_goto (tgt := 65) hx hb dX11_isLike_117 (by decide) ?_
                  rw [nI_1] at hl
                  exact ih (k + 1) false (by omega) (by omega) ⟨fun h => (by cases h), fun _ => likeB_f2 (fo := foC fo) (p := q) (q := fun k => rf (fr + k)) (k := k) (by omega) (fun e => c_104 e.symm)⟩  _ (lv_sub hl [2, 3, 4, 5, 6, 7, 8, 1, 0] rfl)
                · refine lv_iconst (v := 1) hx hb dX11_isLike_107 (by decide) ?_
                  refine lv_goto (tgt := 112) hx hb dX11_isLike_108 (by decide) ?_
                  refine lv_istore (lv' := [(7, _), (0, _), (1, _), (2, _), (3, _), (4, _), (5, _), (6, _), (8, _)]) hx hb dX11_isLike_112 hl (by decide) rfl (fun ls hl => ?_)
                  refine lv_iinc (v := (_ : Int32) + 1) (lv' := [(8, _), (7, _), (0, _), (1, _), (2, _), (3, _), (4, _), (5, _), (6, _)]) hx hb dX11_isLike_114 hl (k := 8) rfl rfl (by decide) rfl (fun ls hl => ?_)
                  refine lv_goto (tgt := 65) hx hb dX11_isLike_117 (by decide) ?_
                  rw [nI_1] at hl
                  exact ih (k + 1) true (by omega) (by omega) ⟨fun _ => ⟨he1, lt_s ha c_104⟩, fun h => (by cases h)⟩  _ (lv_sub hl [2, 3, 4, 5, 6, 7, 8, 1, 0] rfl)
        exact loop_65 ((min mn ct) + 1) 0 false (by omega) (Nat.zero_le _) ⟨fun h => (by cases h), fun _ => likeB_f1 (fun e => he e.symm)⟩  ls (lv_sub hl [4, 5, 6, 7, 8, 3, 2, 1, 0] rfl)
      · have he : (min mn ct) = (min sw ct) := (nI_eq (by omega) (by omega)).mp c_52
        refine lv_iconst (v := 1) hx hb dX11_isLike_55 (by decide) ?_
        refine lv_goto (tgt := 60) hx hb dX11_isLike_56 (by decide) ?_
        refine lv_istore (lv' := [(7, _), (6, _), (5, _), (0, _), (1, _), (2, _), (3, _), (4, _)]) hx hb dX11_isLike_60 hl (by decide) rfl (fun ls hl => ?_)
        refine lv_iconst (v := 0) hx hb dX11_isLike_62 (by decide) ?_
        refine lv_istore (lv' := [(8, _), (7, _), (6, _), (5, _), (0, _), (1, _), (2, _), (3, _), (4, _)]) hx hb dX11_isLike_63 hl (by decide) rfl (fun ls hl => ?_)
        have loop_65 : ∀ (fuel : Nat) (k : Nat) (isq : Bool), (min mn ct) - k < fuel → k ≤ (min mn ct) → ((isq = true → (min mn ct) = (min sw ct) ∧ ∀ i, i < k → foC fo (rf (fr + i)) = foC fo (q i)) ∧ (isq = false → likeB ct (foC fo) q sw (fun k => rf (fr + k)) mn = false)) → ∀ ls : Array Slot, lv_has ls 9 [(0, .ref m), (1, .ref r), (2, .int (nI fr)), (3, .int (nI mn)), (4, .int (nI wd)), (5, .int (nI (min mn ct))), (6, .int (nI (min sw ct))), (7, .int (bI isq)), (8, .int (nI k))] → W pr l en { frames := 2, cells := 0, slots := 0, locals := 43 } ss mi ([.ref m, .ref r, .int (nI fr), .int (nI mn), .int (nI wd)] : List Value).toArray below meth cd ss.heap [] 0 0 (MQ below (k2_QcV (.int (bI (likeB ct (foC fo) q sw (fun k => rf (fr + k)) mn)))) ([.ref m, .ref r, .int (nI fr), .int (nI mn), .int (nI wd)] : List Value).toArray ss 0 0 (fun _ => False)) (F0 mi 65 ls []) := by
          intro fuel
          induction fuel with
          | zero => intro k isq hm; exact absurd hm (Nat.not_lt_zero _)
          | succ fuel ih =>
            intro k isq hm hk hr  ls hl
            refine lv_iload hx hb dX11_isLike_65 (lv_at hl 8 rfl) ?_
            refine lv_iload hx hb dX11_isLike_67 (lv_at hl 5 rfl) ?_
            refine lv_icmp_ge (tgt := 120) hx hb dX11_isLike_69 (by decide) (fun c_69 => ?_) (fun c_69 => ?_)
            · have hfin : isq = likeB ct (foC fo) q sw (fun k => rf (fr + k)) mn := by
                cases isq
                · exact (hr.2 rfl).symm
                · obtain ⟨he1, ha⟩ := hr.1 rfl
                  first
                  | exact absurd c_74 (by decide)
                  | (have hkm : k = (min mn ct) := eq_ge c_69 hk (by omega); rw [likeB_t he1.symm (fun i hi => (ha i (by omega)).symm)])
              refine lv_iload hx hb dX11_isLike_120 (lv_at hl 7 rfl) ?_
              exact ro_zret X (by rw [hfin]) dX11_isLike_122
            · refine lv_iload hx hb dX11_isLike_72 (lv_at hl 7 rfl) ?_
              refine lv_if_eq (tgt := 120) hx hb dX11_isLike_74 (by decide) (fun c_74 => ?_) (fun c_74 => ?_)
              · replace c_74 := bI_0.mp c_74
                have hfin : isq = likeB ct (foC fo) q sw (fun k => rf (fr + k)) mn := by
                  cases isq
                  · exact (hr.2 rfl).symm
                  · obtain ⟨he1, ha⟩ := hr.1 rfl
                    first
                    | exact absurd c_74 (by decide)
                    | (have hkm : k = (min mn ct) := eq_ge c_69 hk (by omega); rw [likeB_t he1.symm (fun i hi => (ha i (by omega)).symm)])
                refine lv_iload hx hb dX11_isLike_120 (lv_at hl 7 rfl) ?_
                exact ro_zret X (by rw [hfin]) dX11_isLike_122
              · replace c_74 := bI_n0.mp c_74
                have hlt : k < (min mn ct) := lt_nge c_69 hk (by omega)
                obtain ⟨he1, ha⟩ := hr.1 c_74
                refine lv_aload_n hx hb dX11_isLike_77 rfl (lv_at hl 0 rfl) ?_
                refine lv_aload_n hx hb dX11_isLike_78 rfl (lv_at hl 1 rfl) ?_
                refine lv_iload_n hx hb dX11_isLike_79 rfl (lv_at hl 2 rfl) ?_
                refine lv_iload hx hb dX11_isLike_80 (lv_at hl 8 rfl) ?_
                refine lv_iadd hx hb dX11_isLike_82 ?_
                refine topi_eq (nI_add fr k) ?_
                refine ald_n hx hb hK hP 4 0 rfl rfl (show fr + k < rN by omega) (by first | decide | omega) dX11_isLike_83 ?_
                refine ro_V (n := 1) X hK (c_X11_folded (hrl k (by omega))) gX11_isLike_X11_folded rfl (by decide +kernel) ⟨rfl, rfl⟩ ⟨Nat.le_of_ble_eq_true rfl, Nat.le_of_ble_eq_true rfl⟩ (hP.sub [0, 1] rfl) (va_recv hK hP (ci := 11) (q0 := 0) rfl rfl) rfl hl.1 rfl (Nat.le_of_ble_eq_true rfl) dX11_isLike_84 ⟨Nat.zero_le _, Nat.zero_le _⟩ ?_
                refine lv_aload_n hx hb dX11_isLike_87 rfl (lv_at hl 0 rfl) ?_
                refine lv_aload_n hx hb dX11_isLike_88 rfl (lv_at hl 0 rfl) ?_
                refine va_get (D := D) (ci := 11) (C := RX11) (T := TX11) (N := 37) hx hb hts in_X11 hown hK hP 0 rfl rfl 6 (by decide) fl_16 (fun _ h9 => h9) rfl dX11_isLike_89 ?_
                refine lv_bipush (v := 20) hx hb dX11_isLike_92 (by decide) ?_
                refine lv_iload hx hb dX11_isLike_94 (lv_at hl 4 rfl) ?_
                refine lv_imul hx hb dX11_isLike_96 ?_
                refine lv_iload hx hb dX11_isLike_97 (lv_at hl 8 rfl) ?_
                refine lv_iadd hx hb dX11_isLike_99 ?_
                refine topi_eq (show (20 : Int32) * nI wd + nI k = nI (20 * wd + k) from by rw [show (20 : Int32) = nI 20 from rfl, pk_mul, nI_add]) ?_
                refine ald_n hx hb hK hP 2 0 rfl rfl (show 20 * wd + k < 960 by omega) (by first | decide | omega) dX11_isLike_100 ?_
                refine topi_eq (hq k (by omega)).1 ?_
                refine ro_V (n := 1) X hK (c_X11_folded (hq k (by omega)).2) gX11_isLike_X11_folded rfl (by decide +kernel) ⟨rfl, rfl⟩ ⟨Nat.le_of_ble_eq_true rfl, Nat.le_of_ble_eq_true rfl⟩ (hP.sub [0, 1] rfl) (va_recv hK hP (ci := 11) (q0 := 0) rfl rfl) rfl hl.1 rfl (Nat.le_of_ble_eq_true rfl) dX11_isLike_101 ⟨Nat.zero_le _, Nat.zero_le _⟩ ?_
                refine lv_icmp_ne (tgt := 111) hx hb dX11_isLike_104 (by decide) (fun c_104 => ?_) (fun c_104 => ?_)
                · refine lv_iconst (v := 0) hx hb dX11_isLike_111 (by decide) ?_
                  refine lv_istore (lv' := [(7, _), (0, _), (1, _), (2, _), (3, _), (4, _), (5, _), (6, _), (8, _)]) hx hb dX11_isLike_112 hl (by decide) rfl (fun ls hl => ?_)
                  refine lv_iinc (v := (_ : Int32) + 1) (lv' := [(8, _), (7, _), (0, _), (1, _), (2, _), (3, _), (4, _), (5, _), (6, _)]) hx hb dX11_isLike_114 hl (k := 8) rfl rfl (by decide) rfl (fun ls hl => ?_)
                  refine lv_goto (tgt := 65) hx hb dX11_isLike_117 (by decide) ?_
                  rw [nI_1] at hl
                  exact ih (k + 1) false (by omega) (by omega) ⟨fun h => (by cases h), fun _ => likeB_f2 (fo := foC fo) (p := q) (q := fun k => rf (fr + k)) (k := k) (by omega) (fun e => c_104 e.symm)⟩  _ (lv_sub hl [2, 3, 4, 5, 6, 7, 8, 1, 0] rfl)
                · refine lv_iconst (v := 1) hx hb dX11_isLike_107 (by decide) ?_
                  refine lv_goto (tgt := 112) hx hb dX11_isLike_108 (by decide) ?_
                  refine lv_istore (lv' := [(7, _), (0, _), (1, _), (2, _), (3, _), (4, _), (5, _), (6, _), (8, _)]) hx hb dX11_isLike_112 hl (by decide) rfl (fun ls hl => ?_)
                  refine lv_iinc (v := (_ : Int32) + 1) (lv' := [(8, _), (7, _), (0, _), (1, _), (2, _), (3, _), (4, _), (5, _), (6, _)]) hx hb dX11_isLike_114 hl (k := 8) rfl rfl (by decide) rfl (fun ls hl => ?_)
                  refine lv_goto (tgt := 65) hx hb dX11_isLike_117 (by decide) ?_
                  rw [nI_1] at hl
                  exact ih (k + 1) true (by omega) (by omega) ⟨fun _ => ⟨he1, lt_s ha c_104⟩, fun h => (by cases h)⟩  _ (lv_sub hl [2, 3, 4, 5, 6, 7, 8, 1, 0] rfl)
        exact loop_65 ((min mn ct) + 1) 0 true (by omega) (Nat.zero_le _) ⟨fun _ => ⟨he, fun i hi => absurd hi (Nat.not_lt_zero i)⟩, fun h => (by cases h)⟩  ls (lv_sub hl [4, 5, 6, 7, 8, 3, 2, 1, 0] rfl)
  · refine lv_iload_n hx hb dX11_isLike_8 rfl (lv_at hl 3 rfl) ?_
    refine lv_goto (tgt := 16) hx hb dX11_isLike_9 (by decide) ?_
    refine topi_eq (y := nI (min mn ct)) (by first | (rw [Nat.min_eq_left (Nat.le_of_lt (leN (a := ct) (b := mn) c_5))]) | (rw [Nat.min_eq_right (leL (a := ct) (b := mn) c_5)])) ?_
    refine lv_istore (lv' := [(5, _), (0, _), (1, _), (2, _), (3, _), (4, _)]) hx hb dX11_isLike_16 hl (by decide) rfl (fun ls hl => ?_)
    refine lv_aload_n hx hb dX11_isLike_18 rfl (lv_at hl 1 rfl) ?_
    refine va_get (D := D) (ci := 11) (C := RX11) (T := TX11) (N := 37) hx hb hts in_X11 hown hK hP 0 rfl rfl 7 (by decide) fl_19 (fun _ h9 => h9) rfl dX11_isLike_19 ?_
    refine lv_iload hx hb dX11_isLike_22 (lv_at hl 5 rfl) ?_
    refine ald_n hx hb hK hP 3 0 rfl rfl (show wd < 48 from hw) (by first | decide | omega) dX11_isLike_24 ?_
    refine topi_eq hsz ?_
    refine lv_aload_n hx hb dX11_isLike_25 rfl (lv_at hl 1 rfl) ?_
    refine va_get (D := D) (ci := 11) (C := RX11) (T := TX11) (N := 37) hx hb hts in_X11 hown hK hP 0 rfl rfl 0 (by decide) fl_82 (fun _ h9 => h9) rfl dX11_isLike_26 ?_
    refine lv_icmp_ge (tgt := 42) hx hb dX11_isLike_29 (by decide) (fun c_29 => ?_) (fun c_29 => ?_)
    · refine lv_aload_n hx hb dX11_isLike_42 rfl (lv_at hl 1 rfl) ?_
      refine va_get (D := D) (ci := 11) (C := RX11) (T := TX11) (N := 37) hx hb hts in_X11 hown hK hP 0 rfl rfl 0 (by decide) fl_82 (fun _ h9 => h9) rfl dX11_isLike_43 ?_
      refine topi_eq (y := nI (min sw ct)) (by first | (rw [Nat.min_eq_left (Nat.le_of_lt (leN (a := ct) (b := sw) c_29))]) | (rw [Nat.min_eq_right (leL (a := ct) (b := sw) c_29)])) ?_
      refine lv_istore (lv' := [(6, _), (5, _), (0, _), (1, _), (2, _), (3, _), (4, _)]) hx hb dX11_isLike_46 hl (by decide) rfl (fun ls hl => ?_)
      refine lv_iload hx hb dX11_isLike_48 (lv_at hl 1 rfl) ?_
      refine lv_iload hx hb dX11_isLike_50 (lv_at hl 0 rfl) ?_
      refine lv_icmp_ne (tgt := 59) hx hb dX11_isLike_52 (by decide) (fun c_52 => ?_) (fun c_52 => ?_)
      · have he : ¬ (min mn ct) = (min sw ct) := fun e => c_52 (by rw [e])
        refine lv_iconst (v := 0) hx hb dX11_isLike_59 (by decide) ?_
        refine lv_istore (lv' := [(7, _), (6, _), (5, _), (0, _), (1, _), (2, _), (3, _), (4, _)]) hx hb dX11_isLike_60 hl (by decide) rfl (fun ls hl => ?_)
        refine lv_iconst (v := 0) hx hb dX11_isLike_62 (by decide) ?_
        refine lv_istore (lv' := [(8, _), (7, _), (6, _), (5, _), (0, _), (1, _), (2, _), (3, _), (4, _)]) hx hb dX11_isLike_63 hl (by decide) rfl (fun ls hl => ?_)
        have loop_65 : ∀ (fuel : Nat) (k : Nat) (isq : Bool), (min mn ct) - k < fuel → k ≤ (min mn ct) → ((isq = true → (min mn ct) = (min sw ct) ∧ ∀ i, i < k → foC fo (rf (fr + i)) = foC fo (q i)) ∧ (isq = false → likeB ct (foC fo) q sw (fun k => rf (fr + k)) mn = false)) → ∀ ls : Array Slot, lv_has ls 9 [(0, .ref m), (1, .ref r), (2, .int (nI fr)), (3, .int (nI mn)), (4, .int (nI wd)), (5, .int (nI (min mn ct))), (6, .int (nI (min sw ct))), (7, .int (bI isq)), (8, .int (nI k))] → W pr l en { frames := 2, cells := 0, slots := 0, locals := 43 } ss mi ([.ref m, .ref r, .int (nI fr), .int (nI mn), .int (nI wd)] : List Value).toArray below meth cd ss.heap [] 0 0 (MQ below (k2_QcV (.int (bI (likeB ct (foC fo) q sw (fun k => rf (fr + k)) mn)))) ([.ref m, .ref r, .int (nI fr), .int (nI mn), .int (nI wd)] : List Value).toArray ss 0 0 (fun _ => False)) (F0 mi 65 ls []) := by
          intro fuel
          induction fuel with
          | zero => intro k isq hm; exact absurd hm (Nat.not_lt_zero _)
          | succ fuel ih =>
            intro k isq hm hk hr  ls hl
            refine lv_iload hx hb dX11_isLike_65 (lv_at hl 8 rfl) ?_
            refine lv_iload hx hb dX11_isLike_67 (lv_at hl 5 rfl) ?_
            refine lv_icmp_ge (tgt := 120) hx hb dX11_isLike_69 (by decide) (fun c_69 => ?_) (fun c_69 => ?_)
            · have hfin : isq = likeB ct (foC fo) q sw (fun k => rf (fr + k)) mn := by
                cases isq
                · exact (hr.2 rfl).symm
                · obtain ⟨he1, ha⟩ := hr.1 rfl
                  first
                  | exact absurd c_74 (by decide)
                  | (have hkm : k = (min mn ct) := eq_ge c_69 hk (by omega); rw [likeB_t he1.symm (fun i hi => (ha i (by omega)).symm)])
              refine lv_iload hx hb dX11_isLike_120 (lv_at hl 7 rfl) ?_
              exact ro_zret X (by rw [hfin]) dX11_isLike_122
            · refine lv_iload hx hb dX11_isLike_72 (lv_at hl 7 rfl) ?_
              refine lv_if_eq (tgt := 120) hx hb dX11_isLike_74 (by decide) (fun c_74 => ?_) (fun c_74 => ?_)
              · replace c_74 := bI_0.mp c_74
                have hfin : isq = likeB ct (foC fo) q sw (fun k => rf (fr + k)) mn := by
                  cases isq
                  · exact (hr.2 rfl).symm
                  · obtain ⟨he1, ha⟩ := hr.1 rfl
                    first
                    | exact absurd c_74 (by decide)
                    | (have hkm : k = (min mn ct) := eq_ge c_69 hk (by omega); rw [likeB_t he1.symm (fun i hi => (ha i (by omega)).symm)])
                refine lv_iload hx hb dX11_isLike_120 (lv_at hl 7 rfl) ?_
                exact ro_zret X (by rw [hfin]) dX11_isLike_122
              · replace c_74 := bI_n0.mp c_74
                have hlt : k < (min mn ct) := lt_nge c_69 hk (by omega)
                obtain ⟨he1, ha⟩ := hr.1 c_74
                refine lv_aload_n hx hb dX11_isLike_77 rfl (lv_at hl 0 rfl) ?_
                refine lv_aload_n hx hb dX11_isLike_78 rfl (lv_at hl 1 rfl) ?_
                refine lv_iload_n hx hb dX11_isLike_79 rfl (lv_at hl 2 rfl) ?_
                refine lv_iload hx hb dX11_isLike_80 (lv_at hl 8 rfl) ?_
                refine lv_iadd hx hb dX11_isLike_82 ?_
                refine topi_eq (nI_add fr k) ?_
                refine ald_n hx hb hK hP 4 0 rfl rfl (show fr + k < rN by omega) (by first | decide | omega) dX11_isLike_83 ?_
                refine ro_V (n := 1) X hK (c_X11_folded (hrl k (by omega))) gX11_isLike_X11_folded rfl (by decide +kernel) ⟨rfl, rfl⟩ ⟨Nat.le_of_ble_eq_true rfl, Nat.le_of_ble_eq_true rfl⟩ (hP.sub [0, 1] rfl) (va_recv hK hP (ci := 11) (q0 := 0) rfl rfl) rfl hl.1 rfl (Nat.le_of_ble_eq_true rfl) dX11_isLike_84 ⟨Nat.zero_le _, Nat.zero_le _⟩ ?_
                refine lv_aload_n hx hb dX11_isLike_87 rfl (lv_at hl 0 rfl) ?_
                refine lv_aload_n hx hb dX11_isLike_88 rfl (lv_at hl 0 rfl) ?_
                refine va_get (D := D) (ci := 11) (C := RX11) (T := TX11) (N := 37) hx hb hts in_X11 hown hK hP 0 rfl rfl 6 (by decide) fl_16 (fun _ h9 => h9) rfl dX11_isLike_89 ?_
                refine lv_bipush (v := 20) hx hb dX11_isLike_92 (by decide) ?_
                refine lv_iload hx hb dX11_isLike_94 (lv_at hl 4 rfl) ?_
                refine lv_imul hx hb dX11_isLike_96 ?_
                refine lv_iload hx hb dX11_isLike_97 (lv_at hl 8 rfl) ?_
                refine lv_iadd hx hb dX11_isLike_99 ?_
                refine topi_eq (show (20 : Int32) * nI wd + nI k = nI (20 * wd + k) from by rw [show (20 : Int32) = nI 20 from rfl, pk_mul, nI_add]) ?_
                refine ald_n hx hb hK hP 2 0 rfl rfl (show 20 * wd + k < 960 by omega) (by first | decide | omega) dX11_isLike_100 ?_
                refine topi_eq (hq k (by omega)).1 ?_
                refine ro_V (n := 1) X hK (c_X11_folded (hq k (by omega)).2) gX11_isLike_X11_folded rfl (by decide +kernel) ⟨rfl, rfl⟩ ⟨Nat.le_of_ble_eq_true rfl, Nat.le_of_ble_eq_true rfl⟩ (hP.sub [0, 1] rfl) (va_recv hK hP (ci := 11) (q0 := 0) rfl rfl) rfl hl.1 rfl (Nat.le_of_ble_eq_true rfl) dX11_isLike_101 ⟨Nat.zero_le _, Nat.zero_le _⟩ ?_
                refine lv_icmp_ne (tgt := 111) hx hb dX11_isLike_104 (by decide) (fun c_104 => ?_) (fun c_104 => ?_)
                · refine lv_iconst (v := 0) hx hb dX11_isLike_111 (by decide) ?_
                  refine lv_istore (lv' := [(7, _), (0, _), (1, _), (2, _), (3, _), (4, _), (5, _), (6, _), (8, _)]) hx hb dX11_isLike_112 hl (by decide) rfl (fun ls hl => ?_)
                  refine lv_iinc (v := (_ : Int32) + 1) (lv' := [(8, _), (7, _), (0, _), (1, _), (2, _), (3, _), (4, _), (5, _), (6, _)]) hx hb dX11_isLike_114 hl (k := 8) rfl rfl (by decide) rfl (fun ls hl => ?_)
                  refine lv_goto (tgt := 65) hx hb dX11_isLike_117 (by decide) ?_
                  rw [nI_1] at hl
                  exact ih (k + 1) false (by omega) (by omega) ⟨fun h => (by cases h), fun _ => likeB_f2 (fo := foC fo) (p := q) (q := fun k => rf (fr + k)) (k := k) (by omega) (fun e => c_104 e.symm)⟩  _ (lv_sub hl [2, 3, 4, 5, 6, 7, 8, 1, 0] rfl)
                · refine lv_iconst (v := 1) hx hb dX11_isLike_107 (by decide) ?_
                  refine lv_goto (tgt := 112) hx hb dX11_isLike_108 (by decide) ?_
                  refine lv_istore (lv' := [(7, _), (0, _), (1, _), (2, _), (3, _), (4, _), (5, _), (6, _), (8, _)]) hx hb dX11_isLike_112 hl (by decide) rfl (fun ls hl => ?_)
                  refine lv_iinc (v := (_ : Int32) + 1) (lv' := [(8, _), (7, _), (0, _), (1, _), (2, _), (3, _), (4, _), (5, _), (6, _)]) hx hb dX11_isLike_114 hl (k := 8) rfl rfl (by decide) rfl (fun ls hl => ?_)
                  refine lv_goto (tgt := 65) hx hb dX11_isLike_117 (by decide) ?_
                  rw [nI_1] at hl
                  exact ih (k + 1) true (by omega) (by omega) ⟨fun _ => ⟨he1, lt_s ha c_104⟩, fun h => (by cases h)⟩  _ (lv_sub hl [2, 3, 4, 5, 6, 7, 8, 1, 0] rfl)
        exact loop_65 ((min mn ct) + 1) 0 false (by omega) (Nat.zero_le _) ⟨fun h => (by cases h), fun _ => likeB_f1 (fun e => he e.symm)⟩  ls (lv_sub hl [4, 5, 6, 7, 8, 3, 2, 1, 0] rfl)
      · have he : (min mn ct) = (min sw ct) := (nI_eq (by omega) (by omega)).mp c_52
        refine lv_iconst (v := 1) hx hb dX11_isLike_55 (by decide) ?_
        refine lv_goto (tgt := 60) hx hb dX11_isLike_56 (by decide) ?_
        refine lv_istore (lv' := [(7, _), (6, _), (5, _), (0, _), (1, _), (2, _), (3, _), (4, _)]) hx hb dX11_isLike_60 hl (by decide) rfl (fun ls hl => ?_)
        refine lv_iconst (v := 0) hx hb dX11_isLike_62 (by decide) ?_
        refine lv_istore (lv' := [(8, _), (7, _), (6, _), (5, _), (0, _), (1, _), (2, _), (3, _), (4, _)]) hx hb dX11_isLike_63 hl (by decide) rfl (fun ls hl => ?_)
        have loop_65 : ∀ (fuel : Nat) (k : Nat) (isq : Bool), (min mn ct) - k < fuel → k ≤ (min mn ct) → ((isq = true → (min mn ct) = (min sw ct) ∧ ∀ i, i < k → foC fo (rf (fr + i)) = foC fo (q i)) ∧ (isq = false → likeB ct (foC fo) q sw (fun k => rf (fr + k)) mn = false)) → ∀ ls : Array Slot, lv_has ls 9 [(0, .ref m), (1, .ref r), (2, .int (nI fr)), (3, .int (nI mn)), (4, .int (nI wd)), (5, .int (nI (min mn ct))), (6, .int (nI (min sw ct))), (7, .int (bI isq)), (8, .int (nI k))] → W pr l en { frames := 2, cells := 0, slots := 0, locals := 43 } ss mi ([.ref m, .ref r, .int (nI fr), .int (nI mn), .int (nI wd)] : List Value).toArray below meth cd ss.heap [] 0 0 (MQ below (k2_QcV (.int (bI (likeB ct (foC fo) q sw (fun k => rf (fr + k)) mn)))) ([.ref m, .ref r, .int (nI fr), .int (nI mn), .int (nI wd)] : List Value).toArray ss 0 0 (fun _ => False)) (F0 mi 65 ls []) := by
          intro fuel
          induction fuel with
          | zero => intro k isq hm; exact absurd hm (Nat.not_lt_zero _)
          | succ fuel ih =>
            intro k isq hm hk hr  ls hl
            refine lv_iload hx hb dX11_isLike_65 (lv_at hl 8 rfl) ?_
            refine lv_iload hx hb dX11_isLike_67 (lv_at hl 5 rfl) ?_
            refine lv_icmp_ge (tgt := 120) hx hb dX11_isLike_69 (by decide) (fun c_69 => ?_) (fun c_69 => ?_)
            · have hfin : isq = likeB ct (foC fo) q sw (fun k => rf (fr + k)) mn := by
                cases isq
                · exact (hr.2 rfl).symm
                · obtain ⟨he1, ha⟩ := hr.1 rfl
                  first
                  | exact absurd c_74 (by decide)
                  | (have hkm : k = (min mn ct) := eq_ge c_69 hk (by omega); rw [likeB_t he1.symm (fun i hi => (ha i (by omega)).symm)])
              refine lv_iload hx hb dX11_isLike_120 (lv_at hl 7 rfl) ?_
              exact ro_zret X (by rw [hfin]) dX11_isLike_122
            · refine lv_iload hx hb dX11_isLike_72 (lv_at hl 7 rfl) ?_
              refine lv_if_eq (tgt := 120) hx hb dX11_isLike_74 (by decide) (fun c_74 => ?_) (fun c_74 => ?_)
              · replace c_74 := bI_0.mp c_74
                have hfin : isq = likeB ct (foC fo) q sw (fun k => rf (fr + k)) mn := by
                  cases isq
                  · exact (hr.2 rfl).symm
                  · obtain ⟨he1, ha⟩ := hr.1 rfl
                    first
                    | exact absurd c_74 (by decide)
                    | (have hkm : k = (min mn ct) := eq_ge c_69 hk (by omega); rw [likeB_t he1.symm (fun i hi => (ha i (by omega)).symm)])
                refine lv_iload hx hb dX11_isLike_120 (lv_at hl 7 rfl) ?_
                exact ro_zret X (by rw [hfin]) dX11_isLike_122
              · replace c_74 := bI_n0.mp c_74
                have hlt : k < (min mn ct) := lt_nge c_69 hk (by omega)
                obtain ⟨he1, ha⟩ := hr.1 c_74
                refine lv_aload_n hx hb dX11_isLike_77 rfl (lv_at hl 0 rfl) ?_
                refine lv_aload_n hx hb dX11_isLike_78 rfl (lv_at hl 1 rfl) ?_
                refine lv_iload_n hx hb dX11_isLike_79 rfl (lv_at hl 2 rfl) ?_
                refine lv_iload hx hb dX11_isLike_80 (lv_at hl 8 rfl) ?_
                refine lv_iadd hx hb dX11_isLike_82 ?_
                refine topi_eq (nI_add fr k) ?_
                refine ald_n hx hb hK hP 4 0 rfl rfl (show fr + k < rN by omega) (by first | decide | omega) dX11_isLike_83 ?_
                refine ro_V (n := 1) X hK (c_X11_folded (hrl k (by omega))) gX11_isLike_X11_folded rfl (by decide +kernel) ⟨rfl, rfl⟩ ⟨Nat.le_of_ble_eq_true rfl, Nat.le_of_ble_eq_true rfl⟩ (hP.sub [0, 1] rfl) (va_recv hK hP (ci := 11) (q0 := 0) rfl rfl) rfl hl.1 rfl (Nat.le_of_ble_eq_true rfl) dX11_isLike_84 ⟨Nat.zero_le _, Nat.zero_le _⟩ ?_
                refine lv_aload_n hx hb dX11_isLike_87 rfl (lv_at hl 0 rfl) ?_
                refine lv_aload_n hx hb dX11_isLike_88 rfl (lv_at hl 0 rfl) ?_
                refine va_get (D := D) (ci := 11) (C := RX11) (T := TX11) (N := 37) hx hb hts in_X11 hown hK hP 0 rfl rfl 6 (by decide) fl_16 (fun _ h9 => h9) rfl dX11_isLike_89 ?_
                refine lv_bipush (v := 20) hx hb dX11_isLike_92 (by decide) ?_
                refine lv_iload hx hb dX11_isLike_94 (lv_at hl 4 rfl) ?_
                refine lv_imul hx hb dX11_isLike_96 ?_
                refine lv_iload hx hb dX11_isLike_97 (lv_at hl 8 rfl) ?_
                refine lv_iadd hx hb dX11_isLike_99 ?_
                refine topi_eq (show (20 : Int32) * nI wd + nI k = nI (20 * wd + k) from by rw [show (20 : Int32) = nI 20 from rfl, pk_mul, nI_add]) ?_
                refine ald_n hx hb hK hP 2 0 rfl rfl (show 20 * wd + k < 960 by omega) (by first | decide | omega) dX11_isLike_100 ?_
                refine topi_eq (hq k (by omega)).1 ?_
                refine ro_V (n := 1) X hK (c_X11_folded (hq k (by omega)).2) gX11_isLike_X11_folded rfl (by decide +kernel) ⟨rfl, rfl⟩ ⟨Nat.le_of_ble_eq_true rfl, Nat.le_of_ble_eq_true rfl⟩ (hP.sub [0, 1] rfl) (va_recv hK hP (ci := 11) (q0 := 0) rfl rfl) rfl hl.1 rfl (Nat.le_of_ble_eq_true rfl) dX11_isLike_101 ⟨Nat.zero_le _, Nat.zero_le _⟩ ?_
                refine lv_icmp_ne (tgt := 111) hx hb dX11_isLike_104 (by decide) (fun c_104 => ?_) (fun c_104 => ?_)
                · refine lv_iconst (v := 0) hx hb dX11_isLike_111 (by decide) ?_
                  refine lv_istore (lv' := [(7, _), (0, _), (1, _), (2, _), (3, _), (4, _), (5, _), (6, _), (8, _)]) hx hb dX11_isLike_112 hl (by decide) rfl (fun ls hl => ?_)
                  refine lv_iinc (v := (_ : Int32) + 1) (lv' := [(8, _), (7, _), (0, _), (1, _), (2, _), (3, _), (4, _), (5, _), (6, _)]) hx hb dX11_isLike_114 hl (k := 8) rfl rfl (by decide) rfl (fun ls hl => ?_)
                  refine lv_goto (tgt := 65) hx hb dX11_isLike_117 (by decide) ?_
                  rw [nI_1] at hl
                  exact ih (k + 1) false (by omega) (by omega) ⟨fun h => (by cases h), fun _ => likeB_f2 (fo := foC fo) (p := q) (q := fun k => rf (fr + k)) (k := k) (by omega) (fun e => c_104 e.symm)⟩  _ (lv_sub hl [2, 3, 4, 5, 6, 7, 8, 1, 0] rfl)
                · refine lv_iconst (v := 1) hx hb dX11_isLike_107 (by decide) ?_
                  refine lv_goto (tgt := 112) hx hb dX11_isLike_108 (by decide) ?_
                  refine lv_istore (lv' := [(7, _), (0, _), (1, _), (2, _), (3, _), (4, _), (5, _), (6, _), (8, _)]) hx hb dX11_isLike_112 hl (by decide) rfl (fun ls hl => ?_)
                  refine lv_iinc (v := (_ : Int32) + 1) (lv' := [(8, _), (7, _), (0, _), (1, _), (2, _), (3, _), (4, _), (5, _), (6, _)]) hx hb dX11_isLike_114 hl (k := 8) rfl rfl (by decide) rfl (fun ls hl => ?_)
                  refine lv_goto (tgt := 65) hx hb dX11_isLike_117 (by decide) ?_
                  rw [nI_1] at hl
                  exact ih (k + 1) true (by omega) (by omega) ⟨fun _ => ⟨he1, lt_s ha c_104⟩, fun h => (by cases h)⟩  _ (lv_sub hl [2, 3, 4, 5, 6, 7, 8, 1, 0] rfl)
        exact loop_65 ((min mn ct) + 1) 0 true (by omega) (Nat.zero_le _) ⟨fun _ => ⟨he, fun i hi => absurd hi (Nat.not_lt_zero i)⟩, fun h => (by cases h)⟩  ls (lv_sub hl [4, 5, 6, 7, 8, 3, 2, 1, 0] rfl)
    · refine lv_aload_n hx hb dX11_isLike_32 rfl (lv_at hl 1 rfl) ?_
      refine va_get (D := D) (ci := 11) (C := RX11) (T := TX11) (N := 37) hx hb hts in_X11 hown hK hP 0 rfl rfl 7 (by decide) fl_19 (fun _ h9 => h9) rfl dX11_isLike_33 ?_
      refine lv_iload hx hb dX11_isLike_36 (lv_at hl 5 rfl) ?_
      refine ald_n hx hb hK hP 3 0 rfl rfl (show wd < 48 from hw) (by first | decide | omega) dX11_isLike_38 ?_
      refine topi_eq hsz ?_
      refine lv_goto (tgt := 46) hx hb dX11_isLike_39 (by decide) ?_
      refine topi_eq (y := nI (min sw ct)) (by first | (rw [Nat.min_eq_left (Nat.le_of_lt (leN (a := ct) (b := sw) c_29))]) | (rw [Nat.min_eq_right (leL (a := ct) (b := sw) c_29)])) ?_
      refine lv_istore (lv' := [(6, _), (5, _), (0, _), (1, _), (2, _), (3, _), (4, _)]) hx hb dX11_isLike_46 hl (by decide) rfl (fun ls hl => ?_)
      refine lv_iload hx hb dX11_isLike_48 (lv_at hl 1 rfl) ?_
      refine lv_iload hx hb dX11_isLike_50 (lv_at hl 0 rfl) ?_
      refine lv_icmp_ne (tgt := 59) hx hb dX11_isLike_52 (by decide) (fun c_52 => ?_) (fun c_52 => ?_)
      · have he : ¬ (min mn ct) = (min sw ct) := fun e => c_52 (by rw [e])
        refine lv_iconst (v := 0) hx hb dX11_isLike_59 (by decide) ?_
        refine lv_istore (lv' := [(7, _), (6, _), (5, _), (0, _), (1, _), (2, _), (3, _), (4, _)]) hx hb dX11_isLike_60 hl (by decide) rfl (fun ls hl => ?_)
        refine lv_iconst (v := 0) hx hb dX11_isLike_62 (by decide) ?_
        refine lv_istore (lv' := [(8, _), (7, _), (6, _), (5, _), (0, _), (1, _), (2, _), (3, _), (4, _)]) hx hb dX11_isLike_63 hl (by decide) rfl (fun ls hl => ?_)
        have loop_65 : ∀ (fuel : Nat) (k : Nat) (isq : Bool), (min mn ct) - k < fuel → k ≤ (min mn ct) → ((isq = true → (min mn ct) = (min sw ct) ∧ ∀ i, i < k → foC fo (rf (fr + i)) = foC fo (q i)) ∧ (isq = false → likeB ct (foC fo) q sw (fun k => rf (fr + k)) mn = false)) → ∀ ls : Array Slot, lv_has ls 9 [(0, .ref m), (1, .ref r), (2, .int (nI fr)), (3, .int (nI mn)), (4, .int (nI wd)), (5, .int (nI (min mn ct))), (6, .int (nI (min sw ct))), (7, .int (bI isq)), (8, .int (nI k))] → W pr l en { frames := 2, cells := 0, slots := 0, locals := 43 } ss mi ([.ref m, .ref r, .int (nI fr), .int (nI mn), .int (nI wd)] : List Value).toArray below meth cd ss.heap [] 0 0 (MQ below (k2_QcV (.int (bI (likeB ct (foC fo) q sw (fun k => rf (fr + k)) mn)))) ([.ref m, .ref r, .int (nI fr), .int (nI mn), .int (nI wd)] : List Value).toArray ss 0 0 (fun _ => False)) (F0 mi 65 ls []) := by
          intro fuel
          induction fuel with
          | zero => intro k isq hm; exact absurd hm (Nat.not_lt_zero _)
          | succ fuel ih =>
            intro k isq hm hk hr  ls hl
            refine lv_iload hx hb dX11_isLike_65 (lv_at hl 8 rfl) ?_
            refine lv_iload hx hb dX11_isLike_67 (lv_at hl 5 rfl) ?_
            refine lv_icmp_ge (tgt := 120) hx hb dX11_isLike_69 (by decide) (fun c_69 => ?_) (fun c_69 => ?_)
            · have hfin : isq = likeB ct (foC fo) q sw (fun k => rf (fr + k)) mn := by
                cases isq
                · exact (hr.2 rfl).symm
                · obtain ⟨he1, ha⟩ := hr.1 rfl
                  first
                  | exact absurd c_74 (by decide)
                  | (have hkm : k = (min mn ct) := eq_ge c_69 hk (by omega); rw [likeB_t he1.symm (fun i hi => (ha i (by omega)).symm)])
              refine lv_iload hx hb dX11_isLike_120 (lv_at hl 7 rfl) ?_
              exact ro_zret X (by rw [hfin]) dX11_isLike_122
            · refine lv_iload hx hb dX11_isLike_72 (lv_at hl 7 rfl) ?_
              refine lv_if_eq (tgt := 120) hx hb dX11_isLike_74 (by decide) (fun c_74 => ?_) (fun c_74 => ?_)
              · replace c_74 := bI_0.mp c_74
                have hfin : isq = likeB ct (foC fo) q sw (fun k => rf (fr + k)) mn := by
                  cases isq
                  · exact (hr.2 rfl).symm
                  · obtain ⟨he1, ha⟩ := hr.1 rfl
                    first
                    | exact absurd c_74 (by decide)
                    | (have hkm : k = (min mn ct) := eq_ge c_69 hk (by omega); rw [likeB_t he1.symm (fun i hi => (ha i (by omega)).symm)])
                refine lv_iload hx hb dX11_isLike_120 (lv_at hl 7 rfl) ?_
                exact ro_zret X (by rw [hfin]) dX11_isLike_122
              · replace c_74 := bI_n0.mp c_74
                have hlt : k < (min mn ct) := lt_nge c_69 hk (by omega)
                obtain ⟨he1, ha⟩ := hr.1 c_74
                refine lv_aload_n hx hb dX11_isLike_77 rfl (lv_at hl 0 rfl) ?_
                refine lv_aload_n hx hb dX11_isLike_78 rfl (lv_at hl 1 rfl) ?_
                refine lv_iload_n hx hb dX11_isLike_79 rfl (lv_at hl 2 rfl) ?_
                refine lv_iload hx hb dX11_isLike_80 (lv_at hl 8 rfl) ?_
                refine lv_iadd hx hb dX11_isLike_82 ?_
                refine topi_eq (nI_add fr k) ?_
                refine ald_n hx hb hK hP 4 0 rfl rfl (show fr + k < rN by omega) (by first | decide | omega) dX11_isLike_83 ?_
                refine ro_V (n := 1) X hK (c_X11_folded (hrl k (by omega))) gX11_isLike_X11_folded rfl (by decide +kernel) ⟨rfl, rfl⟩ ⟨Nat.le_of_ble_eq_true rfl, Nat.le_of_ble_eq_true rfl⟩ (hP.sub [0, 1] rfl) (va_recv hK hP (ci := 11) (q0 := 0) rfl rfl) rfl hl.1 rfl (Nat.le_of_ble_eq_true rfl) dX11_isLike_84 ⟨Nat.zero_le _, Nat.zero_le _⟩ ?_
                refine lv_aload_n hx hb dX11_isLike_87 rfl (lv_at hl 0 rfl) ?_
                refine lv_aload_n hx hb dX11_isLike_88 rfl (lv_at hl 0 rfl) ?_
                refine va_get (D := D) (ci := 11) (C := RX11) (T := TX11) (N := 37) hx hb hts in_X11 hown hK hP 0 rfl rfl 6 (by decide) fl_16 (fun _ h9 => h9) rfl dX11_isLike_89 ?_
                refine lv_bipush (v := 20) hx hb dX11_isLike_92 (by decide) ?_
                refine lv_iload hx hb dX11_isLike_94 (lv_at hl 4 rfl) ?_
                refine lv_imul hx hb dX11_isLike_96 ?_
                refine lv_iload hx hb dX11_isLike_97 (lv_at hl 8 rfl) ?_
                refine lv_iadd hx hb dX11_isLike_99 ?_
                refine topi_eq (show (20 : Int32) * nI wd + nI k = nI (20 * wd + k) from by rw [show (20 : Int32) = nI 20 from rfl, pk_mul, nI_add]) ?_
                refine ald_n hx hb hK hP 2 0 rfl rfl (show 20 * wd + k < 960 by omega) (by first | decide | omega) dX11_isLike_100 ?_
                refine topi_eq (hq k (by omega)).1 ?_
                refine ro_V (n := 1) X hK (c_X11_folded (hq k (by omega)).2) gX11_isLike_X11_folded rfl (by decide +kernel) ⟨rfl, rfl⟩ ⟨Nat.le_of_ble_eq_true rfl, Nat.le_of_ble_eq_true rfl⟩ (hP.sub [0, 1] rfl) (va_recv hK hP (ci := 11) (q0 := 0) rfl rfl) rfl hl.1 rfl (Nat.le_of_ble_eq_true rfl) dX11_isLike_101 ⟨Nat.zero_le _, Nat.zero_le _⟩ ?_
                refine lv_icmp_ne (tgt := 111) hx hb dX11_isLike_104 (by decide) (fun c_104 => ?_) (fun c_104 => ?_)
                · refine lv_iconst (v := 0) hx hb dX11_isLike_111 (by decide) ?_
                  refine lv_istore (lv' := [(7, _), (0, _), (1, _), (2, _), (3, _), (4, _), (5, _), (6, _), (8, _)]) hx hb dX11_isLike_112 hl (by decide) rfl (fun ls hl => ?_)
                  refine lv_iinc (v := (_ : Int32) + 1) (lv' := [(8, _), (7, _), (0, _), (1, _), (2, _), (3, _), (4, _), (5, _), (6, _)]) hx hb dX11_isLike_114 hl (k := 8) rfl rfl (by decide) rfl (fun ls hl => ?_)
                  refine lv_goto (tgt := 65) hx hb dX11_isLike_117 (by decide) ?_
                  rw [nI_1] at hl
                  exact ih (k + 1) false (by omega) (by omega) ⟨fun h => (by cases h), fun _ => likeB_f2 (fo := foC fo) (p := q) (q := fun k => rf (fr + k)) (k := k) (by omega) (fun e => c_104 e.symm)⟩  _ (lv_sub hl [2, 3, 4, 5, 6, 7, 8, 1, 0] rfl)
                · refine lv_iconst (v := 1) hx hb dX11_isLike_107 (by decide) ?_
                  refine lv_goto (tgt := 112) hx hb dX11_isLike_108 (by decide) ?_
                  refine lv_istore (lv' := [(7, _), (0, _), (1, _), (2, _), (3, _), (4, _), (5, _), (6, _), (8, _)]) hx hb dX11_isLike_112 hl (by decide) rfl (fun ls hl => ?_)
                  refine lv_iinc (v := (_ : Int32) + 1) (lv' := [(8, _), (7, _), (0, _), (1, _), (2, _), (3, _), (4, _), (5, _), (6, _)]) hx hb dX11_isLike_114 hl (k := 8) rfl rfl (by decide) rfl (fun ls hl => ?_)
                  refine lv_goto (tgt := 65) hx hb dX11_isLike_117 (by decide) ?_
                  rw [nI_1] at hl
                  exact ih (k + 1) true (by omega) (by omega) ⟨fun _ => ⟨he1, lt_s ha c_104⟩, fun h => (by cases h)⟩  _ (lv_sub hl [2, 3, 4, 5, 6, 7, 8, 1, 0] rfl)
        exact loop_65 ((min mn ct) + 1) 0 false (by omega) (Nat.zero_le _) ⟨fun h => (by cases h), fun _ => likeB_f1 (fun e => he e.symm)⟩  ls (lv_sub hl [4, 5, 6, 7, 8, 3, 2, 1, 0] rfl)
      · have he : (min mn ct) = (min sw ct) := (nI_eq (by omega) (by omega)).mp c_52
        refine lv_iconst (v := 1) hx hb dX11_isLike_55 (by decide) ?_
        refine lv_goto (tgt := 60) hx hb dX11_isLike_56 (by decide) ?_
        refine lv_istore (lv' := [(7, _), (6, _), (5, _), (0, _), (1, _), (2, _), (3, _), (4, _)]) hx hb dX11_isLike_60 hl (by decide) rfl (fun ls hl => ?_)
        refine lv_iconst (v := 0) hx hb dX11_isLike_62 (by decide) ?_
        refine lv_istore (lv' := [(8, _), (7, _), (6, _), (5, _), (0, _), (1, _), (2, _), (3, _), (4, _)]) hx hb dX11_isLike_63 hl (by decide) rfl (fun ls hl => ?_)
        have loop_65 : ∀ (fuel : Nat) (k : Nat) (isq : Bool), (min mn ct) - k < fuel → k ≤ (min mn ct) → ((isq = true → (min mn ct) = (min sw ct) ∧ ∀ i, i < k → foC fo (rf (fr + i)) = foC fo (q i)) ∧ (isq = false → likeB ct (foC fo) q sw (fun k => rf (fr + k)) mn = false)) → ∀ ls : Array Slot, lv_has ls 9 [(0, .ref m), (1, .ref r), (2, .int (nI fr)), (3, .int (nI mn)), (4, .int (nI wd)), (5, .int (nI (min mn ct))), (6, .int (nI (min sw ct))), (7, .int (bI isq)), (8, .int (nI k))] → W pr l en { frames := 2, cells := 0, slots := 0, locals := 43 } ss mi ([.ref m, .ref r, .int (nI fr), .int (nI mn), .int (nI wd)] : List Value).toArray below meth cd ss.heap [] 0 0 (MQ below (k2_QcV (.int (bI (likeB ct (foC fo) q sw (fun k => rf (fr + k)) mn)))) ([.ref m, .ref r, .int (nI fr), .int (nI mn), .int (nI wd)] : List Value).toArray ss 0 0 (fun _ => False)) (F0 mi 65 ls []) := by
          intro fuel
          induction fuel with
          | zero => intro k isq hm; exact absurd hm (Nat.not_lt_zero _)
          | succ fuel ih =>
            intro k isq hm hk hr  ls hl
            refine lv_iload hx hb dX11_isLike_65 (lv_at hl 8 rfl) ?_
            refine lv_iload hx hb dX11_isLike_67 (lv_at hl 5 rfl) ?_
            refine lv_icmp_ge (tgt := 120) hx hb dX11_isLike_69 (by decide) (fun c_69 => ?_) (fun c_69 => ?_)
            · have hfin : isq = likeB ct (foC fo) q sw (fun k => rf (fr + k)) mn := by
                cases isq
                · exact (hr.2 rfl).symm
                · obtain ⟨he1, ha⟩ := hr.1 rfl
                  first
                  | exact absurd c_74 (by decide)
                  | (have hkm : k = (min mn ct) := eq_ge c_69 hk (by omega); rw [likeB_t he1.symm (fun i hi => (ha i (by omega)).symm)])
              refine lv_iload hx hb dX11_isLike_120 (lv_at hl 7 rfl) ?_
              exact ro_zret X (by rw [hfin]) dX11_isLike_122
            · refine lv_iload hx hb dX11_isLike_72 (lv_at hl 7 rfl) ?_
              refine lv_if_eq (tgt := 120) hx hb dX11_isLike_74 (by decide) (fun c_74 => ?_) (fun c_74 => ?_)
              · replace c_74 := bI_0.mp c_74
                have hfin : isq = likeB ct (foC fo) q sw (fun k => rf (fr + k)) mn := by
                  cases isq
                  · exact (hr.2 rfl).symm
                  · obtain ⟨he1, ha⟩ := hr.1 rfl
                    first
                    | exact absurd c_74 (by decide)
                    | (have hkm : k = (min mn ct) := eq_ge c_69 hk (by omega); rw [likeB_t he1.symm (fun i hi => (ha i (by omega)).symm)])
                refine lv_iload hx hb dX11_isLike_120 (lv_at hl 7 rfl) ?_
                exact ro_zret X (by rw [hfin]) dX11_isLike_122
              · replace c_74 := bI_n0.mp c_74
                have hlt : k < (min mn ct) := lt_nge c_69 hk (by omega)
                obtain ⟨he1, ha⟩ := hr.1 c_74
                refine lv_aload_n hx hb dX11_isLike_77 rfl (lv_at hl 0 rfl) ?_
                refine lv_aload_n hx hb dX11_isLike_78 rfl (lv_at hl 1 rfl) ?_
                refine lv_iload_n hx hb dX11_isLike_79 rfl (lv_at hl 2 rfl) ?_
                refine lv_iload hx hb dX11_isLike_80 (lv_at hl 8 rfl) ?_
                refine lv_iadd hx hb dX11_isLike_82 ?_
                refine topi_eq (nI_add fr k) ?_
                refine ald_n hx hb hK hP 4 0 rfl rfl (show fr + k < rN by omega) (by first | decide | omega) dX11_isLike_83 ?_
                refine ro_V (n := 1) X hK (c_X11_folded (hrl k (by omega))) gX11_isLike_X11_folded rfl (by decide +kernel) ⟨rfl, rfl⟩ ⟨Nat.le_of_ble_eq_true rfl, Nat.le_of_ble_eq_true rfl⟩ (hP.sub [0, 1] rfl) (va_recv hK hP (ci := 11) (q0 := 0) rfl rfl) rfl hl.1 rfl (Nat.le_of_ble_eq_true rfl) dX11_isLike_84 ⟨Nat.zero_le _, Nat.zero_le _⟩ ?_
                refine lv_aload_n hx hb dX11_isLike_87 rfl (lv_at hl 0 rfl) ?_
                refine lv_aload_n hx hb dX11_isLike_88 rfl (lv_at hl 0 rfl) ?_
                refine va_get (D := D) (ci := 11) (C := RX11) (T := TX11) (N := 37) hx hb hts in_X11 hown hK hP 0 rfl rfl 6 (by decide) fl_16 (fun _ h9 => h9) rfl dX11_isLike_89 ?_
                refine lv_bipush (v := 20) hx hb dX11_isLike_92 (by decide) ?_
                refine lv_iload hx hb dX11_isLike_94 (lv_at hl 4 rfl) ?_
                refine lv_imul hx hb dX11_isLike_96 ?_
                refine lv_iload hx hb dX11_isLike_97 (lv_at hl 8 rfl) ?_
                refine lv_iadd hx hb dX11_isLike_99 ?_
                refine topi_eq (show (20 : Int32) * nI wd + nI k = nI (20 * wd + k) from by rw [show (20 : Int32) = nI 20 from rfl, pk_mul, nI_add]) ?_
                refine ald_n hx hb hK hP 2 0 rfl rfl (show 20 * wd + k < 960 by omega) (by first | decide | omega) dX11_isLike_100 ?_
                refine topi_eq (hq k (by omega)).1 ?_
                refine ro_V (n := 1) X hK (c_X11_folded (hq k (by omega)).2) gX11_isLike_X11_folded rfl (by decide +kernel) ⟨rfl, rfl⟩ ⟨Nat.le_of_ble_eq_true rfl, Nat.le_of_ble_eq_true rfl⟩ (hP.sub [0, 1] rfl) (va_recv hK hP (ci := 11) (q0 := 0) rfl rfl) rfl hl.1 rfl (Nat.le_of_ble_eq_true rfl) dX11_isLike_101 ⟨Nat.zero_le _, Nat.zero_le _⟩ ?_
                refine lv_icmp_ne (tgt := 111) hx hb dX11_isLike_104 (by decide) (fun c_104 => ?_) (fun c_104 => ?_)
                · refine lv_iconst (v := 0) hx hb dX11_isLike_111 (by decide) ?_
                  refine lv_istore (lv' := [(7, _), (0, _), (1, _), (2, _), (3, _), (4, _), (5, _), (6, _), (8, _)]) hx hb dX11_isLike_112 hl (by decide) rfl (fun ls hl => ?_)
                  refine lv_iinc (v := (_ : Int32) + 1) (lv' := [(8, _), (7, _), (0, _), (1, _), (2, _), (3, _), (4, _), (5, _), (6, _)]) hx hb dX11_isLike_114 hl (k := 8) rfl rfl (by decide) rfl (fun ls hl => ?_)
                  refine lv_goto (tgt := 65) hx hb dX11_isLike_117 (by decide) ?_
                  rw [nI_1] at hl
                  exact ih (k + 1) false (by omega) (by omega) ⟨fun h => (by cases h), fun _ => likeB_f2 (fo := foC fo) (p := q) (q := fun k => rf (fr + k)) (k := k) (by omega) (fun e => c_104 e.symm)⟩  _ (lv_sub hl [2, 3, 4, 5, 6, 7, 8, 1, 0] rfl)
                · refine lv_iconst (v := 1) hx hb dX11_isLike_107 (by decide) ?_
                  refine lv_goto (tgt := 112) hx hb dX11_isLike_108 (by decide) ?_
                  refine lv_istore (lv' := [(7, _), (0, _), (1, _), (2, _), (3, _), (4, _), (5, _), (6, _), (8, _)]) hx hb dX11_isLike_112 hl (by decide) rfl (fun ls hl => ?_)
                  refine lv_iinc (v := (_ : Int32) + 1) (lv' := [(8, _), (7, _), (0, _), (1, _), (2, _), (3, _), (4, _), (5, _), (6, _)]) hx hb dX11_isLike_114 hl (k := 8) rfl rfl (by decide) rfl (fun ls hl => ?_)
                  refine lv_goto (tgt := 65) hx hb dX11_isLike_117 (by decide) ?_
                  rw [nI_1] at hl
                  exact ih (k + 1) true (by omega) (by omega) ⟨fun _ => ⟨he1, lt_s ha c_104⟩, fun h => (by cases h)⟩  _ (lv_sub hl [2, 3, 4, 5, 6, 7, 8, 1, 0] rfl)
        exact loop_65 ((min mn ct) + 1) 0 true (by omega) (Nat.zero_le _) ⟨fun _ => ⟨he, fun i hi => absurd hi (Nat.not_lt_zero i)⟩, fun h => (by cases h)⟩  ls (lv_sub hl [4, 5, 6, 7, 8, 3, 2, 1, 0] rfl)

set_option maxHeartbeats 1000000 in
set_option maxRecDepth 100000 in
theorem c_X11_found {l : Launch} {D : va_G} {cI cJ cW : ClassId} {m : Nat} {a : Nat → Nat} {ct dn nw nj n tn tc mm : Nat} {τ : TS} {fu am pb : Int32} {F : Nat → Nat → Int32} {fo rf : Nat → Int32} {r rN fr mn : Nat} {lg : Int32} {wz : Nat → Nat → Int32} {wn : Nat → Nat} {wt : Nat → Nat → Int32} (hct : ct < 2 ^ 30) (hrN : rN ≤ 960) (hfl : fr + mn ≤ rN) (hnw : nw ≤ 40) (hrw : RW F nw wz wn wt) (hrl : ∀ k, k < mn → isLe (rf (fr + k)) = true) : RO l yX11_found wsX11_found { frames := 3, cells := 0, slots := 0, locals := 71 } D (ty3 cI cJ cW) [.ref m, .ref r, .int (nI fr), .int (nI mn), .int lg] [(m, .inr (11, [.int (nI ct), .ref (a 1), .ref (a 2), .int (nI dn), .int (nI nw), .int (nI nj), .ref (a 6), .ref (a 7), .ref (a 8), .ref (a 9), .ref (a 10), .ref (a 11), .ref (a 12), .ref (a 13), .ref (a 14), .ref (a 15), .int (nI n), .int (nI tn), .ref (a 18), .ref (a 19), .ref (a 20), .ref (a 21), .ref (a 22), .ref (a 23), .ref (a 24), .ref (a 25), .int (nI τ.1), .int (τ.2.1), .ref (a 28), .int (nI tc), .int (nI mm), .ref (a 31), .ref (a 32), .ref (a 33), .int (fu), .int (am), .int (pb)])), ((a 1), .inl (cI, 32, .inl fo)), ((a 6), .inl (cI, 960, .inl (F 6))), ((a 7), .inl (cI, 48, .inl (F 7))), ((a 8), .inl (cI, 40, .inl (F 8))), (r, .inl (cI, rN, .inl rf))] (.int (oI (fwC ct fo wz wn wt nw rf lg fr mn))) := by
  refine ro_of (cc := cX11_found) (maxL := 6) (ret := (some .int)) (by decide) rfl (Nat.le_of_ble_eq_true rfl) ?_
  intro pr en ss mi below meth cd X hP hK ls hl
  obtain ⟨hx, hb, hml, hown, hts, hr, hlocks⟩ := id X
  have fl_22 := hts (.fieldLink RX11 22 "WordTablesModel" "language" "[I") (by decide +kernel)
  have fl_90 := hts (.fieldLink RX11 90 "WordTablesModel" "words" "I") (by decide +kernel)
  have in_X11 : ∀ w ∈ wsX110, w ∈ wsX11_found := by decide +kernel
  have hl : lv_has ls 6 [(0, .ref m), (1, .ref r), (2, .int (nI fr)), (3, .int (nI mn)), (4, .int lg)] := hl
  refine lv_iconst (v := 0) hx hb dX11_found_0 (by decide) ?_
  refine lv_istore (lv' := [(5, _), (0, _), (1, _), (2, _), (3, _), (4, _)]) hx hb dX11_found_1 hl (by decide) rfl (fun ls hl => ?_)
  have loop_3 : ∀ (fuel : Nat) (k : Nat), nw - k < fuel → k ≤ nw → (fiO (fun j => decide (wz j 1 = lg) && likeB ct (foC fo) (wt j) (wn j) (fun i => rf (fr + i)) mn) k (nw - k) = fiO (fun j => decide (wz j 1 = lg) && likeB ct (foC fo) (wt j) (wn j) (fun i => rf (fr + i)) mn) 0 nw) → ∀ ls : Array Slot, lv_has ls 6 [(0, .ref m), (1, .ref r), (2, .int (nI fr)), (3, .int (nI mn)), (4, .int lg), (5, .int (nI k))] → W pr l en { frames := 3, cells := 0, slots := 0, locals := 71 } ss mi ([.ref m, .ref r, .int (nI fr), .int (nI mn), .int lg] : List Value).toArray below meth cd ss.heap [] 0 0 (MQ below (k2_QcV (.int (oI (fwC ct fo wz wn wt nw rf lg fr mn)))) ([.ref m, .ref r, .int (nI fr), .int (nI mn), .int lg] : List Value).toArray ss 0 0 (fun _ => False)) (F0 mi 3 ls []) := by
    intro fuel
    induction fuel with
    | zero => intro k hm; exact absurd hm (Nat.not_lt_zero _)
    | succ fuel ih =>
      intro k hm hk hr  ls hl
      refine lv_iload hx hb dX11_found_3 (lv_at hl 5 rfl) ?_
      refine lv_aload_n hx hb dX11_found_5 rfl (lv_at hl 0 rfl) ?_
      refine va_get (D := D) (ci := 11) (C := RX11) (T := TX11) (N := 37) hx hb hts in_X11 hown hK hP 0 rfl rfl 4 (by decide) fl_90 (fun _ h9 => h9) rfl dX11_found_6 ?_
      refine lv_icmp_ge (tgt := 45) hx hb dX11_found_9 (by decide) (fun c_9 => ?_) (fun c_9 => ?_)
      · have hkm : k = nw := eq_ge c_9 hk (by omega)
        refine lv_iconst (v := -1) hx hb dX11_found_45 (by decide) ?_
        exact ro_iret X (by show _ = oI (fiO _ 0 nw); rw [← hr, hkm, fiO_end]; rfl) dX11_found_46
      · have hlt : k < nw := lt_nge c_9 hk (by omega)
        refine lv_aload_n hx hb dX11_found_12 rfl (lv_at hl 0 rfl) ?_
        refine va_get (D := D) (ci := 11) (C := RX11) (T := TX11) (N := 37) hx hb hts in_X11 hown hK hP 0 rfl rfl 8 (by decide) fl_22 (fun _ h9 => h9) rfl dX11_found_13 ?_
        refine lv_iload hx hb dX11_found_16 (lv_at hl 5 rfl) ?_
        refine ald_n hx hb hK hP 4 0 rfl rfl (show k < 40 by omega) (by first | decide | omega) dX11_found_18 ?_
        refine topi_eq (hrw k hlt).2.2.2.1 ?_
        refine lv_iload hx hb dX11_found_19 (lv_at hl 4 rfl) ?_
        refine lv_icmp_ne (tgt := 39) hx hb dX11_found_21 (by decide) (fun c_21 => ?_) (fun c_21 => ?_)
        · refine lv_iinc (v := (_ : Int32) + 1) (lv' := [(5, _), (0, _), (1, _), (2, _), (3, _), (4, _)]) hx hb dX11_found_39 hl (k := 5) rfl rfl (by decide) rfl (fun ls hl => ?_)
          refine lv_goto (tgt := 3) hx hb dX11_found_42 (by decide) ?_
          rw [nI_1] at hl
          exact ih (k + 1) (by omega) (by omega) (by rw [← hr, fiO_miss (p := (fun j => decide (wz j 1 = lg) && likeB ct (foC fo) (wt j) (wn j) (fun i => rf (fr + i)) mn)) hlt (by first | (simp [c_21]; done) | simp [c_21, c_33])])  _ (lv_sub hl [1, 2, 3, 4, 5, 0] rfl)
        · refine lv_aload_n hx hb dX11_found_24 rfl (lv_at hl 0 rfl) ?_
          refine lv_aload_n hx hb dX11_found_25 rfl (lv_at hl 1 rfl) ?_
          refine lv_iload_n hx hb dX11_found_26 rfl (lv_at hl 2 rfl) ?_
          refine lv_iload_n hx hb dX11_found_27 rfl (lv_at hl 3 rfl) ?_
          refine lv_iload hx hb dX11_found_28 (lv_at hl 5 rfl) ?_
          refine ro_V (n := 4) X hK (c_X11_isLike (q := wt k) (F := F) hct hrN hfl (by omega) (hrw k hlt).1 (hrw k hlt).2.1 (hrw k hlt).2.2.1 hrl) gX11_found_X11_isLike rfl (by decide +kernel) ⟨rfl, rfl⟩ ⟨Nat.le_of_ble_eq_true rfl, Nat.le_of_ble_eq_true rfl⟩ (hP.sub [0, 1, 2, 3, 5] rfl) (va_recv hK hP (ci := 11) (q0 := 0) rfl rfl) rfl hl.1 rfl (Nat.le_of_ble_eq_true rfl) dX11_found_30 ⟨Nat.zero_le _, Nat.zero_le _⟩ ?_
          refine lv_if_eq (tgt := 39) hx hb dX11_found_33 (by decide) (fun c_33 => ?_) (fun c_33 => ?_)
          · replace c_33 := bI_0.mp c_33
            refine lv_iinc (v := (_ : Int32) + 1) (lv' := [(5, _), (0, _), (1, _), (2, _), (3, _), (4, _)]) hx hb dX11_found_39 hl (k := 5) rfl rfl (by decide) rfl (fun ls hl => ?_)
            refine lv_goto (tgt := 3) hx hb dX11_found_42 (by decide) ?_
            rw [nI_1] at hl
            exact ih (k + 1) (by omega) (by omega) (by rw [← hr, fiO_miss (p := (fun j => decide (wz j 1 = lg) && likeB ct (foC fo) (wt j) (wn j) (fun i => rf (fr + i)) mn)) hlt (by first | (simp [c_21]; done) | simp [c_21, c_33])])  _ (lv_sub hl [1, 2, 3, 4, 5, 0] rfl)
          · replace c_33 := bI_n0.mp c_33
            refine lv_iload hx hb dX11_found_36 (lv_at hl 5 rfl) ?_
            exact ro_iret X (by show _ = oI (fiO _ 0 nw); rw [← hr, fiO_hit (p := (fun j => decide (wz j 1 = lg) && likeB ct (foC fo) (wt j) (wn j) (fun i => rf (fr + i)) mn)) hlt (by simp [c_21, c_33])]; rfl) dX11_found_38
  exact loop_3 (nw + 1) 0 (by omega) (Nat.zero_le _) rfl  ls (lv_sub hl [1, 2, 3, 4, 5, 0] rfl)

set_option maxHeartbeats 1000000 in
set_option maxRecDepth 100000 in
theorem c_X11_fold {l : Launch} {D : va_G} {cI cJ cW : ClassId} {sz : Nat} {m : Nat} {a : Nat → Nat} {ct dn nw nj n tn tc mm : Nat} {τ : TS} {fu am pb : Int32} {fo : Nat → Int32} {y e : Int32} (hnw : nw ≤ 40) (hnj : nj ≤ 8) : MU l yX11_fold wsX11_fold { frames := 1, cells := 0, slots := 0, locals := 22 } D (ty3 cI cJ cW) [.ref m, .int y, .int e] [(m, .inr (11, [.int (nI ct), .ref (a 1), .ref (a 2), .int (nI dn), .int (nI nw), .int (nI nj), .ref (a 6), .ref (a 7), .ref (a 8), .ref (a 9), .ref (a 10), .ref (a 11), .ref (a 12), .ref (a 13), .ref (a 14), .ref (a 15), .int (nI n), .int (nI tn), .ref (a 18), .ref (a 19), .ref (a 20), .ref (a 21), .ref (a 22), .ref (a 23), .ref (a 24), .ref (a 25), .int (nI τ.1), .int (τ.2.1), .ref (a 28), .int (nI tc), .int (nI mm), .ref (a 31), .ref (a 32), .ref (a 33), .int (fu), .int (am), .int (pb)])), ((a 1), .inl (cI, 32, .inl fo))] sz (some (.int (aFold fo nw nj y e).1)) [(m, .inr (11, [.int (nI ct), .ref (a 1), .ref (a 2), .int (nI dn), .int (nI nw), .int (nI nj), .ref (a 6), .ref (a 7), .ref (a 8), .ref (a 9), .ref (a 10), .ref (a 11), .ref (a 12), .ref (a 13), .ref (a 14), .ref (a 15), .int (nI n), .int (nI tn), .ref (a 18), .ref (a 19), .ref (a 20), .ref (a 21), .ref (a 22), .ref (a 23), .ref (a 24), .ref (a 25), .int (nI τ.1), .int (τ.2.1), .ref (a 28), .int (nI tc), .int (nI mm), .ref (a 31), .ref (a 32), .ref (a 33), .int (fu), .int (am), .int (pb)])), ((a 1), .inl (cI, 32, .inl ((aFold fo nw nj y e).2)))] := by
  refine mu_of (cc := cX11_fold) (maxL := 4) (ret := (some .int)) (by decide) rfl (Nat.le_of_ble_eq_true rfl) ?_
  intro pr en ss mi below meth cd X hK A hA hP hD hS ls hl
  obtain ⟨hx, hb, hml, hown, hts, hr, hlocks⟩ := id X
  have fl_7 := hts (.fieldLink RX11 7 "WordTablesModel" "folds" "[I") (by decide +kernel)
  have fl_90 := hts (.fieldLink RX11 90 "WordTablesModel" "words" "I") (by decide +kernel)
  have fl_93 := hts (.fieldLink RX11 93 "WordTablesModel" "joins" "I") (by decide +kernel)
  have in_X11 : ∀ w ∈ wsX110, w ∈ wsX11_fold := by decide +kernel
  have hl : lv_has ls 4 [(0, .ref m), (1, .int y), (2, .int e)] := hl
  refine lv_iload_n hx hb dX11_fold_0 rfl (lv_at hl 1 rfl) ?_
  refine lv_sipush (v := 128) hx hb dX11_fold_1 (by decide) ?_
  refine lv_sipush (v := 159) hx hb dX11_fold_4 (by decide) ?_
  refine ro_S (n := 3) X hK (c_X11_in) gX11_fold_X11_in rfl (by decide +kernel) ⟨rfl, rfl⟩ ⟨Nat.le_of_ble_eq_true rfl, Nat.le_of_ble_eq_true rfl⟩ (hP.sub [] rfl) rfl hl.1 rfl (Nat.le_of_ble_eq_true rfl) dX11_fold_7 ⟨Nat.zero_le _, Nat.zero_le _⟩ ?_
  refine lv_if_eq (tgt := 24) hx hb dX11_fold_10 (by decide) (fun c_10 => ?_) (fun c_10 => ?_)
  · replace c_10 := bI_0.mp c_10
    refine lv_bipush (v := -3) hx hb dX11_fold_24 (by decide) ?_
    exact mu_iret X hP hS (by rw [aFold, if_neg (fun q => by have := q.1; rw [show isFo y = false from c_10] at this; cases this)]) (by rw [aFold, if_neg (fun q => by have := q.1; rw [show isFo y = false from c_10] at this; cases this)]) dX11_fold_26
  · replace c_10 := bI_n0.mp c_10
    refine lv_iload_n hx hb dX11_fold_13 rfl (lv_at hl 2 rfl) ?_
    refine lv_bipush (v := 97) hx hb dX11_fold_14 (by decide) ?_
    refine lv_bipush (v := 122) hx hb dX11_fold_16 (by decide) ?_
    refine ro_S (n := 3) X hK (c_X11_in) gX11_fold_X11_in rfl (by decide +kernel) ⟨rfl, rfl⟩ ⟨Nat.le_of_ble_eq_true rfl, Nat.le_of_ble_eq_true rfl⟩ (hP.sub [] rfl) rfl hl.1 rfl (Nat.le_of_ble_eq_true rfl) dX11_fold_18 ⟨Nat.zero_le _, Nat.zero_le _⟩ ?_
    refine lv_if_ne (tgt := 27) hx hb dX11_fold_21 (by decide) (fun c_21 => ?_) (fun c_21 => ?_)
    · replace c_21 := bI_n0.mp c_21
      have hfy : isFo y = true := c_10
      have hse : isSm e = true := c_21
      obtain ⟨j, hj, rfl, ej, -, -⟩ := isFo_of hfy
      have e1 : nI (128 + j) - 128 = nI j := by rw [show (128 : Int32) = nI 128 from rfl, pk_sub (by omega)]; congr 1; omega
      refine lv_aload_n hx hb dX11_fold_27 rfl (lv_at hl 0 rfl) ?_
      refine va_get (D := D) (ci := 11) (C := RX11) (T := TX11) (N := 37) hx hb hts in_X11 hown hK hP 0 rfl rfl 4 (by decide) fl_90 (fun _ h9 => h9) rfl dX11_fold_28 ?_
      refine lv_if_gt (tgt := 41) hx hb dX11_fold_31 (by decide) (fun c_31 => ?_) (fun c_31 => ?_)
      · have hs : 0 < nw ∨ 0 < nj := by first | exact Or.inl (ltL (a := 0) (b := nw) c_31) | exact Or.inr (leN (a := nj) (b := 0) c_38)
        refine lv_bipush (v := -4) hx hb dX11_fold_41 (by decide) ?_
        exact mu_iret X hP hS (by rw [aFold, if_pos ⟨hfy, hse⟩, if_pos hs]) (by rw [aFold, if_pos ⟨hfy, hse⟩, if_pos hs]) dX11_fold_43
      · refine lv_aload_n hx hb dX11_fold_34 rfl (lv_at hl 0 rfl) ?_
        refine va_get (D := D) (ci := 11) (C := RX11) (T := TX11) (N := 37) hx hb hts in_X11 hown hK hP 0 rfl rfl 5 (by decide) fl_93 (fun _ h9 => h9) rfl dX11_fold_35 ?_
        refine lv_if_le (tgt := 44) hx hb dX11_fold_38 (by decide) (fun c_38 => ?_) (fun c_38 => ?_)
        · have hs : ¬ (0 < nw ∨ 0 < nj) := by have := ltN (a := 0) (b := nw) c_31; have := leL (a := nj) (b := 0) c_38; omega
          refine lv_aload_n hx hb dX11_fold_44 rfl (lv_at hl 0 rfl) ?_
          refine va_get (D := D) (ci := 11) (C := RX11) (T := TX11) (N := 37) hx hb hts in_X11 hown hK hP 0 rfl rfl 1 (by decide) fl_7 (fun _ h9 => h9) rfl dX11_fold_45 ?_
          refine lv_iload_n hx hb dX11_fold_48 rfl (lv_at hl 1 rfl) ?_
          refine lv_sipush (v := 128) hx hb dX11_fold_49 (by decide) ?_
          refine lv_isub hx hb dX11_fold_52 ?_
          refine topi_eq e1 ?_
          refine ald_n hx hb hK hP 1 0 rfl rfl hj (by first | decide | omega) dX11_fold_53 ?_
          refine lv_istore_n (lv' := [(3, _), (0, _), (1, _), (2, _)]) hx hb dX11_fold_54 rfl hl (by decide) rfl (fun ls hl => ?_)
          refine lv_aload_n hx hb dX11_fold_55 rfl (lv_at hl 1 rfl) ?_
          refine va_get (D := D) (ci := 11) (C := RX11) (T := TX11) (N := 37) hx hb hts in_X11 hown hK hP 0 rfl rfl 1 (by decide) fl_7 (fun _ h9 => h9) rfl dX11_fold_56 ?_
          refine lv_iload_n hx hb dX11_fold_59 rfl (lv_at hl 2 rfl) ?_
          refine lv_sipush (v := 128) hx hb dX11_fold_60 (by decide) ?_
          refine lv_isub hx hb dX11_fold_63 ?_
          refine topi_eq e1 ?_
          refine lv_iload_n hx hb dX11_fold_64 rfl (lv_at hl 3 rfl) ?_
          refine ast_n hx hb hK hP hD hS 1 0 rfl rfl hj (by decide) dX11_fold_65 (fun H locs hP hD hS => ?_)
          have hP : va_P D vwCl [(m, .inr (11, [_, .ref (a 1), .ref (a 2), _, _, _, .ref (a 6), .ref (a 7), .ref (a 8), .ref (a 9), .ref (a 10), .ref (a 11), .ref (a 12), .ref (a 13), .ref (a 14), .ref (a 15), _, _, .ref (a 18), .ref (a 19), .ref (a 20), .ref (a 21), .ref (a 22), .ref (a 23), .ref (a 24), .ref (a 25), _, _, .ref (a 28), _, _, .ref (a 31), .ref (a 32), .ref (a 33), _, _, _])), ((a 1), .inl (cI, 32, .inl _))] H := hP
          have hD : va_D A [(m, .inr (11, [_, .ref (a 1), .ref (a 2), _, _, _, .ref (a 6), .ref (a 7), .ref (a 8), .ref (a 9), .ref (a 10), .ref (a 11), .ref (a 12), .ref (a 13), .ref (a 14), .ref (a 15), _, _, .ref (a 18), .ref (a 19), .ref (a 20), .ref (a 21), .ref (a 22), .ref (a 23), .ref (a 24), .ref (a 25), _, _, .ref (a 28), _, _, .ref (a 31), .ref (a 32), .ref (a 33), _, _, _])), ((a 1), .inl (cI, 32, .inl _))] := hD
          refine lv_iload_n hx hb dX11_fold_66 rfl (lv_at hl 0 rfl) ?_
          exact mu_iret X hP hS (by rw [aFold, if_pos ⟨hfy, hse⟩, if_neg hs, ej]) (by rw [aFold, if_pos ⟨hfy, hse⟩, if_neg hs, ej]) dX11_fold_67
        · have hs : 0 < nw ∨ 0 < nj := by first | exact Or.inl (ltL (a := 0) (b := nw) c_31) | exact Or.inr (leN (a := nj) (b := 0) c_38)
          refine lv_bipush (v := -4) hx hb dX11_fold_41 (by decide) ?_
          exact mu_iret X hP hS (by rw [aFold, if_pos ⟨hfy, hse⟩, if_pos hs]) (by rw [aFold, if_pos ⟨hfy, hse⟩, if_pos hs]) dX11_fold_43
    · replace c_21 := bI_0.mp c_21
      refine lv_bipush (v := -3) hx hb dX11_fold_24 (by decide) ?_
      exact mu_iret X hP hS (by rw [aFold, if_neg (fun q => by have := q.2; rw [show isSm e = false from c_21] at this; cases this)]) (by rw [aFold, if_neg (fun q => by have := q.2; rw [show isSm e = false from c_21] at this; cases this)]) dX11_fold_26

set_option maxHeartbeats 1000000 in
set_option maxRecDepth 100000 in
theorem c_X11_letter {l : Launch} {D : va_G} {cI cJ cW : ClassId} {sz : Nat} {m : Nat} {a : Nat → Nat} {ct dn nw nj n tn tc mm : Nat} {τ : TS} {fu am pb : Int32} {df : Nat → Int32} {y : Int32} (hdn : dn ≤ 20) : MU l yX11_letter wsX11_letter { frames := 2, cells := 0, slots := 0, locals := 42 } D (ty3 cI cJ cW) [.ref m, .int y] [(m, .inr (11, [.int (nI ct), .ref (a 1), .ref (a 2), .int (nI dn), .int (nI nw), .int (nI nj), .ref (a 6), .ref (a 7), .ref (a 8), .ref (a 9), .ref (a 10), .ref (a 11), .ref (a 12), .ref (a 13), .ref (a 14), .ref (a 15), .int (nI n), .int (nI tn), .ref (a 18), .ref (a 19), .ref (a 20), .ref (a 21), .ref (a 22), .ref (a 23), .ref (a 24), .ref (a 25), .int (nI τ.1), .int (τ.2.1), .ref (a 28), .int (nI tc), .int (nI mm), .ref (a 31), .ref (a 32), .ref (a 33), .int (fu), .int (am), .int (pb)])), ((a 2), .inl (cI, 20, .inl df))] sz (some (.int (aPut (isLe y) 20 dn))) [(m, .inr (11, [.int (nI ct), .ref (a 1), .ref (a 2), .int (nI (nPut (isLe y) 20 dn)), .int (nI nw), .int (nI nj), .ref (a 6), .ref (a 7), .ref (a 8), .ref (a 9), .ref (a 10), .ref (a 11), .ref (a 12), .ref (a 13), .ref (a 14), .ref (a 15), .int (nI n), .int (nI tn), .ref (a 18), .ref (a 19), .ref (a 20), .ref (a 21), .ref (a 22), .ref (a 23), .ref (a 24), .ref (a 25), .int (nI τ.1), .int (τ.2.1), .ref (a 28), .int (nI tc), .int (nI mm), .ref (a 31), .ref (a 32), .ref (a 33), .int (fu), .int (am), .int (pb)])), ((a 2), .inl (cI, 20, .inl (fPut (isLe y) 20 dn df y)))] := by
  refine mu_of (cc := cX11_letter) (maxL := 2) (ret := (some .int)) (by decide) rfl (Nat.le_of_ble_eq_true rfl) ?_
  intro pr en ss mi below meth cd X hK A hA hP hD hS ls hl
  obtain ⟨hx, hb, hml, hown, hts, hr, hlocks⟩ := id X
  have fl_100 := hts (.fieldLink RX11 100 "WordTablesModel" "drafted" "I") (by decide +kernel)
  have fl_13 := hts (.fieldLink RX11 13 "WordTablesModel" "draft" "[I") (by decide +kernel)
  have in_X11 : ∀ w ∈ wsX110, w ∈ wsX11_letter := by decide +kernel
  have hl : lv_has ls 2 [(0, .ref m), (1, .int y)] := hl
  refine lv_iload_n hx hb dX11_letter_0 rfl (lv_at hl 1 rfl) ?_
  refine ro_S (n := 1) X hK (c_X11_isLetter) gX11_letter_X11_isLetter rfl (by decide +kernel) ⟨rfl, rfl⟩ ⟨Nat.le_of_ble_eq_true rfl, Nat.le_of_ble_eq_true rfl⟩ (hP.sub [] rfl) rfl hl.1 rfl (Nat.le_of_ble_eq_true rfl) dX11_letter_1 ⟨Nat.zero_le _, Nat.zero_le _⟩ ?_
  refine lv_if_ne (tgt := 10) hx hb dX11_letter_4 (by decide) (fun c_4 => ?_) (fun c_4 => ?_)
  · replace c_4 := bI_n0.mp c_4
    refine lv_aload_n hx hb dX11_letter_10 rfl (lv_at hl 0 rfl) ?_
    refine va_get (D := D) (ci := 11) (C := RX11) (T := TX11) (N := 37) hx hb hts in_X11 hown hK hP 0 rfl rfl 3 (by decide) fl_100 (fun _ h9 => h9) rfl dX11_letter_11 ?_
    refine lv_bipush (v := 20) hx hb dX11_letter_14 (by decide) ?_
    refine lv_icmp_ne (tgt := 22) hx hb dX11_letter_16 (by decide) (fun c_16 => ?_) (fun c_16 => ?_)
    · have hd : dn < 20 := by rcases Nat.lt_or_ge dn 20 with q | q; exact q; exact absurd (show nI dn = 20 by rw [show dn = 20 by omega]; rfl) c_16
      refine lv_aload_n hx hb dX11_letter_22 rfl (lv_at hl 0 rfl) ?_
      refine va_get (D := D) (ci := 11) (C := RX11) (T := TX11) (N := 37) hx hb hts in_X11 hown hK hP 0 rfl rfl 2 (by decide) fl_13 (fun _ h9 => h9) rfl dX11_letter_23 ?_
      refine lv_aload_n hx hb dX11_letter_26 rfl (lv_at hl 0 rfl) ?_
      refine va_get (D := D) (ci := 11) (C := RX11) (T := TX11) (N := 37) hx hb hts in_X11 hown hK hP 0 rfl rfl 3 (by decide) fl_100 (fun _ h9 => h9) rfl dX11_letter_27 ?_
      refine lv_iload_n hx hb dX11_letter_30 rfl (lv_at hl 1 rfl) ?_
      refine ast_n hx hb hK hP hD hS 1 0 rfl rfl hd (by decide) dX11_letter_31 (fun H locs hP hD hS => ?_)
      have hP : va_P D vwCl [(m, .inr (11, [_, .ref (a 1), .ref (a 2), _, _, _, .ref (a 6), .ref (a 7), .ref (a 8), .ref (a 9), .ref (a 10), .ref (a 11), .ref (a 12), .ref (a 13), .ref (a 14), .ref (a 15), _, _, .ref (a 18), .ref (a 19), .ref (a 20), .ref (a 21), .ref (a 22), .ref (a 23), .ref (a 24), .ref (a 25), _, _, .ref (a 28), _, _, .ref (a 31), .ref (a 32), .ref (a 33), _, _, _])), ((a 2), .inl (cI, 20, .inl _))] H := hP
      have hD : va_D A [(m, .inr (11, [_, .ref (a 1), .ref (a 2), _, _, _, .ref (a 6), .ref (a 7), .ref (a 8), .ref (a 9), .ref (a 10), .ref (a 11), .ref (a 12), .ref (a 13), .ref (a 14), .ref (a 15), _, _, .ref (a 18), .ref (a 19), .ref (a 20), .ref (a 21), .ref (a 22), .ref (a 23), .ref (a 24), .ref (a 25), _, _, .ref (a 28), _, _, .ref (a 31), .ref (a 32), .ref (a 33), _, _, _])), ((a 2), .inl (cI, 20, .inl _))] := hD
      refine lv_aload_n hx hb dX11_letter_32 rfl (lv_at hl 0 rfl) ?_
      refine lv_dup hx hb dX11_letter_33 rfl ?_
      refine va_get (D := D) (ci := 11) (C := RX11) (T := TX11) (N := 37) hx hb hts in_X11 hown hK hP 0 rfl rfl 3 (by decide) fl_100 (fun _ h9 => h9) rfl dX11_letter_34 ?_
      refine lv_iconst (v := 1) hx hb dX11_letter_37 (by decide) ?_
      refine lv_iadd hx hb dX11_letter_38 ?_
      refine va_put (D := D) (ci := 11) (ty := .int) (C := RX11) (T := TX11) (N := 37) hx hb hts in_X11 tyX11 tyX11_ok nmX11 hown hK hP hD hS 0 rfl rfl 3 (by decide) fl_100 (fun _ h9 => h9) rfl (by decide +kernel) rfl rfl (Nat.le_of_ble_eq_true rfl) dX11_letter_39 (fun H locs hP hD hS => ?_)
      have hP : va_P D vwCl [(m, .inr (11, [_, .ref (a 1), .ref (a 2), _, _, _, .ref (a 6), .ref (a 7), .ref (a 8), .ref (a 9), .ref (a 10), .ref (a 11), .ref (a 12), .ref (a 13), .ref (a 14), .ref (a 15), _, _, .ref (a 18), .ref (a 19), .ref (a 20), .ref (a 21), .ref (a 22), .ref (a 23), .ref (a 24), .ref (a 25), _, _, .ref (a 28), _, _, .ref (a 31), .ref (a 32), .ref (a 33), _, _, _])), ((a 2), .inl (cI, 20, .inl _))] H := hP
      have hD : va_D A [(m, .inr (11, [_, .ref (a 1), .ref (a 2), _, _, _, .ref (a 6), .ref (a 7), .ref (a 8), .ref (a 9), .ref (a 10), .ref (a 11), .ref (a 12), .ref (a 13), .ref (a 14), .ref (a 15), _, _, .ref (a 18), .ref (a 19), .ref (a 20), .ref (a 21), .ref (a 22), .ref (a 23), .ref (a 24), .ref (a 25), _, _, .ref (a 28), _, _, .ref (a 31), .ref (a 32), .ref (a 33), _, _, _])), ((a 2), .inl (cI, 20, .inl _))] := hD
      refine lv_aload_n hx hb dX11_letter_42 rfl (lv_at hl 0 rfl) ?_
      refine va_get (D := D) (ci := 11) (C := RX11) (T := TX11) (N := 37) hx hb hts in_X11 hown hK hP 0 rfl rfl 3 (by decide) fl_100 (fun _ h9 => h9) rfl dX11_letter_43 ?_
      exact mu_iret X hP hS (by simp [aPut, nPut, fPut, c_4, hd, nI_1]) (by simp [aPut, nPut, fPut, c_4, hd, nI_1]) dX11_letter_46
    · have hd : ¬ dn < 20 := by have := (nI_eq (a := dn) (b := 20) (by omega) (by decide)).mp c_16; omega
      refine lv_bipush (v := -5) hx hb dX11_letter_19 (by decide) ?_
      exact mu_iret X hP hS (by simp [aPut, nPut, fPut, c_4, hd]) (by simp [aPut, nPut, fPut, c_4, hd]) dX11_letter_21
  · replace c_4 := bI_0.mp c_4
    refine lv_bipush (v := -3) hx hb dX11_letter_7 (by decide) ?_
    exact mu_iret X hP hS (by simp [aPut, nPut, fPut, c_4]) (by simp [aPut, nPut, fPut, c_4]) dX11_letter_9

theorem isBy_in {y : Int32} : inB y 0 255 = isBy y := by
  simp only [inB, isBy]
  congr 1
  by_cases h : (255 : Int32) < y
  · simp [h, Int32.not_le.mpr h]
  · simp [h, Int32.not_lt.mp h]

set_option maxHeartbeats 1000000 in
set_option maxRecDepth 100000 in
theorem c_X11_type {l : Launch} {D : va_G} {cI cJ cW : ClassId} {sz : Nat} {m : Nat} {a : Nat → Nat} {ct dn nw nj n tn tc mm : Nat} {τ : TS} {fu am pb : Int32} {L : Nat → Int32} {y : Int32} (hdn : n ≤ 80) : MU l yX11_type wsX11_type { frames := 1, cells := 0, slots := 0, locals := 22 } D (ty3 cI cJ cW) [.ref m, .int y] [(m, .inr (11, [.int (nI ct), .ref (a 1), .ref (a 2), .int (nI dn), .int (nI nw), .int (nI nj), .ref (a 6), .ref (a 7), .ref (a 8), .ref (a 9), .ref (a 10), .ref (a 11), .ref (a 12), .ref (a 13), .ref (a 14), .ref (a 15), .int (nI n), .int (nI tn), .ref (a 18), .ref (a 19), .ref (a 20), .ref (a 21), .ref (a 22), .ref (a 23), .ref (a 24), .ref (a 25), .int (nI τ.1), .int (τ.2.1), .ref (a 28), .int (nI tc), .int (nI mm), .ref (a 31), .ref (a 32), .ref (a 33), .int (fu), .int (am), .int (pb)])), ((a 15), .inl (cI, 80, .inl L))] sz (some (.int (aPut (isBy y) 80 n))) [(m, .inr (11, [.int (nI ct), .ref (a 1), .ref (a 2), .int (nI dn), .int (nI nw), .int (nI nj), .ref (a 6), .ref (a 7), .ref (a 8), .ref (a 9), .ref (a 10), .ref (a 11), .ref (a 12), .ref (a 13), .ref (a 14), .ref (a 15), .int (nI (nPut (isBy y) 80 n)), .int (nI tn), .ref (a 18), .ref (a 19), .ref (a 20), .ref (a 21), .ref (a 22), .ref (a 23), .ref (a 24), .ref (a 25), .int (nI τ.1), .int (τ.2.1), .ref (a 28), .int (nI tc), .int (nI mm), .ref (a 31), .ref (a 32), .ref (a 33), .int (fu), .int (am), .int (pb)])), ((a 15), .inl (cI, 80, .inl (fPut (isBy y) 80 n L y)))] := by
  refine mu_of (cc := cX11_type) (maxL := 2) (ret := (some .int)) (by decide) rfl (Nat.le_of_ble_eq_true rfl) ?_
  intro pr en ss mi below meth cd X hK A hA hP hD hS ls hl
  obtain ⟨hx, hb, hml, hown, hts, hr, hlocks⟩ := id X
  have fl_126 := hts (.fieldLink RX11 126 "WordTablesModel" "lined" "I") (by decide +kernel)
  have fl_43 := hts (.fieldLink RX11 43 "WordTablesModel" "line" "[I") (by decide +kernel)
  have in_X11 : ∀ w ∈ wsX110, w ∈ wsX11_type := by decide +kernel
  have hl : lv_has ls 2 [(0, .ref m), (1, .int y)] := hl
  refine lv_iload_n hx hb dX11_type_0 rfl (lv_at hl 1 rfl) ?_
  refine lv_iconst (v := 0) hx hb dX11_type_1 (by decide) ?_
  refine lv_sipush (v := 255) hx hb dX11_type_2 (by decide) ?_
  refine ro_S (n := 3) X hK (c_X11_in) gX11_type_X11_in rfl (by decide +kernel) ⟨rfl, rfl⟩ ⟨Nat.le_of_ble_eq_true rfl, Nat.le_of_ble_eq_true rfl⟩ (hP.sub [] rfl) rfl hl.1 rfl (Nat.le_of_ble_eq_true rfl) dX11_type_5 ⟨Nat.zero_le _, Nat.zero_le _⟩ ?_
  refine lv_if_ne (tgt := 14) hx hb dX11_type_8 (by decide) (fun c_8 => ?_) (fun c_8 => ?_)
  · replace c_8 := bI_n0.mp c_8
    have hby : isBy y = true := by rw [← isBy_in]; exact c_8
    refine lv_aload_n hx hb dX11_type_14 rfl (lv_at hl 0 rfl) ?_
    refine va_get (D := D) (ci := 11) (C := RX11) (T := TX11) (N := 37) hx hb hts in_X11 hown hK hP 0 rfl rfl 16 (by decide) fl_126 (fun _ h9 => h9) rfl dX11_type_15 ?_
    refine lv_bipush (v := 80) hx hb dX11_type_18 (by decide) ?_
    refine lv_icmp_ne (tgt := 26) hx hb dX11_type_20 (by decide) (fun c_20 => ?_) (fun c_20 => ?_)
    · have hd : n < 80 := by rcases Nat.lt_or_ge n 80 with q | q; exact q; exact absurd (show nI n = 80 by rw [show n = 80 by omega]; rfl) c_20
      refine lv_aload_n hx hb dX11_type_26 rfl (lv_at hl 0 rfl) ?_
      refine va_get (D := D) (ci := 11) (C := RX11) (T := TX11) (N := 37) hx hb hts in_X11 hown hK hP 0 rfl rfl 15 (by decide) fl_43 (fun _ h9 => h9) rfl dX11_type_27 ?_
      refine lv_aload_n hx hb dX11_type_30 rfl (lv_at hl 0 rfl) ?_
      refine va_get (D := D) (ci := 11) (C := RX11) (T := TX11) (N := 37) hx hb hts in_X11 hown hK hP 0 rfl rfl 16 (by decide) fl_126 (fun _ h9 => h9) rfl dX11_type_31 ?_
      refine lv_iload_n hx hb dX11_type_34 rfl (lv_at hl 1 rfl) ?_
      refine ast_n hx hb hK hP hD hS 1 0 rfl rfl hd (by decide) dX11_type_35 (fun H locs hP hD hS => ?_)
      have hP : va_P D vwCl [(m, .inr (11, [_, .ref (a 1), .ref (a 2), _, _, _, .ref (a 6), .ref (a 7), .ref (a 8), .ref (a 9), .ref (a 10), .ref (a 11), .ref (a 12), .ref (a 13), .ref (a 14), .ref (a 15), _, _, .ref (a 18), .ref (a 19), .ref (a 20), .ref (a 21), .ref (a 22), .ref (a 23), .ref (a 24), .ref (a 25), _, _, .ref (a 28), _, _, .ref (a 31), .ref (a 32), .ref (a 33), _, _, _])), ((a 15), .inl (cI, 80, .inl _))] H := hP
      have hD : va_D A [(m, .inr (11, [_, .ref (a 1), .ref (a 2), _, _, _, .ref (a 6), .ref (a 7), .ref (a 8), .ref (a 9), .ref (a 10), .ref (a 11), .ref (a 12), .ref (a 13), .ref (a 14), .ref (a 15), _, _, .ref (a 18), .ref (a 19), .ref (a 20), .ref (a 21), .ref (a 22), .ref (a 23), .ref (a 24), .ref (a 25), _, _, .ref (a 28), _, _, .ref (a 31), .ref (a 32), .ref (a 33), _, _, _])), ((a 15), .inl (cI, 80, .inl _))] := hD
      refine lv_aload_n hx hb dX11_type_36 rfl (lv_at hl 0 rfl) ?_
      refine lv_dup hx hb dX11_type_37 rfl ?_
      refine va_get (D := D) (ci := 11) (C := RX11) (T := TX11) (N := 37) hx hb hts in_X11 hown hK hP 0 rfl rfl 16 (by decide) fl_126 (fun _ h9 => h9) rfl dX11_type_38 ?_
      refine lv_iconst (v := 1) hx hb dX11_type_41 (by decide) ?_
      refine lv_iadd hx hb dX11_type_42 ?_
      refine va_put (D := D) (ci := 11) (ty := .int) (C := RX11) (T := TX11) (N := 37) hx hb hts in_X11 tyX11 tyX11_ok nmX11 hown hK hP hD hS 0 rfl rfl 16 (by decide) fl_126 (fun _ h9 => h9) rfl (by decide +kernel) rfl rfl (Nat.le_of_ble_eq_true rfl) dX11_type_43 (fun H locs hP hD hS => ?_)
      have hP : va_P D vwCl [(m, .inr (11, [_, .ref (a 1), .ref (a 2), _, _, _, .ref (a 6), .ref (a 7), .ref (a 8), .ref (a 9), .ref (a 10), .ref (a 11), .ref (a 12), .ref (a 13), .ref (a 14), .ref (a 15), _, _, .ref (a 18), .ref (a 19), .ref (a 20), .ref (a 21), .ref (a 22), .ref (a 23), .ref (a 24), .ref (a 25), _, _, .ref (a 28), _, _, .ref (a 31), .ref (a 32), .ref (a 33), _, _, _])), ((a 15), .inl (cI, 80, .inl _))] H := hP
      have hD : va_D A [(m, .inr (11, [_, .ref (a 1), .ref (a 2), _, _, _, .ref (a 6), .ref (a 7), .ref (a 8), .ref (a 9), .ref (a 10), .ref (a 11), .ref (a 12), .ref (a 13), .ref (a 14), .ref (a 15), _, _, .ref (a 18), .ref (a 19), .ref (a 20), .ref (a 21), .ref (a 22), .ref (a 23), .ref (a 24), .ref (a 25), _, _, .ref (a 28), _, _, .ref (a 31), .ref (a 32), .ref (a 33), _, _, _])), ((a 15), .inl (cI, 80, .inl _))] := hD
      refine lv_aload_n hx hb dX11_type_46 rfl (lv_at hl 0 rfl) ?_
      refine va_get (D := D) (ci := 11) (C := RX11) (T := TX11) (N := 37) hx hb hts in_X11 hown hK hP 0 rfl rfl 16 (by decide) fl_126 (fun _ h9 => h9) rfl dX11_type_47 ?_
      exact mu_iret X hP hS (by simp [aPut, nPut, fPut, hby, hd, nI_1]) (by simp [aPut, nPut, fPut, hby, hd, nI_1]) dX11_type_50
    · have hd : ¬ n < 80 := by have := (nI_eq (a := n) (b := 80) (by omega) (by decide)).mp c_20; omega
      refine lv_bipush (v := -5) hx hb dX11_type_23 (by decide) ?_
      exact mu_iret X hP hS (by simp [aPut, nPut, fPut, hby, hd]) (by simp [aPut, nPut, fPut, hby, hd]) dX11_type_25
  · replace c_8 := bI_0.mp c_8
    have hby : isBy y = false := by rw [← isBy_in]; exact c_8
    refine lv_bipush (v := -3) hx hb dX11_type_11 (by decide) ?_
    exact mu_iret X hP hS (by simp [aPut, nPut, fPut, hby]) (by simp [aPut, nPut, fPut, hby]) dX11_type_13
