/-! letters' tests and Row: what they come to -/
def isSm (c : Int32) : Bool := !decide (c < 97) && !decide (122 < c)
def isFo (c : Int32) : Bool := !decide (c < 128) && !decide (159 < c)
def isLe (c : Int32) : Bool := (!decide (c < 65) && !decide (90 < c)) || isSm c || isFo c
def rowAt (n : Int32) (N : Nat) (f : Nat → Int32) (k : Int32) : Int32 := if k < 0 then -1 else if n ≤ k then -1 else if nI N ≤ k then -1 else f k.toNatClampNeg
def putN (n : Int32) (N : Nat) : Int32 := if n < 0 then n else if nI N ≤ n then n else n + 1
def putF (f : Nat → Int32) (n : Int32) (N : Nat) (c : Int32) : Nat → Int32 := if n < 0 then f else if nI N ≤ n then f else upd f n.toNatClampNeg c
def cpF (f g : Nat → Int32) (m : Nat) : Nat → Int32 := fun k => if k < m then g k else f k
theorem cpF_0 (f g : Nat → Int32) : cpF f g 0 = f := by funext k; simp [cpF]
theorem cpF_s (f g : Nat → Int32) (m : Nat) : upd (cpF f g m) m (g m) = cpF f g (m + 1) := by
  funext k
  simp only [upd, cpF]
  by_cases h : k = m
  · subst h; simp
  · by_cases h2 : k < m
    · have : k < m + 1 := by omega
      simp [h, h2, this]
    · have : ¬ k < m + 1 := by omega
      simp [h, h2, this]
theorem putN_lt {k N : Nat} (h : k < N) (hN : N < 2 ^ 31) : putN (nI k) N = nI (k + 1) := by
  have h1 : ¬ nI k < 0 := nI_pos (by omega)
  have h2 : ¬ nI N ≤ nI k := nI_ge h hN
  simp [putN, h1, h2, nI_1]
theorem putF_lt {f : Nat → Int32} {k N : Nat} {c : Int32} (h : k < N) (hN : N < 2 ^ 31) : putF f (nI k) N c = upd f k c := by
  have h1 : ¬ nI k < 0 := nI_pos (by omega)
  have h2 : ¬ nI N ≤ nI k := nI_ge h hN
  simp [putF, h1, h2, nI_clamp (show k < 2 ^ 31 by omega)]
theorem rowAt_lt {n N k : Nat} {f : Nat → Int32} (h : k < n) (hN : k < N) (hn : n < 2 ^ 31) (hN2 : N < 2 ^ 31) : rowAt (nI n) N f (nI k) = f k := by
  have h1 : ¬ nI k < 0 := nI_pos (by omega)
  have h2 : ¬ nI N ≤ nI k := nI_ge hN hN2
  have h3 : ¬ nI n ≤ nI k := nI_ge h hn
  simp [rowAt, h1, h2, h3, nI_clamp (show k < 2 ^ 31 by omega)]

set_option maxHeartbeats 1000000 in
set_option maxRecDepth 100000 in
theorem c_X3_isSmall {l : Launch} {D : va_G} {cI cJ cW : ClassId} {c : Int32}  : RO l yX3_isSmall wsX3_isSmall { frames := 0, cells := 0, slots := 0, locals := 0 } D (ty3 cI cJ cW) [.int c] [] (.int (bI (isSm c))) := by
  refine ro_of (cc := cX3_isSmall) (maxL := 1) (ret := (some .boolean)) (by decide) rfl (Nat.le_of_ble_eq_true rfl) ?_
  intro pr en ss mi below meth cd X hP hK ls hl
  obtain ⟨hx, hb, hml, hown, hts, hr, hlocks⟩ := id X
  have hl : lv_has ls 1 [(0, .int c)] := hl
  refine lv_iload_n hx hb dX3_isSmall_0 rfl (lv_at hl 0 rfl) ?_
  refine lv_bipush (v := 97) hx hb dX3_isSmall_1 (by decide) ?_
  refine lv_icmp_lt (tgt := 16) hx hb dX3_isSmall_3 (by decide) (fun c_3 => ?_) (fun c_3 => ?_)
  · refine lv_iconst (v := 0) hx hb dX3_isSmall_16 (by decide) ?_
    exact ro_zret X (by simp [isSm, bI, c_3]) dX3_isSmall_17
  · refine lv_iload_n hx hb dX3_isSmall_6 rfl (lv_at hl 0 rfl) ?_
    refine lv_bipush (v := 122) hx hb dX3_isSmall_7 (by decide) ?_
    refine lv_icmp_gt (tgt := 16) hx hb dX3_isSmall_9 (by decide) (fun c_9 => ?_) (fun c_9 => ?_)
    · refine lv_iconst (v := 0) hx hb dX3_isSmall_16 (by decide) ?_
      exact ro_zret X (by simp [isSm, bI, c_3, c_9]) dX3_isSmall_17
    · refine lv_iconst (v := 1) hx hb dX3_isSmall_12 (by decide) ?_
      refine lv_goto (tgt := 17) hx hb dX3_isSmall_13 (by decide) ?_
      exact ro_zret X (by simp [isSm, bI, c_3, c_9]) dX3_isSmall_17

set_option maxHeartbeats 1000000 in
set_option maxRecDepth 100000 in
theorem c_X3_isFoldable {l : Launch} {D : va_G} {cI cJ cW : ClassId} {c : Int32}  : RO l yX3_isFoldable wsX3_isFoldable { frames := 0, cells := 0, slots := 0, locals := 0 } D (ty3 cI cJ cW) [.int c] [] (.int (bI (isFo c))) := by
  refine ro_of (cc := cX3_isFoldable) (maxL := 1) (ret := (some .boolean)) (by decide) rfl (Nat.le_of_ble_eq_true rfl) ?_
  intro pr en ss mi below meth cd X hP hK ls hl
  obtain ⟨hx, hb, hml, hown, hts, hr, hlocks⟩ := id X
  have hl : lv_has ls 1 [(0, .int c)] := hl
  refine lv_iload_n hx hb dX3_isFoldable_0 rfl (lv_at hl 0 rfl) ?_
  refine lv_sipush (v := 128) hx hb dX3_isFoldable_1 (by decide) ?_
  refine lv_icmp_lt (tgt := 18) hx hb dX3_isFoldable_4 (by decide) (fun c_4 => ?_) (fun c_4 => ?_)
  · refine lv_iconst (v := 0) hx hb dX3_isFoldable_18 (by decide) ?_
    exact ro_zret X (by simp [isFo, bI, c_4]) dX3_isFoldable_19
  · refine lv_iload_n hx hb dX3_isFoldable_7 rfl (lv_at hl 0 rfl) ?_
    refine lv_sipush (v := 159) hx hb dX3_isFoldable_8 (by decide) ?_
    refine lv_icmp_gt (tgt := 18) hx hb dX3_isFoldable_11 (by decide) (fun c_11 => ?_) (fun c_11 => ?_)
    · refine lv_iconst (v := 0) hx hb dX3_isFoldable_18 (by decide) ?_
      exact ro_zret X (by simp [isFo, bI, c_4, c_11]) dX3_isFoldable_19
    · refine lv_iconst (v := 1) hx hb dX3_isFoldable_14 (by decide) ?_
      refine lv_goto (tgt := 19) hx hb dX3_isFoldable_15 (by decide) ?_
      exact ro_zret X (by simp [isFo, bI, c_4, c_11]) dX3_isFoldable_19

set_option maxHeartbeats 1000000 in
set_option maxRecDepth 100000 in
theorem c_X3_isLetter {l : Launch} {D : va_G} {cI cJ cW : ClassId} {c : Int32}  : RO l yX3_isLetter wsX3_isLetter { frames := 1, cells := 0, slots := 0, locals := 20 } D (ty3 cI cJ cW) [.int c] [] (.int (bI (isLe c))) := by
  refine ro_of (cc := cX3_isLetter) (maxL := 1) (ret := (some .boolean)) (by decide) rfl (Nat.le_of_ble_eq_true rfl) ?_
  intro pr en ss mi below meth cd X hP hK ls hl
  obtain ⟨hx, hb, hml, hown, hts, hr, hlocks⟩ := id X
  have hl : lv_has ls 1 [(0, .int c)] := hl
  refine lv_iload_n hx hb dX3_isLetter_0 rfl (lv_at hl 0 rfl) ?_
  refine lv_bipush (v := 65) hx hb dX3_isLetter_1 (by decide) ?_
  refine lv_icmp_lt (tgt := 12) hx hb dX3_isLetter_3 (by decide) (fun c_3 => ?_) (fun c_3 => ?_)
  · refine lv_iload_n hx hb dX3_isLetter_12 rfl (lv_at hl 0 rfl) ?_
    refine ro_S (n := 1) X hK (c_X3_isSmall) gX3_isLetter_X3_isSmall rfl (by decide +kernel) ⟨rfl, rfl⟩ ⟨Nat.le_of_ble_eq_true rfl, Nat.le_of_ble_eq_true rfl⟩ (hP.sub [] rfl) rfl hl.1 rfl (Nat.le_of_ble_eq_true rfl) dX3_isLetter_13 ⟨Nat.zero_le _, Nat.zero_le _⟩ ?_
    refine lv_if_ne (tgt := 26) hx hb dX3_isLetter_16 (by decide) (fun c_16 => ?_) (fun c_16 => ?_)
    · replace c_16 := bI_n0.mp c_16
      refine lv_iconst (v := 1) hx hb dX3_isLetter_26 (by decide) ?_
      refine lv_goto (tgt := 31) hx hb dX3_isLetter_27 (by decide) ?_
      exact ro_zret X (by simp [isLe, bI, c_3, c_16]) dX3_isLetter_31
    · replace c_16 := bI_0.mp c_16
      refine lv_iload_n hx hb dX3_isLetter_19 rfl (lv_at hl 0 rfl) ?_
      refine ro_S (n := 1) X hK (c_X3_isFoldable) gX3_isLetter_X3_isFoldable rfl (by decide +kernel) ⟨rfl, rfl⟩ ⟨Nat.le_of_ble_eq_true rfl, Nat.le_of_ble_eq_true rfl⟩ (hP.sub [] rfl) rfl hl.1 rfl (Nat.le_of_ble_eq_true rfl) dX3_isLetter_20 ⟨Nat.zero_le _, Nat.zero_le _⟩ ?_
      refine lv_if_eq (tgt := 30) hx hb dX3_isLetter_23 (by decide) (fun c_23 => ?_) (fun c_23 => ?_)
      · replace c_23 := bI_0.mp c_23
        refine lv_iconst (v := 0) hx hb dX3_isLetter_30 (by decide) ?_
        exact ro_zret X (by simp [isLe, bI, c_3, c_16, c_23]) dX3_isLetter_31
      · replace c_23 := bI_n0.mp c_23
        refine lv_iconst (v := 1) hx hb dX3_isLetter_26 (by decide) ?_
        refine lv_goto (tgt := 31) hx hb dX3_isLetter_27 (by decide) ?_
        exact ro_zret X (by simp [isLe, bI, c_3, c_16, c_23]) dX3_isLetter_31
  · refine lv_iload_n hx hb dX3_isLetter_6 rfl (lv_at hl 0 rfl) ?_
    refine lv_bipush (v := 90) hx hb dX3_isLetter_7 (by decide) ?_
    refine lv_icmp_le (tgt := 26) hx hb dX3_isLetter_9 (by decide) (fun c_9 => ?_) (fun c_9 => ?_)
    · refine lv_iconst (v := 1) hx hb dX3_isLetter_26 (by decide) ?_
      refine lv_goto (tgt := 31) hx hb dX3_isLetter_27 (by decide) ?_
      exact ro_zret X (by simp [isLe, bI, c_3, c_9]) dX3_isLetter_31
    · refine lv_iload_n hx hb dX3_isLetter_12 rfl (lv_at hl 0 rfl) ?_
      refine ro_S (n := 1) X hK (c_X3_isSmall) gX3_isLetter_X3_isSmall rfl (by decide +kernel) ⟨rfl, rfl⟩ ⟨Nat.le_of_ble_eq_true rfl, Nat.le_of_ble_eq_true rfl⟩ (hP.sub [] rfl) rfl hl.1 rfl (Nat.le_of_ble_eq_true rfl) dX3_isLetter_13 ⟨Nat.zero_le _, Nat.zero_le _⟩ ?_
      refine lv_if_ne (tgt := 26) hx hb dX3_isLetter_16 (by decide) (fun c_16 => ?_) (fun c_16 => ?_)
      · replace c_16 := bI_n0.mp c_16
        refine lv_iconst (v := 1) hx hb dX3_isLetter_26 (by decide) ?_
        refine lv_goto (tgt := 31) hx hb dX3_isLetter_27 (by decide) ?_
        exact ro_zret X (by simp [isLe, bI, c_3, c_9, c_16]) dX3_isLetter_31
      · replace c_16 := bI_0.mp c_16
        refine lv_iload_n hx hb dX3_isLetter_19 rfl (lv_at hl 0 rfl) ?_
        refine ro_S (n := 1) X hK (c_X3_isFoldable) gX3_isLetter_X3_isFoldable rfl (by decide +kernel) ⟨rfl, rfl⟩ ⟨Nat.le_of_ble_eq_true rfl, Nat.le_of_ble_eq_true rfl⟩ (hP.sub [] rfl) rfl hl.1 rfl (Nat.le_of_ble_eq_true rfl) dX3_isLetter_20 ⟨Nat.zero_le _, Nat.zero_le _⟩ ?_
        refine lv_if_eq (tgt := 30) hx hb dX3_isLetter_23 (by decide) (fun c_23 => ?_) (fun c_23 => ?_)
        · replace c_23 := bI_0.mp c_23
          refine lv_iconst (v := 0) hx hb dX3_isLetter_30 (by decide) ?_
          exact ro_zret X (by simp [isLe, bI, c_3, c_9, c_16, c_23]) dX3_isLetter_31
        · replace c_23 := bI_n0.mp c_23
          refine lv_iconst (v := 1) hx hb dX3_isLetter_26 (by decide) ?_
          refine lv_goto (tgt := 31) hx hb dX3_isLetter_27 (by decide) ?_
          exact ro_zret X (by simp [isLe, bI, c_3, c_9, c_16, c_23]) dX3_isLetter_31

set_option maxHeartbeats 1000000 in
set_option maxRecDepth 100000 in
theorem c_X4_isFull {l : Launch} {D : va_G} {cI cJ cW : ClassId} {h b : Nat} {n : Int32} {N : Nat} {f : Nat → Int32}  : RO l yX4_isFull wsX4_isFull { frames := 0, cells := 0, slots := 0, locals := 0 } D (ty3 cI cJ cW) [.ref h] [(h, .inr (4, [.ref b, .int n])), (b, .inl (cI, N, .inl f))] (.int (bI (decide (nI N ≤ n)))) := by
  refine ro_of (cc := cX4_isFull) (maxL := 1) (ret := (some .boolean)) (by decide) rfl (Nat.le_of_ble_eq_true rfl) ?_
  intro pr en ss mi below meth cd X hP hK ls hl
  obtain ⟨hx, hb, hml, hown, hts, hr, hlocks⟩ := id X
  have fl_15 := hts (.fieldLink RX4 15 "WordTables$Row" "bytes" "[I") (by decide +kernel)
  have fl_21 := hts (.fieldLink RX4 21 "WordTables$Row" "count" "I") (by decide +kernel)
  have in_X4 : ∀ w ∈ wsX40, w ∈ wsX4_isFull := by decide +kernel
  have hl : lv_has ls 1 [(0, .ref h)] := hl
  refine lv_aload_n hx hb dX4_isFull_0 rfl (lv_at hl 0 rfl) ?_
  refine va_get (D := D) (ci := 4) (C := RX4) (T := TX4) (N := 2) hx hb hts in_X4 hown hK hP 0 rfl rfl 1 (by decide) fl_21 (fun _ h9 => h9) rfl dX4_isFull_1 ?_
  refine lv_aload_n hx hb dX4_isFull_4 rfl (lv_at hl 0 rfl) ?_
  refine va_get (D := D) (ci := 4) (C := RX4) (T := TX4) (N := 2) hx hb hts in_X4 hown hK hP 0 rfl rfl 0 (by decide) fl_15 (fun _ h9 => h9) rfl dX4_isFull_5 ?_
  refine va_alen (v := nI N) hx hb hK hP 1 0 rfl rfl rfl dX4_isFull_8 ?_
  refine lv_icmp_lt (tgt := 16) hx hb dX4_isFull_9 (by decide) (fun c_9 => ?_) (fun c_9 => ?_)
  · refine lv_iconst (v := 0) hx hb dX4_isFull_16 (by decide) ?_
    exact ro_zret X (by simp [bI, c_9]) dX4_isFull_17
  · refine lv_iconst (v := 1) hx hb dX4_isFull_12 (by decide) ?_
    refine lv_goto (tgt := 17) hx hb dX4_isFull_13 (by decide) ?_
    exact ro_zret X (by simp [bI, c_9]) dX4_isFull_17

set_option maxHeartbeats 1000000 in
set_option maxRecDepth 100000 in
theorem c_X4_byteAt {l : Launch} {D : va_G} {cI cJ cW : ClassId} {h b : Nat} {n : Int32} {N : Nat} {f : Nat → Int32} {k : Int32} (hN : N < 2 ^ 31) : RO l yX4_byteAt wsX4_byteAt { frames := 0, cells := 0, slots := 0, locals := 0 } D (ty3 cI cJ cW) [.ref h, .int k] [(h, .inr (4, [.ref b, .int n])), (b, .inl (cI, N, .inl f))] (.int (rowAt n N f k)) := by
  refine ro_of (cc := cX4_byteAt) (maxL := 2) (ret := (some .int)) (by decide) rfl (Nat.le_of_ble_eq_true rfl) ?_
  intro pr en ss mi below meth cd X hP hK ls hl
  obtain ⟨hx, hb, hml, hown, hts, hr, hlocks⟩ := id X
  have fl_15 := hts (.fieldLink RX4 15 "WordTables$Row" "bytes" "[I") (by decide +kernel)
  have fl_21 := hts (.fieldLink RX4 21 "WordTables$Row" "count" "I") (by decide +kernel)
  have in_X4 : ∀ w ∈ wsX40, w ∈ wsX4_byteAt := by decide +kernel
  have hl : lv_has ls 2 [(0, .ref h), (1, .int k)] := hl
  refine lv_iload_n hx hb dX4_byteAt_0 rfl (lv_at hl 1 rfl) ?_
  refine lv_if_lt (tgt := 30) hx hb dX4_byteAt_1 (by decide) (fun c_1 => ?_) (fun c_1 => ?_)
  · refine lv_iconst (v := -1) hx hb dX4_byteAt_30 (by decide) ?_
    exact ro_iret X (by simp [rowAt, c_1]) dX4_byteAt_31
  · refine lv_iload_n hx hb dX4_byteAt_4 rfl (lv_at hl 1 rfl) ?_
    refine lv_aload_n hx hb dX4_byteAt_5 rfl (lv_at hl 0 rfl) ?_
    refine va_get (D := D) (ci := 4) (C := RX4) (T := TX4) (N := 2) hx hb hts in_X4 hown hK hP 0 rfl rfl 1 (by decide) fl_21 (fun _ h9 => h9) rfl dX4_byteAt_6 ?_
    refine lv_icmp_ge (tgt := 30) hx hb dX4_byteAt_9 (by decide) (fun c_9 => ?_) (fun c_9 => ?_)
    · refine lv_iconst (v := -1) hx hb dX4_byteAt_30 (by decide) ?_
      exact ro_iret X (by simp [rowAt, c_1, c_9]) dX4_byteAt_31
    · refine lv_iload_n hx hb dX4_byteAt_12 rfl (lv_at hl 1 rfl) ?_
      refine lv_aload_n hx hb dX4_byteAt_13 rfl (lv_at hl 0 rfl) ?_
      refine va_get (D := D) (ci := 4) (C := RX4) (T := TX4) (N := 2) hx hb hts in_X4 hown hK hP 0 rfl rfl 0 (by decide) fl_15 (fun _ h9 => h9) rfl dX4_byteAt_14 ?_
      refine va_alen (v := nI N) hx hb hK hP 1 0 rfl rfl rfl dX4_byteAt_17 ?_
      refine lv_icmp_ge (tgt := 30) hx hb dX4_byteAt_18 (by decide) (fun c_18 => ?_) (fun c_18 => ?_)
      · refine lv_iconst (v := -1) hx hb dX4_byteAt_30 (by decide) ?_
        exact ro_iret X (by simp [rowAt, c_1, c_9, c_18]) dX4_byteAt_31
      · refine lv_aload_n hx hb dX4_byteAt_21 rfl (lv_at hl 0 rfl) ?_
        refine va_get (D := D) (ci := 4) (C := RX4) (T := TX4) (N := 2) hx hb hts in_X4 hown hK hP 0 rfl rfl 0 (by decide) fl_15 (fun _ h9 => h9) rfl dX4_byteAt_22 ?_
        refine lv_iload_n hx hb dX4_byteAt_25 rfl (lv_at hl 1 rfl) ?_
        refine va_iald hx hb hK hP 1 0 rfl rfl (in_lt (by assumption) (by assumption) hN) dX4_byteAt_26 ?_
        refine lv_goto (tgt := 31) hx hb dX4_byteAt_27 (by decide) ?_
        exact ro_iret X (by simp [rowAt, c_1, c_9, c_18]) dX4_byteAt_31

set_option maxHeartbeats 1000000 in
set_option maxRecDepth 100000 in
theorem c_X4_put {l : Launch} {D : va_G} {cI cJ cW : ClassId} {sz : Nat} {h b : Nat} {n : Int32} {N : Nat} {f : Nat → Int32} {k : Int32} (hN : N < 2 ^ 31) : MU l yX4_put wsX4_put { frames := 0, cells := 0, slots := 0, locals := 0 } D (ty3 cI cJ cW) [.ref h, .int k] [(h, .inr (4, [.ref b, .int n])), (b, .inl (cI, N, .inl f))] sz none [(h, .inr (4, [.ref b, .int (putN n N)])), (b, .inl (cI, N, .inl (putF f n N k)))] := by
  refine mu_of (cc := cX4_put) (maxL := 2) (ret := none) (by decide) rfl (Nat.le_of_ble_eq_true rfl) ?_
  intro pr en ss mi below meth cd X hK A hA hP hD hS ls hl
  obtain ⟨hx, hb, hml, hown, hts, hr, hlocks⟩ := id X
  have fl_15 := hts (.fieldLink RX4 15 "WordTables$Row" "bytes" "[I") (by decide +kernel)
  have fl_21 := hts (.fieldLink RX4 21 "WordTables$Row" "count" "I") (by decide +kernel)
  have in_X4 : ∀ w ∈ wsX40, w ∈ wsX4_put := by decide +kernel
  have hl : lv_has ls 2 [(0, .ref h), (1, .int k)] := hl
  refine lv_aload_n hx hb dX4_put_0 rfl (lv_at hl 0 rfl) ?_
  refine va_get (D := D) (ci := 4) (C := RX4) (T := TX4) (N := 2) hx hb hts in_X4 hown hK hP 0 rfl rfl 1 (by decide) fl_21 (fun _ h9 => h9) rfl dX4_put_1 ?_
  refine lv_if_lt (tgt := 39) hx hb dX4_put_4 (by decide) (fun c_4 => ?_) (fun c_4 => ?_)
  · exact mu_vret X hP hS (by simp [putN, putF, c_4]) dX4_put_39
  · refine lv_aload_n hx hb dX4_put_7 rfl (lv_at hl 0 rfl) ?_
    refine va_get (D := D) (ci := 4) (C := RX4) (T := TX4) (N := 2) hx hb hts in_X4 hown hK hP 0 rfl rfl 1 (by decide) fl_21 (fun _ h9 => h9) rfl dX4_put_8 ?_
    refine lv_aload_n hx hb dX4_put_11 rfl (lv_at hl 0 rfl) ?_
    refine va_get (D := D) (ci := 4) (C := RX4) (T := TX4) (N := 2) hx hb hts in_X4 hown hK hP 0 rfl rfl 0 (by decide) fl_15 (fun _ h9 => h9) rfl dX4_put_12 ?_
    refine va_alen (v := nI N) hx hb hK hP 1 0 rfl rfl rfl dX4_put_15 ?_
    refine lv_icmp_ge (tgt := 39) hx hb dX4_put_16 (by decide) (fun c_16 => ?_) (fun c_16 => ?_)
    · exact mu_vret X hP hS (by simp [putN, putF, c_4, c_16]) dX4_put_39
    · refine lv_aload_n hx hb dX4_put_19 rfl (lv_at hl 0 rfl) ?_
      refine va_get (D := D) (ci := 4) (C := RX4) (T := TX4) (N := 2) hx hb hts in_X4 hown hK hP 0 rfl rfl 0 (by decide) fl_15 (fun _ h9 => h9) rfl dX4_put_20 ?_
      refine lv_aload_n hx hb dX4_put_23 rfl (lv_at hl 0 rfl) ?_
      refine va_get (D := D) (ci := 4) (C := RX4) (T := TX4) (N := 2) hx hb hts in_X4 hown hK hP 0 rfl rfl 1 (by decide) fl_21 (fun _ h9 => h9) rfl dX4_put_24 ?_
      refine lv_iload_n hx hb dX4_put_27 rfl (lv_at hl 1 rfl) ?_
      refine va_iast hx hb hK hP hD hS 1 0 rfl rfl (in_lt (by assumption) (by assumption) hN) dX4_put_28 (fun H locs hP hD hS => ?_)
      have hP : va_P D vwCl [(h, .inr (4, [.ref b, _])), (b, .inl (cI, N, .inl _))] H := hP
      have hD : va_D A [(h, .inr (4, [.ref b, _])), (b, .inl (cI, N, .inl _))] := hD
      refine lv_aload_n hx hb dX4_put_29 rfl (lv_at hl 0 rfl) ?_
      refine lv_dup hx hb dX4_put_30 rfl ?_
      refine va_get (D := D) (ci := 4) (C := RX4) (T := TX4) (N := 2) hx hb hts in_X4 hown hK hP 0 rfl rfl 1 (by decide) fl_21 (fun _ h9 => h9) rfl dX4_put_31 ?_
      refine lv_iconst (v := 1) hx hb dX4_put_34 (by decide) ?_
      refine lv_iadd hx hb dX4_put_35 ?_
      refine va_put (D := D) (ci := 4) (ty := .int) (C := RX4) (T := TX4) (N := 2) hx hb hts in_X4 tyX4 tyX4_ok nmX4 hown hK hP hD hS 0 rfl rfl 1 (by decide) fl_21 (fun _ h9 => h9) rfl (by decide +kernel) rfl rfl (Nat.le_of_ble_eq_true rfl) dX4_put_36 (fun H locs hP hD hS => ?_)
      have hP : va_P D vwCl [(h, .inr (4, [.ref b, _])), (b, .inl (cI, N, .inl _))] H := hP
      have hD : va_D A [(h, .inr (4, [.ref b, _])), (b, .inl (cI, N, .inl _))] := hD
      exact mu_vret X hP hS (by simp [putN, putF, c_4, c_16]) dX4_put_39

set_option maxHeartbeats 1000000 in
set_option maxRecDepth 100000 in
theorem c_X4_clear {l : Launch} {D : va_G} {cI cJ cW : ClassId} {sz : Nat} {h b : Nat} {n : Int32} {N : Nat} {f : Nat → Int32}  : MU l yX4_clear wsX4_clear { frames := 0, cells := 0, slots := 0, locals := 0 } D (ty3 cI cJ cW) [.ref h] [(h, .inr (4, [.ref b, .int n])), (b, .inl (cI, N, .inl f))] sz none [(h, .inr (4, [.ref b, .int 0])), (b, .inl (cI, N, .inl f))] := by
  refine mu_of (cc := cX4_clear) (maxL := 1) (ret := none) (by decide) rfl (Nat.le_of_ble_eq_true rfl) ?_
  intro pr en ss mi below meth cd X hK A hA hP hD hS ls hl
  obtain ⟨hx, hb, hml, hown, hts, hr, hlocks⟩ := id X
  have fl_21 := hts (.fieldLink RX4 21 "WordTables$Row" "count" "I") (by decide +kernel)
  have in_X4 : ∀ w ∈ wsX40, w ∈ wsX4_clear := by decide +kernel
  have hl : lv_has ls 1 [(0, .ref h)] := hl
  refine lv_aload_n hx hb dX4_clear_0 rfl (lv_at hl 0 rfl) ?_
  refine lv_iconst (v := 0) hx hb dX4_clear_1 (by decide) ?_
  refine va_put (D := D) (ci := 4) (ty := .int) (C := RX4) (T := TX4) (N := 2) hx hb hts in_X4 tyX4 tyX4_ok nmX4 hown hK hP hD hS 0 rfl rfl 1 (by decide) fl_21 (fun _ h9 => h9) rfl (by decide +kernel) rfl rfl (Nat.le_of_ble_eq_true rfl) dX4_clear_2 (fun H locs hP hD hS => ?_)
  have hP : va_P D vwCl [(h, .inr (4, [.ref b, _])), (b, .inl (cI, N, .inl _))] H := hP
  have hD : va_D A [(h, .inr (4, [.ref b, _])), (b, .inl (cI, N, .inl _))] := hD
  exact mu_vret X hP hS (rfl) dX4_clear_5

set_option maxHeartbeats 1000000 in
set_option maxRecDepth 100000 in
theorem c_X4_copyFrom {l : Launch} {D : va_G} {cI cJ cW : ClassId} {sz : Nat} {h b : Nat} {n : Int32} {N : Nat} {f : Nat → Int32} {o ob mm oN : Nat} {g : Nat → Int32} (hN : N < 2 ^ 31) (hoN : oN < 2 ^ 31) (hm1 : mm ≤ N) (hm2 : mm ≤ oN) : MU l yX4_copyFrom wsX4_copyFrom { frames := 1, cells := 0, slots := 0, locals := 21 } D (ty3 cI cJ cW) [.ref h, .ref o] [(h, .inr (4, [.ref b, .int n])), (b, .inl (cI, N, .inl f)), (o, .inr (4, [.ref ob, .int (nI mm)])), (ob, .inl (cI, oN, .inl g))] sz none [(h, .inr (4, [.ref b, .int (nI mm)])), (b, .inl (cI, N, .inl (cpF f g mm))), (o, .inr (4, [.ref ob, .int (nI mm)])), (ob, .inl (cI, oN, .inl g))] := by
  refine mu_of (cc := cX4_copyFrom) (maxL := 3) (ret := none) (by decide) rfl (Nat.le_of_ble_eq_true rfl) ?_
  intro pr en ss mi below meth cd X hK A hA hP hD hS ls hl
  obtain ⟨hx, hb, hml, hown, hts, hr, hlocks⟩ := id X
  have fl_21 := hts (.fieldLink RX4 21 "WordTables$Row" "count" "I") (by decide +kernel)
  have in_X4 : ∀ w ∈ wsX40, w ∈ wsX4_copyFrom := by decide +kernel
  have hl : lv_has ls 3 [(0, .ref h), (1, .ref o)] := hl
  refine lv_aload_n hx hb dX4_copyFrom_0 rfl (lv_at hl 0 rfl) ?_
  refine mu_V (n := 0) X hK (c_X4_clear) gX4_copyFrom_X4_clear rfl (by decide +kernel) ⟨rfl, rfl⟩ ⟨Nat.le_of_ble_eq_true rfl, Nat.le_of_ble_eq_true rfl⟩ [0, 1] rfl rfl rfl rfl hA hP hD hS (va_recv hK hP (ci := 4) (q0 := 0) rfl rfl) rfl hl.1 rfl (Nat.le_of_ble_eq_true rfl) dX4_copyFrom_1 ⟨Nat.zero_le _, Nat.zero_le _⟩ (fun H locs hP hD hS => ?_)
  have hP : va_P D vwCl [(h, .inr (4, [.ref b, _])), (b, .inl (cI, N, .inl _)), (o, .inr (4, [.ref ob, _])), (ob, .inl (cI, oN, .inl _))] H := hP
  have hD : va_D A [(h, .inr (4, [.ref b, _])), (b, .inl (cI, N, .inl _)), (o, .inr (4, [.ref ob, _])), (ob, .inl (cI, oN, .inl _))] := hD
  refine lv_iconst (v := 0) hx hb dX4_copyFrom_4 (by decide) ?_
  refine lv_istore_n (lv' := [(2, _), (0, _), (1, _)]) hx hb dX4_copyFrom_5 rfl hl (by decide) rfl (fun ls hl => ?_)
  have loop_6 : ∀ (fuel : Nat) (k : Nat), mm - k < fuel → k ≤ mm → ∀ (H : Heap) (locs : List Loc), va_P D vwCl [(h, .inr (4, [.ref b, .int (nI k)])), (b, .inl (cI, N, .inl (cpF f g k))), (o, .inr (4, [.ref ob, .int (nI mm)])), (ob, .inl (cI, oN, .inl g))] H → va_D A [(h, .inr (4, [.ref b, .int (nI k)])), (b, .inl (cI, N, .inl (cpF f g k))), (o, .inr (4, [.ref ob, .int (nI mm)])), (ob, .inl (cI, oN, .inl g))] → va_S A ss.heap H locs → ∀ ls : Array Slot, lv_has ls 3 [(0, .ref h), (1, .ref o), (2, .int (nI k))] → W pr l en { frames := 1, cells := 0, slots := 0, locals := 21 } ss mi ([.ref h, .ref o] : List Value).toArray below meth cd H locs 0 0 (MQ below (mQ none D [(h, .inr (4, [.ref b, .int (nI mm)])), (b, .inl (cI, N, .inl (cpF f g mm))), (o, .inr (4, [.ref ob, .int (nI mm)])), (ob, .inl (cI, oN, .inl g))] A) ([.ref h, .ref o] : List Value).toArray ss 0 0 A) (F0 mi 6 ls []) := by
    intro fuel
    induction fuel with
    | zero => intro k hm; exact absurd hm (Nat.not_lt_zero _)
    | succ fuel ih =>
      intro k hm hk H locs hP hD hS ls hl
      refine lv_iload_n hx hb dX4_copyFrom_6 rfl (lv_at hl 2 rfl) ?_
      refine lv_aload_n hx hb dX4_copyFrom_7 rfl (lv_at hl 1 rfl) ?_
      refine va_get (D := D) (ci := 4) (C := RX4) (T := TX4) (N := 2) hx hb hts in_X4 hown hK hP 2 rfl rfl 1 (by decide) fl_21 (fun _ h9 => h9) rfl dX4_copyFrom_8 ?_
      refine lv_icmp_ge (tgt := 29) hx hb dX4_copyFrom_11 (by decide) (fun c_11 => ?_) (fun c_11 => ?_)
      · have hkm : k = mm := eq_ge c_11 hk (by omega)
        subst hkm
        exact mu_vret X hP hS (rfl) dX4_copyFrom_29
      · have hlt : k < mm := lt_nge c_11 hk (by omega)
        refine lv_aload_n hx hb dX4_copyFrom_14 rfl (lv_at hl 0 rfl) ?_
        refine lv_aload_n hx hb dX4_copyFrom_15 rfl (lv_at hl 1 rfl) ?_
        refine lv_iload_n hx hb dX4_copyFrom_16 rfl (lv_at hl 2 rfl) ?_
        refine ro_V (n := 1) X hK (c_X4_byteAt hoN) gX4_copyFrom_X4_byteAt rfl (by decide +kernel) ⟨rfl, rfl⟩ ⟨Nat.le_of_ble_eq_true rfl, Nat.le_of_ble_eq_true rfl⟩ (hP.sub [2, 3] rfl) (va_recv hK hP (ci := 4) (q0 := 2) rfl rfl) rfl hl.1 rfl (Nat.le_of_ble_eq_true rfl) dX4_copyFrom_17 ⟨Nat.zero_le _, Nat.zero_le _⟩ ?_
        refine mu_V (n := 1) X hK (c_X4_put hN) gX4_copyFrom_X4_put rfl (by decide +kernel) ⟨rfl, rfl⟩ ⟨Nat.le_of_ble_eq_true rfl, Nat.le_of_ble_eq_true rfl⟩ [0, 1] rfl rfl rfl rfl hA hP hD hS (va_recv hK hP (ci := 4) (q0 := 0) rfl rfl) rfl hl.1 rfl (Nat.le_of_ble_eq_true rfl) dX4_copyFrom_20 ⟨Nat.zero_le _, Nat.zero_le _⟩ (fun H locs hP hD hS => ?_)
        have hP : va_P D vwCl [(h, .inr (4, [.ref b, _])), (b, .inl (cI, N, .inl _)), (o, .inr (4, [.ref ob, _])), (ob, .inl (cI, oN, .inl _))] H := hP
        have hD : va_D A [(h, .inr (4, [.ref b, _])), (b, .inl (cI, N, .inl _)), (o, .inr (4, [.ref ob, _])), (ob, .inl (cI, oN, .inl _))] := hD
        refine lv_iinc (v := (_ : Int32) + 1) (lv' := [(2, _), (0, _), (1, _)]) hx hb dX4_copyFrom_23 hl (k := 2) rfl rfl (by decide) rfl (fun ls hl => ?_)
        refine lv_goto (tgt := 6) hx hb dX4_copyFrom_26 (by decide) ?_
        rw [nI_1] at hl
        rw [rowAt_lt hlt (by omega) (by omega) hoN, putN_lt (by omega) hN, putF_lt (by omega) hN, cpF_s] at hP hD
        exact ih (k + 1) (by omega) (by omega) _ _ hP hD hS _ (lv_sub hl [1, 2, 0] rfl)
  rw [show (0 : Int32) = nI 0 from rfl] at hl hP hD
  rw [← cpF_0 f g] at hP hD
  exact loop_6 (mm + 1) 0 (by omega) (Nat.zero_le _) _ _ hP hD hS ls (lv_sub hl [1, 2, 0] rfl)
