theorem tm_iff {n : Nat} {L : Nat → Int32} {p c : Nat} : tmB n L p c = true ↔ c - p ≤ 2 ∧ bt n L c = 58 ∧ sp isDi L n (c + 1) = c + 3 ∧ numN L p (c - p) 0 ≤ 23 ∧ numN L (c + 1) 2 0 ≤ 59 := by
  simp [tmB, and_assoc]
theorem tm4 (a b c : Nat) : nI 60 * (nI a + nI b) + nI c = nI (60 * (a + b) + c) := by rw [nI_add, pk_mul, nI_add]
theorem tm2 (a c : Nat) : nI 60 * nI a + nI c = nI (60 * a + c) := by rw [pk_mul, nI_add]
theorem ltL {a b : Nat} {x y : Int32} (h : x < y) (hx : x = nI a := by rfl) (hy : y = nI b := by rfl) (ha : a < 2 ^ 31 := by omega) (hb : b < 2 ^ 31 := by omega) : a < b := by
  subst hx; subst hy; exact (nI_ltI ha hb).mp h
theorem leL {a b : Nat} {x y : Int32} (h : x ≤ y) (hx : x = nI a := by rfl) (hy : y = nI b := by rfl) (ha : a < 2 ^ 31 := by omega) (hb : b < 2 ^ 31 := by omega) : a ≤ b := by
  subst hx; subst hy; exact (nI_leI ha hb).mp h
theorem ltN {a b : Nat} {x y : Int32} (h : ¬ x < y) (hx : x = nI a := by rfl) (hy : y = nI b := by rfl) (ha : a < 2 ^ 31 := by omega) (hb : b < 2 ^ 31 := by omega) : b ≤ a := by
  subst hx; subst hy; exact Nat.le_of_not_lt (fun q => h ((nI_ltI ha hb).mpr q))
theorem leN {a b : Nat} {x y : Int32} (h : ¬ x ≤ y) (hx : x = nI a := by rfl) (hy : y = nI b := by rfl) (ha : a < 2 ^ 31 := by omega) (hb : b < 2 ^ 31 := by omega) : b < a := by
  subst hx; subst hy; exact Nat.lt_of_not_le (fun q => h ((nI_leI ha hb).mpr q))
theorem sp100 {P : Int32 → Bool} {L : Nat → Int32} {n k : Nat} (hn : n ≤ 80) (hk : k ≤ 100) : sp P L n k ≤ 200 := by
  have := (spF_le (P := P) (L := L) (n - k) k).2
  rw [sp]; omega

set_option maxHeartbeats 1000000 in
set_option maxRecDepth 100000 in
theorem c_X1_isTime {l : Launch} {D : va_G} {cI cJ cW : ClassId} {z t v th k tb n : Nat} {L : Nat → Int32} {lg : Int32} {p c : Nat} (hn : n ≤ 80) (hc : c ≤ n) (hpc : p ≤ c) (hd : ∀ i, p ≤ i → i < c → isDi (L i) = true) : RO l yX1_isTime wsX1_isTime { frames := 2, cells := 0, slots := 0, locals := 45 } D (ty3 cI cJ cW) [.ref z, .int (nI p), .int (nI c)] [(z, .inr (1, [.ref t, .ref v, .ref th, .ref k, .int lg])), (th, .inr (4, [.ref tb, .int (nI n)])), (tb, .inl (cI, 80, .inl L))] (.int (bI (tmB n L p c))) := by
  refine ro_of (cc := cX1_isTime) (maxL := 3) (ret := (some .boolean)) (by decide) rfl (Nat.le_of_ble_eq_true rfl) ?_
  intro pr en ss mi below meth cd X hP hK ls hl
  obtain ⟨hx, hb, hml, hown, hts, hr, hlocks⟩ := id X
  have fl_19 := hts (.fieldLink RX1 19 "WordTables$Cutter" "line" "LWordTables$Row;") (by decide +kernel)
  have in_X1 : ∀ w ∈ wsX10, w ∈ wsX1_isTime := by decide +kernel
  have hl : lv_has ls 3 [(0, .ref z), (1, .int (nI p)), (2, .int (nI c))] := hl
  refine lv_iload_n hx hb dX1_isTime_0 rfl (lv_at hl 2 rfl) ?_
  refine lv_iload_n hx hb dX1_isTime_1 rfl (lv_at hl 1 rfl) ?_
  refine lv_isub hx hb dX1_isTime_2 ?_
  refine topi_eq (nI_sub1 hpc) ?_
  refine lv_iconst (v := 2) hx hb dX1_isTime_3 (by decide) ?_
  refine lv_icmp_gt (tgt := 63) hx hb dX1_isTime_4 (by decide) (fun c_4 => ?_) (fun c_4 => ?_)
  · refine lv_iconst (v := 0) hx hb dX1_isTime_63 (by decide) ?_
    exact ro_zret X (by rw [Bool.eq_false_iff.mpr (fun q : tmB n L p c = true => absurd (ltL (a := 2) (b := c - p) c_4) (by have := (tm_iff.mp q).1; omega))]; rfl) dX1_isTime_64
  · have h_4 : c - p ≤ 2 := ltN (a := 2) (b := c - p) c_4
    refine lv_aload_n hx hb dX1_isTime_7 rfl (lv_at hl 0 rfl) ?_
    refine va_get (D := D) (ci := 1) (C := RX1) (T := TX1) (N := 5) hx hb hts in_X1 hown hK hP 0 rfl rfl 2 (by decide) fl_19 (fun _ h9 => h9) rfl dX1_isTime_8 ?_
    refine lv_iload_n hx hb dX1_isTime_11 rfl (lv_at hl 2 rfl) ?_
    refine ro_V (n := 1) X hK (c_X4_byteAt (by decide)) gX1_isTime_X4_byteAt rfl (by decide +kernel) ⟨rfl, rfl⟩ ⟨Nat.le_of_ble_eq_true rfl, Nat.le_of_ble_eq_true rfl⟩ (hP.sub [1, 2] rfl) (va_recv hK hP (ci := 4) (q0 := 1) rfl rfl) rfl hl.1 rfl (Nat.le_of_ble_eq_true rfl) dX1_isTime_12 ⟨Nat.zero_le _, Nat.zero_le _⟩ ?_
    rw [rowAt_bt hn (by omega)]
    refine lv_bipush (v := 58) hx hb dX1_isTime_15 (by decide) ?_
    refine lv_icmp_ne (tgt := 63) hx hb dX1_isTime_17 (by decide) (fun c_17 => ?_) (fun c_17 => ?_)
    · refine lv_iconst (v := 0) hx hb dX1_isTime_63 (by decide) ?_
      exact ro_zret X (by rw [Bool.eq_false_iff.mpr (fun q : tmB n L p c = true => c_17 (tm_iff.mp q).2.1)]; rfl) dX1_isTime_64
    · refine lv_aload_n hx hb dX1_isTime_20 rfl (lv_at hl 0 rfl) ?_
      refine lv_iload_n hx hb dX1_isTime_21 rfl (lv_at hl 2 rfl) ?_
      refine lv_iconst (v := 1) hx hb dX1_isTime_22 (by decide) ?_
      refine lv_iadd hx hb dX1_isTime_23 ?_
      refine topi_eq (nI_1 c) ?_
      refine ro_V (n := 1) X hK (c_X1_endOfDigits hn (by omega)) gX1_isTime_X1_endOfDigits rfl (by decide +kernel) ⟨rfl, rfl⟩ ⟨Nat.le_of_ble_eq_true rfl, Nat.le_of_ble_eq_true rfl⟩ (hP.sub [0, 1, 2] rfl) (va_recv hK hP (ci := 1) (q0 := 0) rfl rfl) rfl hl.1 rfl (Nat.le_of_ble_eq_true rfl) dX1_isTime_24 ⟨Nat.zero_le _, Nat.zero_le _⟩ ?_
      refine lv_iload_n hx hb dX1_isTime_27 rfl (lv_at hl 2 rfl) ?_
      refine lv_iconst (v := 3) hx hb dX1_isTime_28 (by decide) ?_
      refine lv_iadd hx hb dX1_isTime_29 ?_
      refine topi_eq (nI_add c 3) ?_
      refine lv_icmp_ne (tgt := 63) hx hb dX1_isTime_30 (by decide) (fun c_30 => ?_) (fun c_30 => ?_)
      · refine lv_iconst (v := 0) hx hb dX1_isTime_63 (by decide) ?_
        exact ro_zret X (by rw [Bool.eq_false_iff.mpr (fun q : tmB n L p c = true => c_30 (by rw [(tm_iff.mp q).2.2.1]))]; rfl) dX1_isTime_64
      · have h_30 : sp isDi L n (c + 1) = c + 3 := (nI_eq (by have := sp100 (P := isDi) (L := L) (n := n) (k := c + 1) hn (by omega); omega) (by omega)).mp c_30
        have h_c3 : c + 3 ≤ n := by
          rcases Nat.lt_or_ge n (c + 1) with q | q
          · rw [sp_ge (by omega)] at h_30; omega
          · have := sp_n (P := isDi) (L := L) (n := n) (k := c + 1) q; omega
        refine lv_aload_n hx hb dX1_isTime_33 rfl (lv_at hl 0 rfl) ?_
        refine lv_iload_n hx hb dX1_isTime_34 rfl (lv_at hl 1 rfl) ?_
        refine lv_iload_n hx hb dX1_isTime_35 rfl (lv_at hl 2 rfl) ?_
        refine ro_V (n := 2) X hK (c_X1_numberOf hn hc hpc hd) gX1_isTime_X1_numberOf rfl (by decide +kernel) ⟨rfl, rfl⟩ ⟨Nat.le_of_ble_eq_true rfl, Nat.le_of_ble_eq_true rfl⟩ (hP.sub [0, 1, 2] rfl) (va_recv hK hP (ci := 1) (q0 := 0) rfl rfl) rfl hl.1 rfl (Nat.le_of_ble_eq_true rfl) dX1_isTime_36 ⟨Nat.zero_le _, Nat.zero_le _⟩ ?_
        refine lv_bipush (v := 23) hx hb dX1_isTime_39 (by decide) ?_
        refine lv_icmp_gt (tgt := 63) hx hb dX1_isTime_41 (by decide) (fun c_41 => ?_) (fun c_41 => ?_)
        · refine lv_iconst (v := 0) hx hb dX1_isTime_63 (by decide) ?_
          exact ro_zret X (by rw [Bool.eq_false_iff.mpr (fun q : tmB n L p c = true => absurd (ltL (a := 23) (b := min (numN L p (c - p) 0) 30001) c_41) (by have := (tm_iff.mp q).2.2.2.1; omega))]; rfl) dX1_isTime_64
        · have h_41 : numN L p (c - p) 0 ≤ 23 := by have := ltN (a := 23) (b := min (numN L p (c - p) 0) 30001) c_41; omega
          refine lv_aload_n hx hb dX1_isTime_44 rfl (lv_at hl 0 rfl) ?_
          refine lv_iload_n hx hb dX1_isTime_45 rfl (lv_at hl 2 rfl) ?_
          refine lv_iconst (v := 1) hx hb dX1_isTime_46 (by decide) ?_
          refine lv_iadd hx hb dX1_isTime_47 ?_
          refine topi_eq (nI_1 c) ?_
          refine lv_iload_n hx hb dX1_isTime_48 rfl (lv_at hl 2 rfl) ?_
          refine lv_iconst (v := 3) hx hb dX1_isTime_49 (by decide) ?_
          refine lv_iadd hx hb dX1_isTime_50 ?_
          refine topi_eq (nI_add c 3) ?_
          refine ro_V (n := 2) X hK (c_X1_numberOf hn h_c3 (by omega) (fun i h1 h2 => sp_all (n := n) h1 (by omega))) gX1_isTime_X1_numberOf rfl (by decide +kernel) ⟨rfl, rfl⟩ ⟨Nat.le_of_ble_eq_true rfl, Nat.le_of_ble_eq_true rfl⟩ (hP.sub [0, 1, 2] rfl) (va_recv hK hP (ci := 1) (q0 := 0) rfl rfl) rfl hl.1 rfl (Nat.le_of_ble_eq_true rfl) dX1_isTime_51 ⟨Nat.zero_le _, Nat.zero_le _⟩ ?_
          refine lv_bipush (v := 59) hx hb dX1_isTime_54 (by decide) ?_
          refine lv_icmp_gt (tgt := 63) hx hb dX1_isTime_56 (by decide) (fun c_56 => ?_) (fun c_56 => ?_)
          · refine lv_iconst (v := 0) hx hb dX1_isTime_63 (by decide) ?_
            exact ro_zret X (by rw [Bool.eq_false_iff.mpr (fun q : tmB n L p c = true => absurd (ltL (a := 59) (b := min (numN L (c + 1) (c + 3 - (c + 1)) 0) 30001) c_56) (by have := (tm_iff.mp q).2.2.2.2; rw [show c + 3 - (c + 1) = 2 by omega]; omega))]; rfl) dX1_isTime_64
          · have h_56 : numN L (c + 1) 2 0 ≤ 59 := by have := ltN (a := 59) (b := min (numN L (c + 1) (c + 3 - (c + 1)) 0) 30001) c_56; rw [show c + 3 - (c + 1) = 2 by omega] at this; omega
            refine lv_iconst (v := 1) hx hb dX1_isTime_59 (by decide) ?_
            refine lv_goto (tgt := 64) hx hb dX1_isTime_60 (by decide) ?_
            exact ro_zret X (by rw [tm_iff.mpr ⟨h_4, c_17, h_30, h_41, h_56⟩]; rfl) dX1_isTime_64

set_option maxHeartbeats 1000000 in
set_option maxRecDepth 100000 in
theorem c_X1_isHalfOfDay {l : Launch} {D : va_G} {cI cJ cW : ClassId} {z t v th k tb n : Nat} {L : Nat → Int32} {lg : Int32} {fa ct e : Nat} {fo : Nat → Int32} (hn : n ≤ 80) (he : e ≤ 100) : RO l yX1_isHalfOfDay wsX1_isHalfOfDay { frames := 2, cells := 0, slots := 0, locals := 40 } D (ty3 cI cJ cW) [.ref z, .int (nI e)] [(z, .inr (1, [.ref t, .ref v, .ref th, .ref k, .int lg])), (th, .inr (4, [.ref tb, .int (nI n)])), (tb, .inl (cI, 80, .inl L)), (t, .inr (3, [.int (nI ct), .ref fa])), (fa, .inl (cI, 32, .inl fo))] (.int (bI (hdB (foC fo) n L e))) := by
  refine ro_of (cc := cX1_isHalfOfDay) (maxL := 3) (ret := (some .boolean)) (by decide) rfl (Nat.le_of_ble_eq_true rfl) ?_
  intro pr en ss mi below meth cd X hP hK ls hl
  obtain ⟨hx, hb, hml, hown, hts, hr, hlocks⟩ := id X
  have fl_19 := hts (.fieldLink RX1 19 "WordTables$Cutter" "line" "LWordTables$Row;") (by decide +kernel)
  have fl_9 := hts (.fieldLink RX1 9 "WordTables$Cutter" "letters" "LWordTables$Letters;") (by decide +kernel)
  have in_X1 : ∀ w ∈ wsX10, w ∈ wsX1_isHalfOfDay := by decide +kernel
  have hl : lv_has ls 3 [(0, .ref z), (1, .int (nI e))] := hl
  refine lv_aload_n hx hb dX1_isHalfOfDay_0 rfl (lv_at hl 0 rfl) ?_
  refine va_get (D := D) (ci := 1) (C := RX1) (T := TX1) (N := 5) hx hb hts in_X1 hown hK hP 0 rfl rfl 0 (by decide) fl_9 (fun _ h9 => h9) rfl dX1_isHalfOfDay_1 ?_
  refine lv_aload_n hx hb dX1_isHalfOfDay_4 rfl (lv_at hl 0 rfl) ?_
  refine va_get (D := D) (ci := 1) (C := RX1) (T := TX1) (N := 5) hx hb hts in_X1 hown hK hP 0 rfl rfl 2 (by decide) fl_19 (fun _ h9 => h9) rfl dX1_isHalfOfDay_5 ?_
  refine lv_iload_n hx hb dX1_isHalfOfDay_8 rfl (lv_at hl 1 rfl) ?_
  refine ro_V (n := 1) X hK (c_X4_byteAt (by decide)) gX1_isHalfOfDay_X4_byteAt rfl (by decide +kernel) ⟨rfl, rfl⟩ ⟨Nat.le_of_ble_eq_true rfl, Nat.le_of_ble_eq_true rfl⟩ (hP.sub [1, 2] rfl) (va_recv hK hP (ci := 4) (q0 := 1) rfl rfl) rfl hl.1 rfl (Nat.le_of_ble_eq_true rfl) dX1_isHalfOfDay_9 ⟨Nat.zero_le _, Nat.zero_le _⟩ ?_
  rw [rowAt_bt hn (by omega)]
  refine ro_V (n := 1) X hK (c_X3_folded) gX1_isHalfOfDay_X3_folded rfl (by decide +kernel) ⟨rfl, rfl⟩ ⟨Nat.le_of_ble_eq_true rfl, Nat.le_of_ble_eq_true rfl⟩ (hP.sub [3, 4] rfl) (va_recv hK hP (ci := 3) (q0 := 3) rfl rfl) rfl hl.1 rfl (Nat.le_of_ble_eq_true rfl) dX1_isHalfOfDay_12 ⟨Nat.zero_le _, Nat.zero_le _⟩ ?_
  refine lv_istore_n (lv' := [(2, _), (0, _), (1, _)]) hx hb dX1_isHalfOfDay_15 rfl hl (by decide) rfl (fun ls hl => ?_)
  refine lv_iload_n hx hb dX1_isHalfOfDay_16 rfl (lv_at hl 0 rfl) ?_
  refine lv_bipush (v := 97) hx hb dX1_isHalfOfDay_17 (by decide) ?_
  refine lv_icmp_eq (tgt := 28) hx hb dX1_isHalfOfDay_19 (by decide) (fun c_19 => ?_) (fun c_19 => ?_)
  · refine lv_aload_n hx hb dX1_isHalfOfDay_28 rfl (lv_at hl 1 rfl) ?_
    refine va_get (D := D) (ci := 1) (C := RX1) (T := TX1) (N := 5) hx hb hts in_X1 hown hK hP 0 rfl rfl 0 (by decide) fl_9 (fun _ h9 => h9) rfl dX1_isHalfOfDay_29 ?_
    refine lv_aload_n hx hb dX1_isHalfOfDay_32 rfl (lv_at hl 1 rfl) ?_
    refine va_get (D := D) (ci := 1) (C := RX1) (T := TX1) (N := 5) hx hb hts in_X1 hown hK hP 0 rfl rfl 2 (by decide) fl_19 (fun _ h9 => h9) rfl dX1_isHalfOfDay_33 ?_
    refine lv_iload_n hx hb dX1_isHalfOfDay_36 rfl (lv_at hl 2 rfl) ?_
    refine lv_iconst (v := 1) hx hb dX1_isHalfOfDay_37 (by decide) ?_
    refine lv_iadd hx hb dX1_isHalfOfDay_38 ?_
    refine topi_eq (nI_1 e) ?_
    refine ro_V (n := 1) X hK (c_X4_byteAt (by decide)) gX1_isHalfOfDay_X4_byteAt rfl (by decide +kernel) ⟨rfl, rfl⟩ ⟨Nat.le_of_ble_eq_true rfl, Nat.le_of_ble_eq_true rfl⟩ (hP.sub [1, 2] rfl) (va_recv hK hP (ci := 4) (q0 := 1) rfl rfl) rfl hl.1 rfl (Nat.le_of_ble_eq_true rfl) dX1_isHalfOfDay_39 ⟨Nat.zero_le _, Nat.zero_le _⟩ ?_
    rw [rowAt_bt hn (by omega)]
    refine ro_V (n := 1) X hK (c_X3_folded) gX1_isHalfOfDay_X3_folded rfl (by decide +kernel) ⟨rfl, rfl⟩ ⟨Nat.le_of_ble_eq_true rfl, Nat.le_of_ble_eq_true rfl⟩ (hP.sub [3, 4] rfl) (va_recv hK hP (ci := 3) (q0 := 3) rfl rfl) rfl hl.1 rfl (Nat.le_of_ble_eq_true rfl) dX1_isHalfOfDay_42 ⟨Nat.zero_le _, Nat.zero_le _⟩ ?_
    refine lv_bipush (v := 109) hx hb dX1_isHalfOfDay_45 (by decide) ?_
    refine lv_icmp_ne (tgt := 70) hx hb dX1_isHalfOfDay_47 (by decide) (fun c_47 => ?_) (fun c_47 => ?_)
    · refine lv_iconst (v := 0) hx hb dX1_isHalfOfDay_70 (by decide) ?_
      exact ro_zret X (by simp [hdB, bI, c_19, c_47]) dX1_isHalfOfDay_71
    · refine lv_aload_n hx hb dX1_isHalfOfDay_50 rfl (lv_at hl 1 rfl) ?_
      refine va_get (D := D) (ci := 1) (C := RX1) (T := TX1) (N := 5) hx hb hts in_X1 hown hK hP 0 rfl rfl 2 (by decide) fl_19 (fun _ h9 => h9) rfl dX1_isHalfOfDay_51 ?_
      refine lv_iload_n hx hb dX1_isHalfOfDay_54 rfl (lv_at hl 2 rfl) ?_
      refine lv_iconst (v := 2) hx hb dX1_isHalfOfDay_55 (by decide) ?_
      refine lv_iadd hx hb dX1_isHalfOfDay_56 ?_
      refine topi_eq (nI_add e 2) ?_
      refine ro_V (n := 1) X hK (c_X4_byteAt (by decide)) gX1_isHalfOfDay_X4_byteAt rfl (by decide +kernel) ⟨rfl, rfl⟩ ⟨Nat.le_of_ble_eq_true rfl, Nat.le_of_ble_eq_true rfl⟩ (hP.sub [1, 2] rfl) (va_recv hK hP (ci := 4) (q0 := 1) rfl rfl) rfl hl.1 rfl (Nat.le_of_ble_eq_true rfl) dX1_isHalfOfDay_57 ⟨Nat.zero_le _, Nat.zero_le _⟩ ?_
      rw [rowAt_bt hn (by omega)]
      refine ro_S (n := 1) X hK (c_X3_isLetter) gX1_isHalfOfDay_X3_isLetter rfl (by decide +kernel) ⟨rfl, rfl⟩ ⟨Nat.le_of_ble_eq_true rfl, Nat.le_of_ble_eq_true rfl⟩ (hP.sub [] rfl) rfl hl.1 rfl (Nat.le_of_ble_eq_true rfl) dX1_isHalfOfDay_60 ⟨Nat.zero_le _, Nat.zero_le _⟩ ?_
      refine lv_if_ne (tgt := 70) hx hb dX1_isHalfOfDay_63 (by decide) (fun c_63 => ?_) (fun c_63 => ?_)
      · replace c_63 := bI_n0.mp c_63
        refine lv_iconst (v := 0) hx hb dX1_isHalfOfDay_70 (by decide) ?_
        exact ro_zret X (by simp [hdB, bI, c_19, c_47, c_63]) dX1_isHalfOfDay_71
      · replace c_63 := bI_0.mp c_63
        refine lv_iconst (v := 1) hx hb dX1_isHalfOfDay_66 (by decide) ?_
        refine lv_goto (tgt := 71) hx hb dX1_isHalfOfDay_67 (by decide) ?_
        exact ro_zret X (by simp [hdB, bI, c_19, c_47, c_63]) dX1_isHalfOfDay_71
  · refine lv_iload_n hx hb dX1_isHalfOfDay_22 rfl (lv_at hl 0 rfl) ?_
    refine lv_bipush (v := 112) hx hb dX1_isHalfOfDay_23 (by decide) ?_
    refine lv_icmp_ne (tgt := 70) hx hb dX1_isHalfOfDay_25 (by decide) (fun c_25 => ?_) (fun c_25 => ?_)
    · refine lv_iconst (v := 0) hx hb dX1_isHalfOfDay_70 (by decide) ?_
      exact ro_zret X (by simp [hdB, bI, c_19, c_25]) dX1_isHalfOfDay_71
    · refine lv_aload_n hx hb dX1_isHalfOfDay_28 rfl (lv_at hl 1 rfl) ?_
      refine va_get (D := D) (ci := 1) (C := RX1) (T := TX1) (N := 5) hx hb hts in_X1 hown hK hP 0 rfl rfl 0 (by decide) fl_9 (fun _ h9 => h9) rfl dX1_isHalfOfDay_29 ?_
      refine lv_aload_n hx hb dX1_isHalfOfDay_32 rfl (lv_at hl 1 rfl) ?_
      refine va_get (D := D) (ci := 1) (C := RX1) (T := TX1) (N := 5) hx hb hts in_X1 hown hK hP 0 rfl rfl 2 (by decide) fl_19 (fun _ h9 => h9) rfl dX1_isHalfOfDay_33 ?_
      refine lv_iload_n hx hb dX1_isHalfOfDay_36 rfl (lv_at hl 2 rfl) ?_
      refine lv_iconst (v := 1) hx hb dX1_isHalfOfDay_37 (by decide) ?_
      refine lv_iadd hx hb dX1_isHalfOfDay_38 ?_
      refine topi_eq (nI_1 e) ?_
      refine ro_V (n := 1) X hK (c_X4_byteAt (by decide)) gX1_isHalfOfDay_X4_byteAt rfl (by decide +kernel) ⟨rfl, rfl⟩ ⟨Nat.le_of_ble_eq_true rfl, Nat.le_of_ble_eq_true rfl⟩ (hP.sub [1, 2] rfl) (va_recv hK hP (ci := 4) (q0 := 1) rfl rfl) rfl hl.1 rfl (Nat.le_of_ble_eq_true rfl) dX1_isHalfOfDay_39 ⟨Nat.zero_le _, Nat.zero_le _⟩ ?_
      rw [rowAt_bt hn (by omega)]
      refine ro_V (n := 1) X hK (c_X3_folded) gX1_isHalfOfDay_X3_folded rfl (by decide +kernel) ⟨rfl, rfl⟩ ⟨Nat.le_of_ble_eq_true rfl, Nat.le_of_ble_eq_true rfl⟩ (hP.sub [3, 4] rfl) (va_recv hK hP (ci := 3) (q0 := 3) rfl rfl) rfl hl.1 rfl (Nat.le_of_ble_eq_true rfl) dX1_isHalfOfDay_42 ⟨Nat.zero_le _, Nat.zero_le _⟩ ?_
      refine lv_bipush (v := 109) hx hb dX1_isHalfOfDay_45 (by decide) ?_
      refine lv_icmp_ne (tgt := 70) hx hb dX1_isHalfOfDay_47 (by decide) (fun c_47 => ?_) (fun c_47 => ?_)
      · refine lv_iconst (v := 0) hx hb dX1_isHalfOfDay_70 (by decide) ?_
        exact ro_zret X (by simp [hdB, bI, c_19, c_25, c_47]) dX1_isHalfOfDay_71
      · refine lv_aload_n hx hb dX1_isHalfOfDay_50 rfl (lv_at hl 1 rfl) ?_
        refine va_get (D := D) (ci := 1) (C := RX1) (T := TX1) (N := 5) hx hb hts in_X1 hown hK hP 0 rfl rfl 2 (by decide) fl_19 (fun _ h9 => h9) rfl dX1_isHalfOfDay_51 ?_
        refine lv_iload_n hx hb dX1_isHalfOfDay_54 rfl (lv_at hl 2 rfl) ?_
        refine lv_iconst (v := 2) hx hb dX1_isHalfOfDay_55 (by decide) ?_
        refine lv_iadd hx hb dX1_isHalfOfDay_56 ?_
        refine topi_eq (nI_add e 2) ?_
        refine ro_V (n := 1) X hK (c_X4_byteAt (by decide)) gX1_isHalfOfDay_X4_byteAt rfl (by decide +kernel) ⟨rfl, rfl⟩ ⟨Nat.le_of_ble_eq_true rfl, Nat.le_of_ble_eq_true rfl⟩ (hP.sub [1, 2] rfl) (va_recv hK hP (ci := 4) (q0 := 1) rfl rfl) rfl hl.1 rfl (Nat.le_of_ble_eq_true rfl) dX1_isHalfOfDay_57 ⟨Nat.zero_le _, Nat.zero_le _⟩ ?_
        rw [rowAt_bt hn (by omega)]
        refine ro_S (n := 1) X hK (c_X3_isLetter) gX1_isHalfOfDay_X3_isLetter rfl (by decide +kernel) ⟨rfl, rfl⟩ ⟨Nat.le_of_ble_eq_true rfl, Nat.le_of_ble_eq_true rfl⟩ (hP.sub [] rfl) rfl hl.1 rfl (Nat.le_of_ble_eq_true rfl) dX1_isHalfOfDay_60 ⟨Nat.zero_le _, Nat.zero_le _⟩ ?_
        refine lv_if_ne (tgt := 70) hx hb dX1_isHalfOfDay_63 (by decide) (fun c_63 => ?_) (fun c_63 => ?_)
        · replace c_63 := bI_n0.mp c_63
          refine lv_iconst (v := 0) hx hb dX1_isHalfOfDay_70 (by decide) ?_
          exact ro_zret X (by simp [hdB, bI, c_19, c_25, c_47, c_63]) dX1_isHalfOfDay_71
        · replace c_63 := bI_0.mp c_63
          refine lv_iconst (v := 1) hx hb dX1_isHalfOfDay_66 (by decide) ?_
          refine lv_goto (tgt := 71) hx hb dX1_isHalfOfDay_67 (by decide) ?_
          exact ro_zret X (by simp [hdB, bI, c_19, c_25, c_47, c_63]) dX1_isHalfOfDay_71

set_option maxHeartbeats 1000000 in
set_option maxRecDepth 100000 in
theorem c_X1_addUpTo {l : Launch} {D : va_G} {cI cJ cW : ClassId} {sz : Nat} {z t v th k kx k1 k2 k3 k4 : Nat} {lg : Int32} {τ : TS} {e p : Nat} {x1 x4 : Int32} (hτ : τ.1 ≤ 24) (hpe : p ≤ e) : MU l yX1_addUpTo wsX1_addUpTo { frames := 1, cells := 0, slots := 0, locals := 24 } D (ty3 cI cJ cW) [.ref z, .int (nI e), .int x1, .int (nI p), .int x4] [(z, .inr (1, [.ref t, .ref v, .ref th, .ref k, .int lg])), (k, .inr (7, [.ref kx, .ref k1, .ref k2, .ref k3, .ref k4, .int (nI τ.1), .int τ.2.1])), (k1, .inl (cI, 24, .inl (τ.2.2 1))), (k2, .inl (cI, 24, .inl (τ.2.2 2))), (k3, .inl (cI, 24, .inl (τ.2.2 3))), (k4, .inl (cI, 24, .inl (τ.2.2 4)))] sz (some (.int (nI e))) [(z, .inr (1, [.ref t, .ref v, .ref th, .ref k, .int lg])), (k, .inr (7, [.ref kx, .ref k1, .ref k2, .ref k3, .ref k4, .int (nI (ad4 τ x1 (nI p) (nI (e - p)) x4).1), .int ((ad4 τ x1 (nI p) (nI (e - p)) x4).2.1)])), (k1, .inl (cI, 24, .inl ((ad4 τ x1 (nI p) (nI (e - p)) x4).2.2 1))), (k2, .inl (cI, 24, .inl ((ad4 τ x1 (nI p) (nI (e - p)) x4).2.2 2))), (k3, .inl (cI, 24, .inl ((ad4 τ x1 (nI p) (nI (e - p)) x4).2.2 3))), (k4, .inl (cI, 24, .inl ((ad4 τ x1 (nI p) (nI (e - p)) x4).2.2 4)))] := by
  refine mu_of (cc := cX1_addUpTo) (maxL := 5) (ret := (some .int)) (by decide) rfl (Nat.le_of_ble_eq_true rfl) ?_
  intro pr en ss mi below meth cd X hK A hA hP hD hS ls hl
  obtain ⟨hx, hb, hml, hown, hts, hr, hlocks⟩ := id X
  have fl_27 := hts (.fieldLink RX1 27 "WordTables$Cutter" "into" "LWordTables$Tokens;") (by decide +kernel)
  have in_X1 : ∀ w ∈ wsX10, w ∈ wsX1_addUpTo := by decide +kernel
  have hl : lv_has ls 5 [(0, .ref z), (1, .int (nI e)), (2, .int x1), (3, .int (nI p)), (4, .int x4)] := hl
  refine lv_aload_n hx hb dX1_addUpTo_0 rfl (lv_at hl 0 rfl) ?_
  refine va_get (D := D) (ci := 1) (C := RX1) (T := TX1) (N := 5) hx hb hts in_X1 hown hK hP 0 rfl rfl 3 (by decide) fl_27 (fun _ h9 => h9) rfl dX1_addUpTo_1 ?_
  refine lv_ifnull hx hb dX1_addUpTo_4 ?_
  refine lv_aload_n hx hb dX1_addUpTo_7 rfl (lv_at hl 0 rfl) ?_
  refine va_get (D := D) (ci := 1) (C := RX1) (T := TX1) (N := 5) hx hb hts in_X1 hown hK hP 0 rfl rfl 3 (by decide) fl_27 (fun _ h9 => h9) rfl dX1_addUpTo_8 ?_
  refine lv_iload_n hx hb dX1_addUpTo_11 rfl (lv_at hl 2 rfl) ?_
  refine lv_iload_n hx hb dX1_addUpTo_12 rfl (lv_at hl 3 rfl) ?_
  refine lv_iload_n hx hb dX1_addUpTo_13 rfl (lv_at hl 1 rfl) ?_
  refine lv_iload_n hx hb dX1_addUpTo_14 rfl (lv_at hl 3 rfl) ?_
  refine lv_isub hx hb dX1_addUpTo_15 ?_
  refine topi_eq (nI_sub1 hpe) ?_
  refine lv_iload hx hb dX1_addUpTo_16 (lv_at hl 4 rfl) ?_
  refine mu_V (n := 4) X hK (c_X7_add hτ) gX1_addUpTo_X7_add rfl (by decide +kernel) ⟨rfl, rfl⟩ ⟨Nat.le_of_ble_eq_true rfl, Nat.le_of_ble_eq_true rfl⟩ [1, 2, 3, 4, 5] rfl rfl rfl rfl hA hP hD hS (va_recv hK hP (ci := 7) (q0 := 1) rfl rfl) rfl hl.1 rfl (Nat.le_of_ble_eq_true rfl) dX1_addUpTo_18 ⟨Nat.zero_le _, Nat.zero_le _⟩ (fun H locs hP hD hS => ?_)
  have hP : va_P D vwCl [(z, .inr (1, [.ref t, .ref v, .ref th, .ref k, _])), (k, .inr (7, [.ref kx, .ref k1, .ref k2, .ref k3, .ref k4, _, _])), (k1, .inl (cI, 24, .inl _)), (k2, .inl (cI, 24, .inl _)), (k3, .inl (cI, 24, .inl _)), (k4, .inl (cI, 24, .inl _))] H := hP
  have hD : va_D A [(z, .inr (1, [.ref t, .ref v, .ref th, .ref k, _])), (k, .inr (7, [.ref kx, .ref k1, .ref k2, .ref k3, .ref k4, _, _])), (k1, .inl (cI, 24, .inl _)), (k2, .inl (cI, 24, .inl _)), (k3, .inl (cI, 24, .inl _)), (k4, .inl (cI, 24, .inl _))] := hD
  refine lv_iload_n hx hb dX1_addUpTo_21 rfl (lv_at hl 1 rfl) ?_
  exact mu_iret X hP hS (rfl) (rfl) dX1_addUpTo_22

set_option maxHeartbeats 1000000 in
set_option maxRecDepth 100000 in
theorem c_X1_cutTime {l : Launch} {D : va_G} {cI cJ cW : ClassId} {sz : Nat} {z t v th k kx k1 k2 k3 k4 tb n : Nat} {L : Nat → Int32} {lg : Int32} {τ : TS} {fa ct p c : Nat} {fo : Nat → Int32} (hn : n ≤ 80) (hτ : τ.1 ≤ 24) (hpc : p ≤ c) (hc3 : c + 3 ≤ n) (hd : ∀ i, p ≤ i → i < c → isDi (L i) = true) (hd2 : ∀ i, c + 1 ≤ i → i < c + 3 → isDi (L i) = true) (hN1 : numN L p (c - p) 0 ≤ 23) (hN2 : numN L (c + 1) 2 0 ≤ 59) : MU l yX1_cutTime wsX1_cutTime { frames := 3, cells := 0, slots := 0, locals := 62 } D (ty3 cI cJ cW) [.ref z, .int (nI p), .int (nI c)] [(z, .inr (1, [.ref t, .ref v, .ref th, .ref k, .int lg])), (k, .inr (7, [.ref kx, .ref k1, .ref k2, .ref k3, .ref k4, .int (nI τ.1), .int τ.2.1])), (k1, .inl (cI, 24, .inl (τ.2.2 1))), (k2, .inl (cI, 24, .inl (τ.2.2 2))), (k3, .inl (cI, 24, .inl (τ.2.2 3))), (k4, .inl (cI, 24, .inl (τ.2.2 4))), (th, .inr (4, [.ref tb, .int (nI n)])), (tb, .inl (cI, 80, .inl L)), (t, .inr (3, [.int (nI ct), .ref fa])), (fa, .inl (cI, 32, .inl fo))] sz (some (.int (nI (tTok (foC fo) n L p c τ).1))) [(z, .inr (1, [.ref t, .ref v, .ref th, .ref k, .int lg])), (k, .inr (7, [.ref kx, .ref k1, .ref k2, .ref k3, .ref k4, .int (nI (tTok (foC fo) n L p c τ).2.1), .int ((tTok (foC fo) n L p c τ).2.2.1)])), (k1, .inl (cI, 24, .inl ((tTok (foC fo) n L p c τ).2.2.2 1))), (k2, .inl (cI, 24, .inl ((tTok (foC fo) n L p c τ).2.2.2 2))), (k3, .inl (cI, 24, .inl ((tTok (foC fo) n L p c τ).2.2.2 3))), (k4, .inl (cI, 24, .inl ((tTok (foC fo) n L p c τ).2.2.2 4))), (th, .inr (4, [.ref tb, .int (nI n)])), (tb, .inl (cI, 80, .inl L)), (t, .inr (3, [.int (nI ct), .ref fa])), (fa, .inl (cI, 32, .inl fo))] := by
  refine mu_of (cc := cX1_cutTime) (maxL := 6) (ret := (some .int)) (by decide) rfl (Nat.le_of_ble_eq_true rfl) ?_
  intro pr en ss mi below meth cd X hK A hA hP hD hS ls hl
  obtain ⟨hx, hb, hml, hown, hts, hr, hlocks⟩ := id X
  have fl_19 := hts (.fieldLink RX1 19 "WordTables$Cutter" "line" "LWordTables$Row;") (by decide +kernel)
  have fl_9 := hts (.fieldLink RX1 9 "WordTables$Cutter" "letters" "LWordTables$Letters;") (by decide +kernel)
  have in_X1 : ∀ w ∈ wsX10, w ∈ wsX1_cutTime := by decide +kernel
  have hl : lv_has ls 6 [(0, .ref z), (1, .int (nI p)), (2, .int (nI c))] := hl
  refine lv_aload_n hx hb dX1_cutTime_0 rfl (lv_at hl 0 rfl) ?_
  refine lv_iload_n hx hb dX1_cutTime_1 rfl (lv_at hl 1 rfl) ?_
  refine lv_iload_n hx hb dX1_cutTime_2 rfl (lv_at hl 2 rfl) ?_
  refine ro_V (n := 2) X hK (c_X1_numberOf hn (by omega) hpc hd) gX1_cutTime_X1_numberOf rfl (by decide +kernel) ⟨rfl, rfl⟩ ⟨Nat.le_of_ble_eq_true rfl, Nat.le_of_ble_eq_true rfl⟩ (hP.sub [0, 6, 7] rfl) (va_recv hK hP (ci := 1) (q0 := 0) rfl rfl) rfl hl.1 rfl (Nat.le_of_ble_eq_true rfl) dX1_cutTime_3 ⟨Nat.zero_le _, Nat.zero_le _⟩ ?_
  rw [Nat.min_eq_left (show numN L p (c - p) 0 ≤ 30001 by omega)]
  refine lv_istore_n (lv' := [(3, _), (0, _), (1, _), (2, _)]) hx hb dX1_cutTime_6 rfl hl (by decide) rfl (fun ls hl => ?_)
  refine lv_aload_n hx hb dX1_cutTime_7 rfl (lv_at hl 1 rfl) ?_
  refine lv_iload_n hx hb dX1_cutTime_8 rfl (lv_at hl 3 rfl) ?_
  refine lv_iconst (v := 1) hx hb dX1_cutTime_9 (by decide) ?_
  refine lv_iadd hx hb dX1_cutTime_10 ?_
  refine topi_eq (nI_1 c) ?_
  refine lv_iload_n hx hb dX1_cutTime_11 rfl (lv_at hl 3 rfl) ?_
  refine lv_iconst (v := 3) hx hb dX1_cutTime_12 (by decide) ?_
  refine lv_iadd hx hb dX1_cutTime_13 ?_
  refine topi_eq (nI_add c 3) ?_
  refine ro_V (n := 2) X hK (c_X1_numberOf hn hc3 (by omega) hd2) gX1_cutTime_X1_numberOf rfl (by decide +kernel) ⟨rfl, rfl⟩ ⟨Nat.le_of_ble_eq_true rfl, Nat.le_of_ble_eq_true rfl⟩ (hP.sub [0, 6, 7] rfl) (va_recv hK hP (ci := 1) (q0 := 0) rfl rfl) rfl hl.1 rfl (Nat.le_of_ble_eq_true rfl) dX1_cutTime_14 ⟨Nat.zero_le _, Nat.zero_le _⟩ ?_
  rw [show c + 3 - (c + 1) = 2 by omega, Nat.min_eq_left (show numN L (c + 1) 2 0 ≤ 30001 by omega)]
  refine lv_istore (lv' := [(4, _), (3, _), (0, _), (1, _), (2, _)]) hx hb dX1_cutTime_17 hl (by decide) rfl (fun ls hl => ?_)
  refine lv_iload_n hx hb dX1_cutTime_19 rfl (lv_at hl 4 rfl) ?_
  refine lv_iconst (v := 3) hx hb dX1_cutTime_20 (by decide) ?_
  refine lv_iadd hx hb dX1_cutTime_21 ?_
  refine topi_eq (nI_add c 3) ?_
  refine lv_istore (lv' := [(5, _), (4, _), (3, _), (0, _), (1, _), (2, _)]) hx hb dX1_cutTime_22 hl (by decide) rfl (fun ls hl => ?_)
  refine lv_iload_n hx hb dX1_cutTime_24 rfl (lv_at hl 2 rfl) ?_
  refine lv_iconst (v := 1) hx hb dX1_cutTime_25 (by decide) ?_
  refine lv_icmp_lt (tgt := 89) hx hb dX1_cutTime_26 (by decide) (fun c_26 => ?_) (fun c_26 => ?_)
  · have h_26 := ltL (a := numN L p (c - p) 0) (b := 1) c_26
    have ht : tTok (foC fo) n L p c τ = (c + 3, ad4 τ 3 (nI p) (nI (c + 3 - p)) (nI (60 * numN L p (c - p) 0 + numN L (c + 1) 2 0))) := if_neg (fun q => by have := q.1; omega)
    refine lv_aload_n hx hb dX1_cutTime_89 rfl (lv_at hl 3 rfl) ?_
    refine lv_iload hx hb dX1_cutTime_90 (lv_at hl 0 rfl) ?_
    refine lv_iconst (v := 3) hx hb dX1_cutTime_92 (by decide) ?_
    refine lv_iload_n hx hb dX1_cutTime_93 rfl (lv_at hl 4 rfl) ?_
    refine lv_bipush (v := 60) hx hb dX1_cutTime_94 (by decide) ?_
    refine lv_iload_n hx hb dX1_cutTime_96 rfl (lv_at hl 2 rfl) ?_
    refine lv_imul hx hb dX1_cutTime_97 ?_
    refine lv_iload hx hb dX1_cutTime_98 (lv_at hl 1 rfl) ?_
    refine lv_iadd hx hb dX1_cutTime_100 ?_
    refine topi_eq (tm2 _ _) ?_
    refine mu_V (n := 4) X hK (c_X1_addUpTo hτ (by omega)) gX1_cutTime_X1_addUpTo rfl (by decide +kernel) ⟨rfl, rfl⟩ ⟨Nat.le_of_ble_eq_true rfl, Nat.le_of_ble_eq_true rfl⟩ [0, 1, 2, 3, 4, 5] rfl rfl rfl rfl hA hP hD hS (va_recv hK hP (ci := 1) (q0 := 0) rfl rfl) rfl hl.1 rfl (Nat.le_of_ble_eq_true rfl) dX1_cutTime_101 ⟨Nat.zero_le _, Nat.zero_le _⟩ (fun H locs hP hD hS => ?_)
    have hP : va_P D vwCl [(z, .inr (1, [.ref t, .ref v, .ref th, .ref k, _])), (k, .inr (7, [.ref kx, .ref k1, .ref k2, .ref k3, .ref k4, _, _])), (k1, .inl (cI, 24, .inl _)), (k2, .inl (cI, 24, .inl _)), (k3, .inl (cI, 24, .inl _)), (k4, .inl (cI, 24, .inl _)), (th, .inr (4, [.ref tb, _])), (tb, .inl (cI, 80, .inl _)), (t, .inr (3, [_, .ref fa])), (fa, .inl (cI, 32, .inl _))] H := hP
    have hD : va_D A [(z, .inr (1, [.ref t, .ref v, .ref th, .ref k, _])), (k, .inr (7, [.ref kx, .ref k1, .ref k2, .ref k3, .ref k4, _, _])), (k1, .inl (cI, 24, .inl _)), (k2, .inl (cI, 24, .inl _)), (k3, .inl (cI, 24, .inl _)), (k4, .inl (cI, 24, .inl _)), (th, .inr (4, [.ref tb, _])), (tb, .inl (cI, 80, .inl _)), (t, .inr (3, [_, .ref fa])), (fa, .inl (cI, 32, .inl _))] := hD
    exact mu_iret X hP hS (by rw [ht]) (by rw [ht]) dX1_cutTime_104
  · have h_26 : 1 ≤ numN L p (c - p) 0 := ltN (b := 1) (a := numN L p (c - p) 0) c_26
    refine lv_iload_n hx hb dX1_cutTime_29 rfl (lv_at hl 2 rfl) ?_
    refine lv_bipush (v := 12) hx hb dX1_cutTime_30 (by decide) ?_
    refine lv_icmp_gt (tgt := 89) hx hb dX1_cutTime_32 (by decide) (fun c_32 => ?_) (fun c_32 => ?_)
    · have h_32 := ltL (a := 12) (b := numN L p (c - p) 0) c_32
      have ht : tTok (foC fo) n L p c τ = (c + 3, ad4 τ 3 (nI p) (nI (c + 3 - p)) (nI (60 * numN L p (c - p) 0 + numN L (c + 1) 2 0))) := if_neg (fun q => by have := q.2.1; omega)
      refine lv_aload_n hx hb dX1_cutTime_89 rfl (lv_at hl 3 rfl) ?_
      refine lv_iload hx hb dX1_cutTime_90 (lv_at hl 0 rfl) ?_
      refine lv_iconst (v := 3) hx hb dX1_cutTime_92 (by decide) ?_
      refine lv_iload_n hx hb dX1_cutTime_93 rfl (lv_at hl 4 rfl) ?_
      refine lv_bipush (v := 60) hx hb dX1_cutTime_94 (by decide) ?_
      refine lv_iload_n hx hb dX1_cutTime_96 rfl (lv_at hl 2 rfl) ?_
      refine lv_imul hx hb dX1_cutTime_97 ?_
      refine lv_iload hx hb dX1_cutTime_98 (lv_at hl 1 rfl) ?_
      refine lv_iadd hx hb dX1_cutTime_100 ?_
      refine topi_eq (tm2 _ _) ?_
      refine mu_V (n := 4) X hK (c_X1_addUpTo hτ (by omega)) gX1_cutTime_X1_addUpTo rfl (by decide +kernel) ⟨rfl, rfl⟩ ⟨Nat.le_of_ble_eq_true rfl, Nat.le_of_ble_eq_true rfl⟩ [0, 1, 2, 3, 4, 5] rfl rfl rfl rfl hA hP hD hS (va_recv hK hP (ci := 1) (q0 := 0) rfl rfl) rfl hl.1 rfl (Nat.le_of_ble_eq_true rfl) dX1_cutTime_101 ⟨Nat.zero_le _, Nat.zero_le _⟩ (fun H locs hP hD hS => ?_)
      have hP : va_P D vwCl [(z, .inr (1, [.ref t, .ref v, .ref th, .ref k, _])), (k, .inr (7, [.ref kx, .ref k1, .ref k2, .ref k3, .ref k4, _, _])), (k1, .inl (cI, 24, .inl _)), (k2, .inl (cI, 24, .inl _)), (k3, .inl (cI, 24, .inl _)), (k4, .inl (cI, 24, .inl _)), (th, .inr (4, [.ref tb, _])), (tb, .inl (cI, 80, .inl _)), (t, .inr (3, [_, .ref fa])), (fa, .inl (cI, 32, .inl _))] H := hP
      have hD : va_D A [(z, .inr (1, [.ref t, .ref v, .ref th, .ref k, _])), (k, .inr (7, [.ref kx, .ref k1, .ref k2, .ref k3, .ref k4, _, _])), (k1, .inl (cI, 24, .inl _)), (k2, .inl (cI, 24, .inl _)), (k3, .inl (cI, 24, .inl _)), (k4, .inl (cI, 24, .inl _)), (th, .inr (4, [.ref tb, _])), (tb, .inl (cI, 80, .inl _)), (t, .inr (3, [_, .ref fa])), (fa, .inl (cI, 32, .inl _))] := hD
      exact mu_iret X hP hS (by rw [ht]) (by rw [ht]) dX1_cutTime_104
    · have h_32 : numN L p (c - p) 0 ≤ 12 := ltN (a := 12) (b := numN L p (c - p) 0) c_32
      refine lv_aload_n hx hb dX1_cutTime_35 rfl (lv_at hl 3 rfl) ?_
      refine lv_iload hx hb dX1_cutTime_36 (lv_at hl 0 rfl) ?_
      refine ro_V (n := 1) X hK (c_X1_isHalfOfDay hn (by omega)) gX1_cutTime_X1_isHalfOfDay rfl (by decide +kernel) ⟨rfl, rfl⟩ ⟨Nat.le_of_ble_eq_true rfl, Nat.le_of_ble_eq_true rfl⟩ (hP.sub [0, 6, 7, 8, 9] rfl) (va_recv hK hP (ci := 1) (q0 := 0) rfl rfl) rfl hl.1 rfl (Nat.le_of_ble_eq_true rfl) dX1_cutTime_38 ⟨Nat.zero_le _, Nat.zero_le _⟩ ?_
      refine lv_if_eq (tgt := 89) hx hb dX1_cutTime_41 (by decide) (fun c_41 => ?_) (fun c_41 => ?_)
      · replace c_41 := bI_0.mp c_41
        have ht : tTok (foC fo) n L p c τ = (c + 3, ad4 τ 3 (nI p) (nI (c + 3 - p)) (nI (60 * numN L p (c - p) 0 + numN L (c + 1) 2 0))) := if_neg (fun q => by rw [c_41] at q; exact absurd q.2.2 (by decide))
        refine lv_aload_n hx hb dX1_cutTime_89 rfl (lv_at hl 3 rfl) ?_
        refine lv_iload hx hb dX1_cutTime_90 (lv_at hl 0 rfl) ?_
        refine lv_iconst (v := 3) hx hb dX1_cutTime_92 (by decide) ?_
        refine lv_iload_n hx hb dX1_cutTime_93 rfl (lv_at hl 4 rfl) ?_
        refine lv_bipush (v := 60) hx hb dX1_cutTime_94 (by decide) ?_
        refine lv_iload_n hx hb dX1_cutTime_96 rfl (lv_at hl 2 rfl) ?_
        refine lv_imul hx hb dX1_cutTime_97 ?_
        refine lv_iload hx hb dX1_cutTime_98 (lv_at hl 1 rfl) ?_
        refine lv_iadd hx hb dX1_cutTime_100 ?_
        refine topi_eq (tm2 _ _) ?_
        refine mu_V (n := 4) X hK (c_X1_addUpTo hτ (by omega)) gX1_cutTime_X1_addUpTo rfl (by decide +kernel) ⟨rfl, rfl⟩ ⟨Nat.le_of_ble_eq_true rfl, Nat.le_of_ble_eq_true rfl⟩ [0, 1, 2, 3, 4, 5] rfl rfl rfl rfl hA hP hD hS (va_recv hK hP (ci := 1) (q0 := 0) rfl rfl) rfl hl.1 rfl (Nat.le_of_ble_eq_true rfl) dX1_cutTime_101 ⟨Nat.zero_le _, Nat.zero_le _⟩ (fun H locs hP hD hS => ?_)
        have hP : va_P D vwCl [(z, .inr (1, [.ref t, .ref v, .ref th, .ref k, _])), (k, .inr (7, [.ref kx, .ref k1, .ref k2, .ref k3, .ref k4, _, _])), (k1, .inl (cI, 24, .inl _)), (k2, .inl (cI, 24, .inl _)), (k3, .inl (cI, 24, .inl _)), (k4, .inl (cI, 24, .inl _)), (th, .inr (4, [.ref tb, _])), (tb, .inl (cI, 80, .inl _)), (t, .inr (3, [_, .ref fa])), (fa, .inl (cI, 32, .inl _))] H := hP
        have hD : va_D A [(z, .inr (1, [.ref t, .ref v, .ref th, .ref k, _])), (k, .inr (7, [.ref kx, .ref k1, .ref k2, .ref k3, .ref k4, _, _])), (k1, .inl (cI, 24, .inl _)), (k2, .inl (cI, 24, .inl _)), (k3, .inl (cI, 24, .inl _)), (k4, .inl (cI, 24, .inl _)), (th, .inr (4, [.ref tb, _])), (tb, .inl (cI, 80, .inl _)), (t, .inr (3, [_, .ref fa])), (fa, .inl (cI, 32, .inl _))] := hD
        exact mu_iret X hP hS (by rw [ht]) (by rw [ht]) dX1_cutTime_104
      · replace c_41 := bI_n0.mp c_41
        refine lv_iload_n hx hb dX1_cutTime_44 rfl (lv_at hl 2 rfl) ?_
        refine lv_bipush (v := 12) hx hb dX1_cutTime_45 (by decide) ?_
        refine lv_icmp_ne (tgt := 54) hx hb dX1_cutTime_47 (by decide) (fun c_47 => ?_) (fun c_47 => ?_)
        · have h_47 : ¬ numN L p (c - p) 0 = 12 := fun q => c_47 (by rw [q]; rfl)
          refine lv_iload_n hx hb dX1_cutTime_54 rfl (lv_at hl 2 rfl) ?_
          refine lv_istore_n (lv' := [(3, _), (5, _), (4, _), (0, _), (1, _), (2, _)]) hx hb dX1_cutTime_55 rfl hl (by decide) rfl (fun ls hl => ?_)
          refine lv_iload_n hx hb dX1_cutTime_56 rfl (lv_at hl 0 rfl) ?_
          refine lv_aload_n hx hb dX1_cutTime_57 rfl (lv_at hl 3 rfl) ?_
          refine va_get (D := D) (ci := 1) (C := RX1) (T := TX1) (N := 5) hx hb hts in_X1 hown hK hP 0 rfl rfl 0 (by decide) fl_9 (fun _ h9 => h9) rfl dX1_cutTime_58 ?_
          refine lv_aload_n hx hb dX1_cutTime_61 rfl (lv_at hl 3 rfl) ?_
          refine va_get (D := D) (ci := 1) (C := RX1) (T := TX1) (N := 5) hx hb hts in_X1 hown hK hP 0 rfl rfl 2 (by decide) fl_19 (fun _ h9 => h9) rfl dX1_cutTime_62 ?_
          refine lv_iload hx hb dX1_cutTime_65 (lv_at hl 1 rfl) ?_
          refine ro_V (n := 1) X hK (c_X4_byteAt (by decide)) gX1_cutTime_X4_byteAt rfl (by decide +kernel) ⟨rfl, rfl⟩ ⟨Nat.le_of_ble_eq_true rfl, Nat.le_of_ble_eq_true rfl⟩ (hP.sub [6, 7] rfl) (va_recv hK hP (ci := 4) (q0 := 6) rfl rfl) rfl hl.1 rfl (Nat.le_of_ble_eq_true rfl) dX1_cutTime_67 ⟨Nat.zero_le _, Nat.zero_le _⟩ ?_
          rw [rowAt_bt hn (by omega)]
          refine ro_V (n := 1) X hK (c_X3_folded) gX1_cutTime_X3_folded rfl (by decide +kernel) ⟨rfl, rfl⟩ ⟨Nat.le_of_ble_eq_true rfl, Nat.le_of_ble_eq_true rfl⟩ (hP.sub [8, 9] rfl) (va_recv hK hP (ci := 3) (q0 := 8) rfl rfl) rfl hl.1 rfl (Nat.le_of_ble_eq_true rfl) dX1_cutTime_70 ⟨Nat.zero_le _, Nat.zero_le _⟩ ?_
          refine lv_bipush (v := 112) hx hb dX1_cutTime_73 (by decide) ?_
          refine lv_icmp_ne (tgt := 83) hx hb dX1_cutTime_75 (by decide) (fun c_75 => ?_) (fun c_75 => ?_)
          · refine lv_iconst (v := 0) hx hb dX1_cutTime_83 (by decide) ?_
            refine lv_iadd hx hb dX1_cutTime_84 ?_
            refine lv_istore_n (lv' := [(3, _), (5, _), (4, _), (0, _), (1, _), (2, _)]) hx hb dX1_cutTime_85 rfl hl (by decide) rfl (fun ls hl => ?_)
            refine lv_iinc (v := (_ : Int32) + 2) (lv' := [(5, _), (3, _), (4, _), (0, _), (1, _), (2, _)]) hx hb dX1_cutTime_86 hl (k := 1) rfl rfl (by decide) rfl (fun ls hl => ?_)
            rw [show nI (c + 3) + 2 = nI (c + 5) from nI_add (c + 3) 2] at hl
            have ht : tTok (foC fo) n L p c τ = (c + 5, ad4 τ 3 (nI p) (nI (c + 5 - p)) (nI (60 * ((if numN L p (c - p) 0 = 12 then 0 else numN L p (c - p) 0) + (if foC fo (bt n L (c + 3)) = 112 then 12 else 0)) + numN L (c + 1) 2 0))) := if_pos ⟨by omega, by omega, c_41⟩
            refine lv_aload_n hx hb dX1_cutTime_89 rfl (lv_at hl 3 rfl) ?_
            refine lv_iload hx hb dX1_cutTime_90 (lv_at hl 0 rfl) ?_
            refine lv_iconst (v := 3) hx hb dX1_cutTime_92 (by decide) ?_
            refine lv_iload_n hx hb dX1_cutTime_93 rfl (lv_at hl 4 rfl) ?_
            refine lv_bipush (v := 60) hx hb dX1_cutTime_94 (by decide) ?_
            refine lv_iload_n hx hb dX1_cutTime_96 rfl (lv_at hl 1 rfl) ?_
            refine lv_imul hx hb dX1_cutTime_97 ?_
            refine lv_iload hx hb dX1_cutTime_98 (lv_at hl 2 rfl) ?_
            refine lv_iadd hx hb dX1_cutTime_100 ?_
            refine topi_eq (y := nI (60 * ((if numN L p (c - p) 0 = 12 then 0 else numN L p (c - p) 0) + (if foC fo (bt n L (c + 3)) = 112 then 12 else 0)) + numN L (c + 1) 2 0)) (by first | (rw [if_pos h_47, if_pos c_75]; exact tm4 0 12 _) | (rw [if_pos h_47, if_neg c_75]; exact tm4 0 0 _) | (rw [if_neg h_47, if_pos c_75]; exact tm4 _ 12 _) | (rw [if_neg h_47, if_neg c_75]; exact tm4 _ 0 _)) ?_
            refine mu_V (n := 4) X hK (c_X1_addUpTo hτ (by omega)) gX1_cutTime_X1_addUpTo rfl (by decide +kernel) ⟨rfl, rfl⟩ ⟨Nat.le_of_ble_eq_true rfl, Nat.le_of_ble_eq_true rfl⟩ [0, 1, 2, 3, 4, 5] rfl rfl rfl rfl hA hP hD hS (va_recv hK hP (ci := 1) (q0 := 0) rfl rfl) rfl hl.1 rfl (Nat.le_of_ble_eq_true rfl) dX1_cutTime_101 ⟨Nat.zero_le _, Nat.zero_le _⟩ (fun H locs hP hD hS => ?_)
            have hP : va_P D vwCl [(z, .inr (1, [.ref t, .ref v, .ref th, .ref k, _])), (k, .inr (7, [.ref kx, .ref k1, .ref k2, .ref k3, .ref k4, _, _])), (k1, .inl (cI, 24, .inl _)), (k2, .inl (cI, 24, .inl _)), (k3, .inl (cI, 24, .inl _)), (k4, .inl (cI, 24, .inl _)), (th, .inr (4, [.ref tb, _])), (tb, .inl (cI, 80, .inl _)), (t, .inr (3, [_, .ref fa])), (fa, .inl (cI, 32, .inl _))] H := hP
            have hD : va_D A [(z, .inr (1, [.ref t, .ref v, .ref th, .ref k, _])), (k, .inr (7, [.ref kx, .ref k1, .ref k2, .ref k3, .ref k4, _, _])), (k1, .inl (cI, 24, .inl _)), (k2, .inl (cI, 24, .inl _)), (k3, .inl (cI, 24, .inl _)), (k4, .inl (cI, 24, .inl _)), (th, .inr (4, [.ref tb, _])), (tb, .inl (cI, 80, .inl _)), (t, .inr (3, [_, .ref fa])), (fa, .inl (cI, 32, .inl _))] := hD
            exact mu_iret X hP hS (by rw [ht]) (by rw [ht]) dX1_cutTime_104
          · refine lv_bipush (v := 12) hx hb dX1_cutTime_78 (by decide) ?_
            refine lv_goto (tgt := 84) hx hb dX1_cutTime_80 (by decide) ?_
            refine lv_iadd hx hb dX1_cutTime_84 ?_
            refine lv_istore_n (lv' := [(3, _), (5, _), (4, _), (0, _), (1, _), (2, _)]) hx hb dX1_cutTime_85 rfl hl (by decide) rfl (fun ls hl => ?_)
            refine lv_iinc (v := (_ : Int32) + 2) (lv' := [(5, _), (3, _), (4, _), (0, _), (1, _), (2, _)]) hx hb dX1_cutTime_86 hl (k := 1) rfl rfl (by decide) rfl (fun ls hl => ?_)
            rw [show nI (c + 3) + 2 = nI (c + 5) from nI_add (c + 3) 2] at hl
            have ht : tTok (foC fo) n L p c τ = (c + 5, ad4 τ 3 (nI p) (nI (c + 5 - p)) (nI (60 * ((if numN L p (c - p) 0 = 12 then 0 else numN L p (c - p) 0) + (if foC fo (bt n L (c + 3)) = 112 then 12 else 0)) + numN L (c + 1) 2 0))) := if_pos ⟨by omega, by omega, c_41⟩
            refine lv_aload_n hx hb dX1_cutTime_89 rfl (lv_at hl 3 rfl) ?_
            refine lv_iload hx hb dX1_cutTime_90 (lv_at hl 0 rfl) ?_
            refine lv_iconst (v := 3) hx hb dX1_cutTime_92 (by decide) ?_
            refine lv_iload_n hx hb dX1_cutTime_93 rfl (lv_at hl 4 rfl) ?_
            refine lv_bipush (v := 60) hx hb dX1_cutTime_94 (by decide) ?_
            refine lv_iload_n hx hb dX1_cutTime_96 rfl (lv_at hl 1 rfl) ?_
            refine lv_imul hx hb dX1_cutTime_97 ?_
            refine lv_iload hx hb dX1_cutTime_98 (lv_at hl 2 rfl) ?_
            refine lv_iadd hx hb dX1_cutTime_100 ?_
            refine topi_eq (y := nI (60 * ((if numN L p (c - p) 0 = 12 then 0 else numN L p (c - p) 0) + (if foC fo (bt n L (c + 3)) = 112 then 12 else 0)) + numN L (c + 1) 2 0)) (by first | (rw [if_pos h_47, if_pos c_75]; exact tm4 0 12 _) | (rw [if_pos h_47, if_neg c_75]; exact tm4 0 0 _) | (rw [if_neg h_47, if_pos c_75]; exact tm4 _ 12 _) | (rw [if_neg h_47, if_neg c_75]; exact tm4 _ 0 _)) ?_
            refine mu_V (n := 4) X hK (c_X1_addUpTo hτ (by omega)) gX1_cutTime_X1_addUpTo rfl (by decide +kernel) ⟨rfl, rfl⟩ ⟨Nat.le_of_ble_eq_true rfl, Nat.le_of_ble_eq_true rfl⟩ [0, 1, 2, 3, 4, 5] rfl rfl rfl rfl hA hP hD hS (va_recv hK hP (ci := 1) (q0 := 0) rfl rfl) rfl hl.1 rfl (Nat.le_of_ble_eq_true rfl) dX1_cutTime_101 ⟨Nat.zero_le _, Nat.zero_le _⟩ (fun H locs hP hD hS => ?_)
            have hP : va_P D vwCl [(z, .inr (1, [.ref t, .ref v, .ref th, .ref k, _])), (k, .inr (7, [.ref kx, .ref k1, .ref k2, .ref k3, .ref k4, _, _])), (k1, .inl (cI, 24, .inl _)), (k2, .inl (cI, 24, .inl _)), (k3, .inl (cI, 24, .inl _)), (k4, .inl (cI, 24, .inl _)), (th, .inr (4, [.ref tb, _])), (tb, .inl (cI, 80, .inl _)), (t, .inr (3, [_, .ref fa])), (fa, .inl (cI, 32, .inl _))] H := hP
            have hD : va_D A [(z, .inr (1, [.ref t, .ref v, .ref th, .ref k, _])), (k, .inr (7, [.ref kx, .ref k1, .ref k2, .ref k3, .ref k4, _, _])), (k1, .inl (cI, 24, .inl _)), (k2, .inl (cI, 24, .inl _)), (k3, .inl (cI, 24, .inl _)), (k4, .inl (cI, 24, .inl _)), (th, .inr (4, [.ref tb, _])), (tb, .inl (cI, 80, .inl _)), (t, .inr (3, [_, .ref fa])), (fa, .inl (cI, 32, .inl _))] := hD
            exact mu_iret X hP hS (by rw [ht]) (by rw [ht]) dX1_cutTime_104
        · have h_47 : numN L p (c - p) 0 = 12 := (nI_eq (by omega) (by decide)).mp c_47
          refine lv_iconst (v := 0) hx hb dX1_cutTime_50 (by decide) ?_
          refine lv_goto (tgt := 55) hx hb dX1_cutTime_51 (by decide) ?_
          refine lv_istore_n (lv' := [(3, _), (5, _), (4, _), (0, _), (1, _), (2, _)]) hx hb dX1_cutTime_55 rfl hl (by decide) rfl (fun ls hl => ?_)
          refine lv_iload_n hx hb dX1_cutTime_56 rfl (lv_at hl 0 rfl) ?_
          refine lv_aload_n hx hb dX1_cutTime_57 rfl (lv_at hl 3 rfl) ?_
          refine va_get (D := D) (ci := 1) (C := RX1) (T := TX1) (N := 5) hx hb hts in_X1 hown hK hP 0 rfl rfl 0 (by decide) fl_9 (fun _ h9 => h9) rfl dX1_cutTime_58 ?_
          refine lv_aload_n hx hb dX1_cutTime_61 rfl (lv_at hl 3 rfl) ?_
          refine va_get (D := D) (ci := 1) (C := RX1) (T := TX1) (N := 5) hx hb hts in_X1 hown hK hP 0 rfl rfl 2 (by decide) fl_19 (fun _ h9 => h9) rfl dX1_cutTime_62 ?_
          refine lv_iload hx hb dX1_cutTime_65 (lv_at hl 1 rfl) ?_
          refine ro_V (n := 1) X hK (c_X4_byteAt (by decide)) gX1_cutTime_X4_byteAt rfl (by decide +kernel) ⟨rfl, rfl⟩ ⟨Nat.le_of_ble_eq_true rfl, Nat.le_of_ble_eq_true rfl⟩ (hP.sub [6, 7] rfl) (va_recv hK hP (ci := 4) (q0 := 6) rfl rfl) rfl hl.1 rfl (Nat.le_of_ble_eq_true rfl) dX1_cutTime_67 ⟨Nat.zero_le _, Nat.zero_le _⟩ ?_
          rw [rowAt_bt hn (by omega)]
          refine ro_V (n := 1) X hK (c_X3_folded) gX1_cutTime_X3_folded rfl (by decide +kernel) ⟨rfl, rfl⟩ ⟨Nat.le_of_ble_eq_true rfl, Nat.le_of_ble_eq_true rfl⟩ (hP.sub [8, 9] rfl) (va_recv hK hP (ci := 3) (q0 := 8) rfl rfl) rfl hl.1 rfl (Nat.le_of_ble_eq_true rfl) dX1_cutTime_70 ⟨Nat.zero_le _, Nat.zero_le _⟩ ?_
          refine lv_bipush (v := 112) hx hb dX1_cutTime_73 (by decide) ?_
          refine lv_icmp_ne (tgt := 83) hx hb dX1_cutTime_75 (by decide) (fun c_75 => ?_) (fun c_75 => ?_)
          · refine lv_iconst (v := 0) hx hb dX1_cutTime_83 (by decide) ?_
            refine lv_iadd hx hb dX1_cutTime_84 ?_
            refine lv_istore_n (lv' := [(3, _), (5, _), (4, _), (0, _), (1, _), (2, _)]) hx hb dX1_cutTime_85 rfl hl (by decide) rfl (fun ls hl => ?_)
            refine lv_iinc (v := (_ : Int32) + 2) (lv' := [(5, _), (3, _), (4, _), (0, _), (1, _), (2, _)]) hx hb dX1_cutTime_86 hl (k := 1) rfl rfl (by decide) rfl (fun ls hl => ?_)
            rw [show nI (c + 3) + 2 = nI (c + 5) from nI_add (c + 3) 2] at hl
            have ht : tTok (foC fo) n L p c τ = (c + 5, ad4 τ 3 (nI p) (nI (c + 5 - p)) (nI (60 * ((if numN L p (c - p) 0 = 12 then 0 else numN L p (c - p) 0) + (if foC fo (bt n L (c + 3)) = 112 then 12 else 0)) + numN L (c + 1) 2 0))) := if_pos ⟨by omega, by omega, c_41⟩
            refine lv_aload_n hx hb dX1_cutTime_89 rfl (lv_at hl 3 rfl) ?_
            refine lv_iload hx hb dX1_cutTime_90 (lv_at hl 0 rfl) ?_
            refine lv_iconst (v := 3) hx hb dX1_cutTime_92 (by decide) ?_
            refine lv_iload_n hx hb dX1_cutTime_93 rfl (lv_at hl 4 rfl) ?_
            refine lv_bipush (v := 60) hx hb dX1_cutTime_94 (by decide) ?_
            refine lv_iload_n hx hb dX1_cutTime_96 rfl (lv_at hl 1 rfl) ?_
            refine lv_imul hx hb dX1_cutTime_97 ?_
            refine lv_iload hx hb dX1_cutTime_98 (lv_at hl 2 rfl) ?_
            refine lv_iadd hx hb dX1_cutTime_100 ?_
            refine topi_eq (y := nI (60 * ((if numN L p (c - p) 0 = 12 then 0 else numN L p (c - p) 0) + (if foC fo (bt n L (c + 3)) = 112 then 12 else 0)) + numN L (c + 1) 2 0)) (by first | (rw [if_pos h_47, if_pos c_75]; exact tm4 0 12 _) | (rw [if_pos h_47, if_neg c_75]; exact tm4 0 0 _) | (rw [if_neg h_47, if_pos c_75]; exact tm4 _ 12 _) | (rw [if_neg h_47, if_neg c_75]; exact tm4 _ 0 _)) ?_
            refine mu_V (n := 4) X hK (c_X1_addUpTo hτ (by omega)) gX1_cutTime_X1_addUpTo rfl (by decide +kernel) ⟨rfl, rfl⟩ ⟨Nat.le_of_ble_eq_true rfl, Nat.le_of_ble_eq_true rfl⟩ [0, 1, 2, 3, 4, 5] rfl rfl rfl rfl hA hP hD hS (va_recv hK hP (ci := 1) (q0 := 0) rfl rfl) rfl hl.1 rfl (Nat.le_of_ble_eq_true rfl) dX1_cutTime_101 ⟨Nat.zero_le _, Nat.zero_le _⟩ (fun H locs hP hD hS => ?_)
            have hP : va_P D vwCl [(z, .inr (1, [.ref t, .ref v, .ref th, .ref k, _])), (k, .inr (7, [.ref kx, .ref k1, .ref k2, .ref k3, .ref k4, _, _])), (k1, .inl (cI, 24, .inl _)), (k2, .inl (cI, 24, .inl _)), (k3, .inl (cI, 24, .inl _)), (k4, .inl (cI, 24, .inl _)), (th, .inr (4, [.ref tb, _])), (tb, .inl (cI, 80, .inl _)), (t, .inr (3, [_, .ref fa])), (fa, .inl (cI, 32, .inl _))] H := hP
            have hD : va_D A [(z, .inr (1, [.ref t, .ref v, .ref th, .ref k, _])), (k, .inr (7, [.ref kx, .ref k1, .ref k2, .ref k3, .ref k4, _, _])), (k1, .inl (cI, 24, .inl _)), (k2, .inl (cI, 24, .inl _)), (k3, .inl (cI, 24, .inl _)), (k4, .inl (cI, 24, .inl _)), (th, .inr (4, [.ref tb, _])), (tb, .inl (cI, 80, .inl _)), (t, .inr (3, [_, .ref fa])), (fa, .inl (cI, 32, .inl _))] := hD
            exact mu_iret X hP hS (by rw [ht]) (by rw [ht]) dX1_cutTime_104
          · refine lv_bipush (v := 12) hx hb dX1_cutTime_78 (by decide) ?_
            refine lv_goto (tgt := 84) hx hb dX1_cutTime_80 (by decide) ?_
            refine lv_iadd hx hb dX1_cutTime_84 ?_
            refine lv_istore_n (lv' := [(3, _), (5, _), (4, _), (0, _), (1, _), (2, _)]) hx hb dX1_cutTime_85 rfl hl (by decide) rfl (fun ls hl => ?_)
            refine lv_iinc (v := (_ : Int32) + 2) (lv' := [(5, _), (3, _), (4, _), (0, _), (1, _), (2, _)]) hx hb dX1_cutTime_86 hl (k := 1) rfl rfl (by decide) rfl (fun ls hl => ?_)
            rw [show nI (c + 3) + 2 = nI (c + 5) from nI_add (c + 3) 2] at hl
            have ht : tTok (foC fo) n L p c τ = (c + 5, ad4 τ 3 (nI p) (nI (c + 5 - p)) (nI (60 * ((if numN L p (c - p) 0 = 12 then 0 else numN L p (c - p) 0) + (if foC fo (bt n L (c + 3)) = 112 then 12 else 0)) + numN L (c + 1) 2 0))) := if_pos ⟨by omega, by omega, c_41⟩
            refine lv_aload_n hx hb dX1_cutTime_89 rfl (lv_at hl 3 rfl) ?_
            refine lv_iload hx hb dX1_cutTime_90 (lv_at hl 0 rfl) ?_
            refine lv_iconst (v := 3) hx hb dX1_cutTime_92 (by decide) ?_
            refine lv_iload_n hx hb dX1_cutTime_93 rfl (lv_at hl 4 rfl) ?_
            refine lv_bipush (v := 60) hx hb dX1_cutTime_94 (by decide) ?_
            refine lv_iload_n hx hb dX1_cutTime_96 rfl (lv_at hl 1 rfl) ?_
            refine lv_imul hx hb dX1_cutTime_97 ?_
            refine lv_iload hx hb dX1_cutTime_98 (lv_at hl 2 rfl) ?_
            refine lv_iadd hx hb dX1_cutTime_100 ?_
            refine topi_eq (y := nI (60 * ((if numN L p (c - p) 0 = 12 then 0 else numN L p (c - p) 0) + (if foC fo (bt n L (c + 3)) = 112 then 12 else 0)) + numN L (c + 1) 2 0)) (by first | (rw [if_pos h_47, if_pos c_75]; exact tm4 0 12 _) | (rw [if_pos h_47, if_neg c_75]; exact tm4 0 0 _) | (rw [if_neg h_47, if_pos c_75]; exact tm4 _ 12 _) | (rw [if_neg h_47, if_neg c_75]; exact tm4 _ 0 _)) ?_
            refine mu_V (n := 4) X hK (c_X1_addUpTo hτ (by omega)) gX1_cutTime_X1_addUpTo rfl (by decide +kernel) ⟨rfl, rfl⟩ ⟨Nat.le_of_ble_eq_true rfl, Nat.le_of_ble_eq_true rfl⟩ [0, 1, 2, 3, 4, 5] rfl rfl rfl rfl hA hP hD hS (va_recv hK hP (ci := 1) (q0 := 0) rfl rfl) rfl hl.1 rfl (Nat.le_of_ble_eq_true rfl) dX1_cutTime_101 ⟨Nat.zero_le _, Nat.zero_le _⟩ (fun H locs hP hD hS => ?_)
            have hP : va_P D vwCl [(z, .inr (1, [.ref t, .ref v, .ref th, .ref k, _])), (k, .inr (7, [.ref kx, .ref k1, .ref k2, .ref k3, .ref k4, _, _])), (k1, .inl (cI, 24, .inl _)), (k2, .inl (cI, 24, .inl _)), (k3, .inl (cI, 24, .inl _)), (k4, .inl (cI, 24, .inl _)), (th, .inr (4, [.ref tb, _])), (tb, .inl (cI, 80, .inl _)), (t, .inr (3, [_, .ref fa])), (fa, .inl (cI, 32, .inl _))] H := hP
            have hD : va_D A [(z, .inr (1, [.ref t, .ref v, .ref th, .ref k, _])), (k, .inr (7, [.ref kx, .ref k1, .ref k2, .ref k3, .ref k4, _, _])), (k1, .inl (cI, 24, .inl _)), (k2, .inl (cI, 24, .inl _)), (k3, .inl (cI, 24, .inl _)), (k4, .inl (cI, 24, .inl _)), (th, .inr (4, [.ref tb, _])), (tb, .inl (cI, 80, .inl _)), (t, .inr (3, [_, .ref fa])), (fa, .inl (cI, 32, .inl _))] := hD
            exact mu_iret X hP hS (by rw [ht]) (by rw [ht]) dX1_cutTime_104

set_option maxHeartbeats 1000000 in
set_option maxRecDepth 100000 in
theorem c_X1_cutDigits {l : Launch} {D : va_G} {cI cJ cW : ClassId} {sz : Nat} {z t v th k kx k1 k2 k3 k4 tb n : Nat} {L : Nat → Int32} {lg : Int32} {τ : TS} {fa ct p : Nat} {fo : Nat → Int32} (hn : n ≤ 80) (hτ : τ.1 ≤ 24) (hp : p < n) : MU l yX1_cutDigits wsX1_cutDigits { frames := 4, cells := 0, slots := 0, locals := 87 } D (ty3 cI cJ cW) [.ref z, .int (nI p)] [(z, .inr (1, [.ref t, .ref v, .ref th, .ref k, .int lg])), (k, .inr (7, [.ref kx, .ref k1, .ref k2, .ref k3, .ref k4, .int (nI τ.1), .int τ.2.1])), (k1, .inl (cI, 24, .inl (τ.2.2 1))), (k2, .inl (cI, 24, .inl (τ.2.2 2))), (k3, .inl (cI, 24, .inl (τ.2.2 3))), (k4, .inl (cI, 24, .inl (τ.2.2 4))), (th, .inr (4, [.ref tb, .int (nI n)])), (tb, .inl (cI, 80, .inl L)), (t, .inr (3, [.int (nI ct), .ref fa])), (fa, .inl (cI, 32, .inl fo))] sz (some (.int (nI (dTok (foC fo) n L p τ).1))) [(z, .inr (1, [.ref t, .ref v, .ref th, .ref k, .int lg])), (k, .inr (7, [.ref kx, .ref k1, .ref k2, .ref k3, .ref k4, .int (nI (dTok (foC fo) n L p τ).2.1), .int ((dTok (foC fo) n L p τ).2.2.1)])), (k1, .inl (cI, 24, .inl ((dTok (foC fo) n L p τ).2.2.2 1))), (k2, .inl (cI, 24, .inl ((dTok (foC fo) n L p τ).2.2.2 2))), (k3, .inl (cI, 24, .inl ((dTok (foC fo) n L p τ).2.2.2 3))), (k4, .inl (cI, 24, .inl ((dTok (foC fo) n L p τ).2.2.2 4))), (th, .inr (4, [.ref tb, .int (nI n)])), (tb, .inl (cI, 80, .inl L)), (t, .inr (3, [.int (nI ct), .ref fa])), (fa, .inl (cI, 32, .inl fo))] := by
  have hen := sp_n (P := isDi) (L := L) (n := n) (k := p) (by omega)
  have hpe := sp_le (P := isDi) (L := L) (n := n) (k := p)
  have hdg : ∀ i, p ≤ i → i < sp isDi L n p → isDi (L i) = true := fun i h1 h2 => sp_all h1 h2
  refine mu_of (cc := cX1_cutDigits) (maxL := 4) (ret := (some .int)) (by decide) rfl (Nat.le_of_ble_eq_true rfl) ?_
  intro pr en ss mi below meth cd X hK A hA hP hD hS ls hl
  obtain ⟨hx, hb, hml, hown, hts, hr, hlocks⟩ := id X
  have hl : lv_has ls 4 [(0, .ref z), (1, .int (nI p))] := hl
  refine lv_aload_n hx hb dX1_cutDigits_0 rfl (lv_at hl 0 rfl) ?_
  refine lv_iload_n hx hb dX1_cutDigits_1 rfl (lv_at hl 1 rfl) ?_
  refine ro_V (n := 1) X hK (c_X1_endOfDigits hn (by omega)) gX1_cutDigits_X1_endOfDigits rfl (by decide +kernel) ⟨rfl, rfl⟩ ⟨Nat.le_of_ble_eq_true rfl, Nat.le_of_ble_eq_true rfl⟩ (hP.sub [0, 6, 7] rfl) (va_recv hK hP (ci := 1) (q0 := 0) rfl rfl) rfl hl.1 rfl (Nat.le_of_ble_eq_true rfl) dX1_cutDigits_2 ⟨Nat.zero_le _, Nat.zero_le _⟩ ?_
  refine lv_istore_n (lv' := [(2, _), (0, _), (1, _)]) hx hb dX1_cutDigits_5 rfl hl (by decide) rfl (fun ls hl => ?_)
  refine lv_aload_n hx hb dX1_cutDigits_6 rfl (lv_at hl 1 rfl) ?_
  refine lv_iload_n hx hb dX1_cutDigits_7 rfl (lv_at hl 2 rfl) ?_
  refine lv_iload_n hx hb dX1_cutDigits_8 rfl (lv_at hl 0 rfl) ?_
  refine ro_V (n := 2) X hK (c_X1_isTime hn hen hpe hdg) gX1_cutDigits_X1_isTime rfl (by decide +kernel) ⟨rfl, rfl⟩ ⟨Nat.le_of_ble_eq_true rfl, Nat.le_of_ble_eq_true rfl⟩ (hP.sub [0, 6, 7] rfl) (va_recv hK hP (ci := 1) (q0 := 0) rfl rfl) rfl hl.1 rfl (Nat.le_of_ble_eq_true rfl) dX1_cutDigits_9 ⟨Nat.zero_le _, Nat.zero_le _⟩ ?_
  refine lv_if_eq (tgt := 22) hx hb dX1_cutDigits_12 (by decide) (fun c_12 => ?_) (fun c_12 => ?_)
  · replace c_12 := bI_0.mp c_12
    refine lv_aload_n hx hb dX1_cutDigits_22 rfl (lv_at hl 1 rfl) ?_
    refine lv_iload_n hx hb dX1_cutDigits_23 rfl (lv_at hl 2 rfl) ?_
    refine lv_iload_n hx hb dX1_cutDigits_24 rfl (lv_at hl 0 rfl) ?_
    refine ro_V (n := 2) X hK (c_X1_numberOf hn hen hpe hdg) gX1_cutDigits_X1_numberOf rfl (by decide +kernel) ⟨rfl, rfl⟩ ⟨Nat.le_of_ble_eq_true rfl, Nat.le_of_ble_eq_true rfl⟩ (hP.sub [0, 6, 7] rfl) (va_recv hK hP (ci := 1) (q0 := 0) rfl rfl) rfl hl.1 rfl (Nat.le_of_ble_eq_true rfl) dX1_cutDigits_25 ⟨Nat.zero_le _, Nat.zero_le _⟩ ?_
    refine lv_istore_n (lv' := [(3, _), (2, _), (0, _), (1, _)]) hx hb dX1_cutDigits_28 rfl hl (by decide) rfl (fun ls hl => ?_)
    refine lv_iload_n hx hb dX1_cutDigits_29 rfl (lv_at hl 0 rfl) ?_
    refine lv_sipush (v := 30000) hx hb dX1_cutDigits_30 (by decide) ?_
    refine lv_icmp_le (tgt := 46) hx hb dX1_cutDigits_33 (by decide) (fun c_33 => ?_) (fun c_33 => ?_)
    · have h_33 := leL (a := min (numN L p (sp isDi L n p - p) 0) 30001) (b := 30000) c_33
      have h_v : min (numN L p (sp isDi L n p - p) 0) 30001 = numN L p (sp isDi L n p - p) 0 := by omega
      have ht : dTok (foC fo) n L p τ = (sp isDi L n p, ad4 τ 2 (nI p) (nI (sp isDi L n p - p)) (nI (numN L p (sp isDi L n p - p) 0))) := by simp only [dTok]; rw [if_neg (by rw [c_12]; decide), if_pos (by omega)]
      rw [h_v] at hl
      refine lv_aload_n hx hb dX1_cutDigits_46 rfl (lv_at hl 2 rfl) ?_
      refine lv_iload_n hx hb dX1_cutDigits_47 rfl (lv_at hl 1 rfl) ?_
      refine lv_iconst (v := 2) hx hb dX1_cutDigits_48 (by decide) ?_
      refine lv_iload_n hx hb dX1_cutDigits_49 rfl (lv_at hl 3 rfl) ?_
      refine lv_iload_n hx hb dX1_cutDigits_50 rfl (lv_at hl 0 rfl) ?_
      refine mu_V (n := 4) X hK (c_X1_addUpTo hτ hpe) gX1_cutDigits_X1_addUpTo rfl (by decide +kernel) ⟨rfl, rfl⟩ ⟨Nat.le_of_ble_eq_true rfl, Nat.le_of_ble_eq_true rfl⟩ [0, 1, 2, 3, 4, 5] rfl rfl rfl rfl hA hP hD hS (va_recv hK hP (ci := 1) (q0 := 0) rfl rfl) rfl hl.1 rfl (Nat.le_of_ble_eq_true rfl) dX1_cutDigits_51 ⟨Nat.zero_le _, Nat.zero_le _⟩ (fun H locs hP hD hS => ?_)
      have hP : va_P D vwCl [(z, .inr (1, [.ref t, .ref v, .ref th, .ref k, _])), (k, .inr (7, [.ref kx, .ref k1, .ref k2, .ref k3, .ref k4, _, _])), (k1, .inl (cI, 24, .inl _)), (k2, .inl (cI, 24, .inl _)), (k3, .inl (cI, 24, .inl _)), (k4, .inl (cI, 24, .inl _)), (th, .inr (4, [.ref tb, _])), (tb, .inl (cI, 80, .inl _)), (t, .inr (3, [_, .ref fa])), (fa, .inl (cI, 32, .inl _))] H := hP
      have hD : va_D A [(z, .inr (1, [.ref t, .ref v, .ref th, .ref k, _])), (k, .inr (7, [.ref kx, .ref k1, .ref k2, .ref k3, .ref k4, _, _])), (k1, .inl (cI, 24, .inl _)), (k2, .inl (cI, 24, .inl _)), (k3, .inl (cI, 24, .inl _)), (k4, .inl (cI, 24, .inl _)), (th, .inr (4, [.ref tb, _])), (tb, .inl (cI, 80, .inl _)), (t, .inr (3, [_, .ref fa])), (fa, .inl (cI, 32, .inl _))] := hD
      exact mu_iret X hP hS (by rw [ht]) (by rw [ht]) dX1_cutDigits_54
    · have h_33 := leN (a := min (numN L p (sp isDi L n p - p) 0) 30001) (b := 30000) c_33
      have ht : dTok (foC fo) n L p τ = (sp isDi L n p, ad4 τ 6 (nI p) (nI (sp isDi L n p - p)) (-1)) := by simp only [dTok]; rw [if_neg (by rw [c_12]; decide), if_neg (by omega)]
      refine lv_aload_n hx hb dX1_cutDigits_36 rfl (lv_at hl 2 rfl) ?_
      refine lv_iload_n hx hb dX1_cutDigits_37 rfl (lv_at hl 1 rfl) ?_
      refine lv_bipush (v := 6) hx hb dX1_cutDigits_38 (by decide) ?_
      refine lv_iload_n hx hb dX1_cutDigits_40 rfl (lv_at hl 3 rfl) ?_
      refine lv_iconst (v := -1) hx hb dX1_cutDigits_41 (by decide) ?_
      refine mu_V (n := 4) X hK (c_X1_addUpTo hτ hpe) gX1_cutDigits_X1_addUpTo rfl (by decide +kernel) ⟨rfl, rfl⟩ ⟨Nat.le_of_ble_eq_true rfl, Nat.le_of_ble_eq_true rfl⟩ [0, 1, 2, 3, 4, 5] rfl rfl rfl rfl hA hP hD hS (va_recv hK hP (ci := 1) (q0 := 0) rfl rfl) rfl hl.1 rfl (Nat.le_of_ble_eq_true rfl) dX1_cutDigits_42 ⟨Nat.zero_le _, Nat.zero_le _⟩ (fun H locs hP hD hS => ?_)
      have hP : va_P D vwCl [(z, .inr (1, [.ref t, .ref v, .ref th, .ref k, _])), (k, .inr (7, [.ref kx, .ref k1, .ref k2, .ref k3, .ref k4, _, _])), (k1, .inl (cI, 24, .inl _)), (k2, .inl (cI, 24, .inl _)), (k3, .inl (cI, 24, .inl _)), (k4, .inl (cI, 24, .inl _)), (th, .inr (4, [.ref tb, _])), (tb, .inl (cI, 80, .inl _)), (t, .inr (3, [_, .ref fa])), (fa, .inl (cI, 32, .inl _))] H := hP
      have hD : va_D A [(z, .inr (1, [.ref t, .ref v, .ref th, .ref k, _])), (k, .inr (7, [.ref kx, .ref k1, .ref k2, .ref k3, .ref k4, _, _])), (k1, .inl (cI, 24, .inl _)), (k2, .inl (cI, 24, .inl _)), (k3, .inl (cI, 24, .inl _)), (k4, .inl (cI, 24, .inl _)), (th, .inr (4, [.ref tb, _])), (tb, .inl (cI, 80, .inl _)), (t, .inr (3, [_, .ref fa])), (fa, .inl (cI, 32, .inl _))] := hD
      exact mu_iret X hP hS (by rw [ht]) (by rw [ht]) dX1_cutDigits_45
  · replace c_12 := bI_n0.mp c_12
    have ht : dTok (foC fo) n L p τ = tTok (foC fo) n L p (sp isDi L n p) τ := by simp only [dTok]; rw [if_pos c_12]
    refine lv_aload_n hx hb dX1_cutDigits_15 rfl (lv_at hl 1 rfl) ?_
    refine lv_iload_n hx hb dX1_cutDigits_16 rfl (lv_at hl 2 rfl) ?_
    refine lv_iload_n hx hb dX1_cutDigits_17 rfl (lv_at hl 0 rfl) ?_
    refine mu_V (n := 2) X hK (c_X1_cutTime hn hτ hpe (tm_sp c_12).2 hdg (fun i h1 h2 => sp_all (n := n) h1 (by rw [(tm_sp c_12).1]; exact h2)) (tm_iff.mp c_12).2.2.2.1 (tm_iff.mp c_12).2.2.2.2) gX1_cutDigits_X1_cutTime rfl (by decide +kernel) ⟨rfl, rfl⟩ ⟨Nat.le_of_ble_eq_true rfl, Nat.le_of_ble_eq_true rfl⟩ [0, 1, 2, 3, 4, 5, 6, 7, 8, 9] rfl rfl rfl rfl hA hP hD hS (va_recv hK hP (ci := 1) (q0 := 0) rfl rfl) rfl hl.1 rfl (Nat.le_of_ble_eq_true rfl) dX1_cutDigits_18 ⟨Nat.zero_le _, Nat.zero_le _⟩ (fun H locs hP hD hS => ?_)
    have hP : va_P D vwCl [(z, .inr (1, [.ref t, .ref v, .ref th, .ref k, _])), (k, .inr (7, [.ref kx, .ref k1, .ref k2, .ref k3, .ref k4, _, _])), (k1, .inl (cI, 24, .inl _)), (k2, .inl (cI, 24, .inl _)), (k3, .inl (cI, 24, .inl _)), (k4, .inl (cI, 24, .inl _)), (th, .inr (4, [.ref tb, _])), (tb, .inl (cI, 80, .inl _)), (t, .inr (3, [_, .ref fa])), (fa, .inl (cI, 32, .inl _))] H := hP
    have hD : va_D A [(z, .inr (1, [.ref t, .ref v, .ref th, .ref k, _])), (k, .inr (7, [.ref kx, .ref k1, .ref k2, .ref k3, .ref k4, _, _])), (k1, .inl (cI, 24, .inl _)), (k2, .inl (cI, 24, .inl _)), (k3, .inl (cI, 24, .inl _)), (k4, .inl (cI, 24, .inl _)), (th, .inr (4, [.ref tb, _])), (tb, .inl (cI, 80, .inl _)), (t, .inr (3, [_, .ref fa])), (fa, .inl (cI, 32, .inl _))] := hD
    exact mu_iret X hP hS (by rw [ht]) (by rw [ht]) dX1_cutDigits_21

set_option maxHeartbeats 1000000 in
set_option maxRecDepth 100000 in
theorem c_X1_cutQuoted {l : Launch} {D : va_G} {cI cJ cW : ClassId} {sz : Nat} {z t v th k kx k1 k2 k3 k4 tb n : Nat} {L : Nat → Int32} {lg : Int32} {τ : TS} {p : Nat} (hn : n ≤ 80) (hτ : τ.1 ≤ 24) (hp : p < n) : MU l yX1_cutQuoted wsX1_cutQuoted { frames := 2, cells := 0, slots := 0, locals := 48 } D (ty3 cI cJ cW) [.ref z, .int (nI p)] [(z, .inr (1, [.ref t, .ref v, .ref th, .ref k, .int lg])), (k, .inr (7, [.ref kx, .ref k1, .ref k2, .ref k3, .ref k4, .int (nI τ.1), .int τ.2.1])), (k1, .inl (cI, 24, .inl (τ.2.2 1))), (k2, .inl (cI, 24, .inl (τ.2.2 2))), (k3, .inl (cI, 24, .inl (τ.2.2 3))), (k4, .inl (cI, 24, .inl (τ.2.2 4))), (th, .inr (4, [.ref tb, .int (nI n)])), (tb, .inl (cI, 80, .inl L))] sz (some (.int (nI (qTok n L p τ).1))) [(z, .inr (1, [.ref t, .ref v, .ref th, .ref k, .int lg])), (k, .inr (7, [.ref kx, .ref k1, .ref k2, .ref k3, .ref k4, .int (nI (qTok n L p τ).2.1), .int ((qTok n L p τ).2.2.1)])), (k1, .inl (cI, 24, .inl ((qTok n L p τ).2.2.2 1))), (k2, .inl (cI, 24, .inl ((qTok n L p τ).2.2.2 2))), (k3, .inl (cI, 24, .inl ((qTok n L p τ).2.2.2 3))), (k4, .inl (cI, 24, .inl ((qTok n L p τ).2.2.2 4))), (th, .inr (4, [.ref tb, .int (nI n)])), (tb, .inl (cI, 80, .inl L))] := by
  refine mu_of (cc := cX1_cutQuoted) (maxL := 3) (ret := (some .int)) (by decide) rfl (Nat.le_of_ble_eq_true rfl) ?_
  intro pr en ss mi below meth cd X hK A hA hP hD hS ls hl
  obtain ⟨hx, hb, hml, hown, hts, hr, hlocks⟩ := id X
  have fl_19 := hts (.fieldLink RX1 19 "WordTables$Cutter" "line" "LWordTables$Row;") (by decide +kernel)
  have fl_37 := hts (.fieldLink RX1 37 "WordTables$Row" "count" "I") (by decide +kernel)
  have in_X1 : ∀ w ∈ wsX10, w ∈ wsX1_cutQuoted := by decide +kernel
  have in_X4 : ∀ w ∈ wsX40, w ∈ wsX1_cutQuoted := by decide +kernel
  have hl : lv_has ls 3 [(0, .ref z), (1, .int (nI p))] := hl
  refine lv_iload_n hx hb dX1_cutQuoted_0 rfl (lv_at hl 1 rfl) ?_
  refine lv_iconst (v := 1) hx hb dX1_cutQuoted_1 (by decide) ?_
  refine lv_iadd hx hb dX1_cutQuoted_2 ?_
  refine topi_eq (nI_1 p) ?_
  refine lv_istore_n (lv' := [(2, _), (0, _), (1, _)]) hx hb dX1_cutQuoted_3 rfl hl (by decide) rfl (fun ls hl => ?_)
  have loop_4 : ∀ (fuel : Nat) (j : Nat), n - j < fuel → p + 1 ≤ j → j ≤ n → sp nQu L n j = sp nQu L n (p + 1) → ∀ (H : Heap) (locs : List Loc), va_P D vwCl [(z, .inr (1, [.ref t, .ref v, .ref th, .ref k, .int lg])), (k, .inr (7, [.ref kx, .ref k1, .ref k2, .ref k3, .ref k4, .int (nI τ.1), .int τ.2.1])), (k1, .inl (cI, 24, .inl (τ.2.2 1))), (k2, .inl (cI, 24, .inl (τ.2.2 2))), (k3, .inl (cI, 24, .inl (τ.2.2 3))), (k4, .inl (cI, 24, .inl (τ.2.2 4))), (th, .inr (4, [.ref tb, .int (nI n)])), (tb, .inl (cI, 80, .inl L))] H → va_D A [(z, .inr (1, [.ref t, .ref v, .ref th, .ref k, .int lg])), (k, .inr (7, [.ref kx, .ref k1, .ref k2, .ref k3, .ref k4, .int (nI τ.1), .int τ.2.1])), (k1, .inl (cI, 24, .inl (τ.2.2 1))), (k2, .inl (cI, 24, .inl (τ.2.2 2))), (k3, .inl (cI, 24, .inl (τ.2.2 3))), (k4, .inl (cI, 24, .inl (τ.2.2 4))), (th, .inr (4, [.ref tb, .int (nI n)])), (tb, .inl (cI, 80, .inl L))] → va_S A ss.heap H locs → ∀ ls : Array Slot, lv_has ls 3 [(0, .ref z), (1, .int (nI p)), (2, .int (nI j))] → W pr l en { frames := 2, cells := 0, slots := 0, locals := 48 } ss mi ([.ref z, .int (nI p)] : List Value).toArray below meth cd H locs 0 0 (MQ below (mQ (some (.int (nI (qTok n L p τ).1))) D [(z, .inr (1, [.ref t, .ref v, .ref th, .ref k, .int lg])), (k, .inr (7, [.ref kx, .ref k1, .ref k2, .ref k3, .ref k4, .int (nI (qTok n L p τ).2.1), .int ((qTok n L p τ).2.2.1)])), (k1, .inl (cI, 24, .inl ((qTok n L p τ).2.2.2 1))), (k2, .inl (cI, 24, .inl ((qTok n L p τ).2.2.2 2))), (k3, .inl (cI, 24, .inl ((qTok n L p τ).2.2.2 3))), (k4, .inl (cI, 24, .inl ((qTok n L p τ).2.2.2 4))), (th, .inr (4, [.ref tb, .int (nI n)])), (tb, .inl (cI, 80, .inl L))] A) ([.ref z, .int (nI p)] : List Value).toArray ss 0 0 A) (F0 mi 4 ls []) := by
    intro fuel
    induction fuel with
    | zero => intro j hm; exact absurd hm (Nat.not_lt_zero _)
    | succ fuel ih =>
      intro j hm hpj hj hr H locs hP hD hS ls hl
      refine lv_iload_n hx hb dX1_cutQuoted_4 rfl (lv_at hl 2 rfl) ?_
      refine lv_aload_n hx hb dX1_cutQuoted_5 rfl (lv_at hl 0 rfl) ?_
      refine va_get (D := D) (ci := 1) (C := RX1) (T := TX1) (N := 5) hx hb hts in_X1 hown hK hP 0 rfl rfl 2 (by decide) fl_19 (fun _ h9 => h9) rfl dX1_cutQuoted_6 ?_
      refine va_get (D := D) (ci := 4) (C := RX4) (T := TX4) (N := 2) hx hb hts in_X4 hown hK hP 6 rfl rfl 1 (by decide) fl_37 (fun _ h9 => h9) rfl dX1_cutQuoted_9 ?_
      refine lv_icmp_ge (tgt := 34) hx hb dX1_cutQuoted_12 (by decide) (fun c_12 => ?_) (fun c_12 => ?_)
      · have hse : sp nQu L n (p + 1) = j := by first | rw [← hr, sp_f hlt (by simp [nQu, c_25])] | rw [← hr, sp_ge (leL (a := n) (b := j) c_12)]
        refine lv_iload_n hx hb dX1_cutQuoted_34 rfl (lv_at hl 2 rfl) ?_
        refine lv_aload_n hx hb dX1_cutQuoted_35 rfl (lv_at hl 0 rfl) ?_
        refine va_get (D := D) (ci := 1) (C := RX1) (T := TX1) (N := 5) hx hb hts in_X1 hown hK hP 0 rfl rfl 2 (by decide) fl_19 (fun _ h9 => h9) rfl dX1_cutQuoted_36 ?_
        refine va_get (D := D) (ci := 4) (C := RX4) (T := TX4) (N := 2) hx hb hts in_X4 hown hK hP 6 rfl rfl 1 (by decide) fl_37 (fun _ h9 => h9) rfl dX1_cutQuoted_39 ?_
        refine lv_icmp_lt (tgt := 55) hx hb dX1_cutQuoted_42 (by decide) (fun c_42 => ?_) (fun c_42 => ?_)
        · have h_42 := ltL (a := j) (b := n) c_42
          have ht : qTok n L p τ = (j + 1, ad4 τ 4 (nI p) (nI (j + 1 - p)) (nI (j - p - 1))) := by simp only [qTok, hse]; rw [if_neg (by omega)]
          refine lv_aload_n hx hb dX1_cutQuoted_55 rfl (lv_at hl 0 rfl) ?_
          refine lv_iload_n hx hb dX1_cutQuoted_56 rfl (lv_at hl 2 rfl) ?_
          refine lv_iconst (v := 1) hx hb dX1_cutQuoted_57 (by decide) ?_
          refine lv_iadd hx hb dX1_cutQuoted_58 ?_
          refine topi_eq (nI_1 j) ?_
          refine lv_iconst (v := 4) hx hb dX1_cutQuoted_59 (by decide) ?_
          refine lv_iload_n hx hb dX1_cutQuoted_60 rfl (lv_at hl 1 rfl) ?_
          refine lv_iload_n hx hb dX1_cutQuoted_61 rfl (lv_at hl 2 rfl) ?_
          refine lv_iload_n hx hb dX1_cutQuoted_62 rfl (lv_at hl 1 rfl) ?_
          refine lv_isub hx hb dX1_cutQuoted_63 ?_
          refine topi_eq (nI_sub1 (by omega)) ?_
          refine lv_iconst (v := 1) hx hb dX1_cutQuoted_64 (by decide) ?_
          refine lv_isub hx hb dX1_cutQuoted_65 ?_
          refine topi_eq (nI_sub1 (p := 1) (by omega)) ?_
          refine mu_V (n := 4) X hK (c_X1_addUpTo hτ (by omega)) gX1_cutQuoted_X1_addUpTo rfl (by decide +kernel) ⟨rfl, rfl⟩ ⟨Nat.le_of_ble_eq_true rfl, Nat.le_of_ble_eq_true rfl⟩ [0, 1, 2, 3, 4, 5] rfl rfl rfl rfl hA hP hD hS (va_recv hK hP (ci := 1) (q0 := 0) rfl rfl) rfl hl.1 rfl (Nat.le_of_ble_eq_true rfl) dX1_cutQuoted_66 ⟨Nat.zero_le _, Nat.zero_le _⟩ (fun H locs hP hD hS => ?_)
          have hP : va_P D vwCl [(z, .inr (1, [.ref t, .ref v, .ref th, .ref k, _])), (k, .inr (7, [.ref kx, .ref k1, .ref k2, .ref k3, .ref k4, _, _])), (k1, .inl (cI, 24, .inl _)), (k2, .inl (cI, 24, .inl _)), (k3, .inl (cI, 24, .inl _)), (k4, .inl (cI, 24, .inl _)), (th, .inr (4, [.ref tb, _])), (tb, .inl (cI, 80, .inl _))] H := hP
          have hD : va_D A [(z, .inr (1, [.ref t, .ref v, .ref th, .ref k, _])), (k, .inr (7, [.ref kx, .ref k1, .ref k2, .ref k3, .ref k4, _, _])), (k1, .inl (cI, 24, .inl _)), (k2, .inl (cI, 24, .inl _)), (k3, .inl (cI, 24, .inl _)), (k4, .inl (cI, 24, .inl _)), (th, .inr (4, [.ref tb, _])), (tb, .inl (cI, 80, .inl _))] := hD
          exact mu_iret X hP hS (by rw [ht]) (by rw [ht]) dX1_cutQuoted_69
        · have h_42 := ltN (a := j) (b := n) c_42
          have ht : qTok n L p τ = (j, ad4 τ 6 (nI p) (nI (j - p)) (-1)) := by simp only [qTok, hse]; rw [if_pos h_42]
          refine lv_aload_n hx hb dX1_cutQuoted_45 rfl (lv_at hl 0 rfl) ?_
          refine lv_iload_n hx hb dX1_cutQuoted_46 rfl (lv_at hl 2 rfl) ?_
          refine lv_bipush (v := 6) hx hb dX1_cutQuoted_47 (by decide) ?_
          refine lv_iload_n hx hb dX1_cutQuoted_49 rfl (lv_at hl 1 rfl) ?_
          refine lv_iconst (v := -1) hx hb dX1_cutQuoted_50 (by decide) ?_
          refine mu_V (n := 4) X hK (c_X1_addUpTo hτ (by omega)) gX1_cutQuoted_X1_addUpTo rfl (by decide +kernel) ⟨rfl, rfl⟩ ⟨Nat.le_of_ble_eq_true rfl, Nat.le_of_ble_eq_true rfl⟩ [0, 1, 2, 3, 4, 5] rfl rfl rfl rfl hA hP hD hS (va_recv hK hP (ci := 1) (q0 := 0) rfl rfl) rfl hl.1 rfl (Nat.le_of_ble_eq_true rfl) dX1_cutQuoted_51 ⟨Nat.zero_le _, Nat.zero_le _⟩ (fun H locs hP hD hS => ?_)
          have hP : va_P D vwCl [(z, .inr (1, [.ref t, .ref v, .ref th, .ref k, _])), (k, .inr (7, [.ref kx, .ref k1, .ref k2, .ref k3, .ref k4, _, _])), (k1, .inl (cI, 24, .inl _)), (k2, .inl (cI, 24, .inl _)), (k3, .inl (cI, 24, .inl _)), (k4, .inl (cI, 24, .inl _)), (th, .inr (4, [.ref tb, _])), (tb, .inl (cI, 80, .inl _))] H := hP
          have hD : va_D A [(z, .inr (1, [.ref t, .ref v, .ref th, .ref k, _])), (k, .inr (7, [.ref kx, .ref k1, .ref k2, .ref k3, .ref k4, _, _])), (k1, .inl (cI, 24, .inl _)), (k2, .inl (cI, 24, .inl _)), (k3, .inl (cI, 24, .inl _)), (k4, .inl (cI, 24, .inl _)), (th, .inr (4, [.ref tb, _])), (tb, .inl (cI, 80, .inl _))] := hD
          exact mu_iret X hP hS (by rw [ht]) (by rw [ht]) dX1_cutQuoted_54
      · have hlt : j < n := lt_nge c_12 hj (by omega)
        refine lv_aload_n hx hb dX1_cutQuoted_15 rfl (lv_at hl 0 rfl) ?_
        refine va_get (D := D) (ci := 1) (C := RX1) (T := TX1) (N := 5) hx hb hts in_X1 hown hK hP 0 rfl rfl 2 (by decide) fl_19 (fun _ h9 => h9) rfl dX1_cutQuoted_16 ?_
        refine lv_iload_n hx hb dX1_cutQuoted_19 rfl (lv_at hl 2 rfl) ?_
        refine ro_V (n := 1) X hK (c_X4_byteAt (by decide)) gX1_cutQuoted_X4_byteAt rfl (by decide +kernel) ⟨rfl, rfl⟩ ⟨Nat.le_of_ble_eq_true rfl, Nat.le_of_ble_eq_true rfl⟩ (hP.sub [6, 7] rfl) (va_recv hK hP (ci := 4) (q0 := 6) rfl rfl) rfl hl.1 rfl (Nat.le_of_ble_eq_true rfl) dX1_cutQuoted_20 ⟨Nat.zero_le _, Nat.zero_le _⟩ ?_
        rw [rowAt_lt hlt (by omega) (by omega) (by decide)]
        refine lv_bipush (v := 34) hx hb dX1_cutQuoted_23 (by decide) ?_
        refine lv_icmp_eq (tgt := 34) hx hb dX1_cutQuoted_25 (by decide) (fun c_25 => ?_) (fun c_25 => ?_)
        · have hse : sp nQu L n (p + 1) = j := by first | rw [← hr, sp_f hlt (by simp [nQu, c_25])] | rw [← hr, sp_ge (leL (a := n) (b := j) c_12)]
          refine lv_iload_n hx hb dX1_cutQuoted_34 rfl (lv_at hl 2 rfl) ?_
          refine lv_aload_n hx hb dX1_cutQuoted_35 rfl (lv_at hl 0 rfl) ?_
          refine va_get (D := D) (ci := 1) (C := RX1) (T := TX1) (N := 5) hx hb hts in_X1 hown hK hP 0 rfl rfl 2 (by decide) fl_19 (fun _ h9 => h9) rfl dX1_cutQuoted_36 ?_
          refine va_get (D := D) (ci := 4) (C := RX4) (T := TX4) (N := 2) hx hb hts in_X4 hown hK hP 6 rfl rfl 1 (by decide) fl_37 (fun _ h9 => h9) rfl dX1_cutQuoted_39 ?_
          refine lv_icmp_lt (tgt := 55) hx hb dX1_cutQuoted_42 (by decide) (fun c_42 => ?_) (fun c_42 => ?_)
          · have h_42 := ltL (a := j) (b := n) c_42
            have ht : qTok n L p τ = (j + 1, ad4 τ 4 (nI p) (nI (j + 1 - p)) (nI (j - p - 1))) := by simp only [qTok, hse]; rw [if_neg (by omega)]
            refine lv_aload_n hx hb dX1_cutQuoted_55 rfl (lv_at hl 0 rfl) ?_
            refine lv_iload_n hx hb dX1_cutQuoted_56 rfl (lv_at hl 2 rfl) ?_
            refine lv_iconst (v := 1) hx hb dX1_cutQuoted_57 (by decide) ?_
            refine lv_iadd hx hb dX1_cutQuoted_58 ?_
            refine topi_eq (nI_1 j) ?_
            refine lv_iconst (v := 4) hx hb dX1_cutQuoted_59 (by decide) ?_
            refine lv_iload_n hx hb dX1_cutQuoted_60 rfl (lv_at hl 1 rfl) ?_
            refine lv_iload_n hx hb dX1_cutQuoted_61 rfl (lv_at hl 2 rfl) ?_
            refine lv_iload_n hx hb dX1_cutQuoted_62 rfl (lv_at hl 1 rfl) ?_
            refine lv_isub hx hb dX1_cutQuoted_63 ?_
            refine topi_eq (nI_sub1 (by omega)) ?_
            refine lv_iconst (v := 1) hx hb dX1_cutQuoted_64 (by decide) ?_
            refine lv_isub hx hb dX1_cutQuoted_65 ?_
            refine topi_eq (nI_sub1 (p := 1) (by omega)) ?_
            refine mu_V (n := 4) X hK (c_X1_addUpTo hτ (by omega)) gX1_cutQuoted_X1_addUpTo rfl (by decide +kernel) ⟨rfl, rfl⟩ ⟨Nat.le_of_ble_eq_true rfl, Nat.le_of_ble_eq_true rfl⟩ [0, 1, 2, 3, 4, 5] rfl rfl rfl rfl hA hP hD hS (va_recv hK hP (ci := 1) (q0 := 0) rfl rfl) rfl hl.1 rfl (Nat.le_of_ble_eq_true rfl) dX1_cutQuoted_66 ⟨Nat.zero_le _, Nat.zero_le _⟩ (fun H locs hP hD hS => ?_)
            have hP : va_P D vwCl [(z, .inr (1, [.ref t, .ref v, .ref th, .ref k, _])), (k, .inr (7, [.ref kx, .ref k1, .ref k2, .ref k3, .ref k4, _, _])), (k1, .inl (cI, 24, .inl _)), (k2, .inl (cI, 24, .inl _)), (k3, .inl (cI, 24, .inl _)), (k4, .inl (cI, 24, .inl _)), (th, .inr (4, [.ref tb, _])), (tb, .inl (cI, 80, .inl _))] H := hP
            have hD : va_D A [(z, .inr (1, [.ref t, .ref v, .ref th, .ref k, _])), (k, .inr (7, [.ref kx, .ref k1, .ref k2, .ref k3, .ref k4, _, _])), (k1, .inl (cI, 24, .inl _)), (k2, .inl (cI, 24, .inl _)), (k3, .inl (cI, 24, .inl _)), (k4, .inl (cI, 24, .inl _)), (th, .inr (4, [.ref tb, _])), (tb, .inl (cI, 80, .inl _))] := hD
            exact mu_iret X hP hS (by rw [ht]) (by rw [ht]) dX1_cutQuoted_69
          · have h_42 := ltN (a := j) (b := n) c_42
            have ht : qTok n L p τ = (j, ad4 τ 6 (nI p) (nI (j - p)) (-1)) := by simp only [qTok, hse]; rw [if_pos h_42]
            refine lv_aload_n hx hb dX1_cutQuoted_45 rfl (lv_at hl 0 rfl) ?_
            refine lv_iload_n hx hb dX1_cutQuoted_46 rfl (lv_at hl 2 rfl) ?_
            refine lv_bipush (v := 6) hx hb dX1_cutQuoted_47 (by decide) ?_
            refine lv_iload_n hx hb dX1_cutQuoted_49 rfl (lv_at hl 1 rfl) ?_
            refine lv_iconst (v := -1) hx hb dX1_cutQuoted_50 (by decide) ?_
            refine mu_V (n := 4) X hK (c_X1_addUpTo hτ (by omega)) gX1_cutQuoted_X1_addUpTo rfl (by decide +kernel) ⟨rfl, rfl⟩ ⟨Nat.le_of_ble_eq_true rfl, Nat.le_of_ble_eq_true rfl⟩ [0, 1, 2, 3, 4, 5] rfl rfl rfl rfl hA hP hD hS (va_recv hK hP (ci := 1) (q0 := 0) rfl rfl) rfl hl.1 rfl (Nat.le_of_ble_eq_true rfl) dX1_cutQuoted_51 ⟨Nat.zero_le _, Nat.zero_le _⟩ (fun H locs hP hD hS => ?_)
            have hP : va_P D vwCl [(z, .inr (1, [.ref t, .ref v, .ref th, .ref k, _])), (k, .inr (7, [.ref kx, .ref k1, .ref k2, .ref k3, .ref k4, _, _])), (k1, .inl (cI, 24, .inl _)), (k2, .inl (cI, 24, .inl _)), (k3, .inl (cI, 24, .inl _)), (k4, .inl (cI, 24, .inl _)), (th, .inr (4, [.ref tb, _])), (tb, .inl (cI, 80, .inl _))] H := hP
            have hD : va_D A [(z, .inr (1, [.ref t, .ref v, .ref th, .ref k, _])), (k, .inr (7, [.ref kx, .ref k1, .ref k2, .ref k3, .ref k4, _, _])), (k1, .inl (cI, 24, .inl _)), (k2, .inl (cI, 24, .inl _)), (k3, .inl (cI, 24, .inl _)), (k4, .inl (cI, 24, .inl _)), (th, .inr (4, [.ref tb, _])), (tb, .inl (cI, 80, .inl _))] := hD
            exact mu_iret X hP hS (by rw [ht]) (by rw [ht]) dX1_cutQuoted_54
        · refine lv_iinc (v := (_ : Int32) + 1) (lv' := [(2, _), (0, _), (1, _)]) hx hb dX1_cutQuoted_28 hl (k := 2) rfl rfl (by decide) rfl (fun ls hl => ?_)
          refine lv_goto (tgt := 4) hx hb dX1_cutQuoted_31 (by decide) ?_
          rw [nI_1] at hl
          exact ih (j + 1) (by omega) (by omega) (by omega) (by rw [← hr, sp_t hlt (by simp [nQu, c_25])]) _ _ hP hD hS _ (lv_sub hl [1, 2, 0] rfl)
  exact loop_4 (n + 1) (p + 1) (by omega) (Nat.le_refl _) (by omega) rfl _ _ hP hD hS ls (lv_sub hl [1, 2, 0] rfl)

set_option maxHeartbeats 1000000 in
set_option maxRecDepth 100000 in
theorem c_X1_cutOther {l : Launch} {D : va_G} {cI cJ cW : ClassId} {sz : Nat} {z t v th k kx k1 k2 k3 k4 tb n : Nat} {L : Nat → Int32} {lg : Int32} {τ : TS} {p : Nat} (hn : n ≤ 80) (hτ : τ.1 ≤ 24) (hp : p < n) : MU l yX1_cutOther wsX1_cutOther { frames := 3, cells := 0, slots := 0, locals := 60 } D (ty3 cI cJ cW) [.ref z, .int (nI p)] [(z, .inr (1, [.ref t, .ref v, .ref th, .ref k, .int lg])), (k, .inr (7, [.ref kx, .ref k1, .ref k2, .ref k3, .ref k4, .int (nI τ.1), .int τ.2.1])), (k1, .inl (cI, 24, .inl (τ.2.2 1))), (k2, .inl (cI, 24, .inl (τ.2.2 2))), (k3, .inl (cI, 24, .inl (τ.2.2 3))), (k4, .inl (cI, 24, .inl (τ.2.2 4))), (th, .inr (4, [.ref tb, .int (nI n)])), (tb, .inl (cI, 80, .inl L))] sz (some (.int (nI (oTok n L p τ).1))) [(z, .inr (1, [.ref t, .ref v, .ref th, .ref k, .int lg])), (k, .inr (7, [.ref kx, .ref k1, .ref k2, .ref k3, .ref k4, .int (nI (oTok n L p τ).2.1), .int ((oTok n L p τ).2.2.1)])), (k1, .inl (cI, 24, .inl ((oTok n L p τ).2.2.2 1))), (k2, .inl (cI, 24, .inl ((oTok n L p τ).2.2.2 2))), (k3, .inl (cI, 24, .inl ((oTok n L p τ).2.2.2 3))), (k4, .inl (cI, 24, .inl ((oTok n L p τ).2.2.2 4))), (th, .inr (4, [.ref tb, .int (nI n)])), (tb, .inl (cI, 80, .inl L))] := by
  refine mu_of (cc := cX1_cutOther) (maxL := 3) (ret := (some .int)) (by decide) rfl (Nat.le_of_ble_eq_true rfl) ?_
  intro pr en ss mi below meth cd X hK A hA hP hD hS ls hl
  obtain ⟨hx, hb, hml, hown, hts, hr, hlocks⟩ := id X
  have fl_19 := hts (.fieldLink RX1 19 "WordTables$Cutter" "line" "LWordTables$Row;") (by decide +kernel)
  have fl_37 := hts (.fieldLink RX1 37 "WordTables$Row" "count" "I") (by decide +kernel)
  have in_X1 : ∀ w ∈ wsX10, w ∈ wsX1_cutOther := by decide +kernel
  have in_X4 : ∀ w ∈ wsX40, w ∈ wsX1_cutOther := by decide +kernel
  have hl : lv_has ls 3 [(0, .ref z), (1, .int (nI p))] := hl
  refine lv_iload_n hx hb dX1_cutOther_0 rfl (lv_at hl 1 rfl) ?_
  refine lv_iconst (v := 1) hx hb dX1_cutOther_1 (by decide) ?_
  refine lv_iadd hx hb dX1_cutOther_2 ?_
  refine topi_eq (nI_1 p) ?_
  refine lv_istore_n (lv' := [(2, _), (0, _), (1, _)]) hx hb dX1_cutOther_3 rfl hl (by decide) rfl (fun ls hl => ?_)
  have loop_4 : ∀ (fuel : Nat) (j : Nat), n - j < fuel → p + 1 ≤ j → j ≤ n → sp isOt L n j = sp isOt L n (p + 1) → ∀ (H : Heap) (locs : List Loc), va_P D vwCl [(z, .inr (1, [.ref t, .ref v, .ref th, .ref k, .int lg])), (k, .inr (7, [.ref kx, .ref k1, .ref k2, .ref k3, .ref k4, .int (nI τ.1), .int τ.2.1])), (k1, .inl (cI, 24, .inl (τ.2.2 1))), (k2, .inl (cI, 24, .inl (τ.2.2 2))), (k3, .inl (cI, 24, .inl (τ.2.2 3))), (k4, .inl (cI, 24, .inl (τ.2.2 4))), (th, .inr (4, [.ref tb, .int (nI n)])), (tb, .inl (cI, 80, .inl L))] H → va_D A [(z, .inr (1, [.ref t, .ref v, .ref th, .ref k, .int lg])), (k, .inr (7, [.ref kx, .ref k1, .ref k2, .ref k3, .ref k4, .int (nI τ.1), .int τ.2.1])), (k1, .inl (cI, 24, .inl (τ.2.2 1))), (k2, .inl (cI, 24, .inl (τ.2.2 2))), (k3, .inl (cI, 24, .inl (τ.2.2 3))), (k4, .inl (cI, 24, .inl (τ.2.2 4))), (th, .inr (4, [.ref tb, .int (nI n)])), (tb, .inl (cI, 80, .inl L))] → va_S A ss.heap H locs → ∀ ls : Array Slot, lv_has ls 3 [(0, .ref z), (1, .int (nI p)), (2, .int (nI j))] → W pr l en { frames := 3, cells := 0, slots := 0, locals := 60 } ss mi ([.ref z, .int (nI p)] : List Value).toArray below meth cd H locs 0 0 (MQ below (mQ (some (.int (nI (oTok n L p τ).1))) D [(z, .inr (1, [.ref t, .ref v, .ref th, .ref k, .int lg])), (k, .inr (7, [.ref kx, .ref k1, .ref k2, .ref k3, .ref k4, .int (nI (oTok n L p τ).2.1), .int ((oTok n L p τ).2.2.1)])), (k1, .inl (cI, 24, .inl ((oTok n L p τ).2.2.2 1))), (k2, .inl (cI, 24, .inl ((oTok n L p τ).2.2.2 2))), (k3, .inl (cI, 24, .inl ((oTok n L p τ).2.2.2 3))), (k4, .inl (cI, 24, .inl ((oTok n L p τ).2.2.2 4))), (th, .inr (4, [.ref tb, .int (nI n)])), (tb, .inl (cI, 80, .inl L))] A) ([.ref z, .int (nI p)] : List Value).toArray ss 0 0 A) (F0 mi 4 ls []) := by
    intro fuel
    induction fuel with
    | zero => intro j hm; exact absurd hm (Nat.not_lt_zero _)
    | succ fuel ih =>
      intro j hm hpj hj hr H locs hP hD hS ls hl
      refine lv_iload_n hx hb dX1_cutOther_4 rfl (lv_at hl 2 rfl) ?_
      refine lv_aload_n hx hb dX1_cutOther_5 rfl (lv_at hl 0 rfl) ?_
      refine va_get (D := D) (ci := 1) (C := RX1) (T := TX1) (N := 5) hx hb hts in_X1 hown hK hP 0 rfl rfl 2 (by decide) fl_19 (fun _ h9 => h9) rfl dX1_cutOther_6 ?_
      refine va_get (D := D) (ci := 4) (C := RX4) (T := TX4) (N := 2) hx hb hts in_X4 hown hK hP 6 rfl rfl 1 (by decide) fl_37 (fun _ h9 => h9) rfl dX1_cutOther_9 ?_
      refine lv_icmp_ge (tgt := 35) hx hb dX1_cutOther_12 (by decide) (fun c_12 => ?_) (fun c_12 => ?_)
      · have hse : sp isOt L n (p + 1) = j := by first | rw [← hr, sp_f hlt c_26] | rw [← hr, sp_ge (leL (a := n) (b := j) c_12)]
        have ht : oTok n L p τ = (j, ad4 τ 6 (nI p) (nI (j - p)) (-1)) := by simp only [oTok, hse]
        refine lv_aload_n hx hb dX1_cutOther_35 rfl (lv_at hl 0 rfl) ?_
        refine lv_iload_n hx hb dX1_cutOther_36 rfl (lv_at hl 2 rfl) ?_
        refine lv_bipush (v := 6) hx hb dX1_cutOther_37 (by decide) ?_
        refine lv_iload_n hx hb dX1_cutOther_39 rfl (lv_at hl 1 rfl) ?_
        refine lv_iconst (v := -1) hx hb dX1_cutOther_40 (by decide) ?_
        refine mu_V (n := 4) X hK (c_X1_addUpTo hτ (by omega)) gX1_cutOther_X1_addUpTo rfl (by decide +kernel) ⟨rfl, rfl⟩ ⟨Nat.le_of_ble_eq_true rfl, Nat.le_of_ble_eq_true rfl⟩ [0, 1, 2, 3, 4, 5] rfl rfl rfl rfl hA hP hD hS (va_recv hK hP (ci := 1) (q0 := 0) rfl rfl) rfl hl.1 rfl (Nat.le_of_ble_eq_true rfl) dX1_cutOther_41 ⟨Nat.zero_le _, Nat.zero_le _⟩ (fun H locs hP hD hS => ?_)
        have hP : va_P D vwCl [(z, .inr (1, [.ref t, .ref v, .ref th, .ref k, _])), (k, .inr (7, [.ref kx, .ref k1, .ref k2, .ref k3, .ref k4, _, _])), (k1, .inl (cI, 24, .inl _)), (k2, .inl (cI, 24, .inl _)), (k3, .inl (cI, 24, .inl _)), (k4, .inl (cI, 24, .inl _)), (th, .inr (4, [.ref tb, _])), (tb, .inl (cI, 80, .inl _))] H := hP
        have hD : va_D A [(z, .inr (1, [.ref t, .ref v, .ref th, .ref k, _])), (k, .inr (7, [.ref kx, .ref k1, .ref k2, .ref k3, .ref k4, _, _])), (k1, .inl (cI, 24, .inl _)), (k2, .inl (cI, 24, .inl _)), (k3, .inl (cI, 24, .inl _)), (k4, .inl (cI, 24, .inl _)), (th, .inr (4, [.ref tb, _])), (tb, .inl (cI, 80, .inl _))] := hD
        exact mu_iret X hP hS (by rw [ht]) (by rw [ht]) dX1_cutOther_44
      · have hlt : j < n := lt_nge c_12 hj (by omega)
        refine lv_aload_n hx hb dX1_cutOther_15 rfl (lv_at hl 0 rfl) ?_
        refine va_get (D := D) (ci := 1) (C := RX1) (T := TX1) (N := 5) hx hb hts in_X1 hown hK hP 0 rfl rfl 2 (by decide) fl_19 (fun _ h9 => h9) rfl dX1_cutOther_16 ?_
        refine lv_iload_n hx hb dX1_cutOther_19 rfl (lv_at hl 2 rfl) ?_
        refine ro_V (n := 1) X hK (c_X4_byteAt (by decide)) gX1_cutOther_X4_byteAt rfl (by decide +kernel) ⟨rfl, rfl⟩ ⟨Nat.le_of_ble_eq_true rfl, Nat.le_of_ble_eq_true rfl⟩ (hP.sub [6, 7] rfl) (va_recv hK hP (ci := 4) (q0 := 6) rfl rfl) rfl hl.1 rfl (Nat.le_of_ble_eq_true rfl) dX1_cutOther_20 ⟨Nat.zero_le _, Nat.zero_le _⟩ ?_
        rw [rowAt_lt hlt (by omega) (by omega) (by decide)]
        refine ro_S (n := 1) X hK (c_X1_isOther) gX1_cutOther_X1_isOther rfl (by decide +kernel) ⟨rfl, rfl⟩ ⟨Nat.le_of_ble_eq_true rfl, Nat.le_of_ble_eq_true rfl⟩ (hP.sub [] rfl) rfl hl.1 rfl (Nat.le_of_ble_eq_true rfl) dX1_cutOther_23 ⟨Nat.zero_le _, Nat.zero_le _⟩ ?_
        refine lv_if_eq (tgt := 35) hx hb dX1_cutOther_26 (by decide) (fun c_26 => ?_) (fun c_26 => ?_)
        · replace c_26 := bI_0.mp c_26
          have hse : sp isOt L n (p + 1) = j := by first | rw [← hr, sp_f hlt c_26] | rw [← hr, sp_ge (leL (a := n) (b := j) c_12)]
          have ht : oTok n L p τ = (j, ad4 τ 6 (nI p) (nI (j - p)) (-1)) := by simp only [oTok, hse]
          refine lv_aload_n hx hb dX1_cutOther_35 rfl (lv_at hl 0 rfl) ?_
          refine lv_iload_n hx hb dX1_cutOther_36 rfl (lv_at hl 2 rfl) ?_
          refine lv_bipush (v := 6) hx hb dX1_cutOther_37 (by decide) ?_
          refine lv_iload_n hx hb dX1_cutOther_39 rfl (lv_at hl 1 rfl) ?_
          refine lv_iconst (v := -1) hx hb dX1_cutOther_40 (by decide) ?_
          refine mu_V (n := 4) X hK (c_X1_addUpTo hτ (by omega)) gX1_cutOther_X1_addUpTo rfl (by decide +kernel) ⟨rfl, rfl⟩ ⟨Nat.le_of_ble_eq_true rfl, Nat.le_of_ble_eq_true rfl⟩ [0, 1, 2, 3, 4, 5] rfl rfl rfl rfl hA hP hD hS (va_recv hK hP (ci := 1) (q0 := 0) rfl rfl) rfl hl.1 rfl (Nat.le_of_ble_eq_true rfl) dX1_cutOther_41 ⟨Nat.zero_le _, Nat.zero_le _⟩ (fun H locs hP hD hS => ?_)
          have hP : va_P D vwCl [(z, .inr (1, [.ref t, .ref v, .ref th, .ref k, _])), (k, .inr (7, [.ref kx, .ref k1, .ref k2, .ref k3, .ref k4, _, _])), (k1, .inl (cI, 24, .inl _)), (k2, .inl (cI, 24, .inl _)), (k3, .inl (cI, 24, .inl _)), (k4, .inl (cI, 24, .inl _)), (th, .inr (4, [.ref tb, _])), (tb, .inl (cI, 80, .inl _))] H := hP
          have hD : va_D A [(z, .inr (1, [.ref t, .ref v, .ref th, .ref k, _])), (k, .inr (7, [.ref kx, .ref k1, .ref k2, .ref k3, .ref k4, _, _])), (k1, .inl (cI, 24, .inl _)), (k2, .inl (cI, 24, .inl _)), (k3, .inl (cI, 24, .inl _)), (k4, .inl (cI, 24, .inl _)), (th, .inr (4, [.ref tb, _])), (tb, .inl (cI, 80, .inl _))] := hD
          exact mu_iret X hP hS (by rw [ht]) (by rw [ht]) dX1_cutOther_44
        · replace c_26 := bI_n0.mp c_26
          refine lv_iinc (v := (_ : Int32) + 1) (lv' := [(2, _), (0, _), (1, _)]) hx hb dX1_cutOther_29 hl (k := 2) rfl rfl (by decide) rfl (fun ls hl => ?_)
          refine lv_goto (tgt := 4) hx hb dX1_cutOther_32 (by decide) ?_
          rw [nI_1] at hl
          exact ih (j + 1) (by omega) (by omega) (by omega) (by rw [← hr, sp_t hlt c_26]) _ _ hP hD hS _ (lv_sub hl [1, 2, 0] rfl)
  exact loop_4 (n + 1) (p + 1) (by omega) (Nat.le_refl _) (by omega) rfl _ _ hP hD hS ls (lv_sub hl [1, 2, 0] rfl)

set_option maxHeartbeats 1000000 in
set_option maxRecDepth 100000 in
theorem c_X1_cutLetters {l : Launch} {D : va_G} {cI cJ cW : ClassId} {sz : Nat} {z t v th k kx k1 k2 k3 k4 tb n : Nat} {L : Nat → Int32} {lg : Int32} {τ : TS} {vw vj nw nj fa ct : Nat} {wf jf : Nat → Option Nat} {fo : Nat → Int32} {dy : va_W} {wa : Nat → Nat → Nat} {wz : Nat → Nat → Int32} {wn : Nat → Nat} {wt : Nat → Nat → Int32} {ja : Nat → Nat → Nat} {jz : Nat → Nat → Int32} {jn : Nat → Nat} {jt : Nat → Nat → Int32} {p : Nat} (hct : ct < 2 ^ 31) (hn : n ≤ 80) (hτ : τ.1 ≤ 24) (hnw : nw ≤ 40) (hwf : ∀ i, i < nw → wf i = some (wa i 0)) (hdw : Dw cI wa wz wn wt nw dy) (hnj : nj ≤ 8) (hjf : ∀ i, i < nj → jf i = some (ja i 0)) (hdj : Dj cI ja jz jn jt nj dy) (hp : p < n) : MU l yX1_cutLetters wsX1_cutLetters { frames := 3, cells := 0, slots := 0, locals := 74 } D (ty3 cI cJ cW) [.ref z, .int (nI p)] ((z, .inr (1, [.ref t, .ref v, .ref th, .ref k, .int lg])) :: (k, .inr (7, [.ref kx, .ref k1, .ref k2, .ref k3, .ref k4, .int (nI τ.1), .int τ.2.1])) :: (k1, .inl (cI, 24, .inl (τ.2.2 1))) :: (k2, .inl (cI, 24, .inl (τ.2.2 2))) :: (k3, .inl (cI, 24, .inl (τ.2.2 3))) :: (k4, .inl (cI, 24, .inl (τ.2.2 4))) :: (v, .inr (8, [.ref t, .ref vw, .ref vj, .int (nI nw), .int (nI nj)])) :: (vw, .inl (cW, 40, .inr (.inr (.inr (.inr wf))))) :: (vj, .inl (cJ, 8, .inr (.inr (.inr (.inr jf))))) :: (t, .inr (3, [.int (nI ct), .ref fa])) :: (fa, .inl (cI, 32, .inl fo)) :: (th, .inr (4, [.ref tb, .int (nI n)])) :: (tb, .inl (cI, 80, .inl L)) :: dy) sz (some (.int (nI (lTok (fwC ct fo wz wn wt nw L) (fjC ct fo jn jt nj L) (fun j => jz j 1) (fun j => jz j 2) lg n L p τ).1))) ((z, .inr (1, [.ref t, .ref v, .ref th, .ref k, .int lg])) :: (k, .inr (7, [.ref kx, .ref k1, .ref k2, .ref k3, .ref k4, .int (nI (lTok (fwC ct fo wz wn wt nw L) (fjC ct fo jn jt nj L) (fun j => jz j 1) (fun j => jz j 2) lg n L p τ).2.1), .int ((lTok (fwC ct fo wz wn wt nw L) (fjC ct fo jn jt nj L) (fun j => jz j 1) (fun j => jz j 2) lg n L p τ).2.2.1)])) :: (k1, .inl (cI, 24, .inl ((lTok (fwC ct fo wz wn wt nw L) (fjC ct fo jn jt nj L) (fun j => jz j 1) (fun j => jz j 2) lg n L p τ).2.2.2 1))) :: (k2, .inl (cI, 24, .inl ((lTok (fwC ct fo wz wn wt nw L) (fjC ct fo jn jt nj L) (fun j => jz j 1) (fun j => jz j 2) lg n L p τ).2.2.2 2))) :: (k3, .inl (cI, 24, .inl ((lTok (fwC ct fo wz wn wt nw L) (fjC ct fo jn jt nj L) (fun j => jz j 1) (fun j => jz j 2) lg n L p τ).2.2.2 3))) :: (k4, .inl (cI, 24, .inl ((lTok (fwC ct fo wz wn wt nw L) (fjC ct fo jn jt nj L) (fun j => jz j 1) (fun j => jz j 2) lg n L p τ).2.2.2 4))) :: (v, .inr (8, [.ref t, .ref vw, .ref vj, .int (nI nw), .int (nI nj)])) :: (vw, .inl (cW, 40, .inr (.inr (.inr (.inr wf))))) :: (vj, .inl (cJ, 8, .inr (.inr (.inr (.inr jf))))) :: (t, .inr (3, [.int (nI ct), .ref fa])) :: (fa, .inl (cI, 32, .inl fo)) :: (th, .inr (4, [.ref tb, .int (nI n)])) :: (tb, .inl (cI, 80, .inl L)) :: dy) := by
  refine mu_of (cc := cX1_cutLetters) (maxL := 5) (ret := (some .int)) (by decide) rfl (Nat.le_of_ble_eq_true rfl) ?_
  intro pr en ss mi below meth cd X hK A hA hP hD hS ls hl
  obtain ⟨hx, hb, hml, hown, hts, hr, hlocks⟩ := id X
  have fl_100 := hts (.fieldLink RX1 100 "WordTables$Join" "second" "I") (by decide +kernel)
  have fl_15 := hts (.fieldLink RX1 15 "WordTables$Cutter" "vocabulary" "LWordTables$Vocabulary;") (by decide +kernel)
  have fl_19 := hts (.fieldLink RX1 19 "WordTables$Cutter" "line" "LWordTables$Row;") (by decide +kernel)
  have fl_23 := hts (.fieldLink RX1 23 "WordTables$Cutter" "language" "I") (by decide +kernel)
  have fl_37 := hts (.fieldLink RX1 37 "WordTables$Row" "count" "I") (by decide +kernel)
  have fl_95 := hts (.fieldLink RX1 95 "WordTables$Join" "first" "I") (by decide +kernel)
  have in_X1 : ∀ w ∈ wsX10, w ∈ wsX1_cutLetters := by decide +kernel
  have in_X2 : ∀ w ∈ wsX20, w ∈ wsX1_cutLetters := by decide +kernel
  have in_X4 : ∀ w ∈ wsX40, w ∈ wsX1_cutLetters := by decide +kernel
  have hl : lv_has ls 5 [(0, .ref z), (1, .int (nI p))] := hl
  refine lv_iload_n hx hb dX1_cutLetters_0 rfl (lv_at hl 1 rfl) ?_
  refine lv_istore_n (lv' := [(2, _), (0, _), (1, _)]) hx hb dX1_cutLetters_1 rfl hl (by decide) rfl (fun ls hl => ?_)
  have loop_2 : ∀ (fuel : Nat) (j : Nat), n - j < fuel → p ≤ j → j ≤ n → sp isLe L n j = sp isLe L n p → ∀ (H : Heap) (locs : List Loc), va_P D vwCl ((z, .inr (1, [.ref t, .ref v, .ref th, .ref k, .int lg])) :: (k, .inr (7, [.ref kx, .ref k1, .ref k2, .ref k3, .ref k4, .int (nI τ.1), .int τ.2.1])) :: (k1, .inl (cI, 24, .inl (τ.2.2 1))) :: (k2, .inl (cI, 24, .inl (τ.2.2 2))) :: (k3, .inl (cI, 24, .inl (τ.2.2 3))) :: (k4, .inl (cI, 24, .inl (τ.2.2 4))) :: (v, .inr (8, [.ref t, .ref vw, .ref vj, .int (nI nw), .int (nI nj)])) :: (vw, .inl (cW, 40, .inr (.inr (.inr (.inr wf))))) :: (vj, .inl (cJ, 8, .inr (.inr (.inr (.inr jf))))) :: (t, .inr (3, [.int (nI ct), .ref fa])) :: (fa, .inl (cI, 32, .inl fo)) :: (th, .inr (4, [.ref tb, .int (nI n)])) :: (tb, .inl (cI, 80, .inl L)) :: dy) H → va_D A ((z, .inr (1, [.ref t, .ref v, .ref th, .ref k, .int lg])) :: (k, .inr (7, [.ref kx, .ref k1, .ref k2, .ref k3, .ref k4, .int (nI τ.1), .int τ.2.1])) :: (k1, .inl (cI, 24, .inl (τ.2.2 1))) :: (k2, .inl (cI, 24, .inl (τ.2.2 2))) :: (k3, .inl (cI, 24, .inl (τ.2.2 3))) :: (k4, .inl (cI, 24, .inl (τ.2.2 4))) :: (v, .inr (8, [.ref t, .ref vw, .ref vj, .int (nI nw), .int (nI nj)])) :: (vw, .inl (cW, 40, .inr (.inr (.inr (.inr wf))))) :: (vj, .inl (cJ, 8, .inr (.inr (.inr (.inr jf))))) :: (t, .inr (3, [.int (nI ct), .ref fa])) :: (fa, .inl (cI, 32, .inl fo)) :: (th, .inr (4, [.ref tb, .int (nI n)])) :: (tb, .inl (cI, 80, .inl L)) :: dy) → va_S A ss.heap H locs → ∀ ls : Array Slot, lv_has ls 5 [(0, .ref z), (1, .int (nI p)), (2, .int (nI j))] → W pr l en { frames := 3, cells := 0, slots := 0, locals := 74 } ss mi ([.ref z, .int (nI p)] : List Value).toArray below meth cd H locs 0 0 (MQ below (mQ (some (.int (nI (lTok (fwC ct fo wz wn wt nw L) (fjC ct fo jn jt nj L) (fun j => jz j 1) (fun j => jz j 2) lg n L p τ).1))) D ((z, .inr (1, [.ref t, .ref v, .ref th, .ref k, .int lg])) :: (k, .inr (7, [.ref kx, .ref k1, .ref k2, .ref k3, .ref k4, .int (nI (lTok (fwC ct fo wz wn wt nw L) (fjC ct fo jn jt nj L) (fun j => jz j 1) (fun j => jz j 2) lg n L p τ).2.1), .int ((lTok (fwC ct fo wz wn wt nw L) (fjC ct fo jn jt nj L) (fun j => jz j 1) (fun j => jz j 2) lg n L p τ).2.2.1)])) :: (k1, .inl (cI, 24, .inl ((lTok (fwC ct fo wz wn wt nw L) (fjC ct fo jn jt nj L) (fun j => jz j 1) (fun j => jz j 2) lg n L p τ).2.2.2 1))) :: (k2, .inl (cI, 24, .inl ((lTok (fwC ct fo wz wn wt nw L) (fjC ct fo jn jt nj L) (fun j => jz j 1) (fun j => jz j 2) lg n L p τ).2.2.2 2))) :: (k3, .inl (cI, 24, .inl ((lTok (fwC ct fo wz wn wt nw L) (fjC ct fo jn jt nj L) (fun j => jz j 1) (fun j => jz j 2) lg n L p τ).2.2.2 3))) :: (k4, .inl (cI, 24, .inl ((lTok (fwC ct fo wz wn wt nw L) (fjC ct fo jn jt nj L) (fun j => jz j 1) (fun j => jz j 2) lg n L p τ).2.2.2 4))) :: (v, .inr (8, [.ref t, .ref vw, .ref vj, .int (nI nw), .int (nI nj)])) :: (vw, .inl (cW, 40, .inr (.inr (.inr (.inr wf))))) :: (vj, .inl (cJ, 8, .inr (.inr (.inr (.inr jf))))) :: (t, .inr (3, [.int (nI ct), .ref fa])) :: (fa, .inl (cI, 32, .inl fo)) :: (th, .inr (4, [.ref tb, .int (nI n)])) :: (tb, .inl (cI, 80, .inl L)) :: dy) A) ([.ref z, .int (nI p)] : List Value).toArray ss 0 0 A) (F0 mi 2 ls []) := by
    intro fuel
    induction fuel with
    | zero => intro j hm; exact absurd hm (Nat.not_lt_zero _)
    | succ fuel ih =>
      intro j hm hpj hj hr H locs hP hD hS ls hl
      refine lv_iload_n hx hb dX1_cutLetters_2 rfl (lv_at hl 2 rfl) ?_
      refine lv_aload_n hx hb dX1_cutLetters_3 rfl (lv_at hl 0 rfl) ?_
      refine va_get (D := D) (ci := 1) (C := RX1) (T := TX1) (N := 5) hx hb hts in_X1 hown hK hP 0 rfl rfl 2 (by decide) fl_19 (fun _ h9 => h9) rfl dX1_cutLetters_4 ?_
      refine va_get (D := D) (ci := 4) (C := RX4) (T := TX4) (N := 2) hx hb hts in_X4 hown hK hP 11 rfl rfl 1 (by decide) fl_37 (fun _ h9 => h9) rfl dX1_cutLetters_7 ?_
      refine lv_icmp_ge (tgt := 33) hx hb dX1_cutLetters_10 (by decide) (fun c_10 => ?_) (fun c_10 => ?_)
      · have hse : sp isLe L n p = j := by first | rw [← hr, sp_f hlt c_24] | rw [← hr, sp_ge (leL (a := n) (b := j) c_10)]
        refine lv_aload_n hx hb dX1_cutLetters_33 rfl (lv_at hl 0 rfl) ?_
        refine va_get (D := D) (ci := 1) (C := RX1) (T := TX1) (N := 5) hx hb hts in_X1 hown hK hP 0 rfl rfl 1 (by decide) fl_15 (fun _ h9 => h9) rfl dX1_cutLetters_34 ?_
        refine lv_aload_n hx hb dX1_cutLetters_37 rfl (lv_at hl 0 rfl) ?_
        refine va_get (D := D) (ci := 1) (C := RX1) (T := TX1) (N := 5) hx hb hts in_X1 hown hK hP 0 rfl rfl 4 (by decide) fl_23 (fun _ h9 => h9) rfl dX1_cutLetters_38 ?_
        refine lv_aload_n hx hb dX1_cutLetters_41 rfl (lv_at hl 0 rfl) ?_
        refine va_get (D := D) (ci := 1) (C := RX1) (T := TX1) (N := 5) hx hb hts in_X1 hown hK hP 0 rfl rfl 2 (by decide) fl_19 (fun _ h9 => h9) rfl dX1_cutLetters_42 ?_
        refine lv_iload_n hx hb dX1_cutLetters_45 rfl (lv_at hl 1 rfl) ?_
        refine lv_iload_n hx hb dX1_cutLetters_46 rfl (lv_at hl 2 rfl) ?_
        refine lv_iload_n hx hb dX1_cutLetters_47 rfl (lv_at hl 1 rfl) ?_
        refine lv_isub hx hb dX1_cutLetters_48 ?_
        refine topi_eq (nI_sub1 (by omega)) ?_
        refine ro_V (n := 4) X hK (c_X8_likeIn hct (by decide) hn (by omega) hnw hwf hdw) gX1_cutLetters_X8_likeIn rfl (by decide +kernel) ⟨rfl, rfl⟩ ⟨Nat.le_of_ble_eq_true rfl, Nat.le_of_ble_eq_true rfl⟩ (ro_tl hP [6, 7, 9, 10, 11, 12] rfl (fun _ hq => by simp [hq])) (va_recv hK hP (ci := 8) (q0 := 6) rfl rfl) rfl hl.1 rfl (Nat.le_of_ble_eq_true rfl) dX1_cutLetters_49 ⟨Nat.zero_le _, Nat.zero_le _⟩ ?_
        rcases h_49 : fwC ct fo wz wn wt nw L lg p (j - p) with _ | j_49
        · refine lv_istore_n (lv' := [(3, _), (0, _), (1, _), (2, _)]) hx hb dX1_cutLetters_52 rfl hl (by decide) rfl (fun ls hl => ?_)
          refine lv_iload_n hx hb dX1_cutLetters_53 rfl (lv_at hl 0 rfl) ?_
          refine lv_iconst (v := -1) hx hb dX1_cutLetters_54 (by decide) ?_
          refine lv_icmp_ne (tgt := 75) hx hb dX1_cutLetters_55 (by decide) (fun c_55 => absurd c_55 (by decide)) (fun _ => ?_)
          refine lv_aload_n hx hb dX1_cutLetters_58 rfl (lv_at hl 1 rfl) ?_
          refine va_get (D := D) (ci := 1) (C := RX1) (T := TX1) (N := 5) hx hb hts in_X1 hown hK hP 0 rfl rfl 1 (by decide) fl_15 (fun _ h9 => h9) rfl dX1_cutLetters_59 ?_
          refine lv_iconst (v := 0) hx hb dX1_cutLetters_62 (by decide) ?_
          refine lv_aload_n hx hb dX1_cutLetters_63 rfl (lv_at hl 1 rfl) ?_
          refine va_get (D := D) (ci := 1) (C := RX1) (T := TX1) (N := 5) hx hb hts in_X1 hown hK hP 0 rfl rfl 2 (by decide) fl_19 (fun _ h9 => h9) rfl dX1_cutLetters_64 ?_
          refine lv_iload_n hx hb dX1_cutLetters_67 rfl (lv_at hl 2 rfl) ?_
          refine lv_iload_n hx hb dX1_cutLetters_68 rfl (lv_at hl 3 rfl) ?_
          refine lv_iload_n hx hb dX1_cutLetters_69 rfl (lv_at hl 2 rfl) ?_
          refine lv_isub hx hb dX1_cutLetters_70 ?_
          refine topi_eq (nI_sub1 (by omega)) ?_
          refine ro_V (n := 4) X hK (c_X8_likeIn hct (by decide) hn (by omega) hnw hwf hdw) gX1_cutLetters_X8_likeIn rfl (by decide +kernel) ⟨rfl, rfl⟩ ⟨Nat.le_of_ble_eq_true rfl, Nat.le_of_ble_eq_true rfl⟩ (ro_tl hP [6, 7, 9, 10, 11, 12] rfl (fun _ hq => by simp [hq])) (va_recv hK hP (ci := 8) (q0 := 6) rfl rfl) rfl hl.1 rfl (Nat.le_of_ble_eq_true rfl) dX1_cutLetters_71 ⟨Nat.zero_le _, Nat.zero_le _⟩ ?_
          rcases h_71 : fwC ct fo wz wn wt nw L 0 p (j - p) with _ | j_71
          · refine lv_istore_n (lv' := [(3, _), (0, _), (1, _), (2, _)]) hx hb dX1_cutLetters_74 rfl hl (by decide) rfl (fun ls hl => ?_)
            refine lv_iload_n hx hb dX1_cutLetters_75 rfl (lv_at hl 0 rfl) ?_
            refine lv_iconst (v := -1) hx hb dX1_cutLetters_76 (by decide) ?_
            refine lv_icmp_eq (tgt := 89) hx hb dX1_cutLetters_77 (by decide) (fun _ => ?_) (fun c_77 => absurd c_77 (by decide))
            refine lv_aload_n hx hb dX1_cutLetters_89 rfl (lv_at hl 1 rfl) ?_
            refine va_get (D := D) (ci := 1) (C := RX1) (T := TX1) (N := 5) hx hb hts in_X1 hown hK hP 0 rfl rfl 1 (by decide) fl_15 (fun _ h9 => h9) rfl dX1_cutLetters_90 ?_
            refine lv_aload_n hx hb dX1_cutLetters_93 rfl (lv_at hl 1 rfl) ?_
            refine va_get (D := D) (ci := 1) (C := RX1) (T := TX1) (N := 5) hx hb hts in_X1 hown hK hP 0 rfl rfl 2 (by decide) fl_19 (fun _ h9 => h9) rfl dX1_cutLetters_94 ?_
            refine lv_iload_n hx hb dX1_cutLetters_97 rfl (lv_at hl 2 rfl) ?_
            refine lv_iload_n hx hb dX1_cutLetters_98 rfl (lv_at hl 3 rfl) ?_
            refine lv_iload_n hx hb dX1_cutLetters_99 rfl (lv_at hl 2 rfl) ?_
            refine lv_isub hx hb dX1_cutLetters_100 ?_
            refine topi_eq (nI_sub1 (by omega)) ?_
            refine ro_V (n := 3) X hK (c_X8_joinLike hct (by decide) hn (by omega) hnj hjf hdj) gX1_cutLetters_X8_joinLike rfl (by decide +kernel) ⟨rfl, rfl⟩ ⟨Nat.le_of_ble_eq_true rfl, Nat.le_of_ble_eq_true rfl⟩ (ro_tl hP [6, 8, 9, 10, 11, 12] rfl (fun _ hq => by simp [hq])) (va_recv hK hP (ci := 8) (q0 := 6) rfl rfl) rfl hl.1 rfl (Nat.le_of_ble_eq_true rfl) dX1_cutLetters_101 ⟨Nat.zero_le _, Nat.zero_le _⟩ ?_
            rcases h_101 : fjC ct fo jn jt nj L p (j - p) with _ | j_101
            · refine rf_eqN rfl ?_
              refine lv_astoreN (lv' := [(4, _), (3, _), (0, _), (1, _), (2, _)]) hx hb dX1_cutLetters_104 hl (by decide) rfl (fun ls hl => ?_)
              refine lv_aloadN hx hb dX1_cutLetters_106 (lv_at hl 0 rfl) ?_
              refine lv_ifnonnullN hx hb dX1_cutLetters_108 ?_
              have ht : lTok (fwC ct fo wz wn wt nw L) (fjC ct fo jn jt nj L) (fun j => jz j 1) (fun j => jz j 2) lg n L p τ = (j, ad4 τ 1 (nI p) (nI (j - p)) (-1)) := by simp only [lTok, hse]; rw [h_49]; simp only []; rw [h_71]; simp only []; rw [h_101]
              refine lv_aload_n hx hb dX1_cutLetters_111 rfl (lv_at hl 2 rfl) ?_
              refine lv_iload_n hx hb dX1_cutLetters_112 rfl (lv_at hl 4 rfl) ?_
              refine lv_iconst (v := 1) hx hb dX1_cutLetters_113 (by decide) ?_
              refine lv_iload_n hx hb dX1_cutLetters_114 rfl (lv_at hl 3 rfl) ?_
              refine lv_iconst (v := -1) hx hb dX1_cutLetters_115 (by decide) ?_
              refine mu_V (n := 4) X hK (c_X1_addUpTo hτ (by omega)) gX1_cutLetters_X1_addUpTo rfl (by decide +kernel) ⟨rfl, rfl⟩ ⟨Nat.le_of_ble_eq_true rfl, Nat.le_of_ble_eq_true rfl⟩ [0, 1, 2, 3, 4, 5] rfl rfl rfl rfl hA hP hD hS (va_recv hK hP (ci := 1) (q0 := 0) rfl rfl) rfl hl.1 rfl (Nat.le_of_ble_eq_true rfl) dX1_cutLetters_116 ⟨Nat.zero_le _, Nat.zero_le _⟩ (fun H locs hP hD hS => ?_)
              have hP : va_P D vwCl ((z, .inr (1, [.ref t, .ref v, .ref th, .ref k, _])) :: (k, .inr (7, [.ref kx, .ref k1, .ref k2, .ref k3, .ref k4, _, _])) :: (k1, .inl (cI, 24, .inl _)) :: (k2, .inl (cI, 24, .inl _)) :: (k3, .inl (cI, 24, .inl _)) :: (k4, .inl (cI, 24, .inl _)) :: (v, .inr (8, [.ref t, .ref vw, .ref vj, _, _])) :: (vw, .inl (cW, 40, .inr (.inr (.inr (.inr _))))) :: (vj, .inl (cJ, 8, .inr (.inr (.inr (.inr _))))) :: (t, .inr (3, [_, .ref fa])) :: (fa, .inl (cI, 32, .inl _)) :: (th, .inr (4, [.ref tb, _])) :: (tb, .inl (cI, 80, .inl _)) :: dy) H := hP
              have hD : va_D A ((z, .inr (1, [.ref t, .ref v, .ref th, .ref k, _])) :: (k, .inr (7, [.ref kx, .ref k1, .ref k2, .ref k3, .ref k4, _, _])) :: (k1, .inl (cI, 24, .inl _)) :: (k2, .inl (cI, 24, .inl _)) :: (k3, .inl (cI, 24, .inl _)) :: (k4, .inl (cI, 24, .inl _)) :: (v, .inr (8, [.ref t, .ref vw, .ref vj, _, _])) :: (vw, .inl (cW, 40, .inr (.inr (.inr (.inr _))))) :: (vj, .inl (cJ, 8, .inr (.inr (.inr (.inr _))))) :: (t, .inr (3, [_, .ref fa])) :: (fa, .inl (cI, 32, .inl _)) :: (th, .inr (4, [.ref tb, _])) :: (tb, .inl (cI, 80, .inl _)) :: dy) := hD
              exact mu_iret X hP hS (by rw [ht]) (by rw [ht]) dX1_cutLetters_119
            · refine rf_eq (q := (ja j_101 0)) rfl ?_
              have hjl : j_101 < nj := by have := (fiO_some _ _ _ h_101).2.1; omega
              have hw : va_P D vwCl [((ja j_101 0), .inr (2, [.ref (ja j_101 1), .int (jz j_101 1), .int (jz j_101 2)])), ((ja j_101 1), .inr (4, [.ref (ja j_101 2), .int (nI (jn j_101))])), ((ja j_101 2), .inl (cI, (jn j_101), .inl (jt j_101)))] _ := memP (w := jCells cI ja jz jn jt j_101) hP (fun q hq => List.mem_cons_of_mem _ (List.mem_cons_of_mem _ (List.mem_cons_of_mem _ (List.mem_cons_of_mem _ (List.mem_cons_of_mem _ (List.mem_cons_of_mem _ (List.mem_cons_of_mem _ (List.mem_cons_of_mem _ (List.mem_cons_of_mem _ (List.mem_cons_of_mem _ (List.mem_cons_of_mem _ (List.mem_cons_of_mem _ (List.mem_cons_of_mem _ ((hdj j_101 hjl).2 q hq))))))))))))))
              refine lv_astore (lv' := [(4, _), (3, _), (0, _), (1, _), (2, _)]) hx hb dX1_cutLetters_104 hl (by decide) rfl (fun ls hl => ?_)
              refine lv_aload hx hb dX1_cutLetters_106 (lv_at hl 0 rfl) ?_
              refine lv_ifnonnull (tgt := 120) hx hb dX1_cutLetters_108 (by decide) ?_
              have ht : lTok (fwC ct fo wz wn wt nw L) (fjC ct fo jn jt nj L) (fun j => jz j 1) (fun j => jz j 2) lg n L p τ = (j, ad4 (ad4 τ 0 (nI p) (nI (j - p)) (jz j_101 1)) 0 (nI p) (nI (j - p)) (jz j_101 2)) := by simp only [lTok, hse]; rw [h_49]; simp only []; rw [h_71]; simp only []; rw [h_101]
              refine lv_aload_n hx hb dX1_cutLetters_120 rfl (lv_at hl 2 rfl) ?_
              refine lv_iload_n hx hb dX1_cutLetters_121 rfl (lv_at hl 4 rfl) ?_
              refine lv_iconst (v := 0) hx hb dX1_cutLetters_122 (by decide) ?_
              refine lv_iload_n hx hb dX1_cutLetters_123 rfl (lv_at hl 3 rfl) ?_
              refine lv_aload hx hb dX1_cutLetters_124 (lv_at hl 0 rfl) ?_
              refine va_get (D := D) (ci := 2) (C := RX2) (T := TX2) (N := 3) hx hb hts in_X2 hown hK hw 0 rfl rfl 1 (by decide) fl_95 (fun _ h9 => h9) rfl dX1_cutLetters_126 ?_
              refine mu_V (n := 4) X hK (c_X1_addUpTo hτ (by omega)) gX1_cutLetters_X1_addUpTo rfl (by decide +kernel) ⟨rfl, rfl⟩ ⟨Nat.le_of_ble_eq_true rfl, Nat.le_of_ble_eq_true rfl⟩ [0, 1, 2, 3, 4, 5] rfl rfl rfl rfl hA hP hD hS (va_recv hK hP (ci := 1) (q0 := 0) rfl rfl) rfl hl.1 rfl (Nat.le_of_ble_eq_true rfl) dX1_cutLetters_129 ⟨Nat.zero_le _, Nat.zero_le _⟩ (fun H locs hP hD hS => ?_)
              have hP : va_P D vwCl ((z, .inr (1, [.ref t, .ref v, .ref th, .ref k, _])) :: (k, .inr (7, [.ref kx, .ref k1, .ref k2, .ref k3, .ref k4, _, _])) :: (k1, .inl (cI, 24, .inl _)) :: (k2, .inl (cI, 24, .inl _)) :: (k3, .inl (cI, 24, .inl _)) :: (k4, .inl (cI, 24, .inl _)) :: (v, .inr (8, [.ref t, .ref vw, .ref vj, _, _])) :: (vw, .inl (cW, 40, .inr (.inr (.inr (.inr _))))) :: (vj, .inl (cJ, 8, .inr (.inr (.inr (.inr _))))) :: (t, .inr (3, [_, .ref fa])) :: (fa, .inl (cI, 32, .inl _)) :: (th, .inr (4, [.ref tb, _])) :: (tb, .inl (cI, 80, .inl _)) :: dy) H := hP
              have hD : va_D A ((z, .inr (1, [.ref t, .ref v, .ref th, .ref k, _])) :: (k, .inr (7, [.ref kx, .ref k1, .ref k2, .ref k3, .ref k4, _, _])) :: (k1, .inl (cI, 24, .inl _)) :: (k2, .inl (cI, 24, .inl _)) :: (k3, .inl (cI, 24, .inl _)) :: (k4, .inl (cI, 24, .inl _)) :: (v, .inr (8, [.ref t, .ref vw, .ref vj, _, _])) :: (vw, .inl (cW, 40, .inr (.inr (.inr (.inr _))))) :: (vj, .inl (cJ, 8, .inr (.inr (.inr (.inr _))))) :: (t, .inr (3, [_, .ref fa])) :: (fa, .inl (cI, 32, .inl _)) :: (th, .inr (4, [.ref tb, _])) :: (tb, .inl (cI, 80, .inl _)) :: dy) := hD
              refine lv_pop hx hb dX1_cutLetters_132 rfl ?_
              have hw : va_P D vwCl [((ja j_101 0), .inr (2, [.ref (ja j_101 1), .int (jz j_101 1), .int (jz j_101 2)])), ((ja j_101 1), .inr (4, [.ref (ja j_101 2), .int (nI (jn j_101))])), ((ja j_101 2), .inl (cI, (jn j_101), .inl (jt j_101)))] _ := memP (w := jCells cI ja jz jn jt j_101) hP (fun q hq => List.mem_cons_of_mem _ (List.mem_cons_of_mem _ (List.mem_cons_of_mem _ (List.mem_cons_of_mem _ (List.mem_cons_of_mem _ (List.mem_cons_of_mem _ (List.mem_cons_of_mem _ (List.mem_cons_of_mem _ (List.mem_cons_of_mem _ (List.mem_cons_of_mem _ (List.mem_cons_of_mem _ (List.mem_cons_of_mem _ (List.mem_cons_of_mem _ ((hdj j_101 hjl).2 q hq))))))))))))))
              refine lv_aload_n hx hb dX1_cutLetters_133 rfl (lv_at hl 2 rfl) ?_
              refine lv_iload_n hx hb dX1_cutLetters_134 rfl (lv_at hl 4 rfl) ?_
              refine lv_iconst (v := 0) hx hb dX1_cutLetters_135 (by decide) ?_
              refine lv_iload_n hx hb dX1_cutLetters_136 rfl (lv_at hl 3 rfl) ?_
              refine lv_aload hx hb dX1_cutLetters_137 (lv_at hl 0 rfl) ?_
              refine va_get (D := D) (ci := 2) (C := RX2) (T := TX2) (N := 3) hx hb hts in_X2 hown hK hw 0 rfl rfl 2 (by decide) fl_100 (fun _ h9 => h9) rfl dX1_cutLetters_139 ?_
              refine mu_V (n := 4) X hK (c_X1_addUpTo (ad4_le hτ) (by omega)) gX1_cutLetters_X1_addUpTo rfl (by decide +kernel) ⟨rfl, rfl⟩ ⟨Nat.le_of_ble_eq_true rfl, Nat.le_of_ble_eq_true rfl⟩ [0, 1, 2, 3, 4, 5] rfl rfl rfl rfl hA hP hD hS (va_recv hK hP (ci := 1) (q0 := 0) rfl rfl) rfl hl.1 rfl (Nat.le_of_ble_eq_true rfl) dX1_cutLetters_142 ⟨Nat.zero_le _, Nat.zero_le _⟩ (fun H locs hP hD hS => ?_)
              have hP : va_P D vwCl ((z, .inr (1, [.ref t, .ref v, .ref th, .ref k, _])) :: (k, .inr (7, [.ref kx, .ref k1, .ref k2, .ref k3, .ref k4, _, _])) :: (k1, .inl (cI, 24, .inl _)) :: (k2, .inl (cI, 24, .inl _)) :: (k3, .inl (cI, 24, .inl _)) :: (k4, .inl (cI, 24, .inl _)) :: (v, .inr (8, [.ref t, .ref vw, .ref vj, _, _])) :: (vw, .inl (cW, 40, .inr (.inr (.inr (.inr _))))) :: (vj, .inl (cJ, 8, .inr (.inr (.inr (.inr _))))) :: (t, .inr (3, [_, .ref fa])) :: (fa, .inl (cI, 32, .inl _)) :: (th, .inr (4, [.ref tb, _])) :: (tb, .inl (cI, 80, .inl _)) :: dy) H := hP
              have hD : va_D A ((z, .inr (1, [.ref t, .ref v, .ref th, .ref k, _])) :: (k, .inr (7, [.ref kx, .ref k1, .ref k2, .ref k3, .ref k4, _, _])) :: (k1, .inl (cI, 24, .inl _)) :: (k2, .inl (cI, 24, .inl _)) :: (k3, .inl (cI, 24, .inl _)) :: (k4, .inl (cI, 24, .inl _)) :: (v, .inr (8, [.ref t, .ref vw, .ref vj, _, _])) :: (vw, .inl (cW, 40, .inr (.inr (.inr (.inr _))))) :: (vj, .inl (cJ, 8, .inr (.inr (.inr (.inr _))))) :: (t, .inr (3, [_, .ref fa])) :: (fa, .inl (cI, 32, .inl _)) :: (th, .inr (4, [.ref tb, _])) :: (tb, .inl (cI, 80, .inl _)) :: dy) := hD
              exact mu_iret X hP hS (by rw [ht]) (by rw [ht]) dX1_cutLetters_145
          · refine lv_istore_n (lv' := [(3, _), (0, _), (1, _), (2, _)]) hx hb dX1_cutLetters_74 rfl hl (by decide) rfl (fun ls hl => ?_)
            refine lv_iload_n hx hb dX1_cutLetters_75 rfl (lv_at hl 0 rfl) ?_
            refine lv_iconst (v := -1) hx hb dX1_cutLetters_76 (by decide) ?_
            refine lv_icmp_eq (tgt := 89) hx hb dX1_cutLetters_77 (by decide) (fun c_77 => absurd c_77 (oI_m1 (by have := (fiO_some _ _ _ h_71).2.1; omega))) (fun _ => ?_)
            have ht : lTok (fwC ct fo wz wn wt nw L) (fjC ct fo jn jt nj L) (fun j => jz j 1) (fun j => jz j 2) lg n L p τ = (j, ad4 τ 0 (nI p) (nI (j - p)) (nI j_71)) := by simp only [lTok, hse]; rw [h_49]; simp only []; rw [h_71]
            refine lv_aload_n hx hb dX1_cutLetters_80 rfl (lv_at hl 1 rfl) ?_
            refine lv_iload_n hx hb dX1_cutLetters_81 rfl (lv_at hl 3 rfl) ?_
            refine lv_iconst (v := 0) hx hb dX1_cutLetters_82 (by decide) ?_
            refine lv_iload_n hx hb dX1_cutLetters_83 rfl (lv_at hl 2 rfl) ?_
            refine lv_iload_n hx hb dX1_cutLetters_84 rfl (lv_at hl 0 rfl) ?_
            refine mu_V (n := 4) X hK (c_X1_addUpTo hτ (by omega)) gX1_cutLetters_X1_addUpTo rfl (by decide +kernel) ⟨rfl, rfl⟩ ⟨Nat.le_of_ble_eq_true rfl, Nat.le_of_ble_eq_true rfl⟩ [0, 1, 2, 3, 4, 5] rfl rfl rfl rfl hA hP hD hS (va_recv hK hP (ci := 1) (q0 := 0) rfl rfl) rfl hl.1 rfl (Nat.le_of_ble_eq_true rfl) dX1_cutLetters_85 ⟨Nat.zero_le _, Nat.zero_le _⟩ (fun H locs hP hD hS => ?_)
            have hP : va_P D vwCl ((z, .inr (1, [.ref t, .ref v, .ref th, .ref k, _])) :: (k, .inr (7, [.ref kx, .ref k1, .ref k2, .ref k3, .ref k4, _, _])) :: (k1, .inl (cI, 24, .inl _)) :: (k2, .inl (cI, 24, .inl _)) :: (k3, .inl (cI, 24, .inl _)) :: (k4, .inl (cI, 24, .inl _)) :: (v, .inr (8, [.ref t, .ref vw, .ref vj, _, _])) :: (vw, .inl (cW, 40, .inr (.inr (.inr (.inr _))))) :: (vj, .inl (cJ, 8, .inr (.inr (.inr (.inr _))))) :: (t, .inr (3, [_, .ref fa])) :: (fa, .inl (cI, 32, .inl _)) :: (th, .inr (4, [.ref tb, _])) :: (tb, .inl (cI, 80, .inl _)) :: dy) H := hP
            have hD : va_D A ((z, .inr (1, [.ref t, .ref v, .ref th, .ref k, _])) :: (k, .inr (7, [.ref kx, .ref k1, .ref k2, .ref k3, .ref k4, _, _])) :: (k1, .inl (cI, 24, .inl _)) :: (k2, .inl (cI, 24, .inl _)) :: (k3, .inl (cI, 24, .inl _)) :: (k4, .inl (cI, 24, .inl _)) :: (v, .inr (8, [.ref t, .ref vw, .ref vj, _, _])) :: (vw, .inl (cW, 40, .inr (.inr (.inr (.inr _))))) :: (vj, .inl (cJ, 8, .inr (.inr (.inr (.inr _))))) :: (t, .inr (3, [_, .ref fa])) :: (fa, .inl (cI, 32, .inl _)) :: (th, .inr (4, [.ref tb, _])) :: (tb, .inl (cI, 80, .inl _)) :: dy) := hD
            exact mu_iret X hP hS (by rw [ht]) (by rw [ht]; rfl) dX1_cutLetters_88
        · refine lv_istore_n (lv' := [(3, _), (0, _), (1, _), (2, _)]) hx hb dX1_cutLetters_52 rfl hl (by decide) rfl (fun ls hl => ?_)
          refine lv_iload_n hx hb dX1_cutLetters_53 rfl (lv_at hl 0 rfl) ?_
          refine lv_iconst (v := -1) hx hb dX1_cutLetters_54 (by decide) ?_
          refine lv_icmp_ne (tgt := 75) hx hb dX1_cutLetters_55 (by decide) (fun _ => ?_) (fun c_55 => absurd c_55 (oI_m1 (by have := (fiO_some _ _ _ h_49).2.1; omega)))
          refine lv_iload_n hx hb dX1_cutLetters_75 rfl (lv_at hl 0 rfl) ?_
          refine lv_iconst (v := -1) hx hb dX1_cutLetters_76 (by decide) ?_
          refine lv_icmp_eq (tgt := 89) hx hb dX1_cutLetters_77 (by decide) (fun c_77 => absurd c_77 (oI_m1 (by have := (fiO_some _ _ _ h_49).2.1; omega))) (fun _ => ?_)
          have ht : lTok (fwC ct fo wz wn wt nw L) (fjC ct fo jn jt nj L) (fun j => jz j 1) (fun j => jz j 2) lg n L p τ = (j, ad4 τ 0 (nI p) (nI (j - p)) (nI j_49)) := by simp only [lTok, hse]; rw [h_49]
          refine lv_aload_n hx hb dX1_cutLetters_80 rfl (lv_at hl 1 rfl) ?_
          refine lv_iload_n hx hb dX1_cutLetters_81 rfl (lv_at hl 3 rfl) ?_
          refine lv_iconst (v := 0) hx hb dX1_cutLetters_82 (by decide) ?_
          refine lv_iload_n hx hb dX1_cutLetters_83 rfl (lv_at hl 2 rfl) ?_
          refine lv_iload_n hx hb dX1_cutLetters_84 rfl (lv_at hl 0 rfl) ?_
          refine mu_V (n := 4) X hK (c_X1_addUpTo hτ (by omega)) gX1_cutLetters_X1_addUpTo rfl (by decide +kernel) ⟨rfl, rfl⟩ ⟨Nat.le_of_ble_eq_true rfl, Nat.le_of_ble_eq_true rfl⟩ [0, 1, 2, 3, 4, 5] rfl rfl rfl rfl hA hP hD hS (va_recv hK hP (ci := 1) (q0 := 0) rfl rfl) rfl hl.1 rfl (Nat.le_of_ble_eq_true rfl) dX1_cutLetters_85 ⟨Nat.zero_le _, Nat.zero_le _⟩ (fun H locs hP hD hS => ?_)
          have hP : va_P D vwCl ((z, .inr (1, [.ref t, .ref v, .ref th, .ref k, _])) :: (k, .inr (7, [.ref kx, .ref k1, .ref k2, .ref k3, .ref k4, _, _])) :: (k1, .inl (cI, 24, .inl _)) :: (k2, .inl (cI, 24, .inl _)) :: (k3, .inl (cI, 24, .inl _)) :: (k4, .inl (cI, 24, .inl _)) :: (v, .inr (8, [.ref t, .ref vw, .ref vj, _, _])) :: (vw, .inl (cW, 40, .inr (.inr (.inr (.inr _))))) :: (vj, .inl (cJ, 8, .inr (.inr (.inr (.inr _))))) :: (t, .inr (3, [_, .ref fa])) :: (fa, .inl (cI, 32, .inl _)) :: (th, .inr (4, [.ref tb, _])) :: (tb, .inl (cI, 80, .inl _)) :: dy) H := hP
          have hD : va_D A ((z, .inr (1, [.ref t, .ref v, .ref th, .ref k, _])) :: (k, .inr (7, [.ref kx, .ref k1, .ref k2, .ref k3, .ref k4, _, _])) :: (k1, .inl (cI, 24, .inl _)) :: (k2, .inl (cI, 24, .inl _)) :: (k3, .inl (cI, 24, .inl _)) :: (k4, .inl (cI, 24, .inl _)) :: (v, .inr (8, [.ref t, .ref vw, .ref vj, _, _])) :: (vw, .inl (cW, 40, .inr (.inr (.inr (.inr _))))) :: (vj, .inl (cJ, 8, .inr (.inr (.inr (.inr _))))) :: (t, .inr (3, [_, .ref fa])) :: (fa, .inl (cI, 32, .inl _)) :: (th, .inr (4, [.ref tb, _])) :: (tb, .inl (cI, 80, .inl _)) :: dy) := hD
          exact mu_iret X hP hS (by rw [ht]) (by rw [ht]; rfl) dX1_cutLetters_88
      · have hlt : j < n := lt_nge c_10 hj (by omega)
        refine lv_aload_n hx hb dX1_cutLetters_13 rfl (lv_at hl 0 rfl) ?_
        refine va_get (D := D) (ci := 1) (C := RX1) (T := TX1) (N := 5) hx hb hts in_X1 hown hK hP 0 rfl rfl 2 (by decide) fl_19 (fun _ h9 => h9) rfl dX1_cutLetters_14 ?_
        refine lv_iload_n hx hb dX1_cutLetters_17 rfl (lv_at hl 2 rfl) ?_
        refine ro_V (n := 1) X hK (c_X4_byteAt (by decide)) gX1_cutLetters_X4_byteAt rfl (by decide +kernel) ⟨rfl, rfl⟩ ⟨Nat.le_of_ble_eq_true rfl, Nat.le_of_ble_eq_true rfl⟩ (hP.sub [11, 12] rfl) (va_recv hK hP (ci := 4) (q0 := 11) rfl rfl) rfl hl.1 rfl (Nat.le_of_ble_eq_true rfl) dX1_cutLetters_18 ⟨Nat.zero_le _, Nat.zero_le _⟩ ?_
        rw [rowAt_lt hlt (by omega) (by omega) (by decide)]
        refine ro_S (n := 1) X hK (c_X3_isLetter) gX1_cutLetters_X3_isLetter rfl (by decide +kernel) ⟨rfl, rfl⟩ ⟨Nat.le_of_ble_eq_true rfl, Nat.le_of_ble_eq_true rfl⟩ (hP.sub [] rfl) rfl hl.1 rfl (Nat.le_of_ble_eq_true rfl) dX1_cutLetters_21 ⟨Nat.zero_le _, Nat.zero_le _⟩ ?_
        refine lv_if_eq (tgt := 33) hx hb dX1_cutLetters_24 (by decide) (fun c_24 => ?_) (fun c_24 => ?_)
        · replace c_24 := bI_0.mp c_24
          have hse : sp isLe L n p = j := by first | rw [← hr, sp_f hlt c_24] | rw [← hr, sp_ge (leL (a := n) (b := j) c_10)]
          refine lv_aload_n hx hb dX1_cutLetters_33 rfl (lv_at hl 0 rfl) ?_
          refine va_get (D := D) (ci := 1) (C := RX1) (T := TX1) (N := 5) hx hb hts in_X1 hown hK hP 0 rfl rfl 1 (by decide) fl_15 (fun _ h9 => h9) rfl dX1_cutLetters_34 ?_
          refine lv_aload_n hx hb dX1_cutLetters_37 rfl (lv_at hl 0 rfl) ?_
          refine va_get (D := D) (ci := 1) (C := RX1) (T := TX1) (N := 5) hx hb hts in_X1 hown hK hP 0 rfl rfl 4 (by decide) fl_23 (fun _ h9 => h9) rfl dX1_cutLetters_38 ?_
          refine lv_aload_n hx hb dX1_cutLetters_41 rfl (lv_at hl 0 rfl) ?_
          refine va_get (D := D) (ci := 1) (C := RX1) (T := TX1) (N := 5) hx hb hts in_X1 hown hK hP 0 rfl rfl 2 (by decide) fl_19 (fun _ h9 => h9) rfl dX1_cutLetters_42 ?_
          refine lv_iload_n hx hb dX1_cutLetters_45 rfl (lv_at hl 1 rfl) ?_
          refine lv_iload_n hx hb dX1_cutLetters_46 rfl (lv_at hl 2 rfl) ?_
          refine lv_iload_n hx hb dX1_cutLetters_47 rfl (lv_at hl 1 rfl) ?_
          refine lv_isub hx hb dX1_cutLetters_48 ?_
          refine topi_eq (nI_sub1 (by omega)) ?_
          refine ro_V (n := 4) X hK (c_X8_likeIn hct (by decide) hn (by omega) hnw hwf hdw) gX1_cutLetters_X8_likeIn rfl (by decide +kernel) ⟨rfl, rfl⟩ ⟨Nat.le_of_ble_eq_true rfl, Nat.le_of_ble_eq_true rfl⟩ (ro_tl hP [6, 7, 9, 10, 11, 12] rfl (fun _ hq => by simp [hq])) (va_recv hK hP (ci := 8) (q0 := 6) rfl rfl) rfl hl.1 rfl (Nat.le_of_ble_eq_true rfl) dX1_cutLetters_49 ⟨Nat.zero_le _, Nat.zero_le _⟩ ?_
          rcases h_49 : fwC ct fo wz wn wt nw L lg p (j - p) with _ | j_49
          · refine lv_istore_n (lv' := [(3, _), (0, _), (1, _), (2, _)]) hx hb dX1_cutLetters_52 rfl hl (by decide) rfl (fun ls hl => ?_)
            refine lv_iload_n hx hb dX1_cutLetters_53 rfl (lv_at hl 0 rfl) ?_
            refine lv_iconst (v := -1) hx hb dX1_cutLetters_54 (by decide) ?_
            refine lv_icmp_ne (tgt := 75) hx hb dX1_cutLetters_55 (by decide) (fun c_55 => absurd c_55 (by decide)) (fun _ => ?_)
            refine lv_aload_n hx hb dX1_cutLetters_58 rfl (lv_at hl 1 rfl) ?_
            refine va_get (D := D) (ci := 1) (C := RX1) (T := TX1) (N := 5) hx hb hts in_X1 hown hK hP 0 rfl rfl 1 (by decide) fl_15 (fun _ h9 => h9) rfl dX1_cutLetters_59 ?_
            refine lv_iconst (v := 0) hx hb dX1_cutLetters_62 (by decide) ?_
            refine lv_aload_n hx hb dX1_cutLetters_63 rfl (lv_at hl 1 rfl) ?_
            refine va_get (D := D) (ci := 1) (C := RX1) (T := TX1) (N := 5) hx hb hts in_X1 hown hK hP 0 rfl rfl 2 (by decide) fl_19 (fun _ h9 => h9) rfl dX1_cutLetters_64 ?_
            refine lv_iload_n hx hb dX1_cutLetters_67 rfl (lv_at hl 2 rfl) ?_
            refine lv_iload_n hx hb dX1_cutLetters_68 rfl (lv_at hl 3 rfl) ?_
            refine lv_iload_n hx hb dX1_cutLetters_69 rfl (lv_at hl 2 rfl) ?_
            refine lv_isub hx hb dX1_cutLetters_70 ?_
            refine topi_eq (nI_sub1 (by omega)) ?_
            refine ro_V (n := 4) X hK (c_X8_likeIn hct (by decide) hn (by omega) hnw hwf hdw) gX1_cutLetters_X8_likeIn rfl (by decide +kernel) ⟨rfl, rfl⟩ ⟨Nat.le_of_ble_eq_true rfl, Nat.le_of_ble_eq_true rfl⟩ (ro_tl hP [6, 7, 9, 10, 11, 12] rfl (fun _ hq => by simp [hq])) (va_recv hK hP (ci := 8) (q0 := 6) rfl rfl) rfl hl.1 rfl (Nat.le_of_ble_eq_true rfl) dX1_cutLetters_71 ⟨Nat.zero_le _, Nat.zero_le _⟩ ?_
            rcases h_71 : fwC ct fo wz wn wt nw L 0 p (j - p) with _ | j_71
            · refine lv_istore_n (lv' := [(3, _), (0, _), (1, _), (2, _)]) hx hb dX1_cutLetters_74 rfl hl (by decide) rfl (fun ls hl => ?_)
              refine lv_iload_n hx hb dX1_cutLetters_75 rfl (lv_at hl 0 rfl) ?_
              refine lv_iconst (v := -1) hx hb dX1_cutLetters_76 (by decide) ?_
              refine lv_icmp_eq (tgt := 89) hx hb dX1_cutLetters_77 (by decide) (fun _ => ?_) (fun c_77 => absurd c_77 (by decide))
              refine lv_aload_n hx hb dX1_cutLetters_89 rfl (lv_at hl 1 rfl) ?_
              refine va_get (D := D) (ci := 1) (C := RX1) (T := TX1) (N := 5) hx hb hts in_X1 hown hK hP 0 rfl rfl 1 (by decide) fl_15 (fun _ h9 => h9) rfl dX1_cutLetters_90 ?_
              refine lv_aload_n hx hb dX1_cutLetters_93 rfl (lv_at hl 1 rfl) ?_
              refine va_get (D := D) (ci := 1) (C := RX1) (T := TX1) (N := 5) hx hb hts in_X1 hown hK hP 0 rfl rfl 2 (by decide) fl_19 (fun _ h9 => h9) rfl dX1_cutLetters_94 ?_
              refine lv_iload_n hx hb dX1_cutLetters_97 rfl (lv_at hl 2 rfl) ?_
              refine lv_iload_n hx hb dX1_cutLetters_98 rfl (lv_at hl 3 rfl) ?_
              refine lv_iload_n hx hb dX1_cutLetters_99 rfl (lv_at hl 2 rfl) ?_
              refine lv_isub hx hb dX1_cutLetters_100 ?_
              refine topi_eq (nI_sub1 (by omega)) ?_
              refine ro_V (n := 3) X hK (c_X8_joinLike hct (by decide) hn (by omega) hnj hjf hdj) gX1_cutLetters_X8_joinLike rfl (by decide +kernel) ⟨rfl, rfl⟩ ⟨Nat.le_of_ble_eq_true rfl, Nat.le_of_ble_eq_true rfl⟩ (ro_tl hP [6, 8, 9, 10, 11, 12] rfl (fun _ hq => by simp [hq])) (va_recv hK hP (ci := 8) (q0 := 6) rfl rfl) rfl hl.1 rfl (Nat.le_of_ble_eq_true rfl) dX1_cutLetters_101 ⟨Nat.zero_le _, Nat.zero_le _⟩ ?_
              rcases h_101 : fjC ct fo jn jt nj L p (j - p) with _ | j_101
              · refine rf_eqN rfl ?_
                refine lv_astoreN (lv' := [(4, _), (3, _), (0, _), (1, _), (2, _)]) hx hb dX1_cutLetters_104 hl (by decide) rfl (fun ls hl => ?_)
                refine lv_aloadN hx hb dX1_cutLetters_106 (lv_at hl 0 rfl) ?_
                refine lv_ifnonnullN hx hb dX1_cutLetters_108 ?_
                have ht : lTok (fwC ct fo wz wn wt nw L) (fjC ct fo jn jt nj L) (fun j => jz j 1) (fun j => jz j 2) lg n L p τ = (j, ad4 τ 1 (nI p) (nI (j - p)) (-1)) := by simp only [lTok, hse]; rw [h_49]; simp only []; rw [h_71]; simp only []; rw [h_101]
                refine lv_aload_n hx hb dX1_cutLetters_111 rfl (lv_at hl 2 rfl) ?_
                refine lv_iload_n hx hb dX1_cutLetters_112 rfl (lv_at hl 4 rfl) ?_
                refine lv_iconst (v := 1) hx hb dX1_cutLetters_113 (by decide) ?_
                refine lv_iload_n hx hb dX1_cutLetters_114 rfl (lv_at hl 3 rfl) ?_
                refine lv_iconst (v := -1) hx hb dX1_cutLetters_115 (by decide) ?_
                refine mu_V (n := 4) X hK (c_X1_addUpTo hτ (by omega)) gX1_cutLetters_X1_addUpTo rfl (by decide +kernel) ⟨rfl, rfl⟩ ⟨Nat.le_of_ble_eq_true rfl, Nat.le_of_ble_eq_true rfl⟩ [0, 1, 2, 3, 4, 5] rfl rfl rfl rfl hA hP hD hS (va_recv hK hP (ci := 1) (q0 := 0) rfl rfl) rfl hl.1 rfl (Nat.le_of_ble_eq_true rfl) dX1_cutLetters_116 ⟨Nat.zero_le _, Nat.zero_le _⟩ (fun H locs hP hD hS => ?_)
                have hP : va_P D vwCl ((z, .inr (1, [.ref t, .ref v, .ref th, .ref k, _])) :: (k, .inr (7, [.ref kx, .ref k1, .ref k2, .ref k3, .ref k4, _, _])) :: (k1, .inl (cI, 24, .inl _)) :: (k2, .inl (cI, 24, .inl _)) :: (k3, .inl (cI, 24, .inl _)) :: (k4, .inl (cI, 24, .inl _)) :: (v, .inr (8, [.ref t, .ref vw, .ref vj, _, _])) :: (vw, .inl (cW, 40, .inr (.inr (.inr (.inr _))))) :: (vj, .inl (cJ, 8, .inr (.inr (.inr (.inr _))))) :: (t, .inr (3, [_, .ref fa])) :: (fa, .inl (cI, 32, .inl _)) :: (th, .inr (4, [.ref tb, _])) :: (tb, .inl (cI, 80, .inl _)) :: dy) H := hP
                have hD : va_D A ((z, .inr (1, [.ref t, .ref v, .ref th, .ref k, _])) :: (k, .inr (7, [.ref kx, .ref k1, .ref k2, .ref k3, .ref k4, _, _])) :: (k1, .inl (cI, 24, .inl _)) :: (k2, .inl (cI, 24, .inl _)) :: (k3, .inl (cI, 24, .inl _)) :: (k4, .inl (cI, 24, .inl _)) :: (v, .inr (8, [.ref t, .ref vw, .ref vj, _, _])) :: (vw, .inl (cW, 40, .inr (.inr (.inr (.inr _))))) :: (vj, .inl (cJ, 8, .inr (.inr (.inr (.inr _))))) :: (t, .inr (3, [_, .ref fa])) :: (fa, .inl (cI, 32, .inl _)) :: (th, .inr (4, [.ref tb, _])) :: (tb, .inl (cI, 80, .inl _)) :: dy) := hD
                exact mu_iret X hP hS (by rw [ht]) (by rw [ht]) dX1_cutLetters_119
              · refine rf_eq (q := (ja j_101 0)) rfl ?_
                have hjl : j_101 < nj := by have := (fiO_some _ _ _ h_101).2.1; omega
                have hw : va_P D vwCl [((ja j_101 0), .inr (2, [.ref (ja j_101 1), .int (jz j_101 1), .int (jz j_101 2)])), ((ja j_101 1), .inr (4, [.ref (ja j_101 2), .int (nI (jn j_101))])), ((ja j_101 2), .inl (cI, (jn j_101), .inl (jt j_101)))] _ := memP (w := jCells cI ja jz jn jt j_101) hP (fun q hq => List.mem_cons_of_mem _ (List.mem_cons_of_mem _ (List.mem_cons_of_mem _ (List.mem_cons_of_mem _ (List.mem_cons_of_mem _ (List.mem_cons_of_mem _ (List.mem_cons_of_mem _ (List.mem_cons_of_mem _ (List.mem_cons_of_mem _ (List.mem_cons_of_mem _ (List.mem_cons_of_mem _ (List.mem_cons_of_mem _ (List.mem_cons_of_mem _ ((hdj j_101 hjl).2 q hq))))))))))))))
                refine lv_astore (lv' := [(4, _), (3, _), (0, _), (1, _), (2, _)]) hx hb dX1_cutLetters_104 hl (by decide) rfl (fun ls hl => ?_)
                refine lv_aload hx hb dX1_cutLetters_106 (lv_at hl 0 rfl) ?_
                refine lv_ifnonnull (tgt := 120) hx hb dX1_cutLetters_108 (by decide) ?_
                have ht : lTok (fwC ct fo wz wn wt nw L) (fjC ct fo jn jt nj L) (fun j => jz j 1) (fun j => jz j 2) lg n L p τ = (j, ad4 (ad4 τ 0 (nI p) (nI (j - p)) (jz j_101 1)) 0 (nI p) (nI (j - p)) (jz j_101 2)) := by simp only [lTok, hse]; rw [h_49]; simp only []; rw [h_71]; simp only []; rw [h_101]
                refine lv_aload_n hx hb dX1_cutLetters_120 rfl (lv_at hl 2 rfl) ?_
                refine lv_iload_n hx hb dX1_cutLetters_121 rfl (lv_at hl 4 rfl) ?_
                refine lv_iconst (v := 0) hx hb dX1_cutLetters_122 (by decide) ?_
                refine lv_iload_n hx hb dX1_cutLetters_123 rfl (lv_at hl 3 rfl) ?_
                refine lv_aload hx hb dX1_cutLetters_124 (lv_at hl 0 rfl) ?_
                refine va_get (D := D) (ci := 2) (C := RX2) (T := TX2) (N := 3) hx hb hts in_X2 hown hK hw 0 rfl rfl 1 (by decide) fl_95 (fun _ h9 => h9) rfl dX1_cutLetters_126 ?_
                refine mu_V (n := 4) X hK (c_X1_addUpTo hτ (by omega)) gX1_cutLetters_X1_addUpTo rfl (by decide +kernel) ⟨rfl, rfl⟩ ⟨Nat.le_of_ble_eq_true rfl, Nat.le_of_ble_eq_true rfl⟩ [0, 1, 2, 3, 4, 5] rfl rfl rfl rfl hA hP hD hS (va_recv hK hP (ci := 1) (q0 := 0) rfl rfl) rfl hl.1 rfl (Nat.le_of_ble_eq_true rfl) dX1_cutLetters_129 ⟨Nat.zero_le _, Nat.zero_le _⟩ (fun H locs hP hD hS => ?_)
                have hP : va_P D vwCl ((z, .inr (1, [.ref t, .ref v, .ref th, .ref k, _])) :: (k, .inr (7, [.ref kx, .ref k1, .ref k2, .ref k3, .ref k4, _, _])) :: (k1, .inl (cI, 24, .inl _)) :: (k2, .inl (cI, 24, .inl _)) :: (k3, .inl (cI, 24, .inl _)) :: (k4, .inl (cI, 24, .inl _)) :: (v, .inr (8, [.ref t, .ref vw, .ref vj, _, _])) :: (vw, .inl (cW, 40, .inr (.inr (.inr (.inr _))))) :: (vj, .inl (cJ, 8, .inr (.inr (.inr (.inr _))))) :: (t, .inr (3, [_, .ref fa])) :: (fa, .inl (cI, 32, .inl _)) :: (th, .inr (4, [.ref tb, _])) :: (tb, .inl (cI, 80, .inl _)) :: dy) H := hP
                have hD : va_D A ((z, .inr (1, [.ref t, .ref v, .ref th, .ref k, _])) :: (k, .inr (7, [.ref kx, .ref k1, .ref k2, .ref k3, .ref k4, _, _])) :: (k1, .inl (cI, 24, .inl _)) :: (k2, .inl (cI, 24, .inl _)) :: (k3, .inl (cI, 24, .inl _)) :: (k4, .inl (cI, 24, .inl _)) :: (v, .inr (8, [.ref t, .ref vw, .ref vj, _, _])) :: (vw, .inl (cW, 40, .inr (.inr (.inr (.inr _))))) :: (vj, .inl (cJ, 8, .inr (.inr (.inr (.inr _))))) :: (t, .inr (3, [_, .ref fa])) :: (fa, .inl (cI, 32, .inl _)) :: (th, .inr (4, [.ref tb, _])) :: (tb, .inl (cI, 80, .inl _)) :: dy) := hD
                refine lv_pop hx hb dX1_cutLetters_132 rfl ?_
                have hw : va_P D vwCl [((ja j_101 0), .inr (2, [.ref (ja j_101 1), .int (jz j_101 1), .int (jz j_101 2)])), ((ja j_101 1), .inr (4, [.ref (ja j_101 2), .int (nI (jn j_101))])), ((ja j_101 2), .inl (cI, (jn j_101), .inl (jt j_101)))] _ := memP (w := jCells cI ja jz jn jt j_101) hP (fun q hq => List.mem_cons_of_mem _ (List.mem_cons_of_mem _ (List.mem_cons_of_mem _ (List.mem_cons_of_mem _ (List.mem_cons_of_mem _ (List.mem_cons_of_mem _ (List.mem_cons_of_mem _ (List.mem_cons_of_mem _ (List.mem_cons_of_mem _ (List.mem_cons_of_mem _ (List.mem_cons_of_mem _ (List.mem_cons_of_mem _ (List.mem_cons_of_mem _ ((hdj j_101 hjl).2 q hq))))))))))))))
                refine lv_aload_n hx hb dX1_cutLetters_133 rfl (lv_at hl 2 rfl) ?_
                refine lv_iload_n hx hb dX1_cutLetters_134 rfl (lv_at hl 4 rfl) ?_
                refine lv_iconst (v := 0) hx hb dX1_cutLetters_135 (by decide) ?_
                refine lv_iload_n hx hb dX1_cutLetters_136 rfl (lv_at hl 3 rfl) ?_
                refine lv_aload hx hb dX1_cutLetters_137 (lv_at hl 0 rfl) ?_
                refine va_get (D := D) (ci := 2) (C := RX2) (T := TX2) (N := 3) hx hb hts in_X2 hown hK hw 0 rfl rfl 2 (by decide) fl_100 (fun _ h9 => h9) rfl dX1_cutLetters_139 ?_
                refine mu_V (n := 4) X hK (c_X1_addUpTo (ad4_le hτ) (by omega)) gX1_cutLetters_X1_addUpTo rfl (by decide +kernel) ⟨rfl, rfl⟩ ⟨Nat.le_of_ble_eq_true rfl, Nat.le_of_ble_eq_true rfl⟩ [0, 1, 2, 3, 4, 5] rfl rfl rfl rfl hA hP hD hS (va_recv hK hP (ci := 1) (q0 := 0) rfl rfl) rfl hl.1 rfl (Nat.le_of_ble_eq_true rfl) dX1_cutLetters_142 ⟨Nat.zero_le _, Nat.zero_le _⟩ (fun H locs hP hD hS => ?_)
                have hP : va_P D vwCl ((z, .inr (1, [.ref t, .ref v, .ref th, .ref k, _])) :: (k, .inr (7, [.ref kx, .ref k1, .ref k2, .ref k3, .ref k4, _, _])) :: (k1, .inl (cI, 24, .inl _)) :: (k2, .inl (cI, 24, .inl _)) :: (k3, .inl (cI, 24, .inl _)) :: (k4, .inl (cI, 24, .inl _)) :: (v, .inr (8, [.ref t, .ref vw, .ref vj, _, _])) :: (vw, .inl (cW, 40, .inr (.inr (.inr (.inr _))))) :: (vj, .inl (cJ, 8, .inr (.inr (.inr (.inr _))))) :: (t, .inr (3, [_, .ref fa])) :: (fa, .inl (cI, 32, .inl _)) :: (th, .inr (4, [.ref tb, _])) :: (tb, .inl (cI, 80, .inl _)) :: dy) H := hP
                have hD : va_D A ((z, .inr (1, [.ref t, .ref v, .ref th, .ref k, _])) :: (k, .inr (7, [.ref kx, .ref k1, .ref k2, .ref k3, .ref k4, _, _])) :: (k1, .inl (cI, 24, .inl _)) :: (k2, .inl (cI, 24, .inl _)) :: (k3, .inl (cI, 24, .inl _)) :: (k4, .inl (cI, 24, .inl _)) :: (v, .inr (8, [.ref t, .ref vw, .ref vj, _, _])) :: (vw, .inl (cW, 40, .inr (.inr (.inr (.inr _))))) :: (vj, .inl (cJ, 8, .inr (.inr (.inr (.inr _))))) :: (t, .inr (3, [_, .ref fa])) :: (fa, .inl (cI, 32, .inl _)) :: (th, .inr (4, [.ref tb, _])) :: (tb, .inl (cI, 80, .inl _)) :: dy) := hD
                exact mu_iret X hP hS (by rw [ht]) (by rw [ht]) dX1_cutLetters_145
            · refine lv_istore_n (lv' := [(3, _), (0, _), (1, _), (2, _)]) hx hb dX1_cutLetters_74 rfl hl (by decide) rfl (fun ls hl => ?_)
              refine lv_iload_n hx hb dX1_cutLetters_75 rfl (lv_at hl 0 rfl) ?_
              refine lv_iconst (v := -1) hx hb dX1_cutLetters_76 (by decide) ?_
              refine lv_icmp_eq (tgt := 89) hx hb dX1_cutLetters_77 (by decide) (fun c_77 => absurd c_77 (oI_m1 (by have := (fiO_some _ _ _ h_71).2.1; omega))) (fun _ => ?_)
              have ht : lTok (fwC ct fo wz wn wt nw L) (fjC ct fo jn jt nj L) (fun j => jz j 1) (fun j => jz j 2) lg n L p τ = (j, ad4 τ 0 (nI p) (nI (j - p)) (nI j_71)) := by simp only [lTok, hse]; rw [h_49]; simp only []; rw [h_71]
              refine lv_aload_n hx hb dX1_cutLetters_80 rfl (lv_at hl 1 rfl) ?_
              refine lv_iload_n hx hb dX1_cutLetters_81 rfl (lv_at hl 3 rfl) ?_
              refine lv_iconst (v := 0) hx hb dX1_cutLetters_82 (by decide) ?_
              refine lv_iload_n hx hb dX1_cutLetters_83 rfl (lv_at hl 2 rfl) ?_
              refine lv_iload_n hx hb dX1_cutLetters_84 rfl (lv_at hl 0 rfl) ?_
              refine mu_V (n := 4) X hK (c_X1_addUpTo hτ (by omega)) gX1_cutLetters_X1_addUpTo rfl (by decide +kernel) ⟨rfl, rfl⟩ ⟨Nat.le_of_ble_eq_true rfl, Nat.le_of_ble_eq_true rfl⟩ [0, 1, 2, 3, 4, 5] rfl rfl rfl rfl hA hP hD hS (va_recv hK hP (ci := 1) (q0 := 0) rfl rfl) rfl hl.1 rfl (Nat.le_of_ble_eq_true rfl) dX1_cutLetters_85 ⟨Nat.zero_le _, Nat.zero_le _⟩ (fun H locs hP hD hS => ?_)
              have hP : va_P D vwCl ((z, .inr (1, [.ref t, .ref v, .ref th, .ref k, _])) :: (k, .inr (7, [.ref kx, .ref k1, .ref k2, .ref k3, .ref k4, _, _])) :: (k1, .inl (cI, 24, .inl _)) :: (k2, .inl (cI, 24, .inl _)) :: (k3, .inl (cI, 24, .inl _)) :: (k4, .inl (cI, 24, .inl _)) :: (v, .inr (8, [.ref t, .ref vw, .ref vj, _, _])) :: (vw, .inl (cW, 40, .inr (.inr (.inr (.inr _))))) :: (vj, .inl (cJ, 8, .inr (.inr (.inr (.inr _))))) :: (t, .inr (3, [_, .ref fa])) :: (fa, .inl (cI, 32, .inl _)) :: (th, .inr (4, [.ref tb, _])) :: (tb, .inl (cI, 80, .inl _)) :: dy) H := hP
              have hD : va_D A ((z, .inr (1, [.ref t, .ref v, .ref th, .ref k, _])) :: (k, .inr (7, [.ref kx, .ref k1, .ref k2, .ref k3, .ref k4, _, _])) :: (k1, .inl (cI, 24, .inl _)) :: (k2, .inl (cI, 24, .inl _)) :: (k3, .inl (cI, 24, .inl _)) :: (k4, .inl (cI, 24, .inl _)) :: (v, .inr (8, [.ref t, .ref vw, .ref vj, _, _])) :: (vw, .inl (cW, 40, .inr (.inr (.inr (.inr _))))) :: (vj, .inl (cJ, 8, .inr (.inr (.inr (.inr _))))) :: (t, .inr (3, [_, .ref fa])) :: (fa, .inl (cI, 32, .inl _)) :: (th, .inr (4, [.ref tb, _])) :: (tb, .inl (cI, 80, .inl _)) :: dy) := hD
              exact mu_iret X hP hS (by rw [ht]) (by rw [ht]; rfl) dX1_cutLetters_88
          · refine lv_istore_n (lv' := [(3, _), (0, _), (1, _), (2, _)]) hx hb dX1_cutLetters_52 rfl hl (by decide) rfl (fun ls hl => ?_)
            refine lv_iload_n hx hb dX1_cutLetters_53 rfl (lv_at hl 0 rfl) ?_
            refine lv_iconst (v := -1) hx hb dX1_cutLetters_54 (by decide) ?_
            refine lv_icmp_ne (tgt := 75) hx hb dX1_cutLetters_55 (by decide) (fun _ => ?_) (fun c_55 => absurd c_55 (oI_m1 (by have := (fiO_some _ _ _ h_49).2.1; omega)))
            refine lv_iload_n hx hb dX1_cutLetters_75 rfl (lv_at hl 0 rfl) ?_
            refine lv_iconst (v := -1) hx hb dX1_cutLetters_76 (by decide) ?_
            refine lv_icmp_eq (tgt := 89) hx hb dX1_cutLetters_77 (by decide) (fun c_77 => absurd c_77 (oI_m1 (by have := (fiO_some _ _ _ h_49).2.1; omega))) (fun _ => ?_)
            have ht : lTok (fwC ct fo wz wn wt nw L) (fjC ct fo jn jt nj L) (fun j => jz j 1) (fun j => jz j 2) lg n L p τ = (j, ad4 τ 0 (nI p) (nI (j - p)) (nI j_49)) := by simp only [lTok, hse]; rw [h_49]
            refine lv_aload_n hx hb dX1_cutLetters_80 rfl (lv_at hl 1 rfl) ?_
            refine lv_iload_n hx hb dX1_cutLetters_81 rfl (lv_at hl 3 rfl) ?_
            refine lv_iconst (v := 0) hx hb dX1_cutLetters_82 (by decide) ?_
            refine lv_iload_n hx hb dX1_cutLetters_83 rfl (lv_at hl 2 rfl) ?_
            refine lv_iload_n hx hb dX1_cutLetters_84 rfl (lv_at hl 0 rfl) ?_
            refine mu_V (n := 4) X hK (c_X1_addUpTo hτ (by omega)) gX1_cutLetters_X1_addUpTo rfl (by decide +kernel) ⟨rfl, rfl⟩ ⟨Nat.le_of_ble_eq_true rfl, Nat.le_of_ble_eq_true rfl⟩ [0, 1, 2, 3, 4, 5] rfl rfl rfl rfl hA hP hD hS (va_recv hK hP (ci := 1) (q0 := 0) rfl rfl) rfl hl.1 rfl (Nat.le_of_ble_eq_true rfl) dX1_cutLetters_85 ⟨Nat.zero_le _, Nat.zero_le _⟩ (fun H locs hP hD hS => ?_)
            have hP : va_P D vwCl ((z, .inr (1, [.ref t, .ref v, .ref th, .ref k, _])) :: (k, .inr (7, [.ref kx, .ref k1, .ref k2, .ref k3, .ref k4, _, _])) :: (k1, .inl (cI, 24, .inl _)) :: (k2, .inl (cI, 24, .inl _)) :: (k3, .inl (cI, 24, .inl _)) :: (k4, .inl (cI, 24, .inl _)) :: (v, .inr (8, [.ref t, .ref vw, .ref vj, _, _])) :: (vw, .inl (cW, 40, .inr (.inr (.inr (.inr _))))) :: (vj, .inl (cJ, 8, .inr (.inr (.inr (.inr _))))) :: (t, .inr (3, [_, .ref fa])) :: (fa, .inl (cI, 32, .inl _)) :: (th, .inr (4, [.ref tb, _])) :: (tb, .inl (cI, 80, .inl _)) :: dy) H := hP
            have hD : va_D A ((z, .inr (1, [.ref t, .ref v, .ref th, .ref k, _])) :: (k, .inr (7, [.ref kx, .ref k1, .ref k2, .ref k3, .ref k4, _, _])) :: (k1, .inl (cI, 24, .inl _)) :: (k2, .inl (cI, 24, .inl _)) :: (k3, .inl (cI, 24, .inl _)) :: (k4, .inl (cI, 24, .inl _)) :: (v, .inr (8, [.ref t, .ref vw, .ref vj, _, _])) :: (vw, .inl (cW, 40, .inr (.inr (.inr (.inr _))))) :: (vj, .inl (cJ, 8, .inr (.inr (.inr (.inr _))))) :: (t, .inr (3, [_, .ref fa])) :: (fa, .inl (cI, 32, .inl _)) :: (th, .inr (4, [.ref tb, _])) :: (tb, .inl (cI, 80, .inl _)) :: dy) := hD
            exact mu_iret X hP hS (by rw [ht]) (by rw [ht]; rfl) dX1_cutLetters_88
        · replace c_24 := bI_n0.mp c_24
          refine lv_iinc (v := (_ : Int32) + 1) (lv' := [(2, _), (0, _), (1, _)]) hx hb dX1_cutLetters_27 hl (k := 2) rfl rfl (by decide) rfl (fun ls hl => ?_)
          refine lv_goto (tgt := 2) hx hb dX1_cutLetters_30 (by decide) ?_
          rw [nI_1] at hl
          exact ih (j + 1) (by omega) (by omega) (by omega) (by rw [← hr, sp_t hlt c_24]) _ _ hP hD hS _ (lv_sub hl [1, 2, 0] rfl)
  exact loop_2 (n + 1) p (by omega) (Nat.le_refl _) (by omega) rfl _ _ hP hD hS ls (lv_sub hl [1, 2, 0] rfl)

set_option maxHeartbeats 1000000 in
set_option maxRecDepth 100000 in
theorem c_X1_cutAt {l : Launch} {D : va_G} {cI cJ cW : ClassId} {sz : Nat} {z t v th k kx k1 k2 k3 k4 tb n : Nat} {L : Nat → Int32} {lg : Int32} {τ : TS} {vw vj nw nj fa ct : Nat} {wf jf : Nat → Option Nat} {fo : Nat → Int32} {dy : va_W} {wa : Nat → Nat → Nat} {wz : Nat → Nat → Int32} {wn : Nat → Nat} {wt : Nat → Nat → Int32} {ja : Nat → Nat → Nat} {jz : Nat → Nat → Int32} {jn : Nat → Nat} {jt : Nat → Nat → Int32} {p : Nat} (hct : ct < 2 ^ 31) (hn : n ≤ 80) (hτ : τ.1 ≤ 24) (hnw : nw ≤ 40) (hwf : ∀ i, i < nw → wf i = some (wa i 0)) (hdw : Dw cI wa wz wn wt nw dy) (hnj : nj ≤ 8) (hjf : ∀ i, i < nj → jf i = some (ja i 0)) (hdj : Dj cI ja jz jn jt nj dy) (hp : p < n) : MU l yX1_cutAt wsX1_cutAt { frames := 5, cells := 0, slots := 0, locals := 110 } D (ty3 cI cJ cW) [.ref z, .int (nI p)] ((z, .inr (1, [.ref t, .ref v, .ref th, .ref k, .int lg])) :: (k, .inr (7, [.ref kx, .ref k1, .ref k2, .ref k3, .ref k4, .int (nI τ.1), .int τ.2.1])) :: (k1, .inl (cI, 24, .inl (τ.2.2 1))) :: (k2, .inl (cI, 24, .inl (τ.2.2 2))) :: (k3, .inl (cI, 24, .inl (τ.2.2 3))) :: (k4, .inl (cI, 24, .inl (τ.2.2 4))) :: (v, .inr (8, [.ref t, .ref vw, .ref vj, .int (nI nw), .int (nI nj)])) :: (vw, .inl (cW, 40, .inr (.inr (.inr (.inr wf))))) :: (vj, .inl (cJ, 8, .inr (.inr (.inr (.inr jf))))) :: (t, .inr (3, [.int (nI ct), .ref fa])) :: (fa, .inl (cI, 32, .inl fo)) :: (th, .inr (4, [.ref tb, .int (nI n)])) :: (tb, .inl (cI, 80, .inl L)) :: dy) sz (some (.int (nI (aTok (foC fo) (fwC ct fo wz wn wt nw L) (fjC ct fo jn jt nj L) (fun j => jz j 1) (fun j => jz j 2) lg n L p τ).1))) ((z, .inr (1, [.ref t, .ref v, .ref th, .ref k, .int lg])) :: (k, .inr (7, [.ref kx, .ref k1, .ref k2, .ref k3, .ref k4, .int (nI (aTok (foC fo) (fwC ct fo wz wn wt nw L) (fjC ct fo jn jt nj L) (fun j => jz j 1) (fun j => jz j 2) lg n L p τ).2.1), .int ((aTok (foC fo) (fwC ct fo wz wn wt nw L) (fjC ct fo jn jt nj L) (fun j => jz j 1) (fun j => jz j 2) lg n L p τ).2.2.1)])) :: (k1, .inl (cI, 24, .inl ((aTok (foC fo) (fwC ct fo wz wn wt nw L) (fjC ct fo jn jt nj L) (fun j => jz j 1) (fun j => jz j 2) lg n L p τ).2.2.2 1))) :: (k2, .inl (cI, 24, .inl ((aTok (foC fo) (fwC ct fo wz wn wt nw L) (fjC ct fo jn jt nj L) (fun j => jz j 1) (fun j => jz j 2) lg n L p τ).2.2.2 2))) :: (k3, .inl (cI, 24, .inl ((aTok (foC fo) (fwC ct fo wz wn wt nw L) (fjC ct fo jn jt nj L) (fun j => jz j 1) (fun j => jz j 2) lg n L p τ).2.2.2 3))) :: (k4, .inl (cI, 24, .inl ((aTok (foC fo) (fwC ct fo wz wn wt nw L) (fjC ct fo jn jt nj L) (fun j => jz j 1) (fun j => jz j 2) lg n L p τ).2.2.2 4))) :: (v, .inr (8, [.ref t, .ref vw, .ref vj, .int (nI nw), .int (nI nj)])) :: (vw, .inl (cW, 40, .inr (.inr (.inr (.inr wf))))) :: (vj, .inl (cJ, 8, .inr (.inr (.inr (.inr jf))))) :: (t, .inr (3, [.int (nI ct), .ref fa])) :: (fa, .inl (cI, 32, .inl fo)) :: (th, .inr (4, [.ref tb, .int (nI n)])) :: (tb, .inl (cI, 80, .inl L)) :: dy) := by
  refine mu_of (cc := cX1_cutAt) (maxL := 3) (ret := (some .int)) (by decide) rfl (Nat.le_of_ble_eq_true rfl) ?_
  intro pr en ss mi below meth cd X hK A hA hP hD hS ls hl
  obtain ⟨hx, hb, hml, hown, hts, hr, hlocks⟩ := id X
  have fl_19 := hts (.fieldLink RX1 19 "WordTables$Cutter" "line" "LWordTables$Row;") (by decide +kernel)
  have in_X1 : ∀ w ∈ wsX10, w ∈ wsX1_cutAt := by decide +kernel
  have hl : lv_has ls 3 [(0, .ref z), (1, .int (nI p))] := hl
  refine lv_aload_n hx hb dX1_cutAt_0 rfl (lv_at hl 0 rfl) ?_
  refine va_get (D := D) (ci := 1) (C := RX1) (T := TX1) (N := 5) hx hb hts in_X1 hown hK hP 0 rfl rfl 2 (by decide) fl_19 (fun _ h9 => h9) rfl dX1_cutAt_1 ?_
  refine lv_iload_n hx hb dX1_cutAt_4 rfl (lv_at hl 1 rfl) ?_
  refine ro_V (n := 1) X hK (c_X4_byteAt (by decide)) gX1_cutAt_X4_byteAt rfl (by decide +kernel) ⟨rfl, rfl⟩ ⟨Nat.le_of_ble_eq_true rfl, Nat.le_of_ble_eq_true rfl⟩ (hP.sub [11, 12] rfl) (va_recv hK hP (ci := 4) (q0 := 11) rfl rfl) rfl hl.1 rfl (Nat.le_of_ble_eq_true rfl) dX1_cutAt_5 ⟨Nat.zero_le _, Nat.zero_le _⟩ ?_
  rw [rowAt_lt hp (by omega) (by omega) (by decide)]
  refine lv_istore_n (lv' := [(2, _), (0, _), (1, _)]) hx hb dX1_cutAt_8 rfl hl (by decide) rfl (fun ls hl => ?_)
  refine lv_iload_n hx hb dX1_cutAt_9 rfl (lv_at hl 0 rfl) ?_
  refine lv_bipush (v := 32) hx hb dX1_cutAt_10 (by decide) ?_
  refine lv_icmp_ne (tgt := 19) hx hb dX1_cutAt_12 (by decide) (fun c_12 => ?_) (fun c_12 => ?_)
  · refine lv_iload_n hx hb dX1_cutAt_19 rfl (lv_at hl 0 rfl) ?_
    refine ro_S (n := 1) X hK (c_X3_isLetter) gX1_cutAt_X3_isLetter rfl (by decide +kernel) ⟨rfl, rfl⟩ ⟨Nat.le_of_ble_eq_true rfl, Nat.le_of_ble_eq_true rfl⟩ (hP.sub [] rfl) rfl hl.1 rfl (Nat.le_of_ble_eq_true rfl) dX1_cutAt_20 ⟨Nat.zero_le _, Nat.zero_le _⟩ ?_
    refine lv_if_eq (tgt := 32) hx hb dX1_cutAt_23 (by decide) (fun c_23 => ?_) (fun c_23 => ?_)
    · replace c_23 := bI_0.mp c_23
      refine lv_iload_n hx hb dX1_cutAt_32 rfl (lv_at hl 0 rfl) ?_
      refine ro_S (n := 1) X hK (c_X1_isDigit) gX1_cutAt_X1_isDigit rfl (by decide +kernel) ⟨rfl, rfl⟩ ⟨Nat.le_of_ble_eq_true rfl, Nat.le_of_ble_eq_true rfl⟩ (hP.sub [] rfl) rfl hl.1 rfl (Nat.le_of_ble_eq_true rfl) dX1_cutAt_33 ⟨Nat.zero_le _, Nat.zero_le _⟩ ?_
      refine lv_if_eq (tgt := 45) hx hb dX1_cutAt_36 (by decide) (fun c_36 => ?_) (fun c_36 => ?_)
      · replace c_36 := bI_0.mp c_36
        refine lv_iload_n hx hb dX1_cutAt_45 rfl (lv_at hl 0 rfl) ?_
        refine lv_bipush (v := 34) hx hb dX1_cutAt_46 (by decide) ?_
        refine lv_icmp_ne (tgt := 57) hx hb dX1_cutAt_48 (by decide) (fun c_48 => ?_) (fun c_48 => ?_)
        · refine lv_iload_n hx hb dX1_cutAt_57 rfl (lv_at hl 0 rfl) ?_
          refine ro_S (n := 1) X hK (c_X1_isMark) gX1_cutAt_X1_isMark rfl (by decide +kernel) ⟨rfl, rfl⟩ ⟨Nat.le_of_ble_eq_true rfl, Nat.le_of_ble_eq_true rfl⟩ (hP.sub [] rfl) rfl hl.1 rfl (Nat.le_of_ble_eq_true rfl) dX1_cutAt_58 ⟨Nat.zero_le _, Nat.zero_le _⟩ ?_
          refine lv_if_eq (tgt := 77) hx hb dX1_cutAt_61 (by decide) (fun c_61 => ?_) (fun c_61 => ?_)
          · replace c_61 := bI_0.mp c_61
            have ht : aTok (foC fo) (fwC ct fo wz wn wt nw L) (fjC ct fo jn jt nj L) (fun j => jz j 1) (fun j => jz j 2) lg n L p τ = oTok n L p τ := by unfold aTok; rw [if_neg c_12, if_neg (by rw [c_23]; decide), if_neg (by rw [c_36]; decide), if_neg c_48, if_neg (by rw [c_61]; decide)]
            refine lv_aload_n hx hb dX1_cutAt_77 rfl (lv_at hl 1 rfl) ?_
            refine lv_iload_n hx hb dX1_cutAt_78 rfl (lv_at hl 2 rfl) ?_
            refine mu_V (n := 1) X hK (c_X1_cutOther hn hτ hp) gX1_cutAt_X1_cutOther rfl (by decide +kernel) ⟨rfl, rfl⟩ ⟨Nat.le_of_ble_eq_true rfl, Nat.le_of_ble_eq_true rfl⟩ [0, 1, 2, 3, 4, 5, 11, 12] rfl rfl rfl rfl hA hP hD hS (va_recv hK hP (ci := 1) (q0 := 0) rfl rfl) rfl hl.1 rfl (Nat.le_of_ble_eq_true rfl) dX1_cutAt_79 ⟨Nat.zero_le _, Nat.zero_le _⟩ (fun H locs hP hD hS => ?_)
            have hP : va_P D vwCl ((z, .inr (1, [.ref t, .ref v, .ref th, .ref k, _])) :: (k, .inr (7, [.ref kx, .ref k1, .ref k2, .ref k3, .ref k4, _, _])) :: (k1, .inl (cI, 24, .inl _)) :: (k2, .inl (cI, 24, .inl _)) :: (k3, .inl (cI, 24, .inl _)) :: (k4, .inl (cI, 24, .inl _)) :: (v, .inr (8, [.ref t, .ref vw, .ref vj, _, _])) :: (vw, .inl (cW, 40, .inr (.inr (.inr (.inr _))))) :: (vj, .inl (cJ, 8, .inr (.inr (.inr (.inr _))))) :: (t, .inr (3, [_, .ref fa])) :: (fa, .inl (cI, 32, .inl _)) :: (th, .inr (4, [.ref tb, _])) :: (tb, .inl (cI, 80, .inl _)) :: dy) H := hP
            have hD : va_D A ((z, .inr (1, [.ref t, .ref v, .ref th, .ref k, _])) :: (k, .inr (7, [.ref kx, .ref k1, .ref k2, .ref k3, .ref k4, _, _])) :: (k1, .inl (cI, 24, .inl _)) :: (k2, .inl (cI, 24, .inl _)) :: (k3, .inl (cI, 24, .inl _)) :: (k4, .inl (cI, 24, .inl _)) :: (v, .inr (8, [.ref t, .ref vw, .ref vj, _, _])) :: (vw, .inl (cW, 40, .inr (.inr (.inr (.inr _))))) :: (vj, .inl (cJ, 8, .inr (.inr (.inr (.inr _))))) :: (t, .inr (3, [_, .ref fa])) :: (fa, .inl (cI, 32, .inl _)) :: (th, .inr (4, [.ref tb, _])) :: (tb, .inl (cI, 80, .inl _)) :: dy) := hD
            exact mu_iret X hP hS (by rw [ht]) (by rw [ht]) dX1_cutAt_82
          · replace c_61 := bI_n0.mp c_61
            have ht : aTok (foC fo) (fwC ct fo wz wn wt nw L) (fjC ct fo jn jt nj L) (fun j => jz j 1) (fun j => jz j 2) lg n L p τ = (p + 1, ad4 τ 5 (nI p) (nI (p + 1 - p)) (L p)) := by unfold aTok; rw [if_neg c_12, if_neg (by rw [c_23]; decide), if_neg (by rw [c_36]; decide), if_neg c_48, if_pos c_61, show p + 1 - p = 1 by omega]
            refine lv_aload_n hx hb dX1_cutAt_64 rfl (lv_at hl 1 rfl) ?_
            refine lv_iload_n hx hb dX1_cutAt_65 rfl (lv_at hl 2 rfl) ?_
            refine lv_iconst (v := 1) hx hb dX1_cutAt_66 (by decide) ?_
            refine lv_iadd hx hb dX1_cutAt_67 ?_
            refine topi_eq (nI_1 p) ?_
            refine lv_iconst (v := 5) hx hb dX1_cutAt_68 (by decide) ?_
            refine lv_iload_n hx hb dX1_cutAt_69 rfl (lv_at hl 2 rfl) ?_
            refine lv_iload_n hx hb dX1_cutAt_70 rfl (lv_at hl 0 rfl) ?_
            refine mu_V (n := 4) X hK (c_X1_addUpTo hτ (by omega)) gX1_cutAt_X1_addUpTo rfl (by decide +kernel) ⟨rfl, rfl⟩ ⟨Nat.le_of_ble_eq_true rfl, Nat.le_of_ble_eq_true rfl⟩ [0, 1, 2, 3, 4, 5] rfl rfl rfl rfl hA hP hD hS (va_recv hK hP (ci := 1) (q0 := 0) rfl rfl) rfl hl.1 rfl (Nat.le_of_ble_eq_true rfl) dX1_cutAt_71 ⟨Nat.zero_le _, Nat.zero_le _⟩ (fun H locs hP hD hS => ?_)
            have hP : va_P D vwCl ((z, .inr (1, [.ref t, .ref v, .ref th, .ref k, _])) :: (k, .inr (7, [.ref kx, .ref k1, .ref k2, .ref k3, .ref k4, _, _])) :: (k1, .inl (cI, 24, .inl _)) :: (k2, .inl (cI, 24, .inl _)) :: (k3, .inl (cI, 24, .inl _)) :: (k4, .inl (cI, 24, .inl _)) :: (v, .inr (8, [.ref t, .ref vw, .ref vj, _, _])) :: (vw, .inl (cW, 40, .inr (.inr (.inr (.inr _))))) :: (vj, .inl (cJ, 8, .inr (.inr (.inr (.inr _))))) :: (t, .inr (3, [_, .ref fa])) :: (fa, .inl (cI, 32, .inl _)) :: (th, .inr (4, [.ref tb, _])) :: (tb, .inl (cI, 80, .inl _)) :: dy) H := hP
            have hD : va_D A ((z, .inr (1, [.ref t, .ref v, .ref th, .ref k, _])) :: (k, .inr (7, [.ref kx, .ref k1, .ref k2, .ref k3, .ref k4, _, _])) :: (k1, .inl (cI, 24, .inl _)) :: (k2, .inl (cI, 24, .inl _)) :: (k3, .inl (cI, 24, .inl _)) :: (k4, .inl (cI, 24, .inl _)) :: (v, .inr (8, [.ref t, .ref vw, .ref vj, _, _])) :: (vw, .inl (cW, 40, .inr (.inr (.inr (.inr _))))) :: (vj, .inl (cJ, 8, .inr (.inr (.inr (.inr _))))) :: (t, .inr (3, [_, .ref fa])) :: (fa, .inl (cI, 32, .inl _)) :: (th, .inr (4, [.ref tb, _])) :: (tb, .inl (cI, 80, .inl _)) :: dy) := hD
            refine lv_goto (tgt := 82) hx hb dX1_cutAt_74 (by decide) ?_
            exact mu_iret X hP hS (by rw [ht]) (by rw [ht]) dX1_cutAt_82
        · have ht : aTok (foC fo) (fwC ct fo wz wn wt nw L) (fjC ct fo jn jt nj L) (fun j => jz j 1) (fun j => jz j 2) lg n L p τ = qTok n L p τ := by unfold aTok; rw [if_neg c_12, if_neg (by rw [c_23]; decide), if_neg (by rw [c_36]; decide), if_pos c_48]
          refine lv_aload_n hx hb dX1_cutAt_51 rfl (lv_at hl 1 rfl) ?_
          refine lv_iload_n hx hb dX1_cutAt_52 rfl (lv_at hl 2 rfl) ?_
          refine mu_V (n := 1) X hK (c_X1_cutQuoted hn hτ hp) gX1_cutAt_X1_cutQuoted rfl (by decide +kernel) ⟨rfl, rfl⟩ ⟨Nat.le_of_ble_eq_true rfl, Nat.le_of_ble_eq_true rfl⟩ [0, 1, 2, 3, 4, 5, 11, 12] rfl rfl rfl rfl hA hP hD hS (va_recv hK hP (ci := 1) (q0 := 0) rfl rfl) rfl hl.1 rfl (Nat.le_of_ble_eq_true rfl) dX1_cutAt_53 ⟨Nat.zero_le _, Nat.zero_le _⟩ (fun H locs hP hD hS => ?_)
          have hP : va_P D vwCl ((z, .inr (1, [.ref t, .ref v, .ref th, .ref k, _])) :: (k, .inr (7, [.ref kx, .ref k1, .ref k2, .ref k3, .ref k4, _, _])) :: (k1, .inl (cI, 24, .inl _)) :: (k2, .inl (cI, 24, .inl _)) :: (k3, .inl (cI, 24, .inl _)) :: (k4, .inl (cI, 24, .inl _)) :: (v, .inr (8, [.ref t, .ref vw, .ref vj, _, _])) :: (vw, .inl (cW, 40, .inr (.inr (.inr (.inr _))))) :: (vj, .inl (cJ, 8, .inr (.inr (.inr (.inr _))))) :: (t, .inr (3, [_, .ref fa])) :: (fa, .inl (cI, 32, .inl _)) :: (th, .inr (4, [.ref tb, _])) :: (tb, .inl (cI, 80, .inl _)) :: dy) H := hP
          have hD : va_D A ((z, .inr (1, [.ref t, .ref v, .ref th, .ref k, _])) :: (k, .inr (7, [.ref kx, .ref k1, .ref k2, .ref k3, .ref k4, _, _])) :: (k1, .inl (cI, 24, .inl _)) :: (k2, .inl (cI, 24, .inl _)) :: (k3, .inl (cI, 24, .inl _)) :: (k4, .inl (cI, 24, .inl _)) :: (v, .inr (8, [.ref t, .ref vw, .ref vj, _, _])) :: (vw, .inl (cW, 40, .inr (.inr (.inr (.inr _))))) :: (vj, .inl (cJ, 8, .inr (.inr (.inr (.inr _))))) :: (t, .inr (3, [_, .ref fa])) :: (fa, .inl (cI, 32, .inl _)) :: (th, .inr (4, [.ref tb, _])) :: (tb, .inl (cI, 80, .inl _)) :: dy) := hD
          exact mu_iret X hP hS (by rw [ht]) (by rw [ht]) dX1_cutAt_56
      · replace c_36 := bI_n0.mp c_36
        have ht : aTok (foC fo) (fwC ct fo wz wn wt nw L) (fjC ct fo jn jt nj L) (fun j => jz j 1) (fun j => jz j 2) lg n L p τ = dTok (foC fo) n L p τ := by unfold aTok; rw [if_neg c_12, if_neg (by rw [c_23]; decide), if_pos c_36]
        refine lv_aload_n hx hb dX1_cutAt_39 rfl (lv_at hl 1 rfl) ?_
        refine lv_iload_n hx hb dX1_cutAt_40 rfl (lv_at hl 2 rfl) ?_
        refine mu_V (n := 1) X hK (c_X1_cutDigits hn hτ hp) gX1_cutAt_X1_cutDigits rfl (by decide +kernel) ⟨rfl, rfl⟩ ⟨Nat.le_of_ble_eq_true rfl, Nat.le_of_ble_eq_true rfl⟩ [0, 1, 2, 3, 4, 5, 11, 12, 9, 10] rfl rfl rfl rfl hA hP hD hS (va_recv hK hP (ci := 1) (q0 := 0) rfl rfl) rfl hl.1 rfl (Nat.le_of_ble_eq_true rfl) dX1_cutAt_41 ⟨Nat.zero_le _, Nat.zero_le _⟩ (fun H locs hP hD hS => ?_)
        have hP : va_P D vwCl ((z, .inr (1, [.ref t, .ref v, .ref th, .ref k, _])) :: (k, .inr (7, [.ref kx, .ref k1, .ref k2, .ref k3, .ref k4, _, _])) :: (k1, .inl (cI, 24, .inl _)) :: (k2, .inl (cI, 24, .inl _)) :: (k3, .inl (cI, 24, .inl _)) :: (k4, .inl (cI, 24, .inl _)) :: (v, .inr (8, [.ref t, .ref vw, .ref vj, _, _])) :: (vw, .inl (cW, 40, .inr (.inr (.inr (.inr _))))) :: (vj, .inl (cJ, 8, .inr (.inr (.inr (.inr _))))) :: (t, .inr (3, [_, .ref fa])) :: (fa, .inl (cI, 32, .inl _)) :: (th, .inr (4, [.ref tb, _])) :: (tb, .inl (cI, 80, .inl _)) :: dy) H := hP
        have hD : va_D A ((z, .inr (1, [.ref t, .ref v, .ref th, .ref k, _])) :: (k, .inr (7, [.ref kx, .ref k1, .ref k2, .ref k3, .ref k4, _, _])) :: (k1, .inl (cI, 24, .inl _)) :: (k2, .inl (cI, 24, .inl _)) :: (k3, .inl (cI, 24, .inl _)) :: (k4, .inl (cI, 24, .inl _)) :: (v, .inr (8, [.ref t, .ref vw, .ref vj, _, _])) :: (vw, .inl (cW, 40, .inr (.inr (.inr (.inr _))))) :: (vj, .inl (cJ, 8, .inr (.inr (.inr (.inr _))))) :: (t, .inr (3, [_, .ref fa])) :: (fa, .inl (cI, 32, .inl _)) :: (th, .inr (4, [.ref tb, _])) :: (tb, .inl (cI, 80, .inl _)) :: dy) := hD
        exact mu_iret X hP hS (by rw [ht]) (by rw [ht]) dX1_cutAt_44
    · replace c_23 := bI_n0.mp c_23
      have ht : aTok (foC fo) (fwC ct fo wz wn wt nw L) (fjC ct fo jn jt nj L) (fun j => jz j 1) (fun j => jz j 2) lg n L p τ = lTok (fwC ct fo wz wn wt nw L) (fjC ct fo jn jt nj L) (fun j => jz j 1) (fun j => jz j 2) lg n L p τ := by unfold aTok; rw [if_neg c_12, if_pos c_23]
      refine lv_aload_n hx hb dX1_cutAt_26 rfl (lv_at hl 1 rfl) ?_
      refine lv_iload_n hx hb dX1_cutAt_27 rfl (lv_at hl 2 rfl) ?_
      refine mu_VT (n := 1) (dy := dy) [_, _, _, _, _, _, _, _, _, _, _, _, _] [_, _, _, _, _, _, _, _, _, _, _, _, _] [_, _, _, _, _, _, _, _, _, _, _, _, _] X hK (c_X1_cutLetters hct hn hτ hnw hwf hdw hnj hjf hdj hp) gX1_cutAt_X1_cutLetters rfl (by decide +kernel) ⟨rfl, rfl⟩ ⟨Nat.le_of_ble_eq_true rfl, Nat.le_of_ble_eq_true rfl⟩ [0, 1, 2, 3, 4, 5, 6, 7, 8, 9, 10, 11, 12] rfl rfl rfl rfl hA hP hD hS (va_recv hK hP (ci := 1) (q0 := 0) rfl rfl) rfl hl.1 rfl (Nat.le_of_ble_eq_true rfl) dX1_cutAt_28 ⟨Nat.zero_le _, Nat.zero_le _⟩ (fun H locs hP hD hS => ?_)
      have hP : va_P D vwCl ((z, .inr (1, [.ref t, .ref v, .ref th, .ref k, _])) :: (k, .inr (7, [.ref kx, .ref k1, .ref k2, .ref k3, .ref k4, _, _])) :: (k1, .inl (cI, 24, .inl _)) :: (k2, .inl (cI, 24, .inl _)) :: (k3, .inl (cI, 24, .inl _)) :: (k4, .inl (cI, 24, .inl _)) :: (v, .inr (8, [.ref t, .ref vw, .ref vj, _, _])) :: (vw, .inl (cW, 40, .inr (.inr (.inr (.inr _))))) :: (vj, .inl (cJ, 8, .inr (.inr (.inr (.inr _))))) :: (t, .inr (3, [_, .ref fa])) :: (fa, .inl (cI, 32, .inl _)) :: (th, .inr (4, [.ref tb, _])) :: (tb, .inl (cI, 80, .inl _)) :: dy) H := hP
      have hD : va_D A ((z, .inr (1, [.ref t, .ref v, .ref th, .ref k, _])) :: (k, .inr (7, [.ref kx, .ref k1, .ref k2, .ref k3, .ref k4, _, _])) :: (k1, .inl (cI, 24, .inl _)) :: (k2, .inl (cI, 24, .inl _)) :: (k3, .inl (cI, 24, .inl _)) :: (k4, .inl (cI, 24, .inl _)) :: (v, .inr (8, [.ref t, .ref vw, .ref vj, _, _])) :: (vw, .inl (cW, 40, .inr (.inr (.inr (.inr _))))) :: (vj, .inl (cJ, 8, .inr (.inr (.inr (.inr _))))) :: (t, .inr (3, [_, .ref fa])) :: (fa, .inl (cI, 32, .inl _)) :: (th, .inr (4, [.ref tb, _])) :: (tb, .inl (cI, 80, .inl _)) :: dy) := hD
      exact mu_iret X hP hS (by rw [ht]) (by rw [ht]) dX1_cutAt_31
  · have ht : aTok (foC fo) (fwC ct fo wz wn wt nw L) (fjC ct fo jn jt nj L) (fun j => jz j 1) (fun j => jz j 2) lg n L p τ = (p + 1, τ) := by unfold aTok; rw [if_pos c_12]
    refine lv_iload_n hx hb dX1_cutAt_15 rfl (lv_at hl 2 rfl) ?_
    refine lv_iconst (v := 1) hx hb dX1_cutAt_16 (by decide) ?_
    refine lv_iadd hx hb dX1_cutAt_17 ?_
    refine topi_eq (nI_1 p) ?_
    exact mu_iret X hP hS (by rw [ht]) (by rw [ht]) dX1_cutAt_18

theorem aTok_gt {fo : Int32 → Int32} {fw : Int32 → Nat → Nat → Option Nat} {fj : Nat → Nat → Option Nat} {j1 j2 : Nat → Int32} {lg : Int32} {n : Nat} {L : Nat → Int32} {p : Nat} {τ : TS} (hfo : ¬ fo (-1) = 109) (hp : p < n) : p < (aTok fo fw fj j1 j2 lg n L p τ).1 ∧ (aTok fo fw fj j1 j2 lg n L p τ).1 ≤ n := by
  unfold aTok
  split
  · exact ⟨Nat.lt_succ_self _, hp⟩
  split
  · rename_i h1
    have a1 := sp_t hp h1
    have a2 := sp_le (P := isLe) (L := L) (n := n) (k := p + 1)
    have a3 := sp_n (P := isLe) (L := L) (n := n) (k := p) (by omega)
    have : (lTok fw fj j1 j2 lg n L p τ).1 = sp isLe L n p := by
      simp only [lTok]; split
      · rfl
      · split
        · rfl
        · split <;> rfl
    omega
  split
  · rename_i h1
    have a1 := sp_t hp h1
    have a2 := sp_le (P := isDi) (L := L) (n := n) (k := p + 1)
    have a3 := sp_n (P := isDi) (L := L) (n := n) (k := p) (by omega)
    simp only [dTok]
    split
    · rename_i h2
      have h3 := (tm_sp h2).2
      simp only [tTok]
      split
      · rename_i h4
        have h5 := h4.2.2
        simp only [hdB, Bool.and_eq_true, decide_eq_true_eq] at h5
        have h6 := h5.1.2
        have : sp isDi L n p + 3 + 1 < n := by
          rcases Nat.lt_or_ge (sp isDi L n p + 3 + 1) n with q | q
          · exact q
          · rw [bt, if_neg (by omega)] at h6; exact absurd h6 hfo
        show p < sp isDi L n p + 5 ∧ sp isDi L n p + 5 ≤ n
        omega
      · show p < sp isDi L n p + 3 ∧ sp isDi L n p + 3 ≤ n
        omega
    · split <;> exact ⟨by show p < sp isDi L n p; omega, a3⟩
  split
  · have a2 := sp_le (P := nQu) (L := L) (n := n) (k := p + 1)
    have a3 := sp_n (P := nQu) (L := L) (n := n) (k := p + 1) (by omega)
    simp only [qTok]
    split
    · exact ⟨by show p < sp nQu L n (p + 1); omega, a3⟩
    · exact ⟨by show p < sp nQu L n (p + 1) + 1; omega, by show sp nQu L n (p + 1) + 1 ≤ n; omega⟩
  split
  · exact ⟨Nat.lt_succ_self _, hp⟩
  · have a2 := sp_le (P := isOt) (L := L) (n := n) (k := p + 1)
    have a3 := sp_n (P := isOt) (L := L) (n := n) (k := p + 1) (by omega)
    exact ⟨by show p < sp isOt L n (p + 1); omega, a3⟩
theorem foC_m1 (fo : Nat → Int32) : ¬ foC fo (-1) = 109 := by simp [foC, foB]

set_option maxHeartbeats 1000000 in
set_option maxRecDepth 100000 in
theorem c_X1_cutLine {l : Launch} {D : va_G} {cI cJ cW : ClassId} {sz : Nat} {z t v th k kx k1 k2 k3 k4 tb n : Nat} {L : Nat → Int32} {lg : Int32} {vw vj nw nj fa ct : Nat} {wf jf : Nat → Option Nat} {fo : Nat → Int32} {dy : va_W} {wa : Nat → Nat → Nat} {wz : Nat → Nat → Int32} {wn : Nat → Nat} {wt : Nat → Nat → Int32} {ja : Nat → Nat → Nat} {jz : Nat → Nat → Int32} {jn : Nat → Nat} {jt : Nat → Nat → Int32} {xb : Nat} {iv : Value} {lg0 tn0 tm0 xn : Int32} {xf : Nat → Int32} {T : Nat → Nat → Int32} (hct : ct < 2 ^ 31) (hn : n ≤ 80) (hnw : nw ≤ 40) (hwf : ∀ i, i < nw → wf i = some (wa i 0)) (hdw : Dw cI wa wz wn wt nw dy) (hnj : nj ≤ 8) (hjf : ∀ i, i < nj → jf i = some (ja i 0)) (hdj : Dj cI ja jz jn jt nj dy) : MU l yX1_cutLine wsX1_cutLine { frames := 6, cells := 0, slots := 0, locals := 132 } D (ty3 cI cJ cW) [.ref z, .int lg, .ref k] ((z, .inr (1, [.ref t, .ref v, .ref th, iv, .int lg0])) :: (k, .inr (7, [.ref kx, .ref k1, .ref k2, .ref k3, .ref k4, .int tn0, .int tm0])) :: (k1, .inl (cI, 24, .inl (T 1))) :: (k2, .inl (cI, 24, .inl (T 2))) :: (k3, .inl (cI, 24, .inl (T 3))) :: (k4, .inl (cI, 24, .inl (T 4))) :: (kx, .inr (4, [.ref xb, .int xn])) :: (xb, .inl (cI, 80, .inl xf)) :: (v, .inr (8, [.ref t, .ref vw, .ref vj, .int (nI nw), .int (nI nj)])) :: (vw, .inl (cW, 40, .inr (.inr (.inr (.inr wf))))) :: (vj, .inl (cJ, 8, .inr (.inr (.inr (.inr jf))))) :: (t, .inr (3, [.int (nI ct), .ref fa])) :: (fa, .inl (cI, 32, .inl fo)) :: (th, .inr (4, [.ref tb, .int (nI n)])) :: (tb, .inl (cI, 80, .inl L)) :: dy) sz (some (.int (bI (decide ((cutL (foC fo) (fwC ct fo wz wn wt nw L) (fjC ct fo jn jt nj L) (fun j => jz j 1) (fun j => jz j 2) lg n L 80 0 (0, 0, T)).2.1 = 0))))) ((z, .inr (1, [.ref t, .ref v, .ref th, .ref k, .int lg])) :: (k, .inr (7, [.ref kx, .ref k1, .ref k2, .ref k3, .ref k4, .int (nI (cutL (foC fo) (fwC ct fo wz wn wt nw L) (fjC ct fo jn jt nj L) (fun j => jz j 1) (fun j => jz j 2) lg n L 80 0 (0, 0, T)).1), .int ((cutL (foC fo) (fwC ct fo wz wn wt nw L) (fjC ct fo jn jt nj L) (fun j => jz j 1) (fun j => jz j 2) lg n L 80 0 (0, 0, T)).2.1)])) :: (k1, .inl (cI, 24, .inl ((cutL (foC fo) (fwC ct fo wz wn wt nw L) (fjC ct fo jn jt nj L) (fun j => jz j 1) (fun j => jz j 2) lg n L 80 0 (0, 0, T)).2.2 1))) :: (k2, .inl (cI, 24, .inl ((cutL (foC fo) (fwC ct fo wz wn wt nw L) (fjC ct fo jn jt nj L) (fun j => jz j 1) (fun j => jz j 2) lg n L 80 0 (0, 0, T)).2.2 2))) :: (k3, .inl (cI, 24, .inl ((cutL (foC fo) (fwC ct fo wz wn wt nw L) (fjC ct fo jn jt nj L) (fun j => jz j 1) (fun j => jz j 2) lg n L 80 0 (0, 0, T)).2.2 3))) :: (k4, .inl (cI, 24, .inl ((cutL (foC fo) (fwC ct fo wz wn wt nw L) (fjC ct fo jn jt nj L) (fun j => jz j 1) (fun j => jz j 2) lg n L 80 0 (0, 0, T)).2.2 4))) :: (kx, .inr (4, [.ref xb, .int (nI n)])) :: (xb, .inl (cI, 80, .inl (cpF xf L n))) :: (v, .inr (8, [.ref t, .ref vw, .ref vj, .int (nI nw), .int (nI nj)])) :: (vw, .inl (cW, 40, .inr (.inr (.inr (.inr wf))))) :: (vj, .inl (cJ, 8, .inr (.inr (.inr (.inr jf))))) :: (t, .inr (3, [.int (nI ct), .ref fa])) :: (fa, .inl (cI, 32, .inl fo)) :: (th, .inr (4, [.ref tb, .int (nI n)])) :: (tb, .inl (cI, 80, .inl L)) :: dy) := by
  refine mu_of (cc := cX1_cutLine) (maxL := 5) (ret := (some .boolean)) (by decide) rfl (Nat.le_of_ble_eq_true rfl) ?_
  intro pr en ss mi below meth cd X hK A hA hP hD hS ls hl
  obtain ⟨hx, hb, hml, hown, hts, hr, hlocks⟩ := id X
  have fl_19 := hts (.fieldLink RX1 19 "WordTables$Cutter" "line" "LWordTables$Row;") (by decide +kernel)
  have fl_23 := hts (.fieldLink RX1 23 "WordTables$Cutter" "language" "I") (by decide +kernel)
  have fl_27 := hts (.fieldLink RX1 27 "WordTables$Cutter" "into" "LWordTables$Tokens;") (by decide +kernel)
  have fl_37 := hts (.fieldLink RX1 37 "WordTables$Row" "count" "I") (by decide +kernel)
  have fl_46 := hts (.fieldLink RX1 46 "WordTables$Tokens" "tooMany" "Z") (by decide +kernel)
  have in_X1 : ∀ w ∈ wsX10, w ∈ wsX1_cutLine := by decide +kernel
  have in_X4 : ∀ w ∈ wsX40, w ∈ wsX1_cutLine := by decide +kernel
  have in_X7 : ∀ w ∈ wsX70, w ∈ wsX1_cutLine := by decide +kernel
  have hl : lv_has ls 5 [(0, .ref z), (1, .int lg), (2, .ref k)] := hl
  refine lv_aload_n hx hb dX1_cutLine_0 rfl (lv_at hl 0 rfl) ?_
  refine lv_iload_n hx hb dX1_cutLine_1 rfl (lv_at hl 1 rfl) ?_
  refine va_put (D := D) (ci := 1) (ty := .int) (C := RX1) (T := TX1) (N := 5) hx hb hts in_X1 tyX1 tyX1_ok nmX1 hown hK hP hD hS 0 rfl rfl 4 (by decide) fl_23 (fun _ h9 => h9) rfl (by decide +kernel) rfl rfl (Nat.le_of_ble_eq_true rfl) dX1_cutLine_2 (fun H locs hP hD hS => ?_)
  have hP : va_P D vwCl ((z, .inr (1, [.ref t, .ref v, .ref th, _, _])) :: (k, .inr (7, [.ref kx, .ref k1, .ref k2, .ref k3, .ref k4, _, _])) :: (k1, .inl (cI, 24, .inl _)) :: (k2, .inl (cI, 24, .inl _)) :: (k3, .inl (cI, 24, .inl _)) :: (k4, .inl (cI, 24, .inl _)) :: (kx, .inr (4, [.ref xb, _])) :: (xb, .inl (cI, 80, .inl _)) :: (v, .inr (8, [.ref t, .ref vw, .ref vj, _, _])) :: (vw, .inl (cW, 40, .inr (.inr (.inr (.inr _))))) :: (vj, .inl (cJ, 8, .inr (.inr (.inr (.inr _))))) :: (t, .inr (3, [_, .ref fa])) :: (fa, .inl (cI, 32, .inl _)) :: (th, .inr (4, [.ref tb, _])) :: (tb, .inl (cI, 80, .inl _)) :: dy) H := hP
  have hD : va_D A ((z, .inr (1, [.ref t, .ref v, .ref th, _, _])) :: (k, .inr (7, [.ref kx, .ref k1, .ref k2, .ref k3, .ref k4, _, _])) :: (k1, .inl (cI, 24, .inl _)) :: (k2, .inl (cI, 24, .inl _)) :: (k3, .inl (cI, 24, .inl _)) :: (k4, .inl (cI, 24, .inl _)) :: (kx, .inr (4, [.ref xb, _])) :: (xb, .inl (cI, 80, .inl _)) :: (v, .inr (8, [.ref t, .ref vw, .ref vj, _, _])) :: (vw, .inl (cW, 40, .inr (.inr (.inr (.inr _))))) :: (vj, .inl (cJ, 8, .inr (.inr (.inr (.inr _))))) :: (t, .inr (3, [_, .ref fa])) :: (fa, .inl (cI, 32, .inl _)) :: (th, .inr (4, [.ref tb, _])) :: (tb, .inl (cI, 80, .inl _)) :: dy) := hD
  refine lv_aload_n hx hb dX1_cutLine_5 rfl (lv_at hl 0 rfl) ?_
  refine lv_aload_n hx hb dX1_cutLine_6 rfl (lv_at hl 2 rfl) ?_
  refine va_put (D := D) (ci := 1) (ty := .object "WordTables$Tokens") (C := RX1) (T := TX1) (N := 5) hx hb hts in_X1 tyX1 tyX1_ok nmX1 hown hK hP hD hS 0 rfl rfl 3 (by decide) fl_27 (fun _ h9 => h9) rfl (by decide +kernel) rfl rfl (Nat.le_of_ble_eq_true rfl) dX1_cutLine_7 (fun H locs hP hD hS => ?_)
  have hP : va_P D vwCl ((z, .inr (1, [.ref t, .ref v, .ref th, .ref k, _])) :: (k, .inr (7, [.ref kx, .ref k1, .ref k2, .ref k3, .ref k4, _, _])) :: (k1, .inl (cI, 24, .inl _)) :: (k2, .inl (cI, 24, .inl _)) :: (k3, .inl (cI, 24, .inl _)) :: (k4, .inl (cI, 24, .inl _)) :: (kx, .inr (4, [.ref xb, _])) :: (xb, .inl (cI, 80, .inl _)) :: (v, .inr (8, [.ref t, .ref vw, .ref vj, _, _])) :: (vw, .inl (cW, 40, .inr (.inr (.inr (.inr _))))) :: (vj, .inl (cJ, 8, .inr (.inr (.inr (.inr _))))) :: (t, .inr (3, [_, .ref fa])) :: (fa, .inl (cI, 32, .inl _)) :: (th, .inr (4, [.ref tb, _])) :: (tb, .inl (cI, 80, .inl _)) :: dy) H := hP
  have hD : va_D A ((z, .inr (1, [.ref t, .ref v, .ref th, .ref k, _])) :: (k, .inr (7, [.ref kx, .ref k1, .ref k2, .ref k3, .ref k4, _, _])) :: (k1, .inl (cI, 24, .inl _)) :: (k2, .inl (cI, 24, .inl _)) :: (k3, .inl (cI, 24, .inl _)) :: (k4, .inl (cI, 24, .inl _)) :: (kx, .inr (4, [.ref xb, _])) :: (xb, .inl (cI, 80, .inl _)) :: (v, .inr (8, [.ref t, .ref vw, .ref vj, _, _])) :: (vw, .inl (cW, 40, .inr (.inr (.inr (.inr _))))) :: (vj, .inl (cJ, 8, .inr (.inr (.inr (.inr _))))) :: (t, .inr (3, [_, .ref fa])) :: (fa, .inl (cI, 32, .inl _)) :: (th, .inr (4, [.ref tb, _])) :: (tb, .inl (cI, 80, .inl _)) :: dy) := hD
  refine lv_aload_n hx hb dX1_cutLine_10 rfl (lv_at hl 2 rfl) ?_
  refine lv_aload_n hx hb dX1_cutLine_11 rfl (lv_at hl 0 rfl) ?_
  refine va_get (D := D) (ci := 1) (C := RX1) (T := TX1) (N := 5) hx hb hts in_X1 hown hK hP 0 rfl rfl 2 (by decide) fl_19 (fun _ h9 => h9) rfl dX1_cutLine_12 ?_
  refine mu_V (n := 1) X hK (c_X7_startOn (by decide) hn hn) gX1_cutLine_X7_startOn rfl (by decide +kernel) ⟨rfl, rfl⟩ ⟨Nat.le_of_ble_eq_true rfl, Nat.le_of_ble_eq_true rfl⟩ [1, 6, 7, 13, 14] rfl rfl rfl rfl hA hP hD hS (va_recv hK hP (ci := 7) (q0 := 1) rfl rfl) rfl hl.1 rfl (Nat.le_of_ble_eq_true rfl) dX1_cutLine_15 ⟨Nat.zero_le _, Nat.zero_le _⟩ (fun H locs hP hD hS => ?_)
  have hP : va_P D vwCl ((z, .inr (1, [.ref t, .ref v, .ref th, .ref k, _])) :: (k, .inr (7, [.ref kx, .ref k1, .ref k2, .ref k3, .ref k4, _, _])) :: (k1, .inl (cI, 24, .inl _)) :: (k2, .inl (cI, 24, .inl _)) :: (k3, .inl (cI, 24, .inl _)) :: (k4, .inl (cI, 24, .inl _)) :: (kx, .inr (4, [.ref xb, _])) :: (xb, .inl (cI, 80, .inl _)) :: (v, .inr (8, [.ref t, .ref vw, .ref vj, _, _])) :: (vw, .inl (cW, 40, .inr (.inr (.inr (.inr _))))) :: (vj, .inl (cJ, 8, .inr (.inr (.inr (.inr _))))) :: (t, .inr (3, [_, .ref fa])) :: (fa, .inl (cI, 32, .inl _)) :: (th, .inr (4, [.ref tb, _])) :: (tb, .inl (cI, 80, .inl _)) :: dy) H := hP
  have hD : va_D A ((z, .inr (1, [.ref t, .ref v, .ref th, .ref k, _])) :: (k, .inr (7, [.ref kx, .ref k1, .ref k2, .ref k3, .ref k4, _, _])) :: (k1, .inl (cI, 24, .inl _)) :: (k2, .inl (cI, 24, .inl _)) :: (k3, .inl (cI, 24, .inl _)) :: (k4, .inl (cI, 24, .inl _)) :: (kx, .inr (4, [.ref xb, _])) :: (xb, .inl (cI, 80, .inl _)) :: (v, .inr (8, [.ref t, .ref vw, .ref vj, _, _])) :: (vw, .inl (cW, 40, .inr (.inr (.inr (.inr _))))) :: (vj, .inl (cJ, 8, .inr (.inr (.inr (.inr _))))) :: (t, .inr (3, [_, .ref fa])) :: (fa, .inl (cI, 32, .inl _)) :: (th, .inr (4, [.ref tb, _])) :: (tb, .inl (cI, 80, .inl _)) :: dy) := hD
  refine lv_iconst (v := 0) hx hb dX1_cutLine_18 (by decide) ?_
  refine lv_istore_n (lv' := [(3, _), (0, _), (1, _), (2, _)]) hx hb dX1_cutLine_19 rfl hl (by decide) rfl (fun ls hl => ?_)
  refine lv_iconst (v := 0) hx hb dX1_cutLine_20 (by decide) ?_
  refine lv_istore (lv' := [(4, _), (3, _), (0, _), (1, _), (2, _)]) hx hb dX1_cutLine_21 hl (by decide) rfl (fun ls hl => ?_)
  have loop_23 : ∀ (fuel : Nat) (st p : Nat) (τ : TS), 80 - st < fuel → st ≤ 80 → st ≤ p → p ≤ n → τ.1 ≤ 24 → (cutL (foC fo) (fwC ct fo wz wn wt nw L) (fjC ct fo jn jt nj L) (fun j => jz j 1) (fun j => jz j 2) lg n L (80 - st) p τ = (cutL (foC fo) (fwC ct fo wz wn wt nw L) (fjC ct fo jn jt nj L) (fun j => jz j 1) (fun j => jz j 2) lg n L 80 0 (0, 0, T))) → ∀ (H : Heap) (locs : List Loc), va_P D vwCl ((z, .inr (1, [.ref t, .ref v, .ref th, .ref k, .int lg])) :: (k, .inr (7, [.ref kx, .ref k1, .ref k2, .ref k3, .ref k4, .int (nI τ.1), .int τ.2.1])) :: (k1, .inl (cI, 24, .inl (τ.2.2 1))) :: (k2, .inl (cI, 24, .inl (τ.2.2 2))) :: (k3, .inl (cI, 24, .inl (τ.2.2 3))) :: (k4, .inl (cI, 24, .inl (τ.2.2 4))) :: (kx, .inr (4, [.ref xb, .int (nI n)])) :: (xb, .inl (cI, 80, .inl (cpF xf L n))) :: (v, .inr (8, [.ref t, .ref vw, .ref vj, .int (nI nw), .int (nI nj)])) :: (vw, .inl (cW, 40, .inr (.inr (.inr (.inr wf))))) :: (vj, .inl (cJ, 8, .inr (.inr (.inr (.inr jf))))) :: (t, .inr (3, [.int (nI ct), .ref fa])) :: (fa, .inl (cI, 32, .inl fo)) :: (th, .inr (4, [.ref tb, .int (nI n)])) :: (tb, .inl (cI, 80, .inl L)) :: dy) H → va_D A ((z, .inr (1, [.ref t, .ref v, .ref th, .ref k, .int lg])) :: (k, .inr (7, [.ref kx, .ref k1, .ref k2, .ref k3, .ref k4, .int (nI τ.1), .int τ.2.1])) :: (k1, .inl (cI, 24, .inl (τ.2.2 1))) :: (k2, .inl (cI, 24, .inl (τ.2.2 2))) :: (k3, .inl (cI, 24, .inl (τ.2.2 3))) :: (k4, .inl (cI, 24, .inl (τ.2.2 4))) :: (kx, .inr (4, [.ref xb, .int (nI n)])) :: (xb, .inl (cI, 80, .inl (cpF xf L n))) :: (v, .inr (8, [.ref t, .ref vw, .ref vj, .int (nI nw), .int (nI nj)])) :: (vw, .inl (cW, 40, .inr (.inr (.inr (.inr wf))))) :: (vj, .inl (cJ, 8, .inr (.inr (.inr (.inr jf))))) :: (t, .inr (3, [.int (nI ct), .ref fa])) :: (fa, .inl (cI, 32, .inl fo)) :: (th, .inr (4, [.ref tb, .int (nI n)])) :: (tb, .inl (cI, 80, .inl L)) :: dy) → va_S A ss.heap H locs → ∀ ls : Array Slot, lv_has ls 5 [(0, .ref z), (1, .int lg), (2, .ref k), (3, .int (nI p)), (4, .int (nI st))] → W pr l en { frames := 6, cells := 0, slots := 0, locals := 132 } ss mi ([.ref z, .int lg, .ref k] : List Value).toArray below meth cd H locs 0 0 (MQ below (mQ (some (.int (bI (decide ((cutL (foC fo) (fwC ct fo wz wn wt nw L) (fjC ct fo jn jt nj L) (fun j => jz j 1) (fun j => jz j 2) lg n L 80 0 (0, 0, T)).2.1 = 0))))) D ((z, .inr (1, [.ref t, .ref v, .ref th, .ref k, .int lg])) :: (k, .inr (7, [.ref kx, .ref k1, .ref k2, .ref k3, .ref k4, .int (nI (cutL (foC fo) (fwC ct fo wz wn wt nw L) (fjC ct fo jn jt nj L) (fun j => jz j 1) (fun j => jz j 2) lg n L 80 0 (0, 0, T)).1), .int ((cutL (foC fo) (fwC ct fo wz wn wt nw L) (fjC ct fo jn jt nj L) (fun j => jz j 1) (fun j => jz j 2) lg n L 80 0 (0, 0, T)).2.1)])) :: (k1, .inl (cI, 24, .inl ((cutL (foC fo) (fwC ct fo wz wn wt nw L) (fjC ct fo jn jt nj L) (fun j => jz j 1) (fun j => jz j 2) lg n L 80 0 (0, 0, T)).2.2 1))) :: (k2, .inl (cI, 24, .inl ((cutL (foC fo) (fwC ct fo wz wn wt nw L) (fjC ct fo jn jt nj L) (fun j => jz j 1) (fun j => jz j 2) lg n L 80 0 (0, 0, T)).2.2 2))) :: (k3, .inl (cI, 24, .inl ((cutL (foC fo) (fwC ct fo wz wn wt nw L) (fjC ct fo jn jt nj L) (fun j => jz j 1) (fun j => jz j 2) lg n L 80 0 (0, 0, T)).2.2 3))) :: (k4, .inl (cI, 24, .inl ((cutL (foC fo) (fwC ct fo wz wn wt nw L) (fjC ct fo jn jt nj L) (fun j => jz j 1) (fun j => jz j 2) lg n L 80 0 (0, 0, T)).2.2 4))) :: (kx, .inr (4, [.ref xb, .int (nI n)])) :: (xb, .inl (cI, 80, .inl (cpF xf L n))) :: (v, .inr (8, [.ref t, .ref vw, .ref vj, .int (nI nw), .int (nI nj)])) :: (vw, .inl (cW, 40, .inr (.inr (.inr (.inr wf))))) :: (vj, .inl (cJ, 8, .inr (.inr (.inr (.inr jf))))) :: (t, .inr (3, [.int (nI ct), .ref fa])) :: (fa, .inl (cI, 32, .inl fo)) :: (th, .inr (4, [.ref tb, .int (nI n)])) :: (tb, .inl (cI, 80, .inl L)) :: dy) A) ([.ref z, .int lg, .ref k] : List Value).toArray ss 0 0 A) (F0 mi 23 ls []) := by
    intro fuel
    induction fuel with
    | zero => intro st p τ hm; exact absurd hm (Nat.not_lt_zero _)
    | succ fuel ih =>
      intro st p τ hm hst hsp hpn hτ hr H locs hP hD hS ls hl
      refine lv_iload hx hb dX1_cutLine_23 (lv_at hl 4 rfl) ?_
      refine lv_bipush (v := 80) hx hb dX1_cutLine_25 (by decide) ?_
      refine lv_icmp_ge (tgt := 53) hx hb dX1_cutLine_27 (by decide) (fun c_27 => ?_) (fun c_27 => ?_)
      · have hfin : τ = (cutL (foC fo) (fwC ct fo wz wn wt nw L) (fjC ct fo jn jt nj L) (fun j => jz j 1) (fun j => jz j 2) lg n L 80 0 (0, 0, T)) := by
          first
          | (have h_27 := leL (a := 80) (b := st) c_27; rw [← hr, show 80 - st = 0 by omega, cutL]; done)
          | (have h_38 := leL (a := n) (b := p) c_38; rw [← hr]; cases hm8 : 80 - st with
             | zero => rw [cutL]
             | succ m8 => rw [cutL, if_neg (by omega)])
        refine lv_aload_n hx hb dX1_cutLine_53 rfl (lv_at hl 2 rfl) ?_
        refine va_get (D := D) (ci := 7) (C := RX7) (T := TX7) (N := 7) hx hb hts in_X7 hown hK hP 1 rfl rfl 6 (by decide) fl_46 (fun _ h9 => h9) rfl dX1_cutLine_54 ?_
        refine lv_if_ne (tgt := 64) hx hb dX1_cutLine_57 (by decide) (fun c_57 => ?_) (fun c_57 => ?_)
        · refine lv_iconst (v := 0) hx hb dX1_cutLine_64 (by decide) ?_
          exact mu_zret X hP hS (by rw [← hfin]; simp [bI, c_27, c_57]) (by rw [← hfin]) dX1_cutLine_65
        · refine lv_iconst (v := 1) hx hb dX1_cutLine_60 (by decide) ?_
          refine lv_goto (tgt := 65) hx hb dX1_cutLine_61 (by decide) ?_
          exact mu_zret X hP hS (by rw [← hfin]; simp [bI, c_27, c_57]) (by rw [← hfin]) dX1_cutLine_65
      · refine lv_iload_n hx hb dX1_cutLine_30 rfl (lv_at hl 3 rfl) ?_
        refine lv_aload_n hx hb dX1_cutLine_31 rfl (lv_at hl 0 rfl) ?_
        refine va_get (D := D) (ci := 1) (C := RX1) (T := TX1) (N := 5) hx hb hts in_X1 hown hK hP 0 rfl rfl 2 (by decide) fl_19 (fun _ h9 => h9) rfl dX1_cutLine_32 ?_
        refine va_get (D := D) (ci := 4) (C := RX4) (T := TX4) (N := 2) hx hb hts in_X4 hown hK hP 13 rfl rfl 1 (by decide) fl_37 (fun _ h9 => h9) rfl dX1_cutLine_35 ?_
        refine lv_icmp_ge (tgt := 53) hx hb dX1_cutLine_38 (by decide) (fun c_38 => ?_) (fun c_38 => ?_)
        · have hfin : τ = (cutL (foC fo) (fwC ct fo wz wn wt nw L) (fjC ct fo jn jt nj L) (fun j => jz j 1) (fun j => jz j 2) lg n L 80 0 (0, 0, T)) := by
            first
            | (have h_27 := leL (a := 80) (b := st) c_27; rw [← hr, show 80 - st = 0 by omega, cutL]; done)
            | (have h_38 := leL (a := n) (b := p) c_38; rw [← hr]; cases hm8 : 80 - st with
               | zero => rw [cutL]
               | succ m8 => rw [cutL, if_neg (by omega)])
          refine lv_aload_n hx hb dX1_cutLine_53 rfl (lv_at hl 2 rfl) ?_
          refine va_get (D := D) (ci := 7) (C := RX7) (T := TX7) (N := 7) hx hb hts in_X7 hown hK hP 1 rfl rfl 6 (by decide) fl_46 (fun _ h9 => h9) rfl dX1_cutLine_54 ?_
          refine lv_if_ne (tgt := 64) hx hb dX1_cutLine_57 (by decide) (fun c_57 => ?_) (fun c_57 => ?_)
          · refine lv_iconst (v := 0) hx hb dX1_cutLine_64 (by decide) ?_
            exact mu_zret X hP hS (by rw [← hfin]; simp [bI, c_27, c_38, c_57]) (by rw [← hfin]) dX1_cutLine_65
          · refine lv_iconst (v := 1) hx hb dX1_cutLine_60 (by decide) ?_
            refine lv_goto (tgt := 65) hx hb dX1_cutLine_61 (by decide) ?_
            exact mu_zret X hP hS (by rw [← hfin]; simp [bI, c_27, c_38, c_57]) (by rw [← hfin]) dX1_cutLine_65
        · have hlt : p < n := lt_nge c_38 hpn (by omega)
          refine lv_aload_n hx hb dX1_cutLine_41 rfl (lv_at hl 0 rfl) ?_
          refine lv_iload_n hx hb dX1_cutLine_42 rfl (lv_at hl 3 rfl) ?_
          refine mu_VT (n := 1) (dy := dy) [_, _, _, _, _, _, _, _, _, _, _, _, _, _, _] [_, _, _, _, _, _, _, _, _, _, _, _, _] [_, _, _, _, _, _, _, _, _, _, _, _, _] X hK (c_X1_cutAt hct hn hτ hnw hwf hdw hnj hjf hdj hlt) gX1_cutLine_X1_cutAt rfl (by decide +kernel) ⟨rfl, rfl⟩ ⟨Nat.le_of_ble_eq_true rfl, Nat.le_of_ble_eq_true rfl⟩ [0, 1, 2, 3, 4, 5, 8, 9, 10, 11, 12, 13, 14] rfl rfl rfl rfl hA hP hD hS (va_recv hK hP (ci := 1) (q0 := 0) rfl rfl) rfl hl.1 rfl (Nat.le_of_ble_eq_true rfl) dX1_cutLine_43 ⟨Nat.zero_le _, Nat.zero_le _⟩ (fun H locs hP hD hS => ?_)
          have hP : va_P D vwCl ((z, .inr (1, [.ref t, .ref v, .ref th, .ref k, _])) :: (k, .inr (7, [.ref kx, .ref k1, .ref k2, .ref k3, .ref k4, _, _])) :: (k1, .inl (cI, 24, .inl _)) :: (k2, .inl (cI, 24, .inl _)) :: (k3, .inl (cI, 24, .inl _)) :: (k4, .inl (cI, 24, .inl _)) :: (kx, .inr (4, [.ref xb, _])) :: (xb, .inl (cI, 80, .inl _)) :: (v, .inr (8, [.ref t, .ref vw, .ref vj, _, _])) :: (vw, .inl (cW, 40, .inr (.inr (.inr (.inr _))))) :: (vj, .inl (cJ, 8, .inr (.inr (.inr (.inr _))))) :: (t, .inr (3, [_, .ref fa])) :: (fa, .inl (cI, 32, .inl _)) :: (th, .inr (4, [.ref tb, _])) :: (tb, .inl (cI, 80, .inl _)) :: dy) H := hP
          have hD : va_D A ((z, .inr (1, [.ref t, .ref v, .ref th, .ref k, _])) :: (k, .inr (7, [.ref kx, .ref k1, .ref k2, .ref k3, .ref k4, _, _])) :: (k1, .inl (cI, 24, .inl _)) :: (k2, .inl (cI, 24, .inl _)) :: (k3, .inl (cI, 24, .inl _)) :: (k4, .inl (cI, 24, .inl _)) :: (kx, .inr (4, [.ref xb, _])) :: (xb, .inl (cI, 80, .inl _)) :: (v, .inr (8, [.ref t, .ref vw, .ref vj, _, _])) :: (vw, .inl (cW, 40, .inr (.inr (.inr (.inr _))))) :: (vj, .inl (cJ, 8, .inr (.inr (.inr (.inr _))))) :: (t, .inr (3, [_, .ref fa])) :: (fa, .inl (cI, 32, .inl _)) :: (th, .inr (4, [.ref tb, _])) :: (tb, .inl (cI, 80, .inl _)) :: dy) := hD
          refine lv_istore_n (lv' := [(3, _), (0, _), (1, _), (2, _), (4, _)]) hx hb dX1_cutLine_46 rfl hl (by decide) rfl (fun ls hl => ?_)
          refine lv_iinc (v := (_ : Int32) + 1) (lv' := [(4, _), (3, _), (0, _), (1, _), (2, _)]) hx hb dX1_cutLine_47 hl (k := 4) rfl rfl (by decide) rfl (fun ls hl => ?_)
          refine lv_goto (tgt := 23) hx hb dX1_cutLine_50 (by decide) ?_
          rw [nI_1] at hl
          exact ih (st + 1) (aTok (foC fo) (fwC ct fo wz wn wt nw L) (fjC ct fo jn jt nj L) (fun j => jz j 1) (fun j => jz j 2) lg n L p τ).1 (aTok (foC fo) (fwC ct fo wz wn wt nw L) (fjC ct fo jn jt nj L) (fun j => jz j 1) (fun j => jz j 2) lg n L p τ).2 (by omega) (by omega) (by have := (aTok_gt (fw := fwC ct fo wz wn wt nw L) (fj := fjC ct fo jn jt nj L) (j1 := fun j => jz j 1) (j2 := fun j => jz j 2) (lg := lg) (L := L) (τ := τ) (foC_m1 fo) hlt).1; omega) (aTok_gt (foC_m1 fo) hlt).2 (aTok_le hτ) (by rw [← hr, show 80 - st = (80 - (st + 1)) + 1 by omega, cutL, if_pos hlt]) _ _ hP hD hS _ (lv_sub hl [2, 3, 4, 1, 0] rfl)
  exact loop_23 81 0 0 (0, 0, T) (by omega) (by omega) (by omega) (by omega) (by show 0 ≤ 24; omega) rfl _ _ hP hD hS ls (lv_sub hl [2, 3, 4, 1, 0] rfl)
