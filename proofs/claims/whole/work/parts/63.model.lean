/-! the model: the line is read -/
theorem bt_lt {n k : Nat} {L : Nat → Int32} (h : k < n) : bt n L k = L k := by rw [bt, if_pos h]
theorem bt_ge {n k : Nat} {L : Nat → Int32} (h : n ≤ k) : bt n L k = -1 := by rw [bt, if_neg (by omega)]
theorem isLe_m1 : isLe (-1) = false := by decide
theorem isDi_m1 : isDi (-1) = false := by decide
theorem fiO_lt {p : Nat → Bool} {n j : Nat} (h : fiO p 0 n = some j) : j < n := by have := (fiO_some _ _ _ h).2.1; omega
/-- a loop of the model over the line: it stands at j, where P goes on -/
theorem sp_go {P : Int32 → Bool} {n j : Nat} {L : Nat → Int32} (hm : P (-1) = false) (h : P (bt n L j) = true) : j < n ∧ sp P L n j = sp P L n (j + 1) := by
  rcases Nat.lt_or_ge j n with q | q
  · rw [bt_lt q] at h; exact ⟨q, sp_t q h⟩
  · rw [bt_ge q, hm] at h; cases h
theorem sp_no {P : Int32 → Bool} {n j : Nat} {L : Nat → Int32} (h : P (bt n L j) = false) : sp P L n j = j := by
  rcases Nat.lt_or_ge j n with q | q
  · rw [bt_lt q] at h; exact sp_f q h
  · exact sp_ge q
theorem sp_dd {n c : Nat} {L : Nat → Int32} : sp isDi L n (c + 1) = c + 3 ↔ isDi (bt n L (c + 1)) = true ∧ isDi (bt n L (c + 2)) = true ∧ isDi (bt n L (c + 3)) = false := by
  constructor
  · intro h
    have h1 : isDi (bt n L (c + 1)) = true := by
      cases hb : isDi (bt n L (c + 1)) with
      | true => rfl
      | false => rw [sp_no hb] at h; omega
    obtain ⟨l1, e1⟩ := sp_go isDi_m1 h1
    rw [e1] at h
    have h2 : isDi (bt n L (c + 2)) = true := by
      cases hb : isDi (bt n L (c + 2)) with
      | true => rfl
      | false => rw [show c + 1 + 1 = c + 2 by omega, sp_no hb] at h; omega
    obtain ⟨l2, e2⟩ := sp_go isDi_m1 h2
    rw [show c + 1 + 1 = c + 2 by omega, e2, show c + 2 + 1 = c + 3 by omega] at h
    refine ⟨h1, h2, ?_⟩
    cases hb : isDi (bt n L (c + 3)) with
    | false => rfl
    | true =>
      obtain ⟨l3, e3⟩ := sp_go isDi_m1 hb
      rw [e3] at h
      have := sp_le (P := isDi) (L := L) (n := n) (k := c + 3 + 1)
      omega
  · rintro ⟨h1, h2, h3⟩
    rw [(sp_go isDi_m1 h1).2, (sp_go isDi_m1 (show isDi (bt n L (c + 1 + 1)) = true from h2)).2]
    exact sp_no h3
/-- what the model's tests of a and m come to -/
def ltO (fo : Nat → Int32) (c : Int32) : Int32 := if isLe c = true then foC fo c else 0
theorem foC_not {fo : Nat → Int32} {c : Int32} (h : isLe c = false) : ¬ foC fo c = 97 ∧ ¬ foC fo c = 112 ∧ ¬ foC fo c = 109 := by
  have h0 := h
  rw [isLe_in] at h
  simp only [Bool.or_eq_false_iff] at h
  have hfc : foC fo c = c := by
    have h3 : ¬ (¬ c < 128 ∧ ¬ 159 < c) := fun q => by have := h.2; simp [inB, q.1, q.2] at this
    have h1 : ¬ (¬ c < 65 ∧ ¬ 90 < c) := fun q => by have := h.1.1; simp [inB, q.1, q.2] at this
    have hB : foB c = c := by
      rw [foB]; split
      · rfl
      · split
        · rfl
        · rename_i a b; exact absurd ⟨a, b⟩ h1
    rw [foC]
    split
    · exact hB
    · split
      · exact hB
      · rename_i a b
        exfalso
        obtain ⟨j, hj, e⟩ := nI_of2 (x := c - 128) (M := 31) (n := 31) (by decide) a (by
          rw [Int32.le_iff_toInt_le]; rw [Int32.le_iff_toInt_le] at b
          have : (nI 32).toInt = 32 := by decide
          have : (31 : Int32).toInt = 31 := rfl
          omega)
        have hc : c = nI (j + 128) := by
          have e2 : c = (c - 128) + 128 := by rw [Int32.sub_add_cancel]
          rw [e2, e]; exact nI_add j 128
        apply h3
        rw [hc]
        exact ⟨fun q => by have := (nI_ltI (a := j + 128) (b := 128) (by omega) (by decide)).mp q; omega, fun q => by have := (nI_ltI (a := 159) (b := j + 128) (by decide) (by omega)).mp q; omega⟩
  rw [hfc]
  refine ⟨?_, ?_, ?_⟩ <;> (intro q; subst q; exact absurd h0 (by decide))
theorem hd_m {fo : Nat → Int32} {n e : Nat} {L : Nat → Int32} : hdB (foC fo) n L e = ((decide (ltO fo (bt n L e) = 97) || decide (ltO fo (bt n L e) = 112)) && decide (ltO fo (bt n L (e + 1)) = 109) && !isLe (bt n L (e + 2))) := by
  have k1 : ∀ c, decide (foC fo c = 97) = decide (ltO fo c = 97) := fun c => by
    cases h : isLe c with
    | true => rw [ltO, if_pos h]
    | false => rw [ltO, if_neg (by rw [h]; decide), decide_eq_false (foC_not h).1]; rfl
  have k2 : ∀ c, decide (foC fo c = 112) = decide (ltO fo c = 112) := fun c => by
    cases h : isLe c with
    | true => rw [ltO, if_pos h]
    | false => rw [ltO, if_neg (by rw [h]; decide), decide_eq_false (foC_not h).2.1]; rfl
  have k3 : ∀ c, decide (foC fo c = 109) = decide (ltO fo c = 109) := fun c => by
    cases h : isLe c with
    | true => rw [ltO, if_pos h]
    | false => rw [ltO, if_neg (by rw [h]; decide), decide_eq_false (foC_not h).2.2]; rfl
  simp only [hdB, k1, k2, k3]
theorem lt_112 {fo : Nat → Int32} {c : Int32} : (ltO fo c = 112) ↔ foC fo c = 112 := by
  cases h : isLe c with
  | true => rw [ltO, if_pos h]
  | false => rw [ltO, if_neg (by rw [h]; decide)]; exact ⟨fun q => absurd q (by decide), fun q => absurd q (foC_not h).2.1⟩
theorem h_12 : ∀ h, 1 ≤ h → h ≤ 12 → h % 12 = if h = 12 then 0 else h := by
  intro h h1 h2
  split <;> omega

set_option maxHeartbeats 1000000 in
set_option maxRecDepth 100000 in
theorem c_X11_add {l : Launch} {D : va_G} {cI cJ cW : ClassId} {sz : Nat} {m : Nat} {a : Nat → Nat} {ct dn nw nj n tn tc mm : Nat} {τ : TS} {fu am pb : Int32} {x1 x2 x3 x4 : Int32} (hτ : τ.1 ≤ 24) : MU l yX11_add wsX11_add { frames := 0, cells := 0, slots := 0, locals := 0 } D (ty3 cI cJ cW) [.ref m, .int x1, .int x2, .int x3, .int x4] [(m, .inr (11, [.int (nI ct), .ref (a 1), .ref (a 2), .int (nI dn), .int (nI nw), .int (nI nj), .ref (a 6), .ref (a 7), .ref (a 8), .ref (a 9), .ref (a 10), .ref (a 11), .ref (a 12), .ref (a 13), .ref (a 14), .ref (a 15), .int (nI n), .int (nI tn), .ref (a 18), .ref (a 19), .ref (a 20), .ref (a 21), .ref (a 22), .ref (a 23), .ref (a 24), .ref (a 25), .int (nI τ.1), .int (τ.2.1), .ref (a 28), .int (nI tc), .int (nI mm), .ref (a 31), .ref (a 32), .ref (a 33), .int (fu), .int (am), .int (pb)])), ((a 22), .inl (cI, 24, .inl (τ.2.2 1))), ((a 23), .inl (cI, 24, .inl (τ.2.2 2))), ((a 24), .inl (cI, 24, .inl (τ.2.2 3))), ((a 25), .inl (cI, 24, .inl (τ.2.2 4)))] sz none [(m, .inr (11, [.int (nI ct), .ref (a 1), .ref (a 2), .int (nI dn), .int (nI nw), .int (nI nj), .ref (a 6), .ref (a 7), .ref (a 8), .ref (a 9), .ref (a 10), .ref (a 11), .ref (a 12), .ref (a 13), .ref (a 14), .ref (a 15), .int (nI n), .int (nI tn), .ref (a 18), .ref (a 19), .ref (a 20), .ref (a 21), .ref (a 22), .ref (a 23), .ref (a 24), .ref (a 25), .int (nI (ad4 τ x1 x2 x3 x4).1), .int ((ad4 τ x1 x2 x3 x4).2.1), .ref (a 28), .int (nI tc), .int (nI mm), .ref (a 31), .ref (a 32), .ref (a 33), .int (fu), .int (am), .int (pb)])), ((a 22), .inl (cI, 24, .inl ((ad4 τ x1 x2 x3 x4).2.2 1))), ((a 23), .inl (cI, 24, .inl ((ad4 τ x1 x2 x3 x4).2.2 2))), ((a 24), .inl (cI, 24, .inl ((ad4 τ x1 x2 x3 x4).2.2 3))), ((a 25), .inl (cI, 24, .inl ((ad4 τ x1 x2 x3 x4).2.2 4)))] := by
  refine mu_of (cc := cX11_add) (maxL := 5) (ret := none) (by decide) rfl (Nat.le_of_ble_eq_true rfl) ?_
  intro pr en ss mi below meth cd X hK A hA hP hD hS ls hl
  obtain ⟨hx, hb, hml, hown, hts, hr, hlocks⟩ := id X
  have fl_129 := hts (.fieldLink RX11 129 "WordTablesModel" "news" "I") (by decide +kernel)
  have fl_132 := hts (.fieldLink RX11 132 "WordTablesModel" "isMuch" "Z") (by decide +kernel)
  have fl_58 := hts (.fieldLink RX11 58 "WordTablesModel" "newSort" "[I") (by decide +kernel)
  have fl_61 := hts (.fieldLink RX11 61 "WordTablesModel" "newPlace" "[I") (by decide +kernel)
  have fl_64 := hts (.fieldLink RX11 64 "WordTablesModel" "newWide" "[I") (by decide +kernel)
  have fl_67 := hts (.fieldLink RX11 67 "WordTablesModel" "newNumber" "[I") (by decide +kernel)
  have in_X11 : ∀ w ∈ wsX110, w ∈ wsX11_add := by decide +kernel
  have hl : lv_has ls 5 [(0, .ref m), (1, .int x1), (2, .int x2), (3, .int x3), (4, .int x4)] := hl
  refine lv_aload_n hx hb dX11_add_0 rfl (lv_at hl 0 rfl) ?_
  refine va_get (D := D) (ci := 11) (C := RX11) (T := TX11) (N := 37) hx hb hts in_X11 hown hK hP 0 rfl rfl 26 (by decide) fl_129 (fun _ h9 => h9) rfl dX11_add_1 ?_
  refine lv_bipush (v := 24) hx hb dX11_add_4 (by decide) ?_
  refine lv_icmp_ne (tgt := 15) hx hb dX11_add_6 (by decide) (fun c_6 => ?_) (fun c_6 => ?_)
  · have hm : τ.1 < 24 := by rcases Nat.lt_or_ge τ.1 24 with q | q; exact q; exact absurd (show nI τ.1 = 24 by rw [show τ.1 = 24 by omega]; rfl) c_6
    refine lv_aload_n hx hb dX11_add_15 rfl (lv_at hl 0 rfl) ?_
    refine va_get (D := D) (ci := 11) (C := RX11) (T := TX11) (N := 37) hx hb hts in_X11 hown hK hP 0 rfl rfl 22 (by decide) fl_58 (fun _ h9 => h9) rfl dX11_add_16 ?_
    refine lv_aload_n hx hb dX11_add_19 rfl (lv_at hl 0 rfl) ?_
    refine va_get (D := D) (ci := 11) (C := RX11) (T := TX11) (N := 37) hx hb hts in_X11 hown hK hP 0 rfl rfl 26 (by decide) fl_129 (fun _ h9 => h9) rfl dX11_add_20 ?_
    refine lv_iload_n hx hb dX11_add_23 rfl (lv_at hl 1 rfl) ?_
    refine ast_n hx hb hK hP hD hS 1 0 rfl rfl hm (by decide) dX11_add_24 (fun H locs hP hD hS => ?_)
    have hP : va_P D vwCl [(m, .inr (11, [_, .ref (a 1), .ref (a 2), _, _, _, .ref (a 6), .ref (a 7), .ref (a 8), .ref (a 9), .ref (a 10), .ref (a 11), .ref (a 12), .ref (a 13), .ref (a 14), .ref (a 15), _, _, .ref (a 18), .ref (a 19), .ref (a 20), .ref (a 21), .ref (a 22), .ref (a 23), .ref (a 24), .ref (a 25), _, _, .ref (a 28), _, _, .ref (a 31), .ref (a 32), .ref (a 33), _, _, _])), ((a 22), .inl (cI, 24, .inl _)), ((a 23), .inl (cI, 24, .inl _)), ((a 24), .inl (cI, 24, .inl _)), ((a 25), .inl (cI, 24, .inl _))] H := hP
    have hD : va_D A [(m, .inr (11, [_, .ref (a 1), .ref (a 2), _, _, _, .ref (a 6), .ref (a 7), .ref (a 8), .ref (a 9), .ref (a 10), .ref (a 11), .ref (a 12), .ref (a 13), .ref (a 14), .ref (a 15), _, _, .ref (a 18), .ref (a 19), .ref (a 20), .ref (a 21), .ref (a 22), .ref (a 23), .ref (a 24), .ref (a 25), _, _, .ref (a 28), _, _, .ref (a 31), .ref (a 32), .ref (a 33), _, _, _])), ((a 22), .inl (cI, 24, .inl _)), ((a 23), .inl (cI, 24, .inl _)), ((a 24), .inl (cI, 24, .inl _)), ((a 25), .inl (cI, 24, .inl _))] := hD
    refine lv_aload_n hx hb dX11_add_25 rfl (lv_at hl 0 rfl) ?_
    refine va_get (D := D) (ci := 11) (C := RX11) (T := TX11) (N := 37) hx hb hts in_X11 hown hK hP 0 rfl rfl 23 (by decide) fl_61 (fun _ h9 => h9) rfl dX11_add_26 ?_
    refine lv_aload_n hx hb dX11_add_29 rfl (lv_at hl 0 rfl) ?_
    refine va_get (D := D) (ci := 11) (C := RX11) (T := TX11) (N := 37) hx hb hts in_X11 hown hK hP 0 rfl rfl 26 (by decide) fl_129 (fun _ h9 => h9) rfl dX11_add_30 ?_
    refine lv_iload_n hx hb dX11_add_33 rfl (lv_at hl 2 rfl) ?_
    refine ast_n hx hb hK hP hD hS 2 0 rfl rfl hm (by decide) dX11_add_34 (fun H locs hP hD hS => ?_)
    have hP : va_P D vwCl [(m, .inr (11, [_, .ref (a 1), .ref (a 2), _, _, _, .ref (a 6), .ref (a 7), .ref (a 8), .ref (a 9), .ref (a 10), .ref (a 11), .ref (a 12), .ref (a 13), .ref (a 14), .ref (a 15), _, _, .ref (a 18), .ref (a 19), .ref (a 20), .ref (a 21), .ref (a 22), .ref (a 23), .ref (a 24), .ref (a 25), _, _, .ref (a 28), _, _, .ref (a 31), .ref (a 32), .ref (a 33), _, _, _])), ((a 22), .inl (cI, 24, .inl _)), ((a 23), .inl (cI, 24, .inl _)), ((a 24), .inl (cI, 24, .inl _)), ((a 25), .inl (cI, 24, .inl _))] H := hP
    have hD : va_D A [(m, .inr (11, [_, .ref (a 1), .ref (a 2), _, _, _, .ref (a 6), .ref (a 7), .ref (a 8), .ref (a 9), .ref (a 10), .ref (a 11), .ref (a 12), .ref (a 13), .ref (a 14), .ref (a 15), _, _, .ref (a 18), .ref (a 19), .ref (a 20), .ref (a 21), .ref (a 22), .ref (a 23), .ref (a 24), .ref (a 25), _, _, .ref (a 28), _, _, .ref (a 31), .ref (a 32), .ref (a 33), _, _, _])), ((a 22), .inl (cI, 24, .inl _)), ((a 23), .inl (cI, 24, .inl _)), ((a 24), .inl (cI, 24, .inl _)), ((a 25), .inl (cI, 24, .inl _))] := hD
    refine lv_aload_n hx hb dX11_add_35 rfl (lv_at hl 0 rfl) ?_
    refine va_get (D := D) (ci := 11) (C := RX11) (T := TX11) (N := 37) hx hb hts in_X11 hown hK hP 0 rfl rfl 24 (by decide) fl_64 (fun _ h9 => h9) rfl dX11_add_36 ?_
    refine lv_aload_n hx hb dX11_add_39 rfl (lv_at hl 0 rfl) ?_
    refine va_get (D := D) (ci := 11) (C := RX11) (T := TX11) (N := 37) hx hb hts in_X11 hown hK hP 0 rfl rfl 26 (by decide) fl_129 (fun _ h9 => h9) rfl dX11_add_40 ?_
    refine lv_iload_n hx hb dX11_add_43 rfl (lv_at hl 3 rfl) ?_
    refine ast_n hx hb hK hP hD hS 3 0 rfl rfl hm (by decide) dX11_add_44 (fun H locs hP hD hS => ?_)
    have hP : va_P D vwCl [(m, .inr (11, [_, .ref (a 1), .ref (a 2), _, _, _, .ref (a 6), .ref (a 7), .ref (a 8), .ref (a 9), .ref (a 10), .ref (a 11), .ref (a 12), .ref (a 13), .ref (a 14), .ref (a 15), _, _, .ref (a 18), .ref (a 19), .ref (a 20), .ref (a 21), .ref (a 22), .ref (a 23), .ref (a 24), .ref (a 25), _, _, .ref (a 28), _, _, .ref (a 31), .ref (a 32), .ref (a 33), _, _, _])), ((a 22), .inl (cI, 24, .inl _)), ((a 23), .inl (cI, 24, .inl _)), ((a 24), .inl (cI, 24, .inl _)), ((a 25), .inl (cI, 24, .inl _))] H := hP
    have hD : va_D A [(m, .inr (11, [_, .ref (a 1), .ref (a 2), _, _, _, .ref (a 6), .ref (a 7), .ref (a 8), .ref (a 9), .ref (a 10), .ref (a 11), .ref (a 12), .ref (a 13), .ref (a 14), .ref (a 15), _, _, .ref (a 18), .ref (a 19), .ref (a 20), .ref (a 21), .ref (a 22), .ref (a 23), .ref (a 24), .ref (a 25), _, _, .ref (a 28), _, _, .ref (a 31), .ref (a 32), .ref (a 33), _, _, _])), ((a 22), .inl (cI, 24, .inl _)), ((a 23), .inl (cI, 24, .inl _)), ((a 24), .inl (cI, 24, .inl _)), ((a 25), .inl (cI, 24, .inl _))] := hD
    refine lv_aload_n hx hb dX11_add_45 rfl (lv_at hl 0 rfl) ?_
    refine va_get (D := D) (ci := 11) (C := RX11) (T := TX11) (N := 37) hx hb hts in_X11 hown hK hP 0 rfl rfl 25 (by decide) fl_67 (fun _ h9 => h9) rfl dX11_add_46 ?_
    refine lv_aload_n hx hb dX11_add_49 rfl (lv_at hl 0 rfl) ?_
    refine va_get (D := D) (ci := 11) (C := RX11) (T := TX11) (N := 37) hx hb hts in_X11 hown hK hP 0 rfl rfl 26 (by decide) fl_129 (fun _ h9 => h9) rfl dX11_add_50 ?_
    refine lv_iload hx hb dX11_add_53 (lv_at hl 4 rfl) ?_
    refine ast_n hx hb hK hP hD hS 4 0 rfl rfl hm (by decide) dX11_add_55 (fun H locs hP hD hS => ?_)
    have hP : va_P D vwCl [(m, .inr (11, [_, .ref (a 1), .ref (a 2), _, _, _, .ref (a 6), .ref (a 7), .ref (a 8), .ref (a 9), .ref (a 10), .ref (a 11), .ref (a 12), .ref (a 13), .ref (a 14), .ref (a 15), _, _, .ref (a 18), .ref (a 19), .ref (a 20), .ref (a 21), .ref (a 22), .ref (a 23), .ref (a 24), .ref (a 25), _, _, .ref (a 28), _, _, .ref (a 31), .ref (a 32), .ref (a 33), _, _, _])), ((a 22), .inl (cI, 24, .inl _)), ((a 23), .inl (cI, 24, .inl _)), ((a 24), .inl (cI, 24, .inl _)), ((a 25), .inl (cI, 24, .inl _))] H := hP
    have hD : va_D A [(m, .inr (11, [_, .ref (a 1), .ref (a 2), _, _, _, .ref (a 6), .ref (a 7), .ref (a 8), .ref (a 9), .ref (a 10), .ref (a 11), .ref (a 12), .ref (a 13), .ref (a 14), .ref (a 15), _, _, .ref (a 18), .ref (a 19), .ref (a 20), .ref (a 21), .ref (a 22), .ref (a 23), .ref (a 24), .ref (a 25), _, _, .ref (a 28), _, _, .ref (a 31), .ref (a 32), .ref (a 33), _, _, _])), ((a 22), .inl (cI, 24, .inl _)), ((a 23), .inl (cI, 24, .inl _)), ((a 24), .inl (cI, 24, .inl _)), ((a 25), .inl (cI, 24, .inl _))] := hD
    refine lv_aload_n hx hb dX11_add_56 rfl (lv_at hl 0 rfl) ?_
    refine lv_dup hx hb dX11_add_57 rfl ?_
    refine va_get (D := D) (ci := 11) (C := RX11) (T := TX11) (N := 37) hx hb hts in_X11 hown hK hP 0 rfl rfl 26 (by decide) fl_129 (fun _ h9 => h9) rfl dX11_add_58 ?_
    refine lv_iconst (v := 1) hx hb dX11_add_61 (by decide) ?_
    refine lv_iadd hx hb dX11_add_62 ?_
    refine topi_eq (nI_1 τ.1) ?_
    refine va_put (D := D) (ci := 11) (ty := .int) (C := RX11) (T := TX11) (N := 37) hx hb hts in_X11 tyX11 tyX11_ok nmX11 hown hK hP hD hS 0 rfl rfl 26 (by decide) fl_129 (fun _ h9 => h9) rfl (by decide +kernel) rfl rfl (Nat.le_of_ble_eq_true rfl) dX11_add_63 (fun H locs hP hD hS => ?_)
    have hP : va_P D vwCl [(m, .inr (11, [_, .ref (a 1), .ref (a 2), _, _, _, .ref (a 6), .ref (a 7), .ref (a 8), .ref (a 9), .ref (a 10), .ref (a 11), .ref (a 12), .ref (a 13), .ref (a 14), .ref (a 15), _, _, .ref (a 18), .ref (a 19), .ref (a 20), .ref (a 21), .ref (a 22), .ref (a 23), .ref (a 24), .ref (a 25), _, _, .ref (a 28), _, _, .ref (a 31), .ref (a 32), .ref (a 33), _, _, _])), ((a 22), .inl (cI, 24, .inl _)), ((a 23), .inl (cI, 24, .inl _)), ((a 24), .inl (cI, 24, .inl _)), ((a 25), .inl (cI, 24, .inl _))] H := hP
    have hD : va_D A [(m, .inr (11, [_, .ref (a 1), .ref (a 2), _, _, _, .ref (a 6), .ref (a 7), .ref (a 8), .ref (a 9), .ref (a 10), .ref (a 11), .ref (a 12), .ref (a 13), .ref (a 14), .ref (a 15), _, _, .ref (a 18), .ref (a 19), .ref (a 20), .ref (a 21), .ref (a 22), .ref (a 23), .ref (a 24), .ref (a 25), _, _, .ref (a 28), _, _, .ref (a 31), .ref (a 32), .ref (a 33), _, _, _])), ((a 22), .inl (cI, 24, .inl _)), ((a 23), .inl (cI, 24, .inl _)), ((a 24), .inl (cI, 24, .inl _)), ((a 25), .inl (cI, 24, .inl _))] := hD
    exact mu_vret X hP hS (by simp [ad4, adN, adF, adM, hm]) dX11_add_66
  · have hm : ¬ τ.1 < 24 := by have := (nI_eq (a := τ.1) (b := 24) (by omega) (by decide)).mp c_6; omega
    refine lv_aload_n hx hb dX11_add_9 rfl (lv_at hl 0 rfl) ?_
    refine lv_iconst (v := 1) hx hb dX11_add_10 (by decide) ?_
    refine va_put (D := D) (ci := 11) (ty := .boolean) (C := RX11) (T := TX11) (N := 37) hx hb hts in_X11 tyX11 tyX11_ok nmX11 hown hK hP hD hS 0 rfl rfl 27 (by decide) fl_132 (fun _ h9 => h9) rfl (by decide +kernel) (by first | rfl | exact bI_nar _) (by first | rfl | exact bI_fit _) (Nat.le_of_ble_eq_true rfl) dX11_add_11 (fun H locs hP hD hS => ?_)
    have hP : va_P D vwCl [(m, .inr (11, [_, .ref (a 1), .ref (a 2), _, _, _, .ref (a 6), .ref (a 7), .ref (a 8), .ref (a 9), .ref (a 10), .ref (a 11), .ref (a 12), .ref (a 13), .ref (a 14), .ref (a 15), _, _, .ref (a 18), .ref (a 19), .ref (a 20), .ref (a 21), .ref (a 22), .ref (a 23), .ref (a 24), .ref (a 25), _, _, .ref (a 28), _, _, .ref (a 31), .ref (a 32), .ref (a 33), _, _, _])), ((a 22), .inl (cI, 24, .inl _)), ((a 23), .inl (cI, 24, .inl _)), ((a 24), .inl (cI, 24, .inl _)), ((a 25), .inl (cI, 24, .inl _))] H := hP
    have hD : va_D A [(m, .inr (11, [_, .ref (a 1), .ref (a 2), _, _, _, .ref (a 6), .ref (a 7), .ref (a 8), .ref (a 9), .ref (a 10), .ref (a 11), .ref (a 12), .ref (a 13), .ref (a 14), .ref (a 15), _, _, .ref (a 18), .ref (a 19), .ref (a 20), .ref (a 21), .ref (a 22), .ref (a 23), .ref (a 24), .ref (a 25), _, _, .ref (a 28), _, _, .ref (a 31), .ref (a 32), .ref (a 33), _, _, _])), ((a 22), .inl (cI, 24, .inl _)), ((a 23), .inl (cI, 24, .inl _)), ((a 24), .inl (cI, 24, .inl _)), ((a 25), .inl (cI, 24, .inl _))] := hD
    exact mu_vret X hP hS (by simp [ad4, adN, adF, adM, hm]) dX11_add_14

set_option maxHeartbeats 1000000 in
set_option maxRecDepth 100000 in
theorem c_X11_numberOf {l : Launch} {D : va_G} {cI cJ cW : ClassId} {m : Nat} {a : Nat → Nat} {ct dn nw nj n tn tc mm : Nat} {τ : TS} {fu am pb : Int32} {L : Nat → Int32} {p q : Nat} (hn : n ≤ 80) (hq : q ≤ n) (hpq : p ≤ q) (hd : ∀ i, p ≤ i → i < q → isDi (L i) = true) : RO l yX11_numberOf wsX11_numberOf { frames := 0, cells := 0, slots := 0, locals := 0 } D (ty3 cI cJ cW) [.ref m, .int (nI p), .int (nI q)] [(m, .inr (11, [.int (nI ct), .ref (a 1), .ref (a 2), .int (nI dn), .int (nI nw), .int (nI nj), .ref (a 6), .ref (a 7), .ref (a 8), .ref (a 9), .ref (a 10), .ref (a 11), .ref (a 12), .ref (a 13), .ref (a 14), .ref (a 15), .int (nI n), .int (nI tn), .ref (a 18), .ref (a 19), .ref (a 20), .ref (a 21), .ref (a 22), .ref (a 23), .ref (a 24), .ref (a 25), .int (nI τ.1), .int (τ.2.1), .ref (a 28), .int (nI tc), .int (nI mm), .ref (a 31), .ref (a 32), .ref (a 33), .int (fu), .int (am), .int (pb)])), ((a 15), .inl (cI, 80, .inl L))] (.int (nI (min (numN L p (q - p) 0) 99999))) := by
  refine ro_of (cc := cX11_numberOf) (maxL := 5) (ret := (some .int)) (by decide) rfl (Nat.le_of_ble_eq_true rfl) ?_
  intro pr en ss mi below meth cd X hP hK ls hl
  obtain ⟨hx, hb, hml, hown, hts, hr, hlocks⟩ := id X
  have fl_43 := hts (.fieldLink RX11 43 "WordTablesModel" "line" "[I") (by decide +kernel)
  have in_X11 : ∀ w ∈ wsX110, w ∈ wsX11_numberOf := by decide +kernel
  have hl : lv_has ls 5 [(0, .ref m), (1, .int (nI p)), (2, .int (nI q))] := hl
  refine lv_iconst (v := 0) hx hb dX11_numberOf_0 (by decide) ?_
  refine lv_istore_n (lv' := [(3, _), (0, _), (1, _), (2, _)]) hx hb dX11_numberOf_1 rfl hl (by decide) rfl (fun ls hl => ?_)
  refine lv_iload_n hx hb dX11_numberOf_2 rfl (lv_at hl 2 rfl) ?_
  refine lv_istore (lv' := [(4, _), (3, _), (0, _), (1, _), (2, _)]) hx hb dX11_numberOf_3 hl (by decide) rfl (fun ls hl => ?_)
  have loop_5 : ∀ (fuel : Nat) (j w : Nat), q - j < fuel → p ≤ j → j ≤ q → numN L j (q - j) w = numN L p (q - p) 0 → ∀ ls : Array Slot, lv_has ls 5 [(0, .ref m), (1, .int (nI p)), (2, .int (nI q)), (3, .int (nI (min w 99999))), (4, .int (nI j))] → W pr l en { frames := 0, cells := 0, slots := 0, locals := 0 } ss mi ([.ref m, .int (nI p), .int (nI q)] : List Value).toArray below meth cd ss.heap [] 0 0 (MQ below (k2_QcV (.int (nI (min (numN L p (q - p) 0) 99999)))) ([.ref m, .int (nI p), .int (nI q)] : List Value).toArray ss 0 0 (fun _ => False)) (F0 mi 5 ls []) := by
    intro fuel
    induction fuel with
    | zero => intro j w hm; exact absurd hm (Nat.not_lt_zero _)
    | succ fuel ih =>
      intro j w hm hpj hj hr  ls hl
      refine lv_iload hx hb dX11_numberOf_5 (lv_at hl 4 rfl) ?_
      refine lv_iload_n hx hb dX11_numberOf_7 rfl (lv_at hl 2 rfl) ?_
      refine lv_icmp_ge (tgt := 46) hx hb dX11_numberOf_8 (by decide) (fun c_8 => ?_) (fun c_8 => ?_)
      · have hjq : j = q := eq_ge c_8 hj (by omega)
        refine lv_iload_n hx hb dX11_numberOf_46 rfl (lv_at hl 3 rfl) ?_
        exact ro_iret X (by rw [← hr, hjq, Nat.sub_self, numN]) dX11_numberOf_47
      · have hlt : j < q := lt_nge c_8 hj (by omega)
        obtain ⟨d, hd9, hLd, hdd⟩ := dg_of (hd j hpj hlt)
        refine lv_bipush (v := 10) hx hb dX11_numberOf_11 (by decide) ?_
        refine lv_iload_n hx hb dX11_numberOf_13 rfl (lv_at hl 3 rfl) ?_
        refine lv_imul hx hb dX11_numberOf_14 ?_
        refine lv_aload_n hx hb dX11_numberOf_15 rfl (lv_at hl 0 rfl) ?_
        refine va_get (D := D) (ci := 11) (C := RX11) (T := TX11) (N := 37) hx hb hts in_X11 hown hK hP 0 rfl rfl 15 (by decide) fl_43 (fun _ h9 => h9) rfl dX11_numberOf_16 ?_
        refine lv_iload hx hb dX11_numberOf_19 (lv_at hl 4 rfl) ?_
        refine ald_n hx hb hK hP 1 0 rfl rfl (show j < 80 by omega) (by first | decide | omega) dX11_numberOf_21 ?_
        refine topi_eq hLd ?_
        refine lv_iadd hx hb dX11_numberOf_22 ?_
        refine lv_bipush (v := 48) hx hb dX11_numberOf_23 (by decide) ?_
        refine lv_isub hx hb dX11_numberOf_25 ?_
        refine topi_eq (show (10 : Int32) * nI (min w 99999) + nI (48 + d) - 48 = nI (10 * min w 99999 + d) from by rw [show (10 : Int32) = nI 10 from rfl, pk_mul, nI_add, show (48 : Int32) = nI 48 from rfl, pk_sub (by omega)]; congr 1; omega) ?_
        refine lv_istore_n (lv' := [(3, _), (0, _), (1, _), (2, _), (4, _)]) hx hb dX11_numberOf_26 rfl hl (by decide) rfl (fun ls hl => ?_)
        refine lv_iload_n hx hb dX11_numberOf_27 rfl (lv_at hl 0 rfl) ?_
        refine lv_ldc hx hb hown (hts (.constant RX11 143 (99999)) (by decide +kernel)) dX11_numberOf_28 ?_
        refine lv_icmp_le (tgt := 38) hx hb dX11_numberOf_30 (by decide) (fun c_30 => ?_) (fun c_30 => ?_)
        · refine lv_iload_n hx hb dX11_numberOf_38 rfl (lv_at hl 0 rfl) ?_
          refine topi_eq (y := nI (min (10 * w + d) 99999)) (by first | (have h30 := leL (a := 10 * min w 99999 + d) (b := 99999) c_30; congr 1; omega) | (have h30 := leN (a := 10 * min w 99999 + d) (b := 99999) c_30; rw [show min (10 * w + d) 99999 = 99999 by omega]; rfl)) ?_
          refine lv_istore_n (lv' := [(3, _), (0, _), (1, _), (2, _), (4, _)]) hx hb dX11_numberOf_39 rfl hl (by decide) rfl (fun ls hl => ?_)
          refine lv_iinc (v := (_ : Int32) + 1) (lv' := [(4, _), (3, _), (0, _), (1, _), (2, _)]) hx hb dX11_numberOf_40 hl (k := 4) rfl rfl (by decide) rfl (fun ls hl => ?_)
          refine lv_goto (tgt := 5) hx hb dX11_numberOf_43 (by decide) ?_
          rw [nI_1] at hl
          exact ih (j + 1) (10 * w + d) (by omega) (by omega) (by omega) (by rw [← hr, show q - j = (q - (j + 1)) + 1 by omega, numN, hdd])  _ (lv_sub hl [2, 3, 4, 1, 0] rfl)
        · refine lv_ldc hx hb hown (hts (.constant RX11 143 (99999)) (by decide +kernel)) dX11_numberOf_33 ?_
          refine lv_goto (tgt := 39) hx hb dX11_numberOf_35 (by decide) ?_
          refine topi_eq (y := nI (min (10 * w + d) 99999)) (by first | (have h30 := leL (a := 10 * min w 99999 + d) (b := 99999) c_30; congr 1; omega) | (have h30 := leN (a := 10 * min w 99999 + d) (b := 99999) c_30; rw [show min (10 * w + d) 99999 = 99999 by omega]; rfl)) ?_
          refine lv_istore_n (lv' := [(3, _), (0, _), (1, _), (2, _), (4, _)]) hx hb dX11_numberOf_39 rfl hl (by decide) rfl (fun ls hl => ?_)
          refine lv_iinc (v := (_ : Int32) + 1) (lv' := [(4, _), (3, _), (0, _), (1, _), (2, _)]) hx hb dX11_numberOf_40 hl (k := 4) rfl rfl (by decide) rfl (fun ls hl => ?_)
          refine lv_goto (tgt := 5) hx hb dX11_numberOf_43 (by decide) ?_
          rw [nI_1] at hl
          exact ih (j + 1) (10 * w + d) (by omega) (by omega) (by omega) (by rw [← hr, show q - j = (q - (j + 1)) + 1 by omega, numN, hdd])  _ (lv_sub hl [2, 3, 4, 1, 0] rfl)
  exact loop_5 (q + 1) p 0 (by omega) (Nat.le_refl _) hpq rfl  ls (lv_sub hl [2, 3, 4, 1, 0] rfl)

theorem inB_t {lo hi j : Nat} (h1 : lo ≤ j) (h2 : j ≤ hi) (hh : hi < 2 ^ 31) : inB (nI j) (nI lo) (nI hi) = true := by
  have a : ¬ nI j < nI lo := fun q => by have := (nI_ltI (by omega) (by omega)).mp q; omega
  have b : ¬ nI hi < nI j := fun q => by have := (nI_ltI (by omega) (by omega)).mp q; omega
  simp [inB, a, b]

set_option maxHeartbeats 1000000 in
set_option maxRecDepth 100000 in
theorem c_X11_readQuoted {l : Launch} {D : va_G} {cI cJ cW : ClassId} {sz : Nat} {m : Nat} {a : Nat → Nat} {ct dn nw nj n tn tc mm : Nat} {τ : TS} {fu am pb : Int32} {L : Nat → Int32} {p : Nat} (hn : n ≤ 80) (hτ : τ.1 ≤ 24) (hp : p < n) : MU l yX11_readQuoted wsX11_readQuoted { frames := 1, cells := 0, slots := 0, locals := 24 } D (ty3 cI cJ cW) [.ref m, .int (nI p)] [(m, .inr (11, [.int (nI ct), .ref (a 1), .ref (a 2), .int (nI dn), .int (nI nw), .int (nI nj), .ref (a 6), .ref (a 7), .ref (a 8), .ref (a 9), .ref (a 10), .ref (a 11), .ref (a 12), .ref (a 13), .ref (a 14), .ref (a 15), .int (nI n), .int (nI tn), .ref (a 18), .ref (a 19), .ref (a 20), .ref (a 21), .ref (a 22), .ref (a 23), .ref (a 24), .ref (a 25), .int (nI τ.1), .int (τ.2.1), .ref (a 28), .int (nI tc), .int (nI mm), .ref (a 31), .ref (a 32), .ref (a 33), .int (fu), .int (am), .int (pb)])), ((a 22), .inl (cI, 24, .inl (τ.2.2 1))), ((a 23), .inl (cI, 24, .inl (τ.2.2 2))), ((a 24), .inl (cI, 24, .inl (τ.2.2 3))), ((a 25), .inl (cI, 24, .inl (τ.2.2 4))), ((a 15), .inl (cI, 80, .inl L))] sz (some (.int (nI (qTok n L p τ).1))) [(m, .inr (11, [.int (nI ct), .ref (a 1), .ref (a 2), .int (nI dn), .int (nI nw), .int (nI nj), .ref (a 6), .ref (a 7), .ref (a 8), .ref (a 9), .ref (a 10), .ref (a 11), .ref (a 12), .ref (a 13), .ref (a 14), .ref (a 15), .int (nI n), .int (nI tn), .ref (a 18), .ref (a 19), .ref (a 20), .ref (a 21), .ref (a 22), .ref (a 23), .ref (a 24), .ref (a 25), .int (nI (qTok n L p τ).2.1), .int ((qTok n L p τ).2.2.1), .ref (a 28), .int (nI tc), .int (nI mm), .ref (a 31), .ref (a 32), .ref (a 33), .int (fu), .int (am), .int (pb)])), ((a 22), .inl (cI, 24, .inl ((qTok n L p τ).2.2.2 1))), ((a 23), .inl (cI, 24, .inl ((qTok n L p τ).2.2.2 2))), ((a 24), .inl (cI, 24, .inl ((qTok n L p τ).2.2.2 3))), ((a 25), .inl (cI, 24, .inl ((qTok n L p τ).2.2.2 4))), ((a 15), .inl (cI, 80, .inl L))] := by
  refine mu_of (cc := cX11_readQuoted) (maxL := 3) (ret := (some .int)) (by decide) rfl (Nat.le_of_ble_eq_true rfl) ?_
  intro pr en ss mi below meth cd X hK A hA hP hD hS ls hl
  obtain ⟨hx, hb, hml, hown, hts, hr, hlocks⟩ := id X
  have fl_126 := hts (.fieldLink RX11 126 "WordTablesModel" "lined" "I") (by decide +kernel)
  have fl_43 := hts (.fieldLink RX11 43 "WordTablesModel" "line" "[I") (by decide +kernel)
  have in_X11 : ∀ w ∈ wsX110, w ∈ wsX11_readQuoted := by decide +kernel
  have hl : lv_has ls 3 [(0, .ref m), (1, .int (nI p))] := hl
  refine lv_iload_n hx hb dX11_readQuoted_0 rfl (lv_at hl 1 rfl) ?_
  refine lv_iconst (v := 1) hx hb dX11_readQuoted_1 (by decide) ?_
  refine lv_iadd hx hb dX11_readQuoted_2 ?_
  refine topi_eq (nI_1 p) ?_
  refine lv_istore_n (lv' := [(2, _), (0, _), (1, _)]) hx hb dX11_readQuoted_3 rfl hl (by decide) rfl (fun ls hl => ?_)
  have loop_4 : ∀ (fuel : Nat) (j : Nat), n - j < fuel → p + 1 ≤ j → j ≤ n → sp nQu L n j = sp nQu L n (p + 1) → ∀ (H : Heap) (locs : List Loc), va_P D vwCl [(m, .inr (11, [.int (nI ct), .ref (a 1), .ref (a 2), .int (nI dn), .int (nI nw), .int (nI nj), .ref (a 6), .ref (a 7), .ref (a 8), .ref (a 9), .ref (a 10), .ref (a 11), .ref (a 12), .ref (a 13), .ref (a 14), .ref (a 15), .int (nI n), .int (nI tn), .ref (a 18), .ref (a 19), .ref (a 20), .ref (a 21), .ref (a 22), .ref (a 23), .ref (a 24), .ref (a 25), .int (nI τ.1), .int (τ.2.1), .ref (a 28), .int (nI tc), .int (nI mm), .ref (a 31), .ref (a 32), .ref (a 33), .int (fu), .int (am), .int (pb)])), ((a 22), .inl (cI, 24, .inl (τ.2.2 1))), ((a 23), .inl (cI, 24, .inl (τ.2.2 2))), ((a 24), .inl (cI, 24, .inl (τ.2.2 3))), ((a 25), .inl (cI, 24, .inl (τ.2.2 4))), ((a 15), .inl (cI, 80, .inl L))] H → va_D A [(m, .inr (11, [.int (nI ct), .ref (a 1), .ref (a 2), .int (nI dn), .int (nI nw), .int (nI nj), .ref (a 6), .ref (a 7), .ref (a 8), .ref (a 9), .ref (a 10), .ref (a 11), .ref (a 12), .ref (a 13), .ref (a 14), .ref (a 15), .int (nI n), .int (nI tn), .ref (a 18), .ref (a 19), .ref (a 20), .ref (a 21), .ref (a 22), .ref (a 23), .ref (a 24), .ref (a 25), .int (nI τ.1), .int (τ.2.1), .ref (a 28), .int (nI tc), .int (nI mm), .ref (a 31), .ref (a 32), .ref (a 33), .int (fu), .int (am), .int (pb)])), ((a 22), .inl (cI, 24, .inl (τ.2.2 1))), ((a 23), .inl (cI, 24, .inl (τ.2.2 2))), ((a 24), .inl (cI, 24, .inl (τ.2.2 3))), ((a 25), .inl (cI, 24, .inl (τ.2.2 4))), ((a 15), .inl (cI, 80, .inl L))] → va_S A ss.heap H locs → ∀ ls : Array Slot, lv_has ls 3 [(0, .ref m), (1, .int (nI p)), (2, .int (nI j))] → W pr l en { frames := 1, cells := 0, slots := 0, locals := 24 } ss mi ([.ref m, .int (nI p)] : List Value).toArray below meth cd H locs 0 0 (MQ below (mQ (some (.int (nI (qTok n L p τ).1))) D [(m, .inr (11, [.int (nI ct), .ref (a 1), .ref (a 2), .int (nI dn), .int (nI nw), .int (nI nj), .ref (a 6), .ref (a 7), .ref (a 8), .ref (a 9), .ref (a 10), .ref (a 11), .ref (a 12), .ref (a 13), .ref (a 14), .ref (a 15), .int (nI n), .int (nI tn), .ref (a 18), .ref (a 19), .ref (a 20), .ref (a 21), .ref (a 22), .ref (a 23), .ref (a 24), .ref (a 25), .int (nI (qTok n L p τ).2.1), .int ((qTok n L p τ).2.2.1), .ref (a 28), .int (nI tc), .int (nI mm), .ref (a 31), .ref (a 32), .ref (a 33), .int (fu), .int (am), .int (pb)])), ((a 22), .inl (cI, 24, .inl ((qTok n L p τ).2.2.2 1))), ((a 23), .inl (cI, 24, .inl ((qTok n L p τ).2.2.2 2))), ((a 24), .inl (cI, 24, .inl ((qTok n L p τ).2.2.2 3))), ((a 25), .inl (cI, 24, .inl ((qTok n L p τ).2.2.2 4))), ((a 15), .inl (cI, 80, .inl L))] A) ([.ref m, .int (nI p)] : List Value).toArray ss 0 0 A) (F0 mi 4 ls []) := by
    intro fuel
    induction fuel with
    | zero => intro j hm; exact absurd hm (Nat.not_lt_zero _)
    | succ fuel ih =>
      intro j hm hpj hj hr H locs hP hD hS ls hl
      refine lv_iload_n hx hb dX11_readQuoted_4 rfl (lv_at hl 2 rfl) ?_
      refine lv_aload_n hx hb dX11_readQuoted_5 rfl (lv_at hl 0 rfl) ?_
      refine va_get (D := D) (ci := 11) (C := RX11) (T := TX11) (N := 37) hx hb hts in_X11 hown hK hP 0 rfl rfl 16 (by decide) fl_126 (fun _ h9 => h9) rfl dX11_readQuoted_6 ?_
      refine lv_icmp_ge (tgt := 29) hx hb dX11_readQuoted_9 (by decide) (fun c_9 => ?_) (fun c_9 => ?_)
      · have hse : sp nQu L n (p + 1) = j := by first | rw [← hr, sp_f hlt (by simp [nQu, c_20])] | rw [← hr, sp_ge (leL (a := n) (b := j) c_9)]
        refine lv_iload_n hx hb dX11_readQuoted_29 rfl (lv_at hl 2 rfl) ?_
        refine lv_aload_n hx hb dX11_readQuoted_30 rfl (lv_at hl 0 rfl) ?_
        refine va_get (D := D) (ci := 11) (C := RX11) (T := TX11) (N := 37) hx hb hts in_X11 hown hK hP 0 rfl rfl 16 (by decide) fl_126 (fun _ h9 => h9) rfl dX11_readQuoted_31 ?_
        refine lv_icmp_ge (tgt := 57) hx hb dX11_readQuoted_34 (by decide) (fun c_34 => ?_) (fun c_34 => ?_)
        · have h_34 := leL (a := n) (b := j) c_34
          have ht : qTok n L p τ = (n, ad4 τ 6 (nI p) (nI (n - p)) (-1)) := by simp only [qTok, hse]; rw [if_pos h_34, show j = n by omega]
          refine lv_aload_n hx hb dX11_readQuoted_57 rfl (lv_at hl 0 rfl) ?_
          refine lv_bipush (v := 6) hx hb dX11_readQuoted_58 (by decide) ?_
          refine lv_iload_n hx hb dX11_readQuoted_60 rfl (lv_at hl 1 rfl) ?_
          refine lv_aload_n hx hb dX11_readQuoted_61 rfl (lv_at hl 0 rfl) ?_
          refine va_get (D := D) (ci := 11) (C := RX11) (T := TX11) (N := 37) hx hb hts in_X11 hown hK hP 0 rfl rfl 16 (by decide) fl_126 (fun _ h9 => h9) rfl dX11_readQuoted_62 ?_
          refine lv_iload_n hx hb dX11_readQuoted_65 rfl (lv_at hl 1 rfl) ?_
          refine lv_isub hx hb dX11_readQuoted_66 ?_
          refine topi_eq (nI_sub1 (by omega)) ?_
          refine lv_iconst (v := -1) hx hb dX11_readQuoted_67 (by decide) ?_
          refine mu_V (n := 4) X hK (c_X11_add hτ) gX11_readQuoted_X11_add rfl (by decide +kernel) ⟨rfl, rfl⟩ ⟨Nat.le_of_ble_eq_true rfl, Nat.le_of_ble_eq_true rfl⟩ [0, 1, 2, 3, 4] rfl rfl rfl rfl hA hP hD hS (va_recv hK hP (ci := 11) (q0 := 0) rfl rfl) rfl hl.1 rfl (Nat.le_of_ble_eq_true rfl) dX11_readQuoted_68 ⟨Nat.zero_le _, Nat.zero_le _⟩ (fun H locs hP hD hS => ?_)
          have hP : va_P D vwCl [(m, .inr (11, [_, .ref (a 1), .ref (a 2), _, _, _, .ref (a 6), .ref (a 7), .ref (a 8), .ref (a 9), .ref (a 10), .ref (a 11), .ref (a 12), .ref (a 13), .ref (a 14), .ref (a 15), _, _, .ref (a 18), .ref (a 19), .ref (a 20), .ref (a 21), .ref (a 22), .ref (a 23), .ref (a 24), .ref (a 25), _, _, .ref (a 28), _, _, .ref (a 31), .ref (a 32), .ref (a 33), _, _, _])), ((a 22), .inl (cI, 24, .inl _)), ((a 23), .inl (cI, 24, .inl _)), ((a 24), .inl (cI, 24, .inl _)), ((a 25), .inl (cI, 24, .inl _)), ((a 15), .inl (cI, 80, .inl _))] H := hP
          have hD : va_D A [(m, .inr (11, [_, .ref (a 1), .ref (a 2), _, _, _, .ref (a 6), .ref (a 7), .ref (a 8), .ref (a 9), .ref (a 10), .ref (a 11), .ref (a 12), .ref (a 13), .ref (a 14), .ref (a 15), _, _, .ref (a 18), .ref (a 19), .ref (a 20), .ref (a 21), .ref (a 22), .ref (a 23), .ref (a 24), .ref (a 25), _, _, .ref (a 28), _, _, .ref (a 31), .ref (a 32), .ref (a 33), _, _, _])), ((a 22), .inl (cI, 24, .inl _)), ((a 23), .inl (cI, 24, .inl _)), ((a 24), .inl (cI, 24, .inl _)), ((a 25), .inl (cI, 24, .inl _)), ((a 15), .inl (cI, 80, .inl _))] := hD
          refine lv_aload_n hx hb dX11_readQuoted_71 rfl (lv_at hl 0 rfl) ?_
          refine va_get (D := D) (ci := 11) (C := RX11) (T := TX11) (N := 37) hx hb hts in_X11 hown hK hP 0 rfl rfl 16 (by decide) fl_126 (fun _ h9 => h9) rfl dX11_readQuoted_72 ?_
          exact mu_iret X hP hS (by rw [ht]) (by rw [ht]) dX11_readQuoted_75
        · have h_34 := leN (a := n) (b := j) c_34
          have ht : qTok n L p τ = (j + 1, ad4 τ 4 (nI p) (nI (j + 1 - p)) (nI (j - p - 1))) := by simp only [qTok, hse]; rw [if_neg (by omega)]
          refine lv_aload_n hx hb dX11_readQuoted_37 rfl (lv_at hl 0 rfl) ?_
          refine lv_iconst (v := 4) hx hb dX11_readQuoted_38 (by decide) ?_
          refine lv_iload_n hx hb dX11_readQuoted_39 rfl (lv_at hl 1 rfl) ?_
          refine lv_iload_n hx hb dX11_readQuoted_40 rfl (lv_at hl 2 rfl) ?_
          refine lv_iconst (v := 1) hx hb dX11_readQuoted_41 (by decide) ?_
          refine lv_iadd hx hb dX11_readQuoted_42 ?_
          refine topi_eq (nI_1 j) ?_
          refine lv_iload_n hx hb dX11_readQuoted_43 rfl (lv_at hl 1 rfl) ?_
          refine lv_isub hx hb dX11_readQuoted_44 ?_
          refine topi_eq (nI_sub1 (by omega)) ?_
          refine lv_iload_n hx hb dX11_readQuoted_45 rfl (lv_at hl 2 rfl) ?_
          refine lv_iload_n hx hb dX11_readQuoted_46 rfl (lv_at hl 1 rfl) ?_
          refine lv_isub hx hb dX11_readQuoted_47 ?_
          refine topi_eq (nI_sub1 (by omega)) ?_
          refine lv_iconst (v := 1) hx hb dX11_readQuoted_48 (by decide) ?_
          refine lv_isub hx hb dX11_readQuoted_49 ?_
          refine topi_eq (nI_sub1 (p := 1) (by omega)) ?_
          refine mu_V (n := 4) X hK (c_X11_add hτ) gX11_readQuoted_X11_add rfl (by decide +kernel) ⟨rfl, rfl⟩ ⟨Nat.le_of_ble_eq_true rfl, Nat.le_of_ble_eq_true rfl⟩ [0, 1, 2, 3, 4] rfl rfl rfl rfl hA hP hD hS (va_recv hK hP (ci := 11) (q0 := 0) rfl rfl) rfl hl.1 rfl (Nat.le_of_ble_eq_true rfl) dX11_readQuoted_50 ⟨Nat.zero_le _, Nat.zero_le _⟩ (fun H locs hP hD hS => ?_)
          have hP : va_P D vwCl [(m, .inr (11, [_, .ref (a 1), .ref (a 2), _, _, _, .ref (a 6), .ref (a 7), .ref (a 8), .ref (a 9), .ref (a 10), .ref (a 11), .ref (a 12), .ref (a 13), .ref (a 14), .ref (a 15), _, _, .ref (a 18), .ref (a 19), .ref (a 20), .ref (a 21), .ref (a 22), .ref (a 23), .ref (a 24), .ref (a 25), _, _, .ref (a 28), _, _, .ref (a 31), .ref (a 32), .ref (a 33), _, _, _])), ((a 22), .inl (cI, 24, .inl _)), ((a 23), .inl (cI, 24, .inl _)), ((a 24), .inl (cI, 24, .inl _)), ((a 25), .inl (cI, 24, .inl _)), ((a 15), .inl (cI, 80, .inl _))] H := hP
          have hD : va_D A [(m, .inr (11, [_, .ref (a 1), .ref (a 2), _, _, _, .ref (a 6), .ref (a 7), .ref (a 8), .ref (a 9), .ref (a 10), .ref (a 11), .ref (a 12), .ref (a 13), .ref (a 14), .ref (a 15), _, _, .ref (a 18), .ref (a 19), .ref (a 20), .ref (a 21), .ref (a 22), .ref (a 23), .ref (a 24), .ref (a 25), _, _, .ref (a 28), _, _, .ref (a 31), .ref (a 32), .ref (a 33), _, _, _])), ((a 22), .inl (cI, 24, .inl _)), ((a 23), .inl (cI, 24, .inl _)), ((a 24), .inl (cI, 24, .inl _)), ((a 25), .inl (cI, 24, .inl _)), ((a 15), .inl (cI, 80, .inl _))] := hD
          refine lv_iload_n hx hb dX11_readQuoted_53 rfl (lv_at hl 2 rfl) ?_
          refine lv_iconst (v := 1) hx hb dX11_readQuoted_54 (by decide) ?_
          refine lv_iadd hx hb dX11_readQuoted_55 ?_
          refine topi_eq (nI_1 j) ?_
          exact mu_iret X hP hS (by rw [ht]) (by rw [ht]) dX11_readQuoted_56
      · have hlt : j < n := lt_nge c_9 hj (by omega)
        refine lv_aload_n hx hb dX11_readQuoted_12 rfl (lv_at hl 0 rfl) ?_
        refine va_get (D := D) (ci := 11) (C := RX11) (T := TX11) (N := 37) hx hb hts in_X11 hown hK hP 0 rfl rfl 15 (by decide) fl_43 (fun _ h9 => h9) rfl dX11_readQuoted_13 ?_
        refine lv_iload_n hx hb dX11_readQuoted_16 rfl (lv_at hl 2 rfl) ?_
        refine ald_n hx hb hK hP 5 0 rfl rfl (show j < 80 by omega) (by first | decide | omega) dX11_readQuoted_17 ?_
        refine lv_bipush (v := 34) hx hb dX11_readQuoted_18 (by decide) ?_
        refine lv_icmp_eq (tgt := 29) hx hb dX11_readQuoted_20 (by decide) (fun c_20 => ?_) (fun c_20 => ?_)
        · have hse : sp nQu L n (p + 1) = j := by first | rw [← hr, sp_f hlt (by simp [nQu, c_20])] | rw [← hr, sp_ge (leL (a := n) (b := j) c_9)]
          refine lv_iload_n hx hb dX11_readQuoted_29 rfl (lv_at hl 2 rfl) ?_
          refine lv_aload_n hx hb dX11_readQuoted_30 rfl (lv_at hl 0 rfl) ?_
          refine va_get (D := D) (ci := 11) (C := RX11) (T := TX11) (N := 37) hx hb hts in_X11 hown hK hP 0 rfl rfl 16 (by decide) fl_126 (fun _ h9 => h9) rfl dX11_readQuoted_31 ?_
          refine lv_icmp_ge (tgt := 57) hx hb dX11_readQuoted_34 (by decide) (fun c_34 => ?_) (fun c_34 => ?_)
          · have h_34 := leL (a := n) (b := j) c_34
            have ht : qTok n L p τ = (n, ad4 τ 6 (nI p) (nI (n - p)) (-1)) := by simp only [qTok, hse]; rw [if_pos h_34, show j = n by omega]
            refine lv_aload_n hx hb dX11_readQuoted_57 rfl (lv_at hl 0 rfl) ?_
            refine lv_bipush (v := 6) hx hb dX11_readQuoted_58 (by decide) ?_
            refine lv_iload_n hx hb dX11_readQuoted_60 rfl (lv_at hl 1 rfl) ?_
            refine lv_aload_n hx hb dX11_readQuoted_61 rfl (lv_at hl 0 rfl) ?_
            refine va_get (D := D) (ci := 11) (C := RX11) (T := TX11) (N := 37) hx hb hts in_X11 hown hK hP 0 rfl rfl 16 (by decide) fl_126 (fun _ h9 => h9) rfl dX11_readQuoted_62 ?_
            refine lv_iload_n hx hb dX11_readQuoted_65 rfl (lv_at hl 1 rfl) ?_
            refine lv_isub hx hb dX11_readQuoted_66 ?_
            refine topi_eq (nI_sub1 (by omega)) ?_
            refine lv_iconst (v := -1) hx hb dX11_readQuoted_67 (by decide) ?_
            refine mu_V (n := 4) X hK (c_X11_add hτ) gX11_readQuoted_X11_add rfl (by decide +kernel) ⟨rfl, rfl⟩ ⟨Nat.le_of_ble_eq_true rfl, Nat.le_of_ble_eq_true rfl⟩ [0, 1, 2, 3, 4] rfl rfl rfl rfl hA hP hD hS (va_recv hK hP (ci := 11) (q0 := 0) rfl rfl) rfl hl.1 rfl (Nat.le_of_ble_eq_true rfl) dX11_readQuoted_68 ⟨Nat.zero_le _, Nat.zero_le _⟩ (fun H locs hP hD hS => ?_)
            have hP : va_P D vwCl [(m, .inr (11, [_, .ref (a 1), .ref (a 2), _, _, _, .ref (a 6), .ref (a 7), .ref (a 8), .ref (a 9), .ref (a 10), .ref (a 11), .ref (a 12), .ref (a 13), .ref (a 14), .ref (a 15), _, _, .ref (a 18), .ref (a 19), .ref (a 20), .ref (a 21), .ref (a 22), .ref (a 23), .ref (a 24), .ref (a 25), _, _, .ref (a 28), _, _, .ref (a 31), .ref (a 32), .ref (a 33), _, _, _])), ((a 22), .inl (cI, 24, .inl _)), ((a 23), .inl (cI, 24, .inl _)), ((a 24), .inl (cI, 24, .inl _)), ((a 25), .inl (cI, 24, .inl _)), ((a 15), .inl (cI, 80, .inl _))] H := hP
            have hD : va_D A [(m, .inr (11, [_, .ref (a 1), .ref (a 2), _, _, _, .ref (a 6), .ref (a 7), .ref (a 8), .ref (a 9), .ref (a 10), .ref (a 11), .ref (a 12), .ref (a 13), .ref (a 14), .ref (a 15), _, _, .ref (a 18), .ref (a 19), .ref (a 20), .ref (a 21), .ref (a 22), .ref (a 23), .ref (a 24), .ref (a 25), _, _, .ref (a 28), _, _, .ref (a 31), .ref (a 32), .ref (a 33), _, _, _])), ((a 22), .inl (cI, 24, .inl _)), ((a 23), .inl (cI, 24, .inl _)), ((a 24), .inl (cI, 24, .inl _)), ((a 25), .inl (cI, 24, .inl _)), ((a 15), .inl (cI, 80, .inl _))] := hD
            refine lv_aload_n hx hb dX11_readQuoted_71 rfl (lv_at hl 0 rfl) ?_
            refine va_get (D := D) (ci := 11) (C := RX11) (T := TX11) (N := 37) hx hb hts in_X11 hown hK hP 0 rfl rfl 16 (by decide) fl_126 (fun _ h9 => h9) rfl dX11_readQuoted_72 ?_
            exact mu_iret X hP hS (by rw [ht]) (by rw [ht]) dX11_readQuoted_75
          · have h_34 := leN (a := n) (b := j) c_34
            have ht : qTok n L p τ = (j + 1, ad4 τ 4 (nI p) (nI (j + 1 - p)) (nI (j - p - 1))) := by simp only [qTok, hse]; rw [if_neg (by omega)]
            refine lv_aload_n hx hb dX11_readQuoted_37 rfl (lv_at hl 0 rfl) ?_
            refine lv_iconst (v := 4) hx hb dX11_readQuoted_38 (by decide) ?_
            refine lv_iload_n hx hb dX11_readQuoted_39 rfl (lv_at hl 1 rfl) ?_
            refine lv_iload_n hx hb dX11_readQuoted_40 rfl (lv_at hl 2 rfl) ?_
            refine lv_iconst (v := 1) hx hb dX11_readQuoted_41 (by decide) ?_
            refine lv_iadd hx hb dX11_readQuoted_42 ?_
            refine topi_eq (nI_1 j) ?_
            refine lv_iload_n hx hb dX11_readQuoted_43 rfl (lv_at hl 1 rfl) ?_
            refine lv_isub hx hb dX11_readQuoted_44 ?_
            refine topi_eq (nI_sub1 (by omega)) ?_
            refine lv_iload_n hx hb dX11_readQuoted_45 rfl (lv_at hl 2 rfl) ?_
            refine lv_iload_n hx hb dX11_readQuoted_46 rfl (lv_at hl 1 rfl) ?_
            refine lv_isub hx hb dX11_readQuoted_47 ?_
            refine topi_eq (nI_sub1 (by omega)) ?_
            refine lv_iconst (v := 1) hx hb dX11_readQuoted_48 (by decide) ?_
            refine lv_isub hx hb dX11_readQuoted_49 ?_
            refine topi_eq (nI_sub1 (p := 1) (by omega)) ?_
            refine mu_V (n := 4) X hK (c_X11_add hτ) gX11_readQuoted_X11_add rfl (by decide +kernel) ⟨rfl, rfl⟩ ⟨Nat.le_of_ble_eq_true rfl, Nat.le_of_ble_eq_true rfl⟩ [0, 1, 2, 3, 4] rfl rfl rfl rfl hA hP hD hS (va_recv hK hP (ci := 11) (q0 := 0) rfl rfl) rfl hl.1 rfl (Nat.le_of_ble_eq_true rfl) dX11_readQuoted_50 ⟨Nat.zero_le _, Nat.zero_le _⟩ (fun H locs hP hD hS => ?_)
            have hP : va_P D vwCl [(m, .inr (11, [_, .ref (a 1), .ref (a 2), _, _, _, .ref (a 6), .ref (a 7), .ref (a 8), .ref (a 9), .ref (a 10), .ref (a 11), .ref (a 12), .ref (a 13), .ref (a 14), .ref (a 15), _, _, .ref (a 18), .ref (a 19), .ref (a 20), .ref (a 21), .ref (a 22), .ref (a 23), .ref (a 24), .ref (a 25), _, _, .ref (a 28), _, _, .ref (a 31), .ref (a 32), .ref (a 33), _, _, _])), ((a 22), .inl (cI, 24, .inl _)), ((a 23), .inl (cI, 24, .inl _)), ((a 24), .inl (cI, 24, .inl _)), ((a 25), .inl (cI, 24, .inl _)), ((a 15), .inl (cI, 80, .inl _))] H := hP
            have hD : va_D A [(m, .inr (11, [_, .ref (a 1), .ref (a 2), _, _, _, .ref (a 6), .ref (a 7), .ref (a 8), .ref (a 9), .ref (a 10), .ref (a 11), .ref (a 12), .ref (a 13), .ref (a 14), .ref (a 15), _, _, .ref (a 18), .ref (a 19), .ref (a 20), .ref (a 21), .ref (a 22), .ref (a 23), .ref (a 24), .ref (a 25), _, _, .ref (a 28), _, _, .ref (a 31), .ref (a 32), .ref (a 33), _, _, _])), ((a 22), .inl (cI, 24, .inl _)), ((a 23), .inl (cI, 24, .inl _)), ((a 24), .inl (cI, 24, .inl _)), ((a 25), .inl (cI, 24, .inl _)), ((a 15), .inl (cI, 80, .inl _))] := hD
            refine lv_iload_n hx hb dX11_readQuoted_53 rfl (lv_at hl 2 rfl) ?_
            refine lv_iconst (v := 1) hx hb dX11_readQuoted_54 (by decide) ?_
            refine lv_iadd hx hb dX11_readQuoted_55 ?_
            refine topi_eq (nI_1 j) ?_
            exact mu_iret X hP hS (by rw [ht]) (by rw [ht]) dX11_readQuoted_56
        · refine lv_iinc (v := (_ : Int32) + 1) (lv' := [(2, _), (0, _), (1, _)]) hx hb dX11_readQuoted_23 hl (k := 2) rfl rfl (by decide) rfl (fun ls hl => ?_)
          refine lv_goto (tgt := 4) hx hb dX11_readQuoted_26 (by decide) ?_
          rw [nI_1] at hl
          exact ih (j + 1) (by omega) (by omega) (by omega) (by rw [← hr, sp_t hlt (by simp [nQu, c_20])]) _ _ hP hD hS _ (lv_sub hl [1, 2, 0] rfl)
  exact loop_4 (n + 1) (p + 1) (by omega) (Nat.le_refl _) (by omega) rfl _ _ hP hD hS ls (lv_sub hl [1, 2, 0] rfl)

set_option maxHeartbeats 1000000 in
set_option maxRecDepth 100000 in
theorem c_X11_readTime {l : Launch} {D : va_G} {cI cJ cW : ClassId} {sz : Nat} {m : Nat} {a : Nat → Nat} {ct dn nw nj n tn tc mm : Nat} {τ : TS} {fu am pb : Int32} {L : Nat → Int32} {fo : Nat → Int32} {p c : Nat} (hn : n ≤ 80) (hτ : τ.1 ≤ 24) (hpc : p ≤ c) (hc3 : c + 3 ≤ n) (hd2 : ∀ i, c + 1 ≤ i → i < c + 3 → isDi (L i) = true) (hN1 : numN L p (c - p) 0 ≤ 23) (hN2 : numN L (c + 1) 2 0 ≤ 59) : MU l yX11_readTime wsX11_readTime { frames := 2, cells := 0, slots := 0, locals := 43 } D (ty3 cI cJ cW) [.ref m, .int (nI p), .int (nI c), .int (nI (numN L p (c - p) 0))] [(m, .inr (11, [.int (nI ct), .ref (a 1), .ref (a 2), .int (nI dn), .int (nI nw), .int (nI nj), .ref (a 6), .ref (a 7), .ref (a 8), .ref (a 9), .ref (a 10), .ref (a 11), .ref (a 12), .ref (a 13), .ref (a 14), .ref (a 15), .int (nI n), .int (nI tn), .ref (a 18), .ref (a 19), .ref (a 20), .ref (a 21), .ref (a 22), .ref (a 23), .ref (a 24), .ref (a 25), .int (nI τ.1), .int (τ.2.1), .ref (a 28), .int (nI tc), .int (nI mm), .ref (a 31), .ref (a 32), .ref (a 33), .int (fu), .int (am), .int (pb)])), ((a 22), .inl (cI, 24, .inl (τ.2.2 1))), ((a 23), .inl (cI, 24, .inl (τ.2.2 2))), ((a 24), .inl (cI, 24, .inl (τ.2.2 3))), ((a 25), .inl (cI, 24, .inl (τ.2.2 4))), ((a 15), .inl (cI, 80, .inl L)), ((a 1), .inl (cI, 32, .inl fo))] sz (some (.int (nI (tTok (foC fo) n L p c τ).1))) [(m, .inr (11, [.int (nI ct), .ref (a 1), .ref (a 2), .int (nI dn), .int (nI nw), .int (nI nj), .ref (a 6), .ref (a 7), .ref (a 8), .ref (a 9), .ref (a 10), .ref (a 11), .ref (a 12), .ref (a 13), .ref (a 14), .ref (a 15), .int (nI n), .int (nI tn), .ref (a 18), .ref (a 19), .ref (a 20), .ref (a 21), .ref (a 22), .ref (a 23), .ref (a 24), .ref (a 25), .int (nI (tTok (foC fo) n L p c τ).2.1), .int ((tTok (foC fo) n L p c τ).2.2.1), .ref (a 28), .int (nI tc), .int (nI mm), .ref (a 31), .ref (a 32), .ref (a 33), .int (fu), .int (am), .int (pb)])), ((a 22), .inl (cI, 24, .inl ((tTok (foC fo) n L p c τ).2.2.2 1))), ((a 23), .inl (cI, 24, .inl ((tTok (foC fo) n L p c τ).2.2.2 2))), ((a 24), .inl (cI, 24, .inl ((tTok (foC fo) n L p c τ).2.2.2 3))), ((a 25), .inl (cI, 24, .inl ((tTok (foC fo) n L p c τ).2.2.2 4))), ((a 15), .inl (cI, 80, .inl L)), ((a 1), .inl (cI, 32, .inl fo))] := by
  refine mu_of (cc := cX11_readTime) (maxL := 8) (ret := (some .int)) (by decide) rfl (Nat.le_of_ble_eq_true rfl) ?_
  intro pr en ss mi below meth cd X hK A hA hP hD hS ls hl
  obtain ⟨hx, hb, hml, hown, hts, hr, hlocks⟩ := id X
  have hl : lv_has ls 8 [(0, .ref m), (1, .int (nI p)), (2, .int (nI c)), (3, .int (nI (numN L p (c - p) 0)))] := hl
  refine lv_iload_n hx hb dX11_readTime_0 rfl (lv_at hl 2 rfl) ?_
  refine lv_iconst (v := 3) hx hb dX11_readTime_1 (by decide) ?_
  refine lv_iadd hx hb dX11_readTime_2 ?_
  refine topi_eq (nI_add c 3) ?_
  refine lv_istore (lv' := [(4, _), (0, _), (1, _), (2, _), (3, _)]) hx hb dX11_readTime_3 hl (by decide) rfl (fun ls hl => ?_)
  refine lv_iload_n hx hb dX11_readTime_5 rfl (lv_at hl 4 rfl) ?_
  refine lv_istore (lv' := [(5, _), (4, _), (0, _), (1, _), (2, _), (3, _)]) hx hb dX11_readTime_6 hl (by decide) rfl (fun ls hl => ?_)
  refine lv_aload_n hx hb dX11_readTime_8 rfl (lv_at hl 2 rfl) ?_
  refine lv_iload hx hb dX11_readTime_9 (lv_at hl 1 rfl) ?_
  refine ro_V (n := 1) X hK (c_X11_byteAt hn (by omega)) gX11_readTime_X11_byteAt rfl (by decide +kernel) ⟨rfl, rfl⟩ ⟨Nat.le_of_ble_eq_true rfl, Nat.le_of_ble_eq_true rfl⟩ (hP.sub [0, 5] rfl) (va_recv hK hP (ci := 11) (q0 := 0) rfl rfl) rfl hl.1 rfl (Nat.le_of_ble_eq_true rfl) dX11_readTime_11 ⟨Nat.zero_le _, Nat.zero_le _⟩ ?_
  refine ro_S (n := 1) X hK (c_X11_isLetter) gX11_readTime_X11_isLetter rfl (by decide +kernel) ⟨rfl, rfl⟩ ⟨Nat.le_of_ble_eq_true rfl, Nat.le_of_ble_eq_true rfl⟩ (hP.sub [] rfl) rfl hl.1 rfl (Nat.le_of_ble_eq_true rfl) dX11_readTime_14 ⟨Nat.zero_le _, Nat.zero_le _⟩ ?_
  refine lv_if_eq (tgt := 33) hx hb dX11_readTime_17 (by decide) (fun c_17 => ?_) (fun c_17 => ?_)
  · replace c_17 := bI_0.mp c_17
    refine lv_iconst (v := 0) hx hb dX11_readTime_33 (by decide) ?_
    refine lv_istore (lv' := [(6, _), (5, _), (4, _), (0, _), (1, _), (2, _), (3, _)]) hx hb dX11_readTime_34 hl (by decide) rfl (fun ls hl => ?_)
    refine lv_aload_n hx hb dX11_readTime_36 rfl (lv_at hl 3 rfl) ?_
    refine lv_iload hx hb dX11_readTime_37 (lv_at hl 2 rfl) ?_
    refine lv_iconst (v := 1) hx hb dX11_readTime_39 (by decide) ?_
    refine lv_iadd hx hb dX11_readTime_40 ?_
    refine topi_eq (nI_1 (c + 3)) ?_
    refine ro_V (n := 1) X hK (c_X11_byteAt hn (by omega)) gX11_readTime_X11_byteAt rfl (by decide +kernel) ⟨rfl, rfl⟩ ⟨Nat.le_of_ble_eq_true rfl, Nat.le_of_ble_eq_true rfl⟩ (hP.sub [0, 5] rfl) (va_recv hK hP (ci := 11) (q0 := 0) rfl rfl) rfl hl.1 rfl (Nat.le_of_ble_eq_true rfl) dX11_readTime_41 ⟨Nat.zero_le _, Nat.zero_le _⟩ ?_
    refine ro_S (n := 1) X hK (c_X11_isLetter) gX11_readTime_X11_isLetter rfl (by decide +kernel) ⟨rfl, rfl⟩ ⟨Nat.le_of_ble_eq_true rfl, Nat.le_of_ble_eq_true rfl⟩ (hP.sub [] rfl) rfl hl.1 rfl (Nat.le_of_ble_eq_true rfl) dX11_readTime_44 ⟨Nat.zero_le _, Nat.zero_le _⟩ ?_
    refine lv_if_eq (tgt := 65) hx hb dX11_readTime_47 (by decide) (fun c_47 => ?_) (fun c_47 => ?_)
    · replace c_47 := bI_0.mp c_47
      refine lv_iconst (v := 0) hx hb dX11_readTime_65 (by decide) ?_
      refine lv_istore (lv' := [(7, _), (6, _), (5, _), (4, _), (0, _), (1, _), (2, _), (3, _)]) hx hb dX11_readTime_66 hl (by decide) rfl (fun ls hl => ?_)
      refine lv_iload hx hb dX11_readTime_68 (lv_at hl 1 rfl) ?_
      refine lv_bipush (v := 97) hx hb dX11_readTime_70 (by decide) ?_
      refine lv_icmp_eq (tgt := 82) hx hb dX11_readTime_72 (by decide) (fun c_72 => absurd c_72 (by decide)) (fun _ => ?_)
      refine lv_iload hx hb dX11_readTime_75 (lv_at hl 1 rfl) ?_
      refine lv_bipush (v := 112) hx hb dX11_readTime_77 (by decide) ?_
      refine lv_icmp_ne (tgt := 136) hx hb dX11_readTime_79 (by decide) (fun _ => ?_) (fun c_79 => absurd c_79 (by decide))
      have ht : tTok (foC fo) n L p c τ = (c + 3, ad4 τ 3 (nI p) (nI (c + 3 - p)) (nI (60 * numN L p (c - p) 0 + numN L (c + 1) 2 0))) := if_neg (fun q => by have hh := q.2.2; rw [hd_m] at hh; simp only [ltO] at hh; simp [c_17, c_47] at hh)
      refine lv_aload_n hx hb dX11_readTime_136 rfl (lv_at hl 4 rfl) ?_
      refine lv_iconst (v := 3) hx hb dX11_readTime_137 (by decide) ?_
      refine lv_iload_n hx hb dX11_readTime_138 rfl (lv_at hl 5 rfl) ?_
      refine lv_iload hx hb dX11_readTime_139 (lv_at hl 3 rfl) ?_
      refine lv_iload_n hx hb dX11_readTime_141 rfl (lv_at hl 5 rfl) ?_
      refine lv_isub hx hb dX11_readTime_142 ?_
      refine topi_eq (nI_sub1 (by omega)) ?_
      refine lv_bipush (v := 60) hx hb dX11_readTime_143 (by decide) ?_
      refine lv_iload hx hb dX11_readTime_145 (lv_at hl 2 rfl) ?_
      refine lv_imul hx hb dX11_readTime_147 ?_
      refine lv_aload_n hx hb dX11_readTime_148 rfl (lv_at hl 4 rfl) ?_
      refine lv_iload_n hx hb dX11_readTime_149 rfl (lv_at hl 6 rfl) ?_
      refine lv_iconst (v := 1) hx hb dX11_readTime_150 (by decide) ?_
      refine lv_iadd hx hb dX11_readTime_151 ?_
      refine topi_eq (nI_1 c) ?_
      refine lv_iload_n hx hb dX11_readTime_152 rfl (lv_at hl 6 rfl) ?_
      refine lv_iconst (v := 3) hx hb dX11_readTime_153 (by decide) ?_
      refine lv_iadd hx hb dX11_readTime_154 ?_
      refine topi_eq (nI_add c 3) ?_
      refine ro_V (n := 2) X hK (c_X11_numberOf hn hc3 (by omega) hd2) gX11_readTime_X11_numberOf rfl (by decide +kernel) ⟨rfl, rfl⟩ ⟨Nat.le_of_ble_eq_true rfl, Nat.le_of_ble_eq_true rfl⟩ (hP.sub [0, 5] rfl) (va_recv hK hP (ci := 11) (q0 := 0) rfl rfl) rfl hl.1 rfl (Nat.le_of_ble_eq_true rfl) dX11_readTime_155 ⟨Nat.zero_le _, Nat.zero_le _⟩ ?_
      rw [show c + 3 - (c + 1) = 2 by omega, Nat.min_eq_left (show numN L (c + 1) 2 0 ≤ 99999 by omega)]
      refine lv_iadd hx hb dX11_readTime_158 ?_
      refine topi_eq (tm2 _ _) ?_
      refine mu_V (n := 4) X hK (c_X11_add hτ) gX11_readTime_X11_add rfl (by decide +kernel) ⟨rfl, rfl⟩ ⟨Nat.le_of_ble_eq_true rfl, Nat.le_of_ble_eq_true rfl⟩ [0, 1, 2, 3, 4] rfl rfl rfl rfl hA hP hD hS (va_recv hK hP (ci := 11) (q0 := 0) rfl rfl) rfl hl.1 rfl (Nat.le_of_ble_eq_true rfl) dX11_readTime_159 ⟨Nat.zero_le _, Nat.zero_le _⟩ (fun H locs hP hD hS => ?_)
      have hP : va_P D vwCl [(m, .inr (11, [_, .ref (a 1), .ref (a 2), _, _, _, .ref (a 6), .ref (a 7), .ref (a 8), .ref (a 9), .ref (a 10), .ref (a 11), .ref (a 12), .ref (a 13), .ref (a 14), .ref (a 15), _, _, .ref (a 18), .ref (a 19), .ref (a 20), .ref (a 21), .ref (a 22), .ref (a 23), .ref (a 24), .ref (a 25), _, _, .ref (a 28), _, _, .ref (a 31), .ref (a 32), .ref (a 33), _, _, _])), ((a 22), .inl (cI, 24, .inl _)), ((a 23), .inl (cI, 24, .inl _)), ((a 24), .inl (cI, 24, .inl _)), ((a 25), .inl (cI, 24, .inl _)), ((a 15), .inl (cI, 80, .inl _)), ((a 1), .inl (cI, 32, .inl _))] H := hP
      have hD : va_D A [(m, .inr (11, [_, .ref (a 1), .ref (a 2), _, _, _, .ref (a 6), .ref (a 7), .ref (a 8), .ref (a 9), .ref (a 10), .ref (a 11), .ref (a 12), .ref (a 13), .ref (a 14), .ref (a 15), _, _, .ref (a 18), .ref (a 19), .ref (a 20), .ref (a 21), .ref (a 22), .ref (a 23), .ref (a 24), .ref (a 25), _, _, .ref (a 28), _, _, .ref (a 31), .ref (a 32), .ref (a 33), _, _, _])), ((a 22), .inl (cI, 24, .inl _)), ((a 23), .inl (cI, 24, .inl _)), ((a 24), .inl (cI, 24, .inl _)), ((a 25), .inl (cI, 24, .inl _)), ((a 15), .inl (cI, 80, .inl _)), ((a 1), .inl (cI, 32, .inl _))] := hD
      refine lv_iload hx hb dX11_readTime_162 (lv_at hl 3 rfl) ?_
      exact mu_iret X hP hS (by rw [ht]) (by rw [ht]) dX11_readTime_164
    · replace c_47 := bI_n0.mp c_47
      refine lv_aload_n hx hb dX11_readTime_50 rfl (lv_at hl 3 rfl) ?_
      refine lv_aload_n hx hb dX11_readTime_51 rfl (lv_at hl 3 rfl) ?_
      refine lv_iload hx hb dX11_readTime_52 (lv_at hl 2 rfl) ?_
      refine lv_iconst (v := 1) hx hb dX11_readTime_54 (by decide) ?_
      refine lv_iadd hx hb dX11_readTime_55 ?_
      refine topi_eq (nI_1 (c + 3)) ?_
      refine ro_V (n := 1) X hK (c_X11_byteAt hn (by omega)) gX11_readTime_X11_byteAt rfl (by decide +kernel) ⟨rfl, rfl⟩ ⟨Nat.le_of_ble_eq_true rfl, Nat.le_of_ble_eq_true rfl⟩ (hP.sub [0, 5] rfl) (va_recv hK hP (ci := 11) (q0 := 0) rfl rfl) rfl hl.1 rfl (Nat.le_of_ble_eq_true rfl) dX11_readTime_56 ⟨Nat.zero_le _, Nat.zero_le _⟩ ?_
      refine ro_V (n := 1) X hK (c_X11_folded c_47) gX11_readTime_X11_folded rfl (by decide +kernel) ⟨rfl, rfl⟩ ⟨Nat.le_of_ble_eq_true rfl, Nat.le_of_ble_eq_true rfl⟩ (hP.sub [0, 6] rfl) (va_recv hK hP (ci := 11) (q0 := 0) rfl rfl) rfl hl.1 rfl (Nat.le_of_ble_eq_true rfl) dX11_readTime_59 ⟨Nat.zero_le _, Nat.zero_le _⟩ ?_
      refine lv_goto (tgt := 66) hx hb dX11_readTime_62 (by decide) ?_
      refine lv_istore (lv' := [(7, _), (6, _), (5, _), (4, _), (0, _), (1, _), (2, _), (3, _)]) hx hb dX11_readTime_66 hl (by decide) rfl (fun ls hl => ?_)
      refine lv_iload hx hb dX11_readTime_68 (lv_at hl 1 rfl) ?_
      refine lv_bipush (v := 97) hx hb dX11_readTime_70 (by decide) ?_
      refine lv_icmp_eq (tgt := 82) hx hb dX11_readTime_72 (by decide) (fun c_72 => absurd c_72 (by decide)) (fun _ => ?_)
      refine lv_iload hx hb dX11_readTime_75 (lv_at hl 1 rfl) ?_
      refine lv_bipush (v := 112) hx hb dX11_readTime_77 (by decide) ?_
      refine lv_icmp_ne (tgt := 136) hx hb dX11_readTime_79 (by decide) (fun _ => ?_) (fun c_79 => absurd c_79 (by decide))
      have ht : tTok (foC fo) n L p c τ = (c + 3, ad4 τ 3 (nI p) (nI (c + 3 - p)) (nI (60 * numN L p (c - p) 0 + numN L (c + 1) 2 0))) := if_neg (fun q => by have hh := q.2.2; rw [hd_m] at hh; simp only [ltO] at hh; simp [c_17, c_47] at hh)
      refine lv_aload_n hx hb dX11_readTime_136 rfl (lv_at hl 4 rfl) ?_
      refine lv_iconst (v := 3) hx hb dX11_readTime_137 (by decide) ?_
      refine lv_iload_n hx hb dX11_readTime_138 rfl (lv_at hl 5 rfl) ?_
      refine lv_iload hx hb dX11_readTime_139 (lv_at hl 3 rfl) ?_
      refine lv_iload_n hx hb dX11_readTime_141 rfl (lv_at hl 5 rfl) ?_
      refine lv_isub hx hb dX11_readTime_142 ?_
      refine topi_eq (nI_sub1 (by omega)) ?_
      refine lv_bipush (v := 60) hx hb dX11_readTime_143 (by decide) ?_
      refine lv_iload hx hb dX11_readTime_145 (lv_at hl 2 rfl) ?_
      refine lv_imul hx hb dX11_readTime_147 ?_
      refine lv_aload_n hx hb dX11_readTime_148 rfl (lv_at hl 4 rfl) ?_
      refine lv_iload_n hx hb dX11_readTime_149 rfl (lv_at hl 6 rfl) ?_
      refine lv_iconst (v := 1) hx hb dX11_readTime_150 (by decide) ?_
      refine lv_iadd hx hb dX11_readTime_151 ?_
      refine topi_eq (nI_1 c) ?_
      refine lv_iload_n hx hb dX11_readTime_152 rfl (lv_at hl 6 rfl) ?_
      refine lv_iconst (v := 3) hx hb dX11_readTime_153 (by decide) ?_
      refine lv_iadd hx hb dX11_readTime_154 ?_
      refine topi_eq (nI_add c 3) ?_
      refine ro_V (n := 2) X hK (c_X11_numberOf hn hc3 (by omega) hd2) gX11_readTime_X11_numberOf rfl (by decide +kernel) ⟨rfl, rfl⟩ ⟨Nat.le_of_ble_eq_true rfl, Nat.le_of_ble_eq_true rfl⟩ (hP.sub [0, 5] rfl) (va_recv hK hP (ci := 11) (q0 := 0) rfl rfl) rfl hl.1 rfl (Nat.le_of_ble_eq_true rfl) dX11_readTime_155 ⟨Nat.zero_le _, Nat.zero_le _⟩ ?_
      rw [show c + 3 - (c + 1) = 2 by omega, Nat.min_eq_left (show numN L (c + 1) 2 0 ≤ 99999 by omega)]
      refine lv_iadd hx hb dX11_readTime_158 ?_
      refine topi_eq (tm2 _ _) ?_
      refine mu_V (n := 4) X hK (c_X11_add hτ) gX11_readTime_X11_add rfl (by decide +kernel) ⟨rfl, rfl⟩ ⟨Nat.le_of_ble_eq_true rfl, Nat.le_of_ble_eq_true rfl⟩ [0, 1, 2, 3, 4] rfl rfl rfl rfl hA hP hD hS (va_recv hK hP (ci := 11) (q0 := 0) rfl rfl) rfl hl.1 rfl (Nat.le_of_ble_eq_true rfl) dX11_readTime_159 ⟨Nat.zero_le _, Nat.zero_le _⟩ (fun H locs hP hD hS => ?_)
      have hP : va_P D vwCl [(m, .inr (11, [_, .ref (a 1), .ref (a 2), _, _, _, .ref (a 6), .ref (a 7), .ref (a 8), .ref (a 9), .ref (a 10), .ref (a 11), .ref (a 12), .ref (a 13), .ref (a 14), .ref (a 15), _, _, .ref (a 18), .ref (a 19), .ref (a 20), .ref (a 21), .ref (a 22), .ref (a 23), .ref (a 24), .ref (a 25), _, _, .ref (a 28), _, _, .ref (a 31), .ref (a 32), .ref (a 33), _, _, _])), ((a 22), .inl (cI, 24, .inl _)), ((a 23), .inl (cI, 24, .inl _)), ((a 24), .inl (cI, 24, .inl _)), ((a 25), .inl (cI, 24, .inl _)), ((a 15), .inl (cI, 80, .inl _)), ((a 1), .inl (cI, 32, .inl _))] H := hP
      have hD : va_D A [(m, .inr (11, [_, .ref (a 1), .ref (a 2), _, _, _, .ref (a 6), .ref (a 7), .ref (a 8), .ref (a 9), .ref (a 10), .ref (a 11), .ref (a 12), .ref (a 13), .ref (a 14), .ref (a 15), _, _, .ref (a 18), .ref (a 19), .ref (a 20), .ref (a 21), .ref (a 22), .ref (a 23), .ref (a 24), .ref (a 25), _, _, .ref (a 28), _, _, .ref (a 31), .ref (a 32), .ref (a 33), _, _, _])), ((a 22), .inl (cI, 24, .inl _)), ((a 23), .inl (cI, 24, .inl _)), ((a 24), .inl (cI, 24, .inl _)), ((a 25), .inl (cI, 24, .inl _)), ((a 15), .inl (cI, 80, .inl _)), ((a 1), .inl (cI, 32, .inl _))] := hD
      refine lv_iload hx hb dX11_readTime_162 (lv_at hl 3 rfl) ?_
      exact mu_iret X hP hS (by rw [ht]) (by rw [ht]) dX11_readTime_164
  · replace c_17 := bI_n0.mp c_17
    refine lv_aload_n hx hb dX11_readTime_20 rfl (lv_at hl 2 rfl) ?_
    refine lv_aload_n hx hb dX11_readTime_21 rfl (lv_at hl 2 rfl) ?_
    refine lv_iload hx hb dX11_readTime_22 (lv_at hl 1 rfl) ?_
    refine ro_V (n := 1) X hK (c_X11_byteAt hn (by omega)) gX11_readTime_X11_byteAt rfl (by decide +kernel) ⟨rfl, rfl⟩ ⟨Nat.le_of_ble_eq_true rfl, Nat.le_of_ble_eq_true rfl⟩ (hP.sub [0, 5] rfl) (va_recv hK hP (ci := 11) (q0 := 0) rfl rfl) rfl hl.1 rfl (Nat.le_of_ble_eq_true rfl) dX11_readTime_24 ⟨Nat.zero_le _, Nat.zero_le _⟩ ?_
    refine ro_V (n := 1) X hK (c_X11_folded c_17) gX11_readTime_X11_folded rfl (by decide +kernel) ⟨rfl, rfl⟩ ⟨Nat.le_of_ble_eq_true rfl, Nat.le_of_ble_eq_true rfl⟩ (hP.sub [0, 6] rfl) (va_recv hK hP (ci := 11) (q0 := 0) rfl rfl) rfl hl.1 rfl (Nat.le_of_ble_eq_true rfl) dX11_readTime_27 ⟨Nat.zero_le _, Nat.zero_le _⟩ ?_
    refine lv_goto (tgt := 34) hx hb dX11_readTime_30 (by decide) ?_
    refine lv_istore (lv' := [(6, _), (5, _), (4, _), (0, _), (1, _), (2, _), (3, _)]) hx hb dX11_readTime_34 hl (by decide) rfl (fun ls hl => ?_)
    refine lv_aload_n hx hb dX11_readTime_36 rfl (lv_at hl 3 rfl) ?_
    refine lv_iload hx hb dX11_readTime_37 (lv_at hl 2 rfl) ?_
    refine lv_iconst (v := 1) hx hb dX11_readTime_39 (by decide) ?_
    refine lv_iadd hx hb dX11_readTime_40 ?_
    refine topi_eq (nI_1 (c + 3)) ?_
    refine ro_V (n := 1) X hK (c_X11_byteAt hn (by omega)) gX11_readTime_X11_byteAt rfl (by decide +kernel) ⟨rfl, rfl⟩ ⟨Nat.le_of_ble_eq_true rfl, Nat.le_of_ble_eq_true rfl⟩ (hP.sub [0, 5] rfl) (va_recv hK hP (ci := 11) (q0 := 0) rfl rfl) rfl hl.1 rfl (Nat.le_of_ble_eq_true rfl) dX11_readTime_41 ⟨Nat.zero_le _, Nat.zero_le _⟩ ?_
    refine ro_S (n := 1) X hK (c_X11_isLetter) gX11_readTime_X11_isLetter rfl (by decide +kernel) ⟨rfl, rfl⟩ ⟨Nat.le_of_ble_eq_true rfl, Nat.le_of_ble_eq_true rfl⟩ (hP.sub [] rfl) rfl hl.1 rfl (Nat.le_of_ble_eq_true rfl) dX11_readTime_44 ⟨Nat.zero_le _, Nat.zero_le _⟩ ?_
    refine lv_if_eq (tgt := 65) hx hb dX11_readTime_47 (by decide) (fun c_47 => ?_) (fun c_47 => ?_)
    · replace c_47 := bI_0.mp c_47
      refine lv_iconst (v := 0) hx hb dX11_readTime_65 (by decide) ?_
      refine lv_istore (lv' := [(7, _), (6, _), (5, _), (4, _), (0, _), (1, _), (2, _), (3, _)]) hx hb dX11_readTime_66 hl (by decide) rfl (fun ls hl => ?_)
      refine lv_iload hx hb dX11_readTime_68 (lv_at hl 1 rfl) ?_
      refine lv_bipush (v := 97) hx hb dX11_readTime_70 (by decide) ?_
      refine lv_icmp_eq (tgt := 82) hx hb dX11_readTime_72 (by decide) (fun c_72 => ?_) (fun c_72 => ?_)
      · refine lv_iload hx hb dX11_readTime_82 (lv_at hl 0 rfl) ?_
        refine lv_bipush (v := 109) hx hb dX11_readTime_84 (by decide) ?_
        refine lv_icmp_ne (tgt := 136) hx hb dX11_readTime_86 (by decide) (fun _ => ?_) (fun c_86 => absurd c_86 (by decide))
        have ht : tTok (foC fo) n L p c τ = (c + 3, ad4 τ 3 (nI p) (nI (c + 3 - p)) (nI (60 * numN L p (c - p) 0 + numN L (c + 1) 2 0))) := if_neg (fun q => by have hh := q.2.2; rw [hd_m] at hh; simp only [ltO] at hh; simp [c_17, c_47, c_72] at hh)
        refine lv_aload_n hx hb dX11_readTime_136 rfl (lv_at hl 4 rfl) ?_
        refine lv_iconst (v := 3) hx hb dX11_readTime_137 (by decide) ?_
        refine lv_iload_n hx hb dX11_readTime_138 rfl (lv_at hl 5 rfl) ?_
        refine lv_iload hx hb dX11_readTime_139 (lv_at hl 3 rfl) ?_
        refine lv_iload_n hx hb dX11_readTime_141 rfl (lv_at hl 5 rfl) ?_
        refine lv_isub hx hb dX11_readTime_142 ?_
        refine topi_eq (nI_sub1 (by omega)) ?_
        refine lv_bipush (v := 60) hx hb dX11_readTime_143 (by decide) ?_
        refine lv_iload hx hb dX11_readTime_145 (lv_at hl 2 rfl) ?_
        refine lv_imul hx hb dX11_readTime_147 ?_
        refine lv_aload_n hx hb dX11_readTime_148 rfl (lv_at hl 4 rfl) ?_
        refine lv_iload_n hx hb dX11_readTime_149 rfl (lv_at hl 6 rfl) ?_
        refine lv_iconst (v := 1) hx hb dX11_readTime_150 (by decide) ?_
        refine lv_iadd hx hb dX11_readTime_151 ?_
        refine topi_eq (nI_1 c) ?_
        refine lv_iload_n hx hb dX11_readTime_152 rfl (lv_at hl 6 rfl) ?_
        refine lv_iconst (v := 3) hx hb dX11_readTime_153 (by decide) ?_
        refine lv_iadd hx hb dX11_readTime_154 ?_
        refine topi_eq (nI_add c 3) ?_
        refine ro_V (n := 2) X hK (c_X11_numberOf hn hc3 (by omega) hd2) gX11_readTime_X11_numberOf rfl (by decide +kernel) ⟨rfl, rfl⟩ ⟨Nat.le_of_ble_eq_true rfl, Nat.le_of_ble_eq_true rfl⟩ (hP.sub [0, 5] rfl) (va_recv hK hP (ci := 11) (q0 := 0) rfl rfl) rfl hl.1 rfl (Nat.le_of_ble_eq_true rfl) dX11_readTime_155 ⟨Nat.zero_le _, Nat.zero_le _⟩ ?_
        rw [show c + 3 - (c + 1) = 2 by omega, Nat.min_eq_left (show numN L (c + 1) 2 0 ≤ 99999 by omega)]
        refine lv_iadd hx hb dX11_readTime_158 ?_
        refine topi_eq (tm2 _ _) ?_
        refine mu_V (n := 4) X hK (c_X11_add hτ) gX11_readTime_X11_add rfl (by decide +kernel) ⟨rfl, rfl⟩ ⟨Nat.le_of_ble_eq_true rfl, Nat.le_of_ble_eq_true rfl⟩ [0, 1, 2, 3, 4] rfl rfl rfl rfl hA hP hD hS (va_recv hK hP (ci := 11) (q0 := 0) rfl rfl) rfl hl.1 rfl (Nat.le_of_ble_eq_true rfl) dX11_readTime_159 ⟨Nat.zero_le _, Nat.zero_le _⟩ (fun H locs hP hD hS => ?_)
        have hP : va_P D vwCl [(m, .inr (11, [_, .ref (a 1), .ref (a 2), _, _, _, .ref (a 6), .ref (a 7), .ref (a 8), .ref (a 9), .ref (a 10), .ref (a 11), .ref (a 12), .ref (a 13), .ref (a 14), .ref (a 15), _, _, .ref (a 18), .ref (a 19), .ref (a 20), .ref (a 21), .ref (a 22), .ref (a 23), .ref (a 24), .ref (a 25), _, _, .ref (a 28), _, _, .ref (a 31), .ref (a 32), .ref (a 33), _, _, _])), ((a 22), .inl (cI, 24, .inl _)), ((a 23), .inl (cI, 24, .inl _)), ((a 24), .inl (cI, 24, .inl _)), ((a 25), .inl (cI, 24, .inl _)), ((a 15), .inl (cI, 80, .inl _)), ((a 1), .inl (cI, 32, .inl _))] H := hP
        have hD : va_D A [(m, .inr (11, [_, .ref (a 1), .ref (a 2), _, _, _, .ref (a 6), .ref (a 7), .ref (a 8), .ref (a 9), .ref (a 10), .ref (a 11), .ref (a 12), .ref (a 13), .ref (a 14), .ref (a 15), _, _, .ref (a 18), .ref (a 19), .ref (a 20), .ref (a 21), .ref (a 22), .ref (a 23), .ref (a 24), .ref (a 25), _, _, .ref (a 28), _, _, .ref (a 31), .ref (a 32), .ref (a 33), _, _, _])), ((a 22), .inl (cI, 24, .inl _)), ((a 23), .inl (cI, 24, .inl _)), ((a 24), .inl (cI, 24, .inl _)), ((a 25), .inl (cI, 24, .inl _)), ((a 15), .inl (cI, 80, .inl _)), ((a 1), .inl (cI, 32, .inl _))] := hD
        refine lv_iload hx hb dX11_readTime_162 (lv_at hl 3 rfl) ?_
        exact mu_iret X hP hS (by rw [ht]) (by rw [ht]) dX11_readTime_164
      · refine lv_iload hx hb dX11_readTime_75 (lv_at hl 1 rfl) ?_
        refine lv_bipush (v := 112) hx hb dX11_readTime_77 (by decide) ?_
        refine lv_icmp_ne (tgt := 136) hx hb dX11_readTime_79 (by decide) (fun c_79 => ?_) (fun c_79 => ?_)
        · have ht : tTok (foC fo) n L p c τ = (c + 3, ad4 τ 3 (nI p) (nI (c + 3 - p)) (nI (60 * numN L p (c - p) 0 + numN L (c + 1) 2 0))) := if_neg (fun q => by have hh := q.2.2; rw [hd_m] at hh; simp only [ltO] at hh; simp [c_17, c_47, c_72, c_79] at hh)
          refine lv_aload_n hx hb dX11_readTime_136 rfl (lv_at hl 4 rfl) ?_
          refine lv_iconst (v := 3) hx hb dX11_readTime_137 (by decide) ?_
          refine lv_iload_n hx hb dX11_readTime_138 rfl (lv_at hl 5 rfl) ?_
          refine lv_iload hx hb dX11_readTime_139 (lv_at hl 3 rfl) ?_
          refine lv_iload_n hx hb dX11_readTime_141 rfl (lv_at hl 5 rfl) ?_
          refine lv_isub hx hb dX11_readTime_142 ?_
          refine topi_eq (nI_sub1 (by omega)) ?_
          refine lv_bipush (v := 60) hx hb dX11_readTime_143 (by decide) ?_
          refine lv_iload hx hb dX11_readTime_145 (lv_at hl 2 rfl) ?_
          refine lv_imul hx hb dX11_readTime_147 ?_
          refine lv_aload_n hx hb dX11_readTime_148 rfl (lv_at hl 4 rfl) ?_
          refine lv_iload_n hx hb dX11_readTime_149 rfl (lv_at hl 6 rfl) ?_
          refine lv_iconst (v := 1) hx hb dX11_readTime_150 (by decide) ?_
          refine lv_iadd hx hb dX11_readTime_151 ?_
          refine topi_eq (nI_1 c) ?_
          refine lv_iload_n hx hb dX11_readTime_152 rfl (lv_at hl 6 rfl) ?_
          refine lv_iconst (v := 3) hx hb dX11_readTime_153 (by decide) ?_
          refine lv_iadd hx hb dX11_readTime_154 ?_
          refine topi_eq (nI_add c 3) ?_
          refine ro_V (n := 2) X hK (c_X11_numberOf hn hc3 (by omega) hd2) gX11_readTime_X11_numberOf rfl (by decide +kernel) ⟨rfl, rfl⟩ ⟨Nat.le_of_ble_eq_true rfl, Nat.le_of_ble_eq_true rfl⟩ (hP.sub [0, 5] rfl) (va_recv hK hP (ci := 11) (q0 := 0) rfl rfl) rfl hl.1 rfl (Nat.le_of_ble_eq_true rfl) dX11_readTime_155 ⟨Nat.zero_le _, Nat.zero_le _⟩ ?_
          rw [show c + 3 - (c + 1) = 2 by omega, Nat.min_eq_left (show numN L (c + 1) 2 0 ≤ 99999 by omega)]
          refine lv_iadd hx hb dX11_readTime_158 ?_
          refine topi_eq (tm2 _ _) ?_
          refine mu_V (n := 4) X hK (c_X11_add hτ) gX11_readTime_X11_add rfl (by decide +kernel) ⟨rfl, rfl⟩ ⟨Nat.le_of_ble_eq_true rfl, Nat.le_of_ble_eq_true rfl⟩ [0, 1, 2, 3, 4] rfl rfl rfl rfl hA hP hD hS (va_recv hK hP (ci := 11) (q0 := 0) rfl rfl) rfl hl.1 rfl (Nat.le_of_ble_eq_true rfl) dX11_readTime_159 ⟨Nat.zero_le _, Nat.zero_le _⟩ (fun H locs hP hD hS => ?_)
          have hP : va_P D vwCl [(m, .inr (11, [_, .ref (a 1), .ref (a 2), _, _, _, .ref (a 6), .ref (a 7), .ref (a 8), .ref (a 9), .ref (a 10), .ref (a 11), .ref (a 12), .ref (a 13), .ref (a 14), .ref (a 15), _, _, .ref (a 18), .ref (a 19), .ref (a 20), .ref (a 21), .ref (a 22), .ref (a 23), .ref (a 24), .ref (a 25), _, _, .ref (a 28), _, _, .ref (a 31), .ref (a 32), .ref (a 33), _, _, _])), ((a 22), .inl (cI, 24, .inl _)), ((a 23), .inl (cI, 24, .inl _)), ((a 24), .inl (cI, 24, .inl _)), ((a 25), .inl (cI, 24, .inl _)), ((a 15), .inl (cI, 80, .inl _)), ((a 1), .inl (cI, 32, .inl _))] H := hP
          have hD : va_D A [(m, .inr (11, [_, .ref (a 1), .ref (a 2), _, _, _, .ref (a 6), .ref (a 7), .ref (a 8), .ref (a 9), .ref (a 10), .ref (a 11), .ref (a 12), .ref (a 13), .ref (a 14), .ref (a 15), _, _, .ref (a 18), .ref (a 19), .ref (a 20), .ref (a 21), .ref (a 22), .ref (a 23), .ref (a 24), .ref (a 25), _, _, .ref (a 28), _, _, .ref (a 31), .ref (a 32), .ref (a 33), _, _, _])), ((a 22), .inl (cI, 24, .inl _)), ((a 23), .inl (cI, 24, .inl _)), ((a 24), .inl (cI, 24, .inl _)), ((a 25), .inl (cI, 24, .inl _)), ((a 15), .inl (cI, 80, .inl _)), ((a 1), .inl (cI, 32, .inl _))] := hD
          refine lv_iload hx hb dX11_readTime_162 (lv_at hl 3 rfl) ?_
          exact mu_iret X hP hS (by rw [ht]) (by rw [ht]) dX11_readTime_164
        · refine lv_iload hx hb dX11_readTime_82 (lv_at hl 0 rfl) ?_
          refine lv_bipush (v := 109) hx hb dX11_readTime_84 (by decide) ?_
          refine lv_icmp_ne (tgt := 136) hx hb dX11_readTime_86 (by decide) (fun _ => ?_) (fun c_86 => absurd c_86 (by decide))
          have ht : tTok (foC fo) n L p c τ = (c + 3, ad4 τ 3 (nI p) (nI (c + 3 - p)) (nI (60 * numN L p (c - p) 0 + numN L (c + 1) 2 0))) := if_neg (fun q => by have hh := q.2.2; rw [hd_m] at hh; simp only [ltO] at hh; simp [c_17, c_47, c_72, c_79] at hh)
          refine lv_aload_n hx hb dX11_readTime_136 rfl (lv_at hl 4 rfl) ?_
          refine lv_iconst (v := 3) hx hb dX11_readTime_137 (by decide) ?_
          refine lv_iload_n hx hb dX11_readTime_138 rfl (lv_at hl 5 rfl) ?_
          refine lv_iload hx hb dX11_readTime_139 (lv_at hl 3 rfl) ?_
          refine lv_iload_n hx hb dX11_readTime_141 rfl (lv_at hl 5 rfl) ?_
          refine lv_isub hx hb dX11_readTime_142 ?_
          refine topi_eq (nI_sub1 (by omega)) ?_
          refine lv_bipush (v := 60) hx hb dX11_readTime_143 (by decide) ?_
          refine lv_iload hx hb dX11_readTime_145 (lv_at hl 2 rfl) ?_
          refine lv_imul hx hb dX11_readTime_147 ?_
          refine lv_aload_n hx hb dX11_readTime_148 rfl (lv_at hl 4 rfl) ?_
          refine lv_iload_n hx hb dX11_readTime_149 rfl (lv_at hl 6 rfl) ?_
          refine lv_iconst (v := 1) hx hb dX11_readTime_150 (by decide) ?_
          refine lv_iadd hx hb dX11_readTime_151 ?_
          refine topi_eq (nI_1 c) ?_
          refine lv_iload_n hx hb dX11_readTime_152 rfl (lv_at hl 6 rfl) ?_
          refine lv_iconst (v := 3) hx hb dX11_readTime_153 (by decide) ?_
          refine lv_iadd hx hb dX11_readTime_154 ?_
          refine topi_eq (nI_add c 3) ?_
          refine ro_V (n := 2) X hK (c_X11_numberOf hn hc3 (by omega) hd2) gX11_readTime_X11_numberOf rfl (by decide +kernel) ⟨rfl, rfl⟩ ⟨Nat.le_of_ble_eq_true rfl, Nat.le_of_ble_eq_true rfl⟩ (hP.sub [0, 5] rfl) (va_recv hK hP (ci := 11) (q0 := 0) rfl rfl) rfl hl.1 rfl (Nat.le_of_ble_eq_true rfl) dX11_readTime_155 ⟨Nat.zero_le _, Nat.zero_le _⟩ ?_
          rw [show c + 3 - (c + 1) = 2 by omega, Nat.min_eq_left (show numN L (c + 1) 2 0 ≤ 99999 by omega)]
          refine lv_iadd hx hb dX11_readTime_158 ?_
          refine topi_eq (tm2 _ _) ?_
          refine mu_V (n := 4) X hK (c_X11_add hτ) gX11_readTime_X11_add rfl (by decide +kernel) ⟨rfl, rfl⟩ ⟨Nat.le_of_ble_eq_true rfl, Nat.le_of_ble_eq_true rfl⟩ [0, 1, 2, 3, 4] rfl rfl rfl rfl hA hP hD hS (va_recv hK hP (ci := 11) (q0 := 0) rfl rfl) rfl hl.1 rfl (Nat.le_of_ble_eq_true rfl) dX11_readTime_159 ⟨Nat.zero_le _, Nat.zero_le _⟩ (fun H locs hP hD hS => ?_)
          have hP : va_P D vwCl [(m, .inr (11, [_, .ref (a 1), .ref (a 2), _, _, _, .ref (a 6), .ref (a 7), .ref (a 8), .ref (a 9), .ref (a 10), .ref (a 11), .ref (a 12), .ref (a 13), .ref (a 14), .ref (a 15), _, _, .ref (a 18), .ref (a 19), .ref (a 20), .ref (a 21), .ref (a 22), .ref (a 23), .ref (a 24), .ref (a 25), _, _, .ref (a 28), _, _, .ref (a 31), .ref (a 32), .ref (a 33), _, _, _])), ((a 22), .inl (cI, 24, .inl _)), ((a 23), .inl (cI, 24, .inl _)), ((a 24), .inl (cI, 24, .inl _)), ((a 25), .inl (cI, 24, .inl _)), ((a 15), .inl (cI, 80, .inl _)), ((a 1), .inl (cI, 32, .inl _))] H := hP
          have hD : va_D A [(m, .inr (11, [_, .ref (a 1), .ref (a 2), _, _, _, .ref (a 6), .ref (a 7), .ref (a 8), .ref (a 9), .ref (a 10), .ref (a 11), .ref (a 12), .ref (a 13), .ref (a 14), .ref (a 15), _, _, .ref (a 18), .ref (a 19), .ref (a 20), .ref (a 21), .ref (a 22), .ref (a 23), .ref (a 24), .ref (a 25), _, _, .ref (a 28), _, _, .ref (a 31), .ref (a 32), .ref (a 33), _, _, _])), ((a 22), .inl (cI, 24, .inl _)), ((a 23), .inl (cI, 24, .inl _)), ((a 24), .inl (cI, 24, .inl _)), ((a 25), .inl (cI, 24, .inl _)), ((a 15), .inl (cI, 80, .inl _)), ((a 1), .inl (cI, 32, .inl _))] := hD
          refine lv_iload hx hb dX11_readTime_162 (lv_at hl 3 rfl) ?_
          exact mu_iret X hP hS (by rw [ht]) (by rw [ht]) dX11_readTime_164
    · replace c_47 := bI_n0.mp c_47
      refine lv_aload_n hx hb dX11_readTime_50 rfl (lv_at hl 3 rfl) ?_
      refine lv_aload_n hx hb dX11_readTime_51 rfl (lv_at hl 3 rfl) ?_
      refine lv_iload hx hb dX11_readTime_52 (lv_at hl 2 rfl) ?_
      refine lv_iconst (v := 1) hx hb dX11_readTime_54 (by decide) ?_
      refine lv_iadd hx hb dX11_readTime_55 ?_
      refine topi_eq (nI_1 (c + 3)) ?_
      refine ro_V (n := 1) X hK (c_X11_byteAt hn (by omega)) gX11_readTime_X11_byteAt rfl (by decide +kernel) ⟨rfl, rfl⟩ ⟨Nat.le_of_ble_eq_true rfl, Nat.le_of_ble_eq_true rfl⟩ (hP.sub [0, 5] rfl) (va_recv hK hP (ci := 11) (q0 := 0) rfl rfl) rfl hl.1 rfl (Nat.le_of_ble_eq_true rfl) dX11_readTime_56 ⟨Nat.zero_le _, Nat.zero_le _⟩ ?_
      refine ro_V (n := 1) X hK (c_X11_folded c_47) gX11_readTime_X11_folded rfl (by decide +kernel) ⟨rfl, rfl⟩ ⟨Nat.le_of_ble_eq_true rfl, Nat.le_of_ble_eq_true rfl⟩ (hP.sub [0, 6] rfl) (va_recv hK hP (ci := 11) (q0 := 0) rfl rfl) rfl hl.1 rfl (Nat.le_of_ble_eq_true rfl) dX11_readTime_59 ⟨Nat.zero_le _, Nat.zero_le _⟩ ?_
      refine lv_goto (tgt := 66) hx hb dX11_readTime_62 (by decide) ?_
      refine lv_istore (lv' := [(7, _), (6, _), (5, _), (4, _), (0, _), (1, _), (2, _), (3, _)]) hx hb dX11_readTime_66 hl (by decide) rfl (fun ls hl => ?_)
      refine lv_iload hx hb dX11_readTime_68 (lv_at hl 1 rfl) ?_
      refine lv_bipush (v := 97) hx hb dX11_readTime_70 (by decide) ?_
      refine lv_icmp_eq (tgt := 82) hx hb dX11_readTime_72 (by decide) (fun c_72 => ?_) (fun c_72 => ?_)
      · refine lv_iload hx hb dX11_readTime_82 (lv_at hl 0 rfl) ?_
        refine lv_bipush (v := 109) hx hb dX11_readTime_84 (by decide) ?_
        refine lv_icmp_ne (tgt := 136) hx hb dX11_readTime_86 (by decide) (fun c_86 => ?_) (fun c_86 => ?_)
        · have ht : tTok (foC fo) n L p c τ = (c + 3, ad4 τ 3 (nI p) (nI (c + 3 - p)) (nI (60 * numN L p (c - p) 0 + numN L (c + 1) 2 0))) := if_neg (fun q => by have hh := q.2.2; rw [hd_m] at hh; simp only [ltO] at hh; simp [c_17, c_47, c_72, c_86] at hh)
          refine lv_aload_n hx hb dX11_readTime_136 rfl (lv_at hl 4 rfl) ?_
          refine lv_iconst (v := 3) hx hb dX11_readTime_137 (by decide) ?_
          refine lv_iload_n hx hb dX11_readTime_138 rfl (lv_at hl 5 rfl) ?_
          refine lv_iload hx hb dX11_readTime_139 (lv_at hl 3 rfl) ?_
          refine lv_iload_n hx hb dX11_readTime_141 rfl (lv_at hl 5 rfl) ?_
          refine lv_isub hx hb dX11_readTime_142 ?_
          refine topi_eq (nI_sub1 (by omega)) ?_
          refine lv_bipush (v := 60) hx hb dX11_readTime_143 (by decide) ?_
          refine lv_iload hx hb dX11_readTime_145 (lv_at hl 2 rfl) ?_
          refine lv_imul hx hb dX11_readTime_147 ?_
          refine lv_aload_n hx hb dX11_readTime_148 rfl (lv_at hl 4 rfl) ?_
          refine lv_iload_n hx hb dX11_readTime_149 rfl (lv_at hl 6 rfl) ?_
          refine lv_iconst (v := 1) hx hb dX11_readTime_150 (by decide) ?_
          refine lv_iadd hx hb dX11_readTime_151 ?_
          refine topi_eq (nI_1 c) ?_
          refine lv_iload_n hx hb dX11_readTime_152 rfl (lv_at hl 6 rfl) ?_
          refine lv_iconst (v := 3) hx hb dX11_readTime_153 (by decide) ?_
          refine lv_iadd hx hb dX11_readTime_154 ?_
          refine topi_eq (nI_add c 3) ?_
          refine ro_V (n := 2) X hK (c_X11_numberOf hn hc3 (by omega) hd2) gX11_readTime_X11_numberOf rfl (by decide +kernel) ⟨rfl, rfl⟩ ⟨Nat.le_of_ble_eq_true rfl, Nat.le_of_ble_eq_true rfl⟩ (hP.sub [0, 5] rfl) (va_recv hK hP (ci := 11) (q0 := 0) rfl rfl) rfl hl.1 rfl (Nat.le_of_ble_eq_true rfl) dX11_readTime_155 ⟨Nat.zero_le _, Nat.zero_le _⟩ ?_
          rw [show c + 3 - (c + 1) = 2 by omega, Nat.min_eq_left (show numN L (c + 1) 2 0 ≤ 99999 by omega)]
          refine lv_iadd hx hb dX11_readTime_158 ?_
          refine topi_eq (tm2 _ _) ?_
          refine mu_V (n := 4) X hK (c_X11_add hτ) gX11_readTime_X11_add rfl (by decide +kernel) ⟨rfl, rfl⟩ ⟨Nat.le_of_ble_eq_true rfl, Nat.le_of_ble_eq_true rfl⟩ [0, 1, 2, 3, 4] rfl rfl rfl rfl hA hP hD hS (va_recv hK hP (ci := 11) (q0 := 0) rfl rfl) rfl hl.1 rfl (Nat.le_of_ble_eq_true rfl) dX11_readTime_159 ⟨Nat.zero_le _, Nat.zero_le _⟩ (fun H locs hP hD hS => ?_)
          have hP : va_P D vwCl [(m, .inr (11, [_, .ref (a 1), .ref (a 2), _, _, _, .ref (a 6), .ref (a 7), .ref (a 8), .ref (a 9), .ref (a 10), .ref (a 11), .ref (a 12), .ref (a 13), .ref (a 14), .ref (a 15), _, _, .ref (a 18), .ref (a 19), .ref (a 20), .ref (a 21), .ref (a 22), .ref (a 23), .ref (a 24), .ref (a 25), _, _, .ref (a 28), _, _, .ref (a 31), .ref (a 32), .ref (a 33), _, _, _])), ((a 22), .inl (cI, 24, .inl _)), ((a 23), .inl (cI, 24, .inl _)), ((a 24), .inl (cI, 24, .inl _)), ((a 25), .inl (cI, 24, .inl _)), ((a 15), .inl (cI, 80, .inl _)), ((a 1), .inl (cI, 32, .inl _))] H := hP
          have hD : va_D A [(m, .inr (11, [_, .ref (a 1), .ref (a 2), _, _, _, .ref (a 6), .ref (a 7), .ref (a 8), .ref (a 9), .ref (a 10), .ref (a 11), .ref (a 12), .ref (a 13), .ref (a 14), .ref (a 15), _, _, .ref (a 18), .ref (a 19), .ref (a 20), .ref (a 21), .ref (a 22), .ref (a 23), .ref (a 24), .ref (a 25), _, _, .ref (a 28), _, _, .ref (a 31), .ref (a 32), .ref (a 33), _, _, _])), ((a 22), .inl (cI, 24, .inl _)), ((a 23), .inl (cI, 24, .inl _)), ((a 24), .inl (cI, 24, .inl _)), ((a 25), .inl (cI, 24, .inl _)), ((a 15), .inl (cI, 80, .inl _)), ((a 1), .inl (cI, 32, .inl _))] := hD
          refine lv_iload hx hb dX11_readTime_162 (lv_at hl 3 rfl) ?_
          exact mu_iret X hP hS (by rw [ht]) (by rw [ht]) dX11_readTime_164
        · refine lv_aload_n hx hb dX11_readTime_89 rfl (lv_at hl 4 rfl) ?_
          refine lv_iload hx hb dX11_readTime_90 (lv_at hl 3 rfl) ?_
          refine lv_iconst (v := 2) hx hb dX11_readTime_92 (by decide) ?_
          refine lv_iadd hx hb dX11_readTime_93 ?_
          refine topi_eq (nI_add (c + 3) 2) ?_
          refine ro_V (n := 1) X hK (c_X11_byteAt hn (by omega)) gX11_readTime_X11_byteAt rfl (by decide +kernel) ⟨rfl, rfl⟩ ⟨Nat.le_of_ble_eq_true rfl, Nat.le_of_ble_eq_true rfl⟩ (hP.sub [0, 5] rfl) (va_recv hK hP (ci := 11) (q0 := 0) rfl rfl) rfl hl.1 rfl (Nat.le_of_ble_eq_true rfl) dX11_readTime_94 ⟨Nat.zero_le _, Nat.zero_le _⟩ ?_
          refine ro_S (n := 1) X hK (c_X11_isLetter) gX11_readTime_X11_isLetter rfl (by decide +kernel) ⟨rfl, rfl⟩ ⟨Nat.le_of_ble_eq_true rfl, Nat.le_of_ble_eq_true rfl⟩ (hP.sub [] rfl) rfl hl.1 rfl (Nat.le_of_ble_eq_true rfl) dX11_readTime_97 ⟨Nat.zero_le _, Nat.zero_le _⟩ ?_
          refine lv_if_ne (tgt := 136) hx hb dX11_readTime_100 (by decide) (fun c_100 => ?_) (fun c_100 => ?_)
          · replace c_100 := bI_n0.mp c_100
            have ht : tTok (foC fo) n L p c τ = (c + 3, ad4 τ 3 (nI p) (nI (c + 3 - p)) (nI (60 * numN L p (c - p) 0 + numN L (c + 1) 2 0))) := if_neg (fun q => by have hh := q.2.2; rw [hd_m] at hh; simp only [ltO] at hh; simp [c_17, c_47, c_72, c_86, c_100] at hh)
            refine lv_aload_n hx hb dX11_readTime_136 rfl (lv_at hl 4 rfl) ?_
            refine lv_iconst (v := 3) hx hb dX11_readTime_137 (by decide) ?_
            refine lv_iload_n hx hb dX11_readTime_138 rfl (lv_at hl 5 rfl) ?_
            refine lv_iload hx hb dX11_readTime_139 (lv_at hl 3 rfl) ?_
            refine lv_iload_n hx hb dX11_readTime_141 rfl (lv_at hl 5 rfl) ?_
            refine lv_isub hx hb dX11_readTime_142 ?_
            refine topi_eq (nI_sub1 (by omega)) ?_
            refine lv_bipush (v := 60) hx hb dX11_readTime_143 (by decide) ?_
            refine lv_iload hx hb dX11_readTime_145 (lv_at hl 2 rfl) ?_
            refine lv_imul hx hb dX11_readTime_147 ?_
            refine lv_aload_n hx hb dX11_readTime_148 rfl (lv_at hl 4 rfl) ?_
            refine lv_iload_n hx hb dX11_readTime_149 rfl (lv_at hl 6 rfl) ?_
            refine lv_iconst (v := 1) hx hb dX11_readTime_150 (by decide) ?_
            refine lv_iadd hx hb dX11_readTime_151 ?_
            refine topi_eq (nI_1 c) ?_
            refine lv_iload_n hx hb dX11_readTime_152 rfl (lv_at hl 6 rfl) ?_
            refine lv_iconst (v := 3) hx hb dX11_readTime_153 (by decide) ?_
            refine lv_iadd hx hb dX11_readTime_154 ?_
            refine topi_eq (nI_add c 3) ?_
            refine ro_V (n := 2) X hK (c_X11_numberOf hn hc3 (by omega) hd2) gX11_readTime_X11_numberOf rfl (by decide +kernel) ⟨rfl, rfl⟩ ⟨Nat.le_of_ble_eq_true rfl, Nat.le_of_ble_eq_true rfl⟩ (hP.sub [0, 5] rfl) (va_recv hK hP (ci := 11) (q0 := 0) rfl rfl) rfl hl.1 rfl (Nat.le_of_ble_eq_true rfl) dX11_readTime_155 ⟨Nat.zero_le _, Nat.zero_le _⟩ ?_
            rw [show c + 3 - (c + 1) = 2 by omega, Nat.min_eq_left (show numN L (c + 1) 2 0 ≤ 99999 by omega)]
            refine lv_iadd hx hb dX11_readTime_158 ?_
            refine topi_eq (tm2 _ _) ?_
            refine mu_V (n := 4) X hK (c_X11_add hτ) gX11_readTime_X11_add rfl (by decide +kernel) ⟨rfl, rfl⟩ ⟨Nat.le_of_ble_eq_true rfl, Nat.le_of_ble_eq_true rfl⟩ [0, 1, 2, 3, 4] rfl rfl rfl rfl hA hP hD hS (va_recv hK hP (ci := 11) (q0 := 0) rfl rfl) rfl hl.1 rfl (Nat.le_of_ble_eq_true rfl) dX11_readTime_159 ⟨Nat.zero_le _, Nat.zero_le _⟩ (fun H locs hP hD hS => ?_)
            have hP : va_P D vwCl [(m, .inr (11, [_, .ref (a 1), .ref (a 2), _, _, _, .ref (a 6), .ref (a 7), .ref (a 8), .ref (a 9), .ref (a 10), .ref (a 11), .ref (a 12), .ref (a 13), .ref (a 14), .ref (a 15), _, _, .ref (a 18), .ref (a 19), .ref (a 20), .ref (a 21), .ref (a 22), .ref (a 23), .ref (a 24), .ref (a 25), _, _, .ref (a 28), _, _, .ref (a 31), .ref (a 32), .ref (a 33), _, _, _])), ((a 22), .inl (cI, 24, .inl _)), ((a 23), .inl (cI, 24, .inl _)), ((a 24), .inl (cI, 24, .inl _)), ((a 25), .inl (cI, 24, .inl _)), ((a 15), .inl (cI, 80, .inl _)), ((a 1), .inl (cI, 32, .inl _))] H := hP
            have hD : va_D A [(m, .inr (11, [_, .ref (a 1), .ref (a 2), _, _, _, .ref (a 6), .ref (a 7), .ref (a 8), .ref (a 9), .ref (a 10), .ref (a 11), .ref (a 12), .ref (a 13), .ref (a 14), .ref (a 15), _, _, .ref (a 18), .ref (a 19), .ref (a 20), .ref (a 21), .ref (a 22), .ref (a 23), .ref (a 24), .ref (a 25), _, _, .ref (a 28), _, _, .ref (a 31), .ref (a 32), .ref (a 33), _, _, _])), ((a 22), .inl (cI, 24, .inl _)), ((a 23), .inl (cI, 24, .inl _)), ((a 24), .inl (cI, 24, .inl _)), ((a 25), .inl (cI, 24, .inl _)), ((a 15), .inl (cI, 80, .inl _)), ((a 1), .inl (cI, 32, .inl _))] := hD
            refine lv_iload hx hb dX11_readTime_162 (lv_at hl 3 rfl) ?_
            exact mu_iret X hP hS (by rw [ht]) (by rw [ht]) dX11_readTime_164
          · replace c_100 := bI_0.mp c_100
            refine lv_iload_n hx hb dX11_readTime_103 rfl (lv_at hl 7 rfl) ?_
            refine lv_iconst (v := 1) hx hb dX11_readTime_104 (by decide) ?_
            refine lv_bipush (v := 12) hx hb dX11_readTime_105 (by decide) ?_
            refine ro_S (n := 3) X hK (c_X11_in) gX11_readTime_X11_in rfl (by decide +kernel) ⟨rfl, rfl⟩ ⟨Nat.le_of_ble_eq_true rfl, Nat.le_of_ble_eq_true rfl⟩ (hP.sub [] rfl) rfl hl.1 rfl (Nat.le_of_ble_eq_true rfl) dX11_readTime_107 ⟨Nat.zero_le _, Nat.zero_le _⟩ ?_
            refine lv_if_eq (tgt := 136) hx hb dX11_readTime_110 (by decide) (fun c_110 => ?_) (fun c_110 => ?_)
            · replace c_110 := bI_0.mp c_110
              have ht : tTok (foC fo) n L p c τ = (c + 3, ad4 τ 3 (nI p) (nI (c + 3 - p)) (nI (60 * numN L p (c - p) 0 + numN L (c + 1) 2 0))) := if_neg (fun q => absurd c_110 (by rw [show inB (nI (numN L p (c - p) 0)) 1 12 = true from inB_t (lo := 1) (hi := 12) q.1 q.2.1 (by decide)]; decide))
              refine lv_aload_n hx hb dX11_readTime_136 rfl (lv_at hl 4 rfl) ?_
              refine lv_iconst (v := 3) hx hb dX11_readTime_137 (by decide) ?_
              refine lv_iload_n hx hb dX11_readTime_138 rfl (lv_at hl 5 rfl) ?_
              refine lv_iload hx hb dX11_readTime_139 (lv_at hl 3 rfl) ?_
              refine lv_iload_n hx hb dX11_readTime_141 rfl (lv_at hl 5 rfl) ?_
              refine lv_isub hx hb dX11_readTime_142 ?_
              refine topi_eq (nI_sub1 (by omega)) ?_
              refine lv_bipush (v := 60) hx hb dX11_readTime_143 (by decide) ?_
              refine lv_iload hx hb dX11_readTime_145 (lv_at hl 2 rfl) ?_
              refine lv_imul hx hb dX11_readTime_147 ?_
              refine lv_aload_n hx hb dX11_readTime_148 rfl (lv_at hl 4 rfl) ?_
              refine lv_iload_n hx hb dX11_readTime_149 rfl (lv_at hl 6 rfl) ?_
              refine lv_iconst (v := 1) hx hb dX11_readTime_150 (by decide) ?_
              refine lv_iadd hx hb dX11_readTime_151 ?_
              refine topi_eq (nI_1 c) ?_
              refine lv_iload_n hx hb dX11_readTime_152 rfl (lv_at hl 6 rfl) ?_
              refine lv_iconst (v := 3) hx hb dX11_readTime_153 (by decide) ?_
              refine lv_iadd hx hb dX11_readTime_154 ?_
              refine topi_eq (nI_add c 3) ?_
              refine ro_V (n := 2) X hK (c_X11_numberOf hn hc3 (by omega) hd2) gX11_readTime_X11_numberOf rfl (by decide +kernel) ⟨rfl, rfl⟩ ⟨Nat.le_of_ble_eq_true rfl, Nat.le_of_ble_eq_true rfl⟩ (hP.sub [0, 5] rfl) (va_recv hK hP (ci := 11) (q0 := 0) rfl rfl) rfl hl.1 rfl (Nat.le_of_ble_eq_true rfl) dX11_readTime_155 ⟨Nat.zero_le _, Nat.zero_le _⟩ ?_
              rw [show c + 3 - (c + 1) = 2 by omega, Nat.min_eq_left (show numN L (c + 1) 2 0 ≤ 99999 by omega)]
              refine lv_iadd hx hb dX11_readTime_158 ?_
              refine topi_eq (tm2 _ _) ?_
              refine mu_V (n := 4) X hK (c_X11_add hτ) gX11_readTime_X11_add rfl (by decide +kernel) ⟨rfl, rfl⟩ ⟨Nat.le_of_ble_eq_true rfl, Nat.le_of_ble_eq_true rfl⟩ [0, 1, 2, 3, 4] rfl rfl rfl rfl hA hP hD hS (va_recv hK hP (ci := 11) (q0 := 0) rfl rfl) rfl hl.1 rfl (Nat.le_of_ble_eq_true rfl) dX11_readTime_159 ⟨Nat.zero_le _, Nat.zero_le _⟩ (fun H locs hP hD hS => ?_)
              have hP : va_P D vwCl [(m, .inr (11, [_, .ref (a 1), .ref (a 2), _, _, _, .ref (a 6), .ref (a 7), .ref (a 8), .ref (a 9), .ref (a 10), .ref (a 11), .ref (a 12), .ref (a 13), .ref (a 14), .ref (a 15), _, _, .ref (a 18), .ref (a 19), .ref (a 20), .ref (a 21), .ref (a 22), .ref (a 23), .ref (a 24), .ref (a 25), _, _, .ref (a 28), _, _, .ref (a 31), .ref (a 32), .ref (a 33), _, _, _])), ((a 22), .inl (cI, 24, .inl _)), ((a 23), .inl (cI, 24, .inl _)), ((a 24), .inl (cI, 24, .inl _)), ((a 25), .inl (cI, 24, .inl _)), ((a 15), .inl (cI, 80, .inl _)), ((a 1), .inl (cI, 32, .inl _))] H := hP
              have hD : va_D A [(m, .inr (11, [_, .ref (a 1), .ref (a 2), _, _, _, .ref (a 6), .ref (a 7), .ref (a 8), .ref (a 9), .ref (a 10), .ref (a 11), .ref (a 12), .ref (a 13), .ref (a 14), .ref (a 15), _, _, .ref (a 18), .ref (a 19), .ref (a 20), .ref (a 21), .ref (a 22), .ref (a 23), .ref (a 24), .ref (a 25), _, _, .ref (a 28), _, _, .ref (a 31), .ref (a 32), .ref (a 33), _, _, _])), ((a 22), .inl (cI, 24, .inl _)), ((a 23), .inl (cI, 24, .inl _)), ((a 24), .inl (cI, 24, .inl _)), ((a 25), .inl (cI, 24, .inl _)), ((a 15), .inl (cI, 80, .inl _)), ((a 1), .inl (cI, 32, .inl _))] := hD
              refine lv_iload hx hb dX11_readTime_162 (lv_at hl 3 rfl) ?_
              exact mu_iret X hP hS (by rw [ht]) (by rw [ht]) dX11_readTime_164
            · replace c_110 := bI_n0.mp c_110
              have h_110 : 1 ≤ numN L p (c - p) 0 ∧ numN L p (c - p) 0 ≤ 12 := by obtain ⟨j, hj1, hj2, ej⟩ := inB_of 1 12 c_110 (by decide) (by decide); have := (nI_eq (by omega) (by omega)).mp ej; omega
              refine lv_iload_n hx hb dX11_readTime_113 rfl (lv_at hl 7 rfl) ?_
              refine lv_bipush (v := 12) hx hb dX11_readTime_114 (by decide) ?_
              refine lv_irem hx hb dX11_readTime_116 (by decide) ?_
              refine topi_eq (pk_rem (a := numN L p (c - p) 0) (d := 12) (by omega) (by decide) (by decide)) ?_
              refine lv_iload hx hb dX11_readTime_117 (lv_at hl 1 rfl) ?_
              refine lv_bipush (v := 112) hx hb dX11_readTime_119 (by decide) ?_
              refine lv_icmp_ne (tgt := 129) hx hb dX11_readTime_121 (by decide) (fun c_121 => ?_) (fun c_121 => ?_)
              · have h_112 : ¬ foC fo (bt n L (c + 3)) = 112 := fun q => c_121 (by first | exact q | (exact absurd q (foC_not c_17).2.1))
                refine lv_iconst (v := 0) hx hb dX11_readTime_129 (by decide) ?_
                refine lv_iadd hx hb dX11_readTime_130 ?_
                have hrm : numN L p (c - p) 0 % 12 = if numN L p (c - p) 0 = 12 then 0 else numN L p (c - p) 0 := h_12 _ h_110.1 h_110.2
                refine lv_istore (lv' := [(5, _), (7, _), (6, _), (4, _), (0, _), (1, _), (2, _), (3, _)]) hx hb dX11_readTime_131 hl (by decide) rfl (fun ls hl => ?_)
                refine lv_iinc (v := (_ : Int32) + 2) (lv' := [(4, _), (5, _), (7, _), (6, _), (0, _), (1, _), (2, _), (3, _)]) hx hb dX11_readTime_133 hl (k := 3) rfl rfl (by decide) rfl (fun ls hl => ?_)
                rw [show nI (c + 3) + 2 = nI (c + 5) from nI_add (c + 3) 2] at hl
                obtain ⟨h1_, h12_⟩ := h_110
                have ht : tTok (foC fo) n L p c τ = (c + 5, ad4 τ 3 (nI p) (nI (c + 5 - p)) (nI (60 * ((if numN L p (c - p) 0 = 12 then 0 else numN L p (c - p) 0) + (if foC fo (bt n L (c + 3)) = 112 then 12 else 0)) + numN L (c + 1) 2 0))) := if_pos ⟨h1_, h12_, by rw [hd_m]; simp only [ltO]; simp [c_17, c_47, c_72, c_86, c_100]⟩
                refine lv_aload_n hx hb dX11_readTime_136 rfl (lv_at hl 4 rfl) ?_
                refine lv_iconst (v := 3) hx hb dX11_readTime_137 (by decide) ?_
                refine lv_iload_n hx hb dX11_readTime_138 rfl (lv_at hl 5 rfl) ?_
                refine lv_iload hx hb dX11_readTime_139 (lv_at hl 0 rfl) ?_
                refine lv_iload_n hx hb dX11_readTime_141 rfl (lv_at hl 5 rfl) ?_
                refine lv_isub hx hb dX11_readTime_142 ?_
                refine topi_eq (nI_sub1 (by omega)) ?_
                refine lv_bipush (v := 60) hx hb dX11_readTime_143 (by decide) ?_
                refine lv_iload hx hb dX11_readTime_145 (lv_at hl 1 rfl) ?_
                refine lv_imul hx hb dX11_readTime_147 ?_
                refine lv_aload_n hx hb dX11_readTime_148 rfl (lv_at hl 4 rfl) ?_
                refine lv_iload_n hx hb dX11_readTime_149 rfl (lv_at hl 6 rfl) ?_
                refine lv_iconst (v := 1) hx hb dX11_readTime_150 (by decide) ?_
                refine lv_iadd hx hb dX11_readTime_151 ?_
                refine topi_eq (nI_1 c) ?_
                refine lv_iload_n hx hb dX11_readTime_152 rfl (lv_at hl 6 rfl) ?_
                refine lv_iconst (v := 3) hx hb dX11_readTime_153 (by decide) ?_
                refine lv_iadd hx hb dX11_readTime_154 ?_
                refine topi_eq (nI_add c 3) ?_
                refine ro_V (n := 2) X hK (c_X11_numberOf hn hc3 (by omega) hd2) gX11_readTime_X11_numberOf rfl (by decide +kernel) ⟨rfl, rfl⟩ ⟨Nat.le_of_ble_eq_true rfl, Nat.le_of_ble_eq_true rfl⟩ (hP.sub [0, 5] rfl) (va_recv hK hP (ci := 11) (q0 := 0) rfl rfl) rfl hl.1 rfl (Nat.le_of_ble_eq_true rfl) dX11_readTime_155 ⟨Nat.zero_le _, Nat.zero_le _⟩ ?_
                rw [show c + 3 - (c + 1) = 2 by omega, Nat.min_eq_left (show numN L (c + 1) 2 0 ≤ 99999 by omega)]
                refine lv_iadd hx hb dX11_readTime_158 ?_
                refine topi_eq (y := nI (60 * ((if numN L p (c - p) 0 = 12 then 0 else numN L p (c - p) 0) + (if foC fo (bt n L (c + 3)) = 112 then 12 else 0)) + numN L (c + 1) 2 0)) (by rw [← hrm]; first | (rw [if_pos h_112]; exact tm4 _ 12 _) | (rw [if_neg h_112]; exact tm4 _ 0 _)) ?_
                refine mu_V (n := 4) X hK (c_X11_add hτ) gX11_readTime_X11_add rfl (by decide +kernel) ⟨rfl, rfl⟩ ⟨Nat.le_of_ble_eq_true rfl, Nat.le_of_ble_eq_true rfl⟩ [0, 1, 2, 3, 4] rfl rfl rfl rfl hA hP hD hS (va_recv hK hP (ci := 11) (q0 := 0) rfl rfl) rfl hl.1 rfl (Nat.le_of_ble_eq_true rfl) dX11_readTime_159 ⟨Nat.zero_le _, Nat.zero_le _⟩ (fun H locs hP hD hS => ?_)
                have hP : va_P D vwCl [(m, .inr (11, [_, .ref (a 1), .ref (a 2), _, _, _, .ref (a 6), .ref (a 7), .ref (a 8), .ref (a 9), .ref (a 10), .ref (a 11), .ref (a 12), .ref (a 13), .ref (a 14), .ref (a 15), _, _, .ref (a 18), .ref (a 19), .ref (a 20), .ref (a 21), .ref (a 22), .ref (a 23), .ref (a 24), .ref (a 25), _, _, .ref (a 28), _, _, .ref (a 31), .ref (a 32), .ref (a 33), _, _, _])), ((a 22), .inl (cI, 24, .inl _)), ((a 23), .inl (cI, 24, .inl _)), ((a 24), .inl (cI, 24, .inl _)), ((a 25), .inl (cI, 24, .inl _)), ((a 15), .inl (cI, 80, .inl _)), ((a 1), .inl (cI, 32, .inl _))] H := hP
                have hD : va_D A [(m, .inr (11, [_, .ref (a 1), .ref (a 2), _, _, _, .ref (a 6), .ref (a 7), .ref (a 8), .ref (a 9), .ref (a 10), .ref (a 11), .ref (a 12), .ref (a 13), .ref (a 14), .ref (a 15), _, _, .ref (a 18), .ref (a 19), .ref (a 20), .ref (a 21), .ref (a 22), .ref (a 23), .ref (a 24), .ref (a 25), _, _, .ref (a 28), _, _, .ref (a 31), .ref (a 32), .ref (a 33), _, _, _])), ((a 22), .inl (cI, 24, .inl _)), ((a 23), .inl (cI, 24, .inl _)), ((a 24), .inl (cI, 24, .inl _)), ((a 25), .inl (cI, 24, .inl _)), ((a 15), .inl (cI, 80, .inl _)), ((a 1), .inl (cI, 32, .inl _))] := hD
                refine lv_iload hx hb dX11_readTime_162 (lv_at hl 0 rfl) ?_
                exact mu_iret X hP hS (by rw [ht]) (by rw [ht]) dX11_readTime_164
              · have h_112 : foC fo (bt n L (c + 3)) = 112 := c_121
                refine lv_bipush (v := 12) hx hb dX11_readTime_124 (by decide) ?_
                refine lv_goto (tgt := 130) hx hb dX11_readTime_126 (by decide) ?_
                refine lv_iadd hx hb dX11_readTime_130 ?_
                have hrm : numN L p (c - p) 0 % 12 = if numN L p (c - p) 0 = 12 then 0 else numN L p (c - p) 0 := h_12 _ h_110.1 h_110.2
                refine lv_istore (lv' := [(5, _), (7, _), (6, _), (4, _), (0, _), (1, _), (2, _), (3, _)]) hx hb dX11_readTime_131 hl (by decide) rfl (fun ls hl => ?_)
                refine lv_iinc (v := (_ : Int32) + 2) (lv' := [(4, _), (5, _), (7, _), (6, _), (0, _), (1, _), (2, _), (3, _)]) hx hb dX11_readTime_133 hl (k := 3) rfl rfl (by decide) rfl (fun ls hl => ?_)
                rw [show nI (c + 3) + 2 = nI (c + 5) from nI_add (c + 3) 2] at hl
                obtain ⟨h1_, h12_⟩ := h_110
                have ht : tTok (foC fo) n L p c τ = (c + 5, ad4 τ 3 (nI p) (nI (c + 5 - p)) (nI (60 * ((if numN L p (c - p) 0 = 12 then 0 else numN L p (c - p) 0) + (if foC fo (bt n L (c + 3)) = 112 then 12 else 0)) + numN L (c + 1) 2 0))) := if_pos ⟨h1_, h12_, by rw [hd_m]; simp only [ltO]; simp [c_17, c_47, c_72, c_86, c_100]⟩
                refine lv_aload_n hx hb dX11_readTime_136 rfl (lv_at hl 4 rfl) ?_
                refine lv_iconst (v := 3) hx hb dX11_readTime_137 (by decide) ?_
                refine lv_iload_n hx hb dX11_readTime_138 rfl (lv_at hl 5 rfl) ?_
                refine lv_iload hx hb dX11_readTime_139 (lv_at hl 0 rfl) ?_
                refine lv_iload_n hx hb dX11_readTime_141 rfl (lv_at hl 5 rfl) ?_
                refine lv_isub hx hb dX11_readTime_142 ?_
                refine topi_eq (nI_sub1 (by omega)) ?_
                refine lv_bipush (v := 60) hx hb dX11_readTime_143 (by decide) ?_
                refine lv_iload hx hb dX11_readTime_145 (lv_at hl 1 rfl) ?_
                refine lv_imul hx hb dX11_readTime_147 ?_
                refine lv_aload_n hx hb dX11_readTime_148 rfl (lv_at hl 4 rfl) ?_
                refine lv_iload_n hx hb dX11_readTime_149 rfl (lv_at hl 6 rfl) ?_
                refine lv_iconst (v := 1) hx hb dX11_readTime_150 (by decide) ?_
                refine lv_iadd hx hb dX11_readTime_151 ?_
                refine topi_eq (nI_1 c) ?_
                refine lv_iload_n hx hb dX11_readTime_152 rfl (lv_at hl 6 rfl) ?_
                refine lv_iconst (v := 3) hx hb dX11_readTime_153 (by decide) ?_
                refine lv_iadd hx hb dX11_readTime_154 ?_
                refine topi_eq (nI_add c 3) ?_
                refine ro_V (n := 2) X hK (c_X11_numberOf hn hc3 (by omega) hd2) gX11_readTime_X11_numberOf rfl (by decide +kernel) ⟨rfl, rfl⟩ ⟨Nat.le_of_ble_eq_true rfl, Nat.le_of_ble_eq_true rfl⟩ (hP.sub [0, 5] rfl) (va_recv hK hP (ci := 11) (q0 := 0) rfl rfl) rfl hl.1 rfl (Nat.le_of_ble_eq_true rfl) dX11_readTime_155 ⟨Nat.zero_le _, Nat.zero_le _⟩ ?_
                rw [show c + 3 - (c + 1) = 2 by omega, Nat.min_eq_left (show numN L (c + 1) 2 0 ≤ 99999 by omega)]
                refine lv_iadd hx hb dX11_readTime_158 ?_
                refine topi_eq (y := nI (60 * ((if numN L p (c - p) 0 = 12 then 0 else numN L p (c - p) 0) + (if foC fo (bt n L (c + 3)) = 112 then 12 else 0)) + numN L (c + 1) 2 0)) (by rw [← hrm]; first | (rw [if_pos h_112]; exact tm4 _ 12 _) | (rw [if_neg h_112]; exact tm4 _ 0 _)) ?_
                refine mu_V (n := 4) X hK (c_X11_add hτ) gX11_readTime_X11_add rfl (by decide +kernel) ⟨rfl, rfl⟩ ⟨Nat.le_of_ble_eq_true rfl, Nat.le_of_ble_eq_true rfl⟩ [0, 1, 2, 3, 4] rfl rfl rfl rfl hA hP hD hS (va_recv hK hP (ci := 11) (q0 := 0) rfl rfl) rfl hl.1 rfl (Nat.le_of_ble_eq_true rfl) dX11_readTime_159 ⟨Nat.zero_le _, Nat.zero_le _⟩ (fun H locs hP hD hS => ?_)
                have hP : va_P D vwCl [(m, .inr (11, [_, .ref (a 1), .ref (a 2), _, _, _, .ref (a 6), .ref (a 7), .ref (a 8), .ref (a 9), .ref (a 10), .ref (a 11), .ref (a 12), .ref (a 13), .ref (a 14), .ref (a 15), _, _, .ref (a 18), .ref (a 19), .ref (a 20), .ref (a 21), .ref (a 22), .ref (a 23), .ref (a 24), .ref (a 25), _, _, .ref (a 28), _, _, .ref (a 31), .ref (a 32), .ref (a 33), _, _, _])), ((a 22), .inl (cI, 24, .inl _)), ((a 23), .inl (cI, 24, .inl _)), ((a 24), .inl (cI, 24, .inl _)), ((a 25), .inl (cI, 24, .inl _)), ((a 15), .inl (cI, 80, .inl _)), ((a 1), .inl (cI, 32, .inl _))] H := hP
                have hD : va_D A [(m, .inr (11, [_, .ref (a 1), .ref (a 2), _, _, _, .ref (a 6), .ref (a 7), .ref (a 8), .ref (a 9), .ref (a 10), .ref (a 11), .ref (a 12), .ref (a 13), .ref (a 14), .ref (a 15), _, _, .ref (a 18), .ref (a 19), .ref (a 20), .ref (a 21), .ref (a 22), .ref (a 23), .ref (a 24), .ref (a 25), _, _, .ref (a 28), _, _, .ref (a 31), .ref (a 32), .ref (a 33), _, _, _])), ((a 22), .inl (cI, 24, .inl _)), ((a 23), .inl (cI, 24, .inl _)), ((a 24), .inl (cI, 24, .inl _)), ((a 25), .inl (cI, 24, .inl _)), ((a 15), .inl (cI, 80, .inl _)), ((a 1), .inl (cI, 32, .inl _))] := hD
                refine lv_iload hx hb dX11_readTime_162 (lv_at hl 0 rfl) ?_
                exact mu_iret X hP hS (by rw [ht]) (by rw [ht]) dX11_readTime_164
      · refine lv_iload hx hb dX11_readTime_75 (lv_at hl 1 rfl) ?_
        refine lv_bipush (v := 112) hx hb dX11_readTime_77 (by decide) ?_
        refine lv_icmp_ne (tgt := 136) hx hb dX11_readTime_79 (by decide) (fun c_79 => ?_) (fun c_79 => ?_)
        · have ht : tTok (foC fo) n L p c τ = (c + 3, ad4 τ 3 (nI p) (nI (c + 3 - p)) (nI (60 * numN L p (c - p) 0 + numN L (c + 1) 2 0))) := if_neg (fun q => by have hh := q.2.2; rw [hd_m] at hh; simp only [ltO] at hh; simp [c_17, c_47, c_72, c_79] at hh)
          refine lv_aload_n hx hb dX11_readTime_136 rfl (lv_at hl 4 rfl) ?_
          refine lv_iconst (v := 3) hx hb dX11_readTime_137 (by decide) ?_
          refine lv_iload_n hx hb dX11_readTime_138 rfl (lv_at hl 5 rfl) ?_
          refine lv_iload hx hb dX11_readTime_139 (lv_at hl 3 rfl) ?_
          refine lv_iload_n hx hb dX11_readTime_141 rfl (lv_at hl 5 rfl) ?_
          refine lv_isub hx hb dX11_readTime_142 ?_
          refine topi_eq (nI_sub1 (by omega)) ?_
          refine lv_bipush (v := 60) hx hb dX11_readTime_143 (by decide) ?_
          refine lv_iload hx hb dX11_readTime_145 (lv_at hl 2 rfl) ?_
          refine lv_imul hx hb dX11_readTime_147 ?_
          refine lv_aload_n hx hb dX11_readTime_148 rfl (lv_at hl 4 rfl) ?_
          refine lv_iload_n hx hb dX11_readTime_149 rfl (lv_at hl 6 rfl) ?_
          refine lv_iconst (v := 1) hx hb dX11_readTime_150 (by decide) ?_
          refine lv_iadd hx hb dX11_readTime_151 ?_
          refine topi_eq (nI_1 c) ?_
          refine lv_iload_n hx hb dX11_readTime_152 rfl (lv_at hl 6 rfl) ?_
          refine lv_iconst (v := 3) hx hb dX11_readTime_153 (by decide) ?_
          refine lv_iadd hx hb dX11_readTime_154 ?_
          refine topi_eq (nI_add c 3) ?_
          refine ro_V (n := 2) X hK (c_X11_numberOf hn hc3 (by omega) hd2) gX11_readTime_X11_numberOf rfl (by decide +kernel) ⟨rfl, rfl⟩ ⟨Nat.le_of_ble_eq_true rfl, Nat.le_of_ble_eq_true rfl⟩ (hP.sub [0, 5] rfl) (va_recv hK hP (ci := 11) (q0 := 0) rfl rfl) rfl hl.1 rfl (Nat.le_of_ble_eq_true rfl) dX11_readTime_155 ⟨Nat.zero_le _, Nat.zero_le _⟩ ?_
          rw [show c + 3 - (c + 1) = 2 by omega, Nat.min_eq_left (show numN L (c + 1) 2 0 ≤ 99999 by omega)]
          refine lv_iadd hx hb dX11_readTime_158 ?_
          refine topi_eq (tm2 _ _) ?_
          refine mu_V (n := 4) X hK (c_X11_add hτ) gX11_readTime_X11_add rfl (by decide +kernel) ⟨rfl, rfl⟩ ⟨Nat.le_of_ble_eq_true rfl, Nat.le_of_ble_eq_true rfl⟩ [0, 1, 2, 3, 4] rfl rfl rfl rfl hA hP hD hS (va_recv hK hP (ci := 11) (q0 := 0) rfl rfl) rfl hl.1 rfl (Nat.le_of_ble_eq_true rfl) dX11_readTime_159 ⟨Nat.zero_le _, Nat.zero_le _⟩ (fun H locs hP hD hS => ?_)
          have hP : va_P D vwCl [(m, .inr (11, [_, .ref (a 1), .ref (a 2), _, _, _, .ref (a 6), .ref (a 7), .ref (a 8), .ref (a 9), .ref (a 10), .ref (a 11), .ref (a 12), .ref (a 13), .ref (a 14), .ref (a 15), _, _, .ref (a 18), .ref (a 19), .ref (a 20), .ref (a 21), .ref (a 22), .ref (a 23), .ref (a 24), .ref (a 25), _, _, .ref (a 28), _, _, .ref (a 31), .ref (a 32), .ref (a 33), _, _, _])), ((a 22), .inl (cI, 24, .inl _)), ((a 23), .inl (cI, 24, .inl _)), ((a 24), .inl (cI, 24, .inl _)), ((a 25), .inl (cI, 24, .inl _)), ((a 15), .inl (cI, 80, .inl _)), ((a 1), .inl (cI, 32, .inl _))] H := hP
          have hD : va_D A [(m, .inr (11, [_, .ref (a 1), .ref (a 2), _, _, _, .ref (a 6), .ref (a 7), .ref (a 8), .ref (a 9), .ref (a 10), .ref (a 11), .ref (a 12), .ref (a 13), .ref (a 14), .ref (a 15), _, _, .ref (a 18), .ref (a 19), .ref (a 20), .ref (a 21), .ref (a 22), .ref (a 23), .ref (a 24), .ref (a 25), _, _, .ref (a 28), _, _, .ref (a 31), .ref (a 32), .ref (a 33), _, _, _])), ((a 22), .inl (cI, 24, .inl _)), ((a 23), .inl (cI, 24, .inl _)), ((a 24), .inl (cI, 24, .inl _)), ((a 25), .inl (cI, 24, .inl _)), ((a 15), .inl (cI, 80, .inl _)), ((a 1), .inl (cI, 32, .inl _))] := hD
          refine lv_iload hx hb dX11_readTime_162 (lv_at hl 3 rfl) ?_
          exact mu_iret X hP hS (by rw [ht]) (by rw [ht]) dX11_readTime_164
        · refine lv_iload hx hb dX11_readTime_82 (lv_at hl 0 rfl) ?_
          refine lv_bipush (v := 109) hx hb dX11_readTime_84 (by decide) ?_
          refine lv_icmp_ne (tgt := 136) hx hb dX11_readTime_86 (by decide) (fun c_86 => ?_) (fun c_86 => ?_)
          · have ht : tTok (foC fo) n L p c τ = (c + 3, ad4 τ 3 (nI p) (nI (c + 3 - p)) (nI (60 * numN L p (c - p) 0 + numN L (c + 1) 2 0))) := if_neg (fun q => by have hh := q.2.2; rw [hd_m] at hh; simp only [ltO] at hh; simp [c_17, c_47, c_72, c_79, c_86] at hh)
            refine lv_aload_n hx hb dX11_readTime_136 rfl (lv_at hl 4 rfl) ?_
            refine lv_iconst (v := 3) hx hb dX11_readTime_137 (by decide) ?_
            refine lv_iload_n hx hb dX11_readTime_138 rfl (lv_at hl 5 rfl) ?_
            refine lv_iload hx hb dX11_readTime_139 (lv_at hl 3 rfl) ?_
            refine lv_iload_n hx hb dX11_readTime_141 rfl (lv_at hl 5 rfl) ?_
            refine lv_isub hx hb dX11_readTime_142 ?_
            refine topi_eq (nI_sub1 (by omega)) ?_
            refine lv_bipush (v := 60) hx hb dX11_readTime_143 (by decide) ?_
            refine lv_iload hx hb dX11_readTime_145 (lv_at hl 2 rfl) ?_
            refine lv_imul hx hb dX11_readTime_147 ?_
            refine lv_aload_n hx hb dX11_readTime_148 rfl (lv_at hl 4 rfl) ?_
            refine lv_iload_n hx hb dX11_readTime_149 rfl (lv_at hl 6 rfl) ?_
            refine lv_iconst (v := 1) hx hb dX11_readTime_150 (by decide) ?_
            refine lv_iadd hx hb dX11_readTime_151 ?_
            refine topi_eq (nI_1 c) ?_
            refine lv_iload_n hx hb dX11_readTime_152 rfl (lv_at hl 6 rfl) ?_
            refine lv_iconst (v := 3) hx hb dX11_readTime_153 (by decide) ?_
            refine lv_iadd hx hb dX11_readTime_154 ?_
            refine topi_eq (nI_add c 3) ?_
            refine ro_V (n := 2) X hK (c_X11_numberOf hn hc3 (by omega) hd2) gX11_readTime_X11_numberOf rfl (by decide +kernel) ⟨rfl, rfl⟩ ⟨Nat.le_of_ble_eq_true rfl, Nat.le_of_ble_eq_true rfl⟩ (hP.sub [0, 5] rfl) (va_recv hK hP (ci := 11) (q0 := 0) rfl rfl) rfl hl.1 rfl (Nat.le_of_ble_eq_true rfl) dX11_readTime_155 ⟨Nat.zero_le _, Nat.zero_le _⟩ ?_
            rw [show c + 3 - (c + 1) = 2 by omega, Nat.min_eq_left (show numN L (c + 1) 2 0 ≤ 99999 by omega)]
            refine lv_iadd hx hb dX11_readTime_158 ?_
            refine topi_eq (tm2 _ _) ?_
            refine mu_V (n := 4) X hK (c_X11_add hτ) gX11_readTime_X11_add rfl (by decide +kernel) ⟨rfl, rfl⟩ ⟨Nat.le_of_ble_eq_true rfl, Nat.le_of_ble_eq_true rfl⟩ [0, 1, 2, 3, 4] rfl rfl rfl rfl hA hP hD hS (va_recv hK hP (ci := 11) (q0 := 0) rfl rfl) rfl hl.1 rfl (Nat.le_of_ble_eq_true rfl) dX11_readTime_159 ⟨Nat.zero_le _, Nat.zero_le _⟩ (fun H locs hP hD hS => ?_)
            have hP : va_P D vwCl [(m, .inr (11, [_, .ref (a 1), .ref (a 2), _, _, _, .ref (a 6), .ref (a 7), .ref (a 8), .ref (a 9), .ref (a 10), .ref (a 11), .ref (a 12), .ref (a 13), .ref (a 14), .ref (a 15), _, _, .ref (a 18), .ref (a 19), .ref (a 20), .ref (a 21), .ref (a 22), .ref (a 23), .ref (a 24), .ref (a 25), _, _, .ref (a 28), _, _, .ref (a 31), .ref (a 32), .ref (a 33), _, _, _])), ((a 22), .inl (cI, 24, .inl _)), ((a 23), .inl (cI, 24, .inl _)), ((a 24), .inl (cI, 24, .inl _)), ((a 25), .inl (cI, 24, .inl _)), ((a 15), .inl (cI, 80, .inl _)), ((a 1), .inl (cI, 32, .inl _))] H := hP
            have hD : va_D A [(m, .inr (11, [_, .ref (a 1), .ref (a 2), _, _, _, .ref (a 6), .ref (a 7), .ref (a 8), .ref (a 9), .ref (a 10), .ref (a 11), .ref (a 12), .ref (a 13), .ref (a 14), .ref (a 15), _, _, .ref (a 18), .ref (a 19), .ref (a 20), .ref (a 21), .ref (a 22), .ref (a 23), .ref (a 24), .ref (a 25), _, _, .ref (a 28), _, _, .ref (a 31), .ref (a 32), .ref (a 33), _, _, _])), ((a 22), .inl (cI, 24, .inl _)), ((a 23), .inl (cI, 24, .inl _)), ((a 24), .inl (cI, 24, .inl _)), ((a 25), .inl (cI, 24, .inl _)), ((a 15), .inl (cI, 80, .inl _)), ((a 1), .inl (cI, 32, .inl _))] := hD
            refine lv_iload hx hb dX11_readTime_162 (lv_at hl 3 rfl) ?_
            exact mu_iret X hP hS (by rw [ht]) (by rw [ht]) dX11_readTime_164
          · refine lv_aload_n hx hb dX11_readTime_89 rfl (lv_at hl 4 rfl) ?_
            refine lv_iload hx hb dX11_readTime_90 (lv_at hl 3 rfl) ?_
            refine lv_iconst (v := 2) hx hb dX11_readTime_92 (by decide) ?_
            refine lv_iadd hx hb dX11_readTime_93 ?_
            refine topi_eq (nI_add (c + 3) 2) ?_
            refine ro_V (n := 1) X hK (c_X11_byteAt hn (by omega)) gX11_readTime_X11_byteAt rfl (by decide +kernel) ⟨rfl, rfl⟩ ⟨Nat.le_of_ble_eq_true rfl, Nat.le_of_ble_eq_true rfl⟩ (hP.sub [0, 5] rfl) (va_recv hK hP (ci := 11) (q0 := 0) rfl rfl) rfl hl.1 rfl (Nat.le_of_ble_eq_true rfl) dX11_readTime_94 ⟨Nat.zero_le _, Nat.zero_le _⟩ ?_
            refine ro_S (n := 1) X hK (c_X11_isLetter) gX11_readTime_X11_isLetter rfl (by decide +kernel) ⟨rfl, rfl⟩ ⟨Nat.le_of_ble_eq_true rfl, Nat.le_of_ble_eq_true rfl⟩ (hP.sub [] rfl) rfl hl.1 rfl (Nat.le_of_ble_eq_true rfl) dX11_readTime_97 ⟨Nat.zero_le _, Nat.zero_le _⟩ ?_
            refine lv_if_ne (tgt := 136) hx hb dX11_readTime_100 (by decide) (fun c_100 => ?_) (fun c_100 => ?_)
            · replace c_100 := bI_n0.mp c_100
              have ht : tTok (foC fo) n L p c τ = (c + 3, ad4 τ 3 (nI p) (nI (c + 3 - p)) (nI (60 * numN L p (c - p) 0 + numN L (c + 1) 2 0))) := if_neg (fun q => by have hh := q.2.2; rw [hd_m] at hh; simp only [ltO] at hh; simp [c_17, c_47, c_72, c_79, c_86, c_100] at hh)
              refine lv_aload_n hx hb dX11_readTime_136 rfl (lv_at hl 4 rfl) ?_
              refine lv_iconst (v := 3) hx hb dX11_readTime_137 (by decide) ?_
              refine lv_iload_n hx hb dX11_readTime_138 rfl (lv_at hl 5 rfl) ?_
              refine lv_iload hx hb dX11_readTime_139 (lv_at hl 3 rfl) ?_
              refine lv_iload_n hx hb dX11_readTime_141 rfl (lv_at hl 5 rfl) ?_
              refine lv_isub hx hb dX11_readTime_142 ?_
              refine topi_eq (nI_sub1 (by omega)) ?_
              refine lv_bipush (v := 60) hx hb dX11_readTime_143 (by decide) ?_
              refine lv_iload hx hb dX11_readTime_145 (lv_at hl 2 rfl) ?_
              refine lv_imul hx hb dX11_readTime_147 ?_
              refine lv_aload_n hx hb dX11_readTime_148 rfl (lv_at hl 4 rfl) ?_
              refine lv_iload_n hx hb dX11_readTime_149 rfl (lv_at hl 6 rfl) ?_
              refine lv_iconst (v := 1) hx hb dX11_readTime_150 (by decide) ?_
              refine lv_iadd hx hb dX11_readTime_151 ?_
              refine topi_eq (nI_1 c) ?_
              refine lv_iload_n hx hb dX11_readTime_152 rfl (lv_at hl 6 rfl) ?_
              refine lv_iconst (v := 3) hx hb dX11_readTime_153 (by decide) ?_
              refine lv_iadd hx hb dX11_readTime_154 ?_
              refine topi_eq (nI_add c 3) ?_
              refine ro_V (n := 2) X hK (c_X11_numberOf hn hc3 (by omega) hd2) gX11_readTime_X11_numberOf rfl (by decide +kernel) ⟨rfl, rfl⟩ ⟨Nat.le_of_ble_eq_true rfl, Nat.le_of_ble_eq_true rfl⟩ (hP.sub [0, 5] rfl) (va_recv hK hP (ci := 11) (q0 := 0) rfl rfl) rfl hl.1 rfl (Nat.le_of_ble_eq_true rfl) dX11_readTime_155 ⟨Nat.zero_le _, Nat.zero_le _⟩ ?_
              rw [show c + 3 - (c + 1) = 2 by omega, Nat.min_eq_left (show numN L (c + 1) 2 0 ≤ 99999 by omega)]
              refine lv_iadd hx hb dX11_readTime_158 ?_
              refine topi_eq (tm2 _ _) ?_
              refine mu_V (n := 4) X hK (c_X11_add hτ) gX11_readTime_X11_add rfl (by decide +kernel) ⟨rfl, rfl⟩ ⟨Nat.le_of_ble_eq_true rfl, Nat.le_of_ble_eq_true rfl⟩ [0, 1, 2, 3, 4] rfl rfl rfl rfl hA hP hD hS (va_recv hK hP (ci := 11) (q0 := 0) rfl rfl) rfl hl.1 rfl (Nat.le_of_ble_eq_true rfl) dX11_readTime_159 ⟨Nat.zero_le _, Nat.zero_le _⟩ (fun H locs hP hD hS => ?_)
              have hP : va_P D vwCl [(m, .inr (11, [_, .ref (a 1), .ref (a 2), _, _, _, .ref (a 6), .ref (a 7), .ref (a 8), .ref (a 9), .ref (a 10), .ref (a 11), .ref (a 12), .ref (a 13), .ref (a 14), .ref (a 15), _, _, .ref (a 18), .ref (a 19), .ref (a 20), .ref (a 21), .ref (a 22), .ref (a 23), .ref (a 24), .ref (a 25), _, _, .ref (a 28), _, _, .ref (a 31), .ref (a 32), .ref (a 33), _, _, _])), ((a 22), .inl (cI, 24, .inl _)), ((a 23), .inl (cI, 24, .inl _)), ((a 24), .inl (cI, 24, .inl _)), ((a 25), .inl (cI, 24, .inl _)), ((a 15), .inl (cI, 80, .inl _)), ((a 1), .inl (cI, 32, .inl _))] H := hP
              have hD : va_D A [(m, .inr (11, [_, .ref (a 1), .ref (a 2), _, _, _, .ref (a 6), .ref (a 7), .ref (a 8), .ref (a 9), .ref (a 10), .ref (a 11), .ref (a 12), .ref (a 13), .ref (a 14), .ref (a 15), _, _, .ref (a 18), .ref (a 19), .ref (a 20), .ref (a 21), .ref (a 22), .ref (a 23), .ref (a 24), .ref (a 25), _, _, .ref (a 28), _, _, .ref (a 31), .ref (a 32), .ref (a 33), _, _, _])), ((a 22), .inl (cI, 24, .inl _)), ((a 23), .inl (cI, 24, .inl _)), ((a 24), .inl (cI, 24, .inl _)), ((a 25), .inl (cI, 24, .inl _)), ((a 15), .inl (cI, 80, .inl _)), ((a 1), .inl (cI, 32, .inl _))] := hD
              refine lv_iload hx hb dX11_readTime_162 (lv_at hl 3 rfl) ?_
              exact mu_iret X hP hS (by rw [ht]) (by rw [ht]) dX11_readTime_164
            · replace c_100 := bI_0.mp c_100
              refine lv_iload_n hx hb dX11_readTime_103 rfl (lv_at hl 7 rfl) ?_
              refine lv_iconst (v := 1) hx hb dX11_readTime_104 (by decide) ?_
              refine lv_bipush (v := 12) hx hb dX11_readTime_105 (by decide) ?_
              refine ro_S (n := 3) X hK (c_X11_in) gX11_readTime_X11_in rfl (by decide +kernel) ⟨rfl, rfl⟩ ⟨Nat.le_of_ble_eq_true rfl, Nat.le_of_ble_eq_true rfl⟩ (hP.sub [] rfl) rfl hl.1 rfl (Nat.le_of_ble_eq_true rfl) dX11_readTime_107 ⟨Nat.zero_le _, Nat.zero_le _⟩ ?_
              refine lv_if_eq (tgt := 136) hx hb dX11_readTime_110 (by decide) (fun c_110 => ?_) (fun c_110 => ?_)
              · replace c_110 := bI_0.mp c_110
                have ht : tTok (foC fo) n L p c τ = (c + 3, ad4 τ 3 (nI p) (nI (c + 3 - p)) (nI (60 * numN L p (c - p) 0 + numN L (c + 1) 2 0))) := if_neg (fun q => absurd c_110 (by rw [show inB (nI (numN L p (c - p) 0)) 1 12 = true from inB_t (lo := 1) (hi := 12) q.1 q.2.1 (by decide)]; decide))
                refine lv_aload_n hx hb dX11_readTime_136 rfl (lv_at hl 4 rfl) ?_
                refine lv_iconst (v := 3) hx hb dX11_readTime_137 (by decide) ?_
                refine lv_iload_n hx hb dX11_readTime_138 rfl (lv_at hl 5 rfl) ?_
                refine lv_iload hx hb dX11_readTime_139 (lv_at hl 3 rfl) ?_
                refine lv_iload_n hx hb dX11_readTime_141 rfl (lv_at hl 5 rfl) ?_
                refine lv_isub hx hb dX11_readTime_142 ?_
                refine topi_eq (nI_sub1 (by omega)) ?_
                refine lv_bipush (v := 60) hx hb dX11_readTime_143 (by decide) ?_
                refine lv_iload hx hb dX11_readTime_145 (lv_at hl 2 rfl) ?_
                refine lv_imul hx hb dX11_readTime_147 ?_
                refine lv_aload_n hx hb dX11_readTime_148 rfl (lv_at hl 4 rfl) ?_
                refine lv_iload_n hx hb dX11_readTime_149 rfl (lv_at hl 6 rfl) ?_
                refine lv_iconst (v := 1) hx hb dX11_readTime_150 (by decide) ?_
                refine lv_iadd hx hb dX11_readTime_151 ?_
                refine topi_eq (nI_1 c) ?_
                refine lv_iload_n hx hb dX11_readTime_152 rfl (lv_at hl 6 rfl) ?_
                refine lv_iconst (v := 3) hx hb dX11_readTime_153 (by decide) ?_
                refine lv_iadd hx hb dX11_readTime_154 ?_
                refine topi_eq (nI_add c 3) ?_
                refine ro_V (n := 2) X hK (c_X11_numberOf hn hc3 (by omega) hd2) gX11_readTime_X11_numberOf rfl (by decide +kernel) ⟨rfl, rfl⟩ ⟨Nat.le_of_ble_eq_true rfl, Nat.le_of_ble_eq_true rfl⟩ (hP.sub [0, 5] rfl) (va_recv hK hP (ci := 11) (q0 := 0) rfl rfl) rfl hl.1 rfl (Nat.le_of_ble_eq_true rfl) dX11_readTime_155 ⟨Nat.zero_le _, Nat.zero_le _⟩ ?_
                rw [show c + 3 - (c + 1) = 2 by omega, Nat.min_eq_left (show numN L (c + 1) 2 0 ≤ 99999 by omega)]
                refine lv_iadd hx hb dX11_readTime_158 ?_
                refine topi_eq (tm2 _ _) ?_
                refine mu_V (n := 4) X hK (c_X11_add hτ) gX11_readTime_X11_add rfl (by decide +kernel) ⟨rfl, rfl⟩ ⟨Nat.le_of_ble_eq_true rfl, Nat.le_of_ble_eq_true rfl⟩ [0, 1, 2, 3, 4] rfl rfl rfl rfl hA hP hD hS (va_recv hK hP (ci := 11) (q0 := 0) rfl rfl) rfl hl.1 rfl (Nat.le_of_ble_eq_true rfl) dX11_readTime_159 ⟨Nat.zero_le _, Nat.zero_le _⟩ (fun H locs hP hD hS => ?_)
                have hP : va_P D vwCl [(m, .inr (11, [_, .ref (a 1), .ref (a 2), _, _, _, .ref (a 6), .ref (a 7), .ref (a 8), .ref (a 9), .ref (a 10), .ref (a 11), .ref (a 12), .ref (a 13), .ref (a 14), .ref (a 15), _, _, .ref (a 18), .ref (a 19), .ref (a 20), .ref (a 21), .ref (a 22), .ref (a 23), .ref (a 24), .ref (a 25), _, _, .ref (a 28), _, _, .ref (a 31), .ref (a 32), .ref (a 33), _, _, _])), ((a 22), .inl (cI, 24, .inl _)), ((a 23), .inl (cI, 24, .inl _)), ((a 24), .inl (cI, 24, .inl _)), ((a 25), .inl (cI, 24, .inl _)), ((a 15), .inl (cI, 80, .inl _)), ((a 1), .inl (cI, 32, .inl _))] H := hP
                have hD : va_D A [(m, .inr (11, [_, .ref (a 1), .ref (a 2), _, _, _, .ref (a 6), .ref (a 7), .ref (a 8), .ref (a 9), .ref (a 10), .ref (a 11), .ref (a 12), .ref (a 13), .ref (a 14), .ref (a 15), _, _, .ref (a 18), .ref (a 19), .ref (a 20), .ref (a 21), .ref (a 22), .ref (a 23), .ref (a 24), .ref (a 25), _, _, .ref (a 28), _, _, .ref (a 31), .ref (a 32), .ref (a 33), _, _, _])), ((a 22), .inl (cI, 24, .inl _)), ((a 23), .inl (cI, 24, .inl _)), ((a 24), .inl (cI, 24, .inl _)), ((a 25), .inl (cI, 24, .inl _)), ((a 15), .inl (cI, 80, .inl _)), ((a 1), .inl (cI, 32, .inl _))] := hD
                refine lv_iload hx hb dX11_readTime_162 (lv_at hl 3 rfl) ?_
                exact mu_iret X hP hS (by rw [ht]) (by rw [ht]) dX11_readTime_164
              · replace c_110 := bI_n0.mp c_110
                have h_110 : 1 ≤ numN L p (c - p) 0 ∧ numN L p (c - p) 0 ≤ 12 := by obtain ⟨j, hj1, hj2, ej⟩ := inB_of 1 12 c_110 (by decide) (by decide); have := (nI_eq (by omega) (by omega)).mp ej; omega
                refine lv_iload_n hx hb dX11_readTime_113 rfl (lv_at hl 7 rfl) ?_
                refine lv_bipush (v := 12) hx hb dX11_readTime_114 (by decide) ?_
                refine lv_irem hx hb dX11_readTime_116 (by decide) ?_
                refine topi_eq (pk_rem (a := numN L p (c - p) 0) (d := 12) (by omega) (by decide) (by decide)) ?_
                refine lv_iload hx hb dX11_readTime_117 (lv_at hl 1 rfl) ?_
                refine lv_bipush (v := 112) hx hb dX11_readTime_119 (by decide) ?_
                refine lv_icmp_ne (tgt := 129) hx hb dX11_readTime_121 (by decide) (fun c_121 => ?_) (fun c_121 => ?_)
                · have h_112 : ¬ foC fo (bt n L (c + 3)) = 112 := fun q => c_121 (by first | exact q | (exact absurd q (foC_not c_17).2.1))
                  refine lv_iconst (v := 0) hx hb dX11_readTime_129 (by decide) ?_
                  refine lv_iadd hx hb dX11_readTime_130 ?_
                  have hrm : numN L p (c - p) 0 % 12 = if numN L p (c - p) 0 = 12 then 0 else numN L p (c - p) 0 := h_12 _ h_110.1 h_110.2
                  refine lv_istore (lv' := [(5, _), (7, _), (6, _), (4, _), (0, _), (1, _), (2, _), (3, _)]) hx hb dX11_readTime_131 hl (by decide) rfl (fun ls hl => ?_)
                  refine lv_iinc (v := (_ : Int32) + 2) (lv' := [(4, _), (5, _), (7, _), (6, _), (0, _), (1, _), (2, _), (3, _)]) hx hb dX11_readTime_133 hl (k := 3) rfl rfl (by decide) rfl (fun ls hl => ?_)
                  rw [show nI (c + 3) + 2 = nI (c + 5) from nI_add (c + 3) 2] at hl
                  obtain ⟨h1_, h12_⟩ := h_110
                  have ht : tTok (foC fo) n L p c τ = (c + 5, ad4 τ 3 (nI p) (nI (c + 5 - p)) (nI (60 * ((if numN L p (c - p) 0 = 12 then 0 else numN L p (c - p) 0) + (if foC fo (bt n L (c + 3)) = 112 then 12 else 0)) + numN L (c + 1) 2 0))) := if_pos ⟨h1_, h12_, by rw [hd_m]; simp only [ltO]; simp [c_17, c_47, c_72, c_79, c_86, c_100]⟩
                  refine lv_aload_n hx hb dX11_readTime_136 rfl (lv_at hl 4 rfl) ?_
                  refine lv_iconst (v := 3) hx hb dX11_readTime_137 (by decide) ?_
                  refine lv_iload_n hx hb dX11_readTime_138 rfl (lv_at hl 5 rfl) ?_
                  refine lv_iload hx hb dX11_readTime_139 (lv_at hl 0 rfl) ?_
                  refine lv_iload_n hx hb dX11_readTime_141 rfl (lv_at hl 5 rfl) ?_
                  refine lv_isub hx hb dX11_readTime_142 ?_
                  refine topi_eq (nI_sub1 (by omega)) ?_
                  refine lv_bipush (v := 60) hx hb dX11_readTime_143 (by decide) ?_
                  refine lv_iload hx hb dX11_readTime_145 (lv_at hl 1 rfl) ?_
                  refine lv_imul hx hb dX11_readTime_147 ?_
                  refine lv_aload_n hx hb dX11_readTime_148 rfl (lv_at hl 4 rfl) ?_
                  refine lv_iload_n hx hb dX11_readTime_149 rfl (lv_at hl 6 rfl) ?_
                  refine lv_iconst (v := 1) hx hb dX11_readTime_150 (by decide) ?_
                  refine lv_iadd hx hb dX11_readTime_151 ?_
                  refine topi_eq (nI_1 c) ?_
                  refine lv_iload_n hx hb dX11_readTime_152 rfl (lv_at hl 6 rfl) ?_
                  refine lv_iconst (v := 3) hx hb dX11_readTime_153 (by decide) ?_
                  refine lv_iadd hx hb dX11_readTime_154 ?_
                  refine topi_eq (nI_add c 3) ?_
                  refine ro_V (n := 2) X hK (c_X11_numberOf hn hc3 (by omega) hd2) gX11_readTime_X11_numberOf rfl (by decide +kernel) ⟨rfl, rfl⟩ ⟨Nat.le_of_ble_eq_true rfl, Nat.le_of_ble_eq_true rfl⟩ (hP.sub [0, 5] rfl) (va_recv hK hP (ci := 11) (q0 := 0) rfl rfl) rfl hl.1 rfl (Nat.le_of_ble_eq_true rfl) dX11_readTime_155 ⟨Nat.zero_le _, Nat.zero_le _⟩ ?_
                  rw [show c + 3 - (c + 1) = 2 by omega, Nat.min_eq_left (show numN L (c + 1) 2 0 ≤ 99999 by omega)]
                  refine lv_iadd hx hb dX11_readTime_158 ?_
                  refine topi_eq (y := nI (60 * ((if numN L p (c - p) 0 = 12 then 0 else numN L p (c - p) 0) + (if foC fo (bt n L (c + 3)) = 112 then 12 else 0)) + numN L (c + 1) 2 0)) (by rw [← hrm]; first | (rw [if_pos h_112]; exact tm4 _ 12 _) | (rw [if_neg h_112]; exact tm4 _ 0 _)) ?_
                  refine mu_V (n := 4) X hK (c_X11_add hτ) gX11_readTime_X11_add rfl (by decide +kernel) ⟨rfl, rfl⟩ ⟨Nat.le_of_ble_eq_true rfl, Nat.le_of_ble_eq_true rfl⟩ [0, 1, 2, 3, 4] rfl rfl rfl rfl hA hP hD hS (va_recv hK hP (ci := 11) (q0 := 0) rfl rfl) rfl hl.1 rfl (Nat.le_of_ble_eq_true rfl) dX11_readTime_159 ⟨Nat.zero_le _, Nat.zero_le _⟩ (fun H locs hP hD hS => ?_)
                  have hP : va_P D vwCl [(m, .inr (11, [_, .ref (a 1), .ref (a 2), _, _, _, .ref (a 6), .ref (a 7), .ref (a 8), .ref (a 9), .ref (a 10), .ref (a 11), .ref (a 12), .ref (a 13), .ref (a 14), .ref (a 15), _, _, .ref (a 18), .ref (a 19), .ref (a 20), .ref (a 21), .ref (a 22), .ref (a 23), .ref (a 24), .ref (a 25), _, _, .ref (a 28), _, _, .ref (a 31), .ref (a 32), .ref (a 33), _, _, _])), ((a 22), .inl (cI, 24, .inl _)), ((a 23), .inl (cI, 24, .inl _)), ((a 24), .inl (cI, 24, .inl _)), ((a 25), .inl (cI, 24, .inl _)), ((a 15), .inl (cI, 80, .inl _)), ((a 1), .inl (cI, 32, .inl _))] H := hP
                  have hD : va_D A [(m, .inr (11, [_, .ref (a 1), .ref (a 2), _, _, _, .ref (a 6), .ref (a 7), .ref (a 8), .ref (a 9), .ref (a 10), .ref (a 11), .ref (a 12), .ref (a 13), .ref (a 14), .ref (a 15), _, _, .ref (a 18), .ref (a 19), .ref (a 20), .ref (a 21), .ref (a 22), .ref (a 23), .ref (a 24), .ref (a 25), _, _, .ref (a 28), _, _, .ref (a 31), .ref (a 32), .ref (a 33), _, _, _])), ((a 22), .inl (cI, 24, .inl _)), ((a 23), .inl (cI, 24, .inl _)), ((a 24), .inl (cI, 24, .inl _)), ((a 25), .inl (cI, 24, .inl _)), ((a 15), .inl (cI, 80, .inl _)), ((a 1), .inl (cI, 32, .inl _))] := hD
                  refine lv_iload hx hb dX11_readTime_162 (lv_at hl 0 rfl) ?_
                  exact mu_iret X hP hS (by rw [ht]) (by rw [ht]) dX11_readTime_164
                · have h_112 : foC fo (bt n L (c + 3)) = 112 := c_121
                  refine lv_bipush (v := 12) hx hb dX11_readTime_124 (by decide) ?_
                  refine lv_goto (tgt := 130) hx hb dX11_readTime_126 (by decide) ?_
                  refine lv_iadd hx hb dX11_readTime_130 ?_
                  have hrm : numN L p (c - p) 0 % 12 = if numN L p (c - p) 0 = 12 then 0 else numN L p (c - p) 0 := h_12 _ h_110.1 h_110.2
                  refine lv_istore (lv' := [(5, _), (7, _), (6, _), (4, _), (0, _), (1, _), (2, _), (3, _)]) hx hb dX11_readTime_131 hl (by decide) rfl (fun ls hl => ?_)
                  refine lv_iinc (v := (_ : Int32) + 2) (lv' := [(4, _), (5, _), (7, _), (6, _), (0, _), (1, _), (2, _), (3, _)]) hx hb dX11_readTime_133 hl (k := 3) rfl rfl (by decide) rfl (fun ls hl => ?_)
                  rw [show nI (c + 3) + 2 = nI (c + 5) from nI_add (c + 3) 2] at hl
                  obtain ⟨h1_, h12_⟩ := h_110
                  have ht : tTok (foC fo) n L p c τ = (c + 5, ad4 τ 3 (nI p) (nI (c + 5 - p)) (nI (60 * ((if numN L p (c - p) 0 = 12 then 0 else numN L p (c - p) 0) + (if foC fo (bt n L (c + 3)) = 112 then 12 else 0)) + numN L (c + 1) 2 0))) := if_pos ⟨h1_, h12_, by rw [hd_m]; simp only [ltO]; simp [c_17, c_47, c_72, c_79, c_86, c_100]⟩
                  refine lv_aload_n hx hb dX11_readTime_136 rfl (lv_at hl 4 rfl) ?_
                  refine lv_iconst (v := 3) hx hb dX11_readTime_137 (by decide) ?_
                  refine lv_iload_n hx hb dX11_readTime_138 rfl (lv_at hl 5 rfl) ?_
                  refine lv_iload hx hb dX11_readTime_139 (lv_at hl 0 rfl) ?_
                  refine lv_iload_n hx hb dX11_readTime_141 rfl (lv_at hl 5 rfl) ?_
                  refine lv_isub hx hb dX11_readTime_142 ?_
                  refine topi_eq (nI_sub1 (by omega)) ?_
                  refine lv_bipush (v := 60) hx hb dX11_readTime_143 (by decide) ?_
                  refine lv_iload hx hb dX11_readTime_145 (lv_at hl 1 rfl) ?_
                  refine lv_imul hx hb dX11_readTime_147 ?_
                  refine lv_aload_n hx hb dX11_readTime_148 rfl (lv_at hl 4 rfl) ?_
                  refine lv_iload_n hx hb dX11_readTime_149 rfl (lv_at hl 6 rfl) ?_
                  refine lv_iconst (v := 1) hx hb dX11_readTime_150 (by decide) ?_
                  refine lv_iadd hx hb dX11_readTime_151 ?_
                  refine topi_eq (nI_1 c) ?_
                  refine lv_iload_n hx hb dX11_readTime_152 rfl (lv_at hl 6 rfl) ?_
                  refine lv_iconst (v := 3) hx hb dX11_readTime_153 (by decide) ?_
                  refine lv_iadd hx hb dX11_readTime_154 ?_
                  refine topi_eq (nI_add c 3) ?_
                  refine ro_V (n := 2) X hK (c_X11_numberOf hn hc3 (by omega) hd2) gX11_readTime_X11_numberOf rfl (by decide +kernel) ⟨rfl, rfl⟩ ⟨Nat.le_of_ble_eq_true rfl, Nat.le_of_ble_eq_true rfl⟩ (hP.sub [0, 5] rfl) (va_recv hK hP (ci := 11) (q0 := 0) rfl rfl) rfl hl.1 rfl (Nat.le_of_ble_eq_true rfl) dX11_readTime_155 ⟨Nat.zero_le _, Nat.zero_le _⟩ ?_
                  rw [show c + 3 - (c + 1) = 2 by omega, Nat.min_eq_left (show numN L (c + 1) 2 0 ≤ 99999 by omega)]
                  refine lv_iadd hx hb dX11_readTime_158 ?_
                  refine topi_eq (y := nI (60 * ((if numN L p (c - p) 0 = 12 then 0 else numN L p (c - p) 0) + (if foC fo (bt n L (c + 3)) = 112 then 12 else 0)) + numN L (c + 1) 2 0)) (by rw [← hrm]; first | (rw [if_pos h_112]; exact tm4 _ 12 _) | (rw [if_neg h_112]; exact tm4 _ 0 _)) ?_
                  refine mu_V (n := 4) X hK (c_X11_add hτ) gX11_readTime_X11_add rfl (by decide +kernel) ⟨rfl, rfl⟩ ⟨Nat.le_of_ble_eq_true rfl, Nat.le_of_ble_eq_true rfl⟩ [0, 1, 2, 3, 4] rfl rfl rfl rfl hA hP hD hS (va_recv hK hP (ci := 11) (q0 := 0) rfl rfl) rfl hl.1 rfl (Nat.le_of_ble_eq_true rfl) dX11_readTime_159 ⟨Nat.zero_le _, Nat.zero_le _⟩ (fun H locs hP hD hS => ?_)
                  have hP : va_P D vwCl [(m, .inr (11, [_, .ref (a 1), .ref (a 2), _, _, _, .ref (a 6), .ref (a 7), .ref (a 8), .ref (a 9), .ref (a 10), .ref (a 11), .ref (a 12), .ref (a 13), .ref (a 14), .ref (a 15), _, _, .ref (a 18), .ref (a 19), .ref (a 20), .ref (a 21), .ref (a 22), .ref (a 23), .ref (a 24), .ref (a 25), _, _, .ref (a 28), _, _, .ref (a 31), .ref (a 32), .ref (a 33), _, _, _])), ((a 22), .inl (cI, 24, .inl _)), ((a 23), .inl (cI, 24, .inl _)), ((a 24), .inl (cI, 24, .inl _)), ((a 25), .inl (cI, 24, .inl _)), ((a 15), .inl (cI, 80, .inl _)), ((a 1), .inl (cI, 32, .inl _))] H := hP
                  have hD : va_D A [(m, .inr (11, [_, .ref (a 1), .ref (a 2), _, _, _, .ref (a 6), .ref (a 7), .ref (a 8), .ref (a 9), .ref (a 10), .ref (a 11), .ref (a 12), .ref (a 13), .ref (a 14), .ref (a 15), _, _, .ref (a 18), .ref (a 19), .ref (a 20), .ref (a 21), .ref (a 22), .ref (a 23), .ref (a 24), .ref (a 25), _, _, .ref (a 28), _, _, .ref (a 31), .ref (a 32), .ref (a 33), _, _, _])), ((a 22), .inl (cI, 24, .inl _)), ((a 23), .inl (cI, 24, .inl _)), ((a 24), .inl (cI, 24, .inl _)), ((a 25), .inl (cI, 24, .inl _)), ((a 15), .inl (cI, 80, .inl _)), ((a 1), .inl (cI, 32, .inl _))] := hD
                  refine lv_iload hx hb dX11_readTime_162 (lv_at hl 0 rfl) ?_
                  exact mu_iret X hP hS (by rw [ht]) (by rw [ht]) dX11_readTime_164

set_option maxHeartbeats 1000000 in
set_option maxRecDepth 100000 in
theorem c_X11_readDigits {l : Launch} {D : va_G} {cI cJ cW : ClassId} {sz : Nat} {m : Nat} {a : Nat → Nat} {ct dn nw nj n tn tc mm : Nat} {τ : TS} {fu am pb : Int32} {L : Nat → Int32} {fo : Nat → Int32} {p : Nat} (hn : n ≤ 80) (hτ : τ.1 ≤ 24) (hp : p < n) : MU l yX11_readDigits wsX11_readDigits { frames := 3, cells := 0, slots := 0, locals := 70 } D (ty3 cI cJ cW) [.ref m, .int (nI p)] [(m, .inr (11, [.int (nI ct), .ref (a 1), .ref (a 2), .int (nI dn), .int (nI nw), .int (nI nj), .ref (a 6), .ref (a 7), .ref (a 8), .ref (a 9), .ref (a 10), .ref (a 11), .ref (a 12), .ref (a 13), .ref (a 14), .ref (a 15), .int (nI n), .int (nI tn), .ref (a 18), .ref (a 19), .ref (a 20), .ref (a 21), .ref (a 22), .ref (a 23), .ref (a 24), .ref (a 25), .int (nI τ.1), .int (τ.2.1), .ref (a 28), .int (nI tc), .int (nI mm), .ref (a 31), .ref (a 32), .ref (a 33), .int (fu), .int (am), .int (pb)])), ((a 22), .inl (cI, 24, .inl (τ.2.2 1))), ((a 23), .inl (cI, 24, .inl (τ.2.2 2))), ((a 24), .inl (cI, 24, .inl (τ.2.2 3))), ((a 25), .inl (cI, 24, .inl (τ.2.2 4))), ((a 15), .inl (cI, 80, .inl L)), ((a 1), .inl (cI, 32, .inl fo))] sz (some (.int (nI (dTok (foC fo) n L p τ).1))) [(m, .inr (11, [.int (nI ct), .ref (a 1), .ref (a 2), .int (nI dn), .int (nI nw), .int (nI nj), .ref (a 6), .ref (a 7), .ref (a 8), .ref (a 9), .ref (a 10), .ref (a 11), .ref (a 12), .ref (a 13), .ref (a 14), .ref (a 15), .int (nI n), .int (nI tn), .ref (a 18), .ref (a 19), .ref (a 20), .ref (a 21), .ref (a 22), .ref (a 23), .ref (a 24), .ref (a 25), .int (nI (dTok (foC fo) n L p τ).2.1), .int ((dTok (foC fo) n L p τ).2.2.1), .ref (a 28), .int (nI tc), .int (nI mm), .ref (a 31), .ref (a 32), .ref (a 33), .int (fu), .int (am), .int (pb)])), ((a 22), .inl (cI, 24, .inl ((dTok (foC fo) n L p τ).2.2.2 1))), ((a 23), .inl (cI, 24, .inl ((dTok (foC fo) n L p τ).2.2.2 2))), ((a 24), .inl (cI, 24, .inl ((dTok (foC fo) n L p τ).2.2.2 3))), ((a 25), .inl (cI, 24, .inl ((dTok (foC fo) n L p τ).2.2.2 4))), ((a 15), .inl (cI, 80, .inl L)), ((a 1), .inl (cI, 32, .inl fo))] := by
  refine mu_of (cc := cX11_readDigits) (maxL := 4) (ret := (some .int)) (by decide) rfl (Nat.le_of_ble_eq_true rfl) ?_
  intro pr en ss mi below meth cd X hK A hA hP hD hS ls hl
  obtain ⟨hx, hb, hml, hown, hts, hr, hlocks⟩ := id X
  have hl : lv_has ls 4 [(0, .ref m), (1, .int (nI p))] := hl
  refine lv_iload_n hx hb dX11_readDigits_0 rfl (lv_at hl 1 rfl) ?_
  refine lv_istore_n (lv' := [(2, _), (0, _), (1, _)]) hx hb dX11_readDigits_1 rfl hl (by decide) rfl (fun ls hl => ?_)
  have loop_2 : ∀ (fuel : Nat) (e : Nat), n - e < fuel → p ≤ e → e ≤ n → sp isDi L n e = sp isDi L n p → ∀ (H : Heap) (locs : List Loc), va_P D vwCl [(m, .inr (11, [.int (nI ct), .ref (a 1), .ref (a 2), .int (nI dn), .int (nI nw), .int (nI nj), .ref (a 6), .ref (a 7), .ref (a 8), .ref (a 9), .ref (a 10), .ref (a 11), .ref (a 12), .ref (a 13), .ref (a 14), .ref (a 15), .int (nI n), .int (nI tn), .ref (a 18), .ref (a 19), .ref (a 20), .ref (a 21), .ref (a 22), .ref (a 23), .ref (a 24), .ref (a 25), .int (nI τ.1), .int (τ.2.1), .ref (a 28), .int (nI tc), .int (nI mm), .ref (a 31), .ref (a 32), .ref (a 33), .int (fu), .int (am), .int (pb)])), ((a 22), .inl (cI, 24, .inl (τ.2.2 1))), ((a 23), .inl (cI, 24, .inl (τ.2.2 2))), ((a 24), .inl (cI, 24, .inl (τ.2.2 3))), ((a 25), .inl (cI, 24, .inl (τ.2.2 4))), ((a 15), .inl (cI, 80, .inl L)), ((a 1), .inl (cI, 32, .inl fo))] H → va_D A [(m, .inr (11, [.int (nI ct), .ref (a 1), .ref (a 2), .int (nI dn), .int (nI nw), .int (nI nj), .ref (a 6), .ref (a 7), .ref (a 8), .ref (a 9), .ref (a 10), .ref (a 11), .ref (a 12), .ref (a 13), .ref (a 14), .ref (a 15), .int (nI n), .int (nI tn), .ref (a 18), .ref (a 19), .ref (a 20), .ref (a 21), .ref (a 22), .ref (a 23), .ref (a 24), .ref (a 25), .int (nI τ.1), .int (τ.2.1), .ref (a 28), .int (nI tc), .int (nI mm), .ref (a 31), .ref (a 32), .ref (a 33), .int (fu), .int (am), .int (pb)])), ((a 22), .inl (cI, 24, .inl (τ.2.2 1))), ((a 23), .inl (cI, 24, .inl (τ.2.2 2))), ((a 24), .inl (cI, 24, .inl (τ.2.2 3))), ((a 25), .inl (cI, 24, .inl (τ.2.2 4))), ((a 15), .inl (cI, 80, .inl L)), ((a 1), .inl (cI, 32, .inl fo))] → va_S A ss.heap H locs → ∀ ls : Array Slot, lv_has ls 4 [(0, .ref m), (1, .int (nI p)), (2, .int (nI e))] → W pr l en { frames := 3, cells := 0, slots := 0, locals := 70 } ss mi ([.ref m, .int (nI p)] : List Value).toArray below meth cd H locs 0 0 (MQ below (mQ (some (.int (nI (dTok (foC fo) n L p τ).1))) D [(m, .inr (11, [.int (nI ct), .ref (a 1), .ref (a 2), .int (nI dn), .int (nI nw), .int (nI nj), .ref (a 6), .ref (a 7), .ref (a 8), .ref (a 9), .ref (a 10), .ref (a 11), .ref (a 12), .ref (a 13), .ref (a 14), .ref (a 15), .int (nI n), .int (nI tn), .ref (a 18), .ref (a 19), .ref (a 20), .ref (a 21), .ref (a 22), .ref (a 23), .ref (a 24), .ref (a 25), .int (nI (dTok (foC fo) n L p τ).2.1), .int ((dTok (foC fo) n L p τ).2.2.1), .ref (a 28), .int (nI tc), .int (nI mm), .ref (a 31), .ref (a 32), .ref (a 33), .int (fu), .int (am), .int (pb)])), ((a 22), .inl (cI, 24, .inl ((dTok (foC fo) n L p τ).2.2.2 1))), ((a 23), .inl (cI, 24, .inl ((dTok (foC fo) n L p τ).2.2.2 2))), ((a 24), .inl (cI, 24, .inl ((dTok (foC fo) n L p τ).2.2.2 3))), ((a 25), .inl (cI, 24, .inl ((dTok (foC fo) n L p τ).2.2.2 4))), ((a 15), .inl (cI, 80, .inl L)), ((a 1), .inl (cI, 32, .inl fo))] A) ([.ref m, .int (nI p)] : List Value).toArray ss 0 0 A) (F0 mi 2 ls []) := by
    intro fuel
    induction fuel with
    | zero => intro e hm; exact absurd hm (Nat.not_lt_zero _)
    | succ fuel ih =>
      intro e hm hpe0 he hr H locs hP hD hS ls hl
      refine lv_aload_n hx hb dX11_readDigits_2 rfl (lv_at hl 0 rfl) ?_
      refine lv_iload_n hx hb dX11_readDigits_3 rfl (lv_at hl 2 rfl) ?_
      refine ro_V (n := 1) X hK (c_X11_byteAt hn (by omega)) gX11_readDigits_X11_byteAt rfl (by decide +kernel) ⟨rfl, rfl⟩ ⟨Nat.le_of_ble_eq_true rfl, Nat.le_of_ble_eq_true rfl⟩ (hP.sub [0, 5] rfl) (va_recv hK hP (ci := 11) (q0 := 0) rfl rfl) rfl hl.1 rfl (Nat.le_of_ble_eq_true rfl) dX11_readDigits_4 ⟨Nat.zero_le _, Nat.zero_le _⟩ ?_
      refine ro_S (n := 1) X hK (c_X11_isDigit) gX11_readDigits_X11_isDigit rfl (by decide +kernel) ⟨rfl, rfl⟩ ⟨Nat.le_of_ble_eq_true rfl, Nat.le_of_ble_eq_true rfl⟩ (hP.sub [] rfl) rfl hl.1 rfl (Nat.le_of_ble_eq_true rfl) dX11_readDigits_7 ⟨Nat.zero_le _, Nat.zero_le _⟩ ?_
      refine lv_if_eq (tgt := 19) hx hb dX11_readDigits_10 (by decide) (fun c_10 => ?_) (fun c_10 => ?_)
      · replace c_10 := bI_0.mp c_10
        have hse : sp isDi L n p = e := by rw [← hr, sp_no c_10]
        have hen : e ≤ n := he
        have hpe : p ≤ e := hpe0
        have hdg : ∀ i, p ≤ i → i < e → isDi (L i) = true := fun i h1 h2 => sp_all (n := n) h1 (by rw [hse]; exact h2)
        refine lv_aload_n hx hb dX11_readDigits_19 rfl (lv_at hl 0 rfl) ?_
        refine lv_iload_n hx hb dX11_readDigits_20 rfl (lv_at hl 1 rfl) ?_
        refine lv_iload_n hx hb dX11_readDigits_21 rfl (lv_at hl 2 rfl) ?_
        refine ro_V (n := 2) X hK (c_X11_numberOf hn hen hpe hdg) gX11_readDigits_X11_numberOf rfl (by decide +kernel) ⟨rfl, rfl⟩ ⟨Nat.le_of_ble_eq_true rfl, Nat.le_of_ble_eq_true rfl⟩ (hP.sub [0, 5] rfl) (va_recv hK hP (ci := 11) (q0 := 0) rfl rfl) rfl hl.1 rfl (Nat.le_of_ble_eq_true rfl) dX11_readDigits_22 ⟨Nat.zero_le _, Nat.zero_le _⟩ ?_
        refine lv_istore_n (lv' := [(3, _), (0, _), (1, _), (2, _)]) hx hb dX11_readDigits_25 rfl hl (by decide) rfl (fun ls hl => ?_)
        refine lv_iload_n hx hb dX11_readDigits_26 rfl (lv_at hl 3 rfl) ?_
        refine lv_iload_n hx hb dX11_readDigits_27 rfl (lv_at hl 2 rfl) ?_
        refine lv_isub hx hb dX11_readDigits_28 ?_
        refine topi_eq (nI_sub1 (by omega)) ?_
        refine lv_iconst (v := 3) hx hb dX11_readDigits_29 (by decide) ?_
        refine lv_icmp_ge (tgt := 111) hx hb dX11_readDigits_30 (by decide) (fun c_30 => ?_) (fun c_30 => ?_)
        · have htm : tmB n L p e = false := Bool.eq_false_iff.mpr (fun q => absurd (leL (a := 3) (b := e - p) c_30) (by have := (tm_iff.mp q).1; omega))
          refine lv_iload_n hx hb dX11_readDigits_111 rfl (lv_at hl 0 rfl) ?_
          refine lv_sipush (v := 30000) hx hb dX11_readDigits_112 (by decide) ?_
          refine lv_icmp_le (tgt := 132) hx hb dX11_readDigits_115 (by decide) (fun c_115 => ?_) (fun c_115 => ?_)
          · have h_115 := leL (a := min (numN L p (e - p) 0) 99999) (b := 30000) c_115
            rw [Nat.min_eq_left (show numN L p (e - p) 0 ≤ 99999 by omega)] at hl
            have ht : dTok (foC fo) n L p τ = (e, ad4 τ 2 (nI p) (nI (e - p)) (nI (numN L p (e - p) 0))) := by simp only [dTok, hse]; rw [if_neg (by rw [htm]; decide), if_pos (by omega)]
            refine lv_aload_n hx hb dX11_readDigits_132 rfl (lv_at hl 1 rfl) ?_
            refine lv_iconst (v := 2) hx hb dX11_readDigits_133 (by decide) ?_
            refine lv_iload_n hx hb dX11_readDigits_134 rfl (lv_at hl 2 rfl) ?_
            refine lv_iload_n hx hb dX11_readDigits_135 rfl (lv_at hl 3 rfl) ?_
            refine lv_iload_n hx hb dX11_readDigits_136 rfl (lv_at hl 2 rfl) ?_
            refine lv_isub hx hb dX11_readDigits_137 ?_
            refine topi_eq (nI_sub1 (by omega)) ?_
            refine lv_iload_n hx hb dX11_readDigits_138 rfl (lv_at hl 0 rfl) ?_
            refine mu_V (n := 4) X hK (c_X11_add hτ) gX11_readDigits_X11_add rfl (by decide +kernel) ⟨rfl, rfl⟩ ⟨Nat.le_of_ble_eq_true rfl, Nat.le_of_ble_eq_true rfl⟩ [0, 1, 2, 3, 4] rfl rfl rfl rfl hA hP hD hS (va_recv hK hP (ci := 11) (q0 := 0) rfl rfl) rfl hl.1 rfl (Nat.le_of_ble_eq_true rfl) dX11_readDigits_139 ⟨Nat.zero_le _, Nat.zero_le _⟩ (fun H locs hP hD hS => ?_)
            have hP : va_P D vwCl [(m, .inr (11, [_, .ref (a 1), .ref (a 2), _, _, _, .ref (a 6), .ref (a 7), .ref (a 8), .ref (a 9), .ref (a 10), .ref (a 11), .ref (a 12), .ref (a 13), .ref (a 14), .ref (a 15), _, _, .ref (a 18), .ref (a 19), .ref (a 20), .ref (a 21), .ref (a 22), .ref (a 23), .ref (a 24), .ref (a 25), _, _, .ref (a 28), _, _, .ref (a 31), .ref (a 32), .ref (a 33), _, _, _])), ((a 22), .inl (cI, 24, .inl _)), ((a 23), .inl (cI, 24, .inl _)), ((a 24), .inl (cI, 24, .inl _)), ((a 25), .inl (cI, 24, .inl _)), ((a 15), .inl (cI, 80, .inl _)), ((a 1), .inl (cI, 32, .inl _))] H := hP
            have hD : va_D A [(m, .inr (11, [_, .ref (a 1), .ref (a 2), _, _, _, .ref (a 6), .ref (a 7), .ref (a 8), .ref (a 9), .ref (a 10), .ref (a 11), .ref (a 12), .ref (a 13), .ref (a 14), .ref (a 15), _, _, .ref (a 18), .ref (a 19), .ref (a 20), .ref (a 21), .ref (a 22), .ref (a 23), .ref (a 24), .ref (a 25), _, _, .ref (a 28), _, _, .ref (a 31), .ref (a 32), .ref (a 33), _, _, _])), ((a 22), .inl (cI, 24, .inl _)), ((a 23), .inl (cI, 24, .inl _)), ((a 24), .inl (cI, 24, .inl _)), ((a 25), .inl (cI, 24, .inl _)), ((a 15), .inl (cI, 80, .inl _)), ((a 1), .inl (cI, 32, .inl _))] := hD
            refine lv_iload_n hx hb dX11_readDigits_142 rfl (lv_at hl 3 rfl) ?_
            exact mu_iret X hP hS (by rw [ht]) (by rw [ht]) dX11_readDigits_143
          · have h_115 := leN (a := min (numN L p (e - p) 0) 99999) (b := 30000) c_115
            have ht : dTok (foC fo) n L p τ = (e, ad4 τ 6 (nI p) (nI (e - p)) (-1)) := by simp only [dTok, hse]; rw [if_neg (by rw [htm]; decide), if_neg (by omega)]
            refine lv_aload_n hx hb dX11_readDigits_118 rfl (lv_at hl 1 rfl) ?_
            refine lv_bipush (v := 6) hx hb dX11_readDigits_119 (by decide) ?_
            refine lv_iload_n hx hb dX11_readDigits_121 rfl (lv_at hl 2 rfl) ?_
            refine lv_iload_n hx hb dX11_readDigits_122 rfl (lv_at hl 3 rfl) ?_
            refine lv_iload_n hx hb dX11_readDigits_123 rfl (lv_at hl 2 rfl) ?_
            refine lv_isub hx hb dX11_readDigits_124 ?_
            refine topi_eq (nI_sub1 (by omega)) ?_
            refine lv_iconst (v := -1) hx hb dX11_readDigits_125 (by decide) ?_
            refine mu_V (n := 4) X hK (c_X11_add hτ) gX11_readDigits_X11_add rfl (by decide +kernel) ⟨rfl, rfl⟩ ⟨Nat.le_of_ble_eq_true rfl, Nat.le_of_ble_eq_true rfl⟩ [0, 1, 2, 3, 4] rfl rfl rfl rfl hA hP hD hS (va_recv hK hP (ci := 11) (q0 := 0) rfl rfl) rfl hl.1 rfl (Nat.le_of_ble_eq_true rfl) dX11_readDigits_126 ⟨Nat.zero_le _, Nat.zero_le _⟩ (fun H locs hP hD hS => ?_)
            have hP : va_P D vwCl [(m, .inr (11, [_, .ref (a 1), .ref (a 2), _, _, _, .ref (a 6), .ref (a 7), .ref (a 8), .ref (a 9), .ref (a 10), .ref (a 11), .ref (a 12), .ref (a 13), .ref (a 14), .ref (a 15), _, _, .ref (a 18), .ref (a 19), .ref (a 20), .ref (a 21), .ref (a 22), .ref (a 23), .ref (a 24), .ref (a 25), _, _, .ref (a 28), _, _, .ref (a 31), .ref (a 32), .ref (a 33), _, _, _])), ((a 22), .inl (cI, 24, .inl _)), ((a 23), .inl (cI, 24, .inl _)), ((a 24), .inl (cI, 24, .inl _)), ((a 25), .inl (cI, 24, .inl _)), ((a 15), .inl (cI, 80, .inl _)), ((a 1), .inl (cI, 32, .inl _))] H := hP
            have hD : va_D A [(m, .inr (11, [_, .ref (a 1), .ref (a 2), _, _, _, .ref (a 6), .ref (a 7), .ref (a 8), .ref (a 9), .ref (a 10), .ref (a 11), .ref (a 12), .ref (a 13), .ref (a 14), .ref (a 15), _, _, .ref (a 18), .ref (a 19), .ref (a 20), .ref (a 21), .ref (a 22), .ref (a 23), .ref (a 24), .ref (a 25), _, _, .ref (a 28), _, _, .ref (a 31), .ref (a 32), .ref (a 33), _, _, _])), ((a 22), .inl (cI, 24, .inl _)), ((a 23), .inl (cI, 24, .inl _)), ((a 24), .inl (cI, 24, .inl _)), ((a 25), .inl (cI, 24, .inl _)), ((a 15), .inl (cI, 80, .inl _)), ((a 1), .inl (cI, 32, .inl _))] := hD
            refine lv_goto (tgt := 142) hx hb dX11_readDigits_129 (by decide) ?_
            refine lv_iload_n hx hb dX11_readDigits_142 rfl (lv_at hl 3 rfl) ?_
            exact mu_iret X hP hS (by rw [ht]) (by rw [ht]) dX11_readDigits_143
        · refine lv_aload_n hx hb dX11_readDigits_33 rfl (lv_at hl 1 rfl) ?_
          refine lv_iload_n hx hb dX11_readDigits_34 rfl (lv_at hl 3 rfl) ?_
          refine ro_V (n := 1) X hK (c_X11_byteAt hn (by omega)) gX11_readDigits_X11_byteAt rfl (by decide +kernel) ⟨rfl, rfl⟩ ⟨Nat.le_of_ble_eq_true rfl, Nat.le_of_ble_eq_true rfl⟩ (hP.sub [0, 5] rfl) (va_recv hK hP (ci := 11) (q0 := 0) rfl rfl) rfl hl.1 rfl (Nat.le_of_ble_eq_true rfl) dX11_readDigits_35 ⟨Nat.zero_le _, Nat.zero_le _⟩ ?_
          refine lv_bipush (v := 58) hx hb dX11_readDigits_38 (by decide) ?_
          refine lv_icmp_ne (tgt := 111) hx hb dX11_readDigits_40 (by decide) (fun c_40 => ?_) (fun c_40 => ?_)
          · have htm : tmB n L p e = false := Bool.eq_false_iff.mpr (fun q => c_40 (tm_iff.mp q).2.1)
            refine lv_iload_n hx hb dX11_readDigits_111 rfl (lv_at hl 0 rfl) ?_
            refine lv_sipush (v := 30000) hx hb dX11_readDigits_112 (by decide) ?_
            refine lv_icmp_le (tgt := 132) hx hb dX11_readDigits_115 (by decide) (fun c_115 => ?_) (fun c_115 => ?_)
            · have h_115 := leL (a := min (numN L p (e - p) 0) 99999) (b := 30000) c_115
              rw [Nat.min_eq_left (show numN L p (e - p) 0 ≤ 99999 by omega)] at hl
              have ht : dTok (foC fo) n L p τ = (e, ad4 τ 2 (nI p) (nI (e - p)) (nI (numN L p (e - p) 0))) := by simp only [dTok, hse]; rw [if_neg (by rw [htm]; decide), if_pos (by omega)]
              refine lv_aload_n hx hb dX11_readDigits_132 rfl (lv_at hl 1 rfl) ?_
              refine lv_iconst (v := 2) hx hb dX11_readDigits_133 (by decide) ?_
              refine lv_iload_n hx hb dX11_readDigits_134 rfl (lv_at hl 2 rfl) ?_
              refine lv_iload_n hx hb dX11_readDigits_135 rfl (lv_at hl 3 rfl) ?_
              refine lv_iload_n hx hb dX11_readDigits_136 rfl (lv_at hl 2 rfl) ?_
              refine lv_isub hx hb dX11_readDigits_137 ?_
              refine topi_eq (nI_sub1 (by omega)) ?_
              refine lv_iload_n hx hb dX11_readDigits_138 rfl (lv_at hl 0 rfl) ?_
              refine mu_V (n := 4) X hK (c_X11_add hτ) gX11_readDigits_X11_add rfl (by decide +kernel) ⟨rfl, rfl⟩ ⟨Nat.le_of_ble_eq_true rfl, Nat.le_of_ble_eq_true rfl⟩ [0, 1, 2, 3, 4] rfl rfl rfl rfl hA hP hD hS (va_recv hK hP (ci := 11) (q0 := 0) rfl rfl) rfl hl.1 rfl (Nat.le_of_ble_eq_true rfl) dX11_readDigits_139 ⟨Nat.zero_le _, Nat.zero_le _⟩ (fun H locs hP hD hS => ?_)
              have hP : va_P D vwCl [(m, .inr (11, [_, .ref (a 1), .ref (a 2), _, _, _, .ref (a 6), .ref (a 7), .ref (a 8), .ref (a 9), .ref (a 10), .ref (a 11), .ref (a 12), .ref (a 13), .ref (a 14), .ref (a 15), _, _, .ref (a 18), .ref (a 19), .ref (a 20), .ref (a 21), .ref (a 22), .ref (a 23), .ref (a 24), .ref (a 25), _, _, .ref (a 28), _, _, .ref (a 31), .ref (a 32), .ref (a 33), _, _, _])), ((a 22), .inl (cI, 24, .inl _)), ((a 23), .inl (cI, 24, .inl _)), ((a 24), .inl (cI, 24, .inl _)), ((a 25), .inl (cI, 24, .inl _)), ((a 15), .inl (cI, 80, .inl _)), ((a 1), .inl (cI, 32, .inl _))] H := hP
              have hD : va_D A [(m, .inr (11, [_, .ref (a 1), .ref (a 2), _, _, _, .ref (a 6), .ref (a 7), .ref (a 8), .ref (a 9), .ref (a 10), .ref (a 11), .ref (a 12), .ref (a 13), .ref (a 14), .ref (a 15), _, _, .ref (a 18), .ref (a 19), .ref (a 20), .ref (a 21), .ref (a 22), .ref (a 23), .ref (a 24), .ref (a 25), _, _, .ref (a 28), _, _, .ref (a 31), .ref (a 32), .ref (a 33), _, _, _])), ((a 22), .inl (cI, 24, .inl _)), ((a 23), .inl (cI, 24, .inl _)), ((a 24), .inl (cI, 24, .inl _)), ((a 25), .inl (cI, 24, .inl _)), ((a 15), .inl (cI, 80, .inl _)), ((a 1), .inl (cI, 32, .inl _))] := hD
              refine lv_iload_n hx hb dX11_readDigits_142 rfl (lv_at hl 3 rfl) ?_
              exact mu_iret X hP hS (by rw [ht]) (by rw [ht]) dX11_readDigits_143
            · have h_115 := leN (a := min (numN L p (e - p) 0) 99999) (b := 30000) c_115
              have ht : dTok (foC fo) n L p τ = (e, ad4 τ 6 (nI p) (nI (e - p)) (-1)) := by simp only [dTok, hse]; rw [if_neg (by rw [htm]; decide), if_neg (by omega)]
              refine lv_aload_n hx hb dX11_readDigits_118 rfl (lv_at hl 1 rfl) ?_
              refine lv_bipush (v := 6) hx hb dX11_readDigits_119 (by decide) ?_
              refine lv_iload_n hx hb dX11_readDigits_121 rfl (lv_at hl 2 rfl) ?_
              refine lv_iload_n hx hb dX11_readDigits_122 rfl (lv_at hl 3 rfl) ?_
              refine lv_iload_n hx hb dX11_readDigits_123 rfl (lv_at hl 2 rfl) ?_
              refine lv_isub hx hb dX11_readDigits_124 ?_
              refine topi_eq (nI_sub1 (by omega)) ?_
              refine lv_iconst (v := -1) hx hb dX11_readDigits_125 (by decide) ?_
              refine mu_V (n := 4) X hK (c_X11_add hτ) gX11_readDigits_X11_add rfl (by decide +kernel) ⟨rfl, rfl⟩ ⟨Nat.le_of_ble_eq_true rfl, Nat.le_of_ble_eq_true rfl⟩ [0, 1, 2, 3, 4] rfl rfl rfl rfl hA hP hD hS (va_recv hK hP (ci := 11) (q0 := 0) rfl rfl) rfl hl.1 rfl (Nat.le_of_ble_eq_true rfl) dX11_readDigits_126 ⟨Nat.zero_le _, Nat.zero_le _⟩ (fun H locs hP hD hS => ?_)
              have hP : va_P D vwCl [(m, .inr (11, [_, .ref (a 1), .ref (a 2), _, _, _, .ref (a 6), .ref (a 7), .ref (a 8), .ref (a 9), .ref (a 10), .ref (a 11), .ref (a 12), .ref (a 13), .ref (a 14), .ref (a 15), _, _, .ref (a 18), .ref (a 19), .ref (a 20), .ref (a 21), .ref (a 22), .ref (a 23), .ref (a 24), .ref (a 25), _, _, .ref (a 28), _, _, .ref (a 31), .ref (a 32), .ref (a 33), _, _, _])), ((a 22), .inl (cI, 24, .inl _)), ((a 23), .inl (cI, 24, .inl _)), ((a 24), .inl (cI, 24, .inl _)), ((a 25), .inl (cI, 24, .inl _)), ((a 15), .inl (cI, 80, .inl _)), ((a 1), .inl (cI, 32, .inl _))] H := hP
              have hD : va_D A [(m, .inr (11, [_, .ref (a 1), .ref (a 2), _, _, _, .ref (a 6), .ref (a 7), .ref (a 8), .ref (a 9), .ref (a 10), .ref (a 11), .ref (a 12), .ref (a 13), .ref (a 14), .ref (a 15), _, _, .ref (a 18), .ref (a 19), .ref (a 20), .ref (a 21), .ref (a 22), .ref (a 23), .ref (a 24), .ref (a 25), _, _, .ref (a 28), _, _, .ref (a 31), .ref (a 32), .ref (a 33), _, _, _])), ((a 22), .inl (cI, 24, .inl _)), ((a 23), .inl (cI, 24, .inl _)), ((a 24), .inl (cI, 24, .inl _)), ((a 25), .inl (cI, 24, .inl _)), ((a 15), .inl (cI, 80, .inl _)), ((a 1), .inl (cI, 32, .inl _))] := hD
              refine lv_goto (tgt := 142) hx hb dX11_readDigits_129 (by decide) ?_
              refine lv_iload_n hx hb dX11_readDigits_142 rfl (lv_at hl 3 rfl) ?_
              exact mu_iret X hP hS (by rw [ht]) (by rw [ht]) dX11_readDigits_143
          · refine lv_aload_n hx hb dX11_readDigits_43 rfl (lv_at hl 1 rfl) ?_
            refine lv_iload_n hx hb dX11_readDigits_44 rfl (lv_at hl 3 rfl) ?_
            refine lv_iconst (v := 1) hx hb dX11_readDigits_45 (by decide) ?_
            refine lv_iadd hx hb dX11_readDigits_46 ?_
            refine topi_eq (nI_1 e) ?_
            refine ro_V (n := 1) X hK (c_X11_byteAt hn (by omega)) gX11_readDigits_X11_byteAt rfl (by decide +kernel) ⟨rfl, rfl⟩ ⟨Nat.le_of_ble_eq_true rfl, Nat.le_of_ble_eq_true rfl⟩ (hP.sub [0, 5] rfl) (va_recv hK hP (ci := 11) (q0 := 0) rfl rfl) rfl hl.1 rfl (Nat.le_of_ble_eq_true rfl) dX11_readDigits_47 ⟨Nat.zero_le _, Nat.zero_le _⟩ ?_
            refine ro_S (n := 1) X hK (c_X11_isDigit) gX11_readDigits_X11_isDigit rfl (by decide +kernel) ⟨rfl, rfl⟩ ⟨Nat.le_of_ble_eq_true rfl, Nat.le_of_ble_eq_true rfl⟩ (hP.sub [] rfl) rfl hl.1 rfl (Nat.le_of_ble_eq_true rfl) dX11_readDigits_50 ⟨Nat.zero_le _, Nat.zero_le _⟩ ?_
            refine lv_if_eq (tgt := 111) hx hb dX11_readDigits_53 (by decide) (fun c_53 => ?_) (fun c_53 => ?_)
            · replace c_53 := bI_0.mp c_53
              have htm : tmB n L p e = false := Bool.eq_false_iff.mpr (fun q => by have := (sp_dd.mp (tm_iff.mp q).2.2.1).1; rw [c_53] at this; cases this)
              refine lv_iload_n hx hb dX11_readDigits_111 rfl (lv_at hl 0 rfl) ?_
              refine lv_sipush (v := 30000) hx hb dX11_readDigits_112 (by decide) ?_
              refine lv_icmp_le (tgt := 132) hx hb dX11_readDigits_115 (by decide) (fun c_115 => ?_) (fun c_115 => ?_)
              · have h_115 := leL (a := min (numN L p (e - p) 0) 99999) (b := 30000) c_115
                rw [Nat.min_eq_left (show numN L p (e - p) 0 ≤ 99999 by omega)] at hl
                have ht : dTok (foC fo) n L p τ = (e, ad4 τ 2 (nI p) (nI (e - p)) (nI (numN L p (e - p) 0))) := by simp only [dTok, hse]; rw [if_neg (by rw [htm]; decide), if_pos (by omega)]
                refine lv_aload_n hx hb dX11_readDigits_132 rfl (lv_at hl 1 rfl) ?_
                refine lv_iconst (v := 2) hx hb dX11_readDigits_133 (by decide) ?_
                refine lv_iload_n hx hb dX11_readDigits_134 rfl (lv_at hl 2 rfl) ?_
                refine lv_iload_n hx hb dX11_readDigits_135 rfl (lv_at hl 3 rfl) ?_
                refine lv_iload_n hx hb dX11_readDigits_136 rfl (lv_at hl 2 rfl) ?_
                refine lv_isub hx hb dX11_readDigits_137 ?_
                refine topi_eq (nI_sub1 (by omega)) ?_
                refine lv_iload_n hx hb dX11_readDigits_138 rfl (lv_at hl 0 rfl) ?_
                refine mu_V (n := 4) X hK (c_X11_add hτ) gX11_readDigits_X11_add rfl (by decide +kernel) ⟨rfl, rfl⟩ ⟨Nat.le_of_ble_eq_true rfl, Nat.le_of_ble_eq_true rfl⟩ [0, 1, 2, 3, 4] rfl rfl rfl rfl hA hP hD hS (va_recv hK hP (ci := 11) (q0 := 0) rfl rfl) rfl hl.1 rfl (Nat.le_of_ble_eq_true rfl) dX11_readDigits_139 ⟨Nat.zero_le _, Nat.zero_le _⟩ (fun H locs hP hD hS => ?_)
                have hP : va_P D vwCl [(m, .inr (11, [_, .ref (a 1), .ref (a 2), _, _, _, .ref (a 6), .ref (a 7), .ref (a 8), .ref (a 9), .ref (a 10), .ref (a 11), .ref (a 12), .ref (a 13), .ref (a 14), .ref (a 15), _, _, .ref (a 18), .ref (a 19), .ref (a 20), .ref (a 21), .ref (a 22), .ref (a 23), .ref (a 24), .ref (a 25), _, _, .ref (a 28), _, _, .ref (a 31), .ref (a 32), .ref (a 33), _, _, _])), ((a 22), .inl (cI, 24, .inl _)), ((a 23), .inl (cI, 24, .inl _)), ((a 24), .inl (cI, 24, .inl _)), ((a 25), .inl (cI, 24, .inl _)), ((a 15), .inl (cI, 80, .inl _)), ((a 1), .inl (cI, 32, .inl _))] H := hP
                have hD : va_D A [(m, .inr (11, [_, .ref (a 1), .ref (a 2), _, _, _, .ref (a 6), .ref (a 7), .ref (a 8), .ref (a 9), .ref (a 10), .ref (a 11), .ref (a 12), .ref (a 13), .ref (a 14), .ref (a 15), _, _, .ref (a 18), .ref (a 19), .ref (a 20), .ref (a 21), .ref (a 22), .ref (a 23), .ref (a 24), .ref (a 25), _, _, .ref (a 28), _, _, .ref (a 31), .ref (a 32), .ref (a 33), _, _, _])), ((a 22), .inl (cI, 24, .inl _)), ((a 23), .inl (cI, 24, .inl _)), ((a 24), .inl (cI, 24, .inl _)), ((a 25), .inl (cI, 24, .inl _)), ((a 15), .inl (cI, 80, .inl _)), ((a 1), .inl (cI, 32, .inl _))] := hD
                refine lv_iload_n hx hb dX11_readDigits_142 rfl (lv_at hl 3 rfl) ?_
                exact mu_iret X hP hS (by rw [ht]) (by rw [ht]) dX11_readDigits_143
              · have h_115 := leN (a := min (numN L p (e - p) 0) 99999) (b := 30000) c_115
                have ht : dTok (foC fo) n L p τ = (e, ad4 τ 6 (nI p) (nI (e - p)) (-1)) := by simp only [dTok, hse]; rw [if_neg (by rw [htm]; decide), if_neg (by omega)]
                refine lv_aload_n hx hb dX11_readDigits_118 rfl (lv_at hl 1 rfl) ?_
                refine lv_bipush (v := 6) hx hb dX11_readDigits_119 (by decide) ?_
                refine lv_iload_n hx hb dX11_readDigits_121 rfl (lv_at hl 2 rfl) ?_
                refine lv_iload_n hx hb dX11_readDigits_122 rfl (lv_at hl 3 rfl) ?_
                refine lv_iload_n hx hb dX11_readDigits_123 rfl (lv_at hl 2 rfl) ?_
                refine lv_isub hx hb dX11_readDigits_124 ?_
                refine topi_eq (nI_sub1 (by omega)) ?_
                refine lv_iconst (v := -1) hx hb dX11_readDigits_125 (by decide) ?_
                refine mu_V (n := 4) X hK (c_X11_add hτ) gX11_readDigits_X11_add rfl (by decide +kernel) ⟨rfl, rfl⟩ ⟨Nat.le_of_ble_eq_true rfl, Nat.le_of_ble_eq_true rfl⟩ [0, 1, 2, 3, 4] rfl rfl rfl rfl hA hP hD hS (va_recv hK hP (ci := 11) (q0 := 0) rfl rfl) rfl hl.1 rfl (Nat.le_of_ble_eq_true rfl) dX11_readDigits_126 ⟨Nat.zero_le _, Nat.zero_le _⟩ (fun H locs hP hD hS => ?_)
                have hP : va_P D vwCl [(m, .inr (11, [_, .ref (a 1), .ref (a 2), _, _, _, .ref (a 6), .ref (a 7), .ref (a 8), .ref (a 9), .ref (a 10), .ref (a 11), .ref (a 12), .ref (a 13), .ref (a 14), .ref (a 15), _, _, .ref (a 18), .ref (a 19), .ref (a 20), .ref (a 21), .ref (a 22), .ref (a 23), .ref (a 24), .ref (a 25), _, _, .ref (a 28), _, _, .ref (a 31), .ref (a 32), .ref (a 33), _, _, _])), ((a 22), .inl (cI, 24, .inl _)), ((a 23), .inl (cI, 24, .inl _)), ((a 24), .inl (cI, 24, .inl _)), ((a 25), .inl (cI, 24, .inl _)), ((a 15), .inl (cI, 80, .inl _)), ((a 1), .inl (cI, 32, .inl _))] H := hP
                have hD : va_D A [(m, .inr (11, [_, .ref (a 1), .ref (a 2), _, _, _, .ref (a 6), .ref (a 7), .ref (a 8), .ref (a 9), .ref (a 10), .ref (a 11), .ref (a 12), .ref (a 13), .ref (a 14), .ref (a 15), _, _, .ref (a 18), .ref (a 19), .ref (a 20), .ref (a 21), .ref (a 22), .ref (a 23), .ref (a 24), .ref (a 25), _, _, .ref (a 28), _, _, .ref (a 31), .ref (a 32), .ref (a 33), _, _, _])), ((a 22), .inl (cI, 24, .inl _)), ((a 23), .inl (cI, 24, .inl _)), ((a 24), .inl (cI, 24, .inl _)), ((a 25), .inl (cI, 24, .inl _)), ((a 15), .inl (cI, 80, .inl _)), ((a 1), .inl (cI, 32, .inl _))] := hD
                refine lv_goto (tgt := 142) hx hb dX11_readDigits_129 (by decide) ?_
                refine lv_iload_n hx hb dX11_readDigits_142 rfl (lv_at hl 3 rfl) ?_
                exact mu_iret X hP hS (by rw [ht]) (by rw [ht]) dX11_readDigits_143
            · replace c_53 := bI_n0.mp c_53
              refine lv_aload_n hx hb dX11_readDigits_56 rfl (lv_at hl 1 rfl) ?_
              refine lv_iload_n hx hb dX11_readDigits_57 rfl (lv_at hl 3 rfl) ?_
              refine lv_iconst (v := 2) hx hb dX11_readDigits_58 (by decide) ?_
              refine lv_iadd hx hb dX11_readDigits_59 ?_
              refine topi_eq (nI_add e 2) ?_
              refine ro_V (n := 1) X hK (c_X11_byteAt hn (by omega)) gX11_readDigits_X11_byteAt rfl (by decide +kernel) ⟨rfl, rfl⟩ ⟨Nat.le_of_ble_eq_true rfl, Nat.le_of_ble_eq_true rfl⟩ (hP.sub [0, 5] rfl) (va_recv hK hP (ci := 11) (q0 := 0) rfl rfl) rfl hl.1 rfl (Nat.le_of_ble_eq_true rfl) dX11_readDigits_60 ⟨Nat.zero_le _, Nat.zero_le _⟩ ?_
              refine ro_S (n := 1) X hK (c_X11_isDigit) gX11_readDigits_X11_isDigit rfl (by decide +kernel) ⟨rfl, rfl⟩ ⟨Nat.le_of_ble_eq_true rfl, Nat.le_of_ble_eq_true rfl⟩ (hP.sub [] rfl) rfl hl.1 rfl (Nat.le_of_ble_eq_true rfl) dX11_readDigits_63 ⟨Nat.zero_le _, Nat.zero_le _⟩ ?_
              refine lv_if_eq (tgt := 111) hx hb dX11_readDigits_66 (by decide) (fun c_66 => ?_) (fun c_66 => ?_)
              · replace c_66 := bI_0.mp c_66
                have htm : tmB n L p e = false := Bool.eq_false_iff.mpr (fun q => by have := (sp_dd.mp (tm_iff.mp q).2.2.1).2.1; rw [c_66] at this; cases this)
                refine lv_iload_n hx hb dX11_readDigits_111 rfl (lv_at hl 0 rfl) ?_
                refine lv_sipush (v := 30000) hx hb dX11_readDigits_112 (by decide) ?_
                refine lv_icmp_le (tgt := 132) hx hb dX11_readDigits_115 (by decide) (fun c_115 => ?_) (fun c_115 => ?_)
                · have h_115 := leL (a := min (numN L p (e - p) 0) 99999) (b := 30000) c_115
                  rw [Nat.min_eq_left (show numN L p (e - p) 0 ≤ 99999 by omega)] at hl
                  have ht : dTok (foC fo) n L p τ = (e, ad4 τ 2 (nI p) (nI (e - p)) (nI (numN L p (e - p) 0))) := by simp only [dTok, hse]; rw [if_neg (by rw [htm]; decide), if_pos (by omega)]
                  refine lv_aload_n hx hb dX11_readDigits_132 rfl (lv_at hl 1 rfl) ?_
                  refine lv_iconst (v := 2) hx hb dX11_readDigits_133 (by decide) ?_
                  refine lv_iload_n hx hb dX11_readDigits_134 rfl (lv_at hl 2 rfl) ?_
                  refine lv_iload_n hx hb dX11_readDigits_135 rfl (lv_at hl 3 rfl) ?_
                  refine lv_iload_n hx hb dX11_readDigits_136 rfl (lv_at hl 2 rfl) ?_
                  refine lv_isub hx hb dX11_readDigits_137 ?_
                  refine topi_eq (nI_sub1 (by omega)) ?_
                  refine lv_iload_n hx hb dX11_readDigits_138 rfl (lv_at hl 0 rfl) ?_
                  refine mu_V (n := 4) X hK (c_X11_add hτ) gX11_readDigits_X11_add rfl (by decide +kernel) ⟨rfl, rfl⟩ ⟨Nat.le_of_ble_eq_true rfl, Nat.le_of_ble_eq_true rfl⟩ [0, 1, 2, 3, 4] rfl rfl rfl rfl hA hP hD hS (va_recv hK hP (ci := 11) (q0 := 0) rfl rfl) rfl hl.1 rfl (Nat.le_of_ble_eq_true rfl) dX11_readDigits_139 ⟨Nat.zero_le _, Nat.zero_le _⟩ (fun H locs hP hD hS => ?_)
                  have hP : va_P D vwCl [(m, .inr (11, [_, .ref (a 1), .ref (a 2), _, _, _, .ref (a 6), .ref (a 7), .ref (a 8), .ref (a 9), .ref (a 10), .ref (a 11), .ref (a 12), .ref (a 13), .ref (a 14), .ref (a 15), _, _, .ref (a 18), .ref (a 19), .ref (a 20), .ref (a 21), .ref (a 22), .ref (a 23), .ref (a 24), .ref (a 25), _, _, .ref (a 28), _, _, .ref (a 31), .ref (a 32), .ref (a 33), _, _, _])), ((a 22), .inl (cI, 24, .inl _)), ((a 23), .inl (cI, 24, .inl _)), ((a 24), .inl (cI, 24, .inl _)), ((a 25), .inl (cI, 24, .inl _)), ((a 15), .inl (cI, 80, .inl _)), ((a 1), .inl (cI, 32, .inl _))] H := hP
                  have hD : va_D A [(m, .inr (11, [_, .ref (a 1), .ref (a 2), _, _, _, .ref (a 6), .ref (a 7), .ref (a 8), .ref (a 9), .ref (a 10), .ref (a 11), .ref (a 12), .ref (a 13), .ref (a 14), .ref (a 15), _, _, .ref (a 18), .ref (a 19), .ref (a 20), .ref (a 21), .ref (a 22), .ref (a 23), .ref (a 24), .ref (a 25), _, _, .ref (a 28), _, _, .ref (a 31), .ref (a 32), .ref (a 33), _, _, _])), ((a 22), .inl (cI, 24, .inl _)), ((a 23), .inl (cI, 24, .inl _)), ((a 24), .inl (cI, 24, .inl _)), ((a 25), .inl (cI, 24, .inl _)), ((a 15), .inl (cI, 80, .inl _)), ((a 1), .inl (cI, 32, .inl _))] := hD
                  refine lv_iload_n hx hb dX11_readDigits_142 rfl (lv_at hl 3 rfl) ?_
                  exact mu_iret X hP hS (by rw [ht]) (by rw [ht]) dX11_readDigits_143
                · have h_115 := leN (a := min (numN L p (e - p) 0) 99999) (b := 30000) c_115
                  have ht : dTok (foC fo) n L p τ = (e, ad4 τ 6 (nI p) (nI (e - p)) (-1)) := by simp only [dTok, hse]; rw [if_neg (by rw [htm]; decide), if_neg (by omega)]
                  refine lv_aload_n hx hb dX11_readDigits_118 rfl (lv_at hl 1 rfl) ?_
                  refine lv_bipush (v := 6) hx hb dX11_readDigits_119 (by decide) ?_
                  refine lv_iload_n hx hb dX11_readDigits_121 rfl (lv_at hl 2 rfl) ?_
                  refine lv_iload_n hx hb dX11_readDigits_122 rfl (lv_at hl 3 rfl) ?_
                  refine lv_iload_n hx hb dX11_readDigits_123 rfl (lv_at hl 2 rfl) ?_
                  refine lv_isub hx hb dX11_readDigits_124 ?_
                  refine topi_eq (nI_sub1 (by omega)) ?_
                  refine lv_iconst (v := -1) hx hb dX11_readDigits_125 (by decide) ?_
                  refine mu_V (n := 4) X hK (c_X11_add hτ) gX11_readDigits_X11_add rfl (by decide +kernel) ⟨rfl, rfl⟩ ⟨Nat.le_of_ble_eq_true rfl, Nat.le_of_ble_eq_true rfl⟩ [0, 1, 2, 3, 4] rfl rfl rfl rfl hA hP hD hS (va_recv hK hP (ci := 11) (q0 := 0) rfl rfl) rfl hl.1 rfl (Nat.le_of_ble_eq_true rfl) dX11_readDigits_126 ⟨Nat.zero_le _, Nat.zero_le _⟩ (fun H locs hP hD hS => ?_)
                  have hP : va_P D vwCl [(m, .inr (11, [_, .ref (a 1), .ref (a 2), _, _, _, .ref (a 6), .ref (a 7), .ref (a 8), .ref (a 9), .ref (a 10), .ref (a 11), .ref (a 12), .ref (a 13), .ref (a 14), .ref (a 15), _, _, .ref (a 18), .ref (a 19), .ref (a 20), .ref (a 21), .ref (a 22), .ref (a 23), .ref (a 24), .ref (a 25), _, _, .ref (a 28), _, _, .ref (a 31), .ref (a 32), .ref (a 33), _, _, _])), ((a 22), .inl (cI, 24, .inl _)), ((a 23), .inl (cI, 24, .inl _)), ((a 24), .inl (cI, 24, .inl _)), ((a 25), .inl (cI, 24, .inl _)), ((a 15), .inl (cI, 80, .inl _)), ((a 1), .inl (cI, 32, .inl _))] H := hP
                  have hD : va_D A [(m, .inr (11, [_, .ref (a 1), .ref (a 2), _, _, _, .ref (a 6), .ref (a 7), .ref (a 8), .ref (a 9), .ref (a 10), .ref (a 11), .ref (a 12), .ref (a 13), .ref (a 14), .ref (a 15), _, _, .ref (a 18), .ref (a 19), .ref (a 20), .ref (a 21), .ref (a 22), .ref (a 23), .ref (a 24), .ref (a 25), _, _, .ref (a 28), _, _, .ref (a 31), .ref (a 32), .ref (a 33), _, _, _])), ((a 22), .inl (cI, 24, .inl _)), ((a 23), .inl (cI, 24, .inl _)), ((a 24), .inl (cI, 24, .inl _)), ((a 25), .inl (cI, 24, .inl _)), ((a 15), .inl (cI, 80, .inl _)), ((a 1), .inl (cI, 32, .inl _))] := hD
                  refine lv_goto (tgt := 142) hx hb dX11_readDigits_129 (by decide) ?_
                  refine lv_iload_n hx hb dX11_readDigits_142 rfl (lv_at hl 3 rfl) ?_
                  exact mu_iret X hP hS (by rw [ht]) (by rw [ht]) dX11_readDigits_143
              · replace c_66 := bI_n0.mp c_66
                refine lv_aload_n hx hb dX11_readDigits_69 rfl (lv_at hl 1 rfl) ?_
                refine lv_iload_n hx hb dX11_readDigits_70 rfl (lv_at hl 3 rfl) ?_
                refine lv_iconst (v := 3) hx hb dX11_readDigits_71 (by decide) ?_
                refine lv_iadd hx hb dX11_readDigits_72 ?_
                refine topi_eq (nI_add e 3) ?_
                refine ro_V (n := 1) X hK (c_X11_byteAt hn (by omega)) gX11_readDigits_X11_byteAt rfl (by decide +kernel) ⟨rfl, rfl⟩ ⟨Nat.le_of_ble_eq_true rfl, Nat.le_of_ble_eq_true rfl⟩ (hP.sub [0, 5] rfl) (va_recv hK hP (ci := 11) (q0 := 0) rfl rfl) rfl hl.1 rfl (Nat.le_of_ble_eq_true rfl) dX11_readDigits_73 ⟨Nat.zero_le _, Nat.zero_le _⟩ ?_
                refine ro_S (n := 1) X hK (c_X11_isDigit) gX11_readDigits_X11_isDigit rfl (by decide +kernel) ⟨rfl, rfl⟩ ⟨Nat.le_of_ble_eq_true rfl, Nat.le_of_ble_eq_true rfl⟩ (hP.sub [] rfl) rfl hl.1 rfl (Nat.le_of_ble_eq_true rfl) dX11_readDigits_76 ⟨Nat.zero_le _, Nat.zero_le _⟩ ?_
                refine lv_if_ne (tgt := 111) hx hb dX11_readDigits_79 (by decide) (fun c_79 => ?_) (fun c_79 => ?_)
                · replace c_79 := bI_n0.mp c_79
                  have htm : tmB n L p e = false := Bool.eq_false_iff.mpr (fun q => by have := (sp_dd.mp (tm_iff.mp q).2.2.1).2.2; rw [c_79] at this; cases this)
                  refine lv_iload_n hx hb dX11_readDigits_111 rfl (lv_at hl 0 rfl) ?_
                  refine lv_sipush (v := 30000) hx hb dX11_readDigits_112 (by decide) ?_
                  refine lv_icmp_le (tgt := 132) hx hb dX11_readDigits_115 (by decide) (fun c_115 => ?_) (fun c_115 => ?_)
                  · have h_115 := leL (a := min (numN L p (e - p) 0) 99999) (b := 30000) c_115
                    rw [Nat.min_eq_left (show numN L p (e - p) 0 ≤ 99999 by omega)] at hl
                    have ht : dTok (foC fo) n L p τ = (e, ad4 τ 2 (nI p) (nI (e - p)) (nI (numN L p (e - p) 0))) := by simp only [dTok, hse]; rw [if_neg (by rw [htm]; decide), if_pos (by omega)]
                    refine lv_aload_n hx hb dX11_readDigits_132 rfl (lv_at hl 1 rfl) ?_
                    refine lv_iconst (v := 2) hx hb dX11_readDigits_133 (by decide) ?_
                    refine lv_iload_n hx hb dX11_readDigits_134 rfl (lv_at hl 2 rfl) ?_
                    refine lv_iload_n hx hb dX11_readDigits_135 rfl (lv_at hl 3 rfl) ?_
                    refine lv_iload_n hx hb dX11_readDigits_136 rfl (lv_at hl 2 rfl) ?_
                    refine lv_isub hx hb dX11_readDigits_137 ?_
                    refine topi_eq (nI_sub1 (by omega)) ?_
                    refine lv_iload_n hx hb dX11_readDigits_138 rfl (lv_at hl 0 rfl) ?_
                    refine mu_V (n := 4) X hK (c_X11_add hτ) gX11_readDigits_X11_add rfl (by decide +kernel) ⟨rfl, rfl⟩ ⟨Nat.le_of_ble_eq_true rfl, Nat.le_of_ble_eq_true rfl⟩ [0, 1, 2, 3, 4] rfl rfl rfl rfl hA hP hD hS (va_recv hK hP (ci := 11) (q0 := 0) rfl rfl) rfl hl.1 rfl (Nat.le_of_ble_eq_true rfl) dX11_readDigits_139 ⟨Nat.zero_le _, Nat.zero_le _⟩ (fun H locs hP hD hS => ?_)
                    have hP : va_P D vwCl [(m, .inr (11, [_, .ref (a 1), .ref (a 2), _, _, _, .ref (a 6), .ref (a 7), .ref (a 8), .ref (a 9), .ref (a 10), .ref (a 11), .ref (a 12), .ref (a 13), .ref (a 14), .ref (a 15), _, _, .ref (a 18), .ref (a 19), .ref (a 20), .ref (a 21), .ref (a 22), .ref (a 23), .ref (a 24), .ref (a 25), _, _, .ref (a 28), _, _, .ref (a 31), .ref (a 32), .ref (a 33), _, _, _])), ((a 22), .inl (cI, 24, .inl _)), ((a 23), .inl (cI, 24, .inl _)), ((a 24), .inl (cI, 24, .inl _)), ((a 25), .inl (cI, 24, .inl _)), ((a 15), .inl (cI, 80, .inl _)), ((a 1), .inl (cI, 32, .inl _))] H := hP
                    have hD : va_D A [(m, .inr (11, [_, .ref (a 1), .ref (a 2), _, _, _, .ref (a 6), .ref (a 7), .ref (a 8), .ref (a 9), .ref (a 10), .ref (a 11), .ref (a 12), .ref (a 13), .ref (a 14), .ref (a 15), _, _, .ref (a 18), .ref (a 19), .ref (a 20), .ref (a 21), .ref (a 22), .ref (a 23), .ref (a 24), .ref (a 25), _, _, .ref (a 28), _, _, .ref (a 31), .ref (a 32), .ref (a 33), _, _, _])), ((a 22), .inl (cI, 24, .inl _)), ((a 23), .inl (cI, 24, .inl _)), ((a 24), .inl (cI, 24, .inl _)), ((a 25), .inl (cI, 24, .inl _)), ((a 15), .inl (cI, 80, .inl _)), ((a 1), .inl (cI, 32, .inl _))] := hD
                    refine lv_iload_n hx hb dX11_readDigits_142 rfl (lv_at hl 3 rfl) ?_
                    exact mu_iret X hP hS (by rw [ht]) (by rw [ht]) dX11_readDigits_143
                  · have h_115 := leN (a := min (numN L p (e - p) 0) 99999) (b := 30000) c_115
                    have ht : dTok (foC fo) n L p τ = (e, ad4 τ 6 (nI p) (nI (e - p)) (-1)) := by simp only [dTok, hse]; rw [if_neg (by rw [htm]; decide), if_neg (by omega)]
                    refine lv_aload_n hx hb dX11_readDigits_118 rfl (lv_at hl 1 rfl) ?_
                    refine lv_bipush (v := 6) hx hb dX11_readDigits_119 (by decide) ?_
                    refine lv_iload_n hx hb dX11_readDigits_121 rfl (lv_at hl 2 rfl) ?_
                    refine lv_iload_n hx hb dX11_readDigits_122 rfl (lv_at hl 3 rfl) ?_
                    refine lv_iload_n hx hb dX11_readDigits_123 rfl (lv_at hl 2 rfl) ?_
                    refine lv_isub hx hb dX11_readDigits_124 ?_
                    refine topi_eq (nI_sub1 (by omega)) ?_
                    refine lv_iconst (v := -1) hx hb dX11_readDigits_125 (by decide) ?_
                    refine mu_V (n := 4) X hK (c_X11_add hτ) gX11_readDigits_X11_add rfl (by decide +kernel) ⟨rfl, rfl⟩ ⟨Nat.le_of_ble_eq_true rfl, Nat.le_of_ble_eq_true rfl⟩ [0, 1, 2, 3, 4] rfl rfl rfl rfl hA hP hD hS (va_recv hK hP (ci := 11) (q0 := 0) rfl rfl) rfl hl.1 rfl (Nat.le_of_ble_eq_true rfl) dX11_readDigits_126 ⟨Nat.zero_le _, Nat.zero_le _⟩ (fun H locs hP hD hS => ?_)
                    have hP : va_P D vwCl [(m, .inr (11, [_, .ref (a 1), .ref (a 2), _, _, _, .ref (a 6), .ref (a 7), .ref (a 8), .ref (a 9), .ref (a 10), .ref (a 11), .ref (a 12), .ref (a 13), .ref (a 14), .ref (a 15), _, _, .ref (a 18), .ref (a 19), .ref (a 20), .ref (a 21), .ref (a 22), .ref (a 23), .ref (a 24), .ref (a 25), _, _, .ref (a 28), _, _, .ref (a 31), .ref (a 32), .ref (a 33), _, _, _])), ((a 22), .inl (cI, 24, .inl _)), ((a 23), .inl (cI, 24, .inl _)), ((a 24), .inl (cI, 24, .inl _)), ((a 25), .inl (cI, 24, .inl _)), ((a 15), .inl (cI, 80, .inl _)), ((a 1), .inl (cI, 32, .inl _))] H := hP
                    have hD : va_D A [(m, .inr (11, [_, .ref (a 1), .ref (a 2), _, _, _, .ref (a 6), .ref (a 7), .ref (a 8), .ref (a 9), .ref (a 10), .ref (a 11), .ref (a 12), .ref (a 13), .ref (a 14), .ref (a 15), _, _, .ref (a 18), .ref (a 19), .ref (a 20), .ref (a 21), .ref (a 22), .ref (a 23), .ref (a 24), .ref (a 25), _, _, .ref (a 28), _, _, .ref (a 31), .ref (a 32), .ref (a 33), _, _, _])), ((a 22), .inl (cI, 24, .inl _)), ((a 23), .inl (cI, 24, .inl _)), ((a 24), .inl (cI, 24, .inl _)), ((a 25), .inl (cI, 24, .inl _)), ((a 15), .inl (cI, 80, .inl _)), ((a 1), .inl (cI, 32, .inl _))] := hD
                    refine lv_goto (tgt := 142) hx hb dX11_readDigits_129 (by decide) ?_
                    refine lv_iload_n hx hb dX11_readDigits_142 rfl (lv_at hl 3 rfl) ?_
                    exact mu_iret X hP hS (by rw [ht]) (by rw [ht]) dX11_readDigits_143
                · replace c_79 := bI_0.mp c_79
                  have h3 : sp isDi L n (e + 1) = e + 3 := sp_dd.mpr ⟨c_53, c_66, c_79⟩
                  have hc3 : e + 3 ≤ n := by have := (sp_go (L := L) (n := n) isDi_m1 c_66).1; omega
                  have hd2 : ∀ i, e + 1 ≤ i → i < e + 3 → isDi (L i) = true := fun i h1 h2 => sp_all (n := n) h1 (by rw [h3]; exact h2)
                  refine lv_iload_n hx hb dX11_readDigits_82 rfl (lv_at hl 0 rfl) ?_
                  refine lv_bipush (v := 24) hx hb dX11_readDigits_83 (by decide) ?_
                  refine lv_icmp_ge (tgt := 111) hx hb dX11_readDigits_85 (by decide) (fun c_85 => ?_) (fun c_85 => ?_)
                  · have htm : tmB n L p e = false := Bool.eq_false_iff.mpr (fun q => absurd (leL (a := 24) (b := min (numN L p (e - p) 0) 99999) c_85) (by have := (tm_iff.mp q).2.2.2.1; omega))
                    refine lv_iload_n hx hb dX11_readDigits_111 rfl (lv_at hl 0 rfl) ?_
                    refine lv_sipush (v := 30000) hx hb dX11_readDigits_112 (by decide) ?_
                    refine lv_icmp_le (tgt := 132) hx hb dX11_readDigits_115 (by decide) (fun c_115 => ?_) (fun c_115 => ?_)
                    · have h_115 := leL (a := min (numN L p (e - p) 0) 99999) (b := 30000) c_115
                      rw [Nat.min_eq_left (show numN L p (e - p) 0 ≤ 99999 by omega)] at hl
                      have ht : dTok (foC fo) n L p τ = (e, ad4 τ 2 (nI p) (nI (e - p)) (nI (numN L p (e - p) 0))) := by simp only [dTok, hse]; rw [if_neg (by rw [htm]; decide), if_pos (by omega)]
                      refine lv_aload_n hx hb dX11_readDigits_132 rfl (lv_at hl 1 rfl) ?_
                      refine lv_iconst (v := 2) hx hb dX11_readDigits_133 (by decide) ?_
                      refine lv_iload_n hx hb dX11_readDigits_134 rfl (lv_at hl 2 rfl) ?_
                      refine lv_iload_n hx hb dX11_readDigits_135 rfl (lv_at hl 3 rfl) ?_
                      refine lv_iload_n hx hb dX11_readDigits_136 rfl (lv_at hl 2 rfl) ?_
                      refine lv_isub hx hb dX11_readDigits_137 ?_
                      refine topi_eq (nI_sub1 (by omega)) ?_
                      refine lv_iload_n hx hb dX11_readDigits_138 rfl (lv_at hl 0 rfl) ?_
                      refine mu_V (n := 4) X hK (c_X11_add hτ) gX11_readDigits_X11_add rfl (by decide +kernel) ⟨rfl, rfl⟩ ⟨Nat.le_of_ble_eq_true rfl, Nat.le_of_ble_eq_true rfl⟩ [0, 1, 2, 3, 4] rfl rfl rfl rfl hA hP hD hS (va_recv hK hP (ci := 11) (q0 := 0) rfl rfl) rfl hl.1 rfl (Nat.le_of_ble_eq_true rfl) dX11_readDigits_139 ⟨Nat.zero_le _, Nat.zero_le _⟩ (fun H locs hP hD hS => ?_)
                      have hP : va_P D vwCl [(m, .inr (11, [_, .ref (a 1), .ref (a 2), _, _, _, .ref (a 6), .ref (a 7), .ref (a 8), .ref (a 9), .ref (a 10), .ref (a 11), .ref (a 12), .ref (a 13), .ref (a 14), .ref (a 15), _, _, .ref (a 18), .ref (a 19), .ref (a 20), .ref (a 21), .ref (a 22), .ref (a 23), .ref (a 24), .ref (a 25), _, _, .ref (a 28), _, _, .ref (a 31), .ref (a 32), .ref (a 33), _, _, _])), ((a 22), .inl (cI, 24, .inl _)), ((a 23), .inl (cI, 24, .inl _)), ((a 24), .inl (cI, 24, .inl _)), ((a 25), .inl (cI, 24, .inl _)), ((a 15), .inl (cI, 80, .inl _)), ((a 1), .inl (cI, 32, .inl _))] H := hP
                      have hD : va_D A [(m, .inr (11, [_, .ref (a 1), .ref (a 2), _, _, _, .ref (a 6), .ref (a 7), .ref (a 8), .ref (a 9), .ref (a 10), .ref (a 11), .ref (a 12), .ref (a 13), .ref (a 14), .ref (a 15), _, _, .ref (a 18), .ref (a 19), .ref (a 20), .ref (a 21), .ref (a 22), .ref (a 23), .ref (a 24), .ref (a 25), _, _, .ref (a 28), _, _, .ref (a 31), .ref (a 32), .ref (a 33), _, _, _])), ((a 22), .inl (cI, 24, .inl _)), ((a 23), .inl (cI, 24, .inl _)), ((a 24), .inl (cI, 24, .inl _)), ((a 25), .inl (cI, 24, .inl _)), ((a 15), .inl (cI, 80, .inl _)), ((a 1), .inl (cI, 32, .inl _))] := hD
                      refine lv_iload_n hx hb dX11_readDigits_142 rfl (lv_at hl 3 rfl) ?_
                      exact mu_iret X hP hS (by rw [ht]) (by rw [ht]) dX11_readDigits_143
                    · have h_115 := leN (a := min (numN L p (e - p) 0) 99999) (b := 30000) c_115
                      have ht : dTok (foC fo) n L p τ = (e, ad4 τ 6 (nI p) (nI (e - p)) (-1)) := by simp only [dTok, hse]; rw [if_neg (by rw [htm]; decide), if_neg (by omega)]
                      refine lv_aload_n hx hb dX11_readDigits_118 rfl (lv_at hl 1 rfl) ?_
                      refine lv_bipush (v := 6) hx hb dX11_readDigits_119 (by decide) ?_
                      refine lv_iload_n hx hb dX11_readDigits_121 rfl (lv_at hl 2 rfl) ?_
                      refine lv_iload_n hx hb dX11_readDigits_122 rfl (lv_at hl 3 rfl) ?_
                      refine lv_iload_n hx hb dX11_readDigits_123 rfl (lv_at hl 2 rfl) ?_
                      refine lv_isub hx hb dX11_readDigits_124 ?_
                      refine topi_eq (nI_sub1 (by omega)) ?_
                      refine lv_iconst (v := -1) hx hb dX11_readDigits_125 (by decide) ?_
                      refine mu_V (n := 4) X hK (c_X11_add hτ) gX11_readDigits_X11_add rfl (by decide +kernel) ⟨rfl, rfl⟩ ⟨Nat.le_of_ble_eq_true rfl, Nat.le_of_ble_eq_true rfl⟩ [0, 1, 2, 3, 4] rfl rfl rfl rfl hA hP hD hS (va_recv hK hP (ci := 11) (q0 := 0) rfl rfl) rfl hl.1 rfl (Nat.le_of_ble_eq_true rfl) dX11_readDigits_126 ⟨Nat.zero_le _, Nat.zero_le _⟩ (fun H locs hP hD hS => ?_)
                      have hP : va_P D vwCl [(m, .inr (11, [_, .ref (a 1), .ref (a 2), _, _, _, .ref (a 6), .ref (a 7), .ref (a 8), .ref (a 9), .ref (a 10), .ref (a 11), .ref (a 12), .ref (a 13), .ref (a 14), .ref (a 15), _, _, .ref (a 18), .ref (a 19), .ref (a 20), .ref (a 21), .ref (a 22), .ref (a 23), .ref (a 24), .ref (a 25), _, _, .ref (a 28), _, _, .ref (a 31), .ref (a 32), .ref (a 33), _, _, _])), ((a 22), .inl (cI, 24, .inl _)), ((a 23), .inl (cI, 24, .inl _)), ((a 24), .inl (cI, 24, .inl _)), ((a 25), .inl (cI, 24, .inl _)), ((a 15), .inl (cI, 80, .inl _)), ((a 1), .inl (cI, 32, .inl _))] H := hP
                      have hD : va_D A [(m, .inr (11, [_, .ref (a 1), .ref (a 2), _, _, _, .ref (a 6), .ref (a 7), .ref (a 8), .ref (a 9), .ref (a 10), .ref (a 11), .ref (a 12), .ref (a 13), .ref (a 14), .ref (a 15), _, _, .ref (a 18), .ref (a 19), .ref (a 20), .ref (a 21), .ref (a 22), .ref (a 23), .ref (a 24), .ref (a 25), _, _, .ref (a 28), _, _, .ref (a 31), .ref (a 32), .ref (a 33), _, _, _])), ((a 22), .inl (cI, 24, .inl _)), ((a 23), .inl (cI, 24, .inl _)), ((a 24), .inl (cI, 24, .inl _)), ((a 25), .inl (cI, 24, .inl _)), ((a 15), .inl (cI, 80, .inl _)), ((a 1), .inl (cI, 32, .inl _))] := hD
                      refine lv_goto (tgt := 142) hx hb dX11_readDigits_129 (by decide) ?_
                      refine lv_iload_n hx hb dX11_readDigits_142 rfl (lv_at hl 3 rfl) ?_
                      exact mu_iret X hP hS (by rw [ht]) (by rw [ht]) dX11_readDigits_143
                  · have hN1 : numN L p (e - p) 0 ≤ 23 := by have := leN (a := 24) (b := min (numN L p (e - p) 0) 99999) c_85; omega
                    refine lv_aload_n hx hb dX11_readDigits_88 rfl (lv_at hl 1 rfl) ?_
                    refine lv_iload_n hx hb dX11_readDigits_89 rfl (lv_at hl 3 rfl) ?_
                    refine lv_iconst (v := 1) hx hb dX11_readDigits_90 (by decide) ?_
                    refine lv_iadd hx hb dX11_readDigits_91 ?_
                    refine topi_eq (nI_1 e) ?_
                    refine lv_iload_n hx hb dX11_readDigits_92 rfl (lv_at hl 3 rfl) ?_
                    refine lv_iconst (v := 3) hx hb dX11_readDigits_93 (by decide) ?_
                    refine lv_iadd hx hb dX11_readDigits_94 ?_
                    refine topi_eq (nI_add e 3) ?_
                    refine ro_V (n := 2) X hK (c_X11_numberOf hn hc3 (by omega) hd2) gX11_readDigits_X11_numberOf rfl (by decide +kernel) ⟨rfl, rfl⟩ ⟨Nat.le_of_ble_eq_true rfl, Nat.le_of_ble_eq_true rfl⟩ (hP.sub [0, 5] rfl) (va_recv hK hP (ci := 11) (q0 := 0) rfl rfl) rfl hl.1 rfl (Nat.le_of_ble_eq_true rfl) dX11_readDigits_95 ⟨Nat.zero_le _, Nat.zero_le _⟩ ?_
                    refine lv_bipush (v := 60) hx hb dX11_readDigits_98 (by decide) ?_
                    refine lv_icmp_ge (tgt := 111) hx hb dX11_readDigits_100 (by decide) (fun c_100 => ?_) (fun c_100 => ?_)
                    · have htm : tmB n L p e = false := Bool.eq_false_iff.mpr (fun q => absurd (leL (a := 60) (b := min (numN L (e + 1) (e + 3 - (e + 1)) 0) 99999) c_100) (by have := (tm_iff.mp q).2.2.2.2; rw [show e + 3 - (e + 1) = 2 by omega]; omega))
                      refine lv_iload_n hx hb dX11_readDigits_111 rfl (lv_at hl 0 rfl) ?_
                      refine lv_sipush (v := 30000) hx hb dX11_readDigits_112 (by decide) ?_
                      refine lv_icmp_le (tgt := 132) hx hb dX11_readDigits_115 (by decide) (fun c_115 => ?_) (fun c_115 => ?_)
                      · have h_115 := leL (a := min (numN L p (e - p) 0) 99999) (b := 30000) c_115
                        rw [Nat.min_eq_left (show numN L p (e - p) 0 ≤ 99999 by omega)] at hl
                        have ht : dTok (foC fo) n L p τ = (e, ad4 τ 2 (nI p) (nI (e - p)) (nI (numN L p (e - p) 0))) := by simp only [dTok, hse]; rw [if_neg (by rw [htm]; decide), if_pos (by omega)]
                        refine lv_aload_n hx hb dX11_readDigits_132 rfl (lv_at hl 1 rfl) ?_
                        refine lv_iconst (v := 2) hx hb dX11_readDigits_133 (by decide) ?_
                        refine lv_iload_n hx hb dX11_readDigits_134 rfl (lv_at hl 2 rfl) ?_
                        refine lv_iload_n hx hb dX11_readDigits_135 rfl (lv_at hl 3 rfl) ?_
                        refine lv_iload_n hx hb dX11_readDigits_136 rfl (lv_at hl 2 rfl) ?_
                        refine lv_isub hx hb dX11_readDigits_137 ?_
                        refine topi_eq (nI_sub1 (by omega)) ?_
                        refine lv_iload_n hx hb dX11_readDigits_138 rfl (lv_at hl 0 rfl) ?_
                        refine mu_V (n := 4) X hK (c_X11_add hτ) gX11_readDigits_X11_add rfl (by decide +kernel) ⟨rfl, rfl⟩ ⟨Nat.le_of_ble_eq_true rfl, Nat.le_of_ble_eq_true rfl⟩ [0, 1, 2, 3, 4] rfl rfl rfl rfl hA hP hD hS (va_recv hK hP (ci := 11) (q0 := 0) rfl rfl) rfl hl.1 rfl (Nat.le_of_ble_eq_true rfl) dX11_readDigits_139 ⟨Nat.zero_le _, Nat.zero_le _⟩ (fun H locs hP hD hS => ?_)
                        have hP : va_P D vwCl [(m, .inr (11, [_, .ref (a 1), .ref (a 2), _, _, _, .ref (a 6), .ref (a 7), .ref (a 8), .ref (a 9), .ref (a 10), .ref (a 11), .ref (a 12), .ref (a 13), .ref (a 14), .ref (a 15), _, _, .ref (a 18), .ref (a 19), .ref (a 20), .ref (a 21), .ref (a 22), .ref (a 23), .ref (a 24), .ref (a 25), _, _, .ref (a 28), _, _, .ref (a 31), .ref (a 32), .ref (a 33), _, _, _])), ((a 22), .inl (cI, 24, .inl _)), ((a 23), .inl (cI, 24, .inl _)), ((a 24), .inl (cI, 24, .inl _)), ((a 25), .inl (cI, 24, .inl _)), ((a 15), .inl (cI, 80, .inl _)), ((a 1), .inl (cI, 32, .inl _))] H := hP
                        have hD : va_D A [(m, .inr (11, [_, .ref (a 1), .ref (a 2), _, _, _, .ref (a 6), .ref (a 7), .ref (a 8), .ref (a 9), .ref (a 10), .ref (a 11), .ref (a 12), .ref (a 13), .ref (a 14), .ref (a 15), _, _, .ref (a 18), .ref (a 19), .ref (a 20), .ref (a 21), .ref (a 22), .ref (a 23), .ref (a 24), .ref (a 25), _, _, .ref (a 28), _, _, .ref (a 31), .ref (a 32), .ref (a 33), _, _, _])), ((a 22), .inl (cI, 24, .inl _)), ((a 23), .inl (cI, 24, .inl _)), ((a 24), .inl (cI, 24, .inl _)), ((a 25), .inl (cI, 24, .inl _)), ((a 15), .inl (cI, 80, .inl _)), ((a 1), .inl (cI, 32, .inl _))] := hD
                        refine lv_iload_n hx hb dX11_readDigits_142 rfl (lv_at hl 3 rfl) ?_
                        exact mu_iret X hP hS (by rw [ht]) (by rw [ht]) dX11_readDigits_143
                      · have h_115 := leN (a := min (numN L p (e - p) 0) 99999) (b := 30000) c_115
                        have ht : dTok (foC fo) n L p τ = (e, ad4 τ 6 (nI p) (nI (e - p)) (-1)) := by simp only [dTok, hse]; rw [if_neg (by rw [htm]; decide), if_neg (by omega)]
                        refine lv_aload_n hx hb dX11_readDigits_118 rfl (lv_at hl 1 rfl) ?_
                        refine lv_bipush (v := 6) hx hb dX11_readDigits_119 (by decide) ?_
                        refine lv_iload_n hx hb dX11_readDigits_121 rfl (lv_at hl 2 rfl) ?_
                        refine lv_iload_n hx hb dX11_readDigits_122 rfl (lv_at hl 3 rfl) ?_
                        refine lv_iload_n hx hb dX11_readDigits_123 rfl (lv_at hl 2 rfl) ?_
                        refine lv_isub hx hb dX11_readDigits_124 ?_
                        refine topi_eq (nI_sub1 (by omega)) ?_
                        refine lv_iconst (v := -1) hx hb dX11_readDigits_125 (by decide) ?_
                        refine mu_V (n := 4) X hK (c_X11_add hτ) gX11_readDigits_X11_add rfl (by decide +kernel) ⟨rfl, rfl⟩ ⟨Nat.le_of_ble_eq_true rfl, Nat.le_of_ble_eq_true rfl⟩ [0, 1, 2, 3, 4] rfl rfl rfl rfl hA hP hD hS (va_recv hK hP (ci := 11) (q0 := 0) rfl rfl) rfl hl.1 rfl (Nat.le_of_ble_eq_true rfl) dX11_readDigits_126 ⟨Nat.zero_le _, Nat.zero_le _⟩ (fun H locs hP hD hS => ?_)
                        have hP : va_P D vwCl [(m, .inr (11, [_, .ref (a 1), .ref (a 2), _, _, _, .ref (a 6), .ref (a 7), .ref (a 8), .ref (a 9), .ref (a 10), .ref (a 11), .ref (a 12), .ref (a 13), .ref (a 14), .ref (a 15), _, _, .ref (a 18), .ref (a 19), .ref (a 20), .ref (a 21), .ref (a 22), .ref (a 23), .ref (a 24), .ref (a 25), _, _, .ref (a 28), _, _, .ref (a 31), .ref (a 32), .ref (a 33), _, _, _])), ((a 22), .inl (cI, 24, .inl _)), ((a 23), .inl (cI, 24, .inl _)), ((a 24), .inl (cI, 24, .inl _)), ((a 25), .inl (cI, 24, .inl _)), ((a 15), .inl (cI, 80, .inl _)), ((a 1), .inl (cI, 32, .inl _))] H := hP
                        have hD : va_D A [(m, .inr (11, [_, .ref (a 1), .ref (a 2), _, _, _, .ref (a 6), .ref (a 7), .ref (a 8), .ref (a 9), .ref (a 10), .ref (a 11), .ref (a 12), .ref (a 13), .ref (a 14), .ref (a 15), _, _, .ref (a 18), .ref (a 19), .ref (a 20), .ref (a 21), .ref (a 22), .ref (a 23), .ref (a 24), .ref (a 25), _, _, .ref (a 28), _, _, .ref (a 31), .ref (a 32), .ref (a 33), _, _, _])), ((a 22), .inl (cI, 24, .inl _)), ((a 23), .inl (cI, 24, .inl _)), ((a 24), .inl (cI, 24, .inl _)), ((a 25), .inl (cI, 24, .inl _)), ((a 15), .inl (cI, 80, .inl _)), ((a 1), .inl (cI, 32, .inl _))] := hD
                        refine lv_goto (tgt := 142) hx hb dX11_readDigits_129 (by decide) ?_
                        refine lv_iload_n hx hb dX11_readDigits_142 rfl (lv_at hl 3 rfl) ?_
                        exact mu_iret X hP hS (by rw [ht]) (by rw [ht]) dX11_readDigits_143
                    · have hN2 : numN L (e + 1) 2 0 ≤ 59 := by have := leN (a := 60) (b := min (numN L (e + 1) (e + 3 - (e + 1)) 0) 99999) c_100; rw [show e + 3 - (e + 1) = 2 by omega] at this; omega
                      have htm : tmB n L p e = true := tm_iff.mpr ⟨by have := leN (a := 3) (b := e - p) c_30; omega, c_40, h3, hN1, hN2⟩
                      have ht : dTok (foC fo) n L p τ = tTok (foC fo) n L p e τ := by simp only [dTok, hse]; rw [if_pos htm]
                      rw [Nat.min_eq_left (show numN L p (e - p) 0 ≤ 99999 by omega)] at hl
                      refine lv_aload_n hx hb dX11_readDigits_103 rfl (lv_at hl 1 rfl) ?_
                      refine lv_iload_n hx hb dX11_readDigits_104 rfl (lv_at hl 2 rfl) ?_
                      refine lv_iload_n hx hb dX11_readDigits_105 rfl (lv_at hl 3 rfl) ?_
                      refine lv_iload_n hx hb dX11_readDigits_106 rfl (lv_at hl 0 rfl) ?_
                      refine mu_V (n := 3) X hK (c_X11_readTime hn hτ hpe hc3 hd2 hN1 hN2) gX11_readDigits_X11_readTime rfl (by decide +kernel) ⟨rfl, rfl⟩ ⟨Nat.le_of_ble_eq_true rfl, Nat.le_of_ble_eq_true rfl⟩ [0, 1, 2, 3, 4, 5, 6] rfl rfl rfl rfl hA hP hD hS (va_recv hK hP (ci := 11) (q0 := 0) rfl rfl) rfl hl.1 rfl (Nat.le_of_ble_eq_true rfl) dX11_readDigits_107 ⟨Nat.zero_le _, Nat.zero_le _⟩ (fun H locs hP hD hS => ?_)
                      have hP : va_P D vwCl [(m, .inr (11, [_, .ref (a 1), .ref (a 2), _, _, _, .ref (a 6), .ref (a 7), .ref (a 8), .ref (a 9), .ref (a 10), .ref (a 11), .ref (a 12), .ref (a 13), .ref (a 14), .ref (a 15), _, _, .ref (a 18), .ref (a 19), .ref (a 20), .ref (a 21), .ref (a 22), .ref (a 23), .ref (a 24), .ref (a 25), _, _, .ref (a 28), _, _, .ref (a 31), .ref (a 32), .ref (a 33), _, _, _])), ((a 22), .inl (cI, 24, .inl _)), ((a 23), .inl (cI, 24, .inl _)), ((a 24), .inl (cI, 24, .inl _)), ((a 25), .inl (cI, 24, .inl _)), ((a 15), .inl (cI, 80, .inl _)), ((a 1), .inl (cI, 32, .inl _))] H := hP
                      have hD : va_D A [(m, .inr (11, [_, .ref (a 1), .ref (a 2), _, _, _, .ref (a 6), .ref (a 7), .ref (a 8), .ref (a 9), .ref (a 10), .ref (a 11), .ref (a 12), .ref (a 13), .ref (a 14), .ref (a 15), _, _, .ref (a 18), .ref (a 19), .ref (a 20), .ref (a 21), .ref (a 22), .ref (a 23), .ref (a 24), .ref (a 25), _, _, .ref (a 28), _, _, .ref (a 31), .ref (a 32), .ref (a 33), _, _, _])), ((a 22), .inl (cI, 24, .inl _)), ((a 23), .inl (cI, 24, .inl _)), ((a 24), .inl (cI, 24, .inl _)), ((a 25), .inl (cI, 24, .inl _)), ((a 15), .inl (cI, 80, .inl _)), ((a 1), .inl (cI, 32, .inl _))] := hD
                      exact mu_iret X hP hS (by rw [ht]) (by rw [ht]) dX11_readDigits_110
      · replace c_10 := bI_n0.mp c_10
        obtain ⟨hlt, hst⟩ := sp_go isDi_m1 c_10
        refine lv_iinc (v := (_ : Int32) + 1) (lv' := [(2, _), (0, _), (1, _)]) hx hb dX11_readDigits_13 hl (k := 2) rfl rfl (by decide) rfl (fun ls hl => ?_)
        refine lv_goto (tgt := 2) hx hb dX11_readDigits_16 (by decide) ?_
        rw [nI_1] at hl
        exact ih (e + 1) (by omega) (by omega) (by omega) (by rw [← hr, hst]) _ _ hP hD hS _ (lv_sub hl [1, 2, 0] rfl)
  exact loop_2 (n + 1) p (by omega) (Nat.le_refl _) (by omega) rfl _ _ hP hD hS ls (lv_sub hl [1, 2, 0] rfl)
