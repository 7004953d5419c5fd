/-! the model: the line is read -/
theorem bt_lt {n k : Nat} {L : Nat → Int32} (h : k < n) : bt n L k = L k := by rw [bt, if_pos h]
theorem bt_ge {n k : Nat} {L : Nat → Int32} (h : n ≤ k) : bt n L k = -1 := by rw [bt, if_neg (by omega)]
theorem isLe_m1 : isLe (-1) = false := by decide
theorem isDi_m1 : isDi (-1) = false := by decide
theorem fiO_lt {p : Nat → Bool} {n j : Nat} (h : fiO p 0 n = some j) : j < n := by have := (fiO_some _ _ _ h).2.1; omega
/-- a loop of the model over the line: it stands at j, where P goes on -/
theorem sp_go {P : Int32 → Bool} {n j : Nat} {L : Nat → Int32} (hm : P (-1) = false) (h : P (bt n L j) = true) : j < n ∧ sp P L n j = sp P L n (j + 1) := by
  rcases Nat.lt_or_ge j n with q | q
  · rw [bt_lt q] at h; exact ⟨q, sp_t q h⟩
  · rw [bt_ge q, hm] at h; cases h
theorem sp_no {P : Int32 → Bool} {n j : Nat} {L : Nat → Int32} (h : P (bt n L j) = false) : sp P L n j = j := by
  rcases Nat.lt_or_ge j n with q | q
  · rw [bt_lt q] at h; exact sp_f q h
  · exact sp_ge q
theorem sp_dd {n c : Nat} {L : Nat → Int32} : sp isDi L n (c + 1) = c + 3 ↔ isDi (bt n L (c + 1)) = true ∧ isDi (bt n L (c + 2)) = true ∧ isDi (bt n L (c + 3)) = false := by
  constructor
  · intro h
    have h1 : isDi (bt n L (c + 1)) = true := by
      cases hb : isDi (bt n L (c + 1)) with
      | true => rfl
      | false => rw [sp_no hb] at h; omega
    obtain ⟨l1, e1⟩ := sp_go isDi_m1 h1
    rw [e1] at h
    have h2 : isDi (bt n L (c + 2)) = true := by
      cases hb : isDi (bt n L (c + 2)) with
      | true => rfl
      | false => rw [show c + 1 + 1 = c + 2 by omega, sp_no hb] at h; omega
    obtain ⟨l2, e2⟩ := sp_go isDi_m1 h2
    rw [show c + 1 + 1 = c + 2 by omega, e2, show c + 2 + 1 = c + 3 by omega] at h
    refine ⟨h1, h2, ?_⟩
    cases hb : isDi (bt n L (c + 3)) with
    | false => rfl
    | true =>
      obtain ⟨l3, e3⟩ := sp_go isDi_m1 hb
      rw [e3] at h
      have := sp_le (P := isDi) (L := L) (n := n) (k := c + 3 + 1)
      omega
  · rintro ⟨h1, h2, h3⟩
    rw [(sp_go isDi_m1 h1).2, (sp_go isDi_m1 (show isDi (bt n L (c + 1 + 1)) = true from h2)).2]
    exact sp_no h3
/-- what the model's tests of a and m come to -/
def ltO (fo : Nat → Int32) (c : Int32) : Int32 := if isLe c = true then foC fo c else 0
theorem foC_not {fo : Nat → Int32} {c : Int32} (h : isLe c = false) : ¬ foC fo c = 97 ∧ ¬ foC fo c = 112 ∧ ¬ foC fo c = 109 := by
  have h0 := h
  rw [isLe_in] at h
  simp only [Bool.or_eq_false_iff] at h
  have hfc : foC fo c = c := by
    have h3 : ¬ (¬ c < 128 ∧ ¬ 159 < c) := fun q => by have := h.2; simp [inB, q.1, q.2] at this
    have h1 : ¬ (¬ c < 65 ∧ ¬ 90 < c) := fun q => by have := h.1.1; simp [inB, q.1, q.2] at this
    have hB : foB c = c := by
      rw [foB]; split
      · rfl
      · split
        · rfl
        · rename_i a b; exact absurd ⟨a, b⟩ h1
    rw [foC]
    split
    · exact hB
    · split
      · exact hB
      · rename_i a b
        exfalso
        obtain ⟨j, hj, e⟩ := nI_of2 (x := c - 128) (M := 31) (n := 31) (by decide) a (by
          rw [Int32.le_iff_toInt_le]; rw [Int32.le_iff_toInt_le] at b
          have : (nI 32).toInt = 32 := by decide
          have : (31 : Int32).toInt = 31 := rfl
          omega)
        have hc : c = nI (j + 128) := by
          have e2 : c = (c - 128) + 128 := by rw [Int32.sub_add_cancel]
          rw [e2, e]; exact nI_add j 128
        apply h3
        rw [hc]
        exact ⟨fun q => by have := (nI_ltI (a := j + 128) (b := 128) (by omega) (by decide)).mp q; omega, fun q => by have := (nI_ltI (a := 159) (b := j + 128) (by decide) (by omega)).mp q; omega⟩
  rw [hfc]
  refine ⟨?_, ?_, ?_⟩ <;> (intro q; subst q; exact absurd h0 (by decide))
theorem hd_m {fo : Nat → Int32} {n e : Nat} {L : Nat → Int32} : hdB (foC fo) n L e = ((decide (ltO fo (bt n L e) = 97) || decide (ltO fo (bt n L e) = 112)) && decide (ltO fo (bt n L (e + 1)) = 109) && !isLe (bt n L (e + 2))) := by
  have k1 : ∀ c, decide (foC fo c = 97) = decide (ltO fo c = 97) := fun c => by
    cases h : isLe c with
    | true => rw [ltO, if_pos h]
    | false => rw [ltO, if_neg (by rw [h]; decide), decide_eq_false (foC_not h).1]; rfl
  have k2 : ∀ c, decide (foC fo c = 112) = decide (ltO fo c = 112) := fun c => by
    cases h : isLe c with
    | true => rw [ltO, if_pos h]
    | false => rw [ltO, if_neg (by rw [h]; decide), decide_eq_false (foC_not h).2.1]; rfl
  have k3 : ∀ c, decide (foC fo c = 109) = decide (ltO fo c = 109) := fun c => by
    cases h : isLe c with
    | true => rw [ltO, if_pos h]
    | false => rw [ltO, if_neg (by rw [h]; decide), decide_eq_false (foC_not h).2.2]; rfl
  simp only [hdB, k1, k2, k3]
theorem lt_112 {fo : Nat → Int32} {c : Int32} : (ltO fo c = 112) ↔ foC fo c = 112 := by
  cases h : isLe c with
  | true => rw [ltO, if_pos h]
  | false => rw [ltO, if_neg (by rw [h]; decide)]; exact ⟨fun q => absurd q (by decide), fun q => absurd q (foC_not h).2.1⟩
theorem h_12 : ∀ h, 1 ≤ h → h ≤ 12 → h % 12 = if h = 12 then 0 else h := by
  intro h h1 h2
  split <;> omega

set_option maxHeartbeats 1000000 in
set_option maxRecDepth 100000 in
theorem c_X11_add {l : Launch} {D : va_G} {cI cJ cW : ClassId} {sz : Nat} {m : Nat} {a : Nat → Nat} {ct dn nw nj n tn tc mm : Nat} {τ : TS} {fu am pb : Int32} {x1 x2 x3 x4 : Int32} (hτ : τ.1 ≤ 24) : MU l yX11_add wsX11_add { frames := 0, cells := 0, slots := 0, locals := 0 } D (ty3 cI cJ cW) [.ref m, .int x1, .int x2, .int x3, .int x4] [(m, .inr (11, [.int (nI ct), .ref (a 1), .ref (a 2), .int (nI dn), .int (nI nw), .int (nI nj), .ref (a 6), .ref (a 7), .ref (a 8), .ref (a 9), .ref (a 10), .ref (a 11), .ref (a 12), .ref (a 13), .ref (a 14), .ref (a 15), .int (nI n), .int (nI tn), .ref (a 18), .ref (a 19), .ref (a 20), .ref (a 21), .ref (a 22), .ref (a 23), .ref (a 24), .ref (a 25), .int (nI τ.1), .int (τ.2.1), .ref (a 28), .int (nI tc), .int (nI mm), .ref (a 31), .ref (a 32), .ref (a 33), .int (fu), .int (am), .int (pb)])), ((a 22), .inl (cI, 24, .inl (τ.2.2 1))), ((a 23), .inl (cI, 24, .inl (τ.2.2 2))), ((a 24), .inl (cI, 24, .inl (τ.2.2 3))), ((a 25), .inl (cI, 24, .inl (τ.2.2 4)))] sz none [(m, .inr (11, [.int (nI ct), .ref (a 1), .ref (a 2), .int (nI dn), .int (nI nw), .int (nI nj), .ref (a 6), .ref (a 7), .ref (a 8), .ref (a 9), .ref (a 10), .ref (a 11), .ref (a 12), .ref (a 13), .ref (a 14), .ref (a 15), .int (nI n), .int (nI tn), .ref (a 18), .ref (a 19), .ref (a 20), .ref (a 21), .ref (a 22), .ref (a 23), .ref (a 24), .ref (a 25), .int (nI (ad4 τ x1 x2 x3 x4).1), .int ((ad4 τ x1 x2 x3 x4).2.1), .ref (a 28), .int (nI tc), .int (nI mm), .ref (a 31), .ref (a 32), .ref (a 33), .int (fu), .int (am), .int (pb)])), ((a 22), .inl (cI, 24, .inl ((ad4 τ x1 x2 x3 x4).2.2 1))), ((a 23), .inl (cI, 24, .inl ((ad4 τ x1 x2 x3 x4).2.2 2))), ((a 24), .inl (cI, 24, .inl ((ad4 τ x1 x2 x3 x4).2.2 3))), ((a 25), .inl (cI, 24, .inl ((ad4 τ x1 x2 x3 x4).2.2 4)))] := by
  refine mu_of (cc := cX11_add) (maxL := 5) (ret := none) (by decide) rfl (Nat.le_of_ble_eq_true rfl) ?_
  intro pr en ss mi below meth cd X hK A hA hP hD hS ls hl
  obtain ⟨hx, hb, hml, hown, hts, hr, hlocks⟩ := id X
  have fl_129 := hts (.fieldLink RX11 129 "WordTablesModel" "news" "I") (by decide +kernel)
  have fl_132 := hts (.fieldLink RX11 132 "WordTablesModel" "isMuch" "Z") (by decide +kernel)
  have fl_58 := hts (.fieldLink RX11 58 "WordTablesModel" "newSort" "[I") (by decide +kernel)
  have fl_61 := hts (.fieldLink RX11 61 "WordTablesModel" "newPlace" "[I") (by decide +kernel)
  have fl_64 := hts (.fieldLink RX11 64 "WordTablesModel" "newWide" "[I") (by decide +kernel)
  have fl_67 := hts (.fieldLink RX11 67 "WordTablesModel" "newNumber" "[I") (by decide +kernel)
  have in_X11 : ∀ w ∈ wsX110, w ∈ wsX11_add := by decide +kernel
  have hl : lv_has ls 5 [(0, .ref m), (1, .int x1), (2, .int x2), (3, .int x3), (4, .int x4)] := hl
  refine lv_aload_n hx hb dX11_add_0 rfl (lv_at hl 0 rfl) ?_
  refine va_get (D := D) (ci := 11) (C := RX11) (T := TX11) (N := 37) hx hb hts in_X11 hown hK hP 0 rfl rfl 26 (by decide) fl_129 (fun _ h9 => h9) rfl dX11_add_1 ?_
  refine lv_bipush (v := 24) hx hb dX11_add_4 (by decide) ?_
  refine lv_icmp_ne (tgt := 15) hx hb dX11_add_6 (by decide) (fun c_6 => ?_) (fun c_6 => ?_)
  · have hm : τ.1 < 24 := by rcases Nat.lt_or_ge τ.1 24 with q | q; exact q; exact absurd (show nI τ.1 = 24 by rw [show τ.1 = 24 by omega]; rfl) c_6
    refine lv_aload_n hx hb dX11_add_15 rfl (lv_at hl 0 rfl) ?_
    refine va_get (D := D) (ci := 11) (C := RX11) (T := TX11) (N := 37) hx hb hts in_X11 hown hK hP 0 rfl rfl 22 (by decide) fl_58 (fun _ h9 => h9) rfl dX11_add_16 ?_
    refine lv_aload_n hx hb dX11_add_19 rfl (lv_at hl 0 rfl) ?_
    refine va_get (D := D) (ci := 11) (C := RX11) (T := TX11) (N := 37) hx hb hts in_X11 hown hK hP 0 rfl rfl 26 (by decide) fl_129 (fun _ h9 => h9) rfl dX11_add_20 ?_
    refine lv_iload_n hx hb dX11_add_23 rfl (lv_at hl 1 rfl) ?_
    refine ast_n hx hb hK hP hD hS 1 0 rfl rfl hm (by decide) dX11_add_24 (fun H locs hP hD hS => ?_)
    have hP : va_P D vwCl [(m, .inr (11, [_, .ref (a 1), .ref (a 2), _, _, _, .ref (a 6), .ref (a 7), .ref (a 8), .ref (a 9), .ref (a 10), .ref (a 11), .ref (a 12), .ref (a 13), .ref (a 14), .ref (a 15), _, _, .ref (a 18), .ref (a 19), .ref (a 20), .ref (a 21), .ref (a 22), .ref (a 23), .ref (a 24), .ref (a 25), _, _, .ref (a 28), _, _, .ref (a 31), .ref (a 32), .ref (a 33), _, _, _])), ((a 22), .inl (cI, 24, .inl _)), ((a 23), .inl (cI, 24, .inl _)), ((a 24), .inl (cI, 24, .inl _)), ((a 25), .inl (cI, 24, .inl _))] H := hP
    have hD : va_D A [(m, .inr (11, [_, .ref (a 1), .ref (a 2), _, _, _, .ref (a 6), .ref (a 7), .ref (a 8), .ref (a 9), .ref (a 10), .ref (a 11), .ref (a 12), .ref (a 13), .ref (a 14), .ref (a 15), _, _, .ref (a 18), .ref (a 19), .ref (a 20), .ref (a 21), .ref (a 22), .ref (a 23), .ref (a 24), .ref (a 25), _, _, .ref (a 28), _, _, .ref (a 31), .ref (a 32), .ref (a 33), _, _, _])), ((a 22), .inl (cI, 24, .inl _)), ((a 23), .inl (cI, 24, .inl _)), ((a 24), .inl (cI, 24, .inl _)), ((a 25), .inl (cI, 24, .inl _))] := hD
    refine lv_aload_n hx hb dX11_add_25 rfl (lv_at hl 0 rfl) ?_
    refine va_get (D := D) (ci := 11) (C := RX11) (T := TX11) (N := 37) hx hb hts in_X11 hown hK hP 0 rfl rfl 23 (by decide) fl_61 (fun _ h9 => h9) rfl dX11_add_26 ?_
    refine lv_aload_n hx hb dX11_add_29 rfl (lv_at hl 0 rfl) ?_
    refine va_get (D := D) (ci := 11) (C := RX11) (T := TX11) (N := 37) hx hb hts in_X11 hown hK hP 0 rfl rfl 26 (by decide) fl_129 (fun _ h9 => h9) rfl dX11_add_30 ?_
    refine lv_iload_n hx hb dX11_add_33 rfl (lv_at hl 2 rfl) ?_
    refine ast_n hx hb hK hP hD hS 2 0 rfl rfl hm (by decide) dX11_add_34 (fun H locs hP hD hS => ?_)
    have hP : va_P D vwCl [(m, .inr (11, [_, .ref (a 1), .ref (a 2), _, _, _, .ref (a 6), .ref (a 7), .ref (a 8), .ref (a 9), .ref (a 10), .ref (a 11), .ref (a 12), .ref (a 13), .ref (a 14), .ref (a 15), _, _, .ref (a 18), .ref (a 19), .ref (a 20), .ref (a 21), .ref (a 22), .ref (a 23), .ref (a 24), .ref (a 25), _, _, .ref (a 28), _, _, .ref (a 31), .ref (a 32), .ref (a 33), _, _, _])), ((a 22), .inl (cI, 24, .inl _)), ((a 23), .inl (cI, 24, .inl _)), ((a 24), .inl (cI, 24, .inl _)), ((a 25), .inl (cI, 24, .inl _))] H := hP
    have hD : va_D A [(m, .inr (11, [_, .ref (a 1), .ref (a 2), _, _, _, .ref (a 6), .ref (a 7), .ref (a 8), .ref (a 9), .ref (a 10), .ref (a 11), .ref (a 12), .ref (a 13), .ref (a 14), .ref (a 15), _, _, .ref (a 18), .ref (a 19), .ref (a 20), .ref (a 21), .ref (a 22), .ref (a 23), .ref (a 24), .ref (a 25), _, _, .ref (a 28), _, _, .ref (a 31), .ref (a 32), .ref (a 33), _, _, _])), ((a 22), .inl (cI, 24, .inl _)), ((a 23), .inl (cI, 24, .inl _)), ((a 24), .inl (cI, 24, .inl _)), ((a 25), .inl (cI, 24, .inl _))] := hD
    refine lv_aload_n hx hb dX11_add_35 rfl (lv_at hl 0 rfl) ?_
    refine va_get (D := D) (ci := 11) (C := RX11) (T := TX11) (N := 37) hx hb hts in_X11 hown hK hP 0 rfl rfl 24 (by decide) fl_64 (fun _ h9 => h9) rfl dX11_add_36 ?_
    refine lv_aload_n hx hb dX11_add_39 rfl (lv_at hl 0 rfl) ?_
    refine va_get (D := D) (ci := 11) (C := RX11) (T := TX11) (N := 37) hx hb hts in_X11 hown hK hP 0 rfl rfl 26 (by decide) fl_129 (fun _ h9 => h9) rfl dX11_add_40 ?_
    refine lv_iload_n hx hb dX11_add_43 rfl (lv_at hl 3 rfl) ?_
    refine ast_n hx hb hK hP hD hS 3 0 rfl rfl hm (by decide) dX11_add_44 (fun H locs hP hD hS => ?_)
    have hP : va_P D vwCl [(m, .inr (11, [_, .ref (a 1), .ref (a 2), _, _, _, .ref (a 6), .ref (a 7), .ref (a 8), .ref (a 9), .ref (a 10), .ref (a 11), .ref (a 12), .ref (a 13), .ref (a 14), .ref (a 15), _, _, .ref (a 18), .ref (a 19), .ref (a 20), .ref (a 21), .ref (a 22), .ref (a 23), .ref (a 24), .ref (a 25), _, _, .ref (a 28), _, _, .ref (a 31), .ref (a 32), .ref (a 33), _, _, _])), ((a 22), .inl (cI, 24, .inl _)), ((a 23), .inl (cI, 24, .inl _)), ((a 24), .inl (cI, 24, .inl _)), ((a 25), .inl (cI, 24, .inl _))] H := hP
    have hD : va_D A [(m, .inr (11, [_, .ref (a 1), .ref (a 2), _, _, _, .ref (a 6), .ref (a 7), .ref (a 8), .ref (a 9), .ref (a 10), .ref (a 11), .ref (a 12), .ref (a 13), .ref (a 14), .ref (a 15), _, _, .ref (a 18), .ref (a 19), .ref (a 20), .ref (a 21), .ref (a 22), .ref (a 23), .ref (a 24), .ref (a 25), _, _, .ref (a 28), _, _, .ref (a 31), .ref (a 32), .ref (a 33), _, _, _])), ((a 22), .inl (cI, 24, .inl _)), ((a 23), .inl (cI, 24, .inl _)), ((a 24), .inl (cI, 24, .inl _)), ((a 25), .inl (cI, 24, .inl _))] := hD
    refine lv_aload_n hx hb dX11_add_45 rfl (lv_at hl 0 rfl) ?_
    refine va_get (D := D) (ci := 11) (C := RX11) (T := TX11) (N := 37) hx hb hts in_X11 hown hK hP 0 rfl rfl 25 (by decide) fl_67 (fun _ h9 => h9) rfl dX11_add_46 ?_
    refine lv_aload_n hx hb dX11_add_49 rfl (lv_at hl 0 rfl) ?_
    refine va_get (D := D) (ci := 11) (C := RX11) (T := TX11) (N := 37) hx hb hts in_X11 hown hK hP 0 rfl rfl 26 (by decide) fl_129 (fun _ h9 => h9) rfl dX11_add_50 ?_
    refine lv_iload hx hb dX11_add_53 (lv_at hl 4 rfl) ?_
    refine ast_n hx hb hK hP hD hS 4 0 rfl rfl hm (by decide) dX11_add_55 (fun H locs hP hD hS => ?_)
    have hP : va_P D vwCl [(m, .inr (11, [_, .ref (a 1), .ref (a 2), _, _, _, .ref (a 6), .ref (a 7), .ref (a 8), .ref (a 9), .ref (a 10), .ref (a 11), .ref (a 12), .ref (a 13), .ref (a 14), .ref (a 15), _, _, .ref (a 18), .ref (a 19), .ref (a 20), .ref (a 21), .ref (a 22), .ref (a 23), .ref (a 24), .ref (a 25), _, _, .ref (a 28), _, _, .ref (a 31), .ref (a 32), .ref (a 33), _, _, _])), ((a 22), .inl (cI, 24, .inl _)), ((a 23), .inl (cI, 24, .inl _)), ((a 24), .inl (cI, 24, .inl _)), ((a 25), .inl (cI, 24, .inl _))] H := hP
    have hD : va_D A [(m, .inr (11, [_, .ref (a 1), .ref (a 2), _, _, _, .ref (a 6), .ref (a 7), .ref (a 8), .ref (a 9), .ref (a 10), .ref (a 11), .ref (a 12), .ref (a 13), .ref (a 14), .ref (a 15), _, _, .ref (a 18), .ref (a 19), .ref (a 20), .ref (a 21), .ref (a 22), .ref (a 23), .ref (a 24), .ref (a 25), _, _, .ref (a 28), _, _, .ref (a 31), .ref (a 32), .ref (a 33), _, _, _])), ((a 22), .inl (cI, 24, .inl _)), ((a 23), .inl (cI, 24, .inl _)), ((a 24), .inl (cI, 24, .inl _)), ((a 25), .inl (cI, 24, .inl _))] := hD
    refine lv_aload_n hx hb dX11_add_56 rfl (lv_at hl 0 rfl) ?_
    refine lv_dup hx hb dX11_add_57 rfl ?_
    refine va_get (D := D) (ci := 11) (C := RX11) (T := TX11) (N := 37) hx hb hts in_X11 hown hK hP 0 rfl rfl 26 (by decide) fl_129 (fun _ h9 => h9) rfl dX11_add_58 ?_
    refine lv_iconst (v := 1) hx hb dX11_add_61 (by decide) ?_
    refine lv_iadd hx hb dX11_add_62 ?_
    refine topi_eq (nI_1 τ.1) ?_
    refine va_put (D := D) (ci := 11) (ty := .int) (C := RX11) (T := TX11) (N := 37) hx hb hts in_X11 tyX11 tyX11_ok nmX11 hown hK hP hD hS 0 rfl rfl 26 (by decide) fl_129 (fun _ h9 => h9) rfl (by decide +kernel) rfl rfl (Nat.le_of_ble_eq_true rfl) dX11_add_63 (fun H locs hP hD hS => ?_)
    have hP : va_P D vwCl [(m, .inr (11, [_, .ref (a 1), .ref (a 2), _, _, _, .ref (a 6), .ref (a 7), .ref (a 8), .ref (a 9), .ref (a 10), .ref (a 11), .ref (a 12), .ref (a 13), .ref (a 14), .ref (a 15), _, _, .ref (a 18), .ref (a 19), .ref (a 20), .ref (a 21), .ref (a 22), .ref (a 23), .ref (a 24), .ref (a 25), _, _, .ref (a 28), _, _, .ref (a 31), .ref (a 32), .ref (a 33), _, _, _])), ((a 22), .inl (cI, 24, .inl _)), ((a 23), .inl (cI, 24, .inl _)), ((a 24), .inl (cI, 24, .inl _)), ((a 25), .inl (cI, 24, .inl _))] H := hP
    have hD : va_D A [(m, .inr (11, [_, .ref (a 1), .ref (a 2), _, _, _, .ref (a 6), .ref (a 7), .ref (a 8), .ref (a 9), .ref (a 10), .ref (a 11), .ref (a 12), .ref (a 13), .ref (a 14), .ref (a 15), _, _, .ref (a 18), .ref (a 19), .ref (a 20), .ref (a 21), .ref (a 22), .ref (a 23), .ref (a 24), .ref (a 25), _, _, .ref (a 28), _, _, .ref (a 31), .ref (a 32), .ref (a 33), _, _, _])), ((a 22), .inl (cI, 24, .inl _)), ((a 23), .inl (cI, 24, .inl _)), ((a 24), .inl (cI, 24, .inl _)), ((a 25), .inl (cI, 24, .inl _))] := hD
    exact mu_vret X hP hS (by simp [ad4, adN, adF, adM, hm]) dX11_add_66
  · have hm : ¬ τ.1 < 24 := by have := (nI_eq (a := τ.1) (b := 24) (by omega) (by decide)).mp c_6; omega
    refine lv_aload_n hx hb dX11_add_9 rfl (lv_at hl 0 rfl) ?_
    refine lv_iconst (v := 1) hx hb dX11_add_10 (by decide) ?_
    refine va_put (D := D) (ci := 11) (ty := .boolean) (C := RX11) (T := TX11) (N := 37) hx hb hts in_X11 tyX11 tyX11_ok nmX11 hown hK hP hD hS 0 rfl rfl 27 (by decide) fl_132 (fun _ h9 => h9) rfl (by decide +kernel) (by first | rfl | exact bI_nar _) (by first | rfl | exact bI_fit _) (Nat.le_of_ble_eq_true rfl) dX11_add_11 (fun H locs hP hD hS => ?_)
    have hP : va_P D vwCl [(m, .inr (11, [_, .ref (a 1), .ref (a 2), _, _, _, .ref (a 6), .ref (a 7), .ref (a 8), .ref (a 9), .ref (a 10), .ref (a 11), .ref (a 12), .ref (a 13), .ref (a 14), .ref (a 15), _, _, .ref (a 18), .ref (a 19), .ref (a 20), .ref (a 21), .ref (a 22), .ref (a 23), .ref (a 24), .ref (a 25), _, _, .ref (a 28), _, _, .ref (a 31), .ref (a 32), .ref (a 33), _, _, _])), ((a 22), .inl (cI, 24, .inl _)), ((a 23), .inl (cI, 24, .inl _)), ((a 24), .inl (cI, 24, .inl _)), ((a 25), .inl (cI, 24, .inl _))] H := hP
    have hD : va_D A [(m, .inr (11, [_, .ref (a 1), .ref (a 2), _, _, _, .ref (a 6), .ref (a 7), .ref (a 8), .ref (a 9), .ref (a 10), .ref (a 11), .ref (a 12), .ref (a 13), .ref (a 14), .ref (a 15), _, _, .ref (a 18), .ref (a 19), .ref (a 20), .ref (a 21), .ref (a 22), .ref (a 23), .ref (a 24), .ref (a 25), _, _, .ref (a 28), _, _, .ref (a 31), .ref (a 32), .ref (a 33), _, _, _])), ((a 22), .inl (cI, 24, .inl _)), ((a 23), .inl (cI, 24, .inl _)), ((a 24), .inl (cI, 24, .inl _)), ((a 25), .inl (cI, 24, .inl _))] := hD
    exact mu_vret X hP hS (by simp [ad4, adN, adF, adM, hm]) dX11_add_14

set_option maxHeartbeats 1000000 in
set_option maxRecDepth 100000 in
theorem c_X11_numberOf {l : Launch} {D : va_G} {cI cJ cW : ClassId} {m : Nat} {a : Nat → Nat} {ct dn nw nj n tn tc mm : Nat} {τ : TS} {fu am pb : Int32} {L : Nat → Int32} {p q : Nat} (hn : n ≤ 80) (hq : q ≤ n) (hpq : p ≤ q) (hd : ∀ i, p ≤ i → i < q → isDi (L i) = true) : RO l yX11_numberOf wsX11_numberOf { frames := 0, cells := 0, slots := 0, locals := 0 } D (ty3 cI cJ cW) [.ref m, .int (nI p), .int (nI q)] [(m, .inr (11, [.int (nI ct), .ref (a 1), .ref (a 2), .int (nI dn), .int (nI nw), .int (nI nj), .ref (a 6), .ref (a 7), .ref (a 8), .ref (a 9), .ref (a 10), .ref (a 11), .ref (a 12), .ref (a 13), .ref (a 14), .ref (a 15), .int (nI n), .int (nI tn), .ref (a 18), .ref (a 19), .ref (a 20), .ref (a 21), .ref (a 22), .ref (a 23), .ref (a 24), .ref (a 25), .int (nI τ.1), .int (τ.2.1), .ref (a 28), .int (nI tc), .int (nI mm), .ref (a 31), .ref (a 32), .ref (a 33), .int (fu), .int (am), .int (pb)])), ((a 15), .inl (cI, 80, .inl L))] (.int (nI (min (numN L p (q - p) 0) 99999))) := by
  refine ro_of (cc := cX11_numberOf) (maxL := 5) (ret := (some .int)) (by decide) rfl (Nat.le_of_ble_eq_true rfl) ?_
  intro pr en ss mi below meth cd X hP hK ls hl
  obtain ⟨hx, hb, hml, hown, hts, hr, hlocks⟩ := id X
  have fl_43 := hts (.fieldLink RX11 43 "WordTablesModel" "line" "[I") (by decide +kernel)
  have in_X11 : ∀ w ∈ wsX110, w ∈ wsX11_numberOf := by decide +kernel
  have hl : lv_has ls 5 [(0, .ref m), (1, .int (nI p)), (2, .int (nI q))] := hl
  refine lv_iconst (v := 0) hx hb dX11_numberOf_0 (by decide) ?_
  refine lv_istore_n (lv' := [(3, _), (0, _), (1, _), (2, _)]) hx hb dX11_numberOf_1 rfl hl (by decide) rfl (fun ls hl => ?_)
  refine lv_iload_n hx hb dX11_numberOf_2 rfl (lv_at hl 2 rfl) ?_
  refine lv_istore (lv' := [(4, _), (3, _), (0, _), (1, _), (2, _)]) hx hb dX11_numberOf_3 hl (by decide) rfl (fun ls hl => ?_)
  have loop_5 : ∀ (fuel : Nat) (j w : Nat), q - j < fuel → p ≤ j → j ≤ q → numN L j (q - j) w = numN L p (q - p) 0 → ∀ ls : Array Slot, lv_has ls 5 [(0, .ref m), (1, .int (nI p)), (2, .int (nI q)), (3, .int (nI (min w 99999))), (4, .int (nI j))] → W pr l en { frames := 0, cells := 0, slots := 0, locals := 0 } ss mi ([.ref m, .int (nI p), .int (nI q)] : List Value).toArray below meth cd ss.heap [] 0 0 (MQ below (k2_QcV (.int (nI (min (numN L p (q - p) 0) 99999)))) ([.ref m, .int (nI p), .int (nI q)] : List Value).toArray ss 0 0 (fun _ => False)) (F0 mi 5 ls []) := by
    intro fuel
    induction fuel with
    | zero => intro j w hm; exact absurd hm (Nat.not_lt_zero _)
    | succ fuel ih =>
      intro j w hm hpj hj hr  ls hl
      refine lv_iload hx hb dX11_numberOf_5 (lv_at hl 4 rfl) ?_
      refine lv_iload_n hx hb dX11_numberOf_7 rfl (lv_at hl 2 rfl) ?_
      refine lv_icmp_ge (tgt := 46) hx hb dX11_numberOf_8 (by decide) (fun c_8 => ?_) (fun c_8 => ?_)
      · have hjq : j = q := eq_ge c_8 hj (by omega)
        refine lv_iload_n hx hb dX11_numberOf_46 rfl (lv_at hl 3 rfl) ?_
        exact ro_iret X (by rw [← hr, hjq, Nat.sub_self, numN]) dX11_numberOf_47
      · have hlt : j < q := lt_nge c_8 hj (by omega)
        obtain ⟨d, hd9, hLd, hdd⟩ := dg_of (hd j hpj hlt)
        refine lv_bipush (v := 10) hx hb dX11_numberOf_11 (by decide) ?_
        refine lv_iload_n hx hb dX11_numberOf_13 rfl (lv_at hl 3 rfl) ?_
        refine lv_imul hx hb dX11_numberOf_14 ?_
        refine lv_aload_n hx hb dX11_numberOf_15 rfl (lv_at hl 0 rfl) ?_
        refine va_get (D := D) (ci := 11) (C := RX11) (T := TX11) (N := 37) hx hb hts in_X11 hown hK hP 0 rfl rfl 15 (by decide) fl_43 (fun _ h9 => h9) rfl dX11_numberOf_16 ?_
        refine lv_iload hx hb dX11_numberOf_19 (lv_at hl 4 rfl) ?_
        refine ald_n hx hb hK hP 1 0 rfl rfl (show j < 80 by omega) (by first | decide | omega) dX11_numberOf_21 ?_
        refine topi_eq hLd ?_
        refine lv_iadd hx hb dX11_numberOf_22 ?_
        refine lv_bipush (v := 48) hx hb dX11_numberOf_23 (by decide) ?_
        refine lv_isub hx hb dX11_numberOf_25 ?_
        refine topi_eq (show (10 : Int32) * nI (min w 99999) + nI (48 + d) - 48 = nI (10 * min w 99999 + d) from by rw [show (10 : Int32) = nI 10 from rfl, pk_mul, nI_add, show (48 : Int32) = nI 48 from rfl, pk_sub (by omega)]; congr 1; omega) ?_
        refine lv_istore_n (lv' := [(3, _), (0, _), (1, _), (2, _), (4, _)]) hx hb dX11_numberOf_26 rfl hl (by decide) rfl (fun ls hl => ?_)
        refine lv_iload_n hx hb dX11_numberOf_27 rfl (lv_at hl 0 rfl) ?_
        refine lv_ldc hx hb hown (hts (.constant RX11 143 (99999)) (by decide +kernel)) dX11_numberOf_28 ?_
        refine lv_icmp_le (tgt := 38) hx hb dX11_numberOf_30 (by decide) (fun c_30 => ?_) (fun c_30 => ?_)
        · refine lv_iload_n hx hb dX11_numberOf_38 rfl (lv_at hl 0 rfl) ?_
          refine topi_eq (y := nI (min (10 * w + d) 99999)) (by first | (have h30 := leL (a := 10 * min w 99999 + d) (b := 99999) c_30; congr 1; omega) | (have h30 := leN (a := 10 * min w 99999 + d) (b := 99999) c_30; rw [show min (10 * w + d) 99999 = 99999 by omega]; rfl)) ?_
          refine lv_istore_n (lv' := [(3, _), (0, _), (1, _), (2, _), (4, _)]) hx hb dX11_numberOf_39 rfl hl (by decide) rfl (fun ls hl => ?_)
          refine lv_iinc (v := (_ : Int32) + 1) (lv' := [(4, _), (3, _), (0, _), (1, _), (2, _)]) hx hb dX11_numberOf_40 hl (k := 4) rfl rfl (by decide) rfl (fun ls hl => ?_)
          refine lv_goto (tgt := 5) hx hb dX11_numberOf_43 (by decide) ?_
          rw [nI_1] at hl
          exact ih (j + 1) (10 * w + d) (by omega) (by omega) (by omega) (by rw [← hr, show q - j = (q - (j + 1)) + 1 by omega, numN, hdd])  _ (lv_sub hl [2, 3, 4, 1, 0] rfl)
        · refine lv_ldc hx hb hown (hts (.constant RX11 143 (99999)) (by decide +kernel)) dX11_numberOf_33 ?_
          refine lv_goto (tgt := 39) hx hb dX11_numberOf_35 (by decide) ?_
          refine topi_eq (y := nI (min (10 * w + d) 99999)) (by first | (have h30 := leL (a := 10 * min w 99999 + d) (b := 99999) c_30; congr 1; omega) | (have h30 := leN (a := 10 * min w 99999 + d) (b := 99999) c_30; rw [show min (10 * w + d) 99999 = 99999 by omega]; rfl)) ?_
          refine lv_istore_n (lv' := [(3, _), (0, _), (1, _), (2, _), (4, _)]) hx hb dX11_numberOf_39 rfl hl (by decide) rfl (fun ls hl => ?_)
          refine lv_iinc (v := (_ : Int32) + 1) (lv' := [(4, _), (3, _), (0, _), (1, _), (2, _)]) hx hb dX11_numberOf_40 hl (k := 4) rfl rfl (by decide) rfl (fun ls hl => ?_)
          refine lv_goto (tgt := 5) hx hb dX11_numberOf_43 (by decide) ?_
          rw [nI_1] at hl
          exact ih (j + 1) (10 * w + d) (by omega) (by omega) (by omega) (by rw [← hr, show q - j = (q - (j + 1)) + 1 by omega, numN, hdd])  _ (lv_sub hl [2, 3, 4, 1, 0] rfl)
  exact loop_5 (q + 1) p 0 (by omega) (Nat.le_refl _) hpq rfl  ls (lv_sub hl [2, 3, 4, 1, 0] rfl)


