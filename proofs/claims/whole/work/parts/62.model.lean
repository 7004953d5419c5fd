/-! the model: answers -/
def aJoinN (nw dn : Nat) (y e : Int32) : Int32 := if ((ixO nw y).isSome && (ixO nw e).isSome) = true then (if dn = 0 then -4 else -5) else -2
theorem rowAt_in {xn p w j : Nat} {X : Nat → Int32} (hxn : xn ≤ 80) (h : p + w ≤ xn) (hj : j < w) : rowAt (nI xn) 80 X (nI p + nI j) = X (p + j) := by
  rw [nI_add]; exact rowAt_lt (by omega) (by omega) (by omega) (by decide)

set_option maxHeartbeats 1000000 in
set_option maxRecDepth 100000 in
theorem c_X11_plural_n {l : Launch} {D : va_G} {cI cJ cW : ClassId} {m : Nat} {a : Nat → Nat} {ct dn nw nj n tn tc mm : Nat} {τ : TS} {fu am pb : Int32} {F : Nat → Nat → Int32} {y e : Int32} {wz : Nat → Nat → Int32} {wn : Nat → Nat} {wt : Nat → Nat → Int32} (hnw : nw ≤ 40) (hrw : RW F nw wz wn wt) (hno : ∀ j, j < nw → y = nI j → ¬ ((e = -1 ∨ (ixO nw e).isSome = true) ∧ ¬ y = e)) : RO l yX11_plural wsX11_plural { frames := 2, cells := 0, slots := 0, locals := 43 } D (ty3 cI cJ cW) [.ref m, .int y, .int e] [(m, .inr (11, [.int (nI ct), .ref (a 1), .ref (a 2), .int (nI dn), .int (nI nw), .int (nI nj), .ref (a 6), .ref (a 7), .ref (a 8), .ref (a 9), .ref (a 10), .ref (a 11), .ref (a 12), .ref (a 13), .ref (a 14), .ref (a 15), .int (nI n), .int (nI tn), .ref (a 18), .ref (a 19), .ref (a 20), .ref (a 21), .ref (a 22), .ref (a 23), .ref (a 24), .ref (a 25), .int (nI τ.1), .int (τ.2.1), .ref (a 28), .int (nI tc), .int (nI mm), .ref (a 31), .ref (a 32), .ref (a 33), .int (fu), .int (am), .int (pb)])), ((a 11), .inl (cI, 40, .inl (F 11)))] (.int (aPluralN nw wz y e)) := by
  refine ro_of (cc := cX11_plural) (maxL := 4) (ret := (some .int)) (by decide) rfl (Nat.le_of_ble_eq_true rfl) ?_
  intro pr en ss mi below meth cd X hP hK ls hl
  obtain ⟨hx, hb, hml, hown, hts, hr, hlocks⟩ := id X
  have hl : lv_has ls 4 [(0, .ref m), (1, .int y), (2, .int e)] := hl
  refine lv_aload_n hx hb dX11_plural_0 rfl (lv_at hl 0 rfl) ?_
  refine lv_iload_n hx hb dX11_plural_1 rfl (lv_at hl 1 rfl) ?_
  refine ro_V (n := 1) X hK (c_X11_isWord hnw) gX11_plural_X11_isWord rfl (by decide +kernel) ⟨rfl, rfl⟩ ⟨Nat.le_of_ble_eq_true rfl, Nat.le_of_ble_eq_true rfl⟩ (hP.sub [0] rfl) (va_recv hK hP (ci := 11) (q0 := 0) rfl rfl) rfl hl.1 rfl (Nat.le_of_ble_eq_true rfl) dX11_plural_2 ⟨Nat.zero_le _, Nat.zero_le _⟩ ?_
  refine lv_if_eq (tgt := 21) hx hb dX11_plural_5 (by decide) (fun c_5 => ?_) (fun c_5 => ?_)
  · replace c_5 := bI_0.mp c_5
    refine lv_bipush (v := -2) hx hb dX11_plural_21 (by decide) ?_
    exact ro_iret X (by rw [aPluralN, no_ix c_5]) dX11_plural_23
  · replace c_5 := bI_n0.mp c_5
    obtain ⟨j, hj, hyj⟩ := is_ix c_5 (show nw < 2 ^ 31 by omega)
    refine lv_iload_n hx hb dX11_plural_8 rfl (lv_at hl 2 rfl) ?_
    refine lv_iconst (v := -1) hx hb dX11_plural_9 (by decide) ?_
    refine lv_icmp_eq (tgt := 24) hx hb dX11_plural_10 (by decide) (fun c_10 => ?_) (fun c_10 => ?_)
    · refine lv_iload_n hx hb dX11_plural_24 rfl (lv_at hl 1 rfl) ?_
      refine lv_iload_n hx hb dX11_plural_25 rfl (lv_at hl 2 rfl) ?_
      refine lv_icmp_ne (tgt := 32) hx hb dX11_plural_26 (by decide) (fun c_26 => ?_) (fun c_26 => ?_)
      · exact absurd ⟨by first | exact Or.inl c_10 | exact Or.inr c_18, c_26⟩ (hno j hj hyj)
      · refine lv_bipush (v := -4) hx hb dX11_plural_29 (by decide) ?_
        exact ro_iret X (by rw [aPluralN, hyj, ixO_nI hj (by omega)]; simp only []; rw [← hyj, if_pos (by first | exact Or.inl c_10 | exact Or.inr c_18), if_pos c_26]) dX11_plural_31
    · refine lv_aload_n hx hb dX11_plural_13 rfl (lv_at hl 0 rfl) ?_
      refine lv_iload_n hx hb dX11_plural_14 rfl (lv_at hl 2 rfl) ?_
      refine ro_V (n := 1) X hK (c_X11_isWord hnw) gX11_plural_X11_isWord rfl (by decide +kernel) ⟨rfl, rfl⟩ ⟨Nat.le_of_ble_eq_true rfl, Nat.le_of_ble_eq_true rfl⟩ (hP.sub [0] rfl) (va_recv hK hP (ci := 11) (q0 := 0) rfl rfl) rfl hl.1 rfl (Nat.le_of_ble_eq_true rfl) dX11_plural_15 ⟨Nat.zero_le _, Nat.zero_le _⟩ ?_
      refine lv_if_ne (tgt := 24) hx hb dX11_plural_18 (by decide) (fun c_18 => ?_) (fun c_18 => ?_)
      · replace c_18 := bI_n0.mp c_18
        refine lv_iload_n hx hb dX11_plural_24 rfl (lv_at hl 1 rfl) ?_
        refine lv_iload_n hx hb dX11_plural_25 rfl (lv_at hl 2 rfl) ?_
        refine lv_icmp_ne (tgt := 32) hx hb dX11_plural_26 (by decide) (fun c_26 => ?_) (fun c_26 => ?_)
        · exact absurd ⟨by first | exact Or.inl c_10 | exact Or.inr c_18, c_26⟩ (hno j hj hyj)
        · refine lv_bipush (v := -4) hx hb dX11_plural_29 (by decide) ?_
          exact ro_iret X (by rw [aPluralN, hyj, ixO_nI hj (by omega)]; simp only []; rw [← hyj, if_pos (by first | exact Or.inl c_10 | exact Or.inr c_18), if_pos c_26]) dX11_plural_31
      · replace c_18 := bI_0.mp c_18
        refine lv_bipush (v := -2) hx hb dX11_plural_21 (by decide) ?_
        exact ro_iret X (by rw [aPluralN, hyj, ixO_nI hj (by omega)]; simp only []; rw [if_neg (fun q => q.elim c_10 (fun q => by rw [c_18] at q; cases q))]) dX11_plural_23

set_option maxHeartbeats 1000000 in
set_option maxRecDepth 100000 in
theorem c_X11_plural {l : Launch} {D : va_G} {cI cJ cW : ClassId} {sz : Nat} {m : Nat} {a : Nat → Nat} {ct dn nw nj n tn tc mm : Nat} {τ : TS} {fu am pb : Int32} {F : Nat → Nat → Int32} {e : Int32} {j : Nat} {wz : Nat → Nat → Int32} {wn : Nat → Nat} {wt : Nat → Nat → Int32} (hnw : nw ≤ 40) (hrw : RW F nw wz wn wt) (hj : j < nw) (hok : e = -1 ∨ (ixO nw e).isSome = true) (hk2 : ¬ nI j = e) : MU l yX11_plural wsX11_plural { frames := 2, cells := 0, slots := 0, locals := 43 } D (ty3 cI cJ cW) [.ref m, .int (nI j), .int e] [(m, .inr (11, [.int (nI ct), .ref (a 1), .ref (a 2), .int (nI dn), .int (nI nw), .int (nI nj), .ref (a 6), .ref (a 7), .ref (a 8), .ref (a 9), .ref (a 10), .ref (a 11), .ref (a 12), .ref (a 13), .ref (a 14), .ref (a 15), .int (nI n), .int (nI tn), .ref (a 18), .ref (a 19), .ref (a 20), .ref (a 21), .ref (a 22), .ref (a 23), .ref (a 24), .ref (a 25), .int (nI τ.1), .int (τ.2.1), .ref (a 28), .int (nI tc), .int (nI mm), .ref (a 31), .ref (a 32), .ref (a 33), .int (fu), .int (am), .int (pb)])), ((a 11), .inl (cI, 40, .inl (F 11)))] sz (some (.int (wz j 4))) [(m, .inr (11, [.int (nI ct), .ref (a 1), .ref (a 2), .int (nI dn), .int (nI nw), .int (nI nj), .ref (a 6), .ref (a 7), .ref (a 8), .ref (a 9), .ref (a 10), .ref (a 11), .ref (a 12), .ref (a 13), .ref (a 14), .ref (a 15), .int (nI n), .int (nI tn), .ref (a 18), .ref (a 19), .ref (a 20), .ref (a 21), .ref (a 22), .ref (a 23), .ref (a 24), .ref (a 25), .int (nI τ.1), .int (τ.2.1), .ref (a 28), .int (nI tc), .int (nI mm), .ref (a 31), .ref (a 32), .ref (a 33), .int (fu), .int (am), .int (pb)])), ((a 11), .inl (cI, 40, .inl (upd (F 11) j e)))] := by
  refine mu_of (cc := cX11_plural) (maxL := 4) (ret := (some .int)) (by decide) rfl (Nat.le_of_ble_eq_true rfl) ?_
  intro pr en ss mi below meth cd X hK A hA hP hD hS ls hl
  obtain ⟨hx, hb, hml, hown, hts, hr, hlocks⟩ := id X
  have fl_31 := hts (.fieldLink RX11 31 "WordTablesModel" "pluralOf" "[I") (by decide +kernel)
  have in_X11 : ∀ w ∈ wsX110, w ∈ wsX11_plural := by decide +kernel
  have hl : lv_has ls 4 [(0, .ref m), (1, .int (nI j)), (2, .int e)] := hl
  refine lv_aload_n hx hb dX11_plural_0 rfl (lv_at hl 0 rfl) ?_
  refine lv_iload_n hx hb dX11_plural_1 rfl (lv_at hl 1 rfl) ?_
  refine ro_V (n := 1) X hK (c_X11_isWord hnw) gX11_plural_X11_isWord rfl (by decide +kernel) ⟨rfl, rfl⟩ ⟨Nat.le_of_ble_eq_true rfl, Nat.le_of_ble_eq_true rfl⟩ (hP.sub [0] rfl) (va_recv hK hP (ci := 11) (q0 := 0) rfl rfl) rfl hl.1 rfl (Nat.le_of_ble_eq_true rfl) dX11_plural_2 ⟨Nat.zero_le _, Nat.zero_le _⟩ ?_
  refine lv_if_eq (tgt := 21) hx hb dX11_plural_5 (by decide) (fun c_5 => ?_) (fun c_5 => ?_)
  · replace c_5 := bI_0.mp c_5
    exact absurd c_5 (by rw [ixO_nI hj (by omega)]; simp)
  · replace c_5 := bI_n0.mp c_5
    refine lv_iload_n hx hb dX11_plural_8 rfl (lv_at hl 2 rfl) ?_
    refine lv_iconst (v := -1) hx hb dX11_plural_9 (by decide) ?_
    refine lv_icmp_eq (tgt := 24) hx hb dX11_plural_10 (by decide) (fun c_10 => ?_) (fun c_10 => ?_)
    · refine lv_iload_n hx hb dX11_plural_24 rfl (lv_at hl 1 rfl) ?_
      refine lv_iload_n hx hb dX11_plural_25 rfl (lv_at hl 2 rfl) ?_
      refine lv_icmp_ne (tgt := 32) hx hb dX11_plural_26 (by decide) (fun c_26 => ?_) (fun c_26 => ?_)
      · refine lv_aload_n hx hb dX11_plural_32 rfl (lv_at hl 0 rfl) ?_
        refine va_get (D := D) (ci := 11) (C := RX11) (T := TX11) (N := 37) hx hb hts in_X11 hown hK hP 0 rfl rfl 11 (by decide) fl_31 (fun _ h9 => h9) rfl dX11_plural_33 ?_
        refine lv_iload_n hx hb dX11_plural_36 rfl (lv_at hl 1 rfl) ?_
        refine ald_n hx hb hK hP 1 0 rfl rfl (show j < 40 by omega) (by first | decide | omega) dX11_plural_37 ?_
        refine lv_istore_n (lv' := [(3, _), (0, _), (1, _), (2, _)]) hx hb dX11_plural_38 rfl hl (by decide) rfl (fun ls hl => ?_)
        refine lv_aload_n hx hb dX11_plural_39 rfl (lv_at hl 1 rfl) ?_
        refine va_get (D := D) (ci := 11) (C := RX11) (T := TX11) (N := 37) hx hb hts in_X11 hown hK hP 0 rfl rfl 11 (by decide) fl_31 (fun _ h9 => h9) rfl dX11_plural_40 ?_
        refine lv_iload_n hx hb dX11_plural_43 rfl (lv_at hl 2 rfl) ?_
        refine lv_iload_n hx hb dX11_plural_44 rfl (lv_at hl 3 rfl) ?_
        refine ast_n hx hb hK hP hD hS 1 0 rfl rfl (show j < 40 by omega) (by decide) dX11_plural_45 (fun H locs hP hD hS => ?_)
        have hP : va_P D vwCl [(m, .inr (11, [_, .ref (a 1), .ref (a 2), _, _, _, .ref (a 6), .ref (a 7), .ref (a 8), .ref (a 9), .ref (a 10), .ref (a 11), .ref (a 12), .ref (a 13), .ref (a 14), .ref (a 15), _, _, .ref (a 18), .ref (a 19), .ref (a 20), .ref (a 21), .ref (a 22), .ref (a 23), .ref (a 24), .ref (a 25), _, _, .ref (a 28), _, _, .ref (a 31), .ref (a 32), .ref (a 33), _, _, _])), ((a 11), .inl (cI, 40, .inl _))] H := hP
        have hD : va_D A [(m, .inr (11, [_, .ref (a 1), .ref (a 2), _, _, _, .ref (a 6), .ref (a 7), .ref (a 8), .ref (a 9), .ref (a 10), .ref (a 11), .ref (a 12), .ref (a 13), .ref (a 14), .ref (a 15), _, _, .ref (a 18), .ref (a 19), .ref (a 20), .ref (a 21), .ref (a 22), .ref (a 23), .ref (a 24), .ref (a 25), _, _, .ref (a 28), _, _, .ref (a 31), .ref (a 32), .ref (a 33), _, _, _])), ((a 11), .inl (cI, 40, .inl _))] := hD
        refine lv_iload_n hx hb dX11_plural_46 rfl (lv_at hl 0 rfl) ?_
        exact mu_iret X hP hS ((hrw j hj).2.2.2.2.2.2.1) (rfl) dX11_plural_47
      · exact absurd c_26 hk2
    · refine lv_aload_n hx hb dX11_plural_13 rfl (lv_at hl 0 rfl) ?_
      refine lv_iload_n hx hb dX11_plural_14 rfl (lv_at hl 2 rfl) ?_
      refine ro_V (n := 1) X hK (c_X11_isWord hnw) gX11_plural_X11_isWord rfl (by decide +kernel) ⟨rfl, rfl⟩ ⟨Nat.le_of_ble_eq_true rfl, Nat.le_of_ble_eq_true rfl⟩ (hP.sub [0] rfl) (va_recv hK hP (ci := 11) (q0 := 0) rfl rfl) rfl hl.1 rfl (Nat.le_of_ble_eq_true rfl) dX11_plural_15 ⟨Nat.zero_le _, Nat.zero_le _⟩ ?_
      refine lv_if_ne (tgt := 24) hx hb dX11_plural_18 (by decide) (fun c_18 => ?_) (fun c_18 => ?_)
      · replace c_18 := bI_n0.mp c_18
        refine lv_iload_n hx hb dX11_plural_24 rfl (lv_at hl 1 rfl) ?_
        refine lv_iload_n hx hb dX11_plural_25 rfl (lv_at hl 2 rfl) ?_
        refine lv_icmp_ne (tgt := 32) hx hb dX11_plural_26 (by decide) (fun c_26 => ?_) (fun c_26 => ?_)
        · refine lv_aload_n hx hb dX11_plural_32 rfl (lv_at hl 0 rfl) ?_
          refine va_get (D := D) (ci := 11) (C := RX11) (T := TX11) (N := 37) hx hb hts in_X11 hown hK hP 0 rfl rfl 11 (by decide) fl_31 (fun _ h9 => h9) rfl dX11_plural_33 ?_
          refine lv_iload_n hx hb dX11_plural_36 rfl (lv_at hl 1 rfl) ?_
          refine ald_n hx hb hK hP 1 0 rfl rfl (show j < 40 by omega) (by first | decide | omega) dX11_plural_37 ?_
          refine lv_istore_n (lv' := [(3, _), (0, _), (1, _), (2, _)]) hx hb dX11_plural_38 rfl hl (by decide) rfl (fun ls hl => ?_)
          refine lv_aload_n hx hb dX11_plural_39 rfl (lv_at hl 1 rfl) ?_
          refine va_get (D := D) (ci := 11) (C := RX11) (T := TX11) (N := 37) hx hb hts in_X11 hown hK hP 0 rfl rfl 11 (by decide) fl_31 (fun _ h9 => h9) rfl dX11_plural_40 ?_
          refine lv_iload_n hx hb dX11_plural_43 rfl (lv_at hl 2 rfl) ?_
          refine lv_iload_n hx hb dX11_plural_44 rfl (lv_at hl 3 rfl) ?_
          refine ast_n hx hb hK hP hD hS 1 0 rfl rfl (show j < 40 by omega) (by decide) dX11_plural_45 (fun H locs hP hD hS => ?_)
          have hP : va_P D vwCl [(m, .inr (11, [_, .ref (a 1), .ref (a 2), _, _, _, .ref (a 6), .ref (a 7), .ref (a 8), .ref (a 9), .ref (a 10), .ref (a 11), .ref (a 12), .ref (a 13), .ref (a 14), .ref (a 15), _, _, .ref (a 18), .ref (a 19), .ref (a 20), .ref (a 21), .ref (a 22), .ref (a 23), .ref (a 24), .ref (a 25), _, _, .ref (a 28), _, _, .ref (a 31), .ref (a 32), .ref (a 33), _, _, _])), ((a 11), .inl (cI, 40, .inl _))] H := hP
          have hD : va_D A [(m, .inr (11, [_, .ref (a 1), .ref (a 2), _, _, _, .ref (a 6), .ref (a 7), .ref (a 8), .ref (a 9), .ref (a 10), .ref (a 11), .ref (a 12), .ref (a 13), .ref (a 14), .ref (a 15), _, _, .ref (a 18), .ref (a 19), .ref (a 20), .ref (a 21), .ref (a 22), .ref (a 23), .ref (a 24), .ref (a 25), _, _, .ref (a 28), _, _, .ref (a 31), .ref (a 32), .ref (a 33), _, _, _])), ((a 11), .inl (cI, 40, .inl _))] := hD
          refine lv_iload_n hx hb dX11_plural_46 rfl (lv_at hl 0 rfl) ?_
          exact mu_iret X hP hS ((hrw j hj).2.2.2.2.2.2.1) (rfl) dX11_plural_47
        · exact absurd c_26 hk2
      · replace c_18 := bI_0.mp c_18
        exact hok.elim (fun q => absurd q c_10) (fun q => absurd q (by rw [c_18]; decide))

set_option maxHeartbeats 1000000 in
set_option maxRecDepth 100000 in
theorem c_X11_join_n {l : Launch} {D : va_G} {cI cJ cW : ClassId} {m : Nat} {a : Nat → Nat} {ct dn nw nj n tn tc mm : Nat} {τ : TS} {fu am pb : Int32} {F : Nat → Nat → Int32} {df : Nat → Int32} {y e : Int32} (hnw : nw ≤ 40) (hdn : dn ≤ 20) (hnj : nj ≤ 8) (hno : ¬ (((ixO nw y).isSome && (ixO nw e).isSome) = true ∧ ¬ dn = 0 ∧ nj < 8)) : RO l yX11_join wsX11_join { frames := 2, cells := 0, slots := 0, locals := 43 } D (ty3 cI cJ cW) [.ref m, .int y, .int e] [(m, .inr (11, [.int (nI ct), .ref (a 1), .ref (a 2), .int (nI dn), .int (nI nw), .int (nI nj), .ref (a 6), .ref (a 7), .ref (a 8), .ref (a 9), .ref (a 10), .ref (a 11), .ref (a 12), .ref (a 13), .ref (a 14), .ref (a 15), .int (nI n), .int (nI tn), .ref (a 18), .ref (a 19), .ref (a 20), .ref (a 21), .ref (a 22), .ref (a 23), .ref (a 24), .ref (a 25), .int (nI τ.1), .int (τ.2.1), .ref (a 28), .int (nI tc), .int (nI mm), .ref (a 31), .ref (a 32), .ref (a 33), .int (fu), .int (am), .int (pb)])), ((a 2), .inl (cI, 20, .inl df)), ((a 6), .inl (cI, 960, .inl (F 6))), ((a 7), .inl (cI, 48, .inl (F 7))), ((a 13), .inl (cI, 8, .inl (F 13))), ((a 14), .inl (cI, 8, .inl (F 14)))] (.int (aJoinN nw dn y e)) := by
  refine ro_of (cc := cX11_join) (maxL := 3) (ret := (some .int)) (by decide) rfl (Nat.le_of_ble_eq_true rfl) ?_
  intro pr en ss mi below meth cd X hP hK ls hl
  obtain ⟨hx, hb, hml, hown, hts, hr, hlocks⟩ := id X
  have fl_100 := hts (.fieldLink RX11 100 "WordTablesModel" "drafted" "I") (by decide +kernel)
  have fl_93 := hts (.fieldLink RX11 93 "WordTablesModel" "joins" "I") (by decide +kernel)
  have in_X11 : ∀ w ∈ wsX110, w ∈ wsX11_join := by decide +kernel
  have hl : lv_has ls 3 [(0, .ref m), (1, .int y), (2, .int e)] := hl
  refine lv_aload_n hx hb dX11_join_0 rfl (lv_at hl 0 rfl) ?_
  refine lv_iload_n hx hb dX11_join_1 rfl (lv_at hl 1 rfl) ?_
  refine ro_V (n := 1) X hK (c_X11_isWord hnw) gX11_join_X11_isWord rfl (by decide +kernel) ⟨rfl, rfl⟩ ⟨Nat.le_of_ble_eq_true rfl, Nat.le_of_ble_eq_true rfl⟩ (hP.sub [0] rfl) (va_recv hK hP (ci := 11) (q0 := 0) rfl rfl) rfl hl.1 rfl (Nat.le_of_ble_eq_true rfl) dX11_join_2 ⟨Nat.zero_le _, Nat.zero_le _⟩ ?_
  refine lv_if_eq (tgt := 16) hx hb dX11_join_5 (by decide) (fun c_5 => ?_) (fun c_5 => ?_)
  · replace c_5 := bI_0.mp c_5
    have hok : ((ixO nw y).isSome && (ixO nw e).isSome) = false := by first | (rw [c_5]; rfl) | (rw [c_13]; simp)
    refine lv_bipush (v := -2) hx hb dX11_join_16 (by decide) ?_
    exact ro_iret X (by rw [aJoinN, if_neg (by rw [hok]; decide)]) dX11_join_18
  · replace c_5 := bI_n0.mp c_5
    refine lv_aload_n hx hb dX11_join_8 rfl (lv_at hl 0 rfl) ?_
    refine lv_iload_n hx hb dX11_join_9 rfl (lv_at hl 2 rfl) ?_
    refine ro_V (n := 1) X hK (c_X11_isWord hnw) gX11_join_X11_isWord rfl (by decide +kernel) ⟨rfl, rfl⟩ ⟨Nat.le_of_ble_eq_true rfl, Nat.le_of_ble_eq_true rfl⟩ (hP.sub [0] rfl) (va_recv hK hP (ci := 11) (q0 := 0) rfl rfl) rfl hl.1 rfl (Nat.le_of_ble_eq_true rfl) dX11_join_10 ⟨Nat.zero_le _, Nat.zero_le _⟩ ?_
    refine lv_if_ne (tgt := 19) hx hb dX11_join_13 (by decide) (fun c_13 => ?_) (fun c_13 => ?_)
    · replace c_13 := bI_n0.mp c_13
      have hok : ((ixO nw y).isSome && (ixO nw e).isSome) = true := by rw [c_5, c_13]; rfl
      refine lv_aload_n hx hb dX11_join_19 rfl (lv_at hl 0 rfl) ?_
      refine va_get (D := D) (ci := 11) (C := RX11) (T := TX11) (N := 37) hx hb hts in_X11 hown hK hP 0 rfl rfl 3 (by decide) fl_100 (fun _ h9 => h9) rfl dX11_join_20 ?_
      refine lv_if_ne (tgt := 29) hx hb dX11_join_23 (by decide) (fun c_23 => ?_) (fun c_23 => ?_)
      · have h0 : ¬ dn = 0 := fun q => c_23 (by rw [q]; rfl)
        refine lv_aload_n hx hb dX11_join_29 rfl (lv_at hl 0 rfl) ?_
        refine va_get (D := D) (ci := 11) (C := RX11) (T := TX11) (N := 37) hx hb hts in_X11 hown hK hP 0 rfl rfl 5 (by decide) fl_93 (fun _ h9 => h9) rfl dX11_join_30 ?_
        refine lv_bipush (v := 8) hx hb dX11_join_33 (by decide) ?_
        refine lv_icmp_ne (tgt := 41) hx hb dX11_join_35 (by decide) (fun c_35 => ?_) (fun c_35 => ?_)
        · exact absurd ⟨hok, h0, by rcases Nat.lt_or_ge nj 8 with q | q; exact q; exact absurd (show nI nj = 8 by rw [show nj = 8 by omega]; rfl) c_35⟩ hno
        · refine lv_bipush (v := -5) hx hb dX11_join_38 (by decide) ?_
          exact ro_iret X (by rw [aJoinN, if_pos hok, if_neg h0]) dX11_join_40
      · have h0 : dn = 0 := (nI_eq (a := dn) (b := 0) (by omega) (by decide)).mp c_23
        refine lv_bipush (v := -4) hx hb dX11_join_26 (by decide) ?_
        exact ro_iret X (by rw [aJoinN, if_pos hok, if_pos h0]) dX11_join_28
    · replace c_13 := bI_0.mp c_13
      have hok : ((ixO nw y).isSome && (ixO nw e).isSome) = false := by first | (rw [c_5]; rfl) | (rw [c_13]; simp)
      refine lv_bipush (v := -2) hx hb dX11_join_16 (by decide) ?_
      exact ro_iret X (by rw [aJoinN, if_neg (by rw [hok]; decide)]) dX11_join_18

set_option maxHeartbeats 1000000 in
set_option maxRecDepth 100000 in
theorem c_X11_join {l : Launch} {D : va_G} {cI cJ cW : ClassId} {sz : Nat} {m : Nat} {a : Nat → Nat} {ct dn nw nj n tn tc mm : Nat} {τ : TS} {fu am pb : Int32} {F : Nat → Nat → Int32} {df : Nat → Int32} {y e : Int32} (hnw : nw ≤ 40) (hdn : dn ≤ 20) (hok : ((ixO nw y).isSome && (ixO nw e).isSome) = true) (h0 : ¬ dn = 0) (h8 : nj < 8) : MU l yX11_join wsX11_join { frames := 2, cells := 0, slots := 0, locals := 43 } D (ty3 cI cJ cW) [.ref m, .int y, .int e] [(m, .inr (11, [.int (nI ct), .ref (a 1), .ref (a 2), .int (nI dn), .int (nI nw), .int (nI nj), .ref (a 6), .ref (a 7), .ref (a 8), .ref (a 9), .ref (a 10), .ref (a 11), .ref (a 12), .ref (a 13), .ref (a 14), .ref (a 15), .int (nI n), .int (nI tn), .ref (a 18), .ref (a 19), .ref (a 20), .ref (a 21), .ref (a 22), .ref (a 23), .ref (a 24), .ref (a 25), .int (nI τ.1), .int (τ.2.1), .ref (a 28), .int (nI tc), .int (nI mm), .ref (a 31), .ref (a 32), .ref (a 33), .int (fu), .int (am), .int (pb)])), ((a 2), .inl (cI, 20, .inl df)), ((a 6), .inl (cI, 960, .inl (F 6))), ((a 7), .inl (cI, 48, .inl (F 7))), ((a 13), .inl (cI, 8, .inl (F 13))), ((a 14), .inl (cI, 8, .inl (F 14)))] sz (some (.int (nI (nj + 1)))) [(m, .inr (11, [.int (nI ct), .ref (a 1), .ref (a 2), .int (0), .int (nI nw), .int (nI (nj + 1)), .ref (a 6), .ref (a 7), .ref (a 8), .ref (a 9), .ref (a 10), .ref (a 11), .ref (a 12), .ref (a 13), .ref (a 14), .ref (a 15), .int (nI n), .int (nI tn), .ref (a 18), .ref (a 19), .ref (a 20), .ref (a 21), .ref (a 22), .ref (a 23), .ref (a 24), .ref (a 25), .int (nI τ.1), .int (τ.2.1), .ref (a 28), .int (nI tc), .int (nI mm), .ref (a 31), .ref (a 32), .ref (a 33), .int (fu), .int (am), .int (pb)])), ((a 2), .inl (cI, 20, .inl df)), ((a 6), .inl (cI, 960, .inl (lyF (F 6) df (40 + nj) dn))), ((a 7), .inl (cI, 48, .inl (upd (F 7) (40 + nj) (nI dn)))), ((a 13), .inl (cI, 8, .inl (upd (F 13) nj y))), ((a 14), .inl (cI, 8, .inl (upd (F 14) nj e)))] := by
  refine mu_of (cc := cX11_join) (maxL := 3) (ret := (some .int)) (by decide) rfl (Nat.le_of_ble_eq_true rfl) ?_
  intro pr en ss mi below meth cd X hK A hA hP hD hS ls hl
  obtain ⟨hx, hb, hml, hown, hts, hr, hlocks⟩ := id X
  have fl_100 := hts (.fieldLink RX11 100 "WordTablesModel" "drafted" "I") (by decide +kernel)
  have fl_37 := hts (.fieldLink RX11 37 "WordTablesModel" "joinFirst" "[I") (by decide +kernel)
  have fl_40 := hts (.fieldLink RX11 40 "WordTablesModel" "joinSecond" "[I") (by decide +kernel)
  have fl_93 := hts (.fieldLink RX11 93 "WordTablesModel" "joins" "I") (by decide +kernel)
  have in_X11 : ∀ w ∈ wsX110, w ∈ wsX11_join := by decide +kernel
  have hl : lv_has ls 3 [(0, .ref m), (1, .int y), (2, .int e)] := hl
  refine lv_aload_n hx hb dX11_join_0 rfl (lv_at hl 0 rfl) ?_
  refine lv_iload_n hx hb dX11_join_1 rfl (lv_at hl 1 rfl) ?_
  refine ro_V (n := 1) X hK (c_X11_isWord hnw) gX11_join_X11_isWord rfl (by decide +kernel) ⟨rfl, rfl⟩ ⟨Nat.le_of_ble_eq_true rfl, Nat.le_of_ble_eq_true rfl⟩ (hP.sub [0] rfl) (va_recv hK hP (ci := 11) (q0 := 0) rfl rfl) rfl hl.1 rfl (Nat.le_of_ble_eq_true rfl) dX11_join_2 ⟨Nat.zero_le _, Nat.zero_le _⟩ ?_
  refine lv_if_eq (tgt := 16) hx hb dX11_join_5 (by decide) (fun c_5 => ?_) (fun c_5 => ?_)
  · replace c_5 := bI_0.mp c_5
    exact absurd hok (by first | (rw [c_5]; simp; done) | (rw [c_13]; simp))
  · replace c_5 := bI_n0.mp c_5
    refine lv_aload_n hx hb dX11_join_8 rfl (lv_at hl 0 rfl) ?_
    refine lv_iload_n hx hb dX11_join_9 rfl (lv_at hl 2 rfl) ?_
    refine ro_V (n := 1) X hK (c_X11_isWord hnw) gX11_join_X11_isWord rfl (by decide +kernel) ⟨rfl, rfl⟩ ⟨Nat.le_of_ble_eq_true rfl, Nat.le_of_ble_eq_true rfl⟩ (hP.sub [0] rfl) (va_recv hK hP (ci := 11) (q0 := 0) rfl rfl) rfl hl.1 rfl (Nat.le_of_ble_eq_true rfl) dX11_join_10 ⟨Nat.zero_le _, Nat.zero_le _⟩ ?_
    refine lv_if_ne (tgt := 19) hx hb dX11_join_13 (by decide) (fun c_13 => ?_) (fun c_13 => ?_)
    · replace c_13 := bI_n0.mp c_13
      refine lv_aload_n hx hb dX11_join_19 rfl (lv_at hl 0 rfl) ?_
      refine va_get (D := D) (ci := 11) (C := RX11) (T := TX11) (N := 37) hx hb hts in_X11 hown hK hP 0 rfl rfl 3 (by decide) fl_100 (fun _ h9 => h9) rfl dX11_join_20 ?_
      refine lv_if_ne (tgt := 29) hx hb dX11_join_23 (by decide) (fun c_23 => ?_) (fun c_23 => ?_)
      · refine lv_aload_n hx hb dX11_join_29 rfl (lv_at hl 0 rfl) ?_
        refine va_get (D := D) (ci := 11) (C := RX11) (T := TX11) (N := 37) hx hb hts in_X11 hown hK hP 0 rfl rfl 5 (by decide) fl_93 (fun _ h9 => h9) rfl dX11_join_30 ?_
        refine lv_bipush (v := 8) hx hb dX11_join_33 (by decide) ?_
        refine lv_icmp_ne (tgt := 41) hx hb dX11_join_35 (by decide) (fun c_35 => ?_) (fun c_35 => ?_)
        · refine lv_aload_n hx hb dX11_join_41 rfl (lv_at hl 0 rfl) ?_
          refine lv_bipush (v := 40) hx hb dX11_join_42 (by decide) ?_
          refine lv_aload_n hx hb dX11_join_44 rfl (lv_at hl 0 rfl) ?_
          refine va_get (D := D) (ci := 11) (C := RX11) (T := TX11) (N := 37) hx hb hts in_X11 hown hK hP 0 rfl rfl 5 (by decide) fl_93 (fun _ h9 => h9) rfl dX11_join_45 ?_
          refine lv_iadd hx hb dX11_join_48 ?_
          refine topi_eq (nI_add 40 nj) ?_
          refine mu_V (n := 1) X hK (c_X11_lay hdn (by omega)) gX11_join_X11_lay rfl (by decide +kernel) ⟨rfl, rfl⟩ ⟨Nat.le_of_ble_eq_true rfl, Nat.le_of_ble_eq_true rfl⟩ [0, 1, 2, 3] rfl rfl rfl rfl hA hP hD hS (va_recv hK hP (ci := 11) (q0 := 0) rfl rfl) rfl hl.1 rfl (Nat.le_of_ble_eq_true rfl) dX11_join_49 ⟨Nat.zero_le _, Nat.zero_le _⟩ (fun H locs hP hD hS => ?_)
          have hP : va_P D vwCl [(m, .inr (11, [_, .ref (a 1), .ref (a 2), _, _, _, .ref (a 6), .ref (a 7), .ref (a 8), .ref (a 9), .ref (a 10), .ref (a 11), .ref (a 12), .ref (a 13), .ref (a 14), .ref (a 15), _, _, .ref (a 18), .ref (a 19), .ref (a 20), .ref (a 21), .ref (a 22), .ref (a 23), .ref (a 24), .ref (a 25), _, _, .ref (a 28), _, _, .ref (a 31), .ref (a 32), .ref (a 33), _, _, _])), ((a 2), .inl (cI, 20, .inl _)), ((a 6), .inl (cI, 960, .inl _)), ((a 7), .inl (cI, 48, .inl _)), ((a 13), .inl (cI, 8, .inl _)), ((a 14), .inl (cI, 8, .inl _))] H := hP
          have hD : va_D A [(m, .inr (11, [_, .ref (a 1), .ref (a 2), _, _, _, .ref (a 6), .ref (a 7), .ref (a 8), .ref (a 9), .ref (a 10), .ref (a 11), .ref (a 12), .ref (a 13), .ref (a 14), .ref (a 15), _, _, .ref (a 18), .ref (a 19), .ref (a 20), .ref (a 21), .ref (a 22), .ref (a 23), .ref (a 24), .ref (a 25), _, _, .ref (a 28), _, _, .ref (a 31), .ref (a 32), .ref (a 33), _, _, _])), ((a 2), .inl (cI, 20, .inl _)), ((a 6), .inl (cI, 960, .inl _)), ((a 7), .inl (cI, 48, .inl _)), ((a 13), .inl (cI, 8, .inl _)), ((a 14), .inl (cI, 8, .inl _))] := hD
          refine lv_aload_n hx hb dX11_join_52 rfl (lv_at hl 0 rfl) ?_
          refine va_get (D := D) (ci := 11) (C := RX11) (T := TX11) (N := 37) hx hb hts in_X11 hown hK hP 0 rfl rfl 13 (by decide) fl_37 (fun _ h9 => h9) rfl dX11_join_53 ?_
          refine lv_aload_n hx hb dX11_join_56 rfl (lv_at hl 0 rfl) ?_
          refine va_get (D := D) (ci := 11) (C := RX11) (T := TX11) (N := 37) hx hb hts in_X11 hown hK hP 0 rfl rfl 5 (by decide) fl_93 (fun _ h9 => h9) rfl dX11_join_57 ?_
          refine lv_iload_n hx hb dX11_join_60 rfl (lv_at hl 1 rfl) ?_
          refine ast_n hx hb hK hP hD hS 4 0 rfl rfl h8 (by decide) dX11_join_61 (fun H locs hP hD hS => ?_)
          have hP : va_P D vwCl [(m, .inr (11, [_, .ref (a 1), .ref (a 2), _, _, _, .ref (a 6), .ref (a 7), .ref (a 8), .ref (a 9), .ref (a 10), .ref (a 11), .ref (a 12), .ref (a 13), .ref (a 14), .ref (a 15), _, _, .ref (a 18), .ref (a 19), .ref (a 20), .ref (a 21), .ref (a 22), .ref (a 23), .ref (a 24), .ref (a 25), _, _, .ref (a 28), _, _, .ref (a 31), .ref (a 32), .ref (a 33), _, _, _])), ((a 2), .inl (cI, 20, .inl _)), ((a 6), .inl (cI, 960, .inl _)), ((a 7), .inl (cI, 48, .inl _)), ((a 13), .inl (cI, 8, .inl _)), ((a 14), .inl (cI, 8, .inl _))] H := hP
          have hD : va_D A [(m, .inr (11, [_, .ref (a 1), .ref (a 2), _, _, _, .ref (a 6), .ref (a 7), .ref (a 8), .ref (a 9), .ref (a 10), .ref (a 11), .ref (a 12), .ref (a 13), .ref (a 14), .ref (a 15), _, _, .ref (a 18), .ref (a 19), .ref (a 20), .ref (a 21), .ref (a 22), .ref (a 23), .ref (a 24), .ref (a 25), _, _, .ref (a 28), _, _, .ref (a 31), .ref (a 32), .ref (a 33), _, _, _])), ((a 2), .inl (cI, 20, .inl _)), ((a 6), .inl (cI, 960, .inl _)), ((a 7), .inl (cI, 48, .inl _)), ((a 13), .inl (cI, 8, .inl _)), ((a 14), .inl (cI, 8, .inl _))] := hD
          refine lv_aload_n hx hb dX11_join_62 rfl (lv_at hl 0 rfl) ?_
          refine va_get (D := D) (ci := 11) (C := RX11) (T := TX11) (N := 37) hx hb hts in_X11 hown hK hP 0 rfl rfl 14 (by decide) fl_40 (fun _ h9 => h9) rfl dX11_join_63 ?_
          refine lv_aload_n hx hb dX11_join_66 rfl (lv_at hl 0 rfl) ?_
          refine va_get (D := D) (ci := 11) (C := RX11) (T := TX11) (N := 37) hx hb hts in_X11 hown hK hP 0 rfl rfl 5 (by decide) fl_93 (fun _ h9 => h9) rfl dX11_join_67 ?_
          refine lv_iload_n hx hb dX11_join_70 rfl (lv_at hl 2 rfl) ?_
          refine ast_n hx hb hK hP hD hS 5 0 rfl rfl h8 (by decide) dX11_join_71 (fun H locs hP hD hS => ?_)
          have hP : va_P D vwCl [(m, .inr (11, [_, .ref (a 1), .ref (a 2), _, _, _, .ref (a 6), .ref (a 7), .ref (a 8), .ref (a 9), .ref (a 10), .ref (a 11), .ref (a 12), .ref (a 13), .ref (a 14), .ref (a 15), _, _, .ref (a 18), .ref (a 19), .ref (a 20), .ref (a 21), .ref (a 22), .ref (a 23), .ref (a 24), .ref (a 25), _, _, .ref (a 28), _, _, .ref (a 31), .ref (a 32), .ref (a 33), _, _, _])), ((a 2), .inl (cI, 20, .inl _)), ((a 6), .inl (cI, 960, .inl _)), ((a 7), .inl (cI, 48, .inl _)), ((a 13), .inl (cI, 8, .inl _)), ((a 14), .inl (cI, 8, .inl _))] H := hP
          have hD : va_D A [(m, .inr (11, [_, .ref (a 1), .ref (a 2), _, _, _, .ref (a 6), .ref (a 7), .ref (a 8), .ref (a 9), .ref (a 10), .ref (a 11), .ref (a 12), .ref (a 13), .ref (a 14), .ref (a 15), _, _, .ref (a 18), .ref (a 19), .ref (a 20), .ref (a 21), .ref (a 22), .ref (a 23), .ref (a 24), .ref (a 25), _, _, .ref (a 28), _, _, .ref (a 31), .ref (a 32), .ref (a 33), _, _, _])), ((a 2), .inl (cI, 20, .inl _)), ((a 6), .inl (cI, 960, .inl _)), ((a 7), .inl (cI, 48, .inl _)), ((a 13), .inl (cI, 8, .inl _)), ((a 14), .inl (cI, 8, .inl _))] := hD
          refine lv_aload_n hx hb dX11_join_72 rfl (lv_at hl 0 rfl) ?_
          refine lv_dup hx hb dX11_join_73 rfl ?_
          refine va_get (D := D) (ci := 11) (C := RX11) (T := TX11) (N := 37) hx hb hts in_X11 hown hK hP 0 rfl rfl 5 (by decide) fl_93 (fun _ h9 => h9) rfl dX11_join_74 ?_
          refine lv_iconst (v := 1) hx hb dX11_join_77 (by decide) ?_
          refine lv_iadd hx hb dX11_join_78 ?_
          refine topi_eq (nI_1 nj) ?_
          refine va_put (D := D) (ci := 11) (ty := .int) (C := RX11) (T := TX11) (N := 37) hx hb hts in_X11 tyX11 tyX11_ok nmX11 hown hK hP hD hS 0 rfl rfl 5 (by decide) fl_93 (fun _ h9 => h9) rfl (by decide +kernel) rfl rfl (Nat.le_of_ble_eq_true rfl) dX11_join_79 (fun H locs hP hD hS => ?_)
          have hP : va_P D vwCl [(m, .inr (11, [_, .ref (a 1), .ref (a 2), _, _, _, .ref (a 6), .ref (a 7), .ref (a 8), .ref (a 9), .ref (a 10), .ref (a 11), .ref (a 12), .ref (a 13), .ref (a 14), .ref (a 15), _, _, .ref (a 18), .ref (a 19), .ref (a 20), .ref (a 21), .ref (a 22), .ref (a 23), .ref (a 24), .ref (a 25), _, _, .ref (a 28), _, _, .ref (a 31), .ref (a 32), .ref (a 33), _, _, _])), ((a 2), .inl (cI, 20, .inl _)), ((a 6), .inl (cI, 960, .inl _)), ((a 7), .inl (cI, 48, .inl _)), ((a 13), .inl (cI, 8, .inl _)), ((a 14), .inl (cI, 8, .inl _))] H := hP
          have hD : va_D A [(m, .inr (11, [_, .ref (a 1), .ref (a 2), _, _, _, .ref (a 6), .ref (a 7), .ref (a 8), .ref (a 9), .ref (a 10), .ref (a 11), .ref (a 12), .ref (a 13), .ref (a 14), .ref (a 15), _, _, .ref (a 18), .ref (a 19), .ref (a 20), .ref (a 21), .ref (a 22), .ref (a 23), .ref (a 24), .ref (a 25), _, _, .ref (a 28), _, _, .ref (a 31), .ref (a 32), .ref (a 33), _, _, _])), ((a 2), .inl (cI, 20, .inl _)), ((a 6), .inl (cI, 960, .inl _)), ((a 7), .inl (cI, 48, .inl _)), ((a 13), .inl (cI, 8, .inl _)), ((a 14), .inl (cI, 8, .inl _))] := hD
          refine lv_aload_n hx hb dX11_join_82 rfl (lv_at hl 0 rfl) ?_
          refine va_get (D := D) (ci := 11) (C := RX11) (T := TX11) (N := 37) hx hb hts in_X11 hown hK hP 0 rfl rfl 5 (by decide) fl_93 (fun _ h9 => h9) rfl dX11_join_83 ?_
          exact mu_iret X hP hS (rfl) (rfl) dX11_join_86
        · exact absurd ((nI_eq (a := nj) (b := 8) (by omega) (by decide)).mp c_35) (by omega)
      · exact absurd ((nI_eq (a := dn) (b := 0) (by omega) (by decide)).mp c_23) h0
    · replace c_13 := bI_0.mp c_13
      exact absurd hok (by first | (rw [c_5]; simp; done) | (rw [c_13]; simp))

set_option maxHeartbeats 1000000 in
set_option maxRecDepth 100000 in
theorem c_X11_told {l : Launch} {D : va_G} {cI cJ cW : ClassId} {m : Nat} {a : Nat → Nat} {ct dn nw nj n tn tc mm : Nat} {τ : TS} {fu am pb : Int32} {y : Int32}  : RO l yX11_told wsX11_told { frames := 0, cells := 0, slots := 0, locals := 0 } D (ty3 cI cJ cW) [.ref m, .int y] [(m, .inr (11, [.int (nI ct), .ref (a 1), .ref (a 2), .int (nI dn), .int (nI nw), .int (nI nj), .ref (a 6), .ref (a 7), .ref (a 8), .ref (a 9), .ref (a 10), .ref (a 11), .ref (a 12), .ref (a 13), .ref (a 14), .ref (a 15), .int (nI n), .int (nI tn), .ref (a 18), .ref (a 19), .ref (a 20), .ref (a 21), .ref (a 22), .ref (a 23), .ref (a 24), .ref (a 25), .int (nI τ.1), .int (τ.2.1), .ref (a 28), .int (nI tc), .int (nI mm), .ref (a 31), .ref (a 32), .ref (a 33), .int (fu), .int (am), .int (pb)]))] (.int (aTold y (nI dn) (nI nw) (nI nj) (nI n) (nI tn) (nI tc) (nI mm))) := by
  refine ro_of (cc := cX11_told) (maxL := 2) (ret := (some .int)) (by decide) rfl (Nat.le_of_ble_eq_true rfl) ?_
  intro pr en ss mi below meth cd X hP hK ls hl
  obtain ⟨hx, hb, hml, hown, hts, hr, hlocks⟩ := id X
  have fl_100 := hts (.fieldLink RX11 100 "WordTablesModel" "drafted" "I") (by decide +kernel)
  have fl_126 := hts (.fieldLink RX11 126 "WordTablesModel" "lined" "I") (by decide +kernel)
  have fl_170 := hts (.fieldLink RX11 170 "WordTablesModel" "tokens" "I") (by decide +kernel)
  have fl_185 := hts (.fieldLink RX11 185 "WordTablesModel" "things" "I") (by decide +kernel)
  have fl_188 := hts (.fieldLink RX11 188 "WordTablesModel" "meanings" "I") (by decide +kernel)
  have fl_90 := hts (.fieldLink RX11 90 "WordTablesModel" "words" "I") (by decide +kernel)
  have fl_93 := hts (.fieldLink RX11 93 "WordTablesModel" "joins" "I") (by decide +kernel)
  have in_X11 : ∀ w ∈ wsX110, w ∈ wsX11_told := by decide +kernel
  have hl : lv_has ls 2 [(0, .ref m), (1, .int y)] := hl
  refine lv_iload_n hx hb dX11_told_0 rfl (lv_at hl 1 rfl) ?_
  refine lv_if_ne (tgt := 11) hx hb dX11_told_1 (by decide) (fun c_1 => ?_) (fun c_1 => ?_)
  · refine lv_iload_n hx hb dX11_told_11 rfl (lv_at hl 1 rfl) ?_
    refine lv_iconst (v := 1) hx hb dX11_told_12 (by decide) ?_
    refine lv_icmp_ne (tgt := 23) hx hb dX11_told_13 (by decide) (fun c_13 => ?_) (fun c_13 => ?_)
    · refine lv_iload_n hx hb dX11_told_23 rfl (lv_at hl 1 rfl) ?_
      refine lv_iconst (v := 2) hx hb dX11_told_24 (by decide) ?_
      refine lv_icmp_ne (tgt := 35) hx hb dX11_told_25 (by decide) (fun c_25 => ?_) (fun c_25 => ?_)
      · refine lv_iload_n hx hb dX11_told_35 rfl (lv_at hl 1 rfl) ?_
        refine lv_iconst (v := 3) hx hb dX11_told_36 (by decide) ?_
        refine lv_icmp_ne (tgt := 47) hx hb dX11_told_37 (by decide) (fun c_37 => ?_) (fun c_37 => ?_)
        · refine lv_iload_n hx hb dX11_told_47 rfl (lv_at hl 1 rfl) ?_
          refine lv_iconst (v := 4) hx hb dX11_told_48 (by decide) ?_
          refine lv_icmp_ne (tgt := 59) hx hb dX11_told_49 (by decide) (fun c_49 => ?_) (fun c_49 => ?_)
          · refine lv_iload_n hx hb dX11_told_59 rfl (lv_at hl 1 rfl) ?_
            refine lv_iconst (v := 5) hx hb dX11_told_60 (by decide) ?_
            refine lv_icmp_ne (tgt := 71) hx hb dX11_told_61 (by decide) (fun c_61 => ?_) (fun c_61 => ?_)
            · refine lv_iload_n hx hb dX11_told_71 rfl (lv_at hl 1 rfl) ?_
              refine lv_bipush (v := 6) hx hb dX11_told_72 (by decide) ?_
              refine lv_icmp_ne (tgt := 84) hx hb dX11_told_74 (by decide) (fun c_74 => ?_) (fun c_74 => ?_)
              · refine lv_bipush (v := -2) hx hb dX11_told_84 (by decide) ?_
                exact ro_iret X (by simp [aTold, c_1, c_13, c_25, c_37, c_49, c_61, c_74]) dX11_told_86
              · refine lv_aload_n hx hb dX11_told_77 rfl (lv_at hl 0 rfl) ?_
                refine va_get (D := D) (ci := 11) (C := RX11) (T := TX11) (N := 37) hx hb hts in_X11 hown hK hP 0 rfl rfl 30 (by decide) fl_188 (fun _ h9 => h9) rfl dX11_told_78 ?_
                refine lv_goto (tgt := 86) hx hb dX11_told_81 (by decide) ?_
                exact ro_iret X (by simp [aTold, c_1, c_13, c_25, c_37, c_49, c_61, c_74]) dX11_told_86
            · refine lv_aload_n hx hb dX11_told_64 rfl (lv_at hl 0 rfl) ?_
              refine va_get (D := D) (ci := 11) (C := RX11) (T := TX11) (N := 37) hx hb hts in_X11 hown hK hP 0 rfl rfl 29 (by decide) fl_185 (fun _ h9 => h9) rfl dX11_told_65 ?_
              refine lv_goto (tgt := 86) hx hb dX11_told_68 (by decide) ?_
              exact ro_iret X (by simp [aTold, c_1, c_13, c_25, c_37, c_49, c_61]) dX11_told_86
          · refine lv_aload_n hx hb dX11_told_52 rfl (lv_at hl 0 rfl) ?_
            refine va_get (D := D) (ci := 11) (C := RX11) (T := TX11) (N := 37) hx hb hts in_X11 hown hK hP 0 rfl rfl 17 (by decide) fl_170 (fun _ h9 => h9) rfl dX11_told_53 ?_
            refine lv_goto (tgt := 86) hx hb dX11_told_56 (by decide) ?_
            exact ro_iret X (by simp [aTold, c_1, c_13, c_25, c_37, c_49]) dX11_told_86
        · refine lv_aload_n hx hb dX11_told_40 rfl (lv_at hl 0 rfl) ?_
          refine va_get (D := D) (ci := 11) (C := RX11) (T := TX11) (N := 37) hx hb hts in_X11 hown hK hP 0 rfl rfl 16 (by decide) fl_126 (fun _ h9 => h9) rfl dX11_told_41 ?_
          refine lv_goto (tgt := 86) hx hb dX11_told_44 (by decide) ?_
          exact ro_iret X (by simp [aTold, c_1, c_13, c_25, c_37]) dX11_told_86
      · refine lv_aload_n hx hb dX11_told_28 rfl (lv_at hl 0 rfl) ?_
        refine va_get (D := D) (ci := 11) (C := RX11) (T := TX11) (N := 37) hx hb hts in_X11 hown hK hP 0 rfl rfl 5 (by decide) fl_93 (fun _ h9 => h9) rfl dX11_told_29 ?_
        refine lv_goto (tgt := 86) hx hb dX11_told_32 (by decide) ?_
        exact ro_iret X (by simp [aTold, c_1, c_13, c_25]) dX11_told_86
    · refine lv_aload_n hx hb dX11_told_16 rfl (lv_at hl 0 rfl) ?_
      refine va_get (D := D) (ci := 11) (C := RX11) (T := TX11) (N := 37) hx hb hts in_X11 hown hK hP 0 rfl rfl 4 (by decide) fl_90 (fun _ h9 => h9) rfl dX11_told_17 ?_
      refine lv_goto (tgt := 86) hx hb dX11_told_20 (by decide) ?_
      exact ro_iret X (by simp [aTold, c_1, c_13]) dX11_told_86
  · refine lv_aload_n hx hb dX11_told_4 rfl (lv_at hl 0 rfl) ?_
    refine va_get (D := D) (ci := 11) (C := RX11) (T := TX11) (N := 37) hx hb hts in_X11 hown hK hP 0 rfl rfl 3 (by decide) fl_100 (fun _ h9 => h9) rfl dX11_told_5 ?_
    refine lv_goto (tgt := 86) hx hb dX11_told_8 (by decide) ?_
    exact ro_iret X (by simp [aTold, c_1]) dX11_told_86


theorem sel_out5 {e : Int32} (h : inB e 0 5 = false) : ¬ e = 0 ∧ ¬ e = 1 ∧ ¬ e = 2 ∧ ¬ e = 3 ∧ ¬ e = 4 ∧ ¬ e = 5 := by
  refine ⟨?_, ?_, ?_, ?_, ?_, ?_⟩ <;> (intro q; subst q; exact absurd h (by decide))
theorem sel_out4 {e : Int32} (h : inB e 0 4 = false) : ¬ e = 0 ∧ ¬ e = 1 ∧ ¬ e = 2 ∧ ¬ e = 3 ∧ ¬ e = 4 := by
  refine ⟨?_, ?_, ?_, ?_, ?_⟩ <;> (intro q; subst q; exact absurd h (by decide))
theorem sel_5 {e : Int32} (h : inB e 0 5 = true) (h0 : ¬ e = 0) (h1 : ¬ e = 1) (h2 : ¬ e = 2) (h3 : ¬ e = 3) (h4 : ¬ e = 4) : e = 5 := by
  obtain ⟨j, -, hj, rfl⟩ := inB_of 0 5 h (by decide) (by decide)
  rcases (show j = 0 ∨ j = 1 ∨ j = 2 ∨ j = 3 ∨ j = 4 ∨ j = 5 by omega) with rfl | rfl | rfl | rfl | rfl | rfl
  · exact absurd rfl h0
  · exact absurd rfl h1
  · exact absurd rfl h2
  · exact absurd rfl h3
  · exact absurd rfl h4
  · rfl
theorem sel_4 {e : Int32} (h : inB e 0 4 = true) (h0 : ¬ e = 0) (h1 : ¬ e = 1) (h2 : ¬ e = 2) (h3 : ¬ e = 3) : e = 4 := by
  obtain ⟨j, -, hj, rfl⟩ := inB_of 0 4 h (by decide) (by decide)
  rcases (show j = 0 ∨ j = 1 ∨ j = 2 ∨ j = 3 ∨ j = 4 by omega) with rfl | rfl | rfl | rfl | rfl
  · exact absurd rfl h0
  · exact absurd rfl h1
  · exact absurd rfl h2
  · exact absurd rfl h3
  · rfl

set_option maxHeartbeats 1000000 in
set_option maxRecDepth 100000 in
theorem c_X11_about {l : Launch} {D : va_G} {cI cJ cW : ClassId} {m : Nat} {a : Nat → Nat} {ct dn nw nj n tn tc mm : Nat} {τ : TS} {fu am pb : Int32} {F : Nat → Nat → Int32} {y e : Int32} {wz : Nat → Nat → Int32} {wn : Nat → Nat} {wt : Nat → Nat → Int32} (hnw : nw ≤ 40) (hrw : RW F nw wz wn wt) : RO l yX11_about wsX11_about { frames := 2, cells := 0, slots := 0, locals := 43 } D (ty3 cI cJ cW) [.ref m, .int y, .int e] [(m, .inr (11, [.int (nI ct), .ref (a 1), .ref (a 2), .int (nI dn), .int (nI nw), .int (nI nj), .ref (a 6), .ref (a 7), .ref (a 8), .ref (a 9), .ref (a 10), .ref (a 11), .ref (a 12), .ref (a 13), .ref (a 14), .ref (a 15), .int (nI n), .int (nI tn), .ref (a 18), .ref (a 19), .ref (a 20), .ref (a 21), .ref (a 22), .ref (a 23), .ref (a 24), .ref (a 25), .int (nI τ.1), .int (τ.2.1), .ref (a 28), .int (nI tc), .int (nI mm), .ref (a 31), .ref (a 32), .ref (a 33), .int (fu), .int (am), .int (pb)])), ((a 7), .inl (cI, 48, .inl (F 7))), ((a 8), .inl (cI, 40, .inl (F 8))), ((a 9), .inl (cI, 40, .inl (F 9))), ((a 10), .inl (cI, 40, .inl (F 10))), ((a 11), .inl (cI, 40, .inl (F 11))), ((a 12), .inl (cI, 40, .inl (F 12)))] (.int (aAbout nw wz wn y e)) := by
  refine ro_of (cc := cX11_about) (maxL := 3) (ret := (some .int)) (by decide) rfl (Nat.le_of_ble_eq_true rfl) ?_
  intro pr en ss mi below meth cd X hP hK ls hl
  obtain ⟨hx, hb, hml, hown, hts, hr, hlocks⟩ := id X
  have fl_19 := hts (.fieldLink RX11 19 "WordTablesModel" "size" "[I") (by decide +kernel)
  have fl_22 := hts (.fieldLink RX11 22 "WordTablesModel" "language" "[I") (by decide +kernel)
  have fl_25 := hts (.fieldLink RX11 25 "WordTablesModel" "kinds" "[I") (by decide +kernel)
  have fl_28 := hts (.fieldLink RX11 28 "WordTablesModel" "value" "[I") (by decide +kernel)
  have fl_31 := hts (.fieldLink RX11 31 "WordTablesModel" "pluralOf" "[I") (by decide +kernel)
  have fl_34 := hts (.fieldLink RX11 34 "WordTablesModel" "refers" "[I") (by decide +kernel)
  have in_X11 : ∀ w ∈ wsX110, w ∈ wsX11_about := by decide +kernel
  have hl : lv_has ls 3 [(0, .ref m), (1, .int y), (2, .int e)] := hl
  refine lv_aload_n hx hb dX11_about_0 rfl (lv_at hl 0 rfl) ?_
  refine lv_iload_n hx hb dX11_about_1 rfl (lv_at hl 1 rfl) ?_
  refine ro_V (n := 1) X hK (c_X11_isWord hnw) gX11_about_X11_isWord rfl (by decide +kernel) ⟨rfl, rfl⟩ ⟨Nat.le_of_ble_eq_true rfl, Nat.le_of_ble_eq_true rfl⟩ (hP.sub [0] rfl) (va_recv hK hP (ci := 11) (q0 := 0) rfl rfl) rfl hl.1 rfl (Nat.le_of_ble_eq_true rfl) dX11_about_2 ⟨Nat.zero_le _, Nat.zero_le _⟩ ?_
  refine lv_if_eq (tgt := 17) hx hb dX11_about_5 (by decide) (fun c_5 => ?_) (fun c_5 => ?_)
  · replace c_5 := bI_0.mp c_5
    refine lv_bipush (v := -2) hx hb dX11_about_17 (by decide) ?_
    exact ro_iret X (by rw [aAbout, no_ix c_5]) dX11_about_19
  · replace c_5 := bI_n0.mp c_5
    obtain ⟨j, hj, rfl⟩ := is_ix c_5 (show nw < 2 ^ 31 by omega)
    refine lv_iload_n hx hb dX11_about_8 rfl (lv_at hl 2 rfl) ?_
    refine lv_iconst (v := 0) hx hb dX11_about_9 (by decide) ?_
    refine lv_iconst (v := 5) hx hb dX11_about_10 (by decide) ?_
    refine ro_S (n := 3) X hK (c_X11_in) gX11_about_X11_in rfl (by decide +kernel) ⟨rfl, rfl⟩ ⟨Nat.le_of_ble_eq_true rfl, Nat.le_of_ble_eq_true rfl⟩ (hP.sub [] rfl) rfl hl.1 rfl (Nat.le_of_ble_eq_true rfl) dX11_about_11 ⟨Nat.zero_le _, Nat.zero_le _⟩ ?_
    refine lv_if_ne (tgt := 20) hx hb dX11_about_14 (by decide) (fun c_14 => ?_) (fun c_14 => ?_)
    · replace c_14 := bI_n0.mp c_14
      refine lv_iload_n hx hb dX11_about_20 rfl (lv_at hl 2 rfl) ?_
      refine lv_if_ne (tgt := 33) hx hb dX11_about_21 (by decide) (fun c_21 => ?_) (fun c_21 => ?_)
      · refine lv_iload_n hx hb dX11_about_33 rfl (lv_at hl 2 rfl) ?_
        refine lv_iconst (v := 1) hx hb dX11_about_34 (by decide) ?_
        refine lv_icmp_ne (tgt := 47) hx hb dX11_about_35 (by decide) (fun c_35 => ?_) (fun c_35 => ?_)
        · refine lv_iload_n hx hb dX11_about_47 rfl (lv_at hl 2 rfl) ?_
          refine lv_iconst (v := 2) hx hb dX11_about_48 (by decide) ?_
          refine lv_icmp_ne (tgt := 61) hx hb dX11_about_49 (by decide) (fun c_49 => ?_) (fun c_49 => ?_)
          · refine lv_iload_n hx hb dX11_about_61 rfl (lv_at hl 2 rfl) ?_
            refine lv_iconst (v := 3) hx hb dX11_about_62 (by decide) ?_
            refine lv_icmp_ne (tgt := 75) hx hb dX11_about_63 (by decide) (fun c_63 => ?_) (fun c_63 => ?_)
            · refine lv_iload_n hx hb dX11_about_75 rfl (lv_at hl 2 rfl) ?_
              refine lv_iconst (v := 4) hx hb dX11_about_76 (by decide) ?_
              refine lv_icmp_ne (tgt := 89) hx hb dX11_about_77 (by decide) (fun c_77 => ?_) (fun c_77 => ?_)
              · have he5 : e = 5 := sel_5 c_14 c_21 c_35 c_49 c_63 c_77
                refine lv_aload_n hx hb dX11_about_89 rfl (lv_at hl 0 rfl) ?_
                refine va_get (D := D) (ci := 11) (C := RX11) (T := TX11) (N := 37) hx hb hts in_X11 hown hK hP 0 rfl rfl 12 (by decide) fl_34 (fun _ h9 => h9) rfl dX11_about_90 ?_
                refine lv_iload_n hx hb dX11_about_93 rfl (lv_at hl 1 rfl) ?_
                refine ald_n hx hb hK hP 6 0 rfl rfl (show j < 40 by omega) (by first | decide | omega) dX11_about_94 ?_
                exact ro_iret X (by first | (simp [aAbout, ixO_nI hj (show nw < 2 ^ 31 by omega), c_5, c_14, c_21, c_35, c_49, c_63, c_77]; done) | (rw [(hrw j hj).2.2.2.2.2.2.2.1, he5]; simp [aAbout, ixO_nI hj (show nw < 2 ^ 31 by omega)])) dX11_about_95
              · refine lv_aload_n hx hb dX11_about_80 rfl (lv_at hl 0 rfl) ?_
                refine va_get (D := D) (ci := 11) (C := RX11) (T := TX11) (N := 37) hx hb hts in_X11 hown hK hP 0 rfl rfl 7 (by decide) fl_19 (fun _ h9 => h9) rfl dX11_about_81 ?_
                refine lv_iload_n hx hb dX11_about_84 rfl (lv_at hl 1 rfl) ?_
                refine ald_n hx hb hK hP 1 0 rfl rfl (show j < 48 by omega) (by first | decide | omega) dX11_about_85 ?_
                refine topi_eq (hrw j hj).1 ?_
                refine lv_goto (tgt := 95) hx hb dX11_about_86 (by decide) ?_
                exact ro_iret X (by first | (simp [aAbout, ixO_nI hj (show nw < 2 ^ 31 by omega), c_5, c_14, c_21, c_35, c_49, c_63, c_77]; done) | (rw [(hrw j hj).2.2.2.2.2.2.2.1, he5]; simp [aAbout, ixO_nI hj (show nw < 2 ^ 31 by omega)])) dX11_about_95
            · refine lv_aload_n hx hb dX11_about_66 rfl (lv_at hl 0 rfl) ?_
              refine va_get (D := D) (ci := 11) (C := RX11) (T := TX11) (N := 37) hx hb hts in_X11 hown hK hP 0 rfl rfl 11 (by decide) fl_31 (fun _ h9 => h9) rfl dX11_about_67 ?_
              refine lv_iload_n hx hb dX11_about_70 rfl (lv_at hl 1 rfl) ?_
              refine ald_n hx hb hK hP 5 0 rfl rfl (show j < 40 by omega) (by first | decide | omega) dX11_about_71 ?_
              refine topi_eq (hrw j hj).2.2.2.2.2.2.1 ?_
              refine lv_goto (tgt := 95) hx hb dX11_about_72 (by decide) ?_
              exact ro_iret X (by first | (simp [aAbout, ixO_nI hj (show nw < 2 ^ 31 by omega), c_5, c_14, c_21, c_35, c_49, c_63]; done) | (rw [(hrw j hj).2.2.2.2.2.2.2.1, he5]; simp [aAbout, ixO_nI hj (show nw < 2 ^ 31 by omega)])) dX11_about_95
          · refine lv_aload_n hx hb dX11_about_52 rfl (lv_at hl 0 rfl) ?_
            refine va_get (D := D) (ci := 11) (C := RX11) (T := TX11) (N := 37) hx hb hts in_X11 hown hK hP 0 rfl rfl 10 (by decide) fl_28 (fun _ h9 => h9) rfl dX11_about_53 ?_
            refine lv_iload_n hx hb dX11_about_56 rfl (lv_at hl 1 rfl) ?_
            refine ald_n hx hb hK hP 4 0 rfl rfl (show j < 40 by omega) (by first | decide | omega) dX11_about_57 ?_
            refine topi_eq (hrw j hj).2.2.2.2.2.1 ?_
            refine lv_goto (tgt := 95) hx hb dX11_about_58 (by decide) ?_
            exact ro_iret X (by first | (simp [aAbout, ixO_nI hj (show nw < 2 ^ 31 by omega), c_5, c_14, c_21, c_35, c_49]; done) | (rw [(hrw j hj).2.2.2.2.2.2.2.1, he5]; simp [aAbout, ixO_nI hj (show nw < 2 ^ 31 by omega)])) dX11_about_95
        · refine lv_aload_n hx hb dX11_about_38 rfl (lv_at hl 0 rfl) ?_
          refine va_get (D := D) (ci := 11) (C := RX11) (T := TX11) (N := 37) hx hb hts in_X11 hown hK hP 0 rfl rfl 9 (by decide) fl_25 (fun _ h9 => h9) rfl dX11_about_39 ?_
          refine lv_iload_n hx hb dX11_about_42 rfl (lv_at hl 1 rfl) ?_
          refine ald_n hx hb hK hP 3 0 rfl rfl (show j < 40 by omega) (by first | decide | omega) dX11_about_43 ?_
          refine topi_eq (hrw j hj).2.2.2.2.1 ?_
          refine lv_goto (tgt := 95) hx hb dX11_about_44 (by decide) ?_
          exact ro_iret X (by first | (simp [aAbout, ixO_nI hj (show nw < 2 ^ 31 by omega), c_5, c_14, c_21, c_35]; done) | (rw [(hrw j hj).2.2.2.2.2.2.2.1, he5]; simp [aAbout, ixO_nI hj (show nw < 2 ^ 31 by omega)])) dX11_about_95
      · refine lv_aload_n hx hb dX11_about_24 rfl (lv_at hl 0 rfl) ?_
        refine va_get (D := D) (ci := 11) (C := RX11) (T := TX11) (N := 37) hx hb hts in_X11 hown hK hP 0 rfl rfl 8 (by decide) fl_22 (fun _ h9 => h9) rfl dX11_about_25 ?_
        refine lv_iload_n hx hb dX11_about_28 rfl (lv_at hl 1 rfl) ?_
        refine ald_n hx hb hK hP 2 0 rfl rfl (show j < 40 by omega) (by first | decide | omega) dX11_about_29 ?_
        refine topi_eq (hrw j hj).2.2.2.1 ?_
        refine lv_goto (tgt := 95) hx hb dX11_about_30 (by decide) ?_
        exact ro_iret X (by first | (simp [aAbout, ixO_nI hj (show nw < 2 ^ 31 by omega), c_5, c_14, c_21]; done) | (rw [(hrw j hj).2.2.2.2.2.2.2.1, he5]; simp [aAbout, ixO_nI hj (show nw < 2 ^ 31 by omega)])) dX11_about_95
    · replace c_14 := bI_0.mp c_14
      have ho := sel_out5 c_14
      refine lv_bipush (v := -2) hx hb dX11_about_17 (by decide) ?_
      exact ro_iret X (by simp [aAbout, ixO_nI hj (show nw < 2 ^ 31 by omega), ho]) dX11_about_19

set_option maxHeartbeats 1000000 in
set_option maxRecDepth 100000 in
theorem c_X11_equal {l : Launch} {D : va_G} {cI cJ cW : ClassId} {m : Nat} {a : Nat → Nat} {ct dn nw nj n tn tc mm : Nat} {τ : TS} {fu am pb : Int32} {F : Nat → Nat → Int32} {fo : Nat → Int32} {y e : Int32} {wz : Nat → Nat → Int32} {wn : Nat → Nat} {wt : Nat → Nat → Int32} (hct : ct < 2 ^ 30) (hnw : nw ≤ 40) (hrw : RW F nw wz wn wt) : RO l yX11_equal wsX11_equal { frames := 3, cells := 0, slots := 0, locals := 71 } D (ty3 cI cJ cW) [.ref m, .int y, .int e] [(m, .inr (11, [.int (nI ct), .ref (a 1), .ref (a 2), .int (nI dn), .int (nI nw), .int (nI nj), .ref (a 6), .ref (a 7), .ref (a 8), .ref (a 9), .ref (a 10), .ref (a 11), .ref (a 12), .ref (a 13), .ref (a 14), .ref (a 15), .int (nI n), .int (nI tn), .ref (a 18), .ref (a 19), .ref (a 20), .ref (a 21), .ref (a 22), .ref (a 23), .ref (a 24), .ref (a 25), .int (nI τ.1), .int (τ.2.1), .ref (a 28), .int (nI tc), .int (nI mm), .ref (a 31), .ref (a 32), .ref (a 33), .int (fu), .int (am), .int (pb)])), ((a 1), .inl (cI, 32, .inl fo)), ((a 6), .inl (cI, 960, .inl (F 6))), ((a 7), .inl (cI, 48, .inl (F 7)))] (.int (aEqual nw ct fo wn wt y e)) := by
  refine ro_of (cc := cX11_equal) (maxL := 3) (ret := (some .int)) (by decide) rfl (Nat.le_of_ble_eq_true rfl) ?_
  intro pr en ss mi below meth cd X hP hK ls hl
  obtain ⟨hx, hb, hml, hown, hts, hr, hlocks⟩ := id X
  have fl_16 := hts (.fieldLink RX11 16 "WordTablesModel" "letter" "[I") (by decide +kernel)
  have fl_19 := hts (.fieldLink RX11 19 "WordTablesModel" "size" "[I") (by decide +kernel)
  have in_X11 : ∀ w ∈ wsX110, w ∈ wsX11_equal := by decide +kernel
  have hl : lv_has ls 3 [(0, .ref m), (1, .int y), (2, .int e)] := hl
  refine lv_aload_n hx hb dX11_equal_0 rfl (lv_at hl 0 rfl) ?_
  refine lv_iload_n hx hb dX11_equal_1 rfl (lv_at hl 1 rfl) ?_
  refine ro_V (n := 1) X hK (c_X11_isWord hnw) gX11_equal_X11_isWord rfl (by decide +kernel) ⟨rfl, rfl⟩ ⟨Nat.le_of_ble_eq_true rfl, Nat.le_of_ble_eq_true rfl⟩ (hP.sub [0] rfl) (va_recv hK hP (ci := 11) (q0 := 0) rfl rfl) rfl hl.1 rfl (Nat.le_of_ble_eq_true rfl) dX11_equal_2 ⟨Nat.zero_le _, Nat.zero_le _⟩ ?_
  refine lv_if_eq (tgt := 16) hx hb dX11_equal_5 (by decide) (fun c_5 => ?_) (fun c_5 => ?_)
  · replace c_5 := bI_0.mp c_5
    refine lv_bipush (v := -2) hx hb dX11_equal_16 (by decide) ?_
    exact ro_iret X (by rw [aEqual, no_ix c_5]) dX11_equal_18
  · replace c_5 := bI_n0.mp c_5
    refine lv_aload_n hx hb dX11_equal_8 rfl (lv_at hl 0 rfl) ?_
    refine lv_iload_n hx hb dX11_equal_9 rfl (lv_at hl 2 rfl) ?_
    refine ro_V (n := 1) X hK (c_X11_isWord hnw) gX11_equal_X11_isWord rfl (by decide +kernel) ⟨rfl, rfl⟩ ⟨Nat.le_of_ble_eq_true rfl, Nat.le_of_ble_eq_true rfl⟩ (hP.sub [0] rfl) (va_recv hK hP (ci := 11) (q0 := 0) rfl rfl) rfl hl.1 rfl (Nat.le_of_ble_eq_true rfl) dX11_equal_10 ⟨Nat.zero_le _, Nat.zero_le _⟩ ?_
    refine lv_if_ne (tgt := 19) hx hb dX11_equal_13 (by decide) (fun c_13 => ?_) (fun c_13 => ?_)
    · replace c_13 := bI_n0.mp c_13
      obtain ⟨j, hj, rfl⟩ := is_ix c_5 (show nw < 2 ^ 31 by omega)
      obtain ⟨i, hi, rfl⟩ := is_ix c_13 (show nw < 2 ^ 31 by omega)
      have hsz := (hrw j hj).2.1
      refine lv_aload_n hx hb dX11_equal_19 rfl (lv_at hl 0 rfl) ?_
      refine lv_aload_n hx hb dX11_equal_20 rfl (lv_at hl 0 rfl) ?_
      refine va_get (D := D) (ci := 11) (C := RX11) (T := TX11) (N := 37) hx hb hts in_X11 hown hK hP 0 rfl rfl 6 (by decide) fl_16 (fun _ h9 => h9) rfl dX11_equal_21 ?_
      refine lv_bipush (v := 20) hx hb dX11_equal_24 (by decide) ?_
      refine lv_iload_n hx hb dX11_equal_26 rfl (lv_at hl 1 rfl) ?_
      refine lv_imul hx hb dX11_equal_27 ?_
      refine topi_eq (show (20 : Int32) * nI j = nI (20 * j) from by rw [show (20 : Int32) = nI 20 from rfl, pk_mul]) ?_
      refine lv_aload_n hx hb dX11_equal_28 rfl (lv_at hl 0 rfl) ?_
      refine va_get (D := D) (ci := 11) (C := RX11) (T := TX11) (N := 37) hx hb hts in_X11 hown hK hP 0 rfl rfl 7 (by decide) fl_19 (fun _ h9 => h9) rfl dX11_equal_29 ?_
      refine lv_iload_n hx hb dX11_equal_32 rfl (lv_at hl 1 rfl) ?_
      refine ald_n hx hb hK hP 3 0 rfl rfl (show j < 48 by omega) (by first | decide | omega) dX11_equal_33 ?_
      refine topi_eq (hrw j hj).1 ?_
      refine lv_iload_n hx hb dX11_equal_34 rfl (lv_at hl 2 rfl) ?_
      refine ro_V (n := 4) X hK (c_X11_isLike (q := wt i) (F := F) hct (by decide) (by omega) (by omega) (hrw i hi).1 (hrw i hi).2.1 (hrw i hi).2.2.1 (fun k hk => by rw [((hrw j hj).2.2.1 k hk).1]; exact ((hrw j hj).2.2.1 k hk).2)) gX11_equal_X11_isLike rfl (by decide +kernel) ⟨rfl, rfl⟩ ⟨Nat.le_of_ble_eq_true rfl, Nat.le_of_ble_eq_true rfl⟩ (hP.sub [0, 1, 2, 3, 2] rfl) (va_recv hK hP (ci := 11) (q0 := 0) rfl rfl) rfl hl.1 rfl (Nat.le_of_ble_eq_true rfl) dX11_equal_35 ⟨Nat.zero_le _, Nat.zero_le _⟩ ?_
      rw [likeB_c, likeB_cg (fun k hk => ((hrw j hj).2.2.1 k hk).1)]
      refine lv_if_eq (tgt := 45) hx hb dX11_equal_38 (by decide) (fun c_38 => ?_) (fun c_38 => ?_)
      · replace c_38 := bI_0.mp c_38
        refine lv_iconst (v := 0) hx hb dX11_equal_45 (by decide) ?_
        exact ro_iret X (by rw [aEqual, ixO_nI hj (by omega)]; simp only []; rw [ixO_nI hi (by omega)]; simp [bI, c_38]) dX11_equal_46
      · replace c_38 := bI_n0.mp c_38
        refine lv_iconst (v := 1) hx hb dX11_equal_41 (by decide) ?_
        refine lv_goto (tgt := 46) hx hb dX11_equal_42 (by decide) ?_
        exact ro_iret X (by rw [aEqual, ixO_nI hj (by omega)]; simp only []; rw [ixO_nI hi (by omega)]; simp [bI, c_38]) dX11_equal_46
    · replace c_13 := bI_0.mp c_13
      refine lv_bipush (v := -2) hx hb dX11_equal_16 (by decide) ?_
      exact ro_iret X (by obtain ⟨j, hj, rfl⟩ := is_ix c_5 (show nw < 2 ^ 31 by omega); rw [aEqual, ixO_nI hj (by omega)]; simp only []; rw [no_ix c_13]) dX11_equal_18

set_option maxHeartbeats 1000000 in
set_option maxRecDepth 100000 in
theorem c_X11_token {l : Launch} {D : va_G} {cI cJ cW : ClassId} {m : Nat} {a : Nat → Nat} {ct dn nw nj n tn tc mm : Nat} {τ : TS} {fu am pb : Int32} {F : Nat → Nat → Int32} {T : Nat → Nat → Int32} {xn : Nat} {y e : Int32} {wz : Nat → Nat → Int32} {wn : Nat → Nat} {wt : Nat → Nat → Int32} (htn : tn ≤ 24) (hnw : nw ≤ 40) (hrt : RT F T tn nw xn) (hrw : RW F nw wz wn wt) : RO l yX11_token wsX11_token { frames := 2, cells := 0, slots := 0, locals := 43 } D (ty3 cI cJ cW) [.ref m, .int y, .int e] [(m, .inr (11, [.int (nI ct), .ref (a 1), .ref (a 2), .int (nI dn), .int (nI nw), .int (nI nj), .ref (a 6), .ref (a 7), .ref (a 8), .ref (a 9), .ref (a 10), .ref (a 11), .ref (a 12), .ref (a 13), .ref (a 14), .ref (a 15), .int (nI n), .int (nI tn), .ref (a 18), .ref (a 19), .ref (a 20), .ref (a 21), .ref (a 22), .ref (a 23), .ref (a 24), .ref (a 25), .int (nI τ.1), .int (τ.2.1), .ref (a 28), .int (nI tc), .int (nI mm), .ref (a 31), .ref (a 32), .ref (a 33), .int (fu), .int (am), .int (pb)])), ((a 9), .inl (cI, 40, .inl (F 9))), ((a 18), .inl (cI, 24, .inl (F 18))), ((a 19), .inl (cI, 24, .inl (F 19))), ((a 20), .inl (cI, 24, .inl (F 20))), ((a 21), .inl (cI, 24, .inl (F 21)))] (.int (aToken tn nw T wz y e)) := by
  refine ro_of (cc := cX11_token) (maxL := 3) (ret := (some .int)) (by decide) rfl (Nat.le_of_ble_eq_true rfl) ?_
  intro pr en ss mi below meth cd X hP hK ls hl
  obtain ⟨hx, hb, hml, hown, hts, hr, hlocks⟩ := id X
  have fl_25 := hts (.fieldLink RX11 25 "WordTablesModel" "kinds" "[I") (by decide +kernel)
  have fl_46 := hts (.fieldLink RX11 46 "WordTablesModel" "sort" "[I") (by decide +kernel)
  have fl_49 := hts (.fieldLink RX11 49 "WordTablesModel" "place" "[I") (by decide +kernel)
  have fl_52 := hts (.fieldLink RX11 52 "WordTablesModel" "wide" "[I") (by decide +kernel)
  have fl_55 := hts (.fieldLink RX11 55 "WordTablesModel" "number" "[I") (by decide +kernel)
  have in_X11 : ∀ w ∈ wsX110, w ∈ wsX11_token := by decide +kernel
  have hl : lv_has ls 3 [(0, .ref m), (1, .int y), (2, .int e)] := hl
  refine lv_aload_n hx hb dX11_token_0 rfl (lv_at hl 0 rfl) ?_
  refine lv_iload_n hx hb dX11_token_1 rfl (lv_at hl 1 rfl) ?_
  refine ro_V (n := 1) X hK (c_X11_isToken htn) gX11_token_X11_isToken rfl (by decide +kernel) ⟨rfl, rfl⟩ ⟨Nat.le_of_ble_eq_true rfl, Nat.le_of_ble_eq_true rfl⟩ (hP.sub [0] rfl) (va_recv hK hP (ci := 11) (q0 := 0) rfl rfl) rfl hl.1 rfl (Nat.le_of_ble_eq_true rfl) dX11_token_2 ⟨Nat.zero_le _, Nat.zero_le _⟩ ?_
  refine lv_if_eq (tgt := 17) hx hb dX11_token_5 (by decide) (fun c_5 => ?_) (fun c_5 => ?_)
  · replace c_5 := bI_0.mp c_5
    refine lv_bipush (v := -2) hx hb dX11_token_17 (by decide) ?_
    exact ro_iret X (by rw [aToken, no_ix c_5]) dX11_token_19
  · replace c_5 := bI_n0.mp c_5
    obtain ⟨i, hi, rfl⟩ := is_ix c_5 (show tn < 2 ^ 31 by omega)
    refine lv_iload_n hx hb dX11_token_8 rfl (lv_at hl 2 rfl) ?_
    refine lv_iconst (v := 0) hx hb dX11_token_9 (by decide) ?_
    refine lv_iconst (v := 4) hx hb dX11_token_10 (by decide) ?_
    refine ro_S (n := 3) X hK (c_X11_in) gX11_token_X11_in rfl (by decide +kernel) ⟨rfl, rfl⟩ ⟨Nat.le_of_ble_eq_true rfl, Nat.le_of_ble_eq_true rfl⟩ (hP.sub [] rfl) rfl hl.1 rfl (Nat.le_of_ble_eq_true rfl) dX11_token_11 ⟨Nat.zero_le _, Nat.zero_le _⟩ ?_
    refine lv_if_ne (tgt := 20) hx hb dX11_token_14 (by decide) (fun c_14 => ?_) (fun c_14 => ?_)
    · replace c_14 := bI_n0.mp c_14
      refine lv_iload_n hx hb dX11_token_20 rfl (lv_at hl 2 rfl) ?_
      refine lv_if_ne (tgt := 33) hx hb dX11_token_21 (by decide) (fun c_21 => ?_) (fun c_21 => ?_)
      · refine lv_iload_n hx hb dX11_token_33 rfl (lv_at hl 2 rfl) ?_
        refine lv_iconst (v := 1) hx hb dX11_token_34 (by decide) ?_
        refine lv_icmp_ne (tgt := 47) hx hb dX11_token_35 (by decide) (fun c_35 => ?_) (fun c_35 => ?_)
        · refine lv_iload_n hx hb dX11_token_47 rfl (lv_at hl 2 rfl) ?_
          refine lv_iconst (v := 2) hx hb dX11_token_48 (by decide) ?_
          refine lv_icmp_ne (tgt := 61) hx hb dX11_token_49 (by decide) (fun c_49 => ?_) (fun c_49 => ?_)
          · refine lv_iload_n hx hb dX11_token_61 rfl (lv_at hl 2 rfl) ?_
            refine lv_iconst (v := 3) hx hb dX11_token_62 (by decide) ?_
            refine lv_icmp_ne (tgt := 75) hx hb dX11_token_63 (by decide) (fun c_63 => ?_) (fun c_63 => ?_)
            · have he4 : e = 4 := sel_4 c_14 c_21 c_35 c_49 c_63
              refine lv_aload_n hx hb dX11_token_75 rfl (lv_at hl 0 rfl) ?_
              refine va_get (D := D) (ci := 11) (C := RX11) (T := TX11) (N := 37) hx hb hts in_X11 hown hK hP 0 rfl rfl 18 (by decide) fl_46 (fun _ h9 => h9) rfl dX11_token_76 ?_
              refine lv_iload_n hx hb dX11_token_79 rfl (lv_at hl 1 rfl) ?_
              refine ald_n hx hb hK hP 2 0 rfl rfl (show i < 24 by omega) (by first | decide | omega) dX11_token_80 ?_
              refine topi_eq (hrt i hi).1 ?_
              refine lv_if_ne (tgt := 98) hx hb dX11_token_81 (by decide) (fun c_81 => ?_) (fun c_81 => ?_)
              · have etw := RT_n (nw := nw) c_81
                refine lv_iconst (v := 0) hx hb dX11_token_98 (by decide) ?_
                exact ro_iret X (by rw [aToken, ixO_nI hi (by omega), he4]; simp [etw]) dX11_token_99
              · obtain ⟨j, hj, e4, etw⟩ := RT_w hrt hi hnw c_81
                refine lv_aload_n hx hb dX11_token_84 rfl (lv_at hl 0 rfl) ?_
                refine va_get (D := D) (ci := 11) (C := RX11) (T := TX11) (N := 37) hx hb hts in_X11 hown hK hP 0 rfl rfl 9 (by decide) fl_25 (fun _ h9 => h9) rfl dX11_token_85 ?_
                refine lv_aload_n hx hb dX11_token_88 rfl (lv_at hl 0 rfl) ?_
                refine va_get (D := D) (ci := 11) (C := RX11) (T := TX11) (N := 37) hx hb hts in_X11 hown hK hP 0 rfl rfl 21 (by decide) fl_55 (fun _ h9 => h9) rfl dX11_token_89 ?_
                refine lv_iload_n hx hb dX11_token_92 rfl (lv_at hl 1 rfl) ?_
                refine ald_n hx hb hK hP 5 0 rfl rfl (show i < 24 by omega) (by first | decide | omega) dX11_token_93 ?_
                refine topi_eq ((hrt i hi).2.2.2.1.trans e4) ?_
                refine ald_n hx hb hK hP 1 0 rfl rfl (show j < 40 by omega) (by first | decide | omega) dX11_token_94 ?_
                refine topi_eq (hrw j hj).2.2.2.2.1 ?_
                refine lv_goto (tgt := 99) hx hb dX11_token_95 (by decide) ?_
                exact ro_iret X (by rw [aToken, ixO_nI hi (by omega), he4]; simp [etw]) dX11_token_99
            · refine lv_aload_n hx hb dX11_token_66 rfl (lv_at hl 0 rfl) ?_
              refine va_get (D := D) (ci := 11) (C := RX11) (T := TX11) (N := 37) hx hb hts in_X11 hown hK hP 0 rfl rfl 21 (by decide) fl_55 (fun _ h9 => h9) rfl dX11_token_67 ?_
              refine lv_iload_n hx hb dX11_token_70 rfl (lv_at hl 1 rfl) ?_
              refine ald_n hx hb hK hP 5 0 rfl rfl (show i < 24 by omega) (by first | decide | omega) dX11_token_71 ?_
              refine topi_eq (hrt i hi).2.2.2.1 ?_
              refine lv_goto (tgt := 99) hx hb dX11_token_72 (by decide) ?_
              exact ro_iret X (by simp [aToken, ixO_nI hi (show tn < 2 ^ 31 by omega), c_5, c_14, c_21, c_35, c_49, c_63]) dX11_token_99
          · refine lv_aload_n hx hb dX11_token_52 rfl (lv_at hl 0 rfl) ?_
            refine va_get (D := D) (ci := 11) (C := RX11) (T := TX11) (N := 37) hx hb hts in_X11 hown hK hP 0 rfl rfl 20 (by decide) fl_52 (fun _ h9 => h9) rfl dX11_token_53 ?_
            refine lv_iload_n hx hb dX11_token_56 rfl (lv_at hl 1 rfl) ?_
            refine ald_n hx hb hK hP 4 0 rfl rfl (show i < 24 by omega) (by first | decide | omega) dX11_token_57 ?_
            refine topi_eq (hrt i hi).2.2.1 ?_
            refine lv_goto (tgt := 99) hx hb dX11_token_58 (by decide) ?_
            exact ro_iret X (by simp [aToken, ixO_nI hi (show tn < 2 ^ 31 by omega), c_5, c_14, c_21, c_35, c_49]) dX11_token_99
        · refine lv_aload_n hx hb dX11_token_38 rfl (lv_at hl 0 rfl) ?_
          refine va_get (D := D) (ci := 11) (C := RX11) (T := TX11) (N := 37) hx hb hts in_X11 hown hK hP 0 rfl rfl 19 (by decide) fl_49 (fun _ h9 => h9) rfl dX11_token_39 ?_
          refine lv_iload_n hx hb dX11_token_42 rfl (lv_at hl 1 rfl) ?_
          refine ald_n hx hb hK hP 3 0 rfl rfl (show i < 24 by omega) (by first | decide | omega) dX11_token_43 ?_
          refine topi_eq (hrt i hi).2.1 ?_
          refine lv_goto (tgt := 99) hx hb dX11_token_44 (by decide) ?_
          exact ro_iret X (by simp [aToken, ixO_nI hi (show tn < 2 ^ 31 by omega), c_5, c_14, c_21, c_35]) dX11_token_99
      · refine lv_aload_n hx hb dX11_token_24 rfl (lv_at hl 0 rfl) ?_
        refine va_get (D := D) (ci := 11) (C := RX11) (T := TX11) (N := 37) hx hb hts in_X11 hown hK hP 0 rfl rfl 18 (by decide) fl_46 (fun _ h9 => h9) rfl dX11_token_25 ?_
        refine lv_iload_n hx hb dX11_token_28 rfl (lv_at hl 1 rfl) ?_
        refine ald_n hx hb hK hP 2 0 rfl rfl (show i < 24 by omega) (by first | decide | omega) dX11_token_29 ?_
        refine topi_eq (hrt i hi).1 ?_
        refine lv_goto (tgt := 99) hx hb dX11_token_30 (by decide) ?_
        exact ro_iret X (by simp [aToken, ixO_nI hi (show tn < 2 ^ 31 by omega), c_5, c_14, c_21]) dX11_token_99
    · replace c_14 := bI_0.mp c_14
      have ho := sel_out4 c_14
      refine lv_bipush (v := -2) hx hb dX11_token_17 (by decide) ?_
      exact ro_iret X (by simp [aToken, ixO_nI hi (show tn < 2 ^ 31 by omega), ho]) dX11_token_19

set_option maxHeartbeats 1000000 in
set_option maxRecDepth 100000 in
theorem c_X11_at {l : Launch} {D : va_G} {cI cJ cW : ClassId} {m : Nat} {a : Nat → Nat} {ct dn nw nj n tn tc mm : Nat} {τ : TS} {fu am pb : Int32} {F : Nat → Nat → Int32} {T : Nat → Nat → Int32} {X : Nat → Int32} {xn : Nat} {y e : Int32} (htn : tn ≤ 24) (hnw : nw ≤ 40) (hrt : RT F T tn nw xn) (hxn : xn ≤ 80) (hX : ∀ k, k < xn → F 28 k = X k) : RO l yX11_at wsX11_at { frames := 2, cells := 0, slots := 0, locals := 43 } D (ty3 cI cJ cW) [.ref m, .int y, .int e] [(m, .inr (11, [.int (nI ct), .ref (a 1), .ref (a 2), .int (nI dn), .int (nI nw), .int (nI nj), .ref (a 6), .ref (a 7), .ref (a 8), .ref (a 9), .ref (a 10), .ref (a 11), .ref (a 12), .ref (a 13), .ref (a 14), .ref (a 15), .int (nI n), .int (nI tn), .ref (a 18), .ref (a 19), .ref (a 20), .ref (a 21), .ref (a 22), .ref (a 23), .ref (a 24), .ref (a 25), .int (nI τ.1), .int (τ.2.1), .ref (a 28), .int (nI tc), .int (nI mm), .ref (a 31), .ref (a 32), .ref (a 33), .int (fu), .int (am), .int (pb)])), ((a 19), .inl (cI, 24, .inl (F 19))), ((a 20), .inl (cI, 24, .inl (F 20))), ((a 28), .inl (cI, 80, .inl (F 28)))] (.int (aAt tn xn T X y e)) := by
  refine ro_of (cc := cX11_at) (maxL := 3) (ret := (some .int)) (by decide) rfl (Nat.le_of_ble_eq_true rfl) ?_
  intro pr en ss mi below meth cd X hP hK ls hl
  obtain ⟨hx, hb, hml, hown, hts, hr, hlocks⟩ := id X
  have fl_49 := hts (.fieldLink RX11 49 "WordTablesModel" "place" "[I") (by decide +kernel)
  have fl_52 := hts (.fieldLink RX11 52 "WordTablesModel" "wide" "[I") (by decide +kernel)
  have fl_70 := hts (.fieldLink RX11 70 "WordTablesModel" "kept" "[I") (by decide +kernel)
  have in_X11 : ∀ w ∈ wsX110, w ∈ wsX11_at := by decide +kernel
  have hl : lv_has ls 3 [(0, .ref m), (1, .int y), (2, .int e)] := hl
  refine lv_aload_n hx hb dX11_at_0 rfl (lv_at hl 0 rfl) ?_
  refine lv_iload_n hx hb dX11_at_1 rfl (lv_at hl 1 rfl) ?_
  refine ro_V (n := 1) X hK (c_X11_isToken htn) gX11_at_X11_isToken rfl (by decide +kernel) ⟨rfl, rfl⟩ ⟨Nat.le_of_ble_eq_true rfl, Nat.le_of_ble_eq_true rfl⟩ (hP.sub [0] rfl) (va_recv hK hP (ci := 11) (q0 := 0) rfl rfl) rfl hl.1 rfl (Nat.le_of_ble_eq_true rfl) dX11_at_2 ⟨Nat.zero_le _, Nat.zero_le _⟩ ?_
  refine lv_if_eq (tgt := 40) hx hb dX11_at_5 (by decide) (fun c_5 => ?_) (fun c_5 => ?_)
  · replace c_5 := bI_0.mp c_5
    refine lv_bipush (v := -2) hx hb dX11_at_40 (by decide) ?_
    exact ro_iret X (by rw [aAt, no_ix c_5]) dX11_at_42
  · replace c_5 := bI_n0.mp c_5
    obtain ⟨i, hi, rfl⟩ := is_ix c_5 (show tn < 2 ^ 31 by omega)
    obtain ⟨p, w, e2, e3, hpw⟩ := (hrt i hi).2.2.2.2.2
    refine lv_iload_n hx hb dX11_at_8 rfl (lv_at hl 2 rfl) ?_
    refine lv_iconst (v := 0) hx hb dX11_at_9 (by decide) ?_
    refine lv_aload_n hx hb dX11_at_10 rfl (lv_at hl 0 rfl) ?_
    refine va_get (D := D) (ci := 11) (C := RX11) (T := TX11) (N := 37) hx hb hts in_X11 hown hK hP 0 rfl rfl 20 (by decide) fl_52 (fun _ h9 => h9) rfl dX11_at_11 ?_
    refine lv_iload_n hx hb dX11_at_14 rfl (lv_at hl 1 rfl) ?_
    refine ald_n hx hb hK hP 2 0 rfl rfl (show i < 24 by omega) (by first | decide | omega) dX11_at_15 ?_
    refine topi_eq ((hrt i hi).2.2.1.trans e3) ?_
    refine lv_iconst (v := 1) hx hb dX11_at_16 (by decide) ?_
    refine lv_isub hx hb dX11_at_17 ?_
    refine ro_S (n := 3) X hK (c_X11_in) gX11_at_X11_in rfl (by decide +kernel) ⟨rfl, rfl⟩ ⟨Nat.le_of_ble_eq_true rfl, Nat.le_of_ble_eq_true rfl⟩ (hP.sub [] rfl) rfl hl.1 rfl (Nat.le_of_ble_eq_true rfl) dX11_at_18 ⟨Nat.zero_le _, Nat.zero_le _⟩ ?_
    refine lv_if_eq (tgt := 40) hx hb dX11_at_21 (by decide) (fun c_21 => ?_) (fun c_21 => ?_)
    · replace c_21 := bI_0.mp c_21
      refine lv_bipush (v := -2) hx hb dX11_at_40 (by decide) ?_
      exact ro_iret X (by rw [isW (by omega)] at c_21; rw [aAt, ixO_nI hi (by omega)]; simp only []; rcases ixO_none (no_ix c_21) (show w < 2 ^ 31 by omega) with q | q; rw [if_pos q]; rw [e3, if_neg (Int32.not_lt.mpr q)]; split <;> rfl) dX11_at_42
    · replace c_21 := bI_n0.mp c_21
      rw [isW (by omega)] at c_21
      obtain ⟨j, hj, rfl⟩ := is_ix c_21 (show w < 2 ^ 31 by omega)
      refine lv_aload_n hx hb dX11_at_24 rfl (lv_at hl 0 rfl) ?_
      refine va_get (D := D) (ci := 11) (C := RX11) (T := TX11) (N := 37) hx hb hts in_X11 hown hK hP 0 rfl rfl 28 (by decide) fl_70 (fun _ h9 => h9) rfl dX11_at_25 ?_
      refine lv_aload_n hx hb dX11_at_28 rfl (lv_at hl 0 rfl) ?_
      refine va_get (D := D) (ci := 11) (C := RX11) (T := TX11) (N := 37) hx hb hts in_X11 hown hK hP 0 rfl rfl 19 (by decide) fl_49 (fun _ h9 => h9) rfl dX11_at_29 ?_
      refine lv_iload_n hx hb dX11_at_32 rfl (lv_at hl 1 rfl) ?_
      refine ald_n hx hb hK hP 1 0 rfl rfl (show i < 24 by omega) (by first | decide | omega) dX11_at_33 ?_
      refine topi_eq ((hrt i hi).2.1.trans e2) ?_
      refine lv_iload_n hx hb dX11_at_34 rfl (lv_at hl 2 rfl) ?_
      refine lv_iadd hx hb dX11_at_35 ?_
      refine topi_eq (nI_add p j) ?_
      refine ald_n hx hb hK hP 3 0 rfl rfl (show p + j < 80 by omega) (by first | decide | omega) dX11_at_36 ?_
      refine lv_goto (tgt := 42) hx hb dX11_at_37 (by decide) ?_
      exact ro_iret X (by rw [aAt, ixO_nI hi (by omega)]; simp only []; rw [if_neg (nI_pos (by omega)), e3, if_pos (nI_lt hj (by omega)), e2, rowAt_in hxn hpw hj, hX _ (by omega)]) dX11_at_42

set_option maxHeartbeats 1000000 in
set_option maxRecDepth 100000 in
theorem c_X11_thing {l : Launch} {D : va_G} {cI cJ cW : ClassId} {sz : Nat} {m : Nat} {a : Nat → Nat} {ct dn nw nj n tn tc mm : Nat} {τ : TS} {fu am pb : Int32} (htc : tc ≤ 12) : MU l yX11_thing wsX11_thing { frames := 0, cells := 0, slots := 0, locals := 0 } D (ty3 cI cJ cW) [.ref m] [(m, .inr (11, [.int (nI ct), .ref (a 1), .ref (a 2), .int (nI dn), .int (nI nw), .int (nI nj), .ref (a 6), .ref (a 7), .ref (a 8), .ref (a 9), .ref (a 10), .ref (a 11), .ref (a 12), .ref (a 13), .ref (a 14), .ref (a 15), .int (nI n), .int (nI tn), .ref (a 18), .ref (a 19), .ref (a 20), .ref (a 21), .ref (a 22), .ref (a 23), .ref (a 24), .ref (a 25), .int (nI τ.1), .int (τ.2.1), .ref (a 28), .int (nI tc), .int (nI mm), .ref (a 31), .ref (a 32), .ref (a 33), .int (fu), .int (am), .int (pb)]))] sz (some (.int (aThing tc))) [(m, .inr (11, [.int (nI ct), .ref (a 1), .ref (a 2), .int (nI dn), .int (nI nw), .int (nI nj), .ref (a 6), .ref (a 7), .ref (a 8), .ref (a 9), .ref (a 10), .ref (a 11), .ref (a 12), .ref (a 13), .ref (a 14), .ref (a 15), .int (nI n), .int (nI tn), .ref (a 18), .ref (a 19), .ref (a 20), .ref (a 21), .ref (a 22), .ref (a 23), .ref (a 24), .ref (a 25), .int (nI τ.1), .int (τ.2.1), .ref (a 28), .int (nI (if tc < 12 then tc + 1 else tc)), .int (nI mm), .ref (a 31), .ref (a 32), .ref (a 33), .int (fu), .int (am), .int (pb)]))] := by
  refine mu_of (cc := cX11_thing) (maxL := 1) (ret := (some .int)) (by decide) rfl (Nat.le_of_ble_eq_true rfl) ?_
  intro pr en ss mi below meth cd X hK A hA hP hD hS ls hl
  obtain ⟨hx, hb, hml, hown, hts, hr, hlocks⟩ := id X
  have fl_185 := hts (.fieldLink RX11 185 "WordTablesModel" "things" "I") (by decide +kernel)
  have in_X11 : ∀ w ∈ wsX110, w ∈ wsX11_thing := by decide +kernel
  have hl : lv_has ls 1 [(0, .ref m)] := hl
  refine lv_aload_n hx hb dX11_thing_0 rfl (lv_at hl 0 rfl) ?_
  refine va_get (D := D) (ci := 11) (C := RX11) (T := TX11) (N := 37) hx hb hts in_X11 hown hK hP 0 rfl rfl 29 (by decide) fl_185 (fun _ h9 => h9) rfl dX11_thing_1 ?_
  refine lv_bipush (v := 12) hx hb dX11_thing_4 (by decide) ?_
  refine lv_icmp_ne (tgt := 12) hx hb dX11_thing_6 (by decide) (fun c_6 => ?_) (fun c_6 => ?_)
  · have h12 : tc < 12 := by rcases Nat.lt_or_ge tc 12 with q | q; exact q; exact absurd (show nI tc = 12 by rw [show tc = 12 by omega]; rfl) c_6
    refine lv_aload_n hx hb dX11_thing_12 rfl (lv_at hl 0 rfl) ?_
    refine lv_dup hx hb dX11_thing_13 rfl ?_
    refine va_get (D := D) (ci := 11) (C := RX11) (T := TX11) (N := 37) hx hb hts in_X11 hown hK hP 0 rfl rfl 29 (by decide) fl_185 (fun _ h9 => h9) rfl dX11_thing_14 ?_
    refine lv_iconst (v := 1) hx hb dX11_thing_17 (by decide) ?_
    refine lv_iadd hx hb dX11_thing_18 ?_
    refine topi_eq (nI_1 tc) ?_
    refine va_put (D := D) (ci := 11) (ty := .int) (C := RX11) (T := TX11) (N := 37) hx hb hts in_X11 tyX11 tyX11_ok nmX11 hown hK hP hD hS 0 rfl rfl 29 (by decide) fl_185 (fun _ h9 => h9) rfl (by decide +kernel) rfl rfl (Nat.le_of_ble_eq_true rfl) dX11_thing_19 (fun H locs hP hD hS => ?_)
    have hP : va_P D vwCl [(m, .inr (11, [_, .ref (a 1), .ref (a 2), _, _, _, .ref (a 6), .ref (a 7), .ref (a 8), .ref (a 9), .ref (a 10), .ref (a 11), .ref (a 12), .ref (a 13), .ref (a 14), .ref (a 15), _, _, .ref (a 18), .ref (a 19), .ref (a 20), .ref (a 21), .ref (a 22), .ref (a 23), .ref (a 24), .ref (a 25), _, _, .ref (a 28), _, _, .ref (a 31), .ref (a 32), .ref (a 33), _, _, _]))] H := hP
    have hD : va_D A [(m, .inr (11, [_, .ref (a 1), .ref (a 2), _, _, _, .ref (a 6), .ref (a 7), .ref (a 8), .ref (a 9), .ref (a 10), .ref (a 11), .ref (a 12), .ref (a 13), .ref (a 14), .ref (a 15), _, _, .ref (a 18), .ref (a 19), .ref (a 20), .ref (a 21), .ref (a 22), .ref (a 23), .ref (a 24), .ref (a 25), _, _, .ref (a 28), _, _, .ref (a 31), .ref (a 32), .ref (a 33), _, _, _]))] := hD
    refine lv_aload_n hx hb dX11_thing_22 rfl (lv_at hl 0 rfl) ?_
    refine va_get (D := D) (ci := 11) (C := RX11) (T := TX11) (N := 37) hx hb hts in_X11 hown hK hP 0 rfl rfl 29 (by decide) fl_185 (fun _ h9 => h9) rfl dX11_thing_23 ?_
    refine lv_iconst (v := 1) hx hb dX11_thing_26 (by decide) ?_
    refine lv_isub hx hb dX11_thing_27 ?_
    exact mu_iret X hP hS (by rw [aThing, if_pos h12]; exact pk_sub (a := tc + 1) (b := 1) (by omega)) (by simp [h12]) dX11_thing_28
  · have h12 : ¬ tc < 12 := by have := (nI_eq (a := tc) (b := 12) (by omega) (by decide)).mp c_6; omega
    refine lv_bipush (v := -5) hx hb dX11_thing_9 (by decide) ?_
    exact mu_iret X hP hS (by simp [aThing, h12]) (by simp [h12]) dX11_thing_11

theorem has_ix {tc : Nat} {y : Int32} (h : tc ≤ 12) : hasT (nI tc) y = (ixO tc y).isSome := by
  rcases pk_ix y (n := tc) (by omega) with q | q | ⟨j, hj, rfl⟩
  · rw [ixO_out (Or.inl q)]; simp [hasT, q]
  · rw [ixO_out (Or.inr q)]; simp [hasT, q]
  · rw [ixO_nI hj (by omega)]; simp [hasT, nI_pos (show j < 2 ^ 31 by omega), nI_ge hj (show tc < 2 ^ 31 by omega)]

set_option maxHeartbeats 1000000 in
set_option maxRecDepth 100000 in
theorem c_X11_means {l : Launch} {D : va_G} {cI cJ cW : ClassId} {sz : Nat} {m : Nat} {a : Nat → Nat} {ct dn nw nj n tn tc mm : Nat} {τ : TS} {fu am pb : Int32} {mt mw mf : Nat → Int32} {y e r : Int32} (hnw : nw ≤ 40) (htc : tc ≤ 12) (hmm : mm ≤ 60) : MU l yX11_means wsX11_means { frames := 2, cells := 0, slots := 0, locals := 43 } D (ty3 cI cJ cW) [.ref m, .int y, .int e, .int r] [(m, .inr (11, [.int (nI ct), .ref (a 1), .ref (a 2), .int (nI dn), .int (nI nw), .int (nI nj), .ref (a 6), .ref (a 7), .ref (a 8), .ref (a 9), .ref (a 10), .ref (a 11), .ref (a 12), .ref (a 13), .ref (a 14), .ref (a 15), .int (nI n), .int (nI tn), .ref (a 18), .ref (a 19), .ref (a 20), .ref (a 21), .ref (a 22), .ref (a 23), .ref (a 24), .ref (a 25), .int (nI τ.1), .int (τ.2.1), .ref (a 28), .int (nI tc), .int (nI mm), .ref (a 31), .ref (a 32), .ref (a 33), .int (fu), .int (am), .int (pb)])), ((a 31), .inl (cI, 60, .inl mt)), ((a 32), .inl (cI, 60, .inl mw)), ((a 33), .inl (cI, 60, .inl mf))] sz (some (.int (aMeans tc nw mm y e r))) [(m, .inr (11, [.int (nI ct), .ref (a 1), .ref (a 2), .int (nI dn), .int (nI nw), .int (nI nj), .ref (a 6), .ref (a 7), .ref (a 8), .ref (a 9), .ref (a 10), .ref (a 11), .ref (a 12), .ref (a 13), .ref (a 14), .ref (a 15), .int (nI n), .int (nI tn), .ref (a 18), .ref (a 19), .ref (a 20), .ref (a 21), .ref (a 22), .ref (a 23), .ref (a 24), .ref (a 25), .int (nI τ.1), .int (τ.2.1), .ref (a 28), .int (nI tc), .int (nI (if meOk tc nw y e r = true ∧ mm < 60 then mm + 1 else mm)), .ref (a 31), .ref (a 32), .ref (a 33), .int (fu), .int (am), .int (pb)])), ((a 31), .inl (cI, 60, .inl (if meOk tc nw y e r = true ∧ mm < 60 then upd mt mm y else mt))), ((a 32), .inl (cI, 60, .inl (if meOk tc nw y e r = true ∧ mm < 60 then upd mw mm e else mw))), ((a 33), .inl (cI, 60, .inl (if meOk tc nw y e r = true ∧ mm < 60 then upd mf mm r else mf)))] := by
  refine mu_of (cc := cX11_means) (maxL := 4) (ret := (some .int)) (by decide) rfl (Nat.le_of_ble_eq_true rfl) ?_
  intro pr en ss mi below meth cd X hK A hA hP hD hS ls hl
  obtain ⟨hx, hb, hml, hown, hts, hr, hlocks⟩ := id X
  have fl_185 := hts (.fieldLink RX11 185 "WordTablesModel" "things" "I") (by decide +kernel)
  have fl_188 := hts (.fieldLink RX11 188 "WordTablesModel" "meanings" "I") (by decide +kernel)
  have fl_73 := hts (.fieldLink RX11 73 "WordTablesModel" "meaningThing" "[I") (by decide +kernel)
  have fl_76 := hts (.fieldLink RX11 76 "WordTablesModel" "meaningWord" "[I") (by decide +kernel)
  have fl_79 := hts (.fieldLink RX11 79 "WordTablesModel" "meaningFlag" "[I") (by decide +kernel)
  have in_X11 : ∀ w ∈ wsX110, w ∈ wsX11_means := by decide +kernel
  have hl : lv_has ls 4 [(0, .ref m), (1, .int y), (2, .int e), (3, .int r)] := hl
  refine lv_iload_n hx hb dX11_means_0 rfl (lv_at hl 1 rfl) ?_
  refine lv_iconst (v := 0) hx hb dX11_means_1 (by decide) ?_
  refine lv_aload_n hx hb dX11_means_2 rfl (lv_at hl 0 rfl) ?_
  refine va_get (D := D) (ci := 11) (C := RX11) (T := TX11) (N := 37) hx hb hts in_X11 hown hK hP 0 rfl rfl 29 (by decide) fl_185 (fun _ h9 => h9) rfl dX11_means_3 ?_
  refine lv_iconst (v := 1) hx hb dX11_means_6 (by decide) ?_
  refine lv_isub hx hb dX11_means_7 ?_
  refine ro_S (n := 3) X hK (c_X11_in) gX11_means_X11_in rfl (by decide +kernel) ⟨rfl, rfl⟩ ⟨Nat.le_of_ble_eq_true rfl, Nat.le_of_ble_eq_true rfl⟩ (hP.sub [] rfl) rfl hl.1 rfl (Nat.le_of_ble_eq_true rfl) dX11_means_8 ⟨Nat.zero_le _, Nat.zero_le _⟩ ?_
  refine lv_if_eq (tgt := 22) hx hb dX11_means_11 (by decide) (fun c_11 => ?_) (fun c_11 => ?_)
  · replace c_11 := bI_0.mp c_11
    have h22 : (hasT (nI tc) y && (ixO nw e).isSome) = false := by first | (rw [has_ix htc, ← isW (show tc < 2 ^ 30 by omega), c_11]; rfl) | (rw [c_19]; simp)
    refine lv_bipush (v := -2) hx hb dX11_means_22 (by decide) ?_
    exact mu_iret X hP hS (by simp [aMeans, h22]) (by simp [meOk, h22]) dX11_means_24
  · replace c_11 := bI_n0.mp c_11
    have h8 : hasT (nI tc) y = true := by rw [has_ix htc, ← isW (by omega)]; exact c_11
    refine lv_aload_n hx hb dX11_means_14 rfl (lv_at hl 0 rfl) ?_
    refine lv_iload_n hx hb dX11_means_15 rfl (lv_at hl 2 rfl) ?_
    refine ro_V (n := 1) X hK (c_X11_isWord hnw) gX11_means_X11_isWord rfl (by decide +kernel) ⟨rfl, rfl⟩ ⟨Nat.le_of_ble_eq_true rfl, Nat.le_of_ble_eq_true rfl⟩ (hP.sub [0] rfl) (va_recv hK hP (ci := 11) (q0 := 0) rfl rfl) rfl hl.1 rfl (Nat.le_of_ble_eq_true rfl) dX11_means_16 ⟨Nat.zero_le _, Nat.zero_le _⟩ ?_
    refine lv_if_ne (tgt := 25) hx hb dX11_means_19 (by decide) (fun c_19 => ?_) (fun c_19 => ?_)
    · replace c_19 := bI_n0.mp c_19
      refine lv_iload_n hx hb dX11_means_25 rfl (lv_at hl 3 rfl) ?_
      refine lv_iconst (v := -1) hx hb dX11_means_26 (by decide) ?_
      refine lv_bipush (v := 7) hx hb dX11_means_27 (by decide) ?_
      refine ro_S (n := 3) X hK (c_X11_in) gX11_means_X11_in rfl (by decide +kernel) ⟨rfl, rfl⟩ ⟨Nat.le_of_ble_eq_true rfl, Nat.le_of_ble_eq_true rfl⟩ (hP.sub [] rfl) rfl hl.1 rfl (Nat.le_of_ble_eq_true rfl) dX11_means_29 ⟨Nat.zero_le _, Nat.zero_le _⟩ ?_
      refine lv_if_ne (tgt := 38) hx hb dX11_means_32 (by decide) (fun c_32 => ?_) (fun c_32 => ?_)
      · replace c_32 := bI_n0.mp c_32
        have h40 : (decide (r = -1) || isFl r) = true := by rw [← inFm]; exact c_32
        have hok : meOk tc nw y e r = true := by simp only [meOk, h8, c_19, h40, Bool.and_self]
        refine lv_aload_n hx hb dX11_means_38 rfl (lv_at hl 0 rfl) ?_
        refine va_get (D := D) (ci := 11) (C := RX11) (T := TX11) (N := 37) hx hb hts in_X11 hown hK hP 0 rfl rfl 30 (by decide) fl_188 (fun _ h9 => h9) rfl dX11_means_39 ?_
        refine lv_bipush (v := 60) hx hb dX11_means_42 (by decide) ?_
        refine lv_icmp_ne (tgt := 50) hx hb dX11_means_44 (by decide) (fun c_44 => ?_) (fun c_44 => ?_)
        · have h60 : mm < 60 := by rcases Nat.lt_or_ge mm 60 with q | q; exact q; exact absurd (show nI mm = 60 by rw [show mm = 60 by omega]; rfl) c_44
          refine lv_aload_n hx hb dX11_means_50 rfl (lv_at hl 0 rfl) ?_
          refine va_get (D := D) (ci := 11) (C := RX11) (T := TX11) (N := 37) hx hb hts in_X11 hown hK hP 0 rfl rfl 31 (by decide) fl_73 (fun _ h9 => h9) rfl dX11_means_51 ?_
          refine lv_aload_n hx hb dX11_means_54 rfl (lv_at hl 0 rfl) ?_
          refine va_get (D := D) (ci := 11) (C := RX11) (T := TX11) (N := 37) hx hb hts in_X11 hown hK hP 0 rfl rfl 30 (by decide) fl_188 (fun _ h9 => h9) rfl dX11_means_55 ?_
          refine lv_iload_n hx hb dX11_means_58 rfl (lv_at hl 1 rfl) ?_
          refine ast_n hx hb hK hP hD hS 1 0 rfl rfl h60 (by decide) dX11_means_59 (fun H locs hP hD hS => ?_)
          have hP : va_P D vwCl [(m, .inr (11, [_, .ref (a 1), .ref (a 2), _, _, _, .ref (a 6), .ref (a 7), .ref (a 8), .ref (a 9), .ref (a 10), .ref (a 11), .ref (a 12), .ref (a 13), .ref (a 14), .ref (a 15), _, _, .ref (a 18), .ref (a 19), .ref (a 20), .ref (a 21), .ref (a 22), .ref (a 23), .ref (a 24), .ref (a 25), _, _, .ref (a 28), _, _, .ref (a 31), .ref (a 32), .ref (a 33), _, _, _])), ((a 31), .inl (cI, 60, .inl _)), ((a 32), .inl (cI, 60, .inl _)), ((a 33), .inl (cI, 60, .inl _))] H := hP
          have hD : va_D A [(m, .inr (11, [_, .ref (a 1), .ref (a 2), _, _, _, .ref (a 6), .ref (a 7), .ref (a 8), .ref (a 9), .ref (a 10), .ref (a 11), .ref (a 12), .ref (a 13), .ref (a 14), .ref (a 15), _, _, .ref (a 18), .ref (a 19), .ref (a 20), .ref (a 21), .ref (a 22), .ref (a 23), .ref (a 24), .ref (a 25), _, _, .ref (a 28), _, _, .ref (a 31), .ref (a 32), .ref (a 33), _, _, _])), ((a 31), .inl (cI, 60, .inl _)), ((a 32), .inl (cI, 60, .inl _)), ((a 33), .inl (cI, 60, .inl _))] := hD
          refine lv_aload_n hx hb dX11_means_60 rfl (lv_at hl 0 rfl) ?_
          refine va_get (D := D) (ci := 11) (C := RX11) (T := TX11) (N := 37) hx hb hts in_X11 hown hK hP 0 rfl rfl 32 (by decide) fl_76 (fun _ h9 => h9) rfl dX11_means_61 ?_
          refine lv_aload_n hx hb dX11_means_64 rfl (lv_at hl 0 rfl) ?_
          refine va_get (D := D) (ci := 11) (C := RX11) (T := TX11) (N := 37) hx hb hts in_X11 hown hK hP 0 rfl rfl 30 (by decide) fl_188 (fun _ h9 => h9) rfl dX11_means_65 ?_
          refine lv_iload_n hx hb dX11_means_68 rfl (lv_at hl 2 rfl) ?_
          refine ast_n hx hb hK hP hD hS 2 0 rfl rfl h60 (by decide) dX11_means_69 (fun H locs hP hD hS => ?_)
          have hP : va_P D vwCl [(m, .inr (11, [_, .ref (a 1), .ref (a 2), _, _, _, .ref (a 6), .ref (a 7), .ref (a 8), .ref (a 9), .ref (a 10), .ref (a 11), .ref (a 12), .ref (a 13), .ref (a 14), .ref (a 15), _, _, .ref (a 18), .ref (a 19), .ref (a 20), .ref (a 21), .ref (a 22), .ref (a 23), .ref (a 24), .ref (a 25), _, _, .ref (a 28), _, _, .ref (a 31), .ref (a 32), .ref (a 33), _, _, _])), ((a 31), .inl (cI, 60, .inl _)), ((a 32), .inl (cI, 60, .inl _)), ((a 33), .inl (cI, 60, .inl _))] H := hP
          have hD : va_D A [(m, .inr (11, [_, .ref (a 1), .ref (a 2), _, _, _, .ref (a 6), .ref (a 7), .ref (a 8), .ref (a 9), .ref (a 10), .ref (a 11), .ref (a 12), .ref (a 13), .ref (a 14), .ref (a 15), _, _, .ref (a 18), .ref (a 19), .ref (a 20), .ref (a 21), .ref (a 22), .ref (a 23), .ref (a 24), .ref (a 25), _, _, .ref (a 28), _, _, .ref (a 31), .ref (a 32), .ref (a 33), _, _, _])), ((a 31), .inl (cI, 60, .inl _)), ((a 32), .inl (cI, 60, .inl _)), ((a 33), .inl (cI, 60, .inl _))] := hD
          refine lv_aload_n hx hb dX11_means_70 rfl (lv_at hl 0 rfl) ?_
          refine va_get (D := D) (ci := 11) (C := RX11) (T := TX11) (N := 37) hx hb hts in_X11 hown hK hP 0 rfl rfl 33 (by decide) fl_79 (fun _ h9 => h9) rfl dX11_means_71 ?_
          refine lv_aload_n hx hb dX11_means_74 rfl (lv_at hl 0 rfl) ?_
          refine va_get (D := D) (ci := 11) (C := RX11) (T := TX11) (N := 37) hx hb hts in_X11 hown hK hP 0 rfl rfl 30 (by decide) fl_188 (fun _ h9 => h9) rfl dX11_means_75 ?_
          refine lv_iload_n hx hb dX11_means_78 rfl (lv_at hl 3 rfl) ?_
          refine ast_n hx hb hK hP hD hS 3 0 rfl rfl h60 (by decide) dX11_means_79 (fun H locs hP hD hS => ?_)
          have hP : va_P D vwCl [(m, .inr (11, [_, .ref (a 1), .ref (a 2), _, _, _, .ref (a 6), .ref (a 7), .ref (a 8), .ref (a 9), .ref (a 10), .ref (a 11), .ref (a 12), .ref (a 13), .ref (a 14), .ref (a 15), _, _, .ref (a 18), .ref (a 19), .ref (a 20), .ref (a 21), .ref (a 22), .ref (a 23), .ref (a 24), .ref (a 25), _, _, .ref (a 28), _, _, .ref (a 31), .ref (a 32), .ref (a 33), _, _, _])), ((a 31), .inl (cI, 60, .inl _)), ((a 32), .inl (cI, 60, .inl _)), ((a 33), .inl (cI, 60, .inl _))] H := hP
          have hD : va_D A [(m, .inr (11, [_, .ref (a 1), .ref (a 2), _, _, _, .ref (a 6), .ref (a 7), .ref (a 8), .ref (a 9), .ref (a 10), .ref (a 11), .ref (a 12), .ref (a 13), .ref (a 14), .ref (a 15), _, _, .ref (a 18), .ref (a 19), .ref (a 20), .ref (a 21), .ref (a 22), .ref (a 23), .ref (a 24), .ref (a 25), _, _, .ref (a 28), _, _, .ref (a 31), .ref (a 32), .ref (a 33), _, _, _])), ((a 31), .inl (cI, 60, .inl _)), ((a 32), .inl (cI, 60, .inl _)), ((a 33), .inl (cI, 60, .inl _))] := hD
          refine lv_aload_n hx hb dX11_means_80 rfl (lv_at hl 0 rfl) ?_
          refine lv_dup hx hb dX11_means_81 rfl ?_
          refine va_get (D := D) (ci := 11) (C := RX11) (T := TX11) (N := 37) hx hb hts in_X11 hown hK hP 0 rfl rfl 30 (by decide) fl_188 (fun _ h9 => h9) rfl dX11_means_82 ?_
          refine lv_iconst (v := 1) hx hb dX11_means_85 (by decide) ?_
          refine lv_iadd hx hb dX11_means_86 ?_
          refine topi_eq (nI_1 mm) ?_
          refine va_put (D := D) (ci := 11) (ty := .int) (C := RX11) (T := TX11) (N := 37) hx hb hts in_X11 tyX11 tyX11_ok nmX11 hown hK hP hD hS 0 rfl rfl 30 (by decide) fl_188 (fun _ h9 => h9) rfl (by decide +kernel) rfl rfl (Nat.le_of_ble_eq_true rfl) dX11_means_87 (fun H locs hP hD hS => ?_)
          have hP : va_P D vwCl [(m, .inr (11, [_, .ref (a 1), .ref (a 2), _, _, _, .ref (a 6), .ref (a 7), .ref (a 8), .ref (a 9), .ref (a 10), .ref (a 11), .ref (a 12), .ref (a 13), .ref (a 14), .ref (a 15), _, _, .ref (a 18), .ref (a 19), .ref (a 20), .ref (a 21), .ref (a 22), .ref (a 23), .ref (a 24), .ref (a 25), _, _, .ref (a 28), _, _, .ref (a 31), .ref (a 32), .ref (a 33), _, _, _])), ((a 31), .inl (cI, 60, .inl _)), ((a 32), .inl (cI, 60, .inl _)), ((a 33), .inl (cI, 60, .inl _))] H := hP
          have hD : va_D A [(m, .inr (11, [_, .ref (a 1), .ref (a 2), _, _, _, .ref (a 6), .ref (a 7), .ref (a 8), .ref (a 9), .ref (a 10), .ref (a 11), .ref (a 12), .ref (a 13), .ref (a 14), .ref (a 15), _, _, .ref (a 18), .ref (a 19), .ref (a 20), .ref (a 21), .ref (a 22), .ref (a 23), .ref (a 24), .ref (a 25), _, _, .ref (a 28), _, _, .ref (a 31), .ref (a 32), .ref (a 33), _, _, _])), ((a 31), .inl (cI, 60, .inl _)), ((a 32), .inl (cI, 60, .inl _)), ((a 33), .inl (cI, 60, .inl _))] := hD
          refine lv_aload_n hx hb dX11_means_90 rfl (lv_at hl 0 rfl) ?_
          refine va_get (D := D) (ci := 11) (C := RX11) (T := TX11) (N := 37) hx hb hts in_X11 hown hK hP 0 rfl rfl 30 (by decide) fl_188 (fun _ h9 => h9) rfl dX11_means_91 ?_
          exact mu_iret X hP hS (by rw [aMeans, if_pos (by rw [h8, c_19]; rfl), if_pos h40, if_pos h60]) (by simp [hok, h60]) dX11_means_94
        · have h60 : ¬ mm < 60 := by have := (nI_eq (a := mm) (b := 60) (by omega) (by decide)).mp c_44; omega
          refine lv_bipush (v := -5) hx hb dX11_means_47 (by decide) ?_
          exact mu_iret X hP hS (by rw [aMeans, if_pos (by rw [h8, c_19]; rfl), if_pos h40, if_neg h60]) (by simp [hok, h60]) dX11_means_49
      · replace c_32 := bI_0.mp c_32
        have h37 : (decide (r = -1) || isFl r) = false := by rw [← inFm]; exact c_32
        refine lv_bipush (v := -3) hx hb dX11_means_35 (by decide) ?_
        exact mu_iret X hP hS (by simp [aMeans, h37, h8, c_19]) (by simp [meOk, h37]) dX11_means_37
    · replace c_19 := bI_0.mp c_19
      have h22 : (hasT (nI tc) y && (ixO nw e).isSome) = false := by first | (rw [has_ix htc, ← isW (show tc < 2 ^ 30 by omega), c_11]; rfl) | (rw [c_19]; simp)
      refine lv_bipush (v := -2) hx hb dX11_means_22 (by decide) ?_
      exact mu_iret X hP hS (by simp [aMeans, h22]) (by simp [meOk, h22]) dX11_means_24

theorem up_m : ∀ q, q < 256 → ∀ g, g < 8 → bI (upB (nI q) (nI g)) = (nI q >>> (nI g &&& 31)) &&& 1 := by decide +kernel
theorem sf_m : ∀ q, q < 256 → ∀ g, g < 8 → ∀ u : Bool, (nI q &&& (((1 : Int32) <<< (nI g &&& 31)) ^^^ (-1))) ||| (if u = true then (1 : Int32) <<< (nI g &&& 31) else 0) = sfF (nI q) (nI g) u ∧ ∃ q', q' < 256 ∧ sfF (nI q) (nI g) u = nI q' := by
  have h : ∀ q, q < 256 → ∀ g, g < 8 → ∀ u : Bool, (nI q &&& (((1 : Int32) <<< (nI g &&& 31)) ^^^ (-1))) ||| (if u = true then (1 : Int32) <<< (nI g &&& 31) else 0) = sfF (nI q) (nI g) u ∧ (sfF (nI q) (nI g) u).toNatClampNeg < 256 ∧ sfF (nI q) (nI g) u = nI (sfF (nI q) (nI g) u).toNatClampNeg := by decide +kernel
  intro q hq g hg u
  exact ⟨(h q hq g hg u).1, _, (h q hq g hg u).2.1, (h q hq g hg u).2.2⟩

set_option maxHeartbeats 1000000 in
set_option maxRecDepth 100000 in
theorem c_X11_flag {l : Launch} {D : va_G} {cI cJ cW : ClassId} {sz : Nat} {m : Nat} {a : Nat → Nat} {ct dn nw nj n tn tc mm : Nat} {τ : TS} {am pb : Int32} {fq : Nat} {y : Int32} {up : Bool} (hfq : fq < 256) : MU l yX11_flag wsX11_flag { frames := 1, cells := 0, slots := 0, locals := 22 } D (ty3 cI cJ cW) [.ref m, .int y, .int (bI up)] [(m, .inr (11, [.int (nI ct), .ref (a 1), .ref (a 2), .int (nI dn), .int (nI nw), .int (nI nj), .ref (a 6), .ref (a 7), .ref (a 8), .ref (a 9), .ref (a 10), .ref (a 11), .ref (a 12), .ref (a 13), .ref (a 14), .ref (a 15), .int (nI n), .int (nI tn), .ref (a 18), .ref (a 19), .ref (a 20), .ref (a 21), .ref (a 22), .ref (a 23), .ref (a 24), .ref (a 25), .int (nI τ.1), .int (τ.2.1), .ref (a 28), .int (nI tc), .int (nI mm), .ref (a 31), .ref (a 32), .ref (a 33), .int (nI fq), .int (am), .int (pb)]))] sz (some (.int (aFlag (nI fq) y))) [(m, .inr (11, [.int (nI ct), .ref (a 1), .ref (a 2), .int (nI dn), .int (nI nw), .int (nI nj), .ref (a 6), .ref (a 7), .ref (a 8), .ref (a 9), .ref (a 10), .ref (a 11), .ref (a 12), .ref (a 13), .ref (a 14), .ref (a 15), .int (nI n), .int (nI tn), .ref (a 18), .ref (a 19), .ref (a 20), .ref (a 21), .ref (a 22), .ref (a 23), .ref (a 24), .ref (a 25), .int (nI τ.1), .int (τ.2.1), .ref (a 28), .int (nI tc), .int (nI mm), .ref (a 31), .ref (a 32), .ref (a 33), .int (if isFl y = true then sfF (nI fq) y up else nI fq), .int (am), .int (pb)]))] := by
  refine mu_of (cc := cX11_flag) (maxL := 4) (ret := (some .int)) (by decide) rfl (Nat.le_of_ble_eq_true rfl) ?_
  intro pr en ss mi below meth cd X hK A hA hP hD hS ls hl
  obtain ⟨hx, hb, hml, hown, hts, hr, hlocks⟩ := id X
  have fl_191 := hts (.fieldLink RX11 191 "WordTablesModel" "flags" "I") (by decide +kernel)
  have in_X11 : ∀ w ∈ wsX110, w ∈ wsX11_flag := by decide +kernel
  have hl : lv_has ls 4 [(0, .ref m), (1, .int y), (2, .int (bI up))] := hl
  refine lv_iload_n hx hb dX11_flag_0 rfl (lv_at hl 1 rfl) ?_
  refine lv_iconst (v := 0) hx hb dX11_flag_1 (by decide) ?_
  refine lv_bipush (v := 7) hx hb dX11_flag_2 (by decide) ?_
  refine ro_S (n := 3) X hK (c_X11_in) gX11_flag_X11_in rfl (by decide +kernel) ⟨rfl, rfl⟩ ⟨Nat.le_of_ble_eq_true rfl, Nat.le_of_ble_eq_true rfl⟩ (hP.sub [] rfl) rfl hl.1 rfl (Nat.le_of_ble_eq_true rfl) dX11_flag_4 ⟨Nat.zero_le _, Nat.zero_le _⟩ ?_
  refine lv_if_ne (tgt := 13) hx hb dX11_flag_7 (by decide) (fun c_7 => ?_) (fun c_7 => ?_)
  · replace c_7 := bI_n0.mp c_7
    have hfl : isFl y = true := by rw [← inFl]; exact c_7
    obtain ⟨g, -, hg, rfl⟩ := inB_of 0 7 c_7 (by decide) (by decide)
    have hup := up_m fq hfq g (by omega)
    have hsf := (sf_m fq hfq g (by omega) up).1
    refine lv_aload_n hx hb dX11_flag_13 rfl (lv_at hl 0 rfl) ?_
    refine va_get (D := D) (ci := 11) (C := RX11) (T := TX11) (N := 37) hx hb hts in_X11 hown hK hP 0 rfl rfl 34 (by decide) fl_191 (fun _ h9 => h9) rfl dX11_flag_14 ?_
    refine lv_iload_n hx hb dX11_flag_17 rfl (lv_at hl 1 rfl) ?_
    refine lv_ishr hx hb dX11_flag_18 ?_
    refine lv_iconst (v := 1) hx hb dX11_flag_19 (by decide) ?_
    refine lv_iand hx hb dX11_flag_20 ?_
    refine lv_istore_n (lv' := [(3, _), (0, _), (1, _), (2, _)]) hx hb dX11_flag_21 rfl hl (by decide) rfl (fun ls hl => ?_)
    refine lv_aload_n hx hb dX11_flag_22 rfl (lv_at hl 1 rfl) ?_
    refine lv_aload_n hx hb dX11_flag_23 rfl (lv_at hl 1 rfl) ?_
    refine va_get (D := D) (ci := 11) (C := RX11) (T := TX11) (N := 37) hx hb hts in_X11 hown hK hP 0 rfl rfl 34 (by decide) fl_191 (fun _ h9 => h9) rfl dX11_flag_24 ?_
    refine lv_iconst (v := 1) hx hb dX11_flag_27 (by decide) ?_
    refine lv_iload_n hx hb dX11_flag_28 rfl (lv_at hl 2 rfl) ?_
    refine lv_ishl hx hb dX11_flag_29 ?_
    refine lv_iconst (v := -1) hx hb dX11_flag_30 (by decide) ?_
    refine lv_ixor hx hb dX11_flag_31 ?_
    refine lv_iand hx hb dX11_flag_32 ?_
    refine lv_iload_n hx hb dX11_flag_33 rfl (lv_at hl 3 rfl) ?_
    refine lv_if_eq (tgt := 43) hx hb dX11_flag_34 (by decide) (fun c_34 => ?_) (fun c_34 => ?_)
    · replace c_34 := bI_0.mp c_34
      refine lv_iconst (v := 0) hx hb dX11_flag_43 (by decide) ?_
      refine lv_ior hx hb dX11_flag_44 ?_
      refine va_put (D := D) (ci := 11) (ty := .int) (C := RX11) (T := TX11) (N := 37) hx hb hts in_X11 tyX11 tyX11_ok nmX11 hown hK hP hD hS 0 rfl rfl 34 (by decide) fl_191 (fun _ h9 => h9) rfl (by decide +kernel) rfl rfl (Nat.le_of_ble_eq_true rfl) dX11_flag_45 (fun H locs hP hD hS => ?_)
      have hP : va_P D vwCl [(m, .inr (11, [_, .ref (a 1), .ref (a 2), _, _, _, .ref (a 6), .ref (a 7), .ref (a 8), .ref (a 9), .ref (a 10), .ref (a 11), .ref (a 12), .ref (a 13), .ref (a 14), .ref (a 15), _, _, .ref (a 18), .ref (a 19), .ref (a 20), .ref (a 21), .ref (a 22), .ref (a 23), .ref (a 24), .ref (a 25), _, _, .ref (a 28), _, _, .ref (a 31), .ref (a 32), .ref (a 33), _, _, _]))] H := hP
      have hD : va_D A [(m, .inr (11, [_, .ref (a 1), .ref (a 2), _, _, _, .ref (a 6), .ref (a 7), .ref (a 8), .ref (a 9), .ref (a 10), .ref (a 11), .ref (a 12), .ref (a 13), .ref (a 14), .ref (a 15), _, _, .ref (a 18), .ref (a 19), .ref (a 20), .ref (a 21), .ref (a 22), .ref (a 23), .ref (a 24), .ref (a 25), _, _, .ref (a 28), _, _, .ref (a 31), .ref (a 32), .ref (a 33), _, _, _]))] := hD
      refine lv_iload_n hx hb dX11_flag_48 rfl (lv_at hl 0 rfl) ?_
      exact mu_iret X hP hS (by rw [aFlag, if_pos hfl]; exact hup.symm) (by rw [if_pos hfl, ← hsf]; simp [c_34]) dX11_flag_49
    · replace c_34 := bI_n0.mp c_34
      refine lv_iconst (v := 1) hx hb dX11_flag_37 (by decide) ?_
      refine lv_iload_n hx hb dX11_flag_38 rfl (lv_at hl 2 rfl) ?_
      refine lv_ishl hx hb dX11_flag_39 ?_
      refine lv_goto (tgt := 44) hx hb dX11_flag_40 (by decide) ?_
      refine lv_ior hx hb dX11_flag_44 ?_
      refine va_put (D := D) (ci := 11) (ty := .int) (C := RX11) (T := TX11) (N := 37) hx hb hts in_X11 tyX11 tyX11_ok nmX11 hown hK hP hD hS 0 rfl rfl 34 (by decide) fl_191 (fun _ h9 => h9) rfl (by decide +kernel) rfl rfl (Nat.le_of_ble_eq_true rfl) dX11_flag_45 (fun H locs hP hD hS => ?_)
      have hP : va_P D vwCl [(m, .inr (11, [_, .ref (a 1), .ref (a 2), _, _, _, .ref (a 6), .ref (a 7), .ref (a 8), .ref (a 9), .ref (a 10), .ref (a 11), .ref (a 12), .ref (a 13), .ref (a 14), .ref (a 15), _, _, .ref (a 18), .ref (a 19), .ref (a 20), .ref (a 21), .ref (a 22), .ref (a 23), .ref (a 24), .ref (a 25), _, _, .ref (a 28), _, _, .ref (a 31), .ref (a 32), .ref (a 33), _, _, _]))] H := hP
      have hD : va_D A [(m, .inr (11, [_, .ref (a 1), .ref (a 2), _, _, _, .ref (a 6), .ref (a 7), .ref (a 8), .ref (a 9), .ref (a 10), .ref (a 11), .ref (a 12), .ref (a 13), .ref (a 14), .ref (a 15), _, _, .ref (a 18), .ref (a 19), .ref (a 20), .ref (a 21), .ref (a 22), .ref (a 23), .ref (a 24), .ref (a 25), _, _, .ref (a 28), _, _, .ref (a 31), .ref (a 32), .ref (a 33), _, _, _]))] := hD
      refine lv_iload_n hx hb dX11_flag_48 rfl (lv_at hl 0 rfl) ?_
      exact mu_iret X hP hS (by rw [aFlag, if_pos hfl]; exact hup.symm) (by rw [if_pos hfl, ← hsf]; simp [c_34]) dX11_flag_49
  · replace c_7 := bI_0.mp c_7
    have hfl : isFl y = false := by rw [← inFl]; exact c_7
    refine lv_bipush (v := -3) hx hb dX11_flag_10 (by decide) ?_
    exact mu_iret X hP hS (by simp [aFlag, hfl]) (by simp [hfl]) dX11_flag_12
