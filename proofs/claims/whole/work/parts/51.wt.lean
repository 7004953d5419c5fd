/-! WordTables: what changes its own cells -/
def aFold (fo : Nat → Int32) (nw nj : Nat) (a b : Int32) : Int32 × (Nat → Int32) := if isFo a = true ∧ isSm b = true then (if 0 < nw ∨ 0 < nj then (-4, fo) else (fo (a - 128).toNatClampNeg, upd fo (a - 128).toNatClampNeg b)) else (-3, fo)
theorem isFo_of {a : Int32} (h : isFo a = true) : ∃ j, j < 32 ∧ a = nI (128 + j) ∧ (a - 128).toNatClampNeg = j ∧ ¬ a - 128 < 0 ∧ ¬ nI 32 ≤ a - 128 := by
  simp only [isFo, Bool.and_eq_true, Bool.not_eq_true', decide_eq_false_iff_not] at h
  obtain ⟨j, hj, rfl⟩ := nI_of2 (x := a) (M := 159) (n := 159) (by decide) (fun q => h.1 (by rw [Int32.lt_iff_toInt_lt] at *; have : (0 : Int32).toInt = 0 := rfl; have : (128 : Int32).toInt = 128 := rfl; omega)) (by rw [Int32.le_iff_toInt_le]; have := h.2; rw [Int32.lt_iff_toInt_lt] at this; omega)
  have h1 : 128 ≤ j := by
    rcases Nat.lt_or_ge j 128 with q | q
    · exact absurd (nI_lt (b := 128) q (by decide)) h.1
    · exact q
  have e : nI j - 128 = nI (j - 128) := by rw [show (128 : Int32) = nI 128 from rfl, pk_sub h1]
  refine ⟨j - 128, by omega, by rw [show 128 + (j - 128) = j by omega], ?_, ?_, ?_⟩
  · rw [e, nI_clamp (by omega)]
  · rw [e]; exact nI_pos (by omega)
  · rw [e]; exact nI_ge (by omega) (by decide)
theorem foC_fo {fo : Nat → Int32} {a : Int32} (h : isFo a = true) : foC fo a = fo (a - 128).toNatClampNeg := by
  obtain ⟨j, hj, -, e, h1, h2⟩ := isFo_of h
  rw [foC, if_neg h1, if_neg h2]
theorem chF_fo {fo : Nat → Int32} {a b : Int32} (h : isFo a = true) : chF fo a b = upd fo (a - 128).toNatClampNeg b := by
  obtain ⟨j, hj, -, e, h1, h2⟩ := isFo_of h
  rw [chF, if_neg h1, if_neg h2]
def aPut (ok : Bool) (N n : Nat) : Int32 := if ok = true then (if n < N then nI (n + 1) else -5) else -3
def nPut (ok : Bool) (N n : Nat) : Nat := if ok = true ∧ n < N then n + 1 else n
def fPut (ok : Bool) (N n : Nat) (f : Nat → Int32) (c : Int32) : Nat → Int32 := if ok = true ∧ n < N then upd f n c else f
def isBy (c : Int32) : Bool := !decide (c < 0) && decide (c ≤ 255)
def aThing (tc : Nat) : Int32 := if tc < 12 then nI tc else -5
def aFlag (fu y : Int32) : Int32 := if isFl y = true then bI (upB fu y) else -3
def meOk (tc nw : Nat) (y e r : Int32) : Bool := hasT (nI tc) y && (ixO nw e).isSome && (decide (r = -1) || isFl r)
def aMeans (tc nw mm : Nat) (y e r : Int32) : Int32 := if (hasT (nI tc) y && (ixO nw e).isSome) = true then (if (decide (r = -1) || isFl r) = true then (if mm < 60 then nI (mm + 1) else -5) else -3) else -2
section SMF
variable {T wz : Nat → Nat → Int32} {tn nw k j : Nat} {σ : Int32 × Int32 × Int32}
theorem smF_none (hk : k < tn) (h : tokW T nw k = none) : smF T tn nw wz (tn - k) k σ = σ := by
  rw [show tn - k = (tn - (k + 1)) + 1 by omega, smF, if_pos hk, h]
theorem smF_nk (hk : k < tn) (h : tokW T nw k = some j) (h2 : wz j 2 &&& 32 = 0) : smF T tn nw wz (tn - k) k σ = σ := by
  rw [show tn - k = (tn - (k + 1)) + 1 by omega, smF, if_pos hk, h]; simp only []; rw [if_pos h2]
theorem smF_no (hk : k < tn) (h : tokW T nw k = some j) (h2 : ¬ wz j 2 &&& 32 = 0) (h3 : (sumA σ.1 σ.2.1 σ.2.2 (wz j 3)).1 = false) : smF T tn nw wz (tn - k) k σ = (sumA σ.1 σ.2.1 σ.2.2 (wz j 3)).2 := by
  rw [show tn - k = (tn - (k + 1)) + 1 by omega, smF, if_pos hk, h]; simp only []; rw [if_neg h2, if_neg (by rw [h3]; decide)]
theorem smF_go (hk : k < tn) (h : tokW T nw k = some j) (h2 : ¬ wz j 2 &&& 32 = 0) (h3 : (sumA σ.1 σ.2.1 σ.2.2 (wz j 3)).1 = true) : smF T tn nw wz (tn - k) k σ = smF T tn nw wz (tn - (k + 1)) (k + 1) (sumA σ.1 σ.2.1 σ.2.2 (wz j 3)).2 := by
  rw [show tn - k = (tn - (k + 1)) + 1 by omega, smF, if_pos hk, h]; simp only []; rw [if_neg h2, if_pos h3]
end SMF
section PHF
variable {T wz : Nat → Nat → Int32} {tn nw k j : Nat} {me : Nat → Int32} {σ : Int32 × Int32}
theorem phF_none (hk : k < tn) (h : tokW T nw k = none) : phF T tn nw wz me (tn - k) k σ = σ := by
  rw [show tn - k = (tn - (k + 1)) + 1 by omega, phF, if_pos hk, h]
theorem phF_nk (hk : k < tn) (h : tokW T nw k = some j) (h2 : wz j 2 &&& 22 = 0) : phF T tn nw wz me (tn - k) k σ = σ := by
  rw [show tn - k = (tn - (k + 1)) + 1 by omega, phF, if_pos hk, h]; simp only []; rw [if_pos h2]
theorem phF_no (hk : k < tn) (h : tokW T nw k = some j) (h2 : ¬ wz j 2 &&& 22 = 0) (h3 : (coA σ.1 σ.2 (me k)).1 = false) : phF T tn nw wz me (tn - k) k σ = (coA σ.1 σ.2 (me k)).2 := by
  rw [show tn - k = (tn - (k + 1)) + 1 by omega, phF, if_pos hk, h]; simp only []; rw [if_neg h2, if_neg (by rw [h3]; decide)]
theorem phF_go (hk : k < tn) (h : tokW T nw k = some j) (h2 : ¬ wz j 2 &&& 22 = 0) (h3 : (coA σ.1 σ.2 (me k)).1 = true) : phF T tn nw wz me (tn - k) k σ = phF T tn nw wz me (tn - (k + 1)) (k + 1) (coA σ.1 σ.2 (me k)).2 := by
  rw [show tn - k = (tn - (k + 1)) + 1 by omega, phF, if_pos hk, h]; simp only []; rw [if_neg h2, if_pos h3]
end PHF
def suS (T : Nat → Nat → Int32) (tn nw : Nat) (wz : Nat → Nat → Int32) (y : Int32) (σ : Int32 × Int32 × Int32) : Int32 × Int32 × Int32 := match ixO tn y with
  | none => σ
  | some i => smA T tn nw wz i
def phS (T : Nat → Nat → Int32) (tn nw : Nat) (wz : Nat → Nat → Int32) (me : Nat → Int32) (y : Int32) (σ : Int32 × Int32) : Int32 × Int32 := match ixO tn y with
  | none => σ
  | some i => phF T tn nw wz me (tn - i) i (0, 0)
def aAmount (T : Nat → Nat → Int32) (tn nw : Nat) (wz : Nat → Nat → Int32) (y : Int32) : Int32 := match ixO tn y with
  | none => -2
  | some i => if (smA T tn nw wz i).2.2 = 0 then -4 else (smA T tn nw wz i).1 + (smA T tn nw wz i).2.1
def aAmLen (T : Nat → Nat → Int32) (tn nw : Nat) (wz : Nat → Nat → Int32) (y : Int32) : Int32 := match ixO tn y with
  | none => -2
  | some i => (smA T tn nw wz i).2.2
def aPhrase (T : Nat → Nat → Int32) (tn nw : Nat) (wz : Nat → Nat → Int32) (me : Nat → Int32) (y : Int32) : Int32 := match ixO tn y with
  | none => -2
  | some i => (phF T tn nw wz me (tn - i) i (0, 0)).1
def aPhLen (T : Nat → Nat → Int32) (tn nw : Nat) (wz : Nat → Nat → Int32) (me : Nat → Int32) (y : Int32) : Int32 := match ixO tn y with
  | none => -2
  | some i => (phF T tn nw wz me (tn - i) i (0, 0)).2

set_option maxHeartbeats 1000000 in
set_option maxRecDepth 100000 in
theorem c_X10_fold {l : Launch} {D : va_G} {cI cJ cW : ClassId} {sz : Nat} {x t d v th z g u w k h : Nat} {fa ct vw vj nw nj : Nat} {fo : Nat → Int32} {y e : Int32} (hnw : nw ≤ 40) (hnj : nj ≤ 8) : MU l yX10_fold wsX10_fold { frames := 1, cells := 0, slots := 0, locals := 23 } D (ty3 cI cJ cW) [.ref x, .int y, .int e] [(x, .inr (10, [.ref t, .ref d, .ref v, .ref th, .ref z, .ref g, .ref u, .ref w, .ref k, .ref h])), (t, .inr (3, [.int (nI ct), .ref fa])), (fa, .inl (cI, 32, .inl fo)), (v, .inr (8, [.ref t, .ref vw, .ref vj, .int (nI nw), .int (nI nj)]))] sz (some (.int (aFold fo nw nj y e).1)) [(x, .inr (10, [.ref t, .ref d, .ref v, .ref th, .ref z, .ref g, .ref u, .ref w, .ref k, .ref h])), (t, .inr (3, [.int (nI ct), .ref fa])), (fa, .inl (cI, 32, .inl ((aFold fo nw nj y e).2))), (v, .inr (8, [.ref t, .ref vw, .ref vj, .int (nI nw), .int (nI nj)]))] := by
  refine mu_of (cc := cX10_fold) (maxL := 4) (ret := (some .int)) (by decide) rfl (Nat.le_of_ble_eq_true rfl) ?_
  intro pr en ss mi below meth cd X hK A hA hP hD hS ls hl
  obtain ⟨hx, hb, hml, hown, hts, hr, hlocks⟩ := id X
  have fl_23 := hts (.fieldLink RX10 23 "WordTables" "letters" "LWordTables$Letters;") (by decide +kernel)
  have fl_39 := hts (.fieldLink RX10 39 "WordTables" "vocabulary" "LWordTables$Vocabulary;") (by decide +kernel)
  have fl_93 := hts (.fieldLink RX10 93 "WordTables$Vocabulary" "wordCount" "I") (by decide +kernel)
  have fl_97 := hts (.fieldLink RX10 97 "WordTables$Vocabulary" "joinCount" "I") (by decide +kernel)
  have in_X10 : ∀ w ∈ wsX100, w ∈ wsX10_fold := by decide +kernel
  have in_X8 : ∀ w ∈ wsX80, w ∈ wsX10_fold := by decide +kernel
  have hl : lv_has ls 4 [(0, .ref x), (1, .int y), (2, .int e)] := hl
  refine lv_iload_n hx hb dX10_fold_0 rfl (lv_at hl 1 rfl) ?_
  refine ro_S (n := 1) X hK (c_X3_isFoldable) gX10_fold_X3_isFoldable rfl (by decide +kernel) ⟨rfl, rfl⟩ ⟨Nat.le_of_ble_eq_true rfl, Nat.le_of_ble_eq_true rfl⟩ (hP.sub [] rfl) rfl hl.1 rfl (Nat.le_of_ble_eq_true rfl) dX10_fold_1 ⟨Nat.zero_le _, Nat.zero_le _⟩ ?_
  refine lv_if_eq (tgt := 14) hx hb dX10_fold_4 (by decide) (fun c_4 => ?_) (fun c_4 => ?_)
  · replace c_4 := bI_0.mp c_4
    refine lv_bipush (v := -3) hx hb dX10_fold_14 (by decide) ?_
    exact mu_iret X hP hS (by simp [aFold, c_4]) (by simp [aFold, c_4]) dX10_fold_16
  · replace c_4 := bI_n0.mp c_4
    refine lv_iload_n hx hb dX10_fold_7 rfl (lv_at hl 2 rfl) ?_
    refine ro_S (n := 1) X hK (c_X3_isSmall) gX10_fold_X3_isSmall rfl (by decide +kernel) ⟨rfl, rfl⟩ ⟨Nat.le_of_ble_eq_true rfl, Nat.le_of_ble_eq_true rfl⟩ (hP.sub [] rfl) rfl hl.1 rfl (Nat.le_of_ble_eq_true rfl) dX10_fold_8 ⟨Nat.zero_le _, Nat.zero_le _⟩ ?_
    refine lv_if_ne (tgt := 17) hx hb dX10_fold_11 (by decide) (fun c_11 => ?_) (fun c_11 => ?_)
    · replace c_11 := bI_n0.mp c_11
      refine lv_aload_n hx hb dX10_fold_17 rfl (lv_at hl 0 rfl) ?_
      refine va_get (D := D) (ci := 10) (C := RX10) (T := TX10) (N := 10) hx hb hts in_X10 hown hK hP 0 rfl rfl 2 (by decide) fl_39 (fun _ h9 => h9) rfl dX10_fold_18 ?_
      refine va_get (D := D) (ci := 8) (C := RX8) (T := TX8) (N := 5) hx hb hts in_X8 hown hK hP 3 rfl rfl 3 (by decide) fl_93 (fun _ h9 => h9) rfl dX10_fold_21 ?_
      refine lv_if_gt (tgt := 37) hx hb dX10_fold_24 (by decide) (fun c_24 => ?_) (fun c_24 => ?_)
      · have hs : 0 < nw ∨ 0 < nj := by first | exact Or.inl (ltL (a := 0) (b := nw) c_24) | exact Or.inr (leN (a := nj) (b := 0) c_34)
        refine lv_bipush (v := -4) hx hb dX10_fold_37 (by decide) ?_
        exact mu_iret X hP hS (by rw [aFold, if_pos ⟨c_4, c_11⟩, if_pos hs]) (by rw [aFold, if_pos ⟨c_4, c_11⟩, if_pos hs]) dX10_fold_39
      · refine lv_aload_n hx hb dX10_fold_27 rfl (lv_at hl 0 rfl) ?_
        refine va_get (D := D) (ci := 10) (C := RX10) (T := TX10) (N := 10) hx hb hts in_X10 hown hK hP 0 rfl rfl 2 (by decide) fl_39 (fun _ h9 => h9) rfl dX10_fold_28 ?_
        refine va_get (D := D) (ci := 8) (C := RX8) (T := TX8) (N := 5) hx hb hts in_X8 hown hK hP 3 rfl rfl 4 (by decide) fl_97 (fun _ h9 => h9) rfl dX10_fold_31 ?_
        refine lv_if_le (tgt := 40) hx hb dX10_fold_34 (by decide) (fun c_34 => ?_) (fun c_34 => ?_)
        · have hs : ¬ (0 < nw ∨ 0 < nj) := by have := ltN (a := 0) (b := nw) c_24; have := leL (a := nj) (b := 0) c_34; omega
          refine lv_aload_n hx hb dX10_fold_40 rfl (lv_at hl 0 rfl) ?_
          refine va_get (D := D) (ci := 10) (C := RX10) (T := TX10) (N := 10) hx hb hts in_X10 hown hK hP 0 rfl rfl 0 (by decide) fl_23 (fun _ h9 => h9) rfl dX10_fold_41 ?_
          refine lv_iload_n hx hb dX10_fold_44 rfl (lv_at hl 1 rfl) ?_
          refine ro_V (n := 1) X hK (c_X3_folded) gX10_fold_X3_folded rfl (by decide +kernel) ⟨rfl, rfl⟩ ⟨Nat.le_of_ble_eq_true rfl, Nat.le_of_ble_eq_true rfl⟩ (hP.sub [1, 2] rfl) (va_recv hK hP (ci := 3) (q0 := 1) rfl rfl) rfl hl.1 rfl (Nat.le_of_ble_eq_true rfl) dX10_fold_45 ⟨Nat.zero_le _, Nat.zero_le _⟩ ?_
          refine lv_istore_n (lv' := [(3, _), (0, _), (1, _), (2, _)]) hx hb dX10_fold_48 rfl hl (by decide) rfl (fun ls hl => ?_)
          refine lv_aload_n hx hb dX10_fold_49 rfl (lv_at hl 1 rfl) ?_
          refine va_get (D := D) (ci := 10) (C := RX10) (T := TX10) (N := 10) hx hb hts in_X10 hown hK hP 0 rfl rfl 0 (by decide) fl_23 (fun _ h9 => h9) rfl dX10_fold_50 ?_
          refine lv_iload_n hx hb dX10_fold_53 rfl (lv_at hl 2 rfl) ?_
          refine lv_iload_n hx hb dX10_fold_54 rfl (lv_at hl 3 rfl) ?_
          refine mu_V (n := 2) X hK (c_X3_changeFold) gX10_fold_X3_changeFold rfl (by decide +kernel) ⟨rfl, rfl⟩ ⟨Nat.le_of_ble_eq_true rfl, Nat.le_of_ble_eq_true rfl⟩ [1, 2] rfl rfl rfl rfl hA hP hD hS (va_recv hK hP (ci := 3) (q0 := 1) rfl rfl) rfl hl.1 rfl (Nat.le_of_ble_eq_true rfl) dX10_fold_55 ⟨Nat.zero_le _, Nat.zero_le _⟩ (fun H locs hP hD hS => ?_)
          have hP : va_P D vwCl [(x, .inr (10, [.ref t, .ref d, .ref v, .ref th, .ref z, .ref g, .ref u, .ref w, .ref k, .ref h])), (t, .inr (3, [_, .ref fa])), (fa, .inl (cI, 32, .inl _)), (v, .inr (8, [.ref t, .ref vw, .ref vj, _, _]))] H := hP
          have hD : va_D A [(x, .inr (10, [.ref t, .ref d, .ref v, .ref th, .ref z, .ref g, .ref u, .ref w, .ref k, .ref h])), (t, .inr (3, [_, .ref fa])), (fa, .inl (cI, 32, .inl _)), (v, .inr (8, [.ref t, .ref vw, .ref vj, _, _]))] := hD
          refine lv_iload_n hx hb dX10_fold_58 rfl (lv_at hl 0 rfl) ?_
          exact mu_iret X hP hS (by rw [aFold, if_pos ⟨c_4, c_11⟩, if_neg hs, foC_fo c_4]) (by rw [aFold, if_pos ⟨c_4, c_11⟩, if_neg hs, chF_fo c_4]) dX10_fold_59
        · have hs : 0 < nw ∨ 0 < nj := by first | exact Or.inl (ltL (a := 0) (b := nw) c_24) | exact Or.inr (leN (a := nj) (b := 0) c_34)
          refine lv_bipush (v := -4) hx hb dX10_fold_37 (by decide) ?_
          exact mu_iret X hP hS (by rw [aFold, if_pos ⟨c_4, c_11⟩, if_pos hs]) (by rw [aFold, if_pos ⟨c_4, c_11⟩, if_pos hs]) dX10_fold_39
    · replace c_11 := bI_0.mp c_11
      refine lv_bipush (v := -3) hx hb dX10_fold_14 (by decide) ?_
      exact mu_iret X hP hS (by simp [aFold, c_4, c_11]) (by simp [aFold, c_4, c_11]) dX10_fold_16

set_option maxHeartbeats 1000000 in
set_option maxRecDepth 100000 in
theorem c_X10_letter {l : Launch} {D : va_G} {cI cJ cW : ClassId} {sz : Nat} {x t d v th z g u w k h : Nat} {db dn : Nat} {df : Nat → Int32} {y : Int32} (hdn : dn ≤ 20) : MU l yX10_letter wsX10_letter { frames := 2, cells := 0, slots := 0, locals := 40 } D (ty3 cI cJ cW) [.ref x, .int y] [(x, .inr (10, [.ref t, .ref d, .ref v, .ref th, .ref z, .ref g, .ref u, .ref w, .ref k, .ref h])), (d, .inr (4, [.ref db, .int (nI dn)])), (db, .inl (cI, 20, .inl df))] sz (some (.int (aPut (isLe y) 20 dn))) [(x, .inr (10, [.ref t, .ref d, .ref v, .ref th, .ref z, .ref g, .ref u, .ref w, .ref k, .ref h])), (d, .inr (4, [.ref db, .int (nI (nPut (isLe y) 20 dn))])), (db, .inl (cI, 20, .inl (fPut (isLe y) 20 dn df y)))] := by
  refine mu_of (cc := cX10_letter) (maxL := 2) (ret := (some .int)) (by decide) rfl (Nat.le_of_ble_eq_true rfl) ?_
  intro pr en ss mi below meth cd X hK A hA hP hD hS ls hl
  obtain ⟨hx, hb, hml, hown, hts, hr, hlocks⟩ := id X
  have fl_118 := hts (.fieldLink RX10 118 "WordTables$Row" "count" "I") (by decide +kernel)
  have fl_30 := hts (.fieldLink RX10 30 "WordTables" "draft" "LWordTables$Row;") (by decide +kernel)
  have in_X10 : ∀ w ∈ wsX100, w ∈ wsX10_letter := by decide +kernel
  have in_X4 : ∀ w ∈ wsX40, w ∈ wsX10_letter := by decide +kernel
  have hl : lv_has ls 2 [(0, .ref x), (1, .int y)] := hl
  refine lv_iload_n hx hb dX10_letter_0 rfl (lv_at hl 1 rfl) ?_
  refine ro_S (n := 1) X hK (c_X3_isLetter) gX10_letter_X3_isLetter rfl (by decide +kernel) ⟨rfl, rfl⟩ ⟨Nat.le_of_ble_eq_true rfl, Nat.le_of_ble_eq_true rfl⟩ (hP.sub [] rfl) rfl hl.1 rfl (Nat.le_of_ble_eq_true rfl) dX10_letter_1 ⟨Nat.zero_le _, Nat.zero_le _⟩ ?_
  refine lv_if_ne (tgt := 10) hx hb dX10_letter_4 (by decide) (fun c_4 => ?_) (fun c_4 => ?_)
  · replace c_4 := bI_n0.mp c_4
    refine lv_aload_n hx hb dX10_letter_10 rfl (lv_at hl 0 rfl) ?_
    refine va_get (D := D) (ci := 10) (C := RX10) (T := TX10) (N := 10) hx hb hts in_X10 hown hK hP 0 rfl rfl 1 (by decide) fl_30 (fun _ h9 => h9) rfl dX10_letter_11 ?_
    refine ro_V (n := 0) X hK (c_X4_isFull) gX10_letter_X4_isFull rfl (by decide +kernel) ⟨rfl, rfl⟩ ⟨Nat.le_of_ble_eq_true rfl, Nat.le_of_ble_eq_true rfl⟩ (hP.sub [1, 2] rfl) (va_recv hK hP (ci := 4) (q0 := 1) rfl rfl) rfl hl.1 rfl (Nat.le_of_ble_eq_true rfl) dX10_letter_14 ⟨Nat.zero_le _, Nat.zero_le _⟩ ?_
    refine lv_if_eq (tgt := 23) hx hb dX10_letter_17 (by decide) (fun c_17 => ?_) (fun c_17 => ?_)
    · replace c_17 := bI_0.mp c_17
      have hd : dn < 20 := leN (a := 20) (b := dn) (of_decide_eq_false c_17)
      refine lv_aload_n hx hb dX10_letter_23 rfl (lv_at hl 0 rfl) ?_
      refine va_get (D := D) (ci := 10) (C := RX10) (T := TX10) (N := 10) hx hb hts in_X10 hown hK hP 0 rfl rfl 1 (by decide) fl_30 (fun _ h9 => h9) rfl dX10_letter_24 ?_
      refine lv_iload_n hx hb dX10_letter_27 rfl (lv_at hl 1 rfl) ?_
      refine mu_V (n := 1) X hK (c_X4_put (by decide)) gX10_letter_X4_put rfl (by decide +kernel) ⟨rfl, rfl⟩ ⟨Nat.le_of_ble_eq_true rfl, Nat.le_of_ble_eq_true rfl⟩ [1, 2] rfl rfl rfl rfl hA hP hD hS (va_recv hK hP (ci := 4) (q0 := 1) rfl rfl) rfl hl.1 rfl (Nat.le_of_ble_eq_true rfl) dX10_letter_28 ⟨Nat.zero_le _, Nat.zero_le _⟩ (fun H locs hP hD hS => ?_)
      have hP : va_P D vwCl [(x, .inr (10, [.ref t, .ref d, .ref v, .ref th, .ref z, .ref g, .ref u, .ref w, .ref k, .ref h])), (d, .inr (4, [.ref db, _])), (db, .inl (cI, 20, .inl _))] H := hP
      have hD : va_D A [(x, .inr (10, [.ref t, .ref d, .ref v, .ref th, .ref z, .ref g, .ref u, .ref w, .ref k, .ref h])), (d, .inr (4, [.ref db, _])), (db, .inl (cI, 20, .inl _))] := hD
      rw [putN_lt hd (by decide), putF_lt hd (by decide)] at hP hD
      refine lv_aload_n hx hb dX10_letter_31 rfl (lv_at hl 0 rfl) ?_
      refine va_get (D := D) (ci := 10) (C := RX10) (T := TX10) (N := 10) hx hb hts in_X10 hown hK hP 0 rfl rfl 1 (by decide) fl_30 (fun _ h9 => h9) rfl dX10_letter_32 ?_
      refine va_get (D := D) (ci := 4) (C := RX4) (T := TX4) (N := 2) hx hb hts in_X4 hown hK hP 1 rfl rfl 1 (by decide) fl_118 (fun _ h9 => h9) rfl dX10_letter_35 ?_
      exact mu_iret X hP hS (by simp [aPut, nPut, fPut, c_4, hd]) (by simp [aPut, nPut, fPut, c_4, hd]) dX10_letter_38
    · replace c_17 := bI_n0.mp c_17
      have hd : ¬ dn < 20 := by have := leL (a := 20) (b := dn) (of_decide_eq_true c_17); omega
      refine lv_bipush (v := -5) hx hb dX10_letter_20 (by decide) ?_
      exact mu_iret X hP hS (by simp [aPut, nPut, fPut, c_4, hd]) (by simp [aPut, nPut, fPut, c_4, hd]) dX10_letter_22
  · replace c_4 := bI_0.mp c_4
    refine lv_bipush (v := -3) hx hb dX10_letter_7 (by decide) ?_
    exact mu_iret X hP hS (by simp [aPut, nPut, fPut, c_4]) (by simp [aPut, nPut, fPut, c_4]) dX10_letter_9

set_option maxHeartbeats 1000000 in
set_option maxRecDepth 100000 in
theorem c_X10_type {l : Launch} {D : va_G} {cI cJ cW : ClassId} {sz : Nat} {x t d v th z g u w k h : Nat} {tb n : Nat} {L : Nat → Int32} {y : Int32} (hdn : n ≤ 80) : MU l yX10_type wsX10_type { frames := 1, cells := 0, slots := 0, locals := 21 } D (ty3 cI cJ cW) [.ref x, .int y] [(x, .inr (10, [.ref t, .ref d, .ref v, .ref th, .ref z, .ref g, .ref u, .ref w, .ref k, .ref h])), (th, .inr (4, [.ref tb, .int (nI n)])), (tb, .inl (cI, 80, .inl L))] sz (some (.int (aPut (isBy y) 80 n))) [(x, .inr (10, [.ref t, .ref d, .ref v, .ref th, .ref z, .ref g, .ref u, .ref w, .ref k, .ref h])), (th, .inr (4, [.ref tb, .int (nI (nPut (isBy y) 80 n))])), (tb, .inl (cI, 80, .inl (fPut (isBy y) 80 n L y)))] := by
  refine mu_of (cc := cX10_type) (maxL := 2) (ret := (some .int)) (by decide) rfl (Nat.le_of_ble_eq_true rfl) ?_
  intro pr en ss mi below meth cd X hK A hA hP hD hS ls hl
  obtain ⟨hx, hb, hml, hown, hts, hr, hlocks⟩ := id X
  have fl_118 := hts (.fieldLink RX10 118 "WordTables$Row" "count" "I") (by decide +kernel)
  have fl_43 := hts (.fieldLink RX10 43 "WordTables" "line" "LWordTables$Row;") (by decide +kernel)
  have in_X10 : ∀ w ∈ wsX100, w ∈ wsX10_type := by decide +kernel
  have in_X4 : ∀ w ∈ wsX40, w ∈ wsX10_type := by decide +kernel
  have hl : lv_has ls 2 [(0, .ref x), (1, .int y)] := hl
  refine lv_iload_n hx hb dX10_type_0 rfl (lv_at hl 1 rfl) ?_
  refine lv_if_lt (tgt := 11) hx hb dX10_type_1 (by decide) (fun c_1 => ?_) (fun c_1 => ?_)
  · refine lv_bipush (v := -3) hx hb dX10_type_11 (by decide) ?_
    exact mu_iret X hP hS (by simp [aPut, nPut, fPut, isBy, c_1]) (by simp [aPut, nPut, fPut, isBy, c_1]) dX10_type_13
  · refine lv_iload_n hx hb dX10_type_4 rfl (lv_at hl 1 rfl) ?_
    refine lv_sipush (v := 255) hx hb dX10_type_5 (by decide) ?_
    refine lv_icmp_le (tgt := 14) hx hb dX10_type_8 (by decide) (fun c_8 => ?_) (fun c_8 => ?_)
    · have hby : isBy y = true := by simp [isBy, c_1, c_8]
      refine lv_aload_n hx hb dX10_type_14 rfl (lv_at hl 0 rfl) ?_
      refine va_get (D := D) (ci := 10) (C := RX10) (T := TX10) (N := 10) hx hb hts in_X10 hown hK hP 0 rfl rfl 3 (by decide) fl_43 (fun _ h9 => h9) rfl dX10_type_15 ?_
      refine ro_V (n := 0) X hK (c_X4_isFull) gX10_type_X4_isFull rfl (by decide +kernel) ⟨rfl, rfl⟩ ⟨Nat.le_of_ble_eq_true rfl, Nat.le_of_ble_eq_true rfl⟩ (hP.sub [1, 2] rfl) (va_recv hK hP (ci := 4) (q0 := 1) rfl rfl) rfl hl.1 rfl (Nat.le_of_ble_eq_true rfl) dX10_type_18 ⟨Nat.zero_le _, Nat.zero_le _⟩ ?_
      refine lv_if_eq (tgt := 27) hx hb dX10_type_21 (by decide) (fun c_21 => ?_) (fun c_21 => ?_)
      · replace c_21 := bI_0.mp c_21
        have hd : n < 80 := leN (a := 80) (b := n) (of_decide_eq_false c_21)
        refine lv_aload_n hx hb dX10_type_27 rfl (lv_at hl 0 rfl) ?_
        refine va_get (D := D) (ci := 10) (C := RX10) (T := TX10) (N := 10) hx hb hts in_X10 hown hK hP 0 rfl rfl 3 (by decide) fl_43 (fun _ h9 => h9) rfl dX10_type_28 ?_
        refine lv_iload_n hx hb dX10_type_31 rfl (lv_at hl 1 rfl) ?_
        refine mu_V (n := 1) X hK (c_X4_put (by decide)) gX10_type_X4_put rfl (by decide +kernel) ⟨rfl, rfl⟩ ⟨Nat.le_of_ble_eq_true rfl, Nat.le_of_ble_eq_true rfl⟩ [1, 2] rfl rfl rfl rfl hA hP hD hS (va_recv hK hP (ci := 4) (q0 := 1) rfl rfl) rfl hl.1 rfl (Nat.le_of_ble_eq_true rfl) dX10_type_32 ⟨Nat.zero_le _, Nat.zero_le _⟩ (fun H locs hP hD hS => ?_)
        have hP : va_P D vwCl [(x, .inr (10, [.ref t, .ref d, .ref v, .ref th, .ref z, .ref g, .ref u, .ref w, .ref k, .ref h])), (th, .inr (4, [.ref tb, _])), (tb, .inl (cI, 80, .inl _))] H := hP
        have hD : va_D A [(x, .inr (10, [.ref t, .ref d, .ref v, .ref th, .ref z, .ref g, .ref u, .ref w, .ref k, .ref h])), (th, .inr (4, [.ref tb, _])), (tb, .inl (cI, 80, .inl _))] := hD
        rw [putN_lt hd (by decide), putF_lt hd (by decide)] at hP hD
        refine lv_aload_n hx hb dX10_type_35 rfl (lv_at hl 0 rfl) ?_
        refine va_get (D := D) (ci := 10) (C := RX10) (T := TX10) (N := 10) hx hb hts in_X10 hown hK hP 0 rfl rfl 3 (by decide) fl_43 (fun _ h9 => h9) rfl dX10_type_36 ?_
        refine va_get (D := D) (ci := 4) (C := RX4) (T := TX4) (N := 2) hx hb hts in_X4 hown hK hP 1 rfl rfl 1 (by decide) fl_118 (fun _ h9 => h9) rfl dX10_type_39 ?_
        exact mu_iret X hP hS (by simp [aPut, nPut, fPut, hby, hd]) (by simp [aPut, nPut, fPut, hby, hd]) dX10_type_42
      · replace c_21 := bI_n0.mp c_21
        have hd : ¬ n < 80 := by have := leL (a := 80) (b := n) (of_decide_eq_true c_21); omega
        refine lv_bipush (v := -5) hx hb dX10_type_24 (by decide) ?_
        exact mu_iret X hP hS (by simp [aPut, nPut, fPut, hby, hd]) (by simp [aPut, nPut, fPut, hby, hd]) dX10_type_26
    · refine lv_bipush (v := -3) hx hb dX10_type_11 (by decide) ?_
      exact mu_iret X hP hS (by simp [aPut, nPut, fPut, isBy, c_1, c_8]) (by simp [aPut, nPut, fPut, isBy, c_1, c_8]) dX10_type_13

set_option maxHeartbeats 1000000 in
set_option maxRecDepth 100000 in
theorem c_X10_thing {l : Launch} {D : va_G} {cI cJ cW : ClassId} {sz : Nat} {x t d v th z g u w k h : Nat} {g0 g1 g2 mm tc : Nat} {fu : Int32} (htc : tc ≤ 12) : MU l yX10_thing wsX10_thing { frames := 1, cells := 0, slots := 0, locals := 20 } D (ty3 cI cJ cW) [.ref x] [(x, .inr (10, [.ref t, .ref d, .ref v, .ref th, .ref z, .ref g, .ref u, .ref w, .ref k, .ref h])), (g, .inr (6, [.ref g0, .ref g1, .ref g2, .int (nI tc), .int (nI mm), .int fu]))] sz (some (.int (aThing tc))) [(x, .inr (10, [.ref t, .ref d, .ref v, .ref th, .ref z, .ref g, .ref u, .ref w, .ref k, .ref h])), (g, .inr (6, [.ref g0, .ref g1, .ref g2, .int (nI (if tc < 12 then tc + 1 else tc)), .int (nI mm), .int fu]))] := by
  refine mu_of (cc := cX10_thing) (maxL := 1) (ret := (some .int)) (by decide) rfl (Nat.le_of_ble_eq_true rfl) ?_
  intro pr en ss mi below meth cd X hK A hA hP hD hS ls hl
  obtain ⟨hx, hb, hml, hown, hts, hr, hlocks⟩ := id X
  have fl_209 := hts (.fieldLink RX10 209 "WordTables$Things" "count" "I") (by decide +kernel)
  have fl_58 := hts (.fieldLink RX10 58 "WordTables" "things" "LWordTables$Things;") (by decide +kernel)
  have in_X10 : ∀ w ∈ wsX100, w ∈ wsX10_thing := by decide +kernel
  have in_X6 : ∀ w ∈ wsX60, w ∈ wsX10_thing := by decide +kernel
  have hl : lv_has ls 1 [(0, .ref x)] := hl
  refine lv_aload_n hx hb dX10_thing_0 rfl (lv_at hl 0 rfl) ?_
  refine va_get (D := D) (ci := 10) (C := RX10) (T := TX10) (N := 10) hx hb hts in_X10 hown hK hP 0 rfl rfl 5 (by decide) fl_58 (fun _ h9 => h9) rfl dX10_thing_1 ?_
  refine mu_V (n := 0) X hK (c_X6_addThing) gX10_thing_X6_addThing rfl (by decide +kernel) ⟨rfl, rfl⟩ ⟨Nat.le_of_ble_eq_true rfl, Nat.le_of_ble_eq_true rfl⟩ [1] rfl rfl rfl rfl hA hP hD hS (va_recv hK hP (ci := 6) (q0 := 1) rfl rfl) rfl hl.1 rfl (Nat.le_of_ble_eq_true rfl) dX10_thing_4 ⟨Nat.zero_le _, Nat.zero_le _⟩ (fun H locs hP hD hS => ?_)
  have hP : va_P D vwCl [(x, .inr (10, [.ref t, .ref d, .ref v, .ref th, .ref z, .ref g, .ref u, .ref w, .ref k, .ref h])), (g, .inr (6, [.ref g0, .ref g1, .ref g2, _, _, _]))] H := hP
  have hD : va_D A [(x, .inr (10, [.ref t, .ref d, .ref v, .ref th, .ref z, .ref g, .ref u, .ref w, .ref k, .ref h])), (g, .inr (6, [.ref g0, .ref g1, .ref g2, _, _, _]))] := hD
  refine lv_if_eq (tgt := 22) hx hb dX10_thing_7 (by decide) (fun c_7 => ?_) (fun c_7 => ?_)
  · replace c_7 := bI_0.mp c_7
    have h12 : ¬ tc < 12 := by have := ltN (a := tc) (b := 12) (of_decide_eq_false c_7); omega
    rw [if_neg (of_decide_eq_false c_7)] at hP hD
    refine lv_bipush (v := -5) hx hb dX10_thing_22 (by decide) ?_
    exact mu_iret X hP hS (by simp [aThing, h12]) (by simp [h12]) dX10_thing_24
  · replace c_7 := bI_n0.mp c_7
    have h12 : tc < 12 := ltL (a := tc) (b := 12) (of_decide_eq_true c_7)
    rw [if_pos (of_decide_eq_true c_7), nI_1] at hP hD
    refine lv_aload_n hx hb dX10_thing_10 rfl (lv_at hl 0 rfl) ?_
    refine va_get (D := D) (ci := 10) (C := RX10) (T := TX10) (N := 10) hx hb hts in_X10 hown hK hP 0 rfl rfl 5 (by decide) fl_58 (fun _ h9 => h9) rfl dX10_thing_11 ?_
    refine va_get (D := D) (ci := 6) (C := RX6) (T := TX6) (N := 6) hx hb hts in_X6 hown hK hP 1 rfl rfl 3 (by decide) fl_209 (fun _ h9 => h9) rfl dX10_thing_14 ?_
    refine lv_iconst (v := 1) hx hb dX10_thing_17 (by decide) ?_
    refine lv_isub hx hb dX10_thing_18 ?_
    refine lv_goto (tgt := 24) hx hb dX10_thing_19 (by decide) ?_
    exact mu_iret X hP hS (by rw [aThing, if_pos h12]; exact pk_sub (a := tc + 1) (b := 1) (by omega)) (by simp [h12]) dX10_thing_24

set_option maxHeartbeats 1000000 in
set_option maxRecDepth 100000 in
theorem c_X10_flag {l : Launch} {D : va_G} {cI cJ cW : ClassId} {sz : Nat} {x t d v th z g u w k h : Nat} {g0 g1 g2 mm tc : Nat} {fu : Int32} {y : Int32} {up : Bool}  : MU l yX10_flag wsX10_flag { frames := 1, cells := 0, slots := 0, locals := 23 } D (ty3 cI cJ cW) [.ref x, .int y, .int (bI up)] [(x, .inr (10, [.ref t, .ref d, .ref v, .ref th, .ref z, .ref g, .ref u, .ref w, .ref k, .ref h])), (g, .inr (6, [.ref g0, .ref g1, .ref g2, .int (nI tc), .int (nI mm), .int fu]))] sz (some (.int (aFlag fu y))) [(x, .inr (10, [.ref t, .ref d, .ref v, .ref th, .ref z, .ref g, .ref u, .ref w, .ref k, .ref h])), (g, .inr (6, [.ref g0, .ref g1, .ref g2, .int (nI tc), .int (nI mm), .int (if isFl y = true then sfF fu y up else fu)]))] := by
  refine mu_of (cc := cX10_flag) (maxL := 4) (ret := (some .int)) (by decide) rfl (Nat.le_of_ble_eq_true rfl) ?_
  intro pr en ss mi below meth cd X hK A hA hP hD hS ls hl
  obtain ⟨hx, hb, hml, hown, hts, hr, hlocks⟩ := id X
  have fl_58 := hts (.fieldLink RX10 58 "WordTables" "things" "LWordTables$Things;") (by decide +kernel)
  have in_X10 : ∀ w ∈ wsX100, w ∈ wsX10_flag := by decide +kernel
  have hl : lv_has ls 4 [(0, .ref x), (1, .int y), (2, .int (bI up))] := hl
  refine lv_iload_n hx hb dX10_flag_0 rfl (lv_at hl 1 rfl) ?_
  refine ro_S (n := 1) X hK (c_X10_isFlag) gX10_flag_X10_isFlag rfl (by decide +kernel) ⟨rfl, rfl⟩ ⟨Nat.le_of_ble_eq_true rfl, Nat.le_of_ble_eq_true rfl⟩ (hP.sub [] rfl) rfl hl.1 rfl (Nat.le_of_ble_eq_true rfl) dX10_flag_1 ⟨Nat.zero_le _, Nat.zero_le _⟩ ?_
  refine lv_if_ne (tgt := 10) hx hb dX10_flag_4 (by decide) (fun c_4 => ?_) (fun c_4 => ?_)
  · replace c_4 := bI_n0.mp c_4
    refine lv_aload_n hx hb dX10_flag_10 rfl (lv_at hl 0 rfl) ?_
    refine va_get (D := D) (ci := 10) (C := RX10) (T := TX10) (N := 10) hx hb hts in_X10 hown hK hP 0 rfl rfl 5 (by decide) fl_58 (fun _ h9 => h9) rfl dX10_flag_11 ?_
    refine lv_iload_n hx hb dX10_flag_14 rfl (lv_at hl 1 rfl) ?_
    refine ro_V (n := 1) X hK (c_X6_isUp) gX10_flag_X6_isUp rfl (by decide +kernel) ⟨rfl, rfl⟩ ⟨Nat.le_of_ble_eq_true rfl, Nat.le_of_ble_eq_true rfl⟩ (hP.sub [1] rfl) (va_recv hK hP (ci := 6) (q0 := 1) rfl rfl) rfl hl.1 rfl (Nat.le_of_ble_eq_true rfl) dX10_flag_15 ⟨Nat.zero_le _, Nat.zero_le _⟩ ?_
    refine lv_if_eq (tgt := 25) hx hb dX10_flag_18 (by decide) (fun c_18 => ?_) (fun c_18 => ?_)
    · replace c_18 := bI_0.mp c_18
      refine lv_iconst (v := 0) hx hb dX10_flag_25 (by decide) ?_
      refine lv_istore_n (lv' := [(3, _), (0, _), (1, _), (2, _)]) hx hb dX10_flag_26 rfl hl (by decide) rfl (fun ls hl => ?_)
      refine lv_aload_n hx hb dX10_flag_27 rfl (lv_at hl 1 rfl) ?_
      refine va_get (D := D) (ci := 10) (C := RX10) (T := TX10) (N := 10) hx hb hts in_X10 hown hK hP 0 rfl rfl 5 (by decide) fl_58 (fun _ h9 => h9) rfl dX10_flag_28 ?_
      refine lv_iload_n hx hb dX10_flag_31 rfl (lv_at hl 2 rfl) ?_
      refine lv_iload_n hx hb dX10_flag_32 rfl (lv_at hl 3 rfl) ?_
      refine mu_V (n := 2) X hK (c_X6_setFlag) gX10_flag_X6_setFlag rfl (by decide +kernel) ⟨rfl, rfl⟩ ⟨Nat.le_of_ble_eq_true rfl, Nat.le_of_ble_eq_true rfl⟩ [1] rfl rfl rfl rfl hA hP hD hS (va_recv hK hP (ci := 6) (q0 := 1) rfl rfl) rfl hl.1 rfl (Nat.le_of_ble_eq_true rfl) dX10_flag_33 ⟨Nat.zero_le _, Nat.zero_le _⟩ (fun H locs hP hD hS => ?_)
      have hP : va_P D vwCl [(x, .inr (10, [.ref t, .ref d, .ref v, .ref th, .ref z, .ref g, .ref u, .ref w, .ref k, .ref h])), (g, .inr (6, [.ref g0, .ref g1, .ref g2, _, _, _]))] H := hP
      have hD : va_D A [(x, .inr (10, [.ref t, .ref d, .ref v, .ref th, .ref z, .ref g, .ref u, .ref w, .ref k, .ref h])), (g, .inr (6, [.ref g0, .ref g1, .ref g2, _, _, _]))] := hD
      refine lv_iload_n hx hb dX10_flag_36 rfl (lv_at hl 0 rfl) ?_
      exact mu_iret X hP hS (by simp [aFlag, bI, c_4, c_18]) (by simp [aFlag, bI, c_4, c_18]) dX10_flag_37
    · replace c_18 := bI_n0.mp c_18
      refine lv_iconst (v := 1) hx hb dX10_flag_21 (by decide) ?_
      refine lv_goto (tgt := 26) hx hb dX10_flag_22 (by decide) ?_
      refine lv_istore_n (lv' := [(3, _), (0, _), (1, _), (2, _)]) hx hb dX10_flag_26 rfl hl (by decide) rfl (fun ls hl => ?_)
      refine lv_aload_n hx hb dX10_flag_27 rfl (lv_at hl 1 rfl) ?_
      refine va_get (D := D) (ci := 10) (C := RX10) (T := TX10) (N := 10) hx hb hts in_X10 hown hK hP 0 rfl rfl 5 (by decide) fl_58 (fun _ h9 => h9) rfl dX10_flag_28 ?_
      refine lv_iload_n hx hb dX10_flag_31 rfl (lv_at hl 2 rfl) ?_
      refine lv_iload_n hx hb dX10_flag_32 rfl (lv_at hl 3 rfl) ?_
      refine mu_V (n := 2) X hK (c_X6_setFlag) gX10_flag_X6_setFlag rfl (by decide +kernel) ⟨rfl, rfl⟩ ⟨Nat.le_of_ble_eq_true rfl, Nat.le_of_ble_eq_true rfl⟩ [1] rfl rfl rfl rfl hA hP hD hS (va_recv hK hP (ci := 6) (q0 := 1) rfl rfl) rfl hl.1 rfl (Nat.le_of_ble_eq_true rfl) dX10_flag_33 ⟨Nat.zero_le _, Nat.zero_le _⟩ (fun H locs hP hD hS => ?_)
      have hP : va_P D vwCl [(x, .inr (10, [.ref t, .ref d, .ref v, .ref th, .ref z, .ref g, .ref u, .ref w, .ref k, .ref h])), (g, .inr (6, [.ref g0, .ref g1, .ref g2, _, _, _]))] H := hP
      have hD : va_D A [(x, .inr (10, [.ref t, .ref d, .ref v, .ref th, .ref z, .ref g, .ref u, .ref w, .ref k, .ref h])), (g, .inr (6, [.ref g0, .ref g1, .ref g2, _, _, _]))] := hD
      refine lv_iload_n hx hb dX10_flag_36 rfl (lv_at hl 0 rfl) ?_
      exact mu_iret X hP hS (by simp [aFlag, bI, c_4, c_18]) (by simp [aFlag, bI, c_4, c_18]) dX10_flag_37
  · replace c_4 := bI_0.mp c_4
    refine lv_bipush (v := -3) hx hb dX10_flag_7 (by decide) ?_
    exact mu_iret X hP hS (by simp [aFlag, bI, c_4]) (by simp [aFlag, bI, c_4]) dX10_flag_9

set_option maxHeartbeats 1000000 in
set_option maxRecDepth 100000 in
theorem c_X10_means {l : Launch} {D : va_G} {cI cJ cW : ClassId} {sz : Nat} {x t d v th z g u w k h : Nat} {vw vj nw nj : Nat} {wf : Nat → Option Nat} {g0 g1 g2 mm tc : Nat} {fu : Int32} {mt mw mf : Nat → Int32} {wa : Nat → Nat → Nat} {y e r : Int32} (hnw : nw ≤ 40) (hwf : ∀ i, i < nw → wf i = some (wa i 0)) (hmm : mm ≤ 60) : MU l yX10_means wsX10_means { frames := 1, cells := 0, slots := 0, locals := 23 } D (ty3 cI cJ cW) [.ref x, .int y, .int e, .int r] [(x, .inr (10, [.ref t, .ref d, .ref v, .ref th, .ref z, .ref g, .ref u, .ref w, .ref k, .ref h])), (v, .inr (8, [.ref t, .ref vw, .ref vj, .int (nI nw), .int (nI nj)])), (vw, .inl (cW, 40, .inr (.inr (.inr (.inr wf))))), (g, .inr (6, [.ref g0, .ref g1, .ref g2, .int (nI tc), .int (nI mm), .int fu])), (g0, .inl (cI, 60, .inl mt)), (g1, .inl (cI, 60, .inl mw)), (g2, .inl (cI, 60, .inl mf))] sz (some (.int (aMeans tc nw mm y e r))) [(x, .inr (10, [.ref t, .ref d, .ref v, .ref th, .ref z, .ref g, .ref u, .ref w, .ref k, .ref h])), (v, .inr (8, [.ref t, .ref vw, .ref vj, .int (nI nw), .int (nI nj)])), (vw, .inl (cW, 40, .inr (.inr (.inr (.inr wf))))), (g, .inr (6, [.ref g0, .ref g1, .ref g2, .int (nI tc), .int (nI (if meOk tc nw y e r = true ∧ mm < 60 then mm + 1 else mm)), .int fu])), (g0, .inl (cI, 60, .inl (if meOk tc nw y e r = true ∧ mm < 60 then upd mt mm y else mt))), (g1, .inl (cI, 60, .inl (if meOk tc nw y e r = true ∧ mm < 60 then upd mw mm e else mw))), (g2, .inl (cI, 60, .inl (if meOk tc nw y e r = true ∧ mm < 60 then upd mf mm r else mf)))] := by
  refine mu_of (cc := cX10_means) (maxL := 4) (ret := (some .int)) (by decide) rfl (Nat.le_of_ble_eq_true rfl) ?_
  intro pr en ss mi below meth cd X hK A hA hP hD hS ls hl
  obtain ⟨hx, hb, hml, hown, hts, hr, hlocks⟩ := id X
  have fl_218 := hts (.fieldLink RX10 218 "WordTables$Things" "meaningCount" "I") (by decide +kernel)
  have fl_39 := hts (.fieldLink RX10 39 "WordTables" "vocabulary" "LWordTables$Vocabulary;") (by decide +kernel)
  have fl_58 := hts (.fieldLink RX10 58 "WordTables" "things" "LWordTables$Things;") (by decide +kernel)
  have in_X10 : ∀ w ∈ wsX100, w ∈ wsX10_means := by decide +kernel
  have in_X6 : ∀ w ∈ wsX60, w ∈ wsX10_means := by decide +kernel
  have hl : lv_has ls 4 [(0, .ref x), (1, .int y), (2, .int e), (3, .int r)] := hl
  refine lv_aload_n hx hb dX10_means_0 rfl (lv_at hl 0 rfl) ?_
  refine va_get (D := D) (ci := 10) (C := RX10) (T := TX10) (N := 10) hx hb hts in_X10 hown hK hP 0 rfl rfl 5 (by decide) fl_58 (fun _ h9 => h9) rfl dX10_means_1 ?_
  refine lv_iload_n hx hb dX10_means_4 rfl (lv_at hl 1 rfl) ?_
  refine ro_V (n := 1) X hK (c_X6_has) gX10_means_X6_has rfl (by decide +kernel) ⟨rfl, rfl⟩ ⟨Nat.le_of_ble_eq_true rfl, Nat.le_of_ble_eq_true rfl⟩ (hP.sub [3] rfl) (va_recv hK hP (ci := 6) (q0 := 3) rfl rfl) rfl hl.1 rfl (Nat.le_of_ble_eq_true rfl) dX10_means_5 ⟨Nat.zero_le _, Nat.zero_le _⟩ ?_
  refine lv_if_eq (tgt := 22) hx hb dX10_means_8 (by decide) (fun c_8 => ?_) (fun c_8 => ?_)
  · replace c_8 := bI_0.mp c_8
    have h22 : (hasT (nI tc) y && (ixO nw e).isSome) = false := by first | (rw [c_8]; rfl) | (rw [ixO_out (kn_none e_16 hnw hwf)]; simp)
    refine lv_bipush (v := -2) hx hb dX10_means_22 (by decide) ?_
    exact mu_iret X hP hS (by simp [aMeans, h22]) (by simp [meOk, h22]) dX10_means_24
  · replace c_8 := bI_n0.mp c_8
    refine lv_aload_n hx hb dX10_means_11 rfl (lv_at hl 0 rfl) ?_
    refine va_get (D := D) (ci := 10) (C := RX10) (T := TX10) (N := 10) hx hb hts in_X10 hown hK hP 0 rfl rfl 2 (by decide) fl_39 (fun _ h9 => h9) rfl dX10_means_12 ?_
    refine lv_iload_n hx hb dX10_means_15 rfl (lv_at hl 2 rfl) ?_
    refine ro_V (n := 1) X hK (c_X8_known) gX10_means_X8_known rfl (by decide +kernel) ⟨rfl, rfl⟩ ⟨Nat.le_of_ble_eq_true rfl, Nat.le_of_ble_eq_true rfl⟩ (hP.sub [1, 2] rfl) (va_recv hK hP (ci := 8) (q0 := 1) rfl rfl) rfl hl.1 rfl (Nat.le_of_ble_eq_true rfl) dX10_means_16 ⟨Nat.zero_le _, Nat.zero_le _⟩ ?_
    refine lv_splitq (fun e_16 => ?_) (fun q_16 e_16 => ?_)
    · refine lv_ifnonnullN hx hb dX10_means_19 ?_
      have h22 : (hasT (nI tc) y && (ixO nw e).isSome) = false := by first | (rw [c_8]; rfl) | (rw [ixO_out (kn_none e_16 hnw hwf)]; simp)
      refine lv_bipush (v := -2) hx hb dX10_means_22 (by decide) ?_
      exact mu_iret X hP hS (by simp [aMeans, h22]) (by simp [meOk, h22]) dX10_means_24
    · have hx_16 : (ixO nw e).isSome = true := by obtain ⟨j, hj, rfl, -⟩ := kn_some e_16 hnw hwf; rw [ixO_nI hj (by omega)]; rfl
      refine lv_ifnonnull (tgt := 25) hx hb dX10_means_19 (by decide) ?_
      refine lv_iload_n hx hb dX10_means_25 rfl (lv_at hl 3 rfl) ?_
      refine lv_iconst (v := -1) hx hb dX10_means_26 (by decide) ?_
      refine lv_icmp_eq (tgt := 40) hx hb dX10_means_27 (by decide) (fun c_27 => ?_) (fun c_27 => ?_)
      · have h40 : (decide (r = -1) || isFl r) = true := by first | (simp [c_27]; done) | (simp [c_34]; done)
        have hok : meOk tc nw y e r = true := by simp only [meOk, c_8, hx_16, h40, Bool.and_self]
        refine lv_aload_n hx hb dX10_means_40 rfl (lv_at hl 0 rfl) ?_
        refine va_get (D := D) (ci := 10) (C := RX10) (T := TX10) (N := 10) hx hb hts in_X10 hown hK hP 0 rfl rfl 5 (by decide) fl_58 (fun _ h9 => h9) rfl dX10_means_41 ?_
        refine lv_iload_n hx hb dX10_means_44 rfl (lv_at hl 1 rfl) ?_
        refine lv_iload_n hx hb dX10_means_45 rfl (lv_at hl 2 rfl) ?_
        refine lv_iload_n hx hb dX10_means_46 rfl (lv_at hl 3 rfl) ?_
        refine mu_V (n := 3) X hK (c_X6_addMeaning hmm) gX10_means_X6_addMeaning rfl (by decide +kernel) ⟨rfl, rfl⟩ ⟨Nat.le_of_ble_eq_true rfl, Nat.le_of_ble_eq_true rfl⟩ [3, 4, 5, 6] rfl rfl rfl rfl hA hP hD hS (va_recv hK hP (ci := 6) (q0 := 3) rfl rfl) rfl hl.1 rfl (Nat.le_of_ble_eq_true rfl) dX10_means_47 ⟨Nat.zero_le _, Nat.zero_le _⟩ (fun H locs hP hD hS => ?_)
        have hP : va_P D vwCl [(x, .inr (10, [.ref t, .ref d, .ref v, .ref th, .ref z, .ref g, .ref u, .ref w, .ref k, .ref h])), (v, .inr (8, [.ref t, .ref vw, .ref vj, _, _])), (vw, .inl (cW, 40, .inr (.inr (.inr (.inr _))))), (g, .inr (6, [.ref g0, .ref g1, .ref g2, _, _, _])), (g0, .inl (cI, 60, .inl _)), (g1, .inl (cI, 60, .inl _)), (g2, .inl (cI, 60, .inl _))] H := hP
        have hD : va_D A [(x, .inr (10, [.ref t, .ref d, .ref v, .ref th, .ref z, .ref g, .ref u, .ref w, .ref k, .ref h])), (v, .inr (8, [.ref t, .ref vw, .ref vj, _, _])), (vw, .inl (cW, 40, .inr (.inr (.inr (.inr _))))), (g, .inr (6, [.ref g0, .ref g1, .ref g2, _, _, _])), (g0, .inl (cI, 60, .inl _)), (g1, .inl (cI, 60, .inl _)), (g2, .inl (cI, 60, .inl _))] := hD
        refine lv_if_eq (tgt := 63) hx hb dX10_means_50 (by decide) (fun c_50 => ?_) (fun c_50 => ?_)
        · replace c_50 := bI_0.mp c_50
          refine lv_bipush (v := -5) hx hb dX10_means_63 (by decide) ?_
          exact mu_iret X hP hS (by rw [aMeans, if_pos (by rw [c_8, hx_16]; rfl), if_pos h40, if_neg (of_decide_eq_false c_50)]) (by simp [hok, of_decide_eq_false c_50]) dX10_means_65
        · replace c_50 := bI_n0.mp c_50
          refine lv_aload_n hx hb dX10_means_53 rfl (lv_at hl 0 rfl) ?_
          refine va_get (D := D) (ci := 10) (C := RX10) (T := TX10) (N := 10) hx hb hts in_X10 hown hK hP 0 rfl rfl 5 (by decide) fl_58 (fun _ h9 => h9) rfl dX10_means_54 ?_
          refine va_get (D := D) (ci := 6) (C := RX6) (T := TX6) (N := 6) hx hb hts in_X6 hown hK hP 3 rfl rfl 4 (by decide) fl_218 (fun _ h9 => h9) rfl dX10_means_57 ?_
          refine lv_goto (tgt := 65) hx hb dX10_means_60 (by decide) ?_
          exact mu_iret X hP hS (by rw [if_pos (of_decide_eq_true c_50), aMeans, if_pos (by rw [c_8, hx_16]; rfl), if_pos h40, if_pos (of_decide_eq_true c_50)]) (by simp [hok, of_decide_eq_true c_50]) dX10_means_65
      · refine lv_iload_n hx hb dX10_means_30 rfl (lv_at hl 3 rfl) ?_
        refine ro_S (n := 1) X hK (c_X10_isFlag) gX10_means_X10_isFlag rfl (by decide +kernel) ⟨rfl, rfl⟩ ⟨Nat.le_of_ble_eq_true rfl, Nat.le_of_ble_eq_true rfl⟩ (hP.sub [] rfl) rfl hl.1 rfl (Nat.le_of_ble_eq_true rfl) dX10_means_31 ⟨Nat.zero_le _, Nat.zero_le _⟩ ?_
        refine lv_if_ne (tgt := 40) hx hb dX10_means_34 (by decide) (fun c_34 => ?_) (fun c_34 => ?_)
        · replace c_34 := bI_n0.mp c_34
          have h40 : (decide (r = -1) || isFl r) = true := by first | (simp [c_27]; done) | (simp [c_34]; done)
          have hok : meOk tc nw y e r = true := by simp only [meOk, c_8, hx_16, h40, Bool.and_self]
          refine lv_aload_n hx hb dX10_means_40 rfl (lv_at hl 0 rfl) ?_
          refine va_get (D := D) (ci := 10) (C := RX10) (T := TX10) (N := 10) hx hb hts in_X10 hown hK hP 0 rfl rfl 5 (by decide) fl_58 (fun _ h9 => h9) rfl dX10_means_41 ?_
          refine lv_iload_n hx hb dX10_means_44 rfl (lv_at hl 1 rfl) ?_
          refine lv_iload_n hx hb dX10_means_45 rfl (lv_at hl 2 rfl) ?_
          refine lv_iload_n hx hb dX10_means_46 rfl (lv_at hl 3 rfl) ?_
          refine mu_V (n := 3) X hK (c_X6_addMeaning hmm) gX10_means_X6_addMeaning rfl (by decide +kernel) ⟨rfl, rfl⟩ ⟨Nat.le_of_ble_eq_true rfl, Nat.le_of_ble_eq_true rfl⟩ [3, 4, 5, 6] rfl rfl rfl rfl hA hP hD hS (va_recv hK hP (ci := 6) (q0 := 3) rfl rfl) rfl hl.1 rfl (Nat.le_of_ble_eq_true rfl) dX10_means_47 ⟨Nat.zero_le _, Nat.zero_le _⟩ (fun H locs hP hD hS => ?_)
          have hP : va_P D vwCl [(x, .inr (10, [.ref t, .ref d, .ref v, .ref th, .ref z, .ref g, .ref u, .ref w, .ref k, .ref h])), (v, .inr (8, [.ref t, .ref vw, .ref vj, _, _])), (vw, .inl (cW, 40, .inr (.inr (.inr (.inr _))))), (g, .inr (6, [.ref g0, .ref g1, .ref g2, _, _, _])), (g0, .inl (cI, 60, .inl _)), (g1, .inl (cI, 60, .inl _)), (g2, .inl (cI, 60, .inl _))] H := hP
          have hD : va_D A [(x, .inr (10, [.ref t, .ref d, .ref v, .ref th, .ref z, .ref g, .ref u, .ref w, .ref k, .ref h])), (v, .inr (8, [.ref t, .ref vw, .ref vj, _, _])), (vw, .inl (cW, 40, .inr (.inr (.inr (.inr _))))), (g, .inr (6, [.ref g0, .ref g1, .ref g2, _, _, _])), (g0, .inl (cI, 60, .inl _)), (g1, .inl (cI, 60, .inl _)), (g2, .inl (cI, 60, .inl _))] := hD
          refine lv_if_eq (tgt := 63) hx hb dX10_means_50 (by decide) (fun c_50 => ?_) (fun c_50 => ?_)
          · replace c_50 := bI_0.mp c_50
            refine lv_bipush (v := -5) hx hb dX10_means_63 (by decide) ?_
            exact mu_iret X hP hS (by rw [aMeans, if_pos (by rw [c_8, hx_16]; rfl), if_pos h40, if_neg (of_decide_eq_false c_50)]) (by simp [hok, of_decide_eq_false c_50]) dX10_means_65
          · replace c_50 := bI_n0.mp c_50
            refine lv_aload_n hx hb dX10_means_53 rfl (lv_at hl 0 rfl) ?_
            refine va_get (D := D) (ci := 10) (C := RX10) (T := TX10) (N := 10) hx hb hts in_X10 hown hK hP 0 rfl rfl 5 (by decide) fl_58 (fun _ h9 => h9) rfl dX10_means_54 ?_
            refine va_get (D := D) (ci := 6) (C := RX6) (T := TX6) (N := 6) hx hb hts in_X6 hown hK hP 3 rfl rfl 4 (by decide) fl_218 (fun _ h9 => h9) rfl dX10_means_57 ?_
            refine lv_goto (tgt := 65) hx hb dX10_means_60 (by decide) ?_
            exact mu_iret X hP hS (by rw [if_pos (of_decide_eq_true c_50), aMeans, if_pos (by rw [c_8, hx_16]; rfl), if_pos h40, if_pos (of_decide_eq_true c_50)]) (by simp [hok, of_decide_eq_true c_50]) dX10_means_65
        · replace c_34 := bI_0.mp c_34
          have h37 : (decide (r = -1) || isFl r) = false := by simp [c_27, c_34]
          refine lv_bipush (v := -3) hx hb dX10_means_37 (by decide) ?_
          exact mu_iret X hP hS (by simp [aMeans, h37, c_8, hx_16]) (by simp [meOk, h37]) dX10_means_39

set_option maxHeartbeats 1000000 in
set_option maxRecDepth 100000 in
theorem c_X10_sumUpFrom {l : Launch} {D : va_G} {cI cJ cW : ClassId} {sz : Nat} {x t d v th z g u w k h : Nat} {kx k1 k2 k3 k4 tn : Nat} {tm : Int32} {T : Nat → Nat → Int32} {vw vj nw nj : Nat} {wf : Nat → Option Nat} {dy : va_W} {wa : Nat → Nat → Nat} {wz : Nat → Nat → Int32} {wn : Nat → Nat} {wt : Nat → Nat → Int32} {i : Nat} {σ0 : Int32 × Int32 × Int32} (htn : tn ≤ 24) (hnw : nw ≤ 40) (hwf : ∀ i, i < nw → wf i = some (wa i 0)) (hdw : Dw cI wa wz wn wt nw dy) (hi : i < tn) : MU l yX10_sumUpFrom wsX10_sumUpFrom { frames := 2, cells := 0, slots := 0, locals := 43 } D (ty3 cI cJ cW) [.ref x, .int (nI i)] ((x, .inr (10, [.ref t, .ref d, .ref v, .ref th, .ref z, .ref g, .ref u, .ref w, .ref k, .ref h])) :: (k, .inr (7, [.ref kx, .ref k1, .ref k2, .ref k3, .ref k4, .int (nI tn), .int tm])) :: (k1, .inl (cI, 24, .inl (T 1))) :: (k2, .inl (cI, 24, .inl (T 2))) :: (k3, .inl (cI, 24, .inl (T 3))) :: (k4, .inl (cI, 24, .inl (T 4))) :: (v, .inr (8, [.ref t, .ref vw, .ref vj, .int (nI nw), .int (nI nj)])) :: (vw, .inl (cW, 40, .inr (.inr (.inr (.inr wf))))) :: (u, .inr (5, [.int σ0.1, .int σ0.2.1, .int σ0.2.2])) :: dy) sz none ((x, .inr (10, [.ref t, .ref d, .ref v, .ref th, .ref z, .ref g, .ref u, .ref w, .ref k, .ref h])) :: (k, .inr (7, [.ref kx, .ref k1, .ref k2, .ref k3, .ref k4, .int (nI tn), .int tm])) :: (k1, .inl (cI, 24, .inl (T 1))) :: (k2, .inl (cI, 24, .inl (T 2))) :: (k3, .inl (cI, 24, .inl (T 3))) :: (k4, .inl (cI, 24, .inl (T 4))) :: (v, .inr (8, [.ref t, .ref vw, .ref vj, .int (nI nw), .int (nI nj)])) :: (vw, .inl (cW, 40, .inr (.inr (.inr (.inr wf))))) :: (u, .inr (5, [.int ((smA T tn nw wz i).1), .int ((smA T tn nw wz i).2.1), .int ((smA T tn nw wz i).2.2)])) :: dy) := by
  refine mu_of (cc := cX10_sumUpFrom) (maxL := 5) (ret := none) (by decide) rfl (Nat.le_of_ble_eq_true rfl) ?_
  intro pr en ss mi below meth cd X hK A hA hP hD hS ls hl
  obtain ⟨hx, hb, hml, hown, hts, hr, hlocks⟩ := id X
  have fl_147 := hts (.fieldLink RX10 147 "WordTables$Word" "worth" "I") (by decide +kernel)
  have fl_168 := hts (.fieldLink RX10 168 "WordTables$Tokens" "sorts" "[I") (by decide +kernel)
  have fl_178 := hts (.fieldLink RX10 178 "WordTables$Tokens" "numbers" "[I") (by decide +kernel)
  have fl_254 := hts (.fieldLink RX10 254 "WordTables$Tokens" "count" "I") (by decide +kernel)
  have fl_65 := hts (.fieldLink RX10 65 "WordTables" "sum" "LWordTables$Sum;") (by decide +kernel)
  have fl_79 := hts (.fieldLink RX10 79 "WordTables" "tokens" "LWordTables$Tokens;") (by decide +kernel)
  have in_X10 : ∀ w ∈ wsX100, w ∈ wsX10_sumUpFrom := by decide +kernel
  have in_X7 : ∀ w ∈ wsX70, w ∈ wsX10_sumUpFrom := by decide +kernel
  have in_X9 : ∀ w ∈ wsX90, w ∈ wsX10_sumUpFrom := by decide +kernel
  have hl : lv_has ls 5 [(0, .ref x), (1, .int (nI i))] := hl
  refine lv_aload_n hx hb dX10_sumUpFrom_0 rfl (lv_at hl 0 rfl) ?_
  refine va_get (D := D) (ci := 10) (C := RX10) (T := TX10) (N := 10) hx hb hts in_X10 hown hK hP 0 rfl rfl 6 (by decide) fl_65 (fun _ h9 => h9) rfl dX10_sumUpFrom_1 ?_
  refine mu_V (n := 0) X hK (c_X5_clear) gX10_sumUpFrom_X5_clear rfl (by decide +kernel) ⟨rfl, rfl⟩ ⟨Nat.le_of_ble_eq_true rfl, Nat.le_of_ble_eq_true rfl⟩ [8] rfl rfl rfl rfl hA hP hD hS (va_recv hK hP (ci := 5) (q0 := 8) rfl rfl) rfl hl.1 rfl (Nat.le_of_ble_eq_true rfl) dX10_sumUpFrom_4 ⟨Nat.zero_le _, Nat.zero_le _⟩ (fun H locs hP hD hS => ?_)
  have hP : va_P D vwCl ((x, .inr (10, [.ref t, .ref d, .ref v, .ref th, .ref z, .ref g, .ref u, .ref w, .ref k, .ref h])) :: (k, .inr (7, [.ref kx, .ref k1, .ref k2, .ref k3, .ref k4, _, _])) :: (k1, .inl (cI, 24, .inl _)) :: (k2, .inl (cI, 24, .inl _)) :: (k3, .inl (cI, 24, .inl _)) :: (k4, .inl (cI, 24, .inl _)) :: (v, .inr (8, [.ref t, .ref vw, .ref vj, _, _])) :: (vw, .inl (cW, 40, .inr (.inr (.inr (.inr _))))) :: (u, .inr (5, [_, _, _])) :: dy) H := hP
  have hD : va_D A ((x, .inr (10, [.ref t, .ref d, .ref v, .ref th, .ref z, .ref g, .ref u, .ref w, .ref k, .ref h])) :: (k, .inr (7, [.ref kx, .ref k1, .ref k2, .ref k3, .ref k4, _, _])) :: (k1, .inl (cI, 24, .inl _)) :: (k2, .inl (cI, 24, .inl _)) :: (k3, .inl (cI, 24, .inl _)) :: (k4, .inl (cI, 24, .inl _)) :: (v, .inr (8, [.ref t, .ref vw, .ref vj, _, _])) :: (vw, .inl (cW, 40, .inr (.inr (.inr (.inr _))))) :: (u, .inr (5, [_, _, _])) :: dy) := hD
  refine lv_aload_n hx hb dX10_sumUpFrom_7 rfl (lv_at hl 0 rfl) ?_
  refine va_get (D := D) (ci := 10) (C := RX10) (T := TX10) (N := 10) hx hb hts in_X10 hown hK hP 0 rfl rfl 8 (by decide) fl_79 (fun _ h9 => h9) rfl dX10_sumUpFrom_8 ?_
  refine lv_iload_n hx hb dX10_sumUpFrom_11 rfl (lv_at hl 1 rfl) ?_
  refine ro_V (n := 1) X hK (c_X7_has) gX10_sumUpFrom_X7_has rfl (by decide +kernel) ⟨rfl, rfl⟩ ⟨Nat.le_of_ble_eq_true rfl, Nat.le_of_ble_eq_true rfl⟩ (hP.sub [1] rfl) (va_recv hK hP (ci := 7) (q0 := 1) rfl rfl) rfl hl.1 rfl (Nat.le_of_ble_eq_true rfl) dX10_sumUpFrom_12 ⟨Nat.zero_le _, Nat.zero_le _⟩ ?_
  refine lv_if_ne (tgt := 19) hx hb dX10_sumUpFrom_15 (by decide) (fun c_15 => ?_) (fun c_15 => ?_)
  · replace c_15 := bI_n0.mp c_15
    refine lv_aload_n hx hb dX10_sumUpFrom_19 rfl (lv_at hl 0 rfl) ?_
    refine va_get (D := D) (ci := 10) (C := RX10) (T := TX10) (N := 10) hx hb hts in_X10 hown hK hP 0 rfl rfl 8 (by decide) fl_79 (fun _ h9 => h9) rfl dX10_sumUpFrom_20 ?_
    refine va_get (D := D) (ci := 7) (C := RX7) (T := TX7) (N := 7) hx hb hts in_X7 hown hK hP 1 rfl rfl 1 (by decide) fl_168 (fun _ h9 => h9) rfl dX10_sumUpFrom_23 ?_
    refine lv_iload_n hx hb dX10_sumUpFrom_26 rfl (lv_at hl 1 rfl) ?_
    refine ald_n hx hb hK hP 2 0 rfl rfl (show i < 24 by omega) (by first | decide | omega) dX10_sumUpFrom_27 ?_
    refine lv_iconst (v := 2) hx hb dX10_sumUpFrom_28 (by decide) ?_
    refine lv_icmp_ne (tgt := 49) hx hb dX10_sumUpFrom_29 (by decide) (fun c_29 => ?_) (fun c_29 => ?_)
    · refine lv_iconst (v := 1) hx hb dX10_sumUpFrom_49 (by decide) ?_
      refine lv_istore_n (lv' := [(2, _), (0, _), (1, _)]) hx hb dX10_sumUpFrom_50 rfl hl (by decide) rfl (fun ls hl => ?_)
      refine lv_iload_n hx hb dX10_sumUpFrom_51 rfl (lv_at hl 2 rfl) ?_
      refine lv_istore_n (lv' := [(3, _), (2, _), (0, _), (1, _)]) hx hb dX10_sumUpFrom_52 rfl hl (by decide) rfl (fun ls hl => ?_)
      have loop_53 : ∀ (fuel : Nat) (k0 : Nat) (go : Bool) (σ : Int32 × Int32 × Int32), tn - k0 < fuel → i ≤ k0 → k0 ≤ tn → ((if go = true then smF T tn nw wz (tn - k0) k0 σ else σ) = smF T tn nw wz (tn - i) i (0, 0, 0)) → ∀ (H : Heap) (locs : List Loc), va_P D vwCl ((x, .inr (10, [.ref t, .ref d, .ref v, .ref th, .ref z, .ref g, .ref u, .ref w, .ref k, .ref h])) :: (k, .inr (7, [.ref kx, .ref k1, .ref k2, .ref k3, .ref k4, .int (nI tn), .int tm])) :: (k1, .inl (cI, 24, .inl (T 1))) :: (k2, .inl (cI, 24, .inl (T 2))) :: (k3, .inl (cI, 24, .inl (T 3))) :: (k4, .inl (cI, 24, .inl (T 4))) :: (v, .inr (8, [.ref t, .ref vw, .ref vj, .int (nI nw), .int (nI nj)])) :: (vw, .inl (cW, 40, .inr (.inr (.inr (.inr wf))))) :: (u, .inr (5, [.int σ.1, .int σ.2.1, .int σ.2.2])) :: dy) H → va_D A ((x, .inr (10, [.ref t, .ref d, .ref v, .ref th, .ref z, .ref g, .ref u, .ref w, .ref k, .ref h])) :: (k, .inr (7, [.ref kx, .ref k1, .ref k2, .ref k3, .ref k4, .int (nI tn), .int tm])) :: (k1, .inl (cI, 24, .inl (T 1))) :: (k2, .inl (cI, 24, .inl (T 2))) :: (k3, .inl (cI, 24, .inl (T 3))) :: (k4, .inl (cI, 24, .inl (T 4))) :: (v, .inr (8, [.ref t, .ref vw, .ref vj, .int (nI nw), .int (nI nj)])) :: (vw, .inl (cW, 40, .inr (.inr (.inr (.inr wf))))) :: (u, .inr (5, [.int σ.1, .int σ.2.1, .int σ.2.2])) :: dy) → va_S A ss.heap H locs → ∀ ls : Array Slot, lv_has ls 5 [(0, .ref x), (1, .int (nI i)), (2, .int (bI go)), (3, .int (nI k0))] → W pr l en { frames := 2, cells := 0, slots := 0, locals := 43 } ss mi ([.ref x, .int (nI i)] : List Value).toArray below meth cd H locs 0 0 (MQ below (mQ none D ((x, .inr (10, [.ref t, .ref d, .ref v, .ref th, .ref z, .ref g, .ref u, .ref w, .ref k, .ref h])) :: (k, .inr (7, [.ref kx, .ref k1, .ref k2, .ref k3, .ref k4, .int (nI tn), .int tm])) :: (k1, .inl (cI, 24, .inl (T 1))) :: (k2, .inl (cI, 24, .inl (T 2))) :: (k3, .inl (cI, 24, .inl (T 3))) :: (k4, .inl (cI, 24, .inl (T 4))) :: (v, .inr (8, [.ref t, .ref vw, .ref vj, .int (nI nw), .int (nI nj)])) :: (vw, .inl (cW, 40, .inr (.inr (.inr (.inr wf))))) :: (u, .inr (5, [.int ((smA T tn nw wz i).1), .int ((smA T tn nw wz i).2.1), .int ((smA T tn nw wz i).2.2)])) :: dy) A) ([.ref x, .int (nI i)] : List Value).toArray ss 0 0 A) (F0 mi 53 ls []) := by
        intro fuel
        induction fuel with
        | zero => intro k0 go σ hm; exact absurd hm (Nat.not_lt_zero _)
        | succ fuel ih =>
          intro k0 go σ hm hik hk hr H locs hP hD hS ls hl
          refine lv_iload_n hx hb dX10_sumUpFrom_53 rfl (lv_at hl 3 rfl) ?_
          refine lv_aload_n hx hb dX10_sumUpFrom_54 rfl (lv_at hl 0 rfl) ?_
          refine va_get (D := D) (ci := 10) (C := RX10) (T := TX10) (N := 10) hx hb hts in_X10 hown hK hP 0 rfl rfl 8 (by decide) fl_79 (fun _ h9 => h9) rfl dX10_sumUpFrom_55 ?_
          refine va_get (D := D) (ci := 7) (C := RX7) (T := TX7) (N := 7) hx hb hts in_X7 hown hK hP 1 rfl rfl 5 (by decide) fl_254 (fun _ h9 => h9) rfl dX10_sumUpFrom_58 ?_
          refine lv_icmp_ge (tgt := 117) hx hb dX10_sumUpFrom_61 (by decide) (fun c_61 => ?_) (fun c_61 => ?_)
          · exact mu_vret X hP hS (by rw [smA, if_neg c_29, ← hr, show tn - k0 = 0 by have := leL (a := tn) (b := k0) c_61; omega]; cases go <;> rfl) dX10_sumUpFrom_117
          · refine lv_iload_n hx hb dX10_sumUpFrom_64 rfl (lv_at hl 2 rfl) ?_
            refine lv_if_eq (tgt := 117) hx hb dX10_sumUpFrom_65 (by decide) (fun c_65 => ?_) (fun c_65 => ?_)
            · replace c_65 := bI_0.mp c_65
              exact mu_vret X hP hS (by rw [smA, if_neg c_29, ← hr, if_neg (by rw [c_65]; decide)]) dX10_sumUpFrom_117
            · replace c_65 := bI_n0.mp c_65
              have hlt : k0 < tn := lt_nge c_61 hk (by omega)
              refine lv_aload_n hx hb dX10_sumUpFrom_68 rfl (lv_at hl 0 rfl) ?_
              refine lv_iload_n hx hb dX10_sumUpFrom_69 rfl (lv_at hl 3 rfl) ?_
              refine ro_V (n := 1) X hK (c_X10_wordOf htn hnw hwf hlt) gX10_sumUpFrom_X10_wordOf rfl (by decide +kernel) ⟨rfl, rfl⟩ ⟨Nat.le_of_ble_eq_true rfl, Nat.le_of_ble_eq_true rfl⟩ (hP.sub [0, 1, 2, 5, 6, 7] rfl) (va_recv hK hP (ci := 10) (q0 := 0) rfl rfl) rfl hl.1 rfl (Nat.le_of_ble_eq_true rfl) dX10_sumUpFrom_70 ⟨Nat.zero_le _, Nat.zero_le _⟩ ?_
              rcases h_70 : tokW T nw k0 with _ | j_70
              · refine rf_eqN rfl ?_
                refine lv_astoreN (lv' := [(4, _), (0, _), (1, _), (2, _), (3, _)]) hx hb dX10_sumUpFrom_73 hl (by decide) rfl (fun ls hl => ?_)
                refine lv_aloadN hx hb dX10_sumUpFrom_75 (lv_at hl 0 rfl) ?_
                refine lv_ifnullN (tgt := 109) hx hb dX10_sumUpFrom_77 (by decide) ?_
                refine lv_iconst (v := 0) hx hb dX10_sumUpFrom_109 (by decide) ?_
                refine lv_istore_n (lv' := [(2, _), (4, _), (0, _), (1, _), (3, _)]) hx hb dX10_sumUpFrom_110 rfl hl (by decide) rfl (fun ls hl => ?_)
                refine lv_iinc (v := (_ : Int32) + 1) (lv' := [(3, _), (2, _), (4, _), (0, _), (1, _)]) hx hb dX10_sumUpFrom_111 hl (k := 4) rfl rfl (by decide) rfl (fun ls hl => ?_)
                refine lv_goto (tgt := 53) hx hb dX10_sumUpFrom_114 (by decide) ?_
                rw [nI_1] at hl
                exact ih (k0 + 1) false σ (by omega) (by omega) (by omega) (by rw [← hr, if_pos c_65, smF_none hlt h_70]; rfl) _ _ hP hD hS _ (lv_sub hl [3, 4, 1, 0] rfl)
              · refine rf_eq (q := (wa j_70 0)) rfl ?_
                have hj_70 : j_70 < nw := tokW_lt h_70 hnw
                have hw_70 : va_P D vwCl [((wa j_70 0), .inr (9, [.ref (wa j_70 1), .int (wz j_70 1), .int (wz j_70 2), .int (wz j_70 3), .int (wz j_70 4), .int (wz j_70 5)])), ((wa j_70 1), .inr (4, [.ref (wa j_70 2), .int (nI (wn j_70))])), ((wa j_70 2), .inl (cI, (wn j_70), .inl (wt j_70)))] _ := memP (w := wCells cI wa wz wn wt j_70) hP (fun q hq => List.mem_cons_of_mem _ (List.mem_cons_of_mem _ (List.mem_cons_of_mem _ (List.mem_cons_of_mem _ (List.mem_cons_of_mem _ (List.mem_cons_of_mem _ (List.mem_cons_of_mem _ (List.mem_cons_of_mem _ (List.mem_cons_of_mem _ ((hdw j_70 hj_70).2 q hq))))))))))
                refine lv_astore (lv' := [(4, _), (0, _), (1, _), (2, _), (3, _)]) hx hb dX10_sumUpFrom_73 hl (by decide) rfl (fun ls hl => ?_)
                refine lv_aload hx hb dX10_sumUpFrom_75 (lv_at hl 0 rfl) ?_
                refine lv_ifnull hx hb dX10_sumUpFrom_77 ?_
                refine lv_aload hx hb dX10_sumUpFrom_80 (lv_at hl 0 rfl) ?_
                refine lv_bipush (v := 32) hx hb dX10_sumUpFrom_82 (by decide) ?_
                refine ro_V (n := 1) X hK (c_X9_isOneOf) gX10_sumUpFrom_X9_isOneOf rfl (by decide +kernel) ⟨rfl, rfl⟩ ⟨Nat.le_of_ble_eq_true rfl, Nat.le_of_ble_eq_true rfl⟩ (hw_70.sub [0] rfl) (va_recv hK hw_70 (ci := 9) (q0 := 0) rfl rfl) rfl hl.1 rfl (Nat.le_of_ble_eq_true rfl) dX10_sumUpFrom_84 ⟨Nat.zero_le _, Nat.zero_le _⟩ ?_
                refine lv_if_eq (tgt := 109) hx hb dX10_sumUpFrom_87 (by decide) (fun c_87 => ?_) (fun c_87 => ?_)
                · replace c_87 := bI_0.mp c_87
                  refine lv_iconst (v := 0) hx hb dX10_sumUpFrom_109 (by decide) ?_
                  refine lv_istore_n (lv' := [(2, _), (4, _), (0, _), (1, _), (3, _)]) hx hb dX10_sumUpFrom_110 rfl hl (by decide) rfl (fun ls hl => ?_)
                  refine lv_iinc (v := (_ : Int32) + 1) (lv' := [(3, _), (2, _), (4, _), (0, _), (1, _)]) hx hb dX10_sumUpFrom_111 hl (k := 4) rfl rfl (by decide) rfl (fun ls hl => ?_)
                  refine lv_goto (tgt := 53) hx hb dX10_sumUpFrom_114 (by decide) ?_
                  rw [nI_1] at hl
                  exact ih (k0 + 1) false σ (by omega) (by omega) (by omega) (by rw [← hr, if_pos c_65, smF_nk hlt h_70 (by simpa using c_87)]; rfl) _ _ hP hD hS _ (lv_sub hl [3, 4, 1, 0] rfl)
                · replace c_87 := bI_n0.mp c_87
                  refine lv_aload_n hx hb dX10_sumUpFrom_90 rfl (lv_at hl 1 rfl) ?_
                  refine va_get (D := D) (ci := 10) (C := RX10) (T := TX10) (N := 10) hx hb hts in_X10 hown hK hP 0 rfl rfl 6 (by decide) fl_65 (fun _ h9 => h9) rfl dX10_sumUpFrom_91 ?_
                  refine lv_aload hx hb dX10_sumUpFrom_94 (lv_at hl 0 rfl) ?_
                  refine va_get (D := D) (ci := 9) (C := RX9) (T := TX9) (N := 6) hx hb hts in_X9 hown hK hw_70 0 rfl rfl 3 (by decide) fl_147 (fun _ h9 => h9) rfl dX10_sumUpFrom_96 ?_
                  refine mu_V (n := 1) X hK (c_X5_accept) gX10_sumUpFrom_X5_accept rfl (by decide +kernel) ⟨rfl, rfl⟩ ⟨Nat.le_of_ble_eq_true rfl, Nat.le_of_ble_eq_true rfl⟩ [8] rfl rfl rfl rfl hA hP hD hS (va_recv hK hP (ci := 5) (q0 := 8) rfl rfl) rfl hl.1 rfl (Nat.le_of_ble_eq_true rfl) dX10_sumUpFrom_99 ⟨Nat.zero_le _, Nat.zero_le _⟩ (fun H locs hP hD hS => ?_)
                  have hP : va_P D vwCl ((x, .inr (10, [.ref t, .ref d, .ref v, .ref th, .ref z, .ref g, .ref u, .ref w, .ref k, .ref h])) :: (k, .inr (7, [.ref kx, .ref k1, .ref k2, .ref k3, .ref k4, _, _])) :: (k1, .inl (cI, 24, .inl _)) :: (k2, .inl (cI, 24, .inl _)) :: (k3, .inl (cI, 24, .inl _)) :: (k4, .inl (cI, 24, .inl _)) :: (v, .inr (8, [.ref t, .ref vw, .ref vj, _, _])) :: (vw, .inl (cW, 40, .inr (.inr (.inr (.inr _))))) :: (u, .inr (5, [_, _, _])) :: dy) H := hP
                  have hD : va_D A ((x, .inr (10, [.ref t, .ref d, .ref v, .ref th, .ref z, .ref g, .ref u, .ref w, .ref k, .ref h])) :: (k, .inr (7, [.ref kx, .ref k1, .ref k2, .ref k3, .ref k4, _, _])) :: (k1, .inl (cI, 24, .inl _)) :: (k2, .inl (cI, 24, .inl _)) :: (k3, .inl (cI, 24, .inl _)) :: (k4, .inl (cI, 24, .inl _)) :: (v, .inr (8, [.ref t, .ref vw, .ref vj, _, _])) :: (vw, .inl (cW, 40, .inr (.inr (.inr (.inr _))))) :: (u, .inr (5, [_, _, _])) :: dy) := hD
                  refine lv_if_eq (tgt := 109) hx hb dX10_sumUpFrom_102 (by decide) (fun c_102 => ?_) (fun c_102 => ?_)
                  · replace c_102 := bI_0.mp c_102
                    refine lv_iconst (v := 0) hx hb dX10_sumUpFrom_109 (by decide) ?_
                    refine lv_istore_n (lv' := [(2, _), (4, _), (0, _), (1, _), (3, _)]) hx hb dX10_sumUpFrom_110 rfl hl (by decide) rfl (fun ls hl => ?_)
                    refine lv_iinc (v := (_ : Int32) + 1) (lv' := [(3, _), (2, _), (4, _), (0, _), (1, _)]) hx hb dX10_sumUpFrom_111 hl (k := 4) rfl rfl (by decide) rfl (fun ls hl => ?_)
                    refine lv_goto (tgt := 53) hx hb dX10_sumUpFrom_114 (by decide) ?_
                    rw [nI_1] at hl
                    exact ih (k0 + 1) false (sumA σ.1 σ.2.1 σ.2.2 (wz j_70 3)).2 (by omega) (by omega) (by omega) (by rw [← hr, if_pos c_65, smF_no hlt h_70 (by simpa using c_87) c_102]; rfl) _ _ hP hD hS _ (lv_sub hl [3, 4, 1, 0] rfl)
                  · replace c_102 := bI_n0.mp c_102
                    refine lv_iconst (v := 1) hx hb dX10_sumUpFrom_105 (by decide) ?_
                    refine lv_goto (tgt := 110) hx hb dX10_sumUpFrom_106 (by decide) ?_
                    refine lv_istore_n (lv' := [(2, _), (4, _), (0, _), (1, _), (3, _)]) hx hb dX10_sumUpFrom_110 rfl hl (by decide) rfl (fun ls hl => ?_)
                    refine lv_iinc (v := (_ : Int32) + 1) (lv' := [(3, _), (2, _), (4, _), (0, _), (1, _)]) hx hb dX10_sumUpFrom_111 hl (k := 4) rfl rfl (by decide) rfl (fun ls hl => ?_)
                    refine lv_goto (tgt := 53) hx hb dX10_sumUpFrom_114 (by decide) ?_
                    rw [nI_1] at hl
                    exact ih (k0 + 1) true (sumA σ.1 σ.2.1 σ.2.2 (wz j_70 3)).2 (by omega) (by omega) (by omega) (by rw [← hr, if_pos c_65, smF_go hlt h_70 (by simpa using c_87) c_102]; rfl) _ _ hP hD hS _ (lv_sub hl [3, 4, 1, 0] rfl)
      exact loop_53 (tn + 1) i true (0, 0, 0) (by omega) (Nat.le_refl _) (by omega) rfl _ _ hP hD hS ls (lv_sub hl [2, 3, 1, 0] rfl)
    · refine lv_aload_n hx hb dX10_sumUpFrom_32 rfl (lv_at hl 0 rfl) ?_
      refine va_get (D := D) (ci := 10) (C := RX10) (T := TX10) (N := 10) hx hb hts in_X10 hown hK hP 0 rfl rfl 6 (by decide) fl_65 (fun _ h9 => h9) rfl dX10_sumUpFrom_33 ?_
      refine lv_aload_n hx hb dX10_sumUpFrom_36 rfl (lv_at hl 0 rfl) ?_
      refine va_get (D := D) (ci := 10) (C := RX10) (T := TX10) (N := 10) hx hb hts in_X10 hown hK hP 0 rfl rfl 8 (by decide) fl_79 (fun _ h9 => h9) rfl dX10_sumUpFrom_37 ?_
      refine va_get (D := D) (ci := 7) (C := RX7) (T := TX7) (N := 7) hx hb hts in_X7 hown hK hP 1 rfl rfl 4 (by decide) fl_178 (fun _ h9 => h9) rfl dX10_sumUpFrom_40 ?_
      refine lv_iload_n hx hb dX10_sumUpFrom_43 rfl (lv_at hl 1 rfl) ?_
      refine ald_n hx hb hK hP 5 0 rfl rfl (show i < 24 by omega) (by first | decide | omega) dX10_sumUpFrom_44 ?_
      refine mu_V (n := 1) X hK (c_X5_begin) gX10_sumUpFrom_X5_begin rfl (by decide +kernel) ⟨rfl, rfl⟩ ⟨Nat.le_of_ble_eq_true rfl, Nat.le_of_ble_eq_true rfl⟩ [8] rfl rfl rfl rfl hA hP hD hS (va_recv hK hP (ci := 5) (q0 := 8) rfl rfl) rfl hl.1 rfl (Nat.le_of_ble_eq_true rfl) dX10_sumUpFrom_45 ⟨Nat.zero_le _, Nat.zero_le _⟩ (fun H locs hP hD hS => ?_)
      have hP : va_P D vwCl ((x, .inr (10, [.ref t, .ref d, .ref v, .ref th, .ref z, .ref g, .ref u, .ref w, .ref k, .ref h])) :: (k, .inr (7, [.ref kx, .ref k1, .ref k2, .ref k3, .ref k4, _, _])) :: (k1, .inl (cI, 24, .inl _)) :: (k2, .inl (cI, 24, .inl _)) :: (k3, .inl (cI, 24, .inl _)) :: (k4, .inl (cI, 24, .inl _)) :: (v, .inr (8, [.ref t, .ref vw, .ref vj, _, _])) :: (vw, .inl (cW, 40, .inr (.inr (.inr (.inr _))))) :: (u, .inr (5, [_, _, _])) :: dy) H := hP
      have hD : va_D A ((x, .inr (10, [.ref t, .ref d, .ref v, .ref th, .ref z, .ref g, .ref u, .ref w, .ref k, .ref h])) :: (k, .inr (7, [.ref kx, .ref k1, .ref k2, .ref k3, .ref k4, _, _])) :: (k1, .inl (cI, 24, .inl _)) :: (k2, .inl (cI, 24, .inl _)) :: (k3, .inl (cI, 24, .inl _)) :: (k4, .inl (cI, 24, .inl _)) :: (v, .inr (8, [.ref t, .ref vw, .ref vj, _, _])) :: (vw, .inl (cW, 40, .inr (.inr (.inr (.inr _))))) :: (u, .inr (5, [_, _, _])) :: dy) := hD
      exact mu_vret X hP hS (by rw [smA, if_pos c_29]) dX10_sumUpFrom_48
  · replace c_15 := bI_0.mp c_15
    exact absurd c_15 (by rw [hasK_nI hi htn]; decide)

set_option maxHeartbeats 1000000 in
set_option maxRecDepth 100000 in
theorem c_X10_amount {l : Launch} {D : va_G} {cI cJ cW : ClassId} {sz : Nat} {x t d v th z g u w k h : Nat} {kx k1 k2 k3 k4 tn : Nat} {tm : Int32} {T : Nat → Nat → Int32} {vw vj nw nj : Nat} {wf : Nat → Option Nat} {dy : va_W} {wa : Nat → Nat → Nat} {wz : Nat → Nat → Int32} {wn : Nat → Nat} {wt : Nat → Nat → Int32} {y : Int32} {σ0 : Int32 × Int32 × Int32} (htn : tn ≤ 24) (hnw : nw ≤ 40) (hwf : ∀ i, i < nw → wf i = some (wa i 0)) (hdw : Dw cI wa wz wn wt nw dy) : MU l yX10_amount wsX10_amount { frames := 3, cells := 0, slots := 0, locals := 67 } D (ty3 cI cJ cW) [.ref x, .int y] ((x, .inr (10, [.ref t, .ref d, .ref v, .ref th, .ref z, .ref g, .ref u, .ref w, .ref k, .ref h])) :: (k, .inr (7, [.ref kx, .ref k1, .ref k2, .ref k3, .ref k4, .int (nI tn), .int tm])) :: (k1, .inl (cI, 24, .inl (T 1))) :: (k2, .inl (cI, 24, .inl (T 2))) :: (k3, .inl (cI, 24, .inl (T 3))) :: (k4, .inl (cI, 24, .inl (T 4))) :: (v, .inr (8, [.ref t, .ref vw, .ref vj, .int (nI nw), .int (nI nj)])) :: (vw, .inl (cW, 40, .inr (.inr (.inr (.inr wf))))) :: (u, .inr (5, [.int σ0.1, .int σ0.2.1, .int σ0.2.2])) :: dy) sz (some (.int (aAmount T tn nw wz y))) ((x, .inr (10, [.ref t, .ref d, .ref v, .ref th, .ref z, .ref g, .ref u, .ref w, .ref k, .ref h])) :: (k, .inr (7, [.ref kx, .ref k1, .ref k2, .ref k3, .ref k4, .int (nI tn), .int tm])) :: (k1, .inl (cI, 24, .inl (T 1))) :: (k2, .inl (cI, 24, .inl (T 2))) :: (k3, .inl (cI, 24, .inl (T 3))) :: (k4, .inl (cI, 24, .inl (T 4))) :: (v, .inr (8, [.ref t, .ref vw, .ref vj, .int (nI nw), .int (nI nj)])) :: (vw, .inl (cW, 40, .inr (.inr (.inr (.inr wf))))) :: (u, .inr (5, [.int ((suS T tn nw wz y σ0).1), .int ((suS T tn nw wz y σ0).2.1), .int ((suS T tn nw wz y σ0).2.2)])) :: dy) := by
  refine mu_of (cc := cX10_amount) (maxL := 2) (ret := (some .int)) (by decide) rfl (Nat.le_of_ble_eq_true rfl) ?_
  intro pr en ss mi below meth cd X hK A hA hP hD hS ls hl
  obtain ⟨hx, hb, hml, hown, hts, hr, hlocks⟩ := id X
  have fl_197 := hts (.fieldLink RX10 197 "WordTables$Sum" "length" "I") (by decide +kernel)
  have fl_200 := hts (.fieldLink RX10 200 "WordTables$Sum" "rest" "I") (by decide +kernel)
  have fl_203 := hts (.fieldLink RX10 203 "WordTables$Sum" "part" "I") (by decide +kernel)
  have fl_65 := hts (.fieldLink RX10 65 "WordTables" "sum" "LWordTables$Sum;") (by decide +kernel)
  have fl_79 := hts (.fieldLink RX10 79 "WordTables" "tokens" "LWordTables$Tokens;") (by decide +kernel)
  have in_X10 : ∀ w ∈ wsX100, w ∈ wsX10_amount := by decide +kernel
  have in_X5 : ∀ w ∈ wsX50, w ∈ wsX10_amount := by decide +kernel
  have hl : lv_has ls 2 [(0, .ref x), (1, .int y)] := hl
  refine lv_aload_n hx hb dX10_amount_0 rfl (lv_at hl 0 rfl) ?_
  refine va_get (D := D) (ci := 10) (C := RX10) (T := TX10) (N := 10) hx hb hts in_X10 hown hK hP 0 rfl rfl 8 (by decide) fl_79 (fun _ h9 => h9) rfl dX10_amount_1 ?_
  refine lv_iload_n hx hb dX10_amount_4 rfl (lv_at hl 1 rfl) ?_
  refine ro_V (n := 1) X hK (c_X7_has) gX10_amount_X7_has rfl (by decide +kernel) ⟨rfl, rfl⟩ ⟨Nat.le_of_ble_eq_true rfl, Nat.le_of_ble_eq_true rfl⟩ (hP.sub [1] rfl) (va_recv hK hP (ci := 7) (q0 := 1) rfl rfl) rfl hl.1 rfl (Nat.le_of_ble_eq_true rfl) dX10_amount_5 ⟨Nat.zero_le _, Nat.zero_le _⟩ ?_
  refine lv_if_ne (tgt := 14) hx hb dX10_amount_8 (by decide) (fun c_8 => ?_) (fun c_8 => ?_)
  · replace c_8 := bI_n0.mp c_8
    obtain ⟨i, hi, rfl⟩ := hasK_t c_8 htn
    refine lv_aload_n hx hb dX10_amount_14 rfl (lv_at hl 0 rfl) ?_
    refine lv_iload_n hx hb dX10_amount_15 rfl (lv_at hl 1 rfl) ?_
    refine mu_VT (n := 1) (dy := dy) [_, _, _, _, _, _, _, _, _] [_, _, _, _, _, _, _, _, _] [_, _, _, _, _, _, _, _, _] X hK (c_X10_sumUpFrom (T := T) (σ0 := σ0) (tm := tm) htn hnw hwf hdw hi) gX10_amount_X10_sumUpFrom rfl (by decide +kernel) ⟨rfl, rfl⟩ ⟨Nat.le_of_ble_eq_true rfl, Nat.le_of_ble_eq_true rfl⟩ [0, 1, 2, 3, 4, 5, 6, 7, 8] rfl rfl rfl rfl hA hP hD hS (va_recv hK hP (ci := 10) (q0 := 0) rfl rfl) rfl hl.1 rfl (Nat.le_of_ble_eq_true rfl) dX10_amount_16 ⟨Nat.zero_le _, Nat.zero_le _⟩ (fun H locs hP hD hS => ?_)
    have hP : va_P D vwCl ((x, .inr (10, [.ref t, .ref d, .ref v, .ref th, .ref z, .ref g, .ref u, .ref w, .ref k, .ref h])) :: (k, .inr (7, [.ref kx, .ref k1, .ref k2, .ref k3, .ref k4, _, _])) :: (k1, .inl (cI, 24, .inl _)) :: (k2, .inl (cI, 24, .inl _)) :: (k3, .inl (cI, 24, .inl _)) :: (k4, .inl (cI, 24, .inl _)) :: (v, .inr (8, [.ref t, .ref vw, .ref vj, _, _])) :: (vw, .inl (cW, 40, .inr (.inr (.inr (.inr _))))) :: (u, .inr (5, [_, _, _])) :: dy) H := hP
    have hD : va_D A ((x, .inr (10, [.ref t, .ref d, .ref v, .ref th, .ref z, .ref g, .ref u, .ref w, .ref k, .ref h])) :: (k, .inr (7, [.ref kx, .ref k1, .ref k2, .ref k3, .ref k4, _, _])) :: (k1, .inl (cI, 24, .inl _)) :: (k2, .inl (cI, 24, .inl _)) :: (k3, .inl (cI, 24, .inl _)) :: (k4, .inl (cI, 24, .inl _)) :: (v, .inr (8, [.ref t, .ref vw, .ref vj, _, _])) :: (vw, .inl (cW, 40, .inr (.inr (.inr (.inr _))))) :: (u, .inr (5, [_, _, _])) :: dy) := hD
    refine lv_aload_n hx hb dX10_amount_19 rfl (lv_at hl 0 rfl) ?_
    refine va_get (D := D) (ci := 10) (C := RX10) (T := TX10) (N := 10) hx hb hts in_X10 hown hK hP 0 rfl rfl 6 (by decide) fl_65 (fun _ h9 => h9) rfl dX10_amount_20 ?_
    refine va_get (D := D) (ci := 5) (C := RX5) (T := TX5) (N := 3) hx hb hts in_X5 hown hK hP 8 rfl rfl 2 (by decide) fl_197 (fun _ h9 => h9) rfl dX10_amount_23 ?_
    refine lv_if_ne (tgt := 34) hx hb dX10_amount_26 (by decide) (fun c_26 => ?_) (fun c_26 => ?_)
    · refine lv_aload_n hx hb dX10_amount_34 rfl (lv_at hl 0 rfl) ?_
      refine va_get (D := D) (ci := 10) (C := RX10) (T := TX10) (N := 10) hx hb hts in_X10 hown hK hP 0 rfl rfl 6 (by decide) fl_65 (fun _ h9 => h9) rfl dX10_amount_35 ?_
      refine va_get (D := D) (ci := 5) (C := RX5) (T := TX5) (N := 3) hx hb hts in_X5 hown hK hP 8 rfl rfl 0 (by decide) fl_200 (fun _ h9 => h9) rfl dX10_amount_38 ?_
      refine lv_aload_n hx hb dX10_amount_41 rfl (lv_at hl 0 rfl) ?_
      refine va_get (D := D) (ci := 10) (C := RX10) (T := TX10) (N := 10) hx hb hts in_X10 hown hK hP 0 rfl rfl 6 (by decide) fl_65 (fun _ h9 => h9) rfl dX10_amount_42 ?_
      refine va_get (D := D) (ci := 5) (C := RX5) (T := TX5) (N := 3) hx hb hts in_X5 hown hK hP 8 rfl rfl 1 (by decide) fl_203 (fun _ h9 => h9) rfl dX10_amount_45 ?_
      refine lv_iadd hx hb dX10_amount_48 ?_
      exact mu_iret X hP hS (by simp [aAmount, ixO_nI hi (show tn < 2 ^ 31 by omega), c_8, c_26]) (by simp [suS, ixO_nI hi (show tn < 2 ^ 31 by omega)]) dX10_amount_49
    · refine lv_bipush (v := -4) hx hb dX10_amount_29 (by decide) ?_
      refine lv_goto (tgt := 49) hx hb dX10_amount_31 (by decide) ?_
      exact mu_iret X hP hS (by simp [aAmount, ixO_nI hi (show tn < 2 ^ 31 by omega), c_8, c_26]) (by simp [suS, ixO_nI hi (show tn < 2 ^ 31 by omega)]) dX10_amount_49
  · replace c_8 := bI_0.mp c_8
    refine lv_bipush (v := -2) hx hb dX10_amount_11 (by decide) ?_
    exact mu_iret X hP hS (by simp [aAmount, hasK_f c_8 htn]) (by simp [suS, hasK_f c_8 htn]) dX10_amount_13

set_option maxHeartbeats 1000000 in
set_option maxRecDepth 100000 in
theorem c_X10_amountLength {l : Launch} {D : va_G} {cI cJ cW : ClassId} {sz : Nat} {x t d v th z g u w k h : Nat} {kx k1 k2 k3 k4 tn : Nat} {tm : Int32} {T : Nat → Nat → Int32} {vw vj nw nj : Nat} {wf : Nat → Option Nat} {dy : va_W} {wa : Nat → Nat → Nat} {wz : Nat → Nat → Int32} {wn : Nat → Nat} {wt : Nat → Nat → Int32} {y : Int32} {σ0 : Int32 × Int32 × Int32} (htn : tn ≤ 24) (hnw : nw ≤ 40) (hwf : ∀ i, i < nw → wf i = some (wa i 0)) (hdw : Dw cI wa wz wn wt nw dy) : MU l yX10_amountLength wsX10_amountLength { frames := 3, cells := 0, slots := 0, locals := 67 } D (ty3 cI cJ cW) [.ref x, .int y] ((x, .inr (10, [.ref t, .ref d, .ref v, .ref th, .ref z, .ref g, .ref u, .ref w, .ref k, .ref h])) :: (k, .inr (7, [.ref kx, .ref k1, .ref k2, .ref k3, .ref k4, .int (nI tn), .int tm])) :: (k1, .inl (cI, 24, .inl (T 1))) :: (k2, .inl (cI, 24, .inl (T 2))) :: (k3, .inl (cI, 24, .inl (T 3))) :: (k4, .inl (cI, 24, .inl (T 4))) :: (v, .inr (8, [.ref t, .ref vw, .ref vj, .int (nI nw), .int (nI nj)])) :: (vw, .inl (cW, 40, .inr (.inr (.inr (.inr wf))))) :: (u, .inr (5, [.int σ0.1, .int σ0.2.1, .int σ0.2.2])) :: dy) sz (some (.int (aAmLen T tn nw wz y))) ((x, .inr (10, [.ref t, .ref d, .ref v, .ref th, .ref z, .ref g, .ref u, .ref w, .ref k, .ref h])) :: (k, .inr (7, [.ref kx, .ref k1, .ref k2, .ref k3, .ref k4, .int (nI tn), .int tm])) :: (k1, .inl (cI, 24, .inl (T 1))) :: (k2, .inl (cI, 24, .inl (T 2))) :: (k3, .inl (cI, 24, .inl (T 3))) :: (k4, .inl (cI, 24, .inl (T 4))) :: (v, .inr (8, [.ref t, .ref vw, .ref vj, .int (nI nw), .int (nI nj)])) :: (vw, .inl (cW, 40, .inr (.inr (.inr (.inr wf))))) :: (u, .inr (5, [.int ((suS T tn nw wz y σ0).1), .int ((suS T tn nw wz y σ0).2.1), .int ((suS T tn nw wz y σ0).2.2)])) :: dy) := by
  refine mu_of (cc := cX10_amountLength) (maxL := 2) (ret := (some .int)) (by decide) rfl (Nat.le_of_ble_eq_true rfl) ?_
  intro pr en ss mi below meth cd X hK A hA hP hD hS ls hl
  obtain ⟨hx, hb, hml, hown, hts, hr, hlocks⟩ := id X
  have fl_197 := hts (.fieldLink RX10 197 "WordTables$Sum" "length" "I") (by decide +kernel)
  have fl_65 := hts (.fieldLink RX10 65 "WordTables" "sum" "LWordTables$Sum;") (by decide +kernel)
  have fl_79 := hts (.fieldLink RX10 79 "WordTables" "tokens" "LWordTables$Tokens;") (by decide +kernel)
  have in_X10 : ∀ w ∈ wsX100, w ∈ wsX10_amountLength := by decide +kernel
  have in_X5 : ∀ w ∈ wsX50, w ∈ wsX10_amountLength := by decide +kernel
  have hl : lv_has ls 2 [(0, .ref x), (1, .int y)] := hl
  refine lv_aload_n hx hb dX10_amountLength_0 rfl (lv_at hl 0 rfl) ?_
  refine va_get (D := D) (ci := 10) (C := RX10) (T := TX10) (N := 10) hx hb hts in_X10 hown hK hP 0 rfl rfl 8 (by decide) fl_79 (fun _ h9 => h9) rfl dX10_amountLength_1 ?_
  refine lv_iload_n hx hb dX10_amountLength_4 rfl (lv_at hl 1 rfl) ?_
  refine ro_V (n := 1) X hK (c_X7_has) gX10_amountLength_X7_has rfl (by decide +kernel) ⟨rfl, rfl⟩ ⟨Nat.le_of_ble_eq_true rfl, Nat.le_of_ble_eq_true rfl⟩ (hP.sub [1] rfl) (va_recv hK hP (ci := 7) (q0 := 1) rfl rfl) rfl hl.1 rfl (Nat.le_of_ble_eq_true rfl) dX10_amountLength_5 ⟨Nat.zero_le _, Nat.zero_le _⟩ ?_
  refine lv_if_ne (tgt := 14) hx hb dX10_amountLength_8 (by decide) (fun c_8 => ?_) (fun c_8 => ?_)
  · replace c_8 := bI_n0.mp c_8
    obtain ⟨i, hi, rfl⟩ := hasK_t c_8 htn
    refine lv_aload_n hx hb dX10_amountLength_14 rfl (lv_at hl 0 rfl) ?_
    refine lv_iload_n hx hb dX10_amountLength_15 rfl (lv_at hl 1 rfl) ?_
    refine mu_VT (n := 1) (dy := dy) [_, _, _, _, _, _, _, _, _] [_, _, _, _, _, _, _, _, _] [_, _, _, _, _, _, _, _, _] X hK (c_X10_sumUpFrom (T := T) (σ0 := σ0) (tm := tm) htn hnw hwf hdw hi) gX10_amountLength_X10_sumUpFrom rfl (by decide +kernel) ⟨rfl, rfl⟩ ⟨Nat.le_of_ble_eq_true rfl, Nat.le_of_ble_eq_true rfl⟩ [0, 1, 2, 3, 4, 5, 6, 7, 8] rfl rfl rfl rfl hA hP hD hS (va_recv hK hP (ci := 10) (q0 := 0) rfl rfl) rfl hl.1 rfl (Nat.le_of_ble_eq_true rfl) dX10_amountLength_16 ⟨Nat.zero_le _, Nat.zero_le _⟩ (fun H locs hP hD hS => ?_)
    have hP : va_P D vwCl ((x, .inr (10, [.ref t, .ref d, .ref v, .ref th, .ref z, .ref g, .ref u, .ref w, .ref k, .ref h])) :: (k, .inr (7, [.ref kx, .ref k1, .ref k2, .ref k3, .ref k4, _, _])) :: (k1, .inl (cI, 24, .inl _)) :: (k2, .inl (cI, 24, .inl _)) :: (k3, .inl (cI, 24, .inl _)) :: (k4, .inl (cI, 24, .inl _)) :: (v, .inr (8, [.ref t, .ref vw, .ref vj, _, _])) :: (vw, .inl (cW, 40, .inr (.inr (.inr (.inr _))))) :: (u, .inr (5, [_, _, _])) :: dy) H := hP
    have hD : va_D A ((x, .inr (10, [.ref t, .ref d, .ref v, .ref th, .ref z, .ref g, .ref u, .ref w, .ref k, .ref h])) :: (k, .inr (7, [.ref kx, .ref k1, .ref k2, .ref k3, .ref k4, _, _])) :: (k1, .inl (cI, 24, .inl _)) :: (k2, .inl (cI, 24, .inl _)) :: (k3, .inl (cI, 24, .inl _)) :: (k4, .inl (cI, 24, .inl _)) :: (v, .inr (8, [.ref t, .ref vw, .ref vj, _, _])) :: (vw, .inl (cW, 40, .inr (.inr (.inr (.inr _))))) :: (u, .inr (5, [_, _, _])) :: dy) := hD
    refine lv_aload_n hx hb dX10_amountLength_19 rfl (lv_at hl 0 rfl) ?_
    refine va_get (D := D) (ci := 10) (C := RX10) (T := TX10) (N := 10) hx hb hts in_X10 hown hK hP 0 rfl rfl 6 (by decide) fl_65 (fun _ h9 => h9) rfl dX10_amountLength_20 ?_
    refine va_get (D := D) (ci := 5) (C := RX5) (T := TX5) (N := 3) hx hb hts in_X5 hown hK hP 8 rfl rfl 2 (by decide) fl_197 (fun _ h9 => h9) rfl dX10_amountLength_23 ?_
    exact mu_iret X hP hS (by simp [aAmLen, ixO_nI hi (show tn < 2 ^ 31 by omega), c_8]) (by simp [suS, ixO_nI hi (show tn < 2 ^ 31 by omega)]) dX10_amountLength_26
  · replace c_8 := bI_0.mp c_8
    refine lv_bipush (v := -2) hx hb dX10_amountLength_11 (by decide) ?_
    exact mu_iret X hP hS (by simp [aAmLen, hasK_f c_8 htn]) (by simp [suS, hasK_f c_8 htn]) dX10_amountLength_13

set_option maxHeartbeats 1000000 in
set_option maxRecDepth 100000 in
theorem c_X10_followPhraseFrom {l : Launch} {D : va_G} {cI cJ cW : ClassId} {sz : Nat} {x t d v th z g u w k h : Nat} {kx k1 k2 k3 k4 tn : Nat} {tm : Int32} {T : Nat → Nat → Int32} {vw vj nw nj : Nat} {wf : Nat → Option Nat} {dy : va_W} {wa : Nat → Nat → Nat} {wz : Nat → Nat → Int32} {wn : Nat → Nat} {wt : Nat → Nat → Int32} {g0 g1 g2 mm : Nat} {tc fu : Int32} {mt mw mf : Nat → Int32} {i : Nat} {σ0 : Int32 × Int32} (htn : tn ≤ 24) (hnw : nw ≤ 40) (hwf : ∀ i, i < nw → wf i = some (wa i 0)) (hdw : Dw cI wa wz wn wt nw dy) (hmm : mm ≤ 60) (hi : i < tn) : MU l yX10_followPhraseFrom wsX10_followPhraseFrom { frames := 3, cells := 0, slots := 0, locals := 68 } D (ty3 cI cJ cW) [.ref x, .int (nI i)] ((x, .inr (10, [.ref t, .ref d, .ref v, .ref th, .ref z, .ref g, .ref u, .ref w, .ref k, .ref h])) :: (k, .inr (7, [.ref kx, .ref k1, .ref k2, .ref k3, .ref k4, .int (nI tn), .int tm])) :: (k1, .inl (cI, 24, .inl (T 1))) :: (k2, .inl (cI, 24, .inl (T 2))) :: (k3, .inl (cI, 24, .inl (T 3))) :: (k4, .inl (cI, 24, .inl (T 4))) :: (v, .inr (8, [.ref t, .ref vw, .ref vj, .int (nI nw), .int (nI nj)])) :: (vw, .inl (cW, 40, .inr (.inr (.inr (.inr wf))))) :: (g, .inr (6, [.ref g0, .ref g1, .ref g2, .int tc, .int (nI mm), .int fu])) :: (g0, .inl (cI, 60, .inl mt)) :: (g1, .inl (cI, 60, .inl mw)) :: (g2, .inl (cI, 60, .inl mf)) :: (w, .inr (0, [.int σ0.1, .int σ0.2])) :: dy) sz none ((x, .inr (10, [.ref t, .ref d, .ref v, .ref th, .ref z, .ref g, .ref u, .ref w, .ref k, .ref h])) :: (k, .inr (7, [.ref kx, .ref k1, .ref k2, .ref k3, .ref k4, .int (nI tn), .int tm])) :: (k1, .inl (cI, 24, .inl (T 1))) :: (k2, .inl (cI, 24, .inl (T 2))) :: (k3, .inl (cI, 24, .inl (T 3))) :: (k4, .inl (cI, 24, .inl (T 4))) :: (v, .inr (8, [.ref t, .ref vw, .ref vj, .int (nI nw), .int (nI nj)])) :: (vw, .inl (cW, 40, .inr (.inr (.inr (.inr wf))))) :: (g, .inr (6, [.ref g0, .ref g1, .ref g2, .int tc, .int (nI mm), .int fu])) :: (g0, .inl (cI, 60, .inl mt)) :: (g1, .inl (cI, 60, .inl mw)) :: (g2, .inl (cI, 60, .inl mf)) :: (w, .inr (0, [.int ((phF T tn nw wz (tmI T nw wz mt mw mf fu mm) (tn - i) i (0, 0)).1), .int ((phF T tn nw wz (tmI T nw wz mt mw mf fu mm) (tn - i) i (0, 0)).2)])) :: dy) := by
  refine mu_of (cc := cX10_followPhraseFrom) (maxL := 5) (ret := none) (by decide) rfl (Nat.le_of_ble_eq_true rfl) ?_
  intro pr en ss mi below meth cd X hK A hA hP hD hS ls hl
  obtain ⟨hx, hb, hml, hown, hts, hr, hlocks⟩ := id X
  have fl_254 := hts (.fieldLink RX10 254 "WordTables$Tokens" "count" "I") (by decide +kernel)
  have fl_72 := hts (.fieldLink RX10 72 "WordTables" "common" "LWordTables$Common;") (by decide +kernel)
  have fl_79 := hts (.fieldLink RX10 79 "WordTables" "tokens" "LWordTables$Tokens;") (by decide +kernel)
  have in_X10 : ∀ w ∈ wsX100, w ∈ wsX10_followPhraseFrom := by decide +kernel
  have in_X7 : ∀ w ∈ wsX70, w ∈ wsX10_followPhraseFrom := by decide +kernel
  have hl : lv_has ls 5 [(0, .ref x), (1, .int (nI i))] := hl
  refine lv_aload_n hx hb dX10_followPhraseFrom_0 rfl (lv_at hl 0 rfl) ?_
  refine va_get (D := D) (ci := 10) (C := RX10) (T := TX10) (N := 10) hx hb hts in_X10 hown hK hP 0 rfl rfl 7 (by decide) fl_72 (fun _ h9 => h9) rfl dX10_followPhraseFrom_1 ?_
  refine mu_V (n := 0) X hK (c_X0_clear) gX10_followPhraseFrom_X0_clear rfl (by decide +kernel) ⟨rfl, rfl⟩ ⟨Nat.le_of_ble_eq_true rfl, Nat.le_of_ble_eq_true rfl⟩ [12] rfl rfl rfl rfl hA hP hD hS (va_recv hK hP (ci := 0) (q0 := 12) rfl rfl) rfl hl.1 rfl (Nat.le_of_ble_eq_true rfl) dX10_followPhraseFrom_4 ⟨Nat.zero_le _, Nat.zero_le _⟩ (fun H locs hP hD hS => ?_)
  have hP : va_P D vwCl ((x, .inr (10, [.ref t, .ref d, .ref v, .ref th, .ref z, .ref g, .ref u, .ref w, .ref k, .ref h])) :: (k, .inr (7, [.ref kx, .ref k1, .ref k2, .ref k3, .ref k4, _, _])) :: (k1, .inl (cI, 24, .inl _)) :: (k2, .inl (cI, 24, .inl _)) :: (k3, .inl (cI, 24, .inl _)) :: (k4, .inl (cI, 24, .inl _)) :: (v, .inr (8, [.ref t, .ref vw, .ref vj, _, _])) :: (vw, .inl (cW, 40, .inr (.inr (.inr (.inr _))))) :: (g, .inr (6, [.ref g0, .ref g1, .ref g2, _, _, _])) :: (g0, .inl (cI, 60, .inl _)) :: (g1, .inl (cI, 60, .inl _)) :: (g2, .inl (cI, 60, .inl _)) :: (w, .inr (0, [_, _])) :: dy) H := hP
  have hD : va_D A ((x, .inr (10, [.ref t, .ref d, .ref v, .ref th, .ref z, .ref g, .ref u, .ref w, .ref k, .ref h])) :: (k, .inr (7, [.ref kx, .ref k1, .ref k2, .ref k3, .ref k4, _, _])) :: (k1, .inl (cI, 24, .inl _)) :: (k2, .inl (cI, 24, .inl _)) :: (k3, .inl (cI, 24, .inl _)) :: (k4, .inl (cI, 24, .inl _)) :: (v, .inr (8, [.ref t, .ref vw, .ref vj, _, _])) :: (vw, .inl (cW, 40, .inr (.inr (.inr (.inr _))))) :: (g, .inr (6, [.ref g0, .ref g1, .ref g2, _, _, _])) :: (g0, .inl (cI, 60, .inl _)) :: (g1, .inl (cI, 60, .inl _)) :: (g2, .inl (cI, 60, .inl _)) :: (w, .inr (0, [_, _])) :: dy) := hD
  refine lv_iconst (v := 1) hx hb dX10_followPhraseFrom_7 (by decide) ?_
  refine lv_istore_n (lv' := [(2, _), (0, _), (1, _)]) hx hb dX10_followPhraseFrom_8 rfl hl (by decide) rfl (fun ls hl => ?_)
  refine lv_iload_n hx hb dX10_followPhraseFrom_9 rfl (lv_at hl 2 rfl) ?_
  refine lv_istore_n (lv' := [(3, _), (2, _), (0, _), (1, _)]) hx hb dX10_followPhraseFrom_10 rfl hl (by decide) rfl (fun ls hl => ?_)
  have loop_11 : ∀ (fuel : Nat) (k0 : Nat) (go : Bool) (σ : Int32 × Int32), tn - k0 < fuel → i ≤ k0 → k0 ≤ tn → ((if go = true then phF T tn nw wz (tmI T nw wz mt mw mf fu mm) (tn - k0) k0 σ else σ) = phF T tn nw wz (tmI T nw wz mt mw mf fu mm) (tn - i) i (0, 0)) → ∀ (H : Heap) (locs : List Loc), va_P D vwCl ((x, .inr (10, [.ref t, .ref d, .ref v, .ref th, .ref z, .ref g, .ref u, .ref w, .ref k, .ref h])) :: (k, .inr (7, [.ref kx, .ref k1, .ref k2, .ref k3, .ref k4, .int (nI tn), .int tm])) :: (k1, .inl (cI, 24, .inl (T 1))) :: (k2, .inl (cI, 24, .inl (T 2))) :: (k3, .inl (cI, 24, .inl (T 3))) :: (k4, .inl (cI, 24, .inl (T 4))) :: (v, .inr (8, [.ref t, .ref vw, .ref vj, .int (nI nw), .int (nI nj)])) :: (vw, .inl (cW, 40, .inr (.inr (.inr (.inr wf))))) :: (g, .inr (6, [.ref g0, .ref g1, .ref g2, .int tc, .int (nI mm), .int fu])) :: (g0, .inl (cI, 60, .inl mt)) :: (g1, .inl (cI, 60, .inl mw)) :: (g2, .inl (cI, 60, .inl mf)) :: (w, .inr (0, [.int σ.1, .int σ.2])) :: dy) H → va_D A ((x, .inr (10, [.ref t, .ref d, .ref v, .ref th, .ref z, .ref g, .ref u, .ref w, .ref k, .ref h])) :: (k, .inr (7, [.ref kx, .ref k1, .ref k2, .ref k3, .ref k4, .int (nI tn), .int tm])) :: (k1, .inl (cI, 24, .inl (T 1))) :: (k2, .inl (cI, 24, .inl (T 2))) :: (k3, .inl (cI, 24, .inl (T 3))) :: (k4, .inl (cI, 24, .inl (T 4))) :: (v, .inr (8, [.ref t, .ref vw, .ref vj, .int (nI nw), .int (nI nj)])) :: (vw, .inl (cW, 40, .inr (.inr (.inr (.inr wf))))) :: (g, .inr (6, [.ref g0, .ref g1, .ref g2, .int tc, .int (nI mm), .int fu])) :: (g0, .inl (cI, 60, .inl mt)) :: (g1, .inl (cI, 60, .inl mw)) :: (g2, .inl (cI, 60, .inl mf)) :: (w, .inr (0, [.int σ.1, .int σ.2])) :: dy) → va_S A ss.heap H locs → ∀ ls : Array Slot, lv_has ls 5 [(0, .ref x), (1, .int (nI i)), (2, .int (bI go)), (3, .int (nI k0))] → W pr l en { frames := 3, cells := 0, slots := 0, locals := 68 } ss mi ([.ref x, .int (nI i)] : List Value).toArray below meth cd H locs 0 0 (MQ below (mQ none D ((x, .inr (10, [.ref t, .ref d, .ref v, .ref th, .ref z, .ref g, .ref u, .ref w, .ref k, .ref h])) :: (k, .inr (7, [.ref kx, .ref k1, .ref k2, .ref k3, .ref k4, .int (nI tn), .int tm])) :: (k1, .inl (cI, 24, .inl (T 1))) :: (k2, .inl (cI, 24, .inl (T 2))) :: (k3, .inl (cI, 24, .inl (T 3))) :: (k4, .inl (cI, 24, .inl (T 4))) :: (v, .inr (8, [.ref t, .ref vw, .ref vj, .int (nI nw), .int (nI nj)])) :: (vw, .inl (cW, 40, .inr (.inr (.inr (.inr wf))))) :: (g, .inr (6, [.ref g0, .ref g1, .ref g2, .int tc, .int (nI mm), .int fu])) :: (g0, .inl (cI, 60, .inl mt)) :: (g1, .inl (cI, 60, .inl mw)) :: (g2, .inl (cI, 60, .inl mf)) :: (w, .inr (0, [.int ((phF T tn nw wz (tmI T nw wz mt mw mf fu mm) (tn - i) i (0, 0)).1), .int ((phF T tn nw wz (tmI T nw wz mt mw mf fu mm) (tn - i) i (0, 0)).2)])) :: dy) A) ([.ref x, .int (nI i)] : List Value).toArray ss 0 0 A) (F0 mi 11 ls []) := by
    intro fuel
    induction fuel with
    | zero => intro k0 go σ hm; exact absurd hm (Nat.not_lt_zero _)
    | succ fuel ih =>
      intro k0 go σ hm hik hk hr H locs hP hD hS ls hl
      refine lv_iload_n hx hb dX10_followPhraseFrom_11 rfl (lv_at hl 3 rfl) ?_
      refine lv_aload_n hx hb dX10_followPhraseFrom_12 rfl (lv_at hl 0 rfl) ?_
      refine va_get (D := D) (ci := 10) (C := RX10) (T := TX10) (N := 10) hx hb hts in_X10 hown hK hP 0 rfl rfl 8 (by decide) fl_79 (fun _ h9 => h9) rfl dX10_followPhraseFrom_13 ?_
      refine va_get (D := D) (ci := 7) (C := RX7) (T := TX7) (N := 7) hx hb hts in_X7 hown hK hP 1 rfl rfl 5 (by decide) fl_254 (fun _ h9 => h9) rfl dX10_followPhraseFrom_16 ?_
      refine lv_icmp_ge (tgt := 75) hx hb dX10_followPhraseFrom_19 (by decide) (fun c_19 => ?_) (fun c_19 => ?_)
      · exact mu_vret X hP hS (by rw [← hr, show tn - k0 = 0 by have := leL (a := tn) (b := k0) c_19; omega]; cases go <;> rfl) dX10_followPhraseFrom_75
      · refine lv_iload_n hx hb dX10_followPhraseFrom_22 rfl (lv_at hl 2 rfl) ?_
        refine lv_if_eq (tgt := 75) hx hb dX10_followPhraseFrom_23 (by decide) (fun c_23 => ?_) (fun c_23 => ?_)
        · replace c_23 := bI_0.mp c_23
          exact mu_vret X hP hS (by rw [← hr, if_neg (by rw [c_23]; decide)]) dX10_followPhraseFrom_75
        · replace c_23 := bI_n0.mp c_23
          have hlt : k0 < tn := lt_nge c_19 hk (by omega)
          refine lv_aload_n hx hb dX10_followPhraseFrom_26 rfl (lv_at hl 0 rfl) ?_
          refine lv_iload_n hx hb dX10_followPhraseFrom_27 rfl (lv_at hl 3 rfl) ?_
          refine ro_V (n := 1) X hK (c_X10_wordOf htn hnw hwf hlt) gX10_followPhraseFrom_X10_wordOf rfl (by decide +kernel) ⟨rfl, rfl⟩ ⟨Nat.le_of_ble_eq_true rfl, Nat.le_of_ble_eq_true rfl⟩ (hP.sub [0, 1, 2, 5, 6, 7] rfl) (va_recv hK hP (ci := 10) (q0 := 0) rfl rfl) rfl hl.1 rfl (Nat.le_of_ble_eq_true rfl) dX10_followPhraseFrom_28 ⟨Nat.zero_le _, Nat.zero_le _⟩ ?_
          rcases h_28 : tokW T nw k0 with _ | j_28
          · refine rf_eqN rfl ?_
            refine lv_astoreN (lv' := [(4, _), (0, _), (1, _), (2, _), (3, _)]) hx hb dX10_followPhraseFrom_31 hl (by decide) rfl (fun ls hl => ?_)
            refine lv_aloadN hx hb dX10_followPhraseFrom_33 (lv_at hl 0 rfl) ?_
            refine lv_ifnullN (tgt := 67) hx hb dX10_followPhraseFrom_35 (by decide) ?_
            refine lv_iconst (v := 0) hx hb dX10_followPhraseFrom_67 (by decide) ?_
            refine lv_istore_n (lv' := [(2, _), (4, _), (0, _), (1, _), (3, _)]) hx hb dX10_followPhraseFrom_68 rfl hl (by decide) rfl (fun ls hl => ?_)
            refine lv_iinc (v := (_ : Int32) + 1) (lv' := [(3, _), (2, _), (4, _), (0, _), (1, _)]) hx hb dX10_followPhraseFrom_69 hl (k := 4) rfl rfl (by decide) rfl (fun ls hl => ?_)
            refine lv_goto (tgt := 11) hx hb dX10_followPhraseFrom_72 (by decide) ?_
            rw [nI_1] at hl
            exact ih (k0 + 1) false σ (by omega) (by omega) (by omega) (by rw [← hr, if_pos c_23, phF_none hlt h_28]; rfl) _ _ hP hD hS _ (lv_sub hl [3, 4, 1, 0] rfl)
          · refine rf_eq (q := (wa j_28 0)) rfl ?_
            have hj_28 : j_28 < nw := tokW_lt h_28 hnw
            have hw_28 : va_P D vwCl [((wa j_28 0), .inr (9, [.ref (wa j_28 1), .int (wz j_28 1), .int (wz j_28 2), .int (wz j_28 3), .int (wz j_28 4), .int (wz j_28 5)])), ((wa j_28 1), .inr (4, [.ref (wa j_28 2), .int (nI (wn j_28))])), ((wa j_28 2), .inl (cI, (wn j_28), .inl (wt j_28)))] _ := memP (w := wCells cI wa wz wn wt j_28) hP (fun q hq => List.mem_cons_of_mem _ (List.mem_cons_of_mem _ (List.mem_cons_of_mem _ (List.mem_cons_of_mem _ (List.mem_cons_of_mem _ (List.mem_cons_of_mem _ (List.mem_cons_of_mem _ (List.mem_cons_of_mem _ (List.mem_cons_of_mem _ (List.mem_cons_of_mem _ (List.mem_cons_of_mem _ (List.mem_cons_of_mem _ (List.mem_cons_of_mem _ ((hdw j_28 hj_28).2 q hq))))))))))))))
            refine lv_astore (lv' := [(4, _), (0, _), (1, _), (2, _), (3, _)]) hx hb dX10_followPhraseFrom_31 hl (by decide) rfl (fun ls hl => ?_)
            refine lv_aload hx hb dX10_followPhraseFrom_33 (lv_at hl 0 rfl) ?_
            refine lv_ifnull hx hb dX10_followPhraseFrom_35 ?_
            refine lv_aload hx hb dX10_followPhraseFrom_38 (lv_at hl 0 rfl) ?_
            refine lv_bipush (v := 22) hx hb dX10_followPhraseFrom_40 (by decide) ?_
            refine ro_V (n := 1) X hK (c_X9_isOneOf) gX10_followPhraseFrom_X9_isOneOf rfl (by decide +kernel) ⟨rfl, rfl⟩ ⟨Nat.le_of_ble_eq_true rfl, Nat.le_of_ble_eq_true rfl⟩ (hw_28.sub [0] rfl) (va_recv hK hw_28 (ci := 9) (q0 := 0) rfl rfl) rfl hl.1 rfl (Nat.le_of_ble_eq_true rfl) dX10_followPhraseFrom_42 ⟨Nat.zero_le _, Nat.zero_le _⟩ ?_
            refine lv_if_eq (tgt := 67) hx hb dX10_followPhraseFrom_45 (by decide) (fun c_45 => ?_) (fun c_45 => ?_)
            · replace c_45 := bI_0.mp c_45
              refine lv_iconst (v := 0) hx hb dX10_followPhraseFrom_67 (by decide) ?_
              refine lv_istore_n (lv' := [(2, _), (4, _), (0, _), (1, _), (3, _)]) hx hb dX10_followPhraseFrom_68 rfl hl (by decide) rfl (fun ls hl => ?_)
              refine lv_iinc (v := (_ : Int32) + 1) (lv' := [(3, _), (2, _), (4, _), (0, _), (1, _)]) hx hb dX10_followPhraseFrom_69 hl (k := 4) rfl rfl (by decide) rfl (fun ls hl => ?_)
              refine lv_goto (tgt := 11) hx hb dX10_followPhraseFrom_72 (by decide) ?_
              rw [nI_1] at hl
              exact ih (k0 + 1) false σ (by omega) (by omega) (by omega) (by rw [← hr, if_pos c_23, phF_nk hlt h_28 (by simpa using c_45)]; rfl) _ _ hP hD hS _ (lv_sub hl [3, 4, 1, 0] rfl)
            · replace c_45 := bI_n0.mp c_45
              refine lv_aload_n hx hb dX10_followPhraseFrom_48 rfl (lv_at hl 1 rfl) ?_
              refine va_get (D := D) (ci := 10) (C := RX10) (T := TX10) (N := 10) hx hb hts in_X10 hown hK hP 0 rfl rfl 7 (by decide) fl_72 (fun _ h9 => h9) rfl dX10_followPhraseFrom_49 ?_
              refine lv_aload_n hx hb dX10_followPhraseFrom_52 rfl (lv_at hl 1 rfl) ?_
              refine lv_iload_n hx hb dX10_followPhraseFrom_53 rfl (lv_at hl 4 rfl) ?_
              refine ro_V (n := 1) X hK (c_X10_thingsMeantAt htn hnw hwf hdw hmm hlt) gX10_followPhraseFrom_X10_thingsMeantAt rfl (by decide +kernel) ⟨rfl, rfl⟩ ⟨Nat.le_of_ble_eq_true rfl, Nat.le_of_ble_eq_true rfl⟩ (ro_tl hP [0, 1, 2, 3, 4, 5, 6, 7, 8, 9, 10, 11] rfl (fun _ hq => by simp [hq])) (va_recv hK hP (ci := 10) (q0 := 0) rfl rfl) rfl hl.1 rfl (Nat.le_of_ble_eq_true rfl) dX10_followPhraseFrom_54 ⟨Nat.zero_le _, Nat.zero_le _⟩ ?_
              refine mu_V (n := 1) X hK (c_X0_accept) gX10_followPhraseFrom_X0_accept rfl (by decide +kernel) ⟨rfl, rfl⟩ ⟨Nat.le_of_ble_eq_true rfl, Nat.le_of_ble_eq_true rfl⟩ [12] rfl rfl rfl rfl hA hP hD hS (va_recv hK hP (ci := 0) (q0 := 12) rfl rfl) rfl hl.1 rfl (Nat.le_of_ble_eq_true rfl) dX10_followPhraseFrom_57 ⟨Nat.zero_le _, Nat.zero_le _⟩ (fun H locs hP hD hS => ?_)
              have hP : va_P D vwCl ((x, .inr (10, [.ref t, .ref d, .ref v, .ref th, .ref z, .ref g, .ref u, .ref w, .ref k, .ref h])) :: (k, .inr (7, [.ref kx, .ref k1, .ref k2, .ref k3, .ref k4, _, _])) :: (k1, .inl (cI, 24, .inl _)) :: (k2, .inl (cI, 24, .inl _)) :: (k3, .inl (cI, 24, .inl _)) :: (k4, .inl (cI, 24, .inl _)) :: (v, .inr (8, [.ref t, .ref vw, .ref vj, _, _])) :: (vw, .inl (cW, 40, .inr (.inr (.inr (.inr _))))) :: (g, .inr (6, [.ref g0, .ref g1, .ref g2, _, _, _])) :: (g0, .inl (cI, 60, .inl _)) :: (g1, .inl (cI, 60, .inl _)) :: (g2, .inl (cI, 60, .inl _)) :: (w, .inr (0, [_, _])) :: dy) H := hP
              have hD : va_D A ((x, .inr (10, [.ref t, .ref d, .ref v, .ref th, .ref z, .ref g, .ref u, .ref w, .ref k, .ref h])) :: (k, .inr (7, [.ref kx, .ref k1, .ref k2, .ref k3, .ref k4, _, _])) :: (k1, .inl (cI, 24, .inl _)) :: (k2, .inl (cI, 24, .inl _)) :: (k3, .inl (cI, 24, .inl _)) :: (k4, .inl (cI, 24, .inl _)) :: (v, .inr (8, [.ref t, .ref vw, .ref vj, _, _])) :: (vw, .inl (cW, 40, .inr (.inr (.inr (.inr _))))) :: (g, .inr (6, [.ref g0, .ref g1, .ref g2, _, _, _])) :: (g0, .inl (cI, 60, .inl _)) :: (g1, .inl (cI, 60, .inl _)) :: (g2, .inl (cI, 60, .inl _)) :: (w, .inr (0, [_, _])) :: dy) := hD
              refine lv_if_eq (tgt := 67) hx hb dX10_followPhraseFrom_60 (by decide) (fun c_60 => ?_) (fun c_60 => ?_)
              · replace c_60 := bI_0.mp c_60
                refine lv_iconst (v := 0) hx hb dX10_followPhraseFrom_67 (by decide) ?_
                refine lv_istore_n (lv' := [(2, _), (4, _), (0, _), (1, _), (3, _)]) hx hb dX10_followPhraseFrom_68 rfl hl (by decide) rfl (fun ls hl => ?_)
                refine lv_iinc (v := (_ : Int32) + 1) (lv' := [(3, _), (2, _), (4, _), (0, _), (1, _)]) hx hb dX10_followPhraseFrom_69 hl (k := 4) rfl rfl (by decide) rfl (fun ls hl => ?_)
                refine lv_goto (tgt := 11) hx hb dX10_followPhraseFrom_72 (by decide) ?_
                rw [nI_1] at hl
                exact ih (k0 + 1) false (coA σ.1 σ.2 ((tmI T nw wz mt mw mf fu mm) k0)).2 (by omega) (by omega) (by omega) (by rw [← hr, if_pos c_23, phF_no hlt h_28 (by simpa using c_45) c_60]; rfl) _ _ hP hD hS _ (lv_sub hl [3, 4, 1, 0] rfl)
              · replace c_60 := bI_n0.mp c_60
                refine lv_iconst (v := 1) hx hb dX10_followPhraseFrom_63 (by decide) ?_
                refine lv_goto (tgt := 68) hx hb dX10_followPhraseFrom_64 (by decide) ?_
                refine lv_istore_n (lv' := [(2, _), (4, _), (0, _), (1, _), (3, _)]) hx hb dX10_followPhraseFrom_68 rfl hl (by decide) rfl (fun ls hl => ?_)
                refine lv_iinc (v := (_ : Int32) + 1) (lv' := [(3, _), (2, _), (4, _), (0, _), (1, _)]) hx hb dX10_followPhraseFrom_69 hl (k := 4) rfl rfl (by decide) rfl (fun ls hl => ?_)
                refine lv_goto (tgt := 11) hx hb dX10_followPhraseFrom_72 (by decide) ?_
                rw [nI_1] at hl
                exact ih (k0 + 1) true (coA σ.1 σ.2 ((tmI T nw wz mt mw mf fu mm) k0)).2 (by omega) (by omega) (by omega) (by rw [← hr, if_pos c_23, phF_go hlt h_28 (by simpa using c_45) c_60]; rfl) _ _ hP hD hS _ (lv_sub hl [3, 4, 1, 0] rfl)
  exact loop_11 (tn + 1) i true (0, 0) (by omega) (Nat.le_refl _) (by omega) rfl _ _ hP hD hS ls (lv_sub hl [2, 3, 1, 0] rfl)

set_option maxHeartbeats 1000000 in
set_option maxRecDepth 100000 in
theorem c_X10_phrase {l : Launch} {D : va_G} {cI cJ cW : ClassId} {sz : Nat} {x t d v th z g u w k h : Nat} {kx k1 k2 k3 k4 tn : Nat} {tm : Int32} {T : Nat → Nat → Int32} {vw vj nw nj : Nat} {wf : Nat → Option Nat} {dy : va_W} {wa : Nat → Nat → Nat} {wz : Nat → Nat → Int32} {wn : Nat → Nat} {wt : Nat → Nat → Int32} {g0 g1 g2 mm : Nat} {tc fu : Int32} {mt mw mf : Nat → Int32} {y : Int32} {σ0 : Int32 × Int32} (htn : tn ≤ 24) (hnw : nw ≤ 40) (hwf : ∀ i, i < nw → wf i = some (wa i 0)) (hdw : Dw cI wa wz wn wt nw dy) (hmm : mm ≤ 60) : MU l yX10_phrase wsX10_phrase { frames := 4, cells := 0, slots := 0, locals := 92 } D (ty3 cI cJ cW) [.ref x, .int y] ((x, .inr (10, [.ref t, .ref d, .ref v, .ref th, .ref z, .ref g, .ref u, .ref w, .ref k, .ref h])) :: (k, .inr (7, [.ref kx, .ref k1, .ref k2, .ref k3, .ref k4, .int (nI tn), .int tm])) :: (k1, .inl (cI, 24, .inl (T 1))) :: (k2, .inl (cI, 24, .inl (T 2))) :: (k3, .inl (cI, 24, .inl (T 3))) :: (k4, .inl (cI, 24, .inl (T 4))) :: (v, .inr (8, [.ref t, .ref vw, .ref vj, .int (nI nw), .int (nI nj)])) :: (vw, .inl (cW, 40, .inr (.inr (.inr (.inr wf))))) :: (g, .inr (6, [.ref g0, .ref g1, .ref g2, .int tc, .int (nI mm), .int fu])) :: (g0, .inl (cI, 60, .inl mt)) :: (g1, .inl (cI, 60, .inl mw)) :: (g2, .inl (cI, 60, .inl mf)) :: (w, .inr (0, [.int σ0.1, .int σ0.2])) :: dy) sz (some (.int (aPhrase T tn nw wz (tmI T nw wz mt mw mf fu mm) y))) ((x, .inr (10, [.ref t, .ref d, .ref v, .ref th, .ref z, .ref g, .ref u, .ref w, .ref k, .ref h])) :: (k, .inr (7, [.ref kx, .ref k1, .ref k2, .ref k3, .ref k4, .int (nI tn), .int tm])) :: (k1, .inl (cI, 24, .inl (T 1))) :: (k2, .inl (cI, 24, .inl (T 2))) :: (k3, .inl (cI, 24, .inl (T 3))) :: (k4, .inl (cI, 24, .inl (T 4))) :: (v, .inr (8, [.ref t, .ref vw, .ref vj, .int (nI nw), .int (nI nj)])) :: (vw, .inl (cW, 40, .inr (.inr (.inr (.inr wf))))) :: (g, .inr (6, [.ref g0, .ref g1, .ref g2, .int tc, .int (nI mm), .int fu])) :: (g0, .inl (cI, 60, .inl mt)) :: (g1, .inl (cI, 60, .inl mw)) :: (g2, .inl (cI, 60, .inl mf)) :: (w, .inr (0, [.int ((phS T tn nw wz (tmI T nw wz mt mw mf fu mm) y σ0).1), .int ((phS T tn nw wz (tmI T nw wz mt mw mf fu mm) y σ0).2)])) :: dy) := by
  refine mu_of (cc := cX10_phrase) (maxL := 2) (ret := (some .int)) (by decide) rfl (Nat.le_of_ble_eq_true rfl) ?_
  intro pr en ss mi below meth cd X hK A hA hP hD hS ls hl
  obtain ⟨hx, hb, hml, hown, hts, hr, hlocks⟩ := id X
  have fl_240 := hts (.fieldLink RX10 240 "WordTables$Common" "shared" "I") (by decide +kernel)
  have fl_72 := hts (.fieldLink RX10 72 "WordTables" "common" "LWordTables$Common;") (by decide +kernel)
  have fl_79 := hts (.fieldLink RX10 79 "WordTables" "tokens" "LWordTables$Tokens;") (by decide +kernel)
  have in_X0 : ∀ w ∈ wsX00, w ∈ wsX10_phrase := by decide +kernel
  have in_X10 : ∀ w ∈ wsX100, w ∈ wsX10_phrase := by decide +kernel
  have hl : lv_has ls 2 [(0, .ref x), (1, .int y)] := hl
  refine lv_aload_n hx hb dX10_phrase_0 rfl (lv_at hl 0 rfl) ?_
  refine va_get (D := D) (ci := 10) (C := RX10) (T := TX10) (N := 10) hx hb hts in_X10 hown hK hP 0 rfl rfl 8 (by decide) fl_79 (fun _ h9 => h9) rfl dX10_phrase_1 ?_
  refine lv_iload_n hx hb dX10_phrase_4 rfl (lv_at hl 1 rfl) ?_
  refine ro_V (n := 1) X hK (c_X7_has) gX10_phrase_X7_has rfl (by decide +kernel) ⟨rfl, rfl⟩ ⟨Nat.le_of_ble_eq_true rfl, Nat.le_of_ble_eq_true rfl⟩ (hP.sub [1] rfl) (va_recv hK hP (ci := 7) (q0 := 1) rfl rfl) rfl hl.1 rfl (Nat.le_of_ble_eq_true rfl) dX10_phrase_5 ⟨Nat.zero_le _, Nat.zero_le _⟩ ?_
  refine lv_if_ne (tgt := 14) hx hb dX10_phrase_8 (by decide) (fun c_8 => ?_) (fun c_8 => ?_)
  · replace c_8 := bI_n0.mp c_8
    obtain ⟨i, hi, rfl⟩ := hasK_t c_8 htn
    refine lv_aload_n hx hb dX10_phrase_14 rfl (lv_at hl 0 rfl) ?_
    refine lv_iload_n hx hb dX10_phrase_15 rfl (lv_at hl 1 rfl) ?_
    refine mu_VT (n := 1) (dy := dy) [_, _, _, _, _, _, _, _, _, _, _, _, _] [_, _, _, _, _, _, _, _, _, _, _, _, _] [_, _, _, _, _, _, _, _, _, _, _, _, _] X hK (c_X10_followPhraseFrom (T := T) (σ0 := σ0) (tm := tm) (mt := mt) (mw := mw) (mf := mf) (fu := fu) htn hnw hwf hdw hmm hi) gX10_phrase_X10_followPhraseFrom rfl (by decide +kernel) ⟨rfl, rfl⟩ ⟨Nat.le_of_ble_eq_true rfl, Nat.le_of_ble_eq_true rfl⟩ [0, 1, 2, 3, 4, 5, 6, 7, 8, 9, 10, 11, 12] rfl rfl rfl rfl hA hP hD hS (va_recv hK hP (ci := 10) (q0 := 0) rfl rfl) rfl hl.1 rfl (Nat.le_of_ble_eq_true rfl) dX10_phrase_16 ⟨Nat.zero_le _, Nat.zero_le _⟩ (fun H locs hP hD hS => ?_)
    have hP : va_P D vwCl ((x, .inr (10, [.ref t, .ref d, .ref v, .ref th, .ref z, .ref g, .ref u, .ref w, .ref k, .ref h])) :: (k, .inr (7, [.ref kx, .ref k1, .ref k2, .ref k3, .ref k4, _, _])) :: (k1, .inl (cI, 24, .inl _)) :: (k2, .inl (cI, 24, .inl _)) :: (k3, .inl (cI, 24, .inl _)) :: (k4, .inl (cI, 24, .inl _)) :: (v, .inr (8, [.ref t, .ref vw, .ref vj, _, _])) :: (vw, .inl (cW, 40, .inr (.inr (.inr (.inr _))))) :: (g, .inr (6, [.ref g0, .ref g1, .ref g2, _, _, _])) :: (g0, .inl (cI, 60, .inl _)) :: (g1, .inl (cI, 60, .inl _)) :: (g2, .inl (cI, 60, .inl _)) :: (w, .inr (0, [_, _])) :: dy) H := hP
    have hD : va_D A ((x, .inr (10, [.ref t, .ref d, .ref v, .ref th, .ref z, .ref g, .ref u, .ref w, .ref k, .ref h])) :: (k, .inr (7, [.ref kx, .ref k1, .ref k2, .ref k3, .ref k4, _, _])) :: (k1, .inl (cI, 24, .inl _)) :: (k2, .inl (cI, 24, .inl _)) :: (k3, .inl (cI, 24, .inl _)) :: (k4, .inl (cI, 24, .inl _)) :: (v, .inr (8, [.ref t, .ref vw, .ref vj, _, _])) :: (vw, .inl (cW, 40, .inr (.inr (.inr (.inr _))))) :: (g, .inr (6, [.ref g0, .ref g1, .ref g2, _, _, _])) :: (g0, .inl (cI, 60, .inl _)) :: (g1, .inl (cI, 60, .inl _)) :: (g2, .inl (cI, 60, .inl _)) :: (w, .inr (0, [_, _])) :: dy) := hD
    refine lv_aload_n hx hb dX10_phrase_19 rfl (lv_at hl 0 rfl) ?_
    refine va_get (D := D) (ci := 10) (C := RX10) (T := TX10) (N := 10) hx hb hts in_X10 hown hK hP 0 rfl rfl 7 (by decide) fl_72 (fun _ h9 => h9) rfl dX10_phrase_20 ?_
    refine va_get (D := D) (ci := 0) (C := RX0) (T := TX0) (N := 2) hx hb hts in_X0 hown hK hP 12 rfl rfl 0 (by decide) fl_240 (fun _ h9 => h9) rfl dX10_phrase_23 ?_
    exact mu_iret X hP hS (by simp [aPhrase, ixO_nI hi (show tn < 2 ^ 31 by omega), c_8]) (by simp [phS, ixO_nI hi (show tn < 2 ^ 31 by omega)]) dX10_phrase_26
  · replace c_8 := bI_0.mp c_8
    refine lv_bipush (v := -2) hx hb dX10_phrase_11 (by decide) ?_
    exact mu_iret X hP hS (by simp [aPhrase, hasK_f c_8 htn]) (by simp [phS, hasK_f c_8 htn]) dX10_phrase_13

set_option maxHeartbeats 1000000 in
set_option maxRecDepth 100000 in
theorem c_X10_phraseLength {l : Launch} {D : va_G} {cI cJ cW : ClassId} {sz : Nat} {x t d v th z g u w k h : Nat} {kx k1 k2 k3 k4 tn : Nat} {tm : Int32} {T : Nat → Nat → Int32} {vw vj nw nj : Nat} {wf : Nat → Option Nat} {dy : va_W} {wa : Nat → Nat → Nat} {wz : Nat → Nat → Int32} {wn : Nat → Nat} {wt : Nat → Nat → Int32} {g0 g1 g2 mm : Nat} {tc fu : Int32} {mt mw mf : Nat → Int32} {y : Int32} {σ0 : Int32 × Int32} (htn : tn ≤ 24) (hnw : nw ≤ 40) (hwf : ∀ i, i < nw → wf i = some (wa i 0)) (hdw : Dw cI wa wz wn wt nw dy) (hmm : mm ≤ 60) : MU l yX10_phraseLength wsX10_phraseLength { frames := 4, cells := 0, slots := 0, locals := 92 } D (ty3 cI cJ cW) [.ref x, .int y] ((x, .inr (10, [.ref t, .ref d, .ref v, .ref th, .ref z, .ref g, .ref u, .ref w, .ref k, .ref h])) :: (k, .inr (7, [.ref kx, .ref k1, .ref k2, .ref k3, .ref k4, .int (nI tn), .int tm])) :: (k1, .inl (cI, 24, .inl (T 1))) :: (k2, .inl (cI, 24, .inl (T 2))) :: (k3, .inl (cI, 24, .inl (T 3))) :: (k4, .inl (cI, 24, .inl (T 4))) :: (v, .inr (8, [.ref t, .ref vw, .ref vj, .int (nI nw), .int (nI nj)])) :: (vw, .inl (cW, 40, .inr (.inr (.inr (.inr wf))))) :: (g, .inr (6, [.ref g0, .ref g1, .ref g2, .int tc, .int (nI mm), .int fu])) :: (g0, .inl (cI, 60, .inl mt)) :: (g1, .inl (cI, 60, .inl mw)) :: (g2, .inl (cI, 60, .inl mf)) :: (w, .inr (0, [.int σ0.1, .int σ0.2])) :: dy) sz (some (.int (aPhLen T tn nw wz (tmI T nw wz mt mw mf fu mm) y))) ((x, .inr (10, [.ref t, .ref d, .ref v, .ref th, .ref z, .ref g, .ref u, .ref w, .ref k, .ref h])) :: (k, .inr (7, [.ref kx, .ref k1, .ref k2, .ref k3, .ref k4, .int (nI tn), .int tm])) :: (k1, .inl (cI, 24, .inl (T 1))) :: (k2, .inl (cI, 24, .inl (T 2))) :: (k3, .inl (cI, 24, .inl (T 3))) :: (k4, .inl (cI, 24, .inl (T 4))) :: (v, .inr (8, [.ref t, .ref vw, .ref vj, .int (nI nw), .int (nI nj)])) :: (vw, .inl (cW, 40, .inr (.inr (.inr (.inr wf))))) :: (g, .inr (6, [.ref g0, .ref g1, .ref g2, .int tc, .int (nI mm), .int fu])) :: (g0, .inl (cI, 60, .inl mt)) :: (g1, .inl (cI, 60, .inl mw)) :: (g2, .inl (cI, 60, .inl mf)) :: (w, .inr (0, [.int ((phS T tn nw wz (tmI T nw wz mt mw mf fu mm) y σ0).1), .int ((phS T tn nw wz (tmI T nw wz mt mw mf fu mm) y σ0).2)])) :: dy) := by
  refine mu_of (cc := cX10_phraseLength) (maxL := 2) (ret := (some .int)) (by decide) rfl (Nat.le_of_ble_eq_true rfl) ?_
  intro pr en ss mi below meth cd X hK A hA hP hD hS ls hl
  obtain ⟨hx, hb, hml, hown, hts, hr, hlocks⟩ := id X
  have fl_243 := hts (.fieldLink RX10 243 "WordTables$Common" "length" "I") (by decide +kernel)
  have fl_72 := hts (.fieldLink RX10 72 "WordTables" "common" "LWordTables$Common;") (by decide +kernel)
  have fl_79 := hts (.fieldLink RX10 79 "WordTables" "tokens" "LWordTables$Tokens;") (by decide +kernel)
  have in_X0 : ∀ w ∈ wsX00, w ∈ wsX10_phraseLength := by decide +kernel
  have in_X10 : ∀ w ∈ wsX100, w ∈ wsX10_phraseLength := by decide +kernel
  have hl : lv_has ls 2 [(0, .ref x), (1, .int y)] := hl
  refine lv_aload_n hx hb dX10_phraseLength_0 rfl (lv_at hl 0 rfl) ?_
  refine va_get (D := D) (ci := 10) (C := RX10) (T := TX10) (N := 10) hx hb hts in_X10 hown hK hP 0 rfl rfl 8 (by decide) fl_79 (fun _ h9 => h9) rfl dX10_phraseLength_1 ?_
  refine lv_iload_n hx hb dX10_phraseLength_4 rfl (lv_at hl 1 rfl) ?_
  refine ro_V (n := 1) X hK (c_X7_has) gX10_phraseLength_X7_has rfl (by decide +kernel) ⟨rfl, rfl⟩ ⟨Nat.le_of_ble_eq_true rfl, Nat.le_of_ble_eq_true rfl⟩ (hP.sub [1] rfl) (va_recv hK hP (ci := 7) (q0 := 1) rfl rfl) rfl hl.1 rfl (Nat.le_of_ble_eq_true rfl) dX10_phraseLength_5 ⟨Nat.zero_le _, Nat.zero_le _⟩ ?_
  refine lv_if_ne (tgt := 14) hx hb dX10_phraseLength_8 (by decide) (fun c_8 => ?_) (fun c_8 => ?_)
  · replace c_8 := bI_n0.mp c_8
    obtain ⟨i, hi, rfl⟩ := hasK_t c_8 htn
    refine lv_aload_n hx hb dX10_phraseLength_14 rfl (lv_at hl 0 rfl) ?_
    refine lv_iload_n hx hb dX10_phraseLength_15 rfl (lv_at hl 1 rfl) ?_
    refine mu_VT (n := 1) (dy := dy) [_, _, _, _, _, _, _, _, _, _, _, _, _] [_, _, _, _, _, _, _, _, _, _, _, _, _] [_, _, _, _, _, _, _, _, _, _, _, _, _] X hK (c_X10_followPhraseFrom (T := T) (σ0 := σ0) (tm := tm) (mt := mt) (mw := mw) (mf := mf) (fu := fu) htn hnw hwf hdw hmm hi) gX10_phraseLength_X10_followPhraseFrom rfl (by decide +kernel) ⟨rfl, rfl⟩ ⟨Nat.le_of_ble_eq_true rfl, Nat.le_of_ble_eq_true rfl⟩ [0, 1, 2, 3, 4, 5, 6, 7, 8, 9, 10, 11, 12] rfl rfl rfl rfl hA hP hD hS (va_recv hK hP (ci := 10) (q0 := 0) rfl rfl) rfl hl.1 rfl (Nat.le_of_ble_eq_true rfl) dX10_phraseLength_16 ⟨Nat.zero_le _, Nat.zero_le _⟩ (fun H locs hP hD hS => ?_)
    have hP : va_P D vwCl ((x, .inr (10, [.ref t, .ref d, .ref v, .ref th, .ref z, .ref g, .ref u, .ref w, .ref k, .ref h])) :: (k, .inr (7, [.ref kx, .ref k1, .ref k2, .ref k3, .ref k4, _, _])) :: (k1, .inl (cI, 24, .inl _)) :: (k2, .inl (cI, 24, .inl _)) :: (k3, .inl (cI, 24, .inl _)) :: (k4, .inl (cI, 24, .inl _)) :: (v, .inr (8, [.ref t, .ref vw, .ref vj, _, _])) :: (vw, .inl (cW, 40, .inr (.inr (.inr (.inr _))))) :: (g, .inr (6, [.ref g0, .ref g1, .ref g2, _, _, _])) :: (g0, .inl (cI, 60, .inl _)) :: (g1, .inl (cI, 60, .inl _)) :: (g2, .inl (cI, 60, .inl _)) :: (w, .inr (0, [_, _])) :: dy) H := hP
    have hD : va_D A ((x, .inr (10, [.ref t, .ref d, .ref v, .ref th, .ref z, .ref g, .ref u, .ref w, .ref k, .ref h])) :: (k, .inr (7, [.ref kx, .ref k1, .ref k2, .ref k3, .ref k4, _, _])) :: (k1, .inl (cI, 24, .inl _)) :: (k2, .inl (cI, 24, .inl _)) :: (k3, .inl (cI, 24, .inl _)) :: (k4, .inl (cI, 24, .inl _)) :: (v, .inr (8, [.ref t, .ref vw, .ref vj, _, _])) :: (vw, .inl (cW, 40, .inr (.inr (.inr (.inr _))))) :: (g, .inr (6, [.ref g0, .ref g1, .ref g2, _, _, _])) :: (g0, .inl (cI, 60, .inl _)) :: (g1, .inl (cI, 60, .inl _)) :: (g2, .inl (cI, 60, .inl _)) :: (w, .inr (0, [_, _])) :: dy) := hD
    refine lv_aload_n hx hb dX10_phraseLength_19 rfl (lv_at hl 0 rfl) ?_
    refine va_get (D := D) (ci := 10) (C := RX10) (T := TX10) (N := 10) hx hb hts in_X10 hown hK hP 0 rfl rfl 7 (by decide) fl_72 (fun _ h9 => h9) rfl dX10_phraseLength_20 ?_
    refine va_get (D := D) (ci := 0) (C := RX0) (T := TX0) (N := 2) hx hb hts in_X0 hown hK hP 12 rfl rfl 1 (by decide) fl_243 (fun _ h9 => h9) rfl dX10_phraseLength_23 ?_
    exact mu_iret X hP hS (by simp [aPhLen, ixO_nI hi (show tn < 2 ^ 31 by omega), c_8]) (by simp [phS, ixO_nI hi (show tn < 2 ^ 31 by omega)]) dX10_phraseLength_26
  · replace c_8 := bI_0.mp c_8
    refine lv_bipush (v := -2) hx hb dX10_phraseLength_11 (by decide) ?_
    exact mu_iret X hP hS (by simp [aPhLen, hasK_f c_8 htn]) (by simp [phS, hasK_f c_8 htn]) dX10_phraseLength_13
