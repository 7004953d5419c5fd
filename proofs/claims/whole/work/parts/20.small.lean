/-! Letters, Word, Things, Tokens, Sum, Common: what their methods come to -/
def foB (c : Int32) : Int32 := if c < 65 then c else if 90 < c then c else c - 65 + 97
def foC (fo : Nat → Int32) (c : Int32) : Int32 := if c - 128 < 0 then foB c else if nI 32 ≤ c - 128 then foB c else fo (c - 128).toNatClampNeg
def chF (fo : Nat → Int32) (a b : Int32) : Nat → Int32 := if a - 128 < 0 then fo else if nI 32 ≤ a - 128 then fo else upd fo (a - 128).toNatClampNeg b
def likeB (ct : Nat) (fo : Int32 → Int32) (p : Nat → Int32) (np : Nat) (q : Nat → Int32) (nq : Nat) : Bool := decide (min np ct = min nq ct) && (List.range (min np ct)).all (fun k => decide (fo (p k) = fo (q k)))
theorem likeB_t {ct np nq : Nat} {fo : Int32 → Int32} {p q : Nat → Int32} (h : min np ct = min nq ct) (ha : ∀ i, i < min np ct → fo (p i) = fo (q i)) : likeB ct fo p np q nq = true := by
  simp only [likeB, Bool.and_eq_true, decide_eq_true_eq, List.all_eq_true, List.mem_range]
  exact ⟨h, ha⟩
theorem likeB_f1 {ct np nq : Nat} {fo : Int32 → Int32} {p q : Nat → Int32} (h : ¬ min np ct = min nq ct) : likeB ct fo p np q nq = false := by
  simp [likeB, h]
theorem likeB_f2 {ct np nq k : Nat} {fo : Int32 → Int32} {p q : Nat → Int32} (hk : k < min np ct) (ha : ¬ fo (p k) = fo (q k)) : likeB ct fo p np q nq = false := by
  rw [Bool.eq_false_iff]
  intro h
  simp only [likeB, Bool.and_eq_true, decide_eq_true_eq, List.all_eq_true, List.mem_range] at h
  exact ha (h.2 k hk)
theorem mn_nI {a b : Nat} (ha : a < 2 ^ 31) (hb : b < 2 ^ 31) : (if nI b < nI a then nI b else nI a) = nI (min a b) := by
  by_cases h : b < a
  · rw [if_pos ((nI_ltI hb ha).mpr h), Nat.min_eq_right (Nat.le_of_lt h)]
  · rw [if_neg (fun q => h ((nI_ltI hb ha).mp q)), Nat.min_eq_left (by omega)]
def upB (fu g : Int32) : Bool := decide ((fu.toUInt32 >>> (g.toUInt32 &&& Int32.toUInt32 31)).toInt32 &&& 1 = 1)
def alB (tc bits : Int32) : Bool := decide ((bits.toUInt32 >>> (tc.toUInt32 &&& Int32.toUInt32 31)).toInt32 = 0)
def mbF (mt mw mf : Nat → Int32) (fu w : Int32) : Nat → Int32
  | 0 => 0
  | k + 1 => if mw k = w ∧ (mf k = -1 ∨ upB fu (mf k) = true) then mbF mt mw mf fu w k ||| ((1 : Int32) <<< (mt k &&& 31)) else mbF mt mw mf fu w k
def hasT (tn i : Int32) : Bool := !decide (i < 0) && !decide (tn ≤ i)
def hasK (tn i : Int32) : Bool := !decide (i < 0) && !decide (tn ≤ i) && !decide (24 ≤ i)
def adN (tc : Nat) : Nat := if tc < 24 then tc + 1 else tc
def adF (f : Nat → Int32) (tc : Nat) (v : Int32) : Nat → Int32 := if tc < 24 then upd f tc v else f
def adM (tc : Nat) (tm : Int32) : Int32 := if tc < 24 then tm else 1
def fbh (sr sp v : Int32) : Bool := !decide (v < 1) && !decide (99 < v) && (if sp ≤ 0 then decide (sp = 0) && !decide (sr = 0) else decide (sp - sp / 100 * 100 = 0))
def fbt (sp v : Int32) : Bool := !decide (v < 1) && !decide (9 < v) && !decide (sp - sp / 100 * 100 < 20) && decide ((sp - sp / 100 * 100) - (sp - sp / 100 * 100) / 10 * 10 = 0)
def sumA (sr sp sl v : Int32) : Bool × Int32 × Int32 × Int32 :=
  if sl = 0 then (true, 0, v, 1)
  else if v = 100 ∧ ¬ sp < 1 ∧ ¬ 9 < sp then (true, sr, 100 * sp, sl + 1)
  else if v = 1000 ∧ ¬ sp < 1 ∧ ¬ 999 < sp ∧ sr = 0 then (true, 1000 * sp, 0, sl + 1)
  else if fbh sr sp v = true ∨ fbt sp v = true then (true, sr, sp + v, sl + 1) else (false, sr, sp, sl)
def coA (sh cl b : Int32) : Bool × Int32 × Int32 := if cl = 0 then (if b = 0 then (false, sh, cl) else (true, b, cl + 1)) else if sh &&& b = 0 then (false, sh, cl) else (true, sh &&& b, cl + 1)
def sfF (fu g : Int32) (u : Bool) : Int32 := if u then fu ||| ((1 : Int32) <<< (g &&& 31)) else fu &&& (((1 : Int32) <<< (g &&& 31)) ^^^ (-1))

set_option maxHeartbeats 1000000 in
set_option maxRecDepth 100000 in
theorem c_X3_folded {l : Launch} {D : va_G} {cI cJ cW : ClassId} {t fa : Nat} {cu : Int32} {fo : Nat → Int32} {x : Int32}  : RO l yX3_folded wsX3_folded { frames := 0, cells := 0, slots := 0, locals := 0 } D (ty3 cI cJ cW) [.ref t, .int x] [(t, .inr (3, [.int (cu), .ref fa])), (fa, .inl (cI, 32, .inl fo))] (.int (foC fo x)) := by
  refine ro_of (cc := cX3_folded) (maxL := 3) (ret := (some .int)) (by decide) rfl (Nat.le_of_ble_eq_true rfl) ?_
  intro pr en ss mi below meth cd X hP hK ls hl
  obtain ⟨hx, hb, hml, hown, hts, hr, hlocks⟩ := id X
  have fl_13 := hts (.fieldLink RX3 13 "WordTables$Letters" "folds" "[I") (by decide +kernel)
  have in_X3 : ∀ w ∈ wsX30, w ∈ wsX3_folded := by decide +kernel
  have hl : lv_has ls 3 [(0, .ref t), (1, .int x)] := hl
  refine lv_iload_n hx hb dX3_folded_0 rfl (lv_at hl 1 rfl) ?_
  refine lv_sipush (v := 128) hx hb dX3_folded_1 (by decide) ?_
  refine lv_isub hx hb dX3_folded_4 ?_
  refine lv_istore_n (lv' := [(2, _), (0, _), (1, _)]) hx hb dX3_folded_5 rfl hl (by decide) rfl (fun ls hl => ?_)
  refine lv_iload_n hx hb dX3_folded_6 rfl (lv_at hl 0 rfl) ?_
  refine lv_if_lt (tgt := 26) hx hb dX3_folded_7 (by decide) (fun c_7 => ?_) (fun c_7 => ?_)
  · refine lv_iload_n hx hb dX3_folded_26 rfl (lv_at hl 2 rfl) ?_
    refine lv_bipush (v := 65) hx hb dX3_folded_27 (by decide) ?_
    refine lv_icmp_lt (tgt := 48) hx hb dX3_folded_29 (by decide) (fun c_29 => ?_) (fun c_29 => ?_)
    · refine lv_iload_n hx hb dX3_folded_48 rfl (lv_at hl 2 rfl) ?_
      exact ro_iret X (by simp [foC, foB, c_7, c_29]) dX3_folded_49
    · refine lv_iload_n hx hb dX3_folded_32 rfl (lv_at hl 2 rfl) ?_
      refine lv_bipush (v := 90) hx hb dX3_folded_33 (by decide) ?_
      refine lv_icmp_gt (tgt := 48) hx hb dX3_folded_35 (by decide) (fun c_35 => ?_) (fun c_35 => ?_)
      · refine lv_iload_n hx hb dX3_folded_48 rfl (lv_at hl 2 rfl) ?_
        exact ro_iret X (by simp [foC, foB, c_7, c_29, c_35]) dX3_folded_49
      · refine lv_iload_n hx hb dX3_folded_38 rfl (lv_at hl 2 rfl) ?_
        refine lv_bipush (v := 65) hx hb dX3_folded_39 (by decide) ?_
        refine lv_isub hx hb dX3_folded_41 ?_
        refine lv_bipush (v := 97) hx hb dX3_folded_42 (by decide) ?_
        refine lv_iadd hx hb dX3_folded_44 ?_
        refine lv_goto (tgt := 49) hx hb dX3_folded_45 (by decide) ?_
        exact ro_iret X (by simp [foC, foB, c_7, c_29, c_35]) dX3_folded_49
  · refine lv_iload_n hx hb dX3_folded_10 rfl (lv_at hl 0 rfl) ?_
    refine lv_aload_n hx hb dX3_folded_11 rfl (lv_at hl 1 rfl) ?_
    refine va_get (D := D) (ci := 3) (C := RX3) (T := TX3) (N := 2) hx hb hts in_X3 hown hK hP 0 rfl rfl 1 (by decide) fl_13 (fun _ h9 => h9) rfl dX3_folded_12 ?_
    refine va_alen (v := nI 32) hx hb hK hP 1 0 rfl rfl rfl dX3_folded_15 ?_
    refine lv_icmp_ge (tgt := 26) hx hb dX3_folded_16 (by decide) (fun c_16 => ?_) (fun c_16 => ?_)
    · refine lv_iload_n hx hb dX3_folded_26 rfl (lv_at hl 2 rfl) ?_
      refine lv_bipush (v := 65) hx hb dX3_folded_27 (by decide) ?_
      refine lv_icmp_lt (tgt := 48) hx hb dX3_folded_29 (by decide) (fun c_29 => ?_) (fun c_29 => ?_)
      · refine lv_iload_n hx hb dX3_folded_48 rfl (lv_at hl 2 rfl) ?_
        exact ro_iret X (by simp [foC, foB, c_7, c_16, c_29]) dX3_folded_49
      · refine lv_iload_n hx hb dX3_folded_32 rfl (lv_at hl 2 rfl) ?_
        refine lv_bipush (v := 90) hx hb dX3_folded_33 (by decide) ?_
        refine lv_icmp_gt (tgt := 48) hx hb dX3_folded_35 (by decide) (fun c_35 => ?_) (fun c_35 => ?_)
        · refine lv_iload_n hx hb dX3_folded_48 rfl (lv_at hl 2 rfl) ?_
          exact ro_iret X (by simp [foC, foB, c_7, c_16, c_29, c_35]) dX3_folded_49
        · refine lv_iload_n hx hb dX3_folded_38 rfl (lv_at hl 2 rfl) ?_
          refine lv_bipush (v := 65) hx hb dX3_folded_39 (by decide) ?_
          refine lv_isub hx hb dX3_folded_41 ?_
          refine lv_bipush (v := 97) hx hb dX3_folded_42 (by decide) ?_
          refine lv_iadd hx hb dX3_folded_44 ?_
          refine lv_goto (tgt := 49) hx hb dX3_folded_45 (by decide) ?_
          exact ro_iret X (by simp [foC, foB, c_7, c_16, c_29, c_35]) dX3_folded_49
    · refine lv_aload_n hx hb dX3_folded_19 rfl (lv_at hl 1 rfl) ?_
      refine va_get (D := D) (ci := 3) (C := RX3) (T := TX3) (N := 2) hx hb hts in_X3 hown hK hP 0 rfl rfl 1 (by decide) fl_13 (fun _ h9 => h9) rfl dX3_folded_20 ?_
      refine lv_iload_n hx hb dX3_folded_23 rfl (lv_at hl 0 rfl) ?_
      refine va_iald hx hb hK hP 1 0 rfl rfl (in_lt (by assumption) (by assumption) (by decide)) dX3_folded_24 ?_
      exact ro_iret X (by simp [foC, foB, c_7, c_16]) dX3_folded_25

set_option maxHeartbeats 1000000 in
set_option maxRecDepth 100000 in
theorem c_X3_changeFold {l : Launch} {D : va_G} {cI cJ cW : ClassId} {sz : Nat} {t fa : Nat} {cu : Int32} {fo : Nat → Int32} {x y : Int32}  : MU l yX3_changeFold wsX3_changeFold { frames := 0, cells := 0, slots := 0, locals := 0 } D (ty3 cI cJ cW) [.ref t, .int x, .int y] [(t, .inr (3, [.int (cu), .ref fa])), (fa, .inl (cI, 32, .inl fo))] sz none [(t, .inr (3, [.int (cu), .ref fa])), (fa, .inl (cI, 32, .inl (chF fo x y)))] := by
  refine mu_of (cc := cX3_changeFold) (maxL := 4) (ret := none) (by decide) rfl (Nat.le_of_ble_eq_true rfl) ?_
  intro pr en ss mi below meth cd X hK A hA hP hD hS ls hl
  obtain ⟨hx, hb, hml, hown, hts, hr, hlocks⟩ := id X
  have fl_13 := hts (.fieldLink RX3 13 "WordTables$Letters" "folds" "[I") (by decide +kernel)
  have in_X3 : ∀ w ∈ wsX30, w ∈ wsX3_changeFold := by decide +kernel
  have hl : lv_has ls 4 [(0, .ref t), (1, .int x), (2, .int y)] := hl
  refine lv_iload_n hx hb dX3_changeFold_0 rfl (lv_at hl 1 rfl) ?_
  refine lv_sipush (v := 128) hx hb dX3_changeFold_1 (by decide) ?_
  refine lv_isub hx hb dX3_changeFold_4 ?_
  refine lv_istore_n (lv' := [(3, _), (0, _), (1, _), (2, _)]) hx hb dX3_changeFold_5 rfl hl (by decide) rfl (fun ls hl => ?_)
  refine lv_iload_n hx hb dX3_changeFold_6 rfl (lv_at hl 0 rfl) ?_
  refine lv_if_lt (tgt := 26) hx hb dX3_changeFold_7 (by decide) (fun c_7 => ?_) (fun c_7 => ?_)
  · exact mu_vret X hP hS (by simp [chF, c_7]) dX3_changeFold_26
  · refine lv_iload_n hx hb dX3_changeFold_10 rfl (lv_at hl 0 rfl) ?_
    refine lv_aload_n hx hb dX3_changeFold_11 rfl (lv_at hl 1 rfl) ?_
    refine va_get (D := D) (ci := 3) (C := RX3) (T := TX3) (N := 2) hx hb hts in_X3 hown hK hP 0 rfl rfl 1 (by decide) fl_13 (fun _ h9 => h9) rfl dX3_changeFold_12 ?_
    refine va_alen (v := nI 32) hx hb hK hP 1 0 rfl rfl rfl dX3_changeFold_15 ?_
    refine lv_icmp_ge (tgt := 26) hx hb dX3_changeFold_16 (by decide) (fun c_16 => ?_) (fun c_16 => ?_)
    · exact mu_vret X hP hS (by simp [chF, c_7, c_16]) dX3_changeFold_26
    · refine lv_aload_n hx hb dX3_changeFold_19 rfl (lv_at hl 1 rfl) ?_
      refine va_get (D := D) (ci := 3) (C := RX3) (T := TX3) (N := 2) hx hb hts in_X3 hown hK hP 0 rfl rfl 1 (by decide) fl_13 (fun _ h9 => h9) rfl dX3_changeFold_20 ?_
      refine lv_iload_n hx hb dX3_changeFold_23 rfl (lv_at hl 0 rfl) ?_
      refine lv_iload_n hx hb dX3_changeFold_24 rfl (lv_at hl 3 rfl) ?_
      refine va_iast hx hb hK hP hD hS 1 0 rfl rfl (in_lt (by assumption) (by assumption) (by decide)) dX3_changeFold_25 (fun H locs hP hD hS => ?_)
      have hP : va_P D vwCl [(t, .inr (3, [_, .ref fa])), (fa, .inl (cI, 32, .inl _))] H := hP
      have hD : va_D A [(t, .inr (3, [_, .ref fa])), (fa, .inl (cI, 32, .inl _))] := hD
      exact mu_vret X hP hS (by simp [chF, c_7, c_16]) dX3_changeFold_26

set_option maxHeartbeats 1000000 in
set_option maxRecDepth 100000 in
theorem c_X3_areLike {l : Launch} {D : va_G} {cI cJ cW : ClassId} {t fa ct : Nat} {fo : Nat → Int32} {kh kb kn kN : Nat} {kf : Nat → Int32} {th tb tn tN : Nat} {tf : Nat → Int32} {fr ln : Nat} (hct : ct < 2 ^ 31) (hkN : kN < 2 ^ 31) (htN : tN < 2 ^ 31) (hkn : kn ≤ kN) (htn : tn ≤ tN) (hfl : fr + ln ≤ tn) : RO l yX3_areLike wsX3_areLike { frames := 1, cells := 0, slots := 0, locals := 22 } D (ty3 cI cJ cW) [.ref t, .ref kh, .ref th, .int (nI fr), .int (nI ln)] [(t, .inr (3, [.int (nI ct), .ref fa])), (fa, .inl (cI, 32, .inl fo)), (kh, .inr (4, [.ref kb, .int (nI kn)])), (kb, .inl (cI, kN, .inl kf)), (th, .inr (4, [.ref tb, .int (nI tn)])), (tb, .inl (cI, tN, .inl tf))] (.int (bI (likeB ct (foC fo) kf kn (fun k => tf (fr + k)) ln))) := by
  refine ro_of (cc := cX3_areLike) (maxL := 7) (ret := (some .boolean)) (by decide) rfl (Nat.le_of_ble_eq_true rfl) ?_
  intro pr en ss mi below meth cd X hP hK ls hl
  obtain ⟨hx, hb, hml, hown, hts, hr, hlocks⟩ := id X
  have fl_24 := hts (.fieldLink RX3 24 "WordTables$Row" "count" "I") (by decide +kernel)
  have fl_7 := hts (.fieldLink RX3 7 "WordTables$Letters" "cut" "I") (by decide +kernel)
  have in_X3 : ∀ w ∈ wsX30, w ∈ wsX3_areLike := by decide +kernel
  have in_X4 : ∀ w ∈ wsX40, w ∈ wsX3_areLike := by decide +kernel
  have hl : lv_has ls 7 [(0, .ref t), (1, .ref kh), (2, .ref th), (3, .int (nI fr)), (4, .int (nI ln))] := hl
  refine lv_aload_n hx hb dX3_areLike_0 rfl (lv_at hl 1 rfl) ?_
  refine va_get (D := D) (ci := 4) (C := RX4) (T := TX4) (N := 2) hx hb hts in_X4 hown hK hP 2 rfl rfl 1 (by decide) fl_24 (fun _ h9 => h9) rfl dX3_areLike_1 ?_
  refine lv_aload_n hx hb dX3_areLike_4 rfl (lv_at hl 0 rfl) ?_
  refine va_get (D := D) (ci := 3) (C := RX3) (T := TX3) (N := 2) hx hb hts in_X3 hown hK hP 0 rfl rfl 0 (by decide) fl_7 (fun _ h9 => h9) rfl dX3_areLike_5 ?_
  refine va_mmin hx hb (hml.trans hl.1.symm) hown (hts (.methodLink RX3 29 Lib.Math.min.name) (by decide +kernel)) (hts (.static Lib.Math.min.name) (by decide +kernel)) (hts (.initialized "java/lang/Math") (by decide +kernel)) (hts (.code Lib.Math.min.name Lib.Math.min.code 2 (some .int)) (by decide +kernel)) (Nat.le_of_ble_eq_true rfl) (Nat.le_of_ble_eq_true rfl) (Nat.zero_le _) (Nat.zero_le _) dX3_areLike_8 ?_
  rw [mn_nI (by omega) (by omega)]
  refine lv_istore (lv' := [(5, _), (0, _), (1, _), (2, _), (3, _), (4, _)]) hx hb dX3_areLike_11 hl (by decide) rfl (fun ls hl => ?_)
  refine lv_iload hx hb dX3_areLike_13 (lv_at hl 0 rfl) ?_
  refine lv_iload hx hb dX3_areLike_15 (lv_at hl 5 rfl) ?_
  refine lv_aload_n hx hb dX3_areLike_17 rfl (lv_at hl 1 rfl) ?_
  refine va_get (D := D) (ci := 3) (C := RX3) (T := TX3) (N := 2) hx hb hts in_X3 hown hK hP 0 rfl rfl 0 (by decide) fl_7 (fun _ h9 => h9) rfl dX3_areLike_18 ?_
  refine va_mmin hx hb (hml.trans hl.1.symm) hown (hts (.methodLink RX3 29 Lib.Math.min.name) (by decide +kernel)) (hts (.static Lib.Math.min.name) (by decide +kernel)) (hts (.initialized "java/lang/Math") (by decide +kernel)) (hts (.code Lib.Math.min.name Lib.Math.min.code 2 (some .int)) (by decide +kernel)) (Nat.le_of_ble_eq_true rfl) (Nat.le_of_ble_eq_true rfl) (Nat.zero_le _) (Nat.zero_le _) dX3_areLike_21 ?_
  rw [mn_nI (by omega) (by omega)]
  refine lv_icmp_eq (tgt := 29) hx hb dX3_areLike_24 (by decide) (fun c_24 => ?_) (fun c_24 => ?_)
  · have h_24 : min kn ct = min ln ct := (nI_eq (by omega) (by omega)).mp c_24
    refine lv_iconst (v := 0) hx hb dX3_areLike_29 (by decide) ?_
    refine lv_istore (lv' := [(6, _), (5, _), (0, _), (1, _), (2, _), (3, _), (4, _)]) hx hb dX3_areLike_30 hl (by decide) rfl (fun ls hl => ?_)
    have loop_32 : ∀ (fuel : Nat) (k : Nat), min kn ct - k < fuel → k ≤ min kn ct → (∀ i, i < k → foC fo (kf i) = foC fo (tf (fr + i))) → ∀ ls : Array Slot, lv_has ls 7 [(0, .ref t), (1, .ref kh), (2, .ref th), (3, .int (nI fr)), (4, .int (nI ln)), (5, .int (nI (min kn ct))), (6, .int (nI k))] → W pr l en { frames := 1, cells := 0, slots := 0, locals := 22 } ss mi ([.ref t, .ref kh, .ref th, .int (nI fr), .int (nI ln)] : List Value).toArray below meth cd ss.heap [] 0 0 (MQ below (k2_QcV (.int (bI (likeB ct (foC fo) kf kn (fun k => tf (fr + k)) ln)))) ([.ref t, .ref kh, .ref th, .int (nI fr), .int (nI ln)] : List Value).toArray ss 0 0 (fun _ => False)) (F0 mi 32 ls []) := by
      intro fuel
      induction fuel with
      | zero => intro k hm; exact absurd hm (Nat.not_lt_zero _)
      | succ fuel ih =>
        intro k hm hk ha  ls hl
        refine lv_iload hx hb dX3_areLike_32 (lv_at hl 6 rfl) ?_
        refine lv_iload hx hb dX3_areLike_34 (lv_at hl 5 rfl) ?_
        refine lv_icmp_ge (tgt := 72) hx hb dX3_areLike_36 (by decide) (fun c_36 => ?_) (fun c_36 => ?_)
        · have hkm : k = min kn ct := eq_ge c_36 hk (by omega)
          refine lv_iconst (v := 1) hx hb dX3_areLike_72 (by decide) ?_
          exact ro_zret X (by rw [likeB_t (fo := foC fo) (p := kf) (q := fun k => tf (fr + k)) h_24 (fun i hi => ha i (by omega))]; rfl) dX3_areLike_73
        · have hlt : k < min kn ct := lt_nge c_36 hk (by omega)
          refine lv_aload_n hx hb dX3_areLike_39 rfl (lv_at hl 0 rfl) ?_
          refine lv_aload_n hx hb dX3_areLike_40 rfl (lv_at hl 1 rfl) ?_
          refine lv_iload hx hb dX3_areLike_41 (lv_at hl 6 rfl) ?_
          refine ro_V (n := 1) X hK (c_X4_byteAt hkN) gX3_areLike_X4_byteAt rfl (by decide +kernel) ⟨rfl, rfl⟩ ⟨Nat.le_of_ble_eq_true rfl, Nat.le_of_ble_eq_true rfl⟩ (hP.sub [2, 3] rfl) (va_recv hK hP (ci := 4) (q0 := 2) rfl rfl) rfl hl.1 rfl (Nat.le_of_ble_eq_true rfl) dX3_areLike_43 ⟨Nat.zero_le _, Nat.zero_le _⟩ ?_
          refine ro_V (n := 1) X hK (c_X3_folded) gX3_areLike_X3_folded rfl (by decide +kernel) ⟨rfl, rfl⟩ ⟨Nat.le_of_ble_eq_true rfl, Nat.le_of_ble_eq_true rfl⟩ (hP.sub [0, 1] rfl) (va_recv hK hP (ci := 3) (q0 := 0) rfl rfl) rfl hl.1 rfl (Nat.le_of_ble_eq_true rfl) dX3_areLike_46 ⟨Nat.zero_le _, Nat.zero_le _⟩ ?_
          refine lv_aload_n hx hb dX3_areLike_49 rfl (lv_at hl 0 rfl) ?_
          refine lv_aload_n hx hb dX3_areLike_50 rfl (lv_at hl 2 rfl) ?_
          refine lv_iload_n hx hb dX3_areLike_51 rfl (lv_at hl 3 rfl) ?_
          refine lv_iload hx hb dX3_areLike_52 (lv_at hl 6 rfl) ?_
          refine lv_iadd hx hb dX3_areLike_54 ?_
          rw [nI_add]
          refine ro_V (n := 1) X hK (c_X4_byteAt htN) gX3_areLike_X4_byteAt rfl (by decide +kernel) ⟨rfl, rfl⟩ ⟨Nat.le_of_ble_eq_true rfl, Nat.le_of_ble_eq_true rfl⟩ (hP.sub [4, 5] rfl) (va_recv hK hP (ci := 4) (q0 := 4) rfl rfl) rfl hl.1 rfl (Nat.le_of_ble_eq_true rfl) dX3_areLike_55 ⟨Nat.zero_le _, Nat.zero_le _⟩ ?_
          refine ro_V (n := 1) X hK (c_X3_folded) gX3_areLike_X3_folded rfl (by decide +kernel) ⟨rfl, rfl⟩ ⟨Nat.le_of_ble_eq_true rfl, Nat.le_of_ble_eq_true rfl⟩ (hP.sub [0, 1] rfl) (va_recv hK hP (ci := 3) (q0 := 0) rfl rfl) rfl hl.1 rfl (Nat.le_of_ble_eq_true rfl) dX3_areLike_58 ⟨Nat.zero_le _, Nat.zero_le _⟩ ?_
          rw [rowAt_lt (n := kn) (N := kN) (k := k) (f := kf) (by omega) (by omega) (by omega) (by omega), rowAt_lt (n := tn) (N := tN) (k := fr + k) (f := tf) (by omega) (by omega) (by omega) (by omega)]
          refine lv_icmp_eq (tgt := 66) hx hb dX3_areLike_61 (by decide) (fun c_61 => ?_) (fun c_61 => ?_)
          · refine lv_iinc (v := (_ : Int32) + 1) (lv' := [(6, _), (0, _), (1, _), (2, _), (3, _), (4, _), (5, _)]) hx hb dX3_areLike_66 hl (k := 6) rfl rfl (by decide) rfl (fun ls hl => ?_)
            refine lv_goto (tgt := 32) hx hb dX3_areLike_69 (by decide) ?_
            rw [nI_1] at hl
            exact ih (k + 1) (by omega) (by omega) (lt_s ha c_61)  _ (lv_sub hl [1, 2, 3, 4, 5, 6, 0] rfl)
          · refine lv_iconst (v := 0) hx hb dX3_areLike_64 (by decide) ?_
            exact ro_zret X (by rw [likeB_f2 (fo := foC fo) (p := kf) (q := fun k => tf (fr + k)) hlt c_61]; rfl) dX3_areLike_65
    exact loop_32 (min kn ct + 1) 0 (by omega) (Nat.zero_le _) (fun i hi => absurd hi (Nat.not_lt_zero i))  ls (lv_sub hl [2, 3, 4, 5, 6, 1, 0] rfl)
  · have h_24 : ¬ min kn ct = min ln ct := fun q => c_24 (by rw [q])
    refine lv_iconst (v := 0) hx hb dX3_areLike_27 (by decide) ?_
    exact ro_zret X (by rw [likeB_f1 h_24]; rfl) dX3_areLike_28

set_option maxHeartbeats 1000000 in
set_option maxRecDepth 100000 in
theorem c_X9_isOneOf {l : Launch} {D : va_G} {cI cJ cW : ClassId} {wa wr : Nat} {w1 w2 w3 w4 w5 x : Int32}  : RO l yX9_isOneOf wsX9_isOneOf { frames := 0, cells := 0, slots := 0, locals := 0 } D (ty3 cI cJ cW) [.ref wa, .int x] [(wa, .inr (9, [.ref wr, .int w1, .int w2, .int w3, .int w4, .int w5]))] (.int (bI (decide (¬ w2 &&& x = 0)))) := by
  refine ro_of (cc := cX9_isOneOf) (maxL := 2) (ret := (some .boolean)) (by decide) rfl (Nat.le_of_ble_eq_true rfl) ?_
  intro pr en ss mi below meth cd X hP hK ls hl
  obtain ⟨hx, hb, hml, hown, hts, hr, hlocks⟩ := id X
  have fl_34 := hts (.fieldLink RX9 34 "WordTables$Word" "kinds" "I") (by decide +kernel)
  have in_X9 : ∀ w ∈ wsX90, w ∈ wsX9_isOneOf := by decide +kernel
  have hl : lv_has ls 2 [(0, .ref wa), (1, .int x)] := hl
  refine lv_aload_n hx hb dX9_isOneOf_0 rfl (lv_at hl 0 rfl) ?_
  refine va_get (D := D) (ci := 9) (C := RX9) (T := TX9) (N := 6) hx hb hts in_X9 hown hK hP 0 rfl rfl 2 (by decide) fl_34 (fun _ h9 => h9) rfl dX9_isOneOf_1 ?_
  refine lv_iload_n hx hb dX9_isOneOf_4 rfl (lv_at hl 1 rfl) ?_
  refine lv_iand hx hb dX9_isOneOf_5 ?_
  refine lv_if_eq (tgt := 13) hx hb dX9_isOneOf_6 (by decide) (fun c_6 => ?_) (fun c_6 => ?_)
  · refine lv_iconst (v := 0) hx hb dX9_isOneOf_13 (by decide) ?_
    exact ro_zret X (by simp [bI, c_6]) dX9_isOneOf_14
  · refine lv_iconst (v := 1) hx hb dX9_isOneOf_9 (by decide) ?_
    refine lv_goto (tgt := 14) hx hb dX9_isOneOf_10 (by decide) ?_
    exact ro_zret X (by simp [bI, c_6]) dX9_isOneOf_14

set_option maxHeartbeats 1000000 in
set_option maxRecDepth 100000 in
theorem c_X6_has {l : Launch} {D : va_G} {cI cJ cW : ClassId} {g g0 g1 g2 : Nat} {tc mc fu : Int32} {x : Int32}  : RO l yX6_has wsX6_has { frames := 0, cells := 0, slots := 0, locals := 0 } D (ty3 cI cJ cW) [.ref g, .int x] [(g, .inr (6, [.ref g0, .ref g1, .ref g2, .int tc, .int mc, .int fu]))] (.int (bI (hasT tc x))) := by
  refine ro_of (cc := cX6_has) (maxL := 2) (ret := (some .boolean)) (by decide) rfl (Nat.le_of_ble_eq_true rfl) ?_
  intro pr en ss mi below meth cd X hP hK ls hl
  obtain ⟨hx, hb, hml, hown, hts, hr, hlocks⟩ := id X
  have fl_21 := hts (.fieldLink RX6 21 "WordTables$Things" "count" "I") (by decide +kernel)
  have in_X6 : ∀ w ∈ wsX60, w ∈ wsX6_has := by decide +kernel
  have hl : lv_has ls 2 [(0, .ref g), (1, .int x)] := hl
  refine lv_iload_n hx hb dX6_has_0 rfl (lv_at hl 1 rfl) ?_
  refine lv_if_lt (tgt := 16) hx hb dX6_has_1 (by decide) (fun c_1 => ?_) (fun c_1 => ?_)
  · refine lv_iconst (v := 0) hx hb dX6_has_16 (by decide) ?_
    exact ro_zret X (by simp [hasT, bI, c_1]) dX6_has_17
  · refine lv_iload_n hx hb dX6_has_4 rfl (lv_at hl 1 rfl) ?_
    refine lv_aload_n hx hb dX6_has_5 rfl (lv_at hl 0 rfl) ?_
    refine va_get (D := D) (ci := 6) (C := RX6) (T := TX6) (N := 6) hx hb hts in_X6 hown hK hP 0 rfl rfl 3 (by decide) fl_21 (fun _ h9 => h9) rfl dX6_has_6 ?_
    refine lv_icmp_ge (tgt := 16) hx hb dX6_has_9 (by decide) (fun c_9 => ?_) (fun c_9 => ?_)
    · refine lv_iconst (v := 0) hx hb dX6_has_16 (by decide) ?_
      exact ro_zret X (by simp [hasT, bI, c_1, c_9]) dX6_has_17
    · refine lv_iconst (v := 1) hx hb dX6_has_12 (by decide) ?_
      refine lv_goto (tgt := 17) hx hb dX6_has_13 (by decide) ?_
      exact ro_zret X (by simp [hasT, bI, c_1, c_9]) dX6_has_17

set_option maxHeartbeats 1000000 in
set_option maxRecDepth 100000 in
theorem c_X6_areAll {l : Launch} {D : va_G} {cI cJ cW : ClassId} {g g0 g1 g2 : Nat} {tc mc fu : Int32} {x : Int32}  : RO l yX6_areAll wsX6_areAll { frames := 0, cells := 0, slots := 0, locals := 0 } D (ty3 cI cJ cW) [.ref g, .int x] [(g, .inr (6, [.ref g0, .ref g1, .ref g2, .int tc, .int mc, .int fu]))] (.int (bI (alB tc x))) := by
  refine ro_of (cc := cX6_areAll) (maxL := 2) (ret := (some .boolean)) (by decide) rfl (Nat.le_of_ble_eq_true rfl) ?_
  intro pr en ss mi below meth cd X hP hK ls hl
  obtain ⟨hx, hb, hml, hown, hts, hr, hlocks⟩ := id X
  have fl_21 := hts (.fieldLink RX6 21 "WordTables$Things" "count" "I") (by decide +kernel)
  have in_X6 : ∀ w ∈ wsX60, w ∈ wsX6_areAll := by decide +kernel
  have hl : lv_has ls 2 [(0, .ref g), (1, .int x)] := hl
  refine lv_iload_n hx hb dX6_areAll_0 rfl (lv_at hl 1 rfl) ?_
  refine lv_aload_n hx hb dX6_areAll_1 rfl (lv_at hl 0 rfl) ?_
  refine va_get (D := D) (ci := 6) (C := RX6) (T := TX6) (N := 6) hx hb hts in_X6 hown hK hP 0 rfl rfl 3 (by decide) fl_21 (fun _ h9 => h9) rfl dX6_areAll_2 ?_
  refine lv_iushr hx hb dX6_areAll_5 rfl ?_
  refine lv_if_ne (tgt := 13) hx hb dX6_areAll_6 (by decide) (fun c_6 => ?_) (fun c_6 => ?_)
  · refine lv_iconst (v := 0) hx hb dX6_areAll_13 (by decide) ?_
    exact ro_zret X (by simp [alB, bI, c_6]) dX6_areAll_14
  · refine lv_iconst (v := 1) hx hb dX6_areAll_9 (by decide) ?_
    refine lv_goto (tgt := 14) hx hb dX6_areAll_10 (by decide) ?_
    exact ro_zret X (by simp [alB, bI, c_6]) dX6_areAll_14

set_option maxHeartbeats 1000000 in
set_option maxRecDepth 100000 in
theorem c_X6_isUp {l : Launch} {D : va_G} {cI cJ cW : ClassId} {g g0 g1 g2 : Nat} {tc mc fu : Int32} {x : Int32}  : RO l yX6_isUp wsX6_isUp { frames := 0, cells := 0, slots := 0, locals := 0 } D (ty3 cI cJ cW) [.ref g, .int x] [(g, .inr (6, [.ref g0, .ref g1, .ref g2, .int tc, .int mc, .int fu]))] (.int (bI (upB fu x))) := by
  refine ro_of (cc := cX6_isUp) (maxL := 2) (ret := (some .boolean)) (by decide) rfl (Nat.le_of_ble_eq_true rfl) ?_
  intro pr en ss mi below meth cd X hP hK ls hl
  obtain ⟨hx, hb, hml, hown, hts, hr, hlocks⟩ := id X
  have fl_28 := hts (.fieldLink RX6 28 "WordTables$Things" "flagsUp" "I") (by decide +kernel)
  have in_X6 : ∀ w ∈ wsX60, w ∈ wsX6_isUp := by decide +kernel
  have hl : lv_has ls 2 [(0, .ref g), (1, .int x)] := hl
  refine lv_aload_n hx hb dX6_isUp_0 rfl (lv_at hl 0 rfl) ?_
  refine va_get (D := D) (ci := 6) (C := RX6) (T := TX6) (N := 6) hx hb hts in_X6 hown hK hP 0 rfl rfl 5 (by decide) fl_28 (fun _ h9 => h9) rfl dX6_isUp_1 ?_
  refine lv_iload_n hx hb dX6_isUp_4 rfl (lv_at hl 1 rfl) ?_
  refine lv_iushr hx hb dX6_isUp_5 rfl ?_
  refine lv_iconst (v := 1) hx hb dX6_isUp_6 (by decide) ?_
  refine lv_iand hx hb dX6_isUp_7 ?_
  refine lv_iconst (v := 1) hx hb dX6_isUp_8 (by decide) ?_
  refine lv_icmp_ne (tgt := 16) hx hb dX6_isUp_9 (by decide) (fun c_9 => ?_) (fun c_9 => ?_)
  · refine lv_iconst (v := 0) hx hb dX6_isUp_16 (by decide) ?_
    exact ro_zret X (by simp [upB, bI, c_9]) dX6_isUp_17
  · refine lv_iconst (v := 1) hx hb dX6_isUp_12 (by decide) ?_
    refine lv_goto (tgt := 17) hx hb dX6_isUp_13 (by decide) ?_
    exact ro_zret X (by simp [upB, bI, c_9]) dX6_isUp_17

set_option maxHeartbeats 1000000 in
set_option maxRecDepth 100000 in
theorem c_X6_addThing {l : Launch} {D : va_G} {cI cJ cW : ClassId} {sz : Nat} {g g0 g1 g2 : Nat} {tc mc fu : Int32}  : MU l yX6_addThing wsX6_addThing { frames := 0, cells := 0, slots := 0, locals := 0 } D (ty3 cI cJ cW) [.ref g] [(g, .inr (6, [.ref g0, .ref g1, .ref g2, .int tc, .int mc, .int fu]))] sz (some (.int (bI (decide (tc < 12))))) [(g, .inr (6, [.ref g0, .ref g1, .ref g2, .int (if tc < 12 then tc + 1 else tc), .int mc, .int fu]))] := by
  refine mu_of (cc := cX6_addThing) (maxL := 1) (ret := (some .boolean)) (by decide) rfl (Nat.le_of_ble_eq_true rfl) ?_
  intro pr en ss mi below meth cd X hK A hA hP hD hS ls hl
  obtain ⟨hx, hb, hml, hown, hts, hr, hlocks⟩ := id X
  have fl_21 := hts (.fieldLink RX6 21 "WordTables$Things" "count" "I") (by decide +kernel)
  have in_X6 : ∀ w ∈ wsX60, w ∈ wsX6_addThing := by decide +kernel
  have hl : lv_has ls 1 [(0, .ref g)] := hl
  refine lv_aload_n hx hb dX6_addThing_0 rfl (lv_at hl 0 rfl) ?_
  refine va_get (D := D) (ci := 6) (C := RX6) (T := TX6) (N := 6) hx hb hts in_X6 hown hK hP 0 rfl rfl 3 (by decide) fl_21 (fun _ h9 => h9) rfl dX6_addThing_1 ?_
  refine lv_bipush (v := 12) hx hb dX6_addThing_4 (by decide) ?_
  refine lv_icmp_lt (tgt := 11) hx hb dX6_addThing_6 (by decide) (fun c_6 => ?_) (fun c_6 => ?_)
  · refine lv_aload_n hx hb dX6_addThing_11 rfl (lv_at hl 0 rfl) ?_
    refine lv_dup hx hb dX6_addThing_12 rfl ?_
    refine va_get (D := D) (ci := 6) (C := RX6) (T := TX6) (N := 6) hx hb hts in_X6 hown hK hP 0 rfl rfl 3 (by decide) fl_21 (fun _ h9 => h9) rfl dX6_addThing_13 ?_
    refine lv_iconst (v := 1) hx hb dX6_addThing_16 (by decide) ?_
    refine lv_iadd hx hb dX6_addThing_17 ?_
    refine va_put (D := D) (ci := 6) (ty := .int) (C := RX6) (T := TX6) (N := 6) hx hb hts in_X6 tyX6 tyX6_ok nmX6 hown hK hP hD hS 0 rfl rfl 3 (by decide) fl_21 (fun _ h9 => h9) rfl (by decide +kernel) rfl rfl (Nat.le_of_ble_eq_true rfl) dX6_addThing_18 (fun H locs hP hD hS => ?_)
    have hP : va_P D vwCl [(g, .inr (6, [.ref g0, .ref g1, .ref g2, _, _, _]))] H := hP
    have hD : va_D A [(g, .inr (6, [.ref g0, .ref g1, .ref g2, _, _, _]))] := hD
    refine lv_iconst (v := 1) hx hb dX6_addThing_21 (by decide) ?_
    exact mu_zret X hP hS (by simp [bI, c_6]) (by simp [bI, c_6]) dX6_addThing_22
  · refine lv_iconst (v := 0) hx hb dX6_addThing_9 (by decide) ?_
    exact mu_zret X hP hS (by simp [bI, c_6]) (by simp [bI, c_6]) dX6_addThing_10

set_option maxHeartbeats 1000000 in
set_option maxRecDepth 100000 in
theorem c_X6_setFlag {l : Launch} {D : va_G} {cI cJ cW : ClassId} {sz : Nat} {g g0 g1 g2 : Nat} {tc mc fu : Int32} {x : Int32} {u : Bool}  : MU l yX6_setFlag wsX6_setFlag { frames := 0, cells := 0, slots := 0, locals := 0 } D (ty3 cI cJ cW) [.ref g, .int x, .int (bI u)] [(g, .inr (6, [.ref g0, .ref g1, .ref g2, .int tc, .int mc, .int fu]))] sz none [(g, .inr (6, [.ref g0, .ref g1, .ref g2, .int tc, .int mc, .int (sfF fu x u)]))] := by
  refine mu_of (cc := cX6_setFlag) (maxL := 4) (ret := none) (by decide) rfl (Nat.le_of_ble_eq_true rfl) ?_
  intro pr en ss mi below meth cd X hK A hA hP hD hS ls hl
  obtain ⟨hx, hb, hml, hown, hts, hr, hlocks⟩ := id X
  have fl_28 := hts (.fieldLink RX6 28 "WordTables$Things" "flagsUp" "I") (by decide +kernel)
  have in_X6 : ∀ w ∈ wsX60, w ∈ wsX6_setFlag := by decide +kernel
  have hl : lv_has ls 4 [(0, .ref g), (1, .int x), (2, .int (bI u))] := hl
  refine lv_iconst (v := 1) hx hb dX6_setFlag_0 (by decide) ?_
  refine lv_iload_n hx hb dX6_setFlag_1 rfl (lv_at hl 1 rfl) ?_
  refine lv_ishl hx hb dX6_setFlag_2 ?_
  refine lv_istore_n (lv' := [(3, _), (0, _), (1, _), (2, _)]) hx hb dX6_setFlag_3 rfl hl (by decide) rfl (fun ls hl => ?_)
  refine lv_aload_n hx hb dX6_setFlag_4 rfl (lv_at hl 1 rfl) ?_
  refine lv_iload_n hx hb dX6_setFlag_5 rfl (lv_at hl 3 rfl) ?_
  refine lv_if_eq (tgt := 18) hx hb dX6_setFlag_6 (by decide) (fun c_6 => ?_) (fun c_6 => ?_)
  · replace c_6 := bI_0.mp c_6
    refine lv_aload_n hx hb dX6_setFlag_18 rfl (lv_at hl 1 rfl) ?_
    refine va_get (D := D) (ci := 6) (C := RX6) (T := TX6) (N := 6) hx hb hts in_X6 hown hK hP 0 rfl rfl 5 (by decide) fl_28 (fun _ h9 => h9) rfl dX6_setFlag_19 ?_
    refine lv_iload_n hx hb dX6_setFlag_22 rfl (lv_at hl 0 rfl) ?_
    refine lv_iconst (v := -1) hx hb dX6_setFlag_23 (by decide) ?_
    refine lv_ixor hx hb dX6_setFlag_24 ?_
    refine lv_iand hx hb dX6_setFlag_25 ?_
    refine va_put (D := D) (ci := 6) (ty := .int) (C := RX6) (T := TX6) (N := 6) hx hb hts in_X6 tyX6 tyX6_ok nmX6 hown hK hP hD hS 0 rfl rfl 5 (by decide) fl_28 (fun _ h9 => h9) rfl (by decide +kernel) rfl rfl (Nat.le_of_ble_eq_true rfl) dX6_setFlag_26 (fun H locs hP hD hS => ?_)
    have hP : va_P D vwCl [(g, .inr (6, [.ref g0, .ref g1, .ref g2, _, _, _]))] H := hP
    have hD : va_D A [(g, .inr (6, [.ref g0, .ref g1, .ref g2, _, _, _]))] := hD
    exact mu_vret X hP hS (by cases u <;> simp_all [bI, sfF]) dX6_setFlag_29
  · replace c_6 := bI_n0.mp c_6
    refine lv_aload_n hx hb dX6_setFlag_9 rfl (lv_at hl 1 rfl) ?_
    refine va_get (D := D) (ci := 6) (C := RX6) (T := TX6) (N := 6) hx hb hts in_X6 hown hK hP 0 rfl rfl 5 (by decide) fl_28 (fun _ h9 => h9) rfl dX6_setFlag_10 ?_
    refine lv_iload_n hx hb dX6_setFlag_13 rfl (lv_at hl 0 rfl) ?_
    refine lv_ior hx hb dX6_setFlag_14 ?_
    refine lv_goto (tgt := 26) hx hb dX6_setFlag_15 (by decide) ?_
    refine va_put (D := D) (ci := 6) (ty := .int) (C := RX6) (T := TX6) (N := 6) hx hb hts in_X6 tyX6 tyX6_ok nmX6 hown hK hP hD hS 0 rfl rfl 5 (by decide) fl_28 (fun _ h9 => h9) rfl (by decide +kernel) rfl rfl (Nat.le_of_ble_eq_true rfl) dX6_setFlag_26 (fun H locs hP hD hS => ?_)
    have hP : va_P D vwCl [(g, .inr (6, [.ref g0, .ref g1, .ref g2, _, _, _]))] H := hP
    have hD : va_D A [(g, .inr (6, [.ref g0, .ref g1, .ref g2, _, _, _]))] := hD
    exact mu_vret X hP hS (by cases u <;> simp_all [bI, sfF]) dX6_setFlag_29

set_option maxHeartbeats 1000000 in
set_option maxRecDepth 100000 in
theorem c_X6_addMeaning {l : Launch} {D : va_G} {cI cJ cW : ClassId} {sz : Nat} {g g0 g1 g2 : Nat} {tc fu : Int32} {mt mw mf : Nat → Int32} {mm : Nat} {x y z : Int32} (hmm : mm ≤ 60) : MU l yX6_addMeaning wsX6_addMeaning { frames := 0, cells := 0, slots := 0, locals := 0 } D (ty3 cI cJ cW) [.ref g, .int x, .int y, .int z] [(g, .inr (6, [.ref g0, .ref g1, .ref g2, .int tc, .int (nI mm), .int fu])), (g0, .inl (cI, 60, .inl mt)), (g1, .inl (cI, 60, .inl mw)), (g2, .inl (cI, 60, .inl mf))] sz (some (.int (bI (decide (mm < 60))))) [(g, .inr (6, [.ref g0, .ref g1, .ref g2, .int tc, .int (nI (if mm < 60 then mm + 1 else mm)), .int fu])), (g0, .inl (cI, 60, .inl (if mm < 60 then upd mt mm x else mt))), (g1, .inl (cI, 60, .inl (if mm < 60 then upd mw mm y else mw))), (g2, .inl (cI, 60, .inl (if mm < 60 then upd mf mm z else mf)))] := by
  refine mu_of (cc := cX6_addMeaning) (maxL := 4) (ret := (some .boolean)) (by decide) rfl (Nat.le_of_ble_eq_true rfl) ?_
  intro pr en ss mi below meth cd X hK A hA hP hD hS ls hl
  obtain ⟨hx, hb, hml, hown, hts, hr, hlocks⟩ := id X
  have fl_15 := hts (.fieldLink RX6 15 "WordTables$Things" "meaningWords" "[I") (by decide +kernel)
  have fl_18 := hts (.fieldLink RX6 18 "WordTables$Things" "meaningFlags" "[I") (by decide +kernel)
  have fl_25 := hts (.fieldLink RX6 25 "WordTables$Things" "meaningCount" "I") (by decide +kernel)
  have fl_9 := hts (.fieldLink RX6 9 "WordTables$Things" "meaningThings" "[I") (by decide +kernel)
  have in_X6 : ∀ w ∈ wsX60, w ∈ wsX6_addMeaning := by decide +kernel
  have hl : lv_has ls 4 [(0, .ref g), (1, .int x), (2, .int y), (3, .int z)] := hl
  refine lv_aload_n hx hb dX6_addMeaning_0 rfl (lv_at hl 0 rfl) ?_
  refine va_get (D := D) (ci := 6) (C := RX6) (T := TX6) (N := 6) hx hb hts in_X6 hown hK hP 0 rfl rfl 4 (by decide) fl_25 (fun _ h9 => h9) rfl dX6_addMeaning_1 ?_
  refine lv_if_lt (tgt := 16) hx hb dX6_addMeaning_4 (by decide) (fun c_4 => ?_) (fun c_4 => ?_)
  · have hm : ¬ mm < 60 := by first | exact absurd c_4 (nI_pos (by omega)) | exact fun q => c_13 ((nI_ltI (by omega) (by decide)).mpr q)
    refine lv_iconst (v := 0) hx hb dX6_addMeaning_16 (by decide) ?_
    exact mu_zret X hP hS (by simp [bI, hm, nI_1]) (by simp [bI, hm, nI_1]) dX6_addMeaning_17
  · refine lv_aload_n hx hb dX6_addMeaning_7 rfl (lv_at hl 0 rfl) ?_
    refine va_get (D := D) (ci := 6) (C := RX6) (T := TX6) (N := 6) hx hb hts in_X6 hown hK hP 0 rfl rfl 4 (by decide) fl_25 (fun _ h9 => h9) rfl dX6_addMeaning_8 ?_
    refine lv_bipush (v := 60) hx hb dX6_addMeaning_11 (by decide) ?_
    refine lv_icmp_lt (tgt := 18) hx hb dX6_addMeaning_13 (by decide) (fun c_13 => ?_) (fun c_13 => ?_)
    · have hm : mm < 60 := (nI_ltI (by omega) (by decide)).mp c_13
      refine lv_aload_n hx hb dX6_addMeaning_18 rfl (lv_at hl 0 rfl) ?_
      refine va_get (D := D) (ci := 6) (C := RX6) (T := TX6) (N := 6) hx hb hts in_X6 hown hK hP 0 rfl rfl 0 (by decide) fl_9 (fun _ h9 => h9) rfl dX6_addMeaning_19 ?_
      refine lv_aload_n hx hb dX6_addMeaning_22 rfl (lv_at hl 0 rfl) ?_
      refine va_get (D := D) (ci := 6) (C := RX6) (T := TX6) (N := 6) hx hb hts in_X6 hown hK hP 0 rfl rfl 4 (by decide) fl_25 (fun _ h9 => h9) rfl dX6_addMeaning_23 ?_
      refine lv_iload_n hx hb dX6_addMeaning_26 rfl (lv_at hl 1 rfl) ?_
      refine ast_n hx hb hK hP hD hS 1 0 rfl rfl hm (by decide) dX6_addMeaning_27 (fun H locs hP hD hS => ?_)
      have hP : va_P D vwCl [(g, .inr (6, [.ref g0, .ref g1, .ref g2, _, _, _])), (g0, .inl (cI, 60, .inl _)), (g1, .inl (cI, 60, .inl _)), (g2, .inl (cI, 60, .inl _))] H := hP
      have hD : va_D A [(g, .inr (6, [.ref g0, .ref g1, .ref g2, _, _, _])), (g0, .inl (cI, 60, .inl _)), (g1, .inl (cI, 60, .inl _)), (g2, .inl (cI, 60, .inl _))] := hD
      refine lv_aload_n hx hb dX6_addMeaning_28 rfl (lv_at hl 0 rfl) ?_
      refine va_get (D := D) (ci := 6) (C := RX6) (T := TX6) (N := 6) hx hb hts in_X6 hown hK hP 0 rfl rfl 1 (by decide) fl_15 (fun _ h9 => h9) rfl dX6_addMeaning_29 ?_
      refine lv_aload_n hx hb dX6_addMeaning_32 rfl (lv_at hl 0 rfl) ?_
      refine va_get (D := D) (ci := 6) (C := RX6) (T := TX6) (N := 6) hx hb hts in_X6 hown hK hP 0 rfl rfl 4 (by decide) fl_25 (fun _ h9 => h9) rfl dX6_addMeaning_33 ?_
      refine lv_iload_n hx hb dX6_addMeaning_36 rfl (lv_at hl 2 rfl) ?_
      refine ast_n hx hb hK hP hD hS 2 0 rfl rfl hm (by decide) dX6_addMeaning_37 (fun H locs hP hD hS => ?_)
      have hP : va_P D vwCl [(g, .inr (6, [.ref g0, .ref g1, .ref g2, _, _, _])), (g0, .inl (cI, 60, .inl _)), (g1, .inl (cI, 60, .inl _)), (g2, .inl (cI, 60, .inl _))] H := hP
      have hD : va_D A [(g, .inr (6, [.ref g0, .ref g1, .ref g2, _, _, _])), (g0, .inl (cI, 60, .inl _)), (g1, .inl (cI, 60, .inl _)), (g2, .inl (cI, 60, .inl _))] := hD
      refine lv_aload_n hx hb dX6_addMeaning_38 rfl (lv_at hl 0 rfl) ?_
      refine va_get (D := D) (ci := 6) (C := RX6) (T := TX6) (N := 6) hx hb hts in_X6 hown hK hP 0 rfl rfl 2 (by decide) fl_18 (fun _ h9 => h9) rfl dX6_addMeaning_39 ?_
      refine lv_aload_n hx hb dX6_addMeaning_42 rfl (lv_at hl 0 rfl) ?_
      refine va_get (D := D) (ci := 6) (C := RX6) (T := TX6) (N := 6) hx hb hts in_X6 hown hK hP 0 rfl rfl 4 (by decide) fl_25 (fun _ h9 => h9) rfl dX6_addMeaning_43 ?_
      refine lv_iload_n hx hb dX6_addMeaning_46 rfl (lv_at hl 3 rfl) ?_
      refine ast_n hx hb hK hP hD hS 3 0 rfl rfl hm (by decide) dX6_addMeaning_47 (fun H locs hP hD hS => ?_)
      have hP : va_P D vwCl [(g, .inr (6, [.ref g0, .ref g1, .ref g2, _, _, _])), (g0, .inl (cI, 60, .inl _)), (g1, .inl (cI, 60, .inl _)), (g2, .inl (cI, 60, .inl _))] H := hP
      have hD : va_D A [(g, .inr (6, [.ref g0, .ref g1, .ref g2, _, _, _])), (g0, .inl (cI, 60, .inl _)), (g1, .inl (cI, 60, .inl _)), (g2, .inl (cI, 60, .inl _))] := hD
      refine lv_aload_n hx hb dX6_addMeaning_48 rfl (lv_at hl 0 rfl) ?_
      refine lv_dup hx hb dX6_addMeaning_49 rfl ?_
      refine va_get (D := D) (ci := 6) (C := RX6) (T := TX6) (N := 6) hx hb hts in_X6 hown hK hP 0 rfl rfl 4 (by decide) fl_25 (fun _ h9 => h9) rfl dX6_addMeaning_50 ?_
      refine lv_iconst (v := 1) hx hb dX6_addMeaning_53 (by decide) ?_
      refine lv_iadd hx hb dX6_addMeaning_54 ?_
      refine va_put (D := D) (ci := 6) (ty := .int) (C := RX6) (T := TX6) (N := 6) hx hb hts in_X6 tyX6 tyX6_ok nmX6 hown hK hP hD hS 0 rfl rfl 4 (by decide) fl_25 (fun _ h9 => h9) rfl (by decide +kernel) rfl rfl (Nat.le_of_ble_eq_true rfl) dX6_addMeaning_55 (fun H locs hP hD hS => ?_)
      have hP : va_P D vwCl [(g, .inr (6, [.ref g0, .ref g1, .ref g2, _, _, _])), (g0, .inl (cI, 60, .inl _)), (g1, .inl (cI, 60, .inl _)), (g2, .inl (cI, 60, .inl _))] H := hP
      have hD : va_D A [(g, .inr (6, [.ref g0, .ref g1, .ref g2, _, _, _])), (g0, .inl (cI, 60, .inl _)), (g1, .inl (cI, 60, .inl _)), (g2, .inl (cI, 60, .inl _))] := hD
      refine lv_iconst (v := 1) hx hb dX6_addMeaning_58 (by decide) ?_
      exact mu_zret X hP hS (by simp [bI, hm, nI_1]) (by simp [bI, hm, nI_1]) dX6_addMeaning_59
    · have hm : ¬ mm < 60 := by first | exact absurd c_4 (nI_pos (by omega)) | exact fun q => c_13 ((nI_ltI (by omega) (by decide)).mpr q)
      refine lv_iconst (v := 0) hx hb dX6_addMeaning_16 (by decide) ?_
      exact mu_zret X hP hS (by simp [bI, hm, nI_1]) (by simp [bI, hm, nI_1]) dX6_addMeaning_17

set_option maxHeartbeats 1000000 in
set_option maxRecDepth 100000 in
theorem c_X6_meantBy {l : Launch} {D : va_G} {cI cJ cW : ClassId} {g g0 g1 g2 : Nat} {tc fu : Int32} {mt mw mf : Nat → Int32} {mm : Nat} {x : Int32} (hmm : mm ≤ 60) : RO l yX6_meantBy wsX6_meantBy { frames := 1, cells := 0, slots := 0, locals := 21 } D (ty3 cI cJ cW) [.ref g, .int x] [(g, .inr (6, [.ref g0, .ref g1, .ref g2, .int tc, .int (nI mm), .int fu])), (g0, .inl (cI, 60, .inl mt)), (g1, .inl (cI, 60, .inl mw)), (g2, .inl (cI, 60, .inl mf))] (.int (mbF mt mw mf fu x mm)) := by
  refine ro_of (cc := cX6_meantBy) (maxL := 5) (ret := (some .int)) (by decide) rfl (Nat.le_of_ble_eq_true rfl) ?_
  intro pr en ss mi below meth cd X hP hK ls hl
  obtain ⟨hx, hb, hml, hown, hts, hr, hlocks⟩ := id X
  have fl_15 := hts (.fieldLink RX6 15 "WordTables$Things" "meaningWords" "[I") (by decide +kernel)
  have fl_18 := hts (.fieldLink RX6 18 "WordTables$Things" "meaningFlags" "[I") (by decide +kernel)
  have fl_25 := hts (.fieldLink RX6 25 "WordTables$Things" "meaningCount" "I") (by decide +kernel)
  have fl_9 := hts (.fieldLink RX6 9 "WordTables$Things" "meaningThings" "[I") (by decide +kernel)
  have in_X6 : ∀ w ∈ wsX60, w ∈ wsX6_meantBy := by decide +kernel
  have hl : lv_has ls 5 [(0, .ref g), (1, .int x)] := hl
  refine lv_iconst (v := 0) hx hb dX6_meantBy_0 (by decide) ?_
  refine lv_istore_n (lv' := [(2, _), (0, _), (1, _)]) hx hb dX6_meantBy_1 rfl hl (by decide) rfl (fun ls hl => ?_)
  refine lv_iconst (v := 0) hx hb dX6_meantBy_2 (by decide) ?_
  refine lv_istore_n (lv' := [(3, _), (2, _), (0, _), (1, _)]) hx hb dX6_meantBy_3 rfl hl (by decide) rfl (fun ls hl => ?_)
  have loop_4 : ∀ (fuel : Nat) (k : Nat) (v : Int32), mm - k < fuel → k ≤ mm → v = mbF mt mw mf fu x k → ∀ ls : Array Slot, lv_has ls 5 [(0, .ref g), (1, .int x), (2, .int v), (3, .int (nI k))] → W pr l en { frames := 1, cells := 0, slots := 0, locals := 21 } ss mi ([.ref g, .int x] : List Value).toArray below meth cd ss.heap [] 0 0 (MQ below (k2_QcV (.int (mbF mt mw mf fu x mm))) ([.ref g, .int x] : List Value).toArray ss 0 0 (fun _ => False)) (F0 mi 4 ls []) := by
    intro fuel
    induction fuel with
    | zero => intro k v hm; exact absurd hm (Nat.not_lt_zero _)
    | succ fuel ih =>
      intro k v hm hk hv  ls hl
      refine lv_iload_n hx hb dX6_meantBy_4 rfl (lv_at hl 3 rfl) ?_
      refine lv_aload_n hx hb dX6_meantBy_5 rfl (lv_at hl 0 rfl) ?_
      refine va_get (D := D) (ci := 6) (C := RX6) (T := TX6) (N := 6) hx hb hts in_X6 hown hK hP 0 rfl rfl 4 (by decide) fl_25 (fun _ h9 => h9) rfl dX6_meantBy_6 ?_
      refine lv_icmp_ge (tgt := 80) hx hb dX6_meantBy_9 (by decide) (fun c_9 => ?_) (fun c_9 => ?_)
      · have hkm : k = mm := by first | exact eq_ge c_9 hk (by omega) | exact absurd c_15 (nI_ge (show k < 60 by omega) (by decide))
        refine lv_iload_n hx hb dX6_meantBy_80 rfl (lv_at hl 2 rfl) ?_
        exact ro_iret X (by rw [hv, hkm]) dX6_meantBy_81
      · have hlt : k < mm := lt_nge c_9 hk (by omega)
        refine lv_iload_n hx hb dX6_meantBy_12 rfl (lv_at hl 3 rfl) ?_
        refine lv_bipush (v := 60) hx hb dX6_meantBy_13 (by decide) ?_
        refine lv_icmp_ge (tgt := 80) hx hb dX6_meantBy_15 (by decide) (fun c_15 => ?_) (fun c_15 => ?_)
        · have hkm : k = mm := by first | exact eq_ge c_9 hk (by omega) | exact absurd c_15 (nI_ge (show k < 60 by omega) (by decide))
          refine lv_iload_n hx hb dX6_meantBy_80 rfl (lv_at hl 2 rfl) ?_
          exact ro_iret X (by rw [hv, hkm]) dX6_meantBy_81
        · refine lv_aload_n hx hb dX6_meantBy_18 rfl (lv_at hl 0 rfl) ?_
          refine va_get (D := D) (ci := 6) (C := RX6) (T := TX6) (N := 6) hx hb hts in_X6 hown hK hP 0 rfl rfl 2 (by decide) fl_18 (fun _ h9 => h9) rfl dX6_meantBy_19 ?_
          refine lv_iload_n hx hb dX6_meantBy_22 rfl (lv_at hl 3 rfl) ?_
          refine ald_n hx hb hK hP 3 0 rfl rfl (show k < 60 by omega) (by first | decide | omega) dX6_meantBy_23 ?_
          refine lv_iconst (v := -1) hx hb dX6_meantBy_24 (by decide) ?_
          refine lv_icmp_eq (tgt := 41) hx hb dX6_meantBy_25 (by decide) (fun c_25 => ?_) (fun c_25 => ?_)
          · refine lv_iconst (v := 1) hx hb dX6_meantBy_41 (by decide) ?_
            refine lv_goto (tgt := 46) hx hb dX6_meantBy_42 (by decide) ?_
            refine lv_istore (lv' := [(4, _), (0, _), (1, _), (2, _), (3, _)]) hx hb dX6_meantBy_46 hl (by decide) rfl (fun ls hl => ?_)
            refine lv_aload_n hx hb dX6_meantBy_48 rfl (lv_at hl 1 rfl) ?_
            refine va_get (D := D) (ci := 6) (C := RX6) (T := TX6) (N := 6) hx hb hts in_X6 hown hK hP 0 rfl rfl 1 (by decide) fl_15 (fun _ h9 => h9) rfl dX6_meantBy_49 ?_
            refine lv_iload_n hx hb dX6_meantBy_52 rfl (lv_at hl 4 rfl) ?_
            refine ald_n hx hb hK hP 2 0 rfl rfl (show k < 60 by omega) (by first | decide | omega) dX6_meantBy_53 ?_
            refine lv_iload_n hx hb dX6_meantBy_54 rfl (lv_at hl 2 rfl) ?_
            refine lv_icmp_ne (tgt := 74) hx hb dX6_meantBy_55 (by decide) (fun c_55 => ?_) (fun c_55 => ?_)
            · refine lv_iinc (v := (_ : Int32) + 1) (lv' := [(3, _), (4, _), (0, _), (1, _), (2, _)]) hx hb dX6_meantBy_74 hl (k := 4) rfl rfl (by decide) rfl (fun ls hl => ?_)
              refine lv_goto (tgt := 4) hx hb dX6_meantBy_77 (by decide) ?_
              rw [nI_1] at hl
              exact ih (k + 1) _ (by omega) (by omega) (by rw [mbF, ← hv]; simp [c_9, c_15, c_25, c_55])  _ (lv_sub hl [2, 3, 4, 0] rfl)
            · refine lv_iload hx hb dX6_meantBy_58 (lv_at hl 0 rfl) ?_
              refine lv_if_eq (tgt := 74) hx hb dX6_meantBy_60 (by decide) (fun c_60 => absurd c_60 (by decide)) (fun _ => ?_)
              refine lv_iload_n hx hb dX6_meantBy_63 rfl (lv_at hl 3 rfl) ?_
              refine lv_iconst (v := 1) hx hb dX6_meantBy_64 (by decide) ?_
              refine lv_aload_n hx hb dX6_meantBy_65 rfl (lv_at hl 1 rfl) ?_
              refine va_get (D := D) (ci := 6) (C := RX6) (T := TX6) (N := 6) hx hb hts in_X6 hown hK hP 0 rfl rfl 0 (by decide) fl_9 (fun _ h9 => h9) rfl dX6_meantBy_66 ?_
              refine lv_iload_n hx hb dX6_meantBy_69 rfl (lv_at hl 4 rfl) ?_
              refine ald_n hx hb hK hP 1 0 rfl rfl (show k < 60 by omega) (by first | decide | omega) dX6_meantBy_70 ?_
              refine lv_ishl hx hb dX6_meantBy_71 ?_
              refine lv_ior hx hb dX6_meantBy_72 ?_
              refine lv_istore_n (lv' := [(2, _), (4, _), (0, _), (1, _), (3, _)]) hx hb dX6_meantBy_73 rfl hl (by decide) rfl (fun ls hl => ?_)
              refine lv_iinc (v := (_ : Int32) + 1) (lv' := [(3, _), (2, _), (4, _), (0, _), (1, _)]) hx hb dX6_meantBy_74 hl (k := 4) rfl rfl (by decide) rfl (fun ls hl => ?_)
              refine lv_goto (tgt := 4) hx hb dX6_meantBy_77 (by decide) ?_
              rw [nI_1] at hl
              exact ih (k + 1) _ (by omega) (by omega) (by rw [mbF, ← hv]; simp [c_9, c_15, c_25, c_55])  _ (lv_sub hl [3, 4, 1, 0] rfl)
          · refine lv_aload_n hx hb dX6_meantBy_28 rfl (lv_at hl 0 rfl) ?_
            refine lv_aload_n hx hb dX6_meantBy_29 rfl (lv_at hl 0 rfl) ?_
            refine va_get (D := D) (ci := 6) (C := RX6) (T := TX6) (N := 6) hx hb hts in_X6 hown hK hP 0 rfl rfl 2 (by decide) fl_18 (fun _ h9 => h9) rfl dX6_meantBy_30 ?_
            refine lv_iload_n hx hb dX6_meantBy_33 rfl (lv_at hl 3 rfl) ?_
            refine ald_n hx hb hK hP 3 0 rfl rfl (show k < 60 by omega) (by first | decide | omega) dX6_meantBy_34 ?_
            refine ro_V (n := 1) X hK (c_X6_isUp) gX6_meantBy_X6_isUp rfl (by decide +kernel) ⟨rfl, rfl⟩ ⟨Nat.le_of_ble_eq_true rfl, Nat.le_of_ble_eq_true rfl⟩ (hP.sub [0] rfl) (va_recv hK hP (ci := 6) (q0 := 0) rfl rfl) rfl hl.1 rfl (Nat.le_of_ble_eq_true rfl) dX6_meantBy_35 ⟨Nat.zero_le _, Nat.zero_le _⟩ ?_
            refine lv_if_eq (tgt := 45) hx hb dX6_meantBy_38 (by decide) (fun c_38 => ?_) (fun c_38 => ?_)
            · replace c_38 := bI_0.mp c_38
              refine lv_iconst (v := 0) hx hb dX6_meantBy_45 (by decide) ?_
              refine lv_istore (lv' := [(4, _), (0, _), (1, _), (2, _), (3, _)]) hx hb dX6_meantBy_46 hl (by decide) rfl (fun ls hl => ?_)
              refine lv_aload_n hx hb dX6_meantBy_48 rfl (lv_at hl 1 rfl) ?_
              refine va_get (D := D) (ci := 6) (C := RX6) (T := TX6) (N := 6) hx hb hts in_X6 hown hK hP 0 rfl rfl 1 (by decide) fl_15 (fun _ h9 => h9) rfl dX6_meantBy_49 ?_
              refine lv_iload_n hx hb dX6_meantBy_52 rfl (lv_at hl 4 rfl) ?_
              refine ald_n hx hb hK hP 2 0 rfl rfl (show k < 60 by omega) (by first | decide | omega) dX6_meantBy_53 ?_
              refine lv_iload_n hx hb dX6_meantBy_54 rfl (lv_at hl 2 rfl) ?_
              refine lv_icmp_ne (tgt := 74) hx hb dX6_meantBy_55 (by decide) (fun c_55 => ?_) (fun c_55 => ?_)
              · refine lv_iinc (v := (_ : Int32) + 1) (lv' := [(3, _), (4, _), (0, _), (1, _), (2, _)]) hx hb dX6_meantBy_74 hl (k := 4) rfl rfl (by decide) rfl (fun ls hl => ?_)
                refine lv_goto (tgt := 4) hx hb dX6_meantBy_77 (by decide) ?_
                rw [nI_1] at hl
                exact ih (k + 1) _ (by omega) (by omega) (by rw [mbF, ← hv]; simp [c_9, c_15, c_25, c_38, c_55])  _ (lv_sub hl [2, 3, 4, 0] rfl)
              · refine lv_iload hx hb dX6_meantBy_58 (lv_at hl 0 rfl) ?_
                refine lv_if_eq (tgt := 74) hx hb dX6_meantBy_60 (by decide) (fun _ => ?_) (fun c_60 => absurd c_60 (by decide))
                refine lv_iinc (v := (_ : Int32) + 1) (lv' := [(3, _), (4, _), (0, _), (1, _), (2, _)]) hx hb dX6_meantBy_74 hl (k := 4) rfl rfl (by decide) rfl (fun ls hl => ?_)
                refine lv_goto (tgt := 4) hx hb dX6_meantBy_77 (by decide) ?_
                rw [nI_1] at hl
                exact ih (k + 1) _ (by omega) (by omega) (by rw [mbF, ← hv]; simp [c_9, c_15, c_25, c_38, c_55])  _ (lv_sub hl [2, 3, 4, 0] rfl)
            · replace c_38 := bI_n0.mp c_38
              refine lv_iconst (v := 1) hx hb dX6_meantBy_41 (by decide) ?_
              refine lv_goto (tgt := 46) hx hb dX6_meantBy_42 (by decide) ?_
              refine lv_istore (lv' := [(4, _), (0, _), (1, _), (2, _), (3, _)]) hx hb dX6_meantBy_46 hl (by decide) rfl (fun ls hl => ?_)
              refine lv_aload_n hx hb dX6_meantBy_48 rfl (lv_at hl 1 rfl) ?_
              refine va_get (D := D) (ci := 6) (C := RX6) (T := TX6) (N := 6) hx hb hts in_X6 hown hK hP 0 rfl rfl 1 (by decide) fl_15 (fun _ h9 => h9) rfl dX6_meantBy_49 ?_
              refine lv_iload_n hx hb dX6_meantBy_52 rfl (lv_at hl 4 rfl) ?_
              refine ald_n hx hb hK hP 2 0 rfl rfl (show k < 60 by omega) (by first | decide | omega) dX6_meantBy_53 ?_
              refine lv_iload_n hx hb dX6_meantBy_54 rfl (lv_at hl 2 rfl) ?_
              refine lv_icmp_ne (tgt := 74) hx hb dX6_meantBy_55 (by decide) (fun c_55 => ?_) (fun c_55 => ?_)
              · refine lv_iinc (v := (_ : Int32) + 1) (lv' := [(3, _), (4, _), (0, _), (1, _), (2, _)]) hx hb dX6_meantBy_74 hl (k := 4) rfl rfl (by decide) rfl (fun ls hl => ?_)
                refine lv_goto (tgt := 4) hx hb dX6_meantBy_77 (by decide) ?_
                rw [nI_1] at hl
                exact ih (k + 1) _ (by omega) (by omega) (by rw [mbF, ← hv]; simp [c_9, c_15, c_25, c_38, c_55])  _ (lv_sub hl [2, 3, 4, 0] rfl)
              · refine lv_iload hx hb dX6_meantBy_58 (lv_at hl 0 rfl) ?_
                refine lv_if_eq (tgt := 74) hx hb dX6_meantBy_60 (by decide) (fun c_60 => absurd c_60 (by decide)) (fun _ => ?_)
                refine lv_iload_n hx hb dX6_meantBy_63 rfl (lv_at hl 3 rfl) ?_
                refine lv_iconst (v := 1) hx hb dX6_meantBy_64 (by decide) ?_
                refine lv_aload_n hx hb dX6_meantBy_65 rfl (lv_at hl 1 rfl) ?_
                refine va_get (D := D) (ci := 6) (C := RX6) (T := TX6) (N := 6) hx hb hts in_X6 hown hK hP 0 rfl rfl 0 (by decide) fl_9 (fun _ h9 => h9) rfl dX6_meantBy_66 ?_
                refine lv_iload_n hx hb dX6_meantBy_69 rfl (lv_at hl 4 rfl) ?_
                refine ald_n hx hb hK hP 1 0 rfl rfl (show k < 60 by omega) (by first | decide | omega) dX6_meantBy_70 ?_
                refine lv_ishl hx hb dX6_meantBy_71 ?_
                refine lv_ior hx hb dX6_meantBy_72 ?_
                refine lv_istore_n (lv' := [(2, _), (4, _), (0, _), (1, _), (3, _)]) hx hb dX6_meantBy_73 rfl hl (by decide) rfl (fun ls hl => ?_)
                refine lv_iinc (v := (_ : Int32) + 1) (lv' := [(3, _), (2, _), (4, _), (0, _), (1, _)]) hx hb dX6_meantBy_74 hl (k := 4) rfl rfl (by decide) rfl (fun ls hl => ?_)
                refine lv_goto (tgt := 4) hx hb dX6_meantBy_77 (by decide) ?_
                rw [nI_1] at hl
                exact ih (k + 1) _ (by omega) (by omega) (by rw [mbF, ← hv]; simp [c_9, c_15, c_25, c_38, c_55])  _ (lv_sub hl [3, 4, 1, 0] rfl)
  exact loop_4 (mm + 1) 0 0 (by omega) (Nat.zero_le _) rfl  ls (lv_sub hl [2, 3, 1, 0] rfl)

set_option maxHeartbeats 1000000 in
set_option maxRecDepth 100000 in
theorem c_X7_has {l : Launch} {D : va_G} {cI cJ cW : ClassId} {k kx k1 k2 k3 k4 : Nat} {tn tm : Int32} {x : Int32}  : RO l yX7_has wsX7_has { frames := 0, cells := 0, slots := 0, locals := 0 } D (ty3 cI cJ cW) [.ref k, .int x] [(k, .inr (7, [.ref kx, .ref k1, .ref k2, .ref k3, .ref k4, .int tn, .int tm]))] (.int (bI (hasK tn x))) := by
  refine ro_of (cc := cX7_has) (maxL := 2) (ret := (some .boolean)) (by decide) rfl (Nat.le_of_ble_eq_true rfl) ?_
  intro pr en ss mi below meth cd X hP hK ls hl
  obtain ⟨hx, hb, hml, hown, hts, hr, hlocks⟩ := id X
  have fl_33 := hts (.fieldLink RX7 33 "WordTables$Tokens" "count" "I") (by decide +kernel)
  have in_X7 : ∀ w ∈ wsX70, w ∈ wsX7_has := by decide +kernel
  have hl : lv_has ls 2 [(0, .ref k), (1, .int x)] := hl
  refine lv_iload_n hx hb dX7_has_0 rfl (lv_at hl 1 rfl) ?_
  refine lv_if_lt (tgt := 22) hx hb dX7_has_1 (by decide) (fun c_1 => ?_) (fun c_1 => ?_)
  · refine lv_iconst (v := 0) hx hb dX7_has_22 (by decide) ?_
    exact ro_zret X (by simp [hasK, bI, c_1]) dX7_has_23
  · refine lv_iload_n hx hb dX7_has_4 rfl (lv_at hl 1 rfl) ?_
    refine lv_aload_n hx hb dX7_has_5 rfl (lv_at hl 0 rfl) ?_
    refine va_get (D := D) (ci := 7) (C := RX7) (T := TX7) (N := 7) hx hb hts in_X7 hown hK hP 0 rfl rfl 5 (by decide) fl_33 (fun _ h9 => h9) rfl dX7_has_6 ?_
    refine lv_icmp_ge (tgt := 22) hx hb dX7_has_9 (by decide) (fun c_9 => ?_) (fun c_9 => ?_)
    · refine lv_iconst (v := 0) hx hb dX7_has_22 (by decide) ?_
      exact ro_zret X (by simp [hasK, bI, c_1, c_9]) dX7_has_23
    · refine lv_iload_n hx hb dX7_has_12 rfl (lv_at hl 1 rfl) ?_
      refine lv_bipush (v := 24) hx hb dX7_has_13 (by decide) ?_
      refine lv_icmp_ge (tgt := 22) hx hb dX7_has_15 (by decide) (fun c_15 => ?_) (fun c_15 => ?_)
      · refine lv_iconst (v := 0) hx hb dX7_has_22 (by decide) ?_
        exact ro_zret X (by simp [hasK, bI, c_1, c_9, c_15]) dX7_has_23
      · refine lv_iconst (v := 1) hx hb dX7_has_18 (by decide) ?_
        refine lv_goto (tgt := 23) hx hb dX7_has_19 (by decide) ?_
        exact ro_zret X (by simp [hasK, bI, c_1, c_9, c_15]) dX7_has_23

set_option maxHeartbeats 1000000 in
set_option maxRecDepth 100000 in
theorem c_X7_startOn {l : Launch} {D : va_G} {cI cJ cW : ClassId} {sz : Nat} {k kx k1 k2 k3 k4 : Nat} {tn tm : Int32} {xb o ob ln oN : Nat} {xn : Int32} {xf g : Nat → Int32} (hoN : oN < 2 ^ 31) (h1 : ln ≤ 80) (h2 : ln ≤ oN) : MU l yX7_startOn wsX7_startOn { frames := 2, cells := 0, slots := 0, locals := 43 } D (ty3 cI cJ cW) [.ref k, .ref o] [(k, .inr (7, [.ref kx, .ref k1, .ref k2, .ref k3, .ref k4, .int tn, .int tm])), (kx, .inr (4, [.ref xb, .int xn])), (xb, .inl (cI, 80, .inl xf)), (o, .inr (4, [.ref ob, .int (nI ln)])), (ob, .inl (cI, oN, .inl g))] sz none [(k, .inr (7, [.ref kx, .ref k1, .ref k2, .ref k3, .ref k4, .int 0, .int 0])), (kx, .inr (4, [.ref xb, .int (nI ln)])), (xb, .inl (cI, 80, .inl (cpF xf g ln))), (o, .inr (4, [.ref ob, .int (nI ln)])), (ob, .inl (cI, oN, .inl g))] := by
  refine mu_of (cc := cX7_startOn) (maxL := 2) (ret := none) (by decide) rfl (Nat.le_of_ble_eq_true rfl) ?_
  intro pr en ss mi below meth cd X hK A hA hP hD hS ls hl
  obtain ⟨hx, hb, hml, hown, hts, hr, hlocks⟩ := id X
  have fl_14 := hts (.fieldLink RX7 14 "WordTables$Tokens" "text" "LWordTables$Row;") (by decide +kernel)
  have fl_33 := hts (.fieldLink RX7 33 "WordTables$Tokens" "count" "I") (by decide +kernel)
  have fl_41 := hts (.fieldLink RX7 41 "WordTables$Tokens" "tooMany" "Z") (by decide +kernel)
  have in_X7 : ∀ w ∈ wsX70, w ∈ wsX7_startOn := by decide +kernel
  have hl : lv_has ls 2 [(0, .ref k), (1, .ref o)] := hl
  refine lv_aload_n hx hb dX7_startOn_0 rfl (lv_at hl 0 rfl) ?_
  refine va_get (D := D) (ci := 7) (C := RX7) (T := TX7) (N := 7) hx hb hts in_X7 hown hK hP 0 rfl rfl 0 (by decide) fl_14 (fun _ h9 => h9) rfl dX7_startOn_1 ?_
  refine lv_aload_n hx hb dX7_startOn_4 rfl (lv_at hl 1 rfl) ?_
  refine mu_V (n := 1) X hK (c_X4_copyFrom (by decide) hoN h1 h2) gX7_startOn_X4_copyFrom rfl (by decide +kernel) ⟨rfl, rfl⟩ ⟨Nat.le_of_ble_eq_true rfl, Nat.le_of_ble_eq_true rfl⟩ [1, 2, 3, 4] rfl rfl rfl rfl hA hP hD hS (va_recv hK hP (ci := 4) (q0 := 1) rfl rfl) rfl hl.1 rfl (Nat.le_of_ble_eq_true rfl) dX7_startOn_5 ⟨Nat.zero_le _, Nat.zero_le _⟩ (fun H locs hP hD hS => ?_)
  have hP : va_P D vwCl [(k, .inr (7, [.ref kx, .ref k1, .ref k2, .ref k3, .ref k4, _, _])), (kx, .inr (4, [.ref xb, _])), (xb, .inl (cI, 80, .inl _)), (o, .inr (4, [.ref ob, _])), (ob, .inl (cI, oN, .inl _))] H := hP
  have hD : va_D A [(k, .inr (7, [.ref kx, .ref k1, .ref k2, .ref k3, .ref k4, _, _])), (kx, .inr (4, [.ref xb, _])), (xb, .inl (cI, 80, .inl _)), (o, .inr (4, [.ref ob, _])), (ob, .inl (cI, oN, .inl _))] := hD
  refine lv_aload_n hx hb dX7_startOn_8 rfl (lv_at hl 0 rfl) ?_
  refine lv_iconst (v := 0) hx hb dX7_startOn_9 (by decide) ?_
  refine va_put (D := D) (ci := 7) (ty := .int) (C := RX7) (T := TX7) (N := 7) hx hb hts in_X7 tyX7 tyX7_ok nmX7 hown hK hP hD hS 0 rfl rfl 5 (by decide) fl_33 (fun _ h9 => h9) rfl (by decide +kernel) rfl rfl (Nat.le_of_ble_eq_true rfl) dX7_startOn_10 (fun H locs hP hD hS => ?_)
  have hP : va_P D vwCl [(k, .inr (7, [.ref kx, .ref k1, .ref k2, .ref k3, .ref k4, _, _])), (kx, .inr (4, [.ref xb, _])), (xb, .inl (cI, 80, .inl _)), (o, .inr (4, [.ref ob, _])), (ob, .inl (cI, oN, .inl _))] H := hP
  have hD : va_D A [(k, .inr (7, [.ref kx, .ref k1, .ref k2, .ref k3, .ref k4, _, _])), (kx, .inr (4, [.ref xb, _])), (xb, .inl (cI, 80, .inl _)), (o, .inr (4, [.ref ob, _])), (ob, .inl (cI, oN, .inl _))] := hD
  refine lv_aload_n hx hb dX7_startOn_13 rfl (lv_at hl 0 rfl) ?_
  refine lv_iconst (v := 0) hx hb dX7_startOn_14 (by decide) ?_
  refine va_put (D := D) (ci := 7) (ty := .boolean) (C := RX7) (T := TX7) (N := 7) hx hb hts in_X7 tyX7 tyX7_ok nmX7 hown hK hP hD hS 0 rfl rfl 6 (by decide) fl_41 (fun _ h9 => h9) rfl (by decide +kernel) (by first | rfl | exact bI_nar _) (by first | rfl | exact bI_fit _) (Nat.le_of_ble_eq_true rfl) dX7_startOn_15 (fun H locs hP hD hS => ?_)
  have hP : va_P D vwCl [(k, .inr (7, [.ref kx, .ref k1, .ref k2, .ref k3, .ref k4, _, _])), (kx, .inr (4, [.ref xb, _])), (xb, .inl (cI, 80, .inl _)), (o, .inr (4, [.ref ob, _])), (ob, .inl (cI, oN, .inl _))] H := hP
  have hD : va_D A [(k, .inr (7, [.ref kx, .ref k1, .ref k2, .ref k3, .ref k4, _, _])), (kx, .inr (4, [.ref xb, _])), (xb, .inl (cI, 80, .inl _)), (o, .inr (4, [.ref ob, _])), (ob, .inl (cI, oN, .inl _))] := hD
  exact mu_vret X hP hS (rfl) dX7_startOn_18

set_option maxHeartbeats 1000000 in
set_option maxRecDepth 100000 in
theorem c_X7_add {l : Launch} {D : va_G} {cI cJ cW : ClassId} {sz : Nat} {k kx k1 k2 k3 k4 tc : Nat} {tm : Int32} {t1 t2 t3 t4 : Nat → Int32} {x1 x2 x3 x4 : Int32} (htc : tc ≤ 24) : MU l yX7_add wsX7_add { frames := 0, cells := 0, slots := 0, locals := 0 } D (ty3 cI cJ cW) [.ref k, .int x1, .int x2, .int x3, .int x4] [(k, .inr (7, [.ref kx, .ref k1, .ref k2, .ref k3, .ref k4, .int (nI tc), .int tm])), (k1, .inl (cI, 24, .inl t1)), (k2, .inl (cI, 24, .inl t2)), (k3, .inl (cI, 24, .inl t3)), (k4, .inl (cI, 24, .inl t4))] sz none [(k, .inr (7, [.ref kx, .ref k1, .ref k2, .ref k3, .ref k4, .int (nI (adN tc)), .int (adM tc tm)])), (k1, .inl (cI, 24, .inl (adF t1 tc x1))), (k2, .inl (cI, 24, .inl (adF t2 tc x2))), (k3, .inl (cI, 24, .inl (adF t3 tc x3))), (k4, .inl (cI, 24, .inl (adF t4 tc x4)))] := by
  refine mu_of (cc := cX7_add) (maxL := 5) (ret := none) (by decide) rfl (Nat.le_of_ble_eq_true rfl) ?_
  intro pr en ss mi below meth cd X hK A hA hP hD hS ls hl
  obtain ⟨hx, hb, hml, hown, hts, hr, hlocks⟩ := id X
  have fl_20 := hts (.fieldLink RX7 20 "WordTables$Tokens" "sorts" "[I") (by decide +kernel)
  have fl_24 := hts (.fieldLink RX7 24 "WordTables$Tokens" "places" "[I") (by decide +kernel)
  have fl_27 := hts (.fieldLink RX7 27 "WordTables$Tokens" "lengths" "[I") (by decide +kernel)
  have fl_30 := hts (.fieldLink RX7 30 "WordTables$Tokens" "numbers" "[I") (by decide +kernel)
  have fl_33 := hts (.fieldLink RX7 33 "WordTables$Tokens" "count" "I") (by decide +kernel)
  have fl_41 := hts (.fieldLink RX7 41 "WordTables$Tokens" "tooMany" "Z") (by decide +kernel)
  have in_X7 : ∀ w ∈ wsX70, w ∈ wsX7_add := by decide +kernel
  have hl : lv_has ls 5 [(0, .ref k), (1, .int x1), (2, .int x2), (3, .int x3), (4, .int x4)] := hl
  refine lv_aload_n hx hb dX7_add_0 rfl (lv_at hl 0 rfl) ?_
  refine va_get (D := D) (ci := 7) (C := RX7) (T := TX7) (N := 7) hx hb hts in_X7 hown hK hP 0 rfl rfl 5 (by decide) fl_33 (fun _ h9 => h9) rfl dX7_add_1 ?_
  refine lv_if_lt (tgt := 16) hx hb dX7_add_4 (by decide) (fun c_4 => ?_) (fun c_4 => ?_)
  · have hm : ¬ tc < 24 := by first | exact absurd c_4 (nI_pos (by omega)) | exact fun q => c_13 ((nI_ltI (by omega) (by decide)).mpr q)
    refine lv_aload_n hx hb dX7_add_16 rfl (lv_at hl 0 rfl) ?_
    refine lv_iconst (v := 1) hx hb dX7_add_17 (by decide) ?_
    refine va_put (D := D) (ci := 7) (ty := .boolean) (C := RX7) (T := TX7) (N := 7) hx hb hts in_X7 tyX7 tyX7_ok nmX7 hown hK hP hD hS 0 rfl rfl 6 (by decide) fl_41 (fun _ h9 => h9) rfl (by decide +kernel) (by first | rfl | exact bI_nar _) (by first | rfl | exact bI_fit _) (Nat.le_of_ble_eq_true rfl) dX7_add_18 (fun H locs hP hD hS => ?_)
    have hP : va_P D vwCl [(k, .inr (7, [.ref kx, .ref k1, .ref k2, .ref k3, .ref k4, _, _])), (k1, .inl (cI, 24, .inl _)), (k2, .inl (cI, 24, .inl _)), (k3, .inl (cI, 24, .inl _)), (k4, .inl (cI, 24, .inl _))] H := hP
    have hD : va_D A [(k, .inr (7, [.ref kx, .ref k1, .ref k2, .ref k3, .ref k4, _, _])), (k1, .inl (cI, 24, .inl _)), (k2, .inl (cI, 24, .inl _)), (k3, .inl (cI, 24, .inl _)), (k4, .inl (cI, 24, .inl _))] := hD
    exact mu_vret X hP hS (by simp [adN, adF, adM, hm, nI_1]) dX7_add_21
  · refine lv_aload_n hx hb dX7_add_7 rfl (lv_at hl 0 rfl) ?_
    refine va_get (D := D) (ci := 7) (C := RX7) (T := TX7) (N := 7) hx hb hts in_X7 hown hK hP 0 rfl rfl 5 (by decide) fl_33 (fun _ h9 => h9) rfl dX7_add_8 ?_
    refine lv_bipush (v := 24) hx hb dX7_add_11 (by decide) ?_
    refine lv_icmp_lt (tgt := 22) hx hb dX7_add_13 (by decide) (fun c_13 => ?_) (fun c_13 => ?_)
    · have hm : tc < 24 := (nI_ltI (by omega) (by decide)).mp c_13
      refine lv_aload_n hx hb dX7_add_22 rfl (lv_at hl 0 rfl) ?_
      refine va_get (D := D) (ci := 7) (C := RX7) (T := TX7) (N := 7) hx hb hts in_X7 hown hK hP 0 rfl rfl 1 (by decide) fl_20 (fun _ h9 => h9) rfl dX7_add_23 ?_
      refine lv_aload_n hx hb dX7_add_26 rfl (lv_at hl 0 rfl) ?_
      refine va_get (D := D) (ci := 7) (C := RX7) (T := TX7) (N := 7) hx hb hts in_X7 hown hK hP 0 rfl rfl 5 (by decide) fl_33 (fun _ h9 => h9) rfl dX7_add_27 ?_
      refine lv_iload_n hx hb dX7_add_30 rfl (lv_at hl 1 rfl) ?_
      refine ast_n hx hb hK hP hD hS 1 0 rfl rfl hm (by decide) dX7_add_31 (fun H locs hP hD hS => ?_)
      have hP : va_P D vwCl [(k, .inr (7, [.ref kx, .ref k1, .ref k2, .ref k3, .ref k4, _, _])), (k1, .inl (cI, 24, .inl _)), (k2, .inl (cI, 24, .inl _)), (k3, .inl (cI, 24, .inl _)), (k4, .inl (cI, 24, .inl _))] H := hP
      have hD : va_D A [(k, .inr (7, [.ref kx, .ref k1, .ref k2, .ref k3, .ref k4, _, _])), (k1, .inl (cI, 24, .inl _)), (k2, .inl (cI, 24, .inl _)), (k3, .inl (cI, 24, .inl _)), (k4, .inl (cI, 24, .inl _))] := hD
      refine lv_aload_n hx hb dX7_add_32 rfl (lv_at hl 0 rfl) ?_
      refine va_get (D := D) (ci := 7) (C := RX7) (T := TX7) (N := 7) hx hb hts in_X7 hown hK hP 0 rfl rfl 2 (by decide) fl_24 (fun _ h9 => h9) rfl dX7_add_33 ?_
      refine lv_aload_n hx hb dX7_add_36 rfl (lv_at hl 0 rfl) ?_
      refine va_get (D := D) (ci := 7) (C := RX7) (T := TX7) (N := 7) hx hb hts in_X7 hown hK hP 0 rfl rfl 5 (by decide) fl_33 (fun _ h9 => h9) rfl dX7_add_37 ?_
      refine lv_iload_n hx hb dX7_add_40 rfl (lv_at hl 2 rfl) ?_
      refine ast_n hx hb hK hP hD hS 2 0 rfl rfl hm (by decide) dX7_add_41 (fun H locs hP hD hS => ?_)
      have hP : va_P D vwCl [(k, .inr (7, [.ref kx, .ref k1, .ref k2, .ref k3, .ref k4, _, _])), (k1, .inl (cI, 24, .inl _)), (k2, .inl (cI, 24, .inl _)), (k3, .inl (cI, 24, .inl _)), (k4, .inl (cI, 24, .inl _))] H := hP
      have hD : va_D A [(k, .inr (7, [.ref kx, .ref k1, .ref k2, .ref k3, .ref k4, _, _])), (k1, .inl (cI, 24, .inl _)), (k2, .inl (cI, 24, .inl _)), (k3, .inl (cI, 24, .inl _)), (k4, .inl (cI, 24, .inl _))] := hD
      refine lv_aload_n hx hb dX7_add_42 rfl (lv_at hl 0 rfl) ?_
      refine va_get (D := D) (ci := 7) (C := RX7) (T := TX7) (N := 7) hx hb hts in_X7 hown hK hP 0 rfl rfl 3 (by decide) fl_27 (fun _ h9 => h9) rfl dX7_add_43 ?_
      refine lv_aload_n hx hb dX7_add_46 rfl (lv_at hl 0 rfl) ?_
      refine va_get (D := D) (ci := 7) (C := RX7) (T := TX7) (N := 7) hx hb hts in_X7 hown hK hP 0 rfl rfl 5 (by decide) fl_33 (fun _ h9 => h9) rfl dX7_add_47 ?_
      refine lv_iload_n hx hb dX7_add_50 rfl (lv_at hl 3 rfl) ?_
      refine ast_n hx hb hK hP hD hS 3 0 rfl rfl hm (by decide) dX7_add_51 (fun H locs hP hD hS => ?_)
      have hP : va_P D vwCl [(k, .inr (7, [.ref kx, .ref k1, .ref k2, .ref k3, .ref k4, _, _])), (k1, .inl (cI, 24, .inl _)), (k2, .inl (cI, 24, .inl _)), (k3, .inl (cI, 24, .inl _)), (k4, .inl (cI, 24, .inl _))] H := hP
      have hD : va_D A [(k, .inr (7, [.ref kx, .ref k1, .ref k2, .ref k3, .ref k4, _, _])), (k1, .inl (cI, 24, .inl _)), (k2, .inl (cI, 24, .inl _)), (k3, .inl (cI, 24, .inl _)), (k4, .inl (cI, 24, .inl _))] := hD
      refine lv_aload_n hx hb dX7_add_52 rfl (lv_at hl 0 rfl) ?_
      refine va_get (D := D) (ci := 7) (C := RX7) (T := TX7) (N := 7) hx hb hts in_X7 hown hK hP 0 rfl rfl 4 (by decide) fl_30 (fun _ h9 => h9) rfl dX7_add_53 ?_
      refine lv_aload_n hx hb dX7_add_56 rfl (lv_at hl 0 rfl) ?_
      refine va_get (D := D) (ci := 7) (C := RX7) (T := TX7) (N := 7) hx hb hts in_X7 hown hK hP 0 rfl rfl 5 (by decide) fl_33 (fun _ h9 => h9) rfl dX7_add_57 ?_
      refine lv_iload hx hb dX7_add_60 (lv_at hl 4 rfl) ?_
      refine ast_n hx hb hK hP hD hS 4 0 rfl rfl hm (by decide) dX7_add_62 (fun H locs hP hD hS => ?_)
      have hP : va_P D vwCl [(k, .inr (7, [.ref kx, .ref k1, .ref k2, .ref k3, .ref k4, _, _])), (k1, .inl (cI, 24, .inl _)), (k2, .inl (cI, 24, .inl _)), (k3, .inl (cI, 24, .inl _)), (k4, .inl (cI, 24, .inl _))] H := hP
      have hD : va_D A [(k, .inr (7, [.ref kx, .ref k1, .ref k2, .ref k3, .ref k4, _, _])), (k1, .inl (cI, 24, .inl _)), (k2, .inl (cI, 24, .inl _)), (k3, .inl (cI, 24, .inl _)), (k4, .inl (cI, 24, .inl _))] := hD
      refine lv_aload_n hx hb dX7_add_63 rfl (lv_at hl 0 rfl) ?_
      refine lv_dup hx hb dX7_add_64 rfl ?_
      refine va_get (D := D) (ci := 7) (C := RX7) (T := TX7) (N := 7) hx hb hts in_X7 hown hK hP 0 rfl rfl 5 (by decide) fl_33 (fun _ h9 => h9) rfl dX7_add_65 ?_
      refine lv_iconst (v := 1) hx hb dX7_add_68 (by decide) ?_
      refine lv_iadd hx hb dX7_add_69 ?_
      refine va_put (D := D) (ci := 7) (ty := .int) (C := RX7) (T := TX7) (N := 7) hx hb hts in_X7 tyX7 tyX7_ok nmX7 hown hK hP hD hS 0 rfl rfl 5 (by decide) fl_33 (fun _ h9 => h9) rfl (by decide +kernel) rfl rfl (Nat.le_of_ble_eq_true rfl) dX7_add_70 (fun H locs hP hD hS => ?_)
      have hP : va_P D vwCl [(k, .inr (7, [.ref kx, .ref k1, .ref k2, .ref k3, .ref k4, _, _])), (k1, .inl (cI, 24, .inl _)), (k2, .inl (cI, 24, .inl _)), (k3, .inl (cI, 24, .inl _)), (k4, .inl (cI, 24, .inl _))] H := hP
      have hD : va_D A [(k, .inr (7, [.ref kx, .ref k1, .ref k2, .ref k3, .ref k4, _, _])), (k1, .inl (cI, 24, .inl _)), (k2, .inl (cI, 24, .inl _)), (k3, .inl (cI, 24, .inl _)), (k4, .inl (cI, 24, .inl _))] := hD
      exact mu_vret X hP hS (by simp [adN, adF, adM, hm, nI_1]) dX7_add_73
    · have hm : ¬ tc < 24 := by first | exact absurd c_4 (nI_pos (by omega)) | exact fun q => c_13 ((nI_ltI (by omega) (by decide)).mpr q)
      refine lv_aload_n hx hb dX7_add_16 rfl (lv_at hl 0 rfl) ?_
      refine lv_iconst (v := 1) hx hb dX7_add_17 (by decide) ?_
      refine va_put (D := D) (ci := 7) (ty := .boolean) (C := RX7) (T := TX7) (N := 7) hx hb hts in_X7 tyX7 tyX7_ok nmX7 hown hK hP hD hS 0 rfl rfl 6 (by decide) fl_41 (fun _ h9 => h9) rfl (by decide +kernel) (by first | rfl | exact bI_nar _) (by first | rfl | exact bI_fit _) (Nat.le_of_ble_eq_true rfl) dX7_add_18 (fun H locs hP hD hS => ?_)
      have hP : va_P D vwCl [(k, .inr (7, [.ref kx, .ref k1, .ref k2, .ref k3, .ref k4, _, _])), (k1, .inl (cI, 24, .inl _)), (k2, .inl (cI, 24, .inl _)), (k3, .inl (cI, 24, .inl _)), (k4, .inl (cI, 24, .inl _))] H := hP
      have hD : va_D A [(k, .inr (7, [.ref kx, .ref k1, .ref k2, .ref k3, .ref k4, _, _])), (k1, .inl (cI, 24, .inl _)), (k2, .inl (cI, 24, .inl _)), (k3, .inl (cI, 24, .inl _)), (k4, .inl (cI, 24, .inl _))] := hD
      exact mu_vret X hP hS (by simp [adN, adF, adM, hm, nI_1]) dX7_add_21

set_option maxHeartbeats 1000000 in
set_option maxRecDepth 100000 in
theorem c_X5_clear {l : Launch} {D : va_G} {cI cJ cW : ClassId} {sz : Nat} {u : Nat} {sr sp sl : Int32}  : MU l yX5_clear wsX5_clear { frames := 0, cells := 0, slots := 0, locals := 0 } D (ty3 cI cJ cW) [.ref u] [(u, .inr (5, [.int sr, .int sp, .int sl]))] sz none [(u, .inr (5, [.int 0, .int 0, .int 0]))] := by
  refine mu_of (cc := cX5_clear) (maxL := 1) (ret := none) (by decide) rfl (Nat.le_of_ble_eq_true rfl) ?_
  intro pr en ss mi below meth cd X hK A hA hP hD hS ls hl
  obtain ⟨hx, hb, hml, hown, hts, hr, hlocks⟩ := id X
  have fl_13 := hts (.fieldLink RX5 13 "WordTables$Sum" "part" "I") (by decide +kernel)
  have fl_16 := hts (.fieldLink RX5 16 "WordTables$Sum" "length" "I") (by decide +kernel)
  have fl_7 := hts (.fieldLink RX5 7 "WordTables$Sum" "rest" "I") (by decide +kernel)
  have in_X5 : ∀ w ∈ wsX50, w ∈ wsX5_clear := by decide +kernel
  have hl : lv_has ls 1 [(0, .ref u)] := hl
  refine lv_aload_n hx hb dX5_clear_0 rfl (lv_at hl 0 rfl) ?_
  refine lv_iconst (v := 0) hx hb dX5_clear_1 (by decide) ?_
  refine va_put (D := D) (ci := 5) (ty := .int) (C := RX5) (T := TX5) (N := 3) hx hb hts in_X5 tyX5 tyX5_ok nmX5 hown hK hP hD hS 0 rfl rfl 0 (by decide) fl_7 (fun _ h9 => h9) rfl (by decide +kernel) rfl rfl (Nat.le_of_ble_eq_true rfl) dX5_clear_2 (fun H locs hP hD hS => ?_)
  have hP : va_P D vwCl [(u, .inr (5, [_, _, _]))] H := hP
  have hD : va_D A [(u, .inr (5, [_, _, _]))] := hD
  refine lv_aload_n hx hb dX5_clear_5 rfl (lv_at hl 0 rfl) ?_
  refine lv_iconst (v := 0) hx hb dX5_clear_6 (by decide) ?_
  refine va_put (D := D) (ci := 5) (ty := .int) (C := RX5) (T := TX5) (N := 3) hx hb hts in_X5 tyX5 tyX5_ok nmX5 hown hK hP hD hS 0 rfl rfl 1 (by decide) fl_13 (fun _ h9 => h9) rfl (by decide +kernel) rfl rfl (Nat.le_of_ble_eq_true rfl) dX5_clear_7 (fun H locs hP hD hS => ?_)
  have hP : va_P D vwCl [(u, .inr (5, [_, _, _]))] H := hP
  have hD : va_D A [(u, .inr (5, [_, _, _]))] := hD
  refine lv_aload_n hx hb dX5_clear_10 rfl (lv_at hl 0 rfl) ?_
  refine lv_iconst (v := 0) hx hb dX5_clear_11 (by decide) ?_
  refine va_put (D := D) (ci := 5) (ty := .int) (C := RX5) (T := TX5) (N := 3) hx hb hts in_X5 tyX5 tyX5_ok nmX5 hown hK hP hD hS 0 rfl rfl 2 (by decide) fl_16 (fun _ h9 => h9) rfl (by decide +kernel) rfl rfl (Nat.le_of_ble_eq_true rfl) dX5_clear_12 (fun H locs hP hD hS => ?_)
  have hP : va_P D vwCl [(u, .inr (5, [_, _, _]))] H := hP
  have hD : va_D A [(u, .inr (5, [_, _, _]))] := hD
  exact mu_vret X hP hS (rfl) dX5_clear_15

set_option maxHeartbeats 1000000 in
set_option maxRecDepth 100000 in
theorem c_X5_begin {l : Launch} {D : va_G} {cI cJ cW : ClassId} {sz : Nat} {u : Nat} {sr sp sl : Int32} {v : Int32}  : MU l yX5_begin wsX5_begin { frames := 0, cells := 0, slots := 0, locals := 0 } D (ty3 cI cJ cW) [.ref u, .int v] [(u, .inr (5, [.int sr, .int sp, .int sl]))] sz none [(u, .inr (5, [.int 0, .int v, .int 1]))] := by
  refine mu_of (cc := cX5_begin) (maxL := 2) (ret := none) (by decide) rfl (Nat.le_of_ble_eq_true rfl) ?_
  intro pr en ss mi below meth cd X hK A hA hP hD hS ls hl
  obtain ⟨hx, hb, hml, hown, hts, hr, hlocks⟩ := id X
  have fl_13 := hts (.fieldLink RX5 13 "WordTables$Sum" "part" "I") (by decide +kernel)
  have fl_16 := hts (.fieldLink RX5 16 "WordTables$Sum" "length" "I") (by decide +kernel)
  have fl_7 := hts (.fieldLink RX5 7 "WordTables$Sum" "rest" "I") (by decide +kernel)
  have in_X5 : ∀ w ∈ wsX50, w ∈ wsX5_begin := by decide +kernel
  have hl : lv_has ls 2 [(0, .ref u), (1, .int v)] := hl
  refine lv_aload_n hx hb dX5_begin_0 rfl (lv_at hl 0 rfl) ?_
  refine lv_iconst (v := 0) hx hb dX5_begin_1 (by decide) ?_
  refine va_put (D := D) (ci := 5) (ty := .int) (C := RX5) (T := TX5) (N := 3) hx hb hts in_X5 tyX5 tyX5_ok nmX5 hown hK hP hD hS 0 rfl rfl 0 (by decide) fl_7 (fun _ h9 => h9) rfl (by decide +kernel) rfl rfl (Nat.le_of_ble_eq_true rfl) dX5_begin_2 (fun H locs hP hD hS => ?_)
  have hP : va_P D vwCl [(u, .inr (5, [_, _, _]))] H := hP
  have hD : va_D A [(u, .inr (5, [_, _, _]))] := hD
  refine lv_aload_n hx hb dX5_begin_5 rfl (lv_at hl 0 rfl) ?_
  refine lv_iload_n hx hb dX5_begin_6 rfl (lv_at hl 1 rfl) ?_
  refine va_put (D := D) (ci := 5) (ty := .int) (C := RX5) (T := TX5) (N := 3) hx hb hts in_X5 tyX5 tyX5_ok nmX5 hown hK hP hD hS 0 rfl rfl 1 (by decide) fl_13 (fun _ h9 => h9) rfl (by decide +kernel) rfl rfl (Nat.le_of_ble_eq_true rfl) dX5_begin_7 (fun H locs hP hD hS => ?_)
  have hP : va_P D vwCl [(u, .inr (5, [_, _, _]))] H := hP
  have hD : va_D A [(u, .inr (5, [_, _, _]))] := hD
  refine lv_aload_n hx hb dX5_begin_10 rfl (lv_at hl 0 rfl) ?_
  refine lv_iconst (v := 1) hx hb dX5_begin_11 (by decide) ?_
  refine va_put (D := D) (ci := 5) (ty := .int) (C := RX5) (T := TX5) (N := 3) hx hb hts in_X5 tyX5 tyX5_ok nmX5 hown hK hP hD hS 0 rfl rfl 2 (by decide) fl_16 (fun _ h9 => h9) rfl (by decide +kernel) rfl rfl (Nat.le_of_ble_eq_true rfl) dX5_begin_12 (fun H locs hP hD hS => ?_)
  have hP : va_P D vwCl [(u, .inr (5, [_, _, _]))] H := hP
  have hD : va_D A [(u, .inr (5, [_, _, _]))] := hD
  exact mu_vret X hP hS (rfl) dX5_begin_15

set_option maxHeartbeats 1000000 in
set_option maxRecDepth 100000 in
theorem c_X5_fitsBelowHundred {l : Launch} {D : va_G} {cI cJ cW : ClassId} {u : Nat} {sr sp sl : Int32} {v : Int32}  : RO l yX5_fitsBelowHundred wsX5_fitsBelowHundred { frames := 0, cells := 0, slots := 0, locals := 0 } D (ty3 cI cJ cW) [.ref u, .int v] [(u, .inr (5, [.int sr, .int sp, .int sl]))] (.int (bI (fbh sr sp v))) := by
  refine ro_of (cc := cX5_fitsBelowHundred) (maxL := 3) (ret := (some .boolean)) (by decide) rfl (Nat.le_of_ble_eq_true rfl) ?_
  intro pr en ss mi below meth cd X hP hK ls hl
  obtain ⟨hx, hb, hml, hown, hts, hr, hlocks⟩ := id X
  have fl_13 := hts (.fieldLink RX5 13 "WordTables$Sum" "part" "I") (by decide +kernel)
  have fl_7 := hts (.fieldLink RX5 7 "WordTables$Sum" "rest" "I") (by decide +kernel)
  have in_X5 : ∀ w ∈ wsX50, w ∈ wsX5_fitsBelowHundred := by decide +kernel
  have hl : lv_has ls 3 [(0, .ref u), (1, .int v)] := hl
  refine lv_aload_n hx hb dX5_fitsBelowHundred_0 rfl (lv_at hl 0 rfl) ?_
  refine va_get (D := D) (ci := 5) (C := RX5) (T := TX5) (N := 3) hx hb hts in_X5 hown hK hP 0 rfl rfl 1 (by decide) fl_13 (fun _ h9 => h9) rfl dX5_fitsBelowHundred_1 ?_
  refine lv_if_le (tgt := 25) hx hb dX5_fitsBelowHundred_4 (by decide) (fun c_4 => ?_) (fun c_4 => ?_)
  · refine lv_aload_n hx hb dX5_fitsBelowHundred_25 rfl (lv_at hl 0 rfl) ?_
    refine va_get (D := D) (ci := 5) (C := RX5) (T := TX5) (N := 3) hx hb hts in_X5 hown hK hP 0 rfl rfl 1 (by decide) fl_13 (fun _ h9 => h9) rfl dX5_fitsBelowHundred_26 ?_
    refine lv_if_ne (tgt := 43) hx hb dX5_fitsBelowHundred_29 (by decide) (fun c_29 => ?_) (fun c_29 => ?_)
    · refine lv_iconst (v := 0) hx hb dX5_fitsBelowHundred_43 (by decide) ?_
      refine lv_istore_n (lv' := [(2, _), (0, _), (1, _)]) hx hb dX5_fitsBelowHundred_44 rfl hl (by decide) rfl (fun ls hl => ?_)
      refine lv_iload_n hx hb dX5_fitsBelowHundred_45 rfl (lv_at hl 2 rfl) ?_
      refine lv_iconst (v := 1) hx hb dX5_fitsBelowHundred_46 (by decide) ?_
      refine lv_icmp_lt (tgt := 64) hx hb dX5_fitsBelowHundred_47 (by decide) (fun c_47 => ?_) (fun c_47 => ?_)
      · refine lv_iconst (v := 0) hx hb dX5_fitsBelowHundred_64 (by decide) ?_
        exact ro_zret X (by simp [fbh, bI, c_4, c_29, c_47]) dX5_fitsBelowHundred_65
      · refine lv_iload_n hx hb dX5_fitsBelowHundred_50 rfl (lv_at hl 2 rfl) ?_
        refine lv_bipush (v := 99) hx hb dX5_fitsBelowHundred_51 (by decide) ?_
        refine lv_icmp_gt (tgt := 64) hx hb dX5_fitsBelowHundred_53 (by decide) (fun c_53 => ?_) (fun c_53 => ?_)
        · refine lv_iconst (v := 0) hx hb dX5_fitsBelowHundred_64 (by decide) ?_
          exact ro_zret X (by simp [fbh, bI, c_4, c_29, c_47, c_53]) dX5_fitsBelowHundred_65
        · refine lv_iload_n hx hb dX5_fitsBelowHundred_56 rfl (lv_at hl 0 rfl) ?_
          refine lv_if_eq (tgt := 64) hx hb dX5_fitsBelowHundred_57 (by decide) (fun _ => ?_) (fun c_57 => absurd c_57 (by decide))
          refine lv_iconst (v := 0) hx hb dX5_fitsBelowHundred_64 (by decide) ?_
          exact ro_zret X (by simp [fbh, bI, c_4, c_29, c_47, c_53]) dX5_fitsBelowHundred_65
    · refine lv_aload_n hx hb dX5_fitsBelowHundred_32 rfl (lv_at hl 0 rfl) ?_
      refine va_get (D := D) (ci := 5) (C := RX5) (T := TX5) (N := 3) hx hb hts in_X5 hown hK hP 0 rfl rfl 0 (by decide) fl_7 (fun _ h9 => h9) rfl dX5_fitsBelowHundred_33 ?_
      refine lv_if_eq (tgt := 43) hx hb dX5_fitsBelowHundred_36 (by decide) (fun c_36 => ?_) (fun c_36 => ?_)
      · refine lv_iconst (v := 0) hx hb dX5_fitsBelowHundred_43 (by decide) ?_
        refine lv_istore_n (lv' := [(2, _), (0, _), (1, _)]) hx hb dX5_fitsBelowHundred_44 rfl hl (by decide) rfl (fun ls hl => ?_)
        refine lv_iload_n hx hb dX5_fitsBelowHundred_45 rfl (lv_at hl 2 rfl) ?_
        refine lv_iconst (v := 1) hx hb dX5_fitsBelowHundred_46 (by decide) ?_
        refine lv_icmp_lt (tgt := 64) hx hb dX5_fitsBelowHundred_47 (by decide) (fun c_47 => ?_) (fun c_47 => ?_)
        · refine lv_iconst (v := 0) hx hb dX5_fitsBelowHundred_64 (by decide) ?_
          exact ro_zret X (by simp [fbh, bI, c_4, c_29, c_36, c_47]) dX5_fitsBelowHundred_65
        · refine lv_iload_n hx hb dX5_fitsBelowHundred_50 rfl (lv_at hl 2 rfl) ?_
          refine lv_bipush (v := 99) hx hb dX5_fitsBelowHundred_51 (by decide) ?_
          refine lv_icmp_gt (tgt := 64) hx hb dX5_fitsBelowHundred_53 (by decide) (fun c_53 => ?_) (fun c_53 => ?_)
          · refine lv_iconst (v := 0) hx hb dX5_fitsBelowHundred_64 (by decide) ?_
            exact ro_zret X (by simp [fbh, bI, c_4, c_29, c_36, c_47, c_53]) dX5_fitsBelowHundred_65
          · refine lv_iload_n hx hb dX5_fitsBelowHundred_56 rfl (lv_at hl 0 rfl) ?_
            refine lv_if_eq (tgt := 64) hx hb dX5_fitsBelowHundred_57 (by decide) (fun _ => ?_) (fun c_57 => absurd c_57 (by decide))
            refine lv_iconst (v := 0) hx hb dX5_fitsBelowHundred_64 (by decide) ?_
            exact ro_zret X (by simp [fbh, bI, c_4, c_29, c_36, c_47, c_53]) dX5_fitsBelowHundred_65
      · refine lv_iconst (v := 1) hx hb dX5_fitsBelowHundred_39 (by decide) ?_
        refine lv_goto (tgt := 44) hx hb dX5_fitsBelowHundred_40 (by decide) ?_
        refine lv_istore_n (lv' := [(2, _), (0, _), (1, _)]) hx hb dX5_fitsBelowHundred_44 rfl hl (by decide) rfl (fun ls hl => ?_)
        refine lv_iload_n hx hb dX5_fitsBelowHundred_45 rfl (lv_at hl 2 rfl) ?_
        refine lv_iconst (v := 1) hx hb dX5_fitsBelowHundred_46 (by decide) ?_
        refine lv_icmp_lt (tgt := 64) hx hb dX5_fitsBelowHundred_47 (by decide) (fun c_47 => ?_) (fun c_47 => ?_)
        · refine lv_iconst (v := 0) hx hb dX5_fitsBelowHundred_64 (by decide) ?_
          exact ro_zret X (by simp [fbh, bI, c_4, c_29, c_36, c_47]) dX5_fitsBelowHundred_65
        · refine lv_iload_n hx hb dX5_fitsBelowHundred_50 rfl (lv_at hl 2 rfl) ?_
          refine lv_bipush (v := 99) hx hb dX5_fitsBelowHundred_51 (by decide) ?_
          refine lv_icmp_gt (tgt := 64) hx hb dX5_fitsBelowHundred_53 (by decide) (fun c_53 => ?_) (fun c_53 => ?_)
          · refine lv_iconst (v := 0) hx hb dX5_fitsBelowHundred_64 (by decide) ?_
            exact ro_zret X (by simp [fbh, bI, c_4, c_29, c_36, c_47, c_53]) dX5_fitsBelowHundred_65
          · refine lv_iload_n hx hb dX5_fitsBelowHundred_56 rfl (lv_at hl 0 rfl) ?_
            refine lv_if_eq (tgt := 64) hx hb dX5_fitsBelowHundred_57 (by decide) (fun c_57 => absurd c_57 (by decide)) (fun _ => ?_)
            refine lv_iconst (v := 1) hx hb dX5_fitsBelowHundred_60 (by decide) ?_
            refine lv_goto (tgt := 65) hx hb dX5_fitsBelowHundred_61 (by decide) ?_
            exact ro_zret X (by simp [fbh, bI, c_4, c_29, c_36, c_47, c_53]) dX5_fitsBelowHundred_65
  · refine lv_aload_n hx hb dX5_fitsBelowHundred_7 rfl (lv_at hl 0 rfl) ?_
    refine va_get (D := D) (ci := 5) (C := RX5) (T := TX5) (N := 3) hx hb hts in_X5 hown hK hP 0 rfl rfl 1 (by decide) fl_13 (fun _ h9 => h9) rfl dX5_fitsBelowHundred_8 ?_
    refine lv_bipush (v := 100) hx hb dX5_fitsBelowHundred_11 (by decide) ?_
    refine lv_irem hx hb dX5_fitsBelowHundred_13 (by decide) ?_
    refine lv_if_ne (tgt := 21) hx hb dX5_fitsBelowHundred_14 (by decide) (fun c_14 => ?_) (fun c_14 => ?_)
    · refine lv_iconst (v := 0) hx hb dX5_fitsBelowHundred_21 (by decide) ?_
      refine lv_goto (tgt := 44) hx hb dX5_fitsBelowHundred_22 (by decide) ?_
      refine lv_istore_n (lv' := [(2, _), (0, _), (1, _)]) hx hb dX5_fitsBelowHundred_44 rfl hl (by decide) rfl (fun ls hl => ?_)
      refine lv_iload_n hx hb dX5_fitsBelowHundred_45 rfl (lv_at hl 2 rfl) ?_
      refine lv_iconst (v := 1) hx hb dX5_fitsBelowHundred_46 (by decide) ?_
      refine lv_icmp_lt (tgt := 64) hx hb dX5_fitsBelowHundred_47 (by decide) (fun c_47 => ?_) (fun c_47 => ?_)
      · refine lv_iconst (v := 0) hx hb dX5_fitsBelowHundred_64 (by decide) ?_
        exact ro_zret X (by simp [fbh, bI, c_4, c_14, c_47]) dX5_fitsBelowHundred_65
      · refine lv_iload_n hx hb dX5_fitsBelowHundred_50 rfl (lv_at hl 2 rfl) ?_
        refine lv_bipush (v := 99) hx hb dX5_fitsBelowHundred_51 (by decide) ?_
        refine lv_icmp_gt (tgt := 64) hx hb dX5_fitsBelowHundred_53 (by decide) (fun c_53 => ?_) (fun c_53 => ?_)
        · refine lv_iconst (v := 0) hx hb dX5_fitsBelowHundred_64 (by decide) ?_
          exact ro_zret X (by simp [fbh, bI, c_4, c_14, c_47, c_53]) dX5_fitsBelowHundred_65
        · refine lv_iload_n hx hb dX5_fitsBelowHundred_56 rfl (lv_at hl 0 rfl) ?_
          refine lv_if_eq (tgt := 64) hx hb dX5_fitsBelowHundred_57 (by decide) (fun _ => ?_) (fun c_57 => absurd c_57 (by decide))
          refine lv_iconst (v := 0) hx hb dX5_fitsBelowHundred_64 (by decide) ?_
          exact ro_zret X (by simp [fbh, bI, c_4, c_14, c_47, c_53]) dX5_fitsBelowHundred_65
    · refine lv_iconst (v := 1) hx hb dX5_fitsBelowHundred_17 (by decide) ?_
      refine lv_goto (tgt := 44) hx hb dX5_fitsBelowHundred_18 (by decide) ?_
      refine lv_istore_n (lv' := [(2, _), (0, _), (1, _)]) hx hb dX5_fitsBelowHundred_44 rfl hl (by decide) rfl (fun ls hl => ?_)
      refine lv_iload_n hx hb dX5_fitsBelowHundred_45 rfl (lv_at hl 2 rfl) ?_
      refine lv_iconst (v := 1) hx hb dX5_fitsBelowHundred_46 (by decide) ?_
      refine lv_icmp_lt (tgt := 64) hx hb dX5_fitsBelowHundred_47 (by decide) (fun c_47 => ?_) (fun c_47 => ?_)
      · refine lv_iconst (v := 0) hx hb dX5_fitsBelowHundred_64 (by decide) ?_
        exact ro_zret X (by simp [fbh, bI, c_4, c_14, c_47]) dX5_fitsBelowHundred_65
      · refine lv_iload_n hx hb dX5_fitsBelowHundred_50 rfl (lv_at hl 2 rfl) ?_
        refine lv_bipush (v := 99) hx hb dX5_fitsBelowHundred_51 (by decide) ?_
        refine lv_icmp_gt (tgt := 64) hx hb dX5_fitsBelowHundred_53 (by decide) (fun c_53 => ?_) (fun c_53 => ?_)
        · refine lv_iconst (v := 0) hx hb dX5_fitsBelowHundred_64 (by decide) ?_
          exact ro_zret X (by simp [fbh, bI, c_4, c_14, c_47, c_53]) dX5_fitsBelowHundred_65
        · refine lv_iload_n hx hb dX5_fitsBelowHundred_56 rfl (lv_at hl 0 rfl) ?_
          refine lv_if_eq (tgt := 64) hx hb dX5_fitsBelowHundred_57 (by decide) (fun c_57 => absurd c_57 (by decide)) (fun _ => ?_)
          refine lv_iconst (v := 1) hx hb dX5_fitsBelowHundred_60 (by decide) ?_
          refine lv_goto (tgt := 65) hx hb dX5_fitsBelowHundred_61 (by decide) ?_
          exact ro_zret X (by simp [fbh, bI, c_4, c_14, c_47, c_53]) dX5_fitsBelowHundred_65

set_option maxHeartbeats 1000000 in
set_option maxRecDepth 100000 in
theorem c_X5_fitsBelowTen {l : Launch} {D : va_G} {cI cJ cW : ClassId} {u : Nat} {sr sp sl : Int32} {v : Int32}  : RO l yX5_fitsBelowTen wsX5_fitsBelowTen { frames := 0, cells := 0, slots := 0, locals := 0 } D (ty3 cI cJ cW) [.ref u, .int v] [(u, .inr (5, [.int sr, .int sp, .int sl]))] (.int (bI (fbt sp v))) := by
  refine ro_of (cc := cX5_fitsBelowTen) (maxL := 3) (ret := (some .boolean)) (by decide) rfl (Nat.le_of_ble_eq_true rfl) ?_
  intro pr en ss mi below meth cd X hP hK ls hl
  obtain ⟨hx, hb, hml, hown, hts, hr, hlocks⟩ := id X
  have fl_13 := hts (.fieldLink RX5 13 "WordTables$Sum" "part" "I") (by decide +kernel)
  have in_X5 : ∀ w ∈ wsX50, w ∈ wsX5_fitsBelowTen := by decide +kernel
  have hl : lv_has ls 3 [(0, .ref u), (1, .int v)] := hl
  refine lv_aload_n hx hb dX5_fitsBelowTen_0 rfl (lv_at hl 0 rfl) ?_
  refine va_get (D := D) (ci := 5) (C := RX5) (T := TX5) (N := 3) hx hb hts in_X5 hown hK hP 0 rfl rfl 1 (by decide) fl_13 (fun _ h9 => h9) rfl dX5_fitsBelowTen_1 ?_
  refine lv_bipush (v := 100) hx hb dX5_fitsBelowTen_4 (by decide) ?_
  refine lv_irem hx hb dX5_fitsBelowTen_6 (by decide) ?_
  refine lv_istore_n (lv' := [(2, _), (0, _), (1, _)]) hx hb dX5_fitsBelowTen_7 rfl hl (by decide) rfl (fun ls hl => ?_)
  refine lv_iload_n hx hb dX5_fitsBelowTen_8 rfl (lv_at hl 2 rfl) ?_
  refine lv_iconst (v := 1) hx hb dX5_fitsBelowTen_9 (by decide) ?_
  refine lv_icmp_lt (tgt := 36) hx hb dX5_fitsBelowTen_10 (by decide) (fun c_10 => ?_) (fun c_10 => ?_)
  · refine lv_iconst (v := 0) hx hb dX5_fitsBelowTen_36 (by decide) ?_
    exact ro_zret X (by simp [fbt, bI, c_10]) dX5_fitsBelowTen_37
  · refine lv_iload_n hx hb dX5_fitsBelowTen_13 rfl (lv_at hl 2 rfl) ?_
    refine lv_bipush (v := 9) hx hb dX5_fitsBelowTen_14 (by decide) ?_
    refine lv_icmp_gt (tgt := 36) hx hb dX5_fitsBelowTen_16 (by decide) (fun c_16 => ?_) (fun c_16 => ?_)
    · refine lv_iconst (v := 0) hx hb dX5_fitsBelowTen_36 (by decide) ?_
      exact ro_zret X (by simp [fbt, bI, c_10, c_16]) dX5_fitsBelowTen_37
    · refine lv_iload_n hx hb dX5_fitsBelowTen_19 rfl (lv_at hl 0 rfl) ?_
      refine lv_bipush (v := 20) hx hb dX5_fitsBelowTen_20 (by decide) ?_
      refine lv_icmp_lt (tgt := 36) hx hb dX5_fitsBelowTen_22 (by decide) (fun c_22 => ?_) (fun c_22 => ?_)
      · refine lv_iconst (v := 0) hx hb dX5_fitsBelowTen_36 (by decide) ?_
        exact ro_zret X (by simp [fbt, bI, c_10, c_16, c_22]) dX5_fitsBelowTen_37
      · refine lv_iload_n hx hb dX5_fitsBelowTen_25 rfl (lv_at hl 0 rfl) ?_
        refine lv_bipush (v := 10) hx hb dX5_fitsBelowTen_26 (by decide) ?_
        refine lv_irem hx hb dX5_fitsBelowTen_28 (by decide) ?_
        refine lv_if_ne (tgt := 36) hx hb dX5_fitsBelowTen_29 (by decide) (fun c_29 => ?_) (fun c_29 => ?_)
        · refine lv_iconst (v := 0) hx hb dX5_fitsBelowTen_36 (by decide) ?_
          exact ro_zret X (by simp [fbt, bI, c_10, c_16, c_22, c_29]) dX5_fitsBelowTen_37
        · refine lv_iconst (v := 1) hx hb dX5_fitsBelowTen_32 (by decide) ?_
          refine lv_goto (tgt := 37) hx hb dX5_fitsBelowTen_33 (by decide) ?_
          exact ro_zret X (by simp [fbt, bI, c_10, c_16, c_22, c_29]) dX5_fitsBelowTen_37

set_option maxHeartbeats 1000000 in
set_option maxRecDepth 100000 in
theorem c_X5_accept {l : Launch} {D : va_G} {cI cJ cW : ClassId} {sz : Nat} {u : Nat} {sr sp sl : Int32} {v : Int32}  : MU l yX5_accept wsX5_accept { frames := 1, cells := 0, slots := 0, locals := 22 } D (ty3 cI cJ cW) [.ref u, .int v] [(u, .inr (5, [.int sr, .int sp, .int sl]))] sz (some (.int (bI (sumA sr sp sl v).1))) [(u, .inr (5, [.int ((sumA sr sp sl v).2.1), .int ((sumA sr sp sl v).2.2.1), .int ((sumA sr sp sl v).2.2.2)]))] := by
  refine mu_of (cc := cX5_accept) (maxL := 2) (ret := (some .boolean)) (by decide) rfl (Nat.le_of_ble_eq_true rfl) ?_
  intro pr en ss mi below meth cd X hK A hA hP hD hS ls hl
  obtain ⟨hx, hb, hml, hown, hts, hr, hlocks⟩ := id X
  have fl_13 := hts (.fieldLink RX5 13 "WordTables$Sum" "part" "I") (by decide +kernel)
  have fl_16 := hts (.fieldLink RX5 16 "WordTables$Sum" "length" "I") (by decide +kernel)
  have fl_7 := hts (.fieldLink RX5 7 "WordTables$Sum" "rest" "I") (by decide +kernel)
  have in_X5 : ∀ w ∈ wsX50, w ∈ wsX5_accept := by decide +kernel
  have hl : lv_has ls 2 [(0, .ref u), (1, .int v)] := hl
  refine lv_aload_n hx hb dX5_accept_0 rfl (lv_at hl 0 rfl) ?_
  refine va_get (D := D) (ci := 5) (C := RX5) (T := TX5) (N := 3) hx hb hts in_X5 hown hK hP 0 rfl rfl 2 (by decide) fl_16 (fun _ h9 => h9) rfl dX5_accept_1 ?_
  refine lv_if_ne (tgt := 14) hx hb dX5_accept_4 (by decide) (fun c_4 => ?_) (fun c_4 => ?_)
  · refine lv_iload_n hx hb dX5_accept_14 rfl (lv_at hl 1 rfl) ?_
    refine lv_bipush (v := 100) hx hb dX5_accept_15 (by decide) ?_
    refine lv_icmp_ne (tgt := 51) hx hb dX5_accept_17 (by decide) (fun c_17 => ?_) (fun c_17 => ?_)
    · refine lv_iload_n hx hb dX5_accept_51 rfl (lv_at hl 1 rfl) ?_
      refine lv_sipush (v := 1000) hx hb dX5_accept_52 (by decide) ?_
      refine lv_icmp_ne (tgt := 103) hx hb dX5_accept_55 (by decide) (fun c_55 => ?_) (fun c_55 => ?_)
      · refine lv_aload_n hx hb dX5_accept_103 rfl (lv_at hl 0 rfl) ?_
        refine lv_iload_n hx hb dX5_accept_104 rfl (lv_at hl 1 rfl) ?_
        refine ro_V (n := 1) X hK (c_X5_fitsBelowHundred) gX5_accept_X5_fitsBelowHundred rfl (by decide +kernel) ⟨rfl, rfl⟩ ⟨Nat.le_of_ble_eq_true rfl, Nat.le_of_ble_eq_true rfl⟩ (hP.sub [0] rfl) (va_recv hK hP (ci := 5) (q0 := 0) rfl rfl) rfl hl.1 rfl (Nat.le_of_ble_eq_true rfl) dX5_accept_105 ⟨Nat.zero_le _, Nat.zero_le _⟩ ?_
        refine lv_if_ne (tgt := 119) hx hb dX5_accept_108 (by decide) (fun c_108 => ?_) (fun c_108 => ?_)
        · replace c_108 := bI_n0.mp c_108
          refine lv_aload_n hx hb dX5_accept_119 rfl (lv_at hl 0 rfl) ?_
          refine lv_dup hx hb dX5_accept_120 rfl ?_
          refine va_get (D := D) (ci := 5) (C := RX5) (T := TX5) (N := 3) hx hb hts in_X5 hown hK hP 0 rfl rfl 1 (by decide) fl_13 (fun _ h9 => h9) rfl dX5_accept_121 ?_
          refine lv_iload_n hx hb dX5_accept_124 rfl (lv_at hl 1 rfl) ?_
          refine lv_iadd hx hb dX5_accept_125 ?_
          refine va_put (D := D) (ci := 5) (ty := .int) (C := RX5) (T := TX5) (N := 3) hx hb hts in_X5 tyX5 tyX5_ok nmX5 hown hK hP hD hS 0 rfl rfl 1 (by decide) fl_13 (fun _ h9 => h9) rfl (by decide +kernel) rfl rfl (Nat.le_of_ble_eq_true rfl) dX5_accept_126 (fun H locs hP hD hS => ?_)
          have hP : va_P D vwCl [(u, .inr (5, [_, _, _]))] H := hP
          have hD : va_D A [(u, .inr (5, [_, _, _]))] := hD
          refine lv_goto (tgt := 134) hx hb dX5_accept_129 (by decide) ?_
          refine lv_aload_n hx hb dX5_accept_134 rfl (lv_at hl 0 rfl) ?_
          refine lv_dup hx hb dX5_accept_135 rfl ?_
          refine va_get (D := D) (ci := 5) (C := RX5) (T := TX5) (N := 3) hx hb hts in_X5 hown hK hP 0 rfl rfl 2 (by decide) fl_16 (fun _ h9 => h9) rfl dX5_accept_136 ?_
          refine lv_iconst (v := 1) hx hb dX5_accept_139 (by decide) ?_
          refine lv_iadd hx hb dX5_accept_140 ?_
          refine va_put (D := D) (ci := 5) (ty := .int) (C := RX5) (T := TX5) (N := 3) hx hb hts in_X5 tyX5 tyX5_ok nmX5 hown hK hP hD hS 0 rfl rfl 2 (by decide) fl_16 (fun _ h9 => h9) rfl (by decide +kernel) rfl rfl (Nat.le_of_ble_eq_true rfl) dX5_accept_141 (fun H locs hP hD hS => ?_)
          have hP : va_P D vwCl [(u, .inr (5, [_, _, _]))] H := hP
          have hD : va_D A [(u, .inr (5, [_, _, _]))] := hD
          refine lv_iconst (v := 1) hx hb dX5_accept_144 (by decide) ?_
          exact mu_zret X hP hS (by simp_all [sumA, bI]) (by simp_all [sumA, bI]) dX5_accept_145
        · replace c_108 := bI_0.mp c_108
          refine lv_aload_n hx hb dX5_accept_111 rfl (lv_at hl 0 rfl) ?_
          refine lv_iload_n hx hb dX5_accept_112 rfl (lv_at hl 1 rfl) ?_
          refine ro_V (n := 1) X hK (c_X5_fitsBelowTen) gX5_accept_X5_fitsBelowTen rfl (by decide +kernel) ⟨rfl, rfl⟩ ⟨Nat.le_of_ble_eq_true rfl, Nat.le_of_ble_eq_true rfl⟩ (hP.sub [0] rfl) (va_recv hK hP (ci := 5) (q0 := 0) rfl rfl) rfl hl.1 rfl (Nat.le_of_ble_eq_true rfl) dX5_accept_113 ⟨Nat.zero_le _, Nat.zero_le _⟩ ?_
          refine lv_if_eq (tgt := 132) hx hb dX5_accept_116 (by decide) (fun c_116 => ?_) (fun c_116 => ?_)
          · replace c_116 := bI_0.mp c_116
            refine lv_iconst (v := 0) hx hb dX5_accept_132 (by decide) ?_
            exact mu_zret X hP hS (by simp_all [sumA, bI]) (by simp_all [sumA, bI]) dX5_accept_133
          · replace c_116 := bI_n0.mp c_116
            refine lv_aload_n hx hb dX5_accept_119 rfl (lv_at hl 0 rfl) ?_
            refine lv_dup hx hb dX5_accept_120 rfl ?_
            refine va_get (D := D) (ci := 5) (C := RX5) (T := TX5) (N := 3) hx hb hts in_X5 hown hK hP 0 rfl rfl 1 (by decide) fl_13 (fun _ h9 => h9) rfl dX5_accept_121 ?_
            refine lv_iload_n hx hb dX5_accept_124 rfl (lv_at hl 1 rfl) ?_
            refine lv_iadd hx hb dX5_accept_125 ?_
            refine va_put (D := D) (ci := 5) (ty := .int) (C := RX5) (T := TX5) (N := 3) hx hb hts in_X5 tyX5 tyX5_ok nmX5 hown hK hP hD hS 0 rfl rfl 1 (by decide) fl_13 (fun _ h9 => h9) rfl (by decide +kernel) rfl rfl (Nat.le_of_ble_eq_true rfl) dX5_accept_126 (fun H locs hP hD hS => ?_)
            have hP : va_P D vwCl [(u, .inr (5, [_, _, _]))] H := hP
            have hD : va_D A [(u, .inr (5, [_, _, _]))] := hD
            refine lv_goto (tgt := 134) hx hb dX5_accept_129 (by decide) ?_
            refine lv_aload_n hx hb dX5_accept_134 rfl (lv_at hl 0 rfl) ?_
            refine lv_dup hx hb dX5_accept_135 rfl ?_
            refine va_get (D := D) (ci := 5) (C := RX5) (T := TX5) (N := 3) hx hb hts in_X5 hown hK hP 0 rfl rfl 2 (by decide) fl_16 (fun _ h9 => h9) rfl dX5_accept_136 ?_
            refine lv_iconst (v := 1) hx hb dX5_accept_139 (by decide) ?_
            refine lv_iadd hx hb dX5_accept_140 ?_
            refine va_put (D := D) (ci := 5) (ty := .int) (C := RX5) (T := TX5) (N := 3) hx hb hts in_X5 tyX5 tyX5_ok nmX5 hown hK hP hD hS 0 rfl rfl 2 (by decide) fl_16 (fun _ h9 => h9) rfl (by decide +kernel) rfl rfl (Nat.le_of_ble_eq_true rfl) dX5_accept_141 (fun H locs hP hD hS => ?_)
            have hP : va_P D vwCl [(u, .inr (5, [_, _, _]))] H := hP
            have hD : va_D A [(u, .inr (5, [_, _, _]))] := hD
            refine lv_iconst (v := 1) hx hb dX5_accept_144 (by decide) ?_
            exact mu_zret X hP hS (by simp_all [sumA, bI]) (by simp_all [sumA, bI]) dX5_accept_145
      · refine lv_aload_n hx hb dX5_accept_58 rfl (lv_at hl 0 rfl) ?_
        refine va_get (D := D) (ci := 5) (C := RX5) (T := TX5) (N := 3) hx hb hts in_X5 hown hK hP 0 rfl rfl 1 (by decide) fl_13 (fun _ h9 => h9) rfl dX5_accept_59 ?_
        refine lv_iconst (v := 1) hx hb dX5_accept_62 (by decide) ?_
        refine lv_icmp_lt (tgt := 103) hx hb dX5_accept_63 (by decide) (fun c_63 => ?_) (fun c_63 => ?_)
        · refine lv_aload_n hx hb dX5_accept_103 rfl (lv_at hl 0 rfl) ?_
          refine lv_iload_n hx hb dX5_accept_104 rfl (lv_at hl 1 rfl) ?_
          refine ro_V (n := 1) X hK (c_X5_fitsBelowHundred) gX5_accept_X5_fitsBelowHundred rfl (by decide +kernel) ⟨rfl, rfl⟩ ⟨Nat.le_of_ble_eq_true rfl, Nat.le_of_ble_eq_true rfl⟩ (hP.sub [0] rfl) (va_recv hK hP (ci := 5) (q0 := 0) rfl rfl) rfl hl.1 rfl (Nat.le_of_ble_eq_true rfl) dX5_accept_105 ⟨Nat.zero_le _, Nat.zero_le _⟩ ?_
          refine lv_if_ne (tgt := 119) hx hb dX5_accept_108 (by decide) (fun c_108 => ?_) (fun c_108 => ?_)
          · replace c_108 := bI_n0.mp c_108
            refine lv_aload_n hx hb dX5_accept_119 rfl (lv_at hl 0 rfl) ?_
            refine lv_dup hx hb dX5_accept_120 rfl ?_
            refine va_get (D := D) (ci := 5) (C := RX5) (T := TX5) (N := 3) hx hb hts in_X5 hown hK hP 0 rfl rfl 1 (by decide) fl_13 (fun _ h9 => h9) rfl dX5_accept_121 ?_
            refine lv_iload_n hx hb dX5_accept_124 rfl (lv_at hl 1 rfl) ?_
            refine lv_iadd hx hb dX5_accept_125 ?_
            refine va_put (D := D) (ci := 5) (ty := .int) (C := RX5) (T := TX5) (N := 3) hx hb hts in_X5 tyX5 tyX5_ok nmX5 hown hK hP hD hS 0 rfl rfl 1 (by decide) fl_13 (fun _ h9 => h9) rfl (by decide +kernel) rfl rfl (Nat.le_of_ble_eq_true rfl) dX5_accept_126 (fun H locs hP hD hS => ?_)
            have hP : va_P D vwCl [(u, .inr (5, [_, _, _]))] H := hP
            have hD : va_D A [(u, .inr (5, [_, _, _]))] := hD
            refine lv_goto (tgt := 134) hx hb dX5_accept_129 (by decide) ?_
            refine lv_aload_n hx hb dX5_accept_134 rfl (lv_at hl 0 rfl) ?_
            refine lv_dup hx hb dX5_accept_135 rfl ?_
            refine va_get (D := D) (ci := 5) (C := RX5) (T := TX5) (N := 3) hx hb hts in_X5 hown hK hP 0 rfl rfl 2 (by decide) fl_16 (fun _ h9 => h9) rfl dX5_accept_136 ?_
            refine lv_iconst (v := 1) hx hb dX5_accept_139 (by decide) ?_
            refine lv_iadd hx hb dX5_accept_140 ?_
            refine va_put (D := D) (ci := 5) (ty := .int) (C := RX5) (T := TX5) (N := 3) hx hb hts in_X5 tyX5 tyX5_ok nmX5 hown hK hP hD hS 0 rfl rfl 2 (by decide) fl_16 (fun _ h9 => h9) rfl (by decide +kernel) rfl rfl (Nat.le_of_ble_eq_true rfl) dX5_accept_141 (fun H locs hP hD hS => ?_)
            have hP : va_P D vwCl [(u, .inr (5, [_, _, _]))] H := hP
            have hD : va_D A [(u, .inr (5, [_, _, _]))] := hD
            refine lv_iconst (v := 1) hx hb dX5_accept_144 (by decide) ?_
            exact mu_zret X hP hS (by simp_all [sumA, bI]) (by simp_all [sumA, bI]) dX5_accept_145
          · replace c_108 := bI_0.mp c_108
            refine lv_aload_n hx hb dX5_accept_111 rfl (lv_at hl 0 rfl) ?_
            refine lv_iload_n hx hb dX5_accept_112 rfl (lv_at hl 1 rfl) ?_
            refine ro_V (n := 1) X hK (c_X5_fitsBelowTen) gX5_accept_X5_fitsBelowTen rfl (by decide +kernel) ⟨rfl, rfl⟩ ⟨Nat.le_of_ble_eq_true rfl, Nat.le_of_ble_eq_true rfl⟩ (hP.sub [0] rfl) (va_recv hK hP (ci := 5) (q0 := 0) rfl rfl) rfl hl.1 rfl (Nat.le_of_ble_eq_true rfl) dX5_accept_113 ⟨Nat.zero_le _, Nat.zero_le _⟩ ?_
            refine lv_if_eq (tgt := 132) hx hb dX5_accept_116 (by decide) (fun c_116 => ?_) (fun c_116 => ?_)
            · replace c_116 := bI_0.mp c_116
              refine lv_iconst (v := 0) hx hb dX5_accept_132 (by decide) ?_
              exact mu_zret X hP hS (by simp_all [sumA, bI]) (by simp_all [sumA, bI]) dX5_accept_133
            · replace c_116 := bI_n0.mp c_116
              refine lv_aload_n hx hb dX5_accept_119 rfl (lv_at hl 0 rfl) ?_
              refine lv_dup hx hb dX5_accept_120 rfl ?_
              refine va_get (D := D) (ci := 5) (C := RX5) (T := TX5) (N := 3) hx hb hts in_X5 hown hK hP 0 rfl rfl 1 (by decide) fl_13 (fun _ h9 => h9) rfl dX5_accept_121 ?_
              refine lv_iload_n hx hb dX5_accept_124 rfl (lv_at hl 1 rfl) ?_
              refine lv_iadd hx hb dX5_accept_125 ?_
              refine va_put (D := D) (ci := 5) (ty := .int) (C := RX5) (T := TX5) (N := 3) hx hb hts in_X5 tyX5 tyX5_ok nmX5 hown hK hP hD hS 0 rfl rfl 1 (by decide) fl_13 (fun _ h9 => h9) rfl (by decide +kernel) rfl rfl (Nat.le_of_ble_eq_true rfl) dX5_accept_126 (fun H locs hP hD hS => ?_)
              have hP : va_P D vwCl [(u, .inr (5, [_, _, _]))] H := hP
              have hD : va_D A [(u, .inr (5, [_, _, _]))] := hD
              refine lv_goto (tgt := 134) hx hb dX5_accept_129 (by decide) ?_
              refine lv_aload_n hx hb dX5_accept_134 rfl (lv_at hl 0 rfl) ?_
              refine lv_dup hx hb dX5_accept_135 rfl ?_
              refine va_get (D := D) (ci := 5) (C := RX5) (T := TX5) (N := 3) hx hb hts in_X5 hown hK hP 0 rfl rfl 2 (by decide) fl_16 (fun _ h9 => h9) rfl dX5_accept_136 ?_
              refine lv_iconst (v := 1) hx hb dX5_accept_139 (by decide) ?_
              refine lv_iadd hx hb dX5_accept_140 ?_
              refine va_put (D := D) (ci := 5) (ty := .int) (C := RX5) (T := TX5) (N := 3) hx hb hts in_X5 tyX5 tyX5_ok nmX5 hown hK hP hD hS 0 rfl rfl 2 (by decide) fl_16 (fun _ h9 => h9) rfl (by decide +kernel) rfl rfl (Nat.le_of_ble_eq_true rfl) dX5_accept_141 (fun H locs hP hD hS => ?_)
              have hP : va_P D vwCl [(u, .inr (5, [_, _, _]))] H := hP
              have hD : va_D A [(u, .inr (5, [_, _, _]))] := hD
              refine lv_iconst (v := 1) hx hb dX5_accept_144 (by decide) ?_
              exact mu_zret X hP hS (by simp_all [sumA, bI]) (by simp_all [sumA, bI]) dX5_accept_145
        · refine lv_aload_n hx hb dX5_accept_66 rfl (lv_at hl 0 rfl) ?_
          refine va_get (D := D) (ci := 5) (C := RX5) (T := TX5) (N := 3) hx hb hts in_X5 hown hK hP 0 rfl rfl 1 (by decide) fl_13 (fun _ h9 => h9) rfl dX5_accept_67 ?_
          refine lv_sipush (v := 999) hx hb dX5_accept_70 (by decide) ?_
          refine lv_icmp_gt (tgt := 103) hx hb dX5_accept_73 (by decide) (fun c_73 => ?_) (fun c_73 => ?_)
          · refine lv_aload_n hx hb dX5_accept_103 rfl (lv_at hl 0 rfl) ?_
            refine lv_iload_n hx hb dX5_accept_104 rfl (lv_at hl 1 rfl) ?_
            refine ro_V (n := 1) X hK (c_X5_fitsBelowHundred) gX5_accept_X5_fitsBelowHundred rfl (by decide +kernel) ⟨rfl, rfl⟩ ⟨Nat.le_of_ble_eq_true rfl, Nat.le_of_ble_eq_true rfl⟩ (hP.sub [0] rfl) (va_recv hK hP (ci := 5) (q0 := 0) rfl rfl) rfl hl.1 rfl (Nat.le_of_ble_eq_true rfl) dX5_accept_105 ⟨Nat.zero_le _, Nat.zero_le _⟩ ?_
            refine lv_if_ne (tgt := 119) hx hb dX5_accept_108 (by decide) (fun c_108 => ?_) (fun c_108 => ?_)
            · replace c_108 := bI_n0.mp c_108
              refine lv_aload_n hx hb dX5_accept_119 rfl (lv_at hl 0 rfl) ?_
              refine lv_dup hx hb dX5_accept_120 rfl ?_
              refine va_get (D := D) (ci := 5) (C := RX5) (T := TX5) (N := 3) hx hb hts in_X5 hown hK hP 0 rfl rfl 1 (by decide) fl_13 (fun _ h9 => h9) rfl dX5_accept_121 ?_
              refine lv_iload_n hx hb dX5_accept_124 rfl (lv_at hl 1 rfl) ?_
              refine lv_iadd hx hb dX5_accept_125 ?_
              refine va_put (D := D) (ci := 5) (ty := .int) (C := RX5) (T := TX5) (N := 3) hx hb hts in_X5 tyX5 tyX5_ok nmX5 hown hK hP hD hS 0 rfl rfl 1 (by decide) fl_13 (fun _ h9 => h9) rfl (by decide +kernel) rfl rfl (Nat.le_of_ble_eq_true rfl) dX5_accept_126 (fun H locs hP hD hS => ?_)
              have hP : va_P D vwCl [(u, .inr (5, [_, _, _]))] H := hP
              have hD : va_D A [(u, .inr (5, [_, _, _]))] := hD
              refine lv_goto (tgt := 134) hx hb dX5_accept_129 (by decide) ?_
              refine lv_aload_n hx hb dX5_accept_134 rfl (lv_at hl 0 rfl) ?_
              refine lv_dup hx hb dX5_accept_135 rfl ?_
              refine va_get (D := D) (ci := 5) (C := RX5) (T := TX5) (N := 3) hx hb hts in_X5 hown hK hP 0 rfl rfl 2 (by decide) fl_16 (fun _ h9 => h9) rfl dX5_accept_136 ?_
              refine lv_iconst (v := 1) hx hb dX5_accept_139 (by decide) ?_
              refine lv_iadd hx hb dX5_accept_140 ?_
              refine va_put (D := D) (ci := 5) (ty := .int) (C := RX5) (T := TX5) (N := 3) hx hb hts in_X5 tyX5 tyX5_ok nmX5 hown hK hP hD hS 0 rfl rfl 2 (by decide) fl_16 (fun _ h9 => h9) rfl (by decide +kernel) rfl rfl (Nat.le_of_ble_eq_true rfl) dX5_accept_141 (fun H locs hP hD hS => ?_)
              have hP : va_P D vwCl [(u, .inr (5, [_, _, _]))] H := hP
              have hD : va_D A [(u, .inr (5, [_, _, _]))] := hD
              refine lv_iconst (v := 1) hx hb dX5_accept_144 (by decide) ?_
              exact mu_zret X hP hS (by simp_all [sumA, bI]) (by simp_all [sumA, bI]) dX5_accept_145
            · replace c_108 := bI_0.mp c_108
              refine lv_aload_n hx hb dX5_accept_111 rfl (lv_at hl 0 rfl) ?_
              refine lv_iload_n hx hb dX5_accept_112 rfl (lv_at hl 1 rfl) ?_
              refine ro_V (n := 1) X hK (c_X5_fitsBelowTen) gX5_accept_X5_fitsBelowTen rfl (by decide +kernel) ⟨rfl, rfl⟩ ⟨Nat.le_of_ble_eq_true rfl, Nat.le_of_ble_eq_true rfl⟩ (hP.sub [0] rfl) (va_recv hK hP (ci := 5) (q0 := 0) rfl rfl) rfl hl.1 rfl (Nat.le_of_ble_eq_true rfl) dX5_accept_113 ⟨Nat.zero_le _, Nat.zero_le _⟩ ?_
              refine lv_if_eq (tgt := 132) hx hb dX5_accept_116 (by decide) (fun c_116 => ?_) (fun c_116 => ?_)
              · replace c_116 := bI_0.mp c_116
                refine lv_iconst (v := 0) hx hb dX5_accept_132 (by decide) ?_
                exact mu_zret X hP hS (by simp_all [sumA, bI]) (by simp_all [sumA, bI]) dX5_accept_133
              · replace c_116 := bI_n0.mp c_116
                refine lv_aload_n hx hb dX5_accept_119 rfl (lv_at hl 0 rfl) ?_
                refine lv_dup hx hb dX5_accept_120 rfl ?_
                refine va_get (D := D) (ci := 5) (C := RX5) (T := TX5) (N := 3) hx hb hts in_X5 hown hK hP 0 rfl rfl 1 (by decide) fl_13 (fun _ h9 => h9) rfl dX5_accept_121 ?_
                refine lv_iload_n hx hb dX5_accept_124 rfl (lv_at hl 1 rfl) ?_
                refine lv_iadd hx hb dX5_accept_125 ?_
                refine va_put (D := D) (ci := 5) (ty := .int) (C := RX5) (T := TX5) (N := 3) hx hb hts in_X5 tyX5 tyX5_ok nmX5 hown hK hP hD hS 0 rfl rfl 1 (by decide) fl_13 (fun _ h9 => h9) rfl (by decide +kernel) rfl rfl (Nat.le_of_ble_eq_true rfl) dX5_accept_126 (fun H locs hP hD hS => ?_)
                have hP : va_P D vwCl [(u, .inr (5, [_, _, _]))] H := hP
                have hD : va_D A [(u, .inr (5, [_, _, _]))] := hD
                refine lv_goto (tgt := 134) hx hb dX5_accept_129 (by decide) ?_
                refine lv_aload_n hx hb dX5_accept_134 rfl (lv_at hl 0 rfl) ?_
                refine lv_dup hx hb dX5_accept_135 rfl ?_
                refine va_get (D := D) (ci := 5) (C := RX5) (T := TX5) (N := 3) hx hb hts in_X5 hown hK hP 0 rfl rfl 2 (by decide) fl_16 (fun _ h9 => h9) rfl dX5_accept_136 ?_
                refine lv_iconst (v := 1) hx hb dX5_accept_139 (by decide) ?_
                refine lv_iadd hx hb dX5_accept_140 ?_
                refine va_put (D := D) (ci := 5) (ty := .int) (C := RX5) (T := TX5) (N := 3) hx hb hts in_X5 tyX5 tyX5_ok nmX5 hown hK hP hD hS 0 rfl rfl 2 (by decide) fl_16 (fun _ h9 => h9) rfl (by decide +kernel) rfl rfl (Nat.le_of_ble_eq_true rfl) dX5_accept_141 (fun H locs hP hD hS => ?_)
                have hP : va_P D vwCl [(u, .inr (5, [_, _, _]))] H := hP
                have hD : va_D A [(u, .inr (5, [_, _, _]))] := hD
                refine lv_iconst (v := 1) hx hb dX5_accept_144 (by decide) ?_
                exact mu_zret X hP hS (by simp_all [sumA, bI]) (by simp_all [sumA, bI]) dX5_accept_145
          · refine lv_aload_n hx hb dX5_accept_76 rfl (lv_at hl 0 rfl) ?_
            refine va_get (D := D) (ci := 5) (C := RX5) (T := TX5) (N := 3) hx hb hts in_X5 hown hK hP 0 rfl rfl 0 (by decide) fl_7 (fun _ h9 => h9) rfl dX5_accept_77 ?_
            refine lv_if_ne (tgt := 103) hx hb dX5_accept_80 (by decide) (fun c_80 => ?_) (fun c_80 => ?_)
            · refine lv_aload_n hx hb dX5_accept_103 rfl (lv_at hl 0 rfl) ?_
              refine lv_iload_n hx hb dX5_accept_104 rfl (lv_at hl 1 rfl) ?_
              refine ro_V (n := 1) X hK (c_X5_fitsBelowHundred) gX5_accept_X5_fitsBelowHundred rfl (by decide +kernel) ⟨rfl, rfl⟩ ⟨Nat.le_of_ble_eq_true rfl, Nat.le_of_ble_eq_true rfl⟩ (hP.sub [0] rfl) (va_recv hK hP (ci := 5) (q0 := 0) rfl rfl) rfl hl.1 rfl (Nat.le_of_ble_eq_true rfl) dX5_accept_105 ⟨Nat.zero_le _, Nat.zero_le _⟩ ?_
              refine lv_if_ne (tgt := 119) hx hb dX5_accept_108 (by decide) (fun c_108 => ?_) (fun c_108 => ?_)
              · replace c_108 := bI_n0.mp c_108
                refine lv_aload_n hx hb dX5_accept_119 rfl (lv_at hl 0 rfl) ?_
                refine lv_dup hx hb dX5_accept_120 rfl ?_
                refine va_get (D := D) (ci := 5) (C := RX5) (T := TX5) (N := 3) hx hb hts in_X5 hown hK hP 0 rfl rfl 1 (by decide) fl_13 (fun _ h9 => h9) rfl dX5_accept_121 ?_
                refine lv_iload_n hx hb dX5_accept_124 rfl (lv_at hl 1 rfl) ?_
                refine lv_iadd hx hb dX5_accept_125 ?_
                refine va_put (D := D) (ci := 5) (ty := .int) (C := RX5) (T := TX5) (N := 3) hx hb hts in_X5 tyX5 tyX5_ok nmX5 hown hK hP hD hS 0 rfl rfl 1 (by decide) fl_13 (fun _ h9 => h9) rfl (by decide +kernel) rfl rfl (Nat.le_of_ble_eq_true rfl) dX5_accept_126 (fun H locs hP hD hS => ?_)
                have hP : va_P D vwCl [(u, .inr (5, [_, _, _]))] H := hP
                have hD : va_D A [(u, .inr (5, [_, _, _]))] := hD
                refine lv_goto (tgt := 134) hx hb dX5_accept_129 (by decide) ?_
                refine lv_aload_n hx hb dX5_accept_134 rfl (lv_at hl 0 rfl) ?_
                refine lv_dup hx hb dX5_accept_135 rfl ?_
                refine va_get (D := D) (ci := 5) (C := RX5) (T := TX5) (N := 3) hx hb hts in_X5 hown hK hP 0 rfl rfl 2 (by decide) fl_16 (fun _ h9 => h9) rfl dX5_accept_136 ?_
                refine lv_iconst (v := 1) hx hb dX5_accept_139 (by decide) ?_
                refine lv_iadd hx hb dX5_accept_140 ?_
                refine va_put (D := D) (ci := 5) (ty := .int) (C := RX5) (T := TX5) (N := 3) hx hb hts in_X5 tyX5 tyX5_ok nmX5 hown hK hP hD hS 0 rfl rfl 2 (by decide) fl_16 (fun _ h9 => h9) rfl (by decide +kernel) rfl rfl (Nat.le_of_ble_eq_true rfl) dX5_accept_141 (fun H locs hP hD hS => ?_)
                have hP : va_P D vwCl [(u, .inr (5, [_, _, _]))] H := hP
                have hD : va_D A [(u, .inr (5, [_, _, _]))] := hD
                refine lv_iconst (v := 1) hx hb dX5_accept_144 (by decide) ?_
                exact mu_zret X hP hS (by simp_all [sumA, bI]) (by simp_all [sumA, bI]) dX5_accept_145
              · replace c_108 := bI_0.mp c_108
                refine lv_aload_n hx hb dX5_accept_111 rfl (lv_at hl 0 rfl) ?_
                refine lv_iload_n hx hb dX5_accept_112 rfl (lv_at hl 1 rfl) ?_
                refine ro_V (n := 1) X hK (c_X5_fitsBelowTen) gX5_accept_X5_fitsBelowTen rfl (by decide +kernel) ⟨rfl, rfl⟩ ⟨Nat.le_of_ble_eq_true rfl, Nat.le_of_ble_eq_true rfl⟩ (hP.sub [0] rfl) (va_recv hK hP (ci := 5) (q0 := 0) rfl rfl) rfl hl.1 rfl (Nat.le_of_ble_eq_true rfl) dX5_accept_113 ⟨Nat.zero_le _, Nat.zero_le _⟩ ?_
                refine lv_if_eq (tgt := 132) hx hb dX5_accept_116 (by decide) (fun c_116 => ?_) (fun c_116 => ?_)
                · replace c_116 := bI_0.mp c_116
                  refine lv_iconst (v := 0) hx hb dX5_accept_132 (by decide) ?_
                  exact mu_zret X hP hS (by simp_all [sumA, bI]) (by simp_all [sumA, bI]) dX5_accept_133
                · replace c_116 := bI_n0.mp c_116
                  refine lv_aload_n hx hb dX5_accept_119 rfl (lv_at hl 0 rfl) ?_
                  refine lv_dup hx hb dX5_accept_120 rfl ?_
                  refine va_get (D := D) (ci := 5) (C := RX5) (T := TX5) (N := 3) hx hb hts in_X5 hown hK hP 0 rfl rfl 1 (by decide) fl_13 (fun _ h9 => h9) rfl dX5_accept_121 ?_
                  refine lv_iload_n hx hb dX5_accept_124 rfl (lv_at hl 1 rfl) ?_
                  refine lv_iadd hx hb dX5_accept_125 ?_
                  refine va_put (D := D) (ci := 5) (ty := .int) (C := RX5) (T := TX5) (N := 3) hx hb hts in_X5 tyX5 tyX5_ok nmX5 hown hK hP hD hS 0 rfl rfl 1 (by decide) fl_13 (fun _ h9 => h9) rfl (by decide +kernel) rfl rfl (Nat.le_of_ble_eq_true rfl) dX5_accept_126 (fun H locs hP hD hS => ?_)
                  have hP : va_P D vwCl [(u, .inr (5, [_, _, _]))] H := hP
                  have hD : va_D A [(u, .inr (5, [_, _, _]))] := hD
                  refine lv_goto (tgt := 134) hx hb dX5_accept_129 (by decide) ?_
                  refine lv_aload_n hx hb dX5_accept_134 rfl (lv_at hl 0 rfl) ?_
                  refine lv_dup hx hb dX5_accept_135 rfl ?_
                  refine va_get (D := D) (ci := 5) (C := RX5) (T := TX5) (N := 3) hx hb hts in_X5 hown hK hP 0 rfl rfl 2 (by decide) fl_16 (fun _ h9 => h9) rfl dX5_accept_136 ?_
                  refine lv_iconst (v := 1) hx hb dX5_accept_139 (by decide) ?_
                  refine lv_iadd hx hb dX5_accept_140 ?_
                  refine va_put (D := D) (ci := 5) (ty := .int) (C := RX5) (T := TX5) (N := 3) hx hb hts in_X5 tyX5 tyX5_ok nmX5 hown hK hP hD hS 0 rfl rfl 2 (by decide) fl_16 (fun _ h9 => h9) rfl (by decide +kernel) rfl rfl (Nat.le_of_ble_eq_true rfl) dX5_accept_141 (fun H locs hP hD hS => ?_)
                  have hP : va_P D vwCl [(u, .inr (5, [_, _, _]))] H := hP
                  have hD : va_D A [(u, .inr (5, [_, _, _]))] := hD
                  refine lv_iconst (v := 1) hx hb dX5_accept_144 (by decide) ?_
                  exact mu_zret X hP hS (by simp_all [sumA, bI]) (by simp_all [sumA, bI]) dX5_accept_145
            · refine lv_aload_n hx hb dX5_accept_83 rfl (lv_at hl 0 rfl) ?_
              refine lv_sipush (v := 1000) hx hb dX5_accept_84 (by decide) ?_
              refine lv_aload_n hx hb dX5_accept_87 rfl (lv_at hl 0 rfl) ?_
              refine va_get (D := D) (ci := 5) (C := RX5) (T := TX5) (N := 3) hx hb hts in_X5 hown hK hP 0 rfl rfl 1 (by decide) fl_13 (fun _ h9 => h9) rfl dX5_accept_88 ?_
              refine lv_imul hx hb dX5_accept_91 ?_
              refine va_put (D := D) (ci := 5) (ty := .int) (C := RX5) (T := TX5) (N := 3) hx hb hts in_X5 tyX5 tyX5_ok nmX5 hown hK hP hD hS 0 rfl rfl 0 (by decide) fl_7 (fun _ h9 => h9) rfl (by decide +kernel) rfl rfl (Nat.le_of_ble_eq_true rfl) dX5_accept_92 (fun H locs hP hD hS => ?_)
              have hP : va_P D vwCl [(u, .inr (5, [_, _, _]))] H := hP
              have hD : va_D A [(u, .inr (5, [_, _, _]))] := hD
              refine lv_aload_n hx hb dX5_accept_95 rfl (lv_at hl 0 rfl) ?_
              refine lv_iconst (v := 0) hx hb dX5_accept_96 (by decide) ?_
              refine va_put (D := D) (ci := 5) (ty := .int) (C := RX5) (T := TX5) (N := 3) hx hb hts in_X5 tyX5 tyX5_ok nmX5 hown hK hP hD hS 0 rfl rfl 1 (by decide) fl_13 (fun _ h9 => h9) rfl (by decide +kernel) rfl rfl (Nat.le_of_ble_eq_true rfl) dX5_accept_97 (fun H locs hP hD hS => ?_)
              have hP : va_P D vwCl [(u, .inr (5, [_, _, _]))] H := hP
              have hD : va_D A [(u, .inr (5, [_, _, _]))] := hD
              refine lv_goto (tgt := 134) hx hb dX5_accept_100 (by decide) ?_
              refine lv_aload_n hx hb dX5_accept_134 rfl (lv_at hl 0 rfl) ?_
              refine lv_dup hx hb dX5_accept_135 rfl ?_
              refine va_get (D := D) (ci := 5) (C := RX5) (T := TX5) (N := 3) hx hb hts in_X5 hown hK hP 0 rfl rfl 2 (by decide) fl_16 (fun _ h9 => h9) rfl dX5_accept_136 ?_
              refine lv_iconst (v := 1) hx hb dX5_accept_139 (by decide) ?_
              refine lv_iadd hx hb dX5_accept_140 ?_
              refine va_put (D := D) (ci := 5) (ty := .int) (C := RX5) (T := TX5) (N := 3) hx hb hts in_X5 tyX5 tyX5_ok nmX5 hown hK hP hD hS 0 rfl rfl 2 (by decide) fl_16 (fun _ h9 => h9) rfl (by decide +kernel) rfl rfl (Nat.le_of_ble_eq_true rfl) dX5_accept_141 (fun H locs hP hD hS => ?_)
              have hP : va_P D vwCl [(u, .inr (5, [_, _, _]))] H := hP
              have hD : va_D A [(u, .inr (5, [_, _, _]))] := hD
              refine lv_iconst (v := 1) hx hb dX5_accept_144 (by decide) ?_
              exact mu_zret X hP hS (by simp_all [sumA, bI]) (by simp_all [sumA, bI]) dX5_accept_145
    · refine lv_aload_n hx hb dX5_accept_20 rfl (lv_at hl 0 rfl) ?_
      refine va_get (D := D) (ci := 5) (C := RX5) (T := TX5) (N := 3) hx hb hts in_X5 hown hK hP 0 rfl rfl 1 (by decide) fl_13 (fun _ h9 => h9) rfl dX5_accept_21 ?_
      refine lv_iconst (v := 1) hx hb dX5_accept_24 (by decide) ?_
      refine lv_icmp_lt (tgt := 51) hx hb dX5_accept_25 (by decide) (fun c_25 => ?_) (fun c_25 => ?_)
      · refine lv_iload_n hx hb dX5_accept_51 rfl (lv_at hl 1 rfl) ?_
        refine lv_sipush (v := 1000) hx hb dX5_accept_52 (by decide) ?_
        refine lv_icmp_ne (tgt := 103) hx hb dX5_accept_55 (by decide) (fun c_55 => ?_) (fun c_55 => ?_)
        · refine lv_aload_n hx hb dX5_accept_103 rfl (lv_at hl 0 rfl) ?_
          refine lv_iload_n hx hb dX5_accept_104 rfl (lv_at hl 1 rfl) ?_
          refine ro_V (n := 1) X hK (c_X5_fitsBelowHundred) gX5_accept_X5_fitsBelowHundred rfl (by decide +kernel) ⟨rfl, rfl⟩ ⟨Nat.le_of_ble_eq_true rfl, Nat.le_of_ble_eq_true rfl⟩ (hP.sub [0] rfl) (va_recv hK hP (ci := 5) (q0 := 0) rfl rfl) rfl hl.1 rfl (Nat.le_of_ble_eq_true rfl) dX5_accept_105 ⟨Nat.zero_le _, Nat.zero_le _⟩ ?_
          refine lv_if_ne (tgt := 119) hx hb dX5_accept_108 (by decide) (fun c_108 => ?_) (fun c_108 => ?_)
          · replace c_108 := bI_n0.mp c_108
            refine lv_aload_n hx hb dX5_accept_119 rfl (lv_at hl 0 rfl) ?_
            refine lv_dup hx hb dX5_accept_120 rfl ?_
            refine va_get (D := D) (ci := 5) (C := RX5) (T := TX5) (N := 3) hx hb hts in_X5 hown hK hP 0 rfl rfl 1 (by decide) fl_13 (fun _ h9 => h9) rfl dX5_accept_121 ?_
            refine lv_iload_n hx hb dX5_accept_124 rfl (lv_at hl 1 rfl) ?_
            refine lv_iadd hx hb dX5_accept_125 ?_
            refine va_put (D := D) (ci := 5) (ty := .int) (C := RX5) (T := TX5) (N := 3) hx hb hts in_X5 tyX5 tyX5_ok nmX5 hown hK hP hD hS 0 rfl rfl 1 (by decide) fl_13 (fun _ h9 => h9) rfl (by decide +kernel) rfl rfl (Nat.le_of_ble_eq_true rfl) dX5_accept_126 (fun H locs hP hD hS => ?_)
            have hP : va_P D vwCl [(u, .inr (5, [_, _, _]))] H := hP
            have hD : va_D A [(u, .inr (5, [_, _, _]))] := hD
            refine lv_goto (tgt := 134) hx hb dX5_accept_129 (by decide) ?_
            refine lv_aload_n hx hb dX5_accept_134 rfl (lv_at hl 0 rfl) ?_
            refine lv_dup hx hb dX5_accept_135 rfl ?_
            refine va_get (D := D) (ci := 5) (C := RX5) (T := TX5) (N := 3) hx hb hts in_X5 hown hK hP 0 rfl rfl 2 (by decide) fl_16 (fun _ h9 => h9) rfl dX5_accept_136 ?_
            refine lv_iconst (v := 1) hx hb dX5_accept_139 (by decide) ?_
            refine lv_iadd hx hb dX5_accept_140 ?_
            refine va_put (D := D) (ci := 5) (ty := .int) (C := RX5) (T := TX5) (N := 3) hx hb hts in_X5 tyX5 tyX5_ok nmX5 hown hK hP hD hS 0 rfl rfl 2 (by decide) fl_16 (fun _ h9 => h9) rfl (by decide +kernel) rfl rfl (Nat.le_of_ble_eq_true rfl) dX5_accept_141 (fun H locs hP hD hS => ?_)
            have hP : va_P D vwCl [(u, .inr (5, [_, _, _]))] H := hP
            have hD : va_D A [(u, .inr (5, [_, _, _]))] := hD
            refine lv_iconst (v := 1) hx hb dX5_accept_144 (by decide) ?_
            exact mu_zret X hP hS (by simp_all [sumA, bI]) (by simp_all [sumA, bI]) dX5_accept_145
          · replace c_108 := bI_0.mp c_108
            refine lv_aload_n hx hb dX5_accept_111 rfl (lv_at hl 0 rfl) ?_
            refine lv_iload_n hx hb dX5_accept_112 rfl (lv_at hl 1 rfl) ?_
            refine ro_V (n := 1) X hK (c_X5_fitsBelowTen) gX5_accept_X5_fitsBelowTen rfl (by decide +kernel) ⟨rfl, rfl⟩ ⟨Nat.le_of_ble_eq_true rfl, Nat.le_of_ble_eq_true rfl⟩ (hP.sub [0] rfl) (va_recv hK hP (ci := 5) (q0 := 0) rfl rfl) rfl hl.1 rfl (Nat.le_of_ble_eq_true rfl) dX5_accept_113 ⟨Nat.zero_le _, Nat.zero_le _⟩ ?_
            refine lv_if_eq (tgt := 132) hx hb dX5_accept_116 (by decide) (fun c_116 => ?_) (fun c_116 => ?_)
            · replace c_116 := bI_0.mp c_116
              refine lv_iconst (v := 0) hx hb dX5_accept_132 (by decide) ?_
              exact mu_zret X hP hS (by simp_all [sumA, bI]) (by simp_all [sumA, bI]) dX5_accept_133
            · replace c_116 := bI_n0.mp c_116
              refine lv_aload_n hx hb dX5_accept_119 rfl (lv_at hl 0 rfl) ?_
              refine lv_dup hx hb dX5_accept_120 rfl ?_
              refine va_get (D := D) (ci := 5) (C := RX5) (T := TX5) (N := 3) hx hb hts in_X5 hown hK hP 0 rfl rfl 1 (by decide) fl_13 (fun _ h9 => h9) rfl dX5_accept_121 ?_
              refine lv_iload_n hx hb dX5_accept_124 rfl (lv_at hl 1 rfl) ?_
              refine lv_iadd hx hb dX5_accept_125 ?_
              refine va_put (D := D) (ci := 5) (ty := .int) (C := RX5) (T := TX5) (N := 3) hx hb hts in_X5 tyX5 tyX5_ok nmX5 hown hK hP hD hS 0 rfl rfl 1 (by decide) fl_13 (fun _ h9 => h9) rfl (by decide +kernel) rfl rfl (Nat.le_of_ble_eq_true rfl) dX5_accept_126 (fun H locs hP hD hS => ?_)
              have hP : va_P D vwCl [(u, .inr (5, [_, _, _]))] H := hP
              have hD : va_D A [(u, .inr (5, [_, _, _]))] := hD
              refine lv_goto (tgt := 134) hx hb dX5_accept_129 (by decide) ?_
              refine lv_aload_n hx hb dX5_accept_134 rfl (lv_at hl 0 rfl) ?_
              refine lv_dup hx hb dX5_accept_135 rfl ?_
              refine va_get (D := D) (ci := 5) (C := RX5) (T := TX5) (N := 3) hx hb hts in_X5 hown hK hP 0 rfl rfl 2 (by decide) fl_16 (fun _ h9 => h9) rfl dX5_accept_136 ?_
              refine lv_iconst (v := 1) hx hb dX5_accept_139 (by decide) ?_
              refine lv_iadd hx hb dX5_accept_140 ?_
              refine va_put (D := D) (ci := 5) (ty := .int) (C := RX5) (T := TX5) (N := 3) hx hb hts in_X5 tyX5 tyX5_ok nmX5 hown hK hP hD hS 0 rfl rfl 2 (by decide) fl_16 (fun _ h9 => h9) rfl (by decide +kernel) rfl rfl (Nat.le_of_ble_eq_true rfl) dX5_accept_141 (fun H locs hP hD hS => ?_)
              have hP : va_P D vwCl [(u, .inr (5, [_, _, _]))] H := hP
              have hD : va_D A [(u, .inr (5, [_, _, _]))] := hD
              refine lv_iconst (v := 1) hx hb dX5_accept_144 (by decide) ?_
              exact mu_zret X hP hS (by simp_all [sumA, bI]) (by simp_all [sumA, bI]) dX5_accept_145
        · refine lv_aload_n hx hb dX5_accept_58 rfl (lv_at hl 0 rfl) ?_
          refine va_get (D := D) (ci := 5) (C := RX5) (T := TX5) (N := 3) hx hb hts in_X5 hown hK hP 0 rfl rfl 1 (by decide) fl_13 (fun _ h9 => h9) rfl dX5_accept_59 ?_
          refine lv_iconst (v := 1) hx hb dX5_accept_62 (by decide) ?_
          refine lv_icmp_lt (tgt := 103) hx hb dX5_accept_63 (by decide) (fun c_63 => ?_) (fun c_63 => ?_)
          · refine lv_aload_n hx hb dX5_accept_103 rfl (lv_at hl 0 rfl) ?_
            refine lv_iload_n hx hb dX5_accept_104 rfl (lv_at hl 1 rfl) ?_
            refine ro_V (n := 1) X hK (c_X5_fitsBelowHundred) gX5_accept_X5_fitsBelowHundred rfl (by decide +kernel) ⟨rfl, rfl⟩ ⟨Nat.le_of_ble_eq_true rfl, Nat.le_of_ble_eq_true rfl⟩ (hP.sub [0] rfl) (va_recv hK hP (ci := 5) (q0 := 0) rfl rfl) rfl hl.1 rfl (Nat.le_of_ble_eq_true rfl) dX5_accept_105 ⟨Nat.zero_le _, Nat.zero_le _⟩ ?_
            refine lv_if_ne (tgt := 119) hx hb dX5_accept_108 (by decide) (fun c_108 => ?_) (fun c_108 => ?_)
            · replace c_108 := bI_n0.mp c_108
              refine lv_aload_n hx hb dX5_accept_119 rfl (lv_at hl 0 rfl) ?_
              refine lv_dup hx hb dX5_accept_120 rfl ?_
              refine va_get (D := D) (ci := 5) (C := RX5) (T := TX5) (N := 3) hx hb hts in_X5 hown hK hP 0 rfl rfl 1 (by decide) fl_13 (fun _ h9 => h9) rfl dX5_accept_121 ?_
              refine lv_iload_n hx hb dX5_accept_124 rfl (lv_at hl 1 rfl) ?_
              refine lv_iadd hx hb dX5_accept_125 ?_
              refine va_put (D := D) (ci := 5) (ty := .int) (C := RX5) (T := TX5) (N := 3) hx hb hts in_X5 tyX5 tyX5_ok nmX5 hown hK hP hD hS 0 rfl rfl 1 (by decide) fl_13 (fun _ h9 => h9) rfl (by decide +kernel) rfl rfl (Nat.le_of_ble_eq_true rfl) dX5_accept_126 (fun H locs hP hD hS => ?_)
              have hP : va_P D vwCl [(u, .inr (5, [_, _, _]))] H := hP
              have hD : va_D A [(u, .inr (5, [_, _, _]))] := hD
              refine lv_goto (tgt := 134) hx hb dX5_accept_129 (by decide) ?_
              refine lv_aload_n hx hb dX5_accept_134 rfl (lv_at hl 0 rfl) ?_
              refine lv_dup hx hb dX5_accept_135 rfl ?_
              refine va_get (D := D) (ci := 5) (C := RX5) (T := TX5) (N := 3) hx hb hts in_X5 hown hK hP 0 rfl rfl 2 (by decide) fl_16 (fun _ h9 => h9) rfl dX5_accept_136 ?_
              refine lv_iconst (v := 1) hx hb dX5_accept_139 (by decide) ?_
              refine lv_iadd hx hb dX5_accept_140 ?_
              refine va_put (D := D) (ci := 5) (ty := .int) (C := RX5) (T := TX5) (N := 3) hx hb hts in_X5 tyX5 tyX5_ok nmX5 hown hK hP hD hS 0 rfl rfl 2 (by decide) fl_16 (fun _ h9 => h9) rfl (by decide +kernel) rfl rfl (Nat.le_of_ble_eq_true rfl) dX5_accept_141 (fun H locs hP hD hS => ?_)
              have hP : va_P D vwCl [(u, .inr (5, [_, _, _]))] H := hP
              have hD : va_D A [(u, .inr (5, [_, _, _]))] := hD
              refine lv_iconst (v := 1) hx hb dX5_accept_144 (by decide) ?_
              exact mu_zret X hP hS (by simp_all [sumA, bI]) (by simp_all [sumA, bI]) dX5_accept_145
            · replace c_108 := bI_0.mp c_108
              refine lv_aload_n hx hb dX5_accept_111 rfl (lv_at hl 0 rfl) ?_
              refine lv_iload_n hx hb dX5_accept_112 rfl (lv_at hl 1 rfl) ?_
              refine ro_V (n := 1) X hK (c_X5_fitsBelowTen) gX5_accept_X5_fitsBelowTen rfl (by decide +kernel) ⟨rfl, rfl⟩ ⟨Nat.le_of_ble_eq_true rfl, Nat.le_of_ble_eq_true rfl⟩ (hP.sub [0] rfl) (va_recv hK hP (ci := 5) (q0 := 0) rfl rfl) rfl hl.1 rfl (Nat.le_of_ble_eq_true rfl) dX5_accept_113 ⟨Nat.zero_le _, Nat.zero_le _⟩ ?_
              refine lv_if_eq (tgt := 132) hx hb dX5_accept_116 (by decide) (fun c_116 => ?_) (fun c_116 => ?_)
              · replace c_116 := bI_0.mp c_116
                refine lv_iconst (v := 0) hx hb dX5_accept_132 (by decide) ?_
                exact mu_zret X hP hS (by simp_all [sumA, bI]) (by simp_all [sumA, bI]) dX5_accept_133
              · replace c_116 := bI_n0.mp c_116
                refine lv_aload_n hx hb dX5_accept_119 rfl (lv_at hl 0 rfl) ?_
                refine lv_dup hx hb dX5_accept_120 rfl ?_
                refine va_get (D := D) (ci := 5) (C := RX5) (T := TX5) (N := 3) hx hb hts in_X5 hown hK hP 0 rfl rfl 1 (by decide) fl_13 (fun _ h9 => h9) rfl dX5_accept_121 ?_
                refine lv_iload_n hx hb dX5_accept_124 rfl (lv_at hl 1 rfl) ?_
                refine lv_iadd hx hb dX5_accept_125 ?_
                refine va_put (D := D) (ci := 5) (ty := .int) (C := RX5) (T := TX5) (N := 3) hx hb hts in_X5 tyX5 tyX5_ok nmX5 hown hK hP hD hS 0 rfl rfl 1 (by decide) fl_13 (fun _ h9 => h9) rfl (by decide +kernel) rfl rfl (Nat.le_of_ble_eq_true rfl) dX5_accept_126 (fun H locs hP hD hS => ?_)
                have hP : va_P D vwCl [(u, .inr (5, [_, _, _]))] H := hP
                have hD : va_D A [(u, .inr (5, [_, _, _]))] := hD
                refine lv_goto (tgt := 134) hx hb dX5_accept_129 (by decide) ?_
                refine lv_aload_n hx hb dX5_accept_134 rfl (lv_at hl 0 rfl) ?_
                refine lv_dup hx hb dX5_accept_135 rfl ?_
                refine va_get (D := D) (ci := 5) (C := RX5) (T := TX5) (N := 3) hx hb hts in_X5 hown hK hP 0 rfl rfl 2 (by decide) fl_16 (fun _ h9 => h9) rfl dX5_accept_136 ?_
                refine lv_iconst (v := 1) hx hb dX5_accept_139 (by decide) ?_
                refine lv_iadd hx hb dX5_accept_140 ?_
                refine va_put (D := D) (ci := 5) (ty := .int) (C := RX5) (T := TX5) (N := 3) hx hb hts in_X5 tyX5 tyX5_ok nmX5 hown hK hP hD hS 0 rfl rfl 2 (by decide) fl_16 (fun _ h9 => h9) rfl (by decide +kernel) rfl rfl (Nat.le_of_ble_eq_true rfl) dX5_accept_141 (fun H locs hP hD hS => ?_)
                have hP : va_P D vwCl [(u, .inr (5, [_, _, _]))] H := hP
                have hD : va_D A [(u, .inr (5, [_, _, _]))] := hD
                refine lv_iconst (v := 1) hx hb dX5_accept_144 (by decide) ?_
                exact mu_zret X hP hS (by simp_all [sumA, bI]) (by simp_all [sumA, bI]) dX5_accept_145
          · refine lv_aload_n hx hb dX5_accept_66 rfl (lv_at hl 0 rfl) ?_
            refine va_get (D := D) (ci := 5) (C := RX5) (T := TX5) (N := 3) hx hb hts in_X5 hown hK hP 0 rfl rfl 1 (by decide) fl_13 (fun _ h9 => h9) rfl dX5_accept_67 ?_
            refine lv_sipush (v := 999) hx hb dX5_accept_70 (by decide) ?_
            refine lv_icmp_gt (tgt := 103) hx hb dX5_accept_73 (by decide) (fun c_73 => ?_) (fun c_73 => ?_)
            · refine lv_aload_n hx hb dX5_accept_103 rfl (lv_at hl 0 rfl) ?_
              refine lv_iload_n hx hb dX5_accept_104 rfl (lv_at hl 1 rfl) ?_
              refine ro_V (n := 1) X hK (c_X5_fitsBelowHundred) gX5_accept_X5_fitsBelowHundred rfl (by decide +kernel) ⟨rfl, rfl⟩ ⟨Nat.le_of_ble_eq_true rfl, Nat.le_of_ble_eq_true rfl⟩ (hP.sub [0] rfl) (va_recv hK hP (ci := 5) (q0 := 0) rfl rfl) rfl hl.1 rfl (Nat.le_of_ble_eq_true rfl) dX5_accept_105 ⟨Nat.zero_le _, Nat.zero_le _⟩ ?_
              refine lv_if_ne (tgt := 119) hx hb dX5_accept_108 (by decide) (fun c_108 => ?_) (fun c_108 => ?_)
              · replace c_108 := bI_n0.mp c_108
                refine lv_aload_n hx hb dX5_accept_119 rfl (lv_at hl 0 rfl) ?_
                refine lv_dup hx hb dX5_accept_120 rfl ?_
                refine va_get (D := D) (ci := 5) (C := RX5) (T := TX5) (N := 3) hx hb hts in_X5 hown hK hP 0 rfl rfl 1 (by decide) fl_13 (fun _ h9 => h9) rfl dX5_accept_121 ?_
                refine lv_iload_n hx hb dX5_accept_124 rfl (lv_at hl 1 rfl) ?_
                refine lv_iadd hx hb dX5_accept_125 ?_
                refine va_put (D := D) (ci := 5) (ty := .int) (C := RX5) (T := TX5) (N := 3) hx hb hts in_X5 tyX5 tyX5_ok nmX5 hown hK hP hD hS 0 rfl rfl 1 (by decide) fl_13 (fun _ h9 => h9) rfl (by decide +kernel) rfl rfl (Nat.le_of_ble_eq_true rfl) dX5_accept_126 (fun H locs hP hD hS => ?_)
                have hP : va_P D vwCl [(u, .inr (5, [_, _, _]))] H := hP
                have hD : va_D A [(u, .inr (5, [_, _, _]))] := hD
                refine lv_goto (tgt := 134) hx hb dX5_accept_129 (by decide) ?_
                refine lv_aload_n hx hb dX5_accept_134 rfl (lv_at hl 0 rfl) ?_
                refine lv_dup hx hb dX5_accept_135 rfl ?_
                refine va_get (D := D) (ci := 5) (C := RX5) (T := TX5) (N := 3) hx hb hts in_X5 hown hK hP 0 rfl rfl 2 (by decide) fl_16 (fun _ h9 => h9) rfl dX5_accept_136 ?_
                refine lv_iconst (v := 1) hx hb dX5_accept_139 (by decide) ?_
                refine lv_iadd hx hb dX5_accept_140 ?_
                refine va_put (D := D) (ci := 5) (ty := .int) (C := RX5) (T := TX5) (N := 3) hx hb hts in_X5 tyX5 tyX5_ok nmX5 hown hK hP hD hS 0 rfl rfl 2 (by decide) fl_16 (fun _ h9 => h9) rfl (by decide +kernel) rfl rfl (Nat.le_of_ble_eq_true rfl) dX5_accept_141 (fun H locs hP hD hS => ?_)
                have hP : va_P D vwCl [(u, .inr (5, [_, _, _]))] H := hP
                have hD : va_D A [(u, .inr (5, [_, _, _]))] := hD
                refine lv_iconst (v := 1) hx hb dX5_accept_144 (by decide) ?_
                exact mu_zret X hP hS (by simp_all [sumA, bI]) (by simp_all [sumA, bI]) dX5_accept_145
              · replace c_108 := bI_0.mp c_108
                refine lv_aload_n hx hb dX5_accept_111 rfl (lv_at hl 0 rfl) ?_
                refine lv_iload_n hx hb dX5_accept_112 rfl (lv_at hl 1 rfl) ?_
                refine ro_V (n := 1) X hK (c_X5_fitsBelowTen) gX5_accept_X5_fitsBelowTen rfl (by decide +kernel) ⟨rfl, rfl⟩ ⟨Nat.le_of_ble_eq_true rfl, Nat.le_of_ble_eq_true rfl⟩ (hP.sub [0] rfl) (va_recv hK hP (ci := 5) (q0 := 0) rfl rfl) rfl hl.1 rfl (Nat.le_of_ble_eq_true rfl) dX5_accept_113 ⟨Nat.zero_le _, Nat.zero_le _⟩ ?_
                refine lv_if_eq (tgt := 132) hx hb dX5_accept_116 (by decide) (fun c_116 => ?_) (fun c_116 => ?_)
                · replace c_116 := bI_0.mp c_116
                  refine lv_iconst (v := 0) hx hb dX5_accept_132 (by decide) ?_
                  exact mu_zret X hP hS (by simp_all [sumA, bI]) (by simp_all [sumA, bI]) dX5_accept_133
                · replace c_116 := bI_n0.mp c_116
                  refine lv_aload_n hx hb dX5_accept_119 rfl (lv_at hl 0 rfl) ?_
                  refine lv_dup hx hb dX5_accept_120 rfl ?_
                  refine va_get (D := D) (ci := 5) (C := RX5) (T := TX5) (N := 3) hx hb hts in_X5 hown hK hP 0 rfl rfl 1 (by decide) fl_13 (fun _ h9 => h9) rfl dX5_accept_121 ?_
                  refine lv_iload_n hx hb dX5_accept_124 rfl (lv_at hl 1 rfl) ?_
                  refine lv_iadd hx hb dX5_accept_125 ?_
                  refine va_put (D := D) (ci := 5) (ty := .int) (C := RX5) (T := TX5) (N := 3) hx hb hts in_X5 tyX5 tyX5_ok nmX5 hown hK hP hD hS 0 rfl rfl 1 (by decide) fl_13 (fun _ h9 => h9) rfl (by decide +kernel) rfl rfl (Nat.le_of_ble_eq_true rfl) dX5_accept_126 (fun H locs hP hD hS => ?_)
                  have hP : va_P D vwCl [(u, .inr (5, [_, _, _]))] H := hP
                  have hD : va_D A [(u, .inr (5, [_, _, _]))] := hD
                  refine lv_goto (tgt := 134) hx hb dX5_accept_129 (by decide) ?_
                  refine lv_aload_n hx hb dX5_accept_134 rfl (lv_at hl 0 rfl) ?_
                  refine lv_dup hx hb dX5_accept_135 rfl ?_
                  refine va_get (D := D) (ci := 5) (C := RX5) (T := TX5) (N := 3) hx hb hts in_X5 hown hK hP 0 rfl rfl 2 (by decide) fl_16 (fun _ h9 => h9) rfl dX5_accept_136 ?_
                  refine lv_iconst (v := 1) hx hb dX5_accept_139 (by decide) ?_
                  refine lv_iadd hx hb dX5_accept_140 ?_
                  refine va_put (D := D) (ci := 5) (ty := .int) (C := RX5) (T := TX5) (N := 3) hx hb hts in_X5 tyX5 tyX5_ok nmX5 hown hK hP hD hS 0 rfl rfl 2 (by decide) fl_16 (fun _ h9 => h9) rfl (by decide +kernel) rfl rfl (Nat.le_of_ble_eq_true rfl) dX5_accept_141 (fun H locs hP hD hS => ?_)
                  have hP : va_P D vwCl [(u, .inr (5, [_, _, _]))] H := hP
                  have hD : va_D A [(u, .inr (5, [_, _, _]))] := hD
                  refine lv_iconst (v := 1) hx hb dX5_accept_144 (by decide) ?_
                  exact mu_zret X hP hS (by simp_all [sumA, bI]) (by simp_all [sumA, bI]) dX5_accept_145
            · refine lv_aload_n hx hb dX5_accept_76 rfl (lv_at hl 0 rfl) ?_
              refine va_get (D := D) (ci := 5) (C := RX5) (T := TX5) (N := 3) hx hb hts in_X5 hown hK hP 0 rfl rfl 0 (by decide) fl_7 (fun _ h9 => h9) rfl dX5_accept_77 ?_
              refine lv_if_ne (tgt := 103) hx hb dX5_accept_80 (by decide) (fun c_80 => ?_) (fun c_80 => ?_)
              · refine lv_aload_n hx hb dX5_accept_103 rfl (lv_at hl 0 rfl) ?_
                refine lv_iload_n hx hb dX5_accept_104 rfl (lv_at hl 1 rfl) ?_
                refine ro_V (n := 1) X hK (c_X5_fitsBelowHundred) gX5_accept_X5_fitsBelowHundred rfl (by decide +kernel) ⟨rfl, rfl⟩ ⟨Nat.le_of_ble_eq_true rfl, Nat.le_of_ble_eq_true rfl⟩ (hP.sub [0] rfl) (va_recv hK hP (ci := 5) (q0 := 0) rfl rfl) rfl hl.1 rfl (Nat.le_of_ble_eq_true rfl) dX5_accept_105 ⟨Nat.zero_le _, Nat.zero_le _⟩ ?_
                refine lv_if_ne (tgt := 119) hx hb dX5_accept_108 (by decide) (fun c_108 => ?_) (fun c_108 => ?_)
                · replace c_108 := bI_n0.mp c_108
                  refine lv_aload_n hx hb dX5_accept_119 rfl (lv_at hl 0 rfl) ?_
                  refine lv_dup hx hb dX5_accept_120 rfl ?_
                  refine va_get (D := D) (ci := 5) (C := RX5) (T := TX5) (N := 3) hx hb hts in_X5 hown hK hP 0 rfl rfl 1 (by decide) fl_13 (fun _ h9 => h9) rfl dX5_accept_121 ?_
                  refine lv_iload_n hx hb dX5_accept_124 rfl (lv_at hl 1 rfl) ?_
                  refine lv_iadd hx hb dX5_accept_125 ?_
                  refine va_put (D := D) (ci := 5) (ty := .int) (C := RX5) (T := TX5) (N := 3) hx hb hts in_X5 tyX5 tyX5_ok nmX5 hown hK hP hD hS 0 rfl rfl 1 (by decide) fl_13 (fun _ h9 => h9) rfl (by decide +kernel) rfl rfl (Nat.le_of_ble_eq_true rfl) dX5_accept_126 (fun H locs hP hD hS => ?_)
                  have hP : va_P D vwCl [(u, .inr (5, [_, _, _]))] H := hP
                  have hD : va_D A [(u, .inr (5, [_, _, _]))] := hD
                  refine lv_goto (tgt := 134) hx hb dX5_accept_129 (by decide) ?_
                  refine lv_aload_n hx hb dX5_accept_134 rfl (lv_at hl 0 rfl) ?_
                  refine lv_dup hx hb dX5_accept_135 rfl ?_
                  refine va_get (D := D) (ci := 5) (C := RX5) (T := TX5) (N := 3) hx hb hts in_X5 hown hK hP 0 rfl rfl 2 (by decide) fl_16 (fun _ h9 => h9) rfl dX5_accept_136 ?_
                  refine lv_iconst (v := 1) hx hb dX5_accept_139 (by decide) ?_
                  refine lv_iadd hx hb dX5_accept_140 ?_
                  refine va_put (D := D) (ci := 5) (ty := .int) (C := RX5) (T := TX5) (N := 3) hx hb hts in_X5 tyX5 tyX5_ok nmX5 hown hK hP hD hS 0 rfl rfl 2 (by decide) fl_16 (fun _ h9 => h9) rfl (by decide +kernel) rfl rfl (Nat.le_of_ble_eq_true rfl) dX5_accept_141 (fun H locs hP hD hS => ?_)
                  have hP : va_P D vwCl [(u, .inr (5, [_, _, _]))] H := hP
                  have hD : va_D A [(u, .inr (5, [_, _, _]))] := hD
                  refine lv_iconst (v := 1) hx hb dX5_accept_144 (by decide) ?_
                  exact mu_zret X hP hS (by simp_all [sumA, bI]) (by simp_all [sumA, bI]) dX5_accept_145
                · replace c_108 := bI_0.mp c_108
                  refine lv_aload_n hx hb dX5_accept_111 rfl (lv_at hl 0 rfl) ?_
                  refine lv_iload_n hx hb dX5_accept_112 rfl (lv_at hl 1 rfl) ?_
                  refine ro_V (n := 1) X hK (c_X5_fitsBelowTen) gX5_accept_X5_fitsBelowTen rfl (by decide +kernel) ⟨rfl, rfl⟩ ⟨Nat.le_of_ble_eq_true rfl, Nat.le_of_ble_eq_true rfl⟩ (hP.sub [0] rfl) (va_recv hK hP (ci := 5) (q0 := 0) rfl rfl) rfl hl.1 rfl (Nat.le_of_ble_eq_true rfl) dX5_accept_113 ⟨Nat.zero_le _, Nat.zero_le _⟩ ?_
                  refine lv_if_eq (tgt := 132) hx hb dX5_accept_116 (by decide) (fun c_116 => ?_) (fun c_116 => ?_)
                  · replace c_116 := bI_0.mp c_116
                    refine lv_iconst (v := 0) hx hb dX5_accept_132 (by decide) ?_
                    exact mu_zret X hP hS (by simp_all [sumA, bI]) (by simp_all [sumA, bI]) dX5_accept_133
                  · replace c_116 := bI_n0.mp c_116
                    refine lv_aload_n hx hb dX5_accept_119 rfl (lv_at hl 0 rfl) ?_
                    refine lv_dup hx hb dX5_accept_120 rfl ?_
                    refine va_get (D := D) (ci := 5) (C := RX5) (T := TX5) (N := 3) hx hb hts in_X5 hown hK hP 0 rfl rfl 1 (by decide) fl_13 (fun _ h9 => h9) rfl dX5_accept_121 ?_
                    refine lv_iload_n hx hb dX5_accept_124 rfl (lv_at hl 1 rfl) ?_
                    refine lv_iadd hx hb dX5_accept_125 ?_
                    refine va_put (D := D) (ci := 5) (ty := .int) (C := RX5) (T := TX5) (N := 3) hx hb hts in_X5 tyX5 tyX5_ok nmX5 hown hK hP hD hS 0 rfl rfl 1 (by decide) fl_13 (fun _ h9 => h9) rfl (by decide +kernel) rfl rfl (Nat.le_of_ble_eq_true rfl) dX5_accept_126 (fun H locs hP hD hS => ?_)
                    have hP : va_P D vwCl [(u, .inr (5, [_, _, _]))] H := hP
                    have hD : va_D A [(u, .inr (5, [_, _, _]))] := hD
                    refine lv_goto (tgt := 134) hx hb dX5_accept_129 (by decide) ?_
                    refine lv_aload_n hx hb dX5_accept_134 rfl (lv_at hl 0 rfl) ?_
                    refine lv_dup hx hb dX5_accept_135 rfl ?_
                    refine va_get (D := D) (ci := 5) (C := RX5) (T := TX5) (N := 3) hx hb hts in_X5 hown hK hP 0 rfl rfl 2 (by decide) fl_16 (fun _ h9 => h9) rfl dX5_accept_136 ?_
                    refine lv_iconst (v := 1) hx hb dX5_accept_139 (by decide) ?_
                    refine lv_iadd hx hb dX5_accept_140 ?_
                    refine va_put (D := D) (ci := 5) (ty := .int) (C := RX5) (T := TX5) (N := 3) hx hb hts in_X5 tyX5 tyX5_ok nmX5 hown hK hP hD hS 0 rfl rfl 2 (by decide) fl_16 (fun _ h9 => h9) rfl (by decide +kernel) rfl rfl (Nat.le_of_ble_eq_true rfl) dX5_accept_141 (fun H locs hP hD hS => ?_)
                    have hP : va_P D vwCl [(u, .inr (5, [_, _, _]))] H := hP
                    have hD : va_D A [(u, .inr (5, [_, _, _]))] := hD
                    refine lv_iconst (v := 1) hx hb dX5_accept_144 (by decide) ?_
                    exact mu_zret X hP hS (by simp_all [sumA, bI]) (by simp_all [sumA, bI]) dX5_accept_145
              · refine lv_aload_n hx hb dX5_accept_83 rfl (lv_at hl 0 rfl) ?_
                refine lv_sipush (v := 1000) hx hb dX5_accept_84 (by decide) ?_
                refine lv_aload_n hx hb dX5_accept_87 rfl (lv_at hl 0 rfl) ?_
                refine va_get (D := D) (ci := 5) (C := RX5) (T := TX5) (N := 3) hx hb hts in_X5 hown hK hP 0 rfl rfl 1 (by decide) fl_13 (fun _ h9 => h9) rfl dX5_accept_88 ?_
                refine lv_imul hx hb dX5_accept_91 ?_
                refine va_put (D := D) (ci := 5) (ty := .int) (C := RX5) (T := TX5) (N := 3) hx hb hts in_X5 tyX5 tyX5_ok nmX5 hown hK hP hD hS 0 rfl rfl 0 (by decide) fl_7 (fun _ h9 => h9) rfl (by decide +kernel) rfl rfl (Nat.le_of_ble_eq_true rfl) dX5_accept_92 (fun H locs hP hD hS => ?_)
                have hP : va_P D vwCl [(u, .inr (5, [_, _, _]))] H := hP
                have hD : va_D A [(u, .inr (5, [_, _, _]))] := hD
                refine lv_aload_n hx hb dX5_accept_95 rfl (lv_at hl 0 rfl) ?_
                refine lv_iconst (v := 0) hx hb dX5_accept_96 (by decide) ?_
                refine va_put (D := D) (ci := 5) (ty := .int) (C := RX5) (T := TX5) (N := 3) hx hb hts in_X5 tyX5 tyX5_ok nmX5 hown hK hP hD hS 0 rfl rfl 1 (by decide) fl_13 (fun _ h9 => h9) rfl (by decide +kernel) rfl rfl (Nat.le_of_ble_eq_true rfl) dX5_accept_97 (fun H locs hP hD hS => ?_)
                have hP : va_P D vwCl [(u, .inr (5, [_, _, _]))] H := hP
                have hD : va_D A [(u, .inr (5, [_, _, _]))] := hD
                refine lv_goto (tgt := 134) hx hb dX5_accept_100 (by decide) ?_
                refine lv_aload_n hx hb dX5_accept_134 rfl (lv_at hl 0 rfl) ?_
                refine lv_dup hx hb dX5_accept_135 rfl ?_
                refine va_get (D := D) (ci := 5) (C := RX5) (T := TX5) (N := 3) hx hb hts in_X5 hown hK hP 0 rfl rfl 2 (by decide) fl_16 (fun _ h9 => h9) rfl dX5_accept_136 ?_
                refine lv_iconst (v := 1) hx hb dX5_accept_139 (by decide) ?_
                refine lv_iadd hx hb dX5_accept_140 ?_
                refine va_put (D := D) (ci := 5) (ty := .int) (C := RX5) (T := TX5) (N := 3) hx hb hts in_X5 tyX5 tyX5_ok nmX5 hown hK hP hD hS 0 rfl rfl 2 (by decide) fl_16 (fun _ h9 => h9) rfl (by decide +kernel) rfl rfl (Nat.le_of_ble_eq_true rfl) dX5_accept_141 (fun H locs hP hD hS => ?_)
                have hP : va_P D vwCl [(u, .inr (5, [_, _, _]))] H := hP
                have hD : va_D A [(u, .inr (5, [_, _, _]))] := hD
                refine lv_iconst (v := 1) hx hb dX5_accept_144 (by decide) ?_
                exact mu_zret X hP hS (by simp_all [sumA, bI]) (by simp_all [sumA, bI]) dX5_accept_145
      · refine lv_aload_n hx hb dX5_accept_28 rfl (lv_at hl 0 rfl) ?_
        refine va_get (D := D) (ci := 5) (C := RX5) (T := TX5) (N := 3) hx hb hts in_X5 hown hK hP 0 rfl rfl 1 (by decide) fl_13 (fun _ h9 => h9) rfl dX5_accept_29 ?_
        refine lv_bipush (v := 9) hx hb dX5_accept_32 (by decide) ?_
        refine lv_icmp_gt (tgt := 51) hx hb dX5_accept_34 (by decide) (fun c_34 => ?_) (fun c_34 => ?_)
        · refine lv_iload_n hx hb dX5_accept_51 rfl (lv_at hl 1 rfl) ?_
          refine lv_sipush (v := 1000) hx hb dX5_accept_52 (by decide) ?_
          refine lv_icmp_ne (tgt := 103) hx hb dX5_accept_55 (by decide) (fun c_55 => ?_) (fun c_55 => ?_)
          · refine lv_aload_n hx hb dX5_accept_103 rfl (lv_at hl 0 rfl) ?_
            refine lv_iload_n hx hb dX5_accept_104 rfl (lv_at hl 1 rfl) ?_
            refine ro_V (n := 1) X hK (c_X5_fitsBelowHundred) gX5_accept_X5_fitsBelowHundred rfl (by decide +kernel) ⟨rfl, rfl⟩ ⟨Nat.le_of_ble_eq_true rfl, Nat.le_of_ble_eq_true rfl⟩ (hP.sub [0] rfl) (va_recv hK hP (ci := 5) (q0 := 0) rfl rfl) rfl hl.1 rfl (Nat.le_of_ble_eq_true rfl) dX5_accept_105 ⟨Nat.zero_le _, Nat.zero_le _⟩ ?_
            refine lv_if_ne (tgt := 119) hx hb dX5_accept_108 (by decide) (fun c_108 => ?_) (fun c_108 => ?_)
            · replace c_108 := bI_n0.mp c_108
              refine lv_aload_n hx hb dX5_accept_119 rfl (lv_at hl 0 rfl) ?_
              refine lv_dup hx hb dX5_accept_120 rfl ?_
              refine va_get (D := D) (ci := 5) (C := RX5) (T := TX5) (N := 3) hx hb hts in_X5 hown hK hP 0 rfl rfl 1 (by decide) fl_13 (fun _ h9 => h9) rfl dX5_accept_121 ?_
              refine lv_iload_n hx hb dX5_accept_124 rfl (lv_at hl 1 rfl) ?_
              refine lv_iadd hx hb dX5_accept_125 ?_
              refine va_put (D := D) (ci := 5) (ty := .int) (C := RX5) (T := TX5) (N := 3) hx hb hts in_X5 tyX5 tyX5_ok nmX5 hown hK hP hD hS 0 rfl rfl 1 (by decide) fl_13 (fun _ h9 => h9) rfl (by decide +kernel) rfl rfl (Nat.le_of_ble_eq_true rfl) dX5_accept_126 (fun H locs hP hD hS => ?_)
              have hP : va_P D vwCl [(u, .inr (5, [_, _, _]))] H := hP
              have hD : va_D A [(u, .inr (5, [_, _, _]))] := hD
              refine lv_goto (tgt := 134) hx hb dX5_accept_129 (by decide) ?_
              refine lv_aload_n hx hb dX5_accept_134 rfl (lv_at hl 0 rfl) ?_
              refine lv_dup hx hb dX5_accept_135 rfl ?_
              refine va_get (D := D) (ci := 5) (C := RX5) (T := TX5) (N := 3) hx hb hts in_X5 hown hK hP 0 rfl rfl 2 (by decide) fl_16 (fun _ h9 => h9) rfl dX5_accept_136 ?_
              refine lv_iconst (v := 1) hx hb dX5_accept_139 (by decide) ?_
              refine lv_iadd hx hb dX5_accept_140 ?_
              refine va_put (D := D) (ci := 5) (ty := .int) (C := RX5) (T := TX5) (N := 3) hx hb hts in_X5 tyX5 tyX5_ok nmX5 hown hK hP hD hS 0 rfl rfl 2 (by decide) fl_16 (fun _ h9 => h9) rfl (by decide +kernel) rfl rfl (Nat.le_of_ble_eq_true rfl) dX5_accept_141 (fun H locs hP hD hS => ?_)
              have hP : va_P D vwCl [(u, .inr (5, [_, _, _]))] H := hP
              have hD : va_D A [(u, .inr (5, [_, _, _]))] := hD
              refine lv_iconst (v := 1) hx hb dX5_accept_144 (by decide) ?_
              exact mu_zret X hP hS (by simp_all [sumA, bI]) (by simp_all [sumA, bI]) dX5_accept_145
            · replace c_108 := bI_0.mp c_108
              refine lv_aload_n hx hb dX5_accept_111 rfl (lv_at hl 0 rfl) ?_
              refine lv_iload_n hx hb dX5_accept_112 rfl (lv_at hl 1 rfl) ?_
              refine ro_V (n := 1) X hK (c_X5_fitsBelowTen) gX5_accept_X5_fitsBelowTen rfl (by decide +kernel) ⟨rfl, rfl⟩ ⟨Nat.le_of_ble_eq_true rfl, Nat.le_of_ble_eq_true rfl⟩ (hP.sub [0] rfl) (va_recv hK hP (ci := 5) (q0 := 0) rfl rfl) rfl hl.1 rfl (Nat.le_of_ble_eq_true rfl) dX5_accept_113 ⟨Nat.zero_le _, Nat.zero_le _⟩ ?_
              refine lv_if_eq (tgt := 132) hx hb dX5_accept_116 (by decide) (fun c_116 => ?_) (fun c_116 => ?_)
              · replace c_116 := bI_0.mp c_116
                refine lv_iconst (v := 0) hx hb dX5_accept_132 (by decide) ?_
                exact mu_zret X hP hS (by simp_all [sumA, bI]) (by simp_all [sumA, bI]) dX5_accept_133
              · replace c_116 := bI_n0.mp c_116
                refine lv_aload_n hx hb dX5_accept_119 rfl (lv_at hl 0 rfl) ?_
                refine lv_dup hx hb dX5_accept_120 rfl ?_
                refine va_get (D := D) (ci := 5) (C := RX5) (T := TX5) (N := 3) hx hb hts in_X5 hown hK hP 0 rfl rfl 1 (by decide) fl_13 (fun _ h9 => h9) rfl dX5_accept_121 ?_
                refine lv_iload_n hx hb dX5_accept_124 rfl (lv_at hl 1 rfl) ?_
                refine lv_iadd hx hb dX5_accept_125 ?_
                refine va_put (D := D) (ci := 5) (ty := .int) (C := RX5) (T := TX5) (N := 3) hx hb hts in_X5 tyX5 tyX5_ok nmX5 hown hK hP hD hS 0 rfl rfl 1 (by decide) fl_13 (fun _ h9 => h9) rfl (by decide +kernel) rfl rfl (Nat.le_of_ble_eq_true rfl) dX5_accept_126 (fun H locs hP hD hS => ?_)
                have hP : va_P D vwCl [(u, .inr (5, [_, _, _]))] H := hP
                have hD : va_D A [(u, .inr (5, [_, _, _]))] := hD
                refine lv_goto (tgt := 134) hx hb dX5_accept_129 (by decide) ?_
                refine lv_aload_n hx hb dX5_accept_134 rfl (lv_at hl 0 rfl) ?_
                refine lv_dup hx hb dX5_accept_135 rfl ?_
                refine va_get (D := D) (ci := 5) (C := RX5) (T := TX5) (N := 3) hx hb hts in_X5 hown hK hP 0 rfl rfl 2 (by decide) fl_16 (fun _ h9 => h9) rfl dX5_accept_136 ?_
                refine lv_iconst (v := 1) hx hb dX5_accept_139 (by decide) ?_
                refine lv_iadd hx hb dX5_accept_140 ?_
                refine va_put (D := D) (ci := 5) (ty := .int) (C := RX5) (T := TX5) (N := 3) hx hb hts in_X5 tyX5 tyX5_ok nmX5 hown hK hP hD hS 0 rfl rfl 2 (by decide) fl_16 (fun _ h9 => h9) rfl (by decide +kernel) rfl rfl (Nat.le_of_ble_eq_true rfl) dX5_accept_141 (fun H locs hP hD hS => ?_)
                have hP : va_P D vwCl [(u, .inr (5, [_, _, _]))] H := hP
                have hD : va_D A [(u, .inr (5, [_, _, _]))] := hD
                refine lv_iconst (v := 1) hx hb dX5_accept_144 (by decide) ?_
                exact mu_zret X hP hS (by simp_all [sumA, bI]) (by simp_all [sumA, bI]) dX5_accept_145
          · refine lv_aload_n hx hb dX5_accept_58 rfl (lv_at hl 0 rfl) ?_
            refine va_get (D := D) (ci := 5) (C := RX5) (T := TX5) (N := 3) hx hb hts in_X5 hown hK hP 0 rfl rfl 1 (by decide) fl_13 (fun _ h9 => h9) rfl dX5_accept_59 ?_
            refine lv_iconst (v := 1) hx hb dX5_accept_62 (by decide) ?_
            refine lv_icmp_lt (tgt := 103) hx hb dX5_accept_63 (by decide) (fun c_63 => ?_) (fun c_63 => ?_)
            · refine lv_aload_n hx hb dX5_accept_103 rfl (lv_at hl 0 rfl) ?_
              refine lv_iload_n hx hb dX5_accept_104 rfl (lv_at hl 1 rfl) ?_
              refine ro_V (n := 1) X hK (c_X5_fitsBelowHundred) gX5_accept_X5_fitsBelowHundred rfl (by decide +kernel) ⟨rfl, rfl⟩ ⟨Nat.le_of_ble_eq_true rfl, Nat.le_of_ble_eq_true rfl⟩ (hP.sub [0] rfl) (va_recv hK hP (ci := 5) (q0 := 0) rfl rfl) rfl hl.1 rfl (Nat.le_of_ble_eq_true rfl) dX5_accept_105 ⟨Nat.zero_le _, Nat.zero_le _⟩ ?_
              refine lv_if_ne (tgt := 119) hx hb dX5_accept_108 (by decide) (fun c_108 => ?_) (fun c_108 => ?_)
              · replace c_108 := bI_n0.mp c_108
                refine lv_aload_n hx hb dX5_accept_119 rfl (lv_at hl 0 rfl) ?_
                refine lv_dup hx hb dX5_accept_120 rfl ?_
                refine va_get (D := D) (ci := 5) (C := RX5) (T := TX5) (N := 3) hx hb hts in_X5 hown hK hP 0 rfl rfl 1 (by decide) fl_13 (fun _ h9 => h9) rfl dX5_accept_121 ?_
                refine lv_iload_n hx hb dX5_accept_124 rfl (lv_at hl 1 rfl) ?_
                refine lv_iadd hx hb dX5_accept_125 ?_
                refine va_put (D := D) (ci := 5) (ty := .int) (C := RX5) (T := TX5) (N := 3) hx hb hts in_X5 tyX5 tyX5_ok nmX5 hown hK hP hD hS 0 rfl rfl 1 (by decide) fl_13 (fun _ h9 => h9) rfl (by decide +kernel) rfl rfl (Nat.le_of_ble_eq_true rfl) dX5_accept_126 (fun H locs hP hD hS => ?_)
                have hP : va_P D vwCl [(u, .inr (5, [_, _, _]))] H := hP
                have hD : va_D A [(u, .inr (5, [_, _, _]))] := hD
                refine lv_goto (tgt := 134) hx hb dX5_accept_129 (by decide) ?_
                refine lv_aload_n hx hb dX5_accept_134 rfl (lv_at hl 0 rfl) ?_
                refine lv_dup hx hb dX5_accept_135 rfl ?_
                refine va_get (D := D) (ci := 5) (C := RX5) (T := TX5) (N := 3) hx hb hts in_X5 hown hK hP 0 rfl rfl 2 (by decide) fl_16 (fun _ h9 => h9) rfl dX5_accept_136 ?_
                refine lv_iconst (v := 1) hx hb dX5_accept_139 (by decide) ?_
                refine lv_iadd hx hb dX5_accept_140 ?_
                refine va_put (D := D) (ci := 5) (ty := .int) (C := RX5) (T := TX5) (N := 3) hx hb hts in_X5 tyX5 tyX5_ok nmX5 hown hK hP hD hS 0 rfl rfl 2 (by decide) fl_16 (fun _ h9 => h9) rfl (by decide +kernel) rfl rfl (Nat.le_of_ble_eq_true rfl) dX5_accept_141 (fun H locs hP hD hS => ?_)
                have hP : va_P D vwCl [(u, .inr (5, [_, _, _]))] H := hP
                have hD : va_D A [(u, .inr (5, [_, _, _]))] := hD
                refine lv_iconst (v := 1) hx hb dX5_accept_144 (by decide) ?_
                exact mu_zret X hP hS (by simp_all [sumA, bI]) (by simp_all [sumA, bI]) dX5_accept_145
              · replace c_108 := bI_0.mp c_108
                refine lv_aload_n hx hb dX5_accept_111 rfl (lv_at hl 0 rfl) ?_
                refine lv_iload_n hx hb dX5_accept_112 rfl (lv_at hl 1 rfl) ?_
                refine ro_V (n := 1) X hK (c_X5_fitsBelowTen) gX5_accept_X5_fitsBelowTen rfl (by decide +kernel) ⟨rfl, rfl⟩ ⟨Nat.le_of_ble_eq_true rfl, Nat.le_of_ble_eq_true rfl⟩ (hP.sub [0] rfl) (va_recv hK hP (ci := 5) (q0 := 0) rfl rfl) rfl hl.1 rfl (Nat.le_of_ble_eq_true rfl) dX5_accept_113 ⟨Nat.zero_le _, Nat.zero_le _⟩ ?_
                refine lv_if_eq (tgt := 132) hx hb dX5_accept_116 (by decide) (fun c_116 => ?_) (fun c_116 => ?_)
                · replace c_116 := bI_0.mp c_116
                  refine lv_iconst (v := 0) hx hb dX5_accept_132 (by decide) ?_
                  exact mu_zret X hP hS (by simp_all [sumA, bI]) (by simp_all [sumA, bI]) dX5_accept_133
                · replace c_116 := bI_n0.mp c_116
                  refine lv_aload_n hx hb dX5_accept_119 rfl (lv_at hl 0 rfl) ?_
                  refine lv_dup hx hb dX5_accept_120 rfl ?_
                  refine va_get (D := D) (ci := 5) (C := RX5) (T := TX5) (N := 3) hx hb hts in_X5 hown hK hP 0 rfl rfl 1 (by decide) fl_13 (fun _ h9 => h9) rfl dX5_accept_121 ?_
                  refine lv_iload_n hx hb dX5_accept_124 rfl (lv_at hl 1 rfl) ?_
                  refine lv_iadd hx hb dX5_accept_125 ?_
                  refine va_put (D := D) (ci := 5) (ty := .int) (C := RX5) (T := TX5) (N := 3) hx hb hts in_X5 tyX5 tyX5_ok nmX5 hown hK hP hD hS 0 rfl rfl 1 (by decide) fl_13 (fun _ h9 => h9) rfl (by decide +kernel) rfl rfl (Nat.le_of_ble_eq_true rfl) dX5_accept_126 (fun H locs hP hD hS => ?_)
                  have hP : va_P D vwCl [(u, .inr (5, [_, _, _]))] H := hP
                  have hD : va_D A [(u, .inr (5, [_, _, _]))] := hD
                  refine lv_goto (tgt := 134) hx hb dX5_accept_129 (by decide) ?_
                  refine lv_aload_n hx hb dX5_accept_134 rfl (lv_at hl 0 rfl) ?_
                  refine lv_dup hx hb dX5_accept_135 rfl ?_
                  refine va_get (D := D) (ci := 5) (C := RX5) (T := TX5) (N := 3) hx hb hts in_X5 hown hK hP 0 rfl rfl 2 (by decide) fl_16 (fun _ h9 => h9) rfl dX5_accept_136 ?_
                  refine lv_iconst (v := 1) hx hb dX5_accept_139 (by decide) ?_
                  refine lv_iadd hx hb dX5_accept_140 ?_
                  refine va_put (D := D) (ci := 5) (ty := .int) (C := RX5) (T := TX5) (N := 3) hx hb hts in_X5 tyX5 tyX5_ok nmX5 hown hK hP hD hS 0 rfl rfl 2 (by decide) fl_16 (fun _ h9 => h9) rfl (by decide +kernel) rfl rfl (Nat.le_of_ble_eq_true rfl) dX5_accept_141 (fun H locs hP hD hS => ?_)
                  have hP : va_P D vwCl [(u, .inr (5, [_, _, _]))] H := hP
                  have hD : va_D A [(u, .inr (5, [_, _, _]))] := hD
                  refine lv_iconst (v := 1) hx hb dX5_accept_144 (by decide) ?_
                  exact mu_zret X hP hS (by simp_all [sumA, bI]) (by simp_all [sumA, bI]) dX5_accept_145
            · refine lv_aload_n hx hb dX5_accept_66 rfl (lv_at hl 0 rfl) ?_
              refine va_get (D := D) (ci := 5) (C := RX5) (T := TX5) (N := 3) hx hb hts in_X5 hown hK hP 0 rfl rfl 1 (by decide) fl_13 (fun _ h9 => h9) rfl dX5_accept_67 ?_
              refine lv_sipush (v := 999) hx hb dX5_accept_70 (by decide) ?_
              refine lv_icmp_gt (tgt := 103) hx hb dX5_accept_73 (by decide) (fun c_73 => ?_) (fun c_73 => ?_)
              · refine lv_aload_n hx hb dX5_accept_103 rfl (lv_at hl 0 rfl) ?_
                refine lv_iload_n hx hb dX5_accept_104 rfl (lv_at hl 1 rfl) ?_
                refine ro_V (n := 1) X hK (c_X5_fitsBelowHundred) gX5_accept_X5_fitsBelowHundred rfl (by decide +kernel) ⟨rfl, rfl⟩ ⟨Nat.le_of_ble_eq_true rfl, Nat.le_of_ble_eq_true rfl⟩ (hP.sub [0] rfl) (va_recv hK hP (ci := 5) (q0 := 0) rfl rfl) rfl hl.1 rfl (Nat.le_of_ble_eq_true rfl) dX5_accept_105 ⟨Nat.zero_le _, Nat.zero_le _⟩ ?_
                refine lv_if_ne (tgt := 119) hx hb dX5_accept_108 (by decide) (fun c_108 => ?_) (fun c_108 => ?_)
                · replace c_108 := bI_n0.mp c_108
                  refine lv_aload_n hx hb dX5_accept_119 rfl (lv_at hl 0 rfl) ?_
                  refine lv_dup hx hb dX5_accept_120 rfl ?_
                  refine va_get (D := D) (ci := 5) (C := RX5) (T := TX5) (N := 3) hx hb hts in_X5 hown hK hP 0 rfl rfl 1 (by decide) fl_13 (fun _ h9 => h9) rfl dX5_accept_121 ?_
                  refine lv_iload_n hx hb dX5_accept_124 rfl (lv_at hl 1 rfl) ?_
                  refine lv_iadd hx hb dX5_accept_125 ?_
                  refine va_put (D := D) (ci := 5) (ty := .int) (C := RX5) (T := TX5) (N := 3) hx hb hts in_X5 tyX5 tyX5_ok nmX5 hown hK hP hD hS 0 rfl rfl 1 (by decide) fl_13 (fun _ h9 => h9) rfl (by decide +kernel) rfl rfl (Nat.le_of_ble_eq_true rfl) dX5_accept_126 (fun H locs hP hD hS => ?_)
                  have hP : va_P D vwCl [(u, .inr (5, [_, _, _]))] H := hP
                  have hD : va_D A [(u, .inr (5, [_, _, _]))] := hD
                  refine lv_goto (tgt := 134) hx hb dX5_accept_129 (by decide) ?_
                  refine lv_aload_n hx hb dX5_accept_134 rfl (lv_at hl 0 rfl) ?_
                  refine lv_dup hx hb dX5_accept_135 rfl ?_
                  refine va_get (D := D) (ci := 5) (C := RX5) (T := TX5) (N := 3) hx hb hts in_X5 hown hK hP 0 rfl rfl 2 (by decide) fl_16 (fun _ h9 => h9) rfl dX5_accept_136 ?_
                  refine lv_iconst (v := 1) hx hb dX5_accept_139 (by decide) ?_
                  refine lv_iadd hx hb dX5_accept_140 ?_
                  refine va_put (D := D) (ci := 5) (ty := .int) (C := RX5) (T := TX5) (N := 3) hx hb hts in_X5 tyX5 tyX5_ok nmX5 hown hK hP hD hS 0 rfl rfl 2 (by decide) fl_16 (fun _ h9 => h9) rfl (by decide +kernel) rfl rfl (Nat.le_of_ble_eq_true rfl) dX5_accept_141 (fun H locs hP hD hS => ?_)
                  have hP : va_P D vwCl [(u, .inr (5, [_, _, _]))] H := hP
                  have hD : va_D A [(u, .inr (5, [_, _, _]))] := hD
                  refine lv_iconst (v := 1) hx hb dX5_accept_144 (by decide) ?_
                  exact mu_zret X hP hS (by simp_all [sumA, bI]) (by simp_all [sumA, bI]) dX5_accept_145
                · replace c_108 := bI_0.mp c_108
                  refine lv_aload_n hx hb dX5_accept_111 rfl (lv_at hl 0 rfl) ?_
                  refine lv_iload_n hx hb dX5_accept_112 rfl (lv_at hl 1 rfl) ?_
                  refine ro_V (n := 1) X hK (c_X5_fitsBelowTen) gX5_accept_X5_fitsBelowTen rfl (by decide +kernel) ⟨rfl, rfl⟩ ⟨Nat.le_of_ble_eq_true rfl, Nat.le_of_ble_eq_true rfl⟩ (hP.sub [0] rfl) (va_recv hK hP (ci := 5) (q0 := 0) rfl rfl) rfl hl.1 rfl (Nat.le_of_ble_eq_true rfl) dX5_accept_113 ⟨Nat.zero_le _, Nat.zero_le _⟩ ?_
                  refine lv_if_eq (tgt := 132) hx hb dX5_accept_116 (by decide) (fun c_116 => ?_) (fun c_116 => ?_)
                  · replace c_116 := bI_0.mp c_116
                    refine lv_iconst (v := 0) hx hb dX5_accept_132 (by decide) ?_
                    exact mu_zret X hP hS (by simp_all [sumA, bI]) (by simp_all [sumA, bI]) dX5_accept_133
                  · replace c_116 := bI_n0.mp c_116
                    refine lv_aload_n hx hb dX5_accept_119 rfl (lv_at hl 0 rfl) ?_
                    refine lv_dup hx hb dX5_accept_120 rfl ?_
                    refine va_get (D := D) (ci := 5) (C := RX5) (T := TX5) (N := 3) hx hb hts in_X5 hown hK hP 0 rfl rfl 1 (by decide) fl_13 (fun _ h9 => h9) rfl dX5_accept_121 ?_
                    refine lv_iload_n hx hb dX5_accept_124 rfl (lv_at hl 1 rfl) ?_
                    refine lv_iadd hx hb dX5_accept_125 ?_
                    refine va_put (D := D) (ci := 5) (ty := .int) (C := RX5) (T := TX5) (N := 3) hx hb hts in_X5 tyX5 tyX5_ok nmX5 hown hK hP hD hS 0 rfl rfl 1 (by decide) fl_13 (fun _ h9 => h9) rfl (by decide +kernel) rfl rfl (Nat.le_of_ble_eq_true rfl) dX5_accept_126 (fun H locs hP hD hS => ?_)
                    have hP : va_P D vwCl [(u, .inr (5, [_, _, _]))] H := hP
                    have hD : va_D A [(u, .inr (5, [_, _, _]))] := hD
                    refine lv_goto (tgt := 134) hx hb dX5_accept_129 (by decide) ?_
                    refine lv_aload_n hx hb dX5_accept_134 rfl (lv_at hl 0 rfl) ?_
                    refine lv_dup hx hb dX5_accept_135 rfl ?_
                    refine va_get (D := D) (ci := 5) (C := RX5) (T := TX5) (N := 3) hx hb hts in_X5 hown hK hP 0 rfl rfl 2 (by decide) fl_16 (fun _ h9 => h9) rfl dX5_accept_136 ?_
                    refine lv_iconst (v := 1) hx hb dX5_accept_139 (by decide) ?_
                    refine lv_iadd hx hb dX5_accept_140 ?_
                    refine va_put (D := D) (ci := 5) (ty := .int) (C := RX5) (T := TX5) (N := 3) hx hb hts in_X5 tyX5 tyX5_ok nmX5 hown hK hP hD hS 0 rfl rfl 2 (by decide) fl_16 (fun _ h9 => h9) rfl (by decide +kernel) rfl rfl (Nat.le_of_ble_eq_true rfl) dX5_accept_141 (fun H locs hP hD hS => ?_)
                    have hP : va_P D vwCl [(u, .inr (5, [_, _, _]))] H := hP
                    have hD : va_D A [(u, .inr (5, [_, _, _]))] := hD
                    refine lv_iconst (v := 1) hx hb dX5_accept_144 (by decide) ?_
                    exact mu_zret X hP hS (by simp_all [sumA, bI]) (by simp_all [sumA, bI]) dX5_accept_145
              · refine lv_aload_n hx hb dX5_accept_76 rfl (lv_at hl 0 rfl) ?_
                refine va_get (D := D) (ci := 5) (C := RX5) (T := TX5) (N := 3) hx hb hts in_X5 hown hK hP 0 rfl rfl 0 (by decide) fl_7 (fun _ h9 => h9) rfl dX5_accept_77 ?_
                refine lv_if_ne (tgt := 103) hx hb dX5_accept_80 (by decide) (fun c_80 => ?_) (fun c_80 => ?_)
                · refine lv_aload_n hx hb dX5_accept_103 rfl (lv_at hl 0 rfl) ?_
                  refine lv_iload_n hx hb dX5_accept_104 rfl (lv_at hl 1 rfl) ?_
                  refine ro_V (n := 1) X hK (c_X5_fitsBelowHundred) gX5_accept_X5_fitsBelowHundred rfl (by decide +kernel) ⟨rfl, rfl⟩ ⟨Nat.le_of_ble_eq_true rfl, Nat.le_of_ble_eq_true rfl⟩ (hP.sub [0] rfl) (va_recv hK hP (ci := 5) (q0 := 0) rfl rfl) rfl hl.1 rfl (Nat.le_of_ble_eq_true rfl) dX5_accept_105 ⟨Nat.zero_le _, Nat.zero_le _⟩ ?_
                  refine lv_if_ne (tgt := 119) hx hb dX5_accept_108 (by decide) (fun c_108 => ?_) (fun c_108 => ?_)
                  · replace c_108 := bI_n0.mp c_108
                    refine lv_aload_n hx hb dX5_accept_119 rfl (lv_at hl 0 rfl) ?_
                    refine lv_dup hx hb dX5_accept_120 rfl ?_
                    refine va_get (D := D) (ci := 5) (C := RX5) (T := TX5) (N := 3) hx hb hts in_X5 hown hK hP 0 rfl rfl 1 (by decide) fl_13 (fun _ h9 => h9) rfl dX5_accept_121 ?_
                    refine lv_iload_n hx hb dX5_accept_124 rfl (lv_at hl 1 rfl) ?_
                    refine lv_iadd hx hb dX5_accept_125 ?_
                    refine va_put (D := D) (ci := 5) (ty := .int) (C := RX5) (T := TX5) (N := 3) hx hb hts in_X5 tyX5 tyX5_ok nmX5 hown hK hP hD hS 0 rfl rfl 1 (by decide) fl_13 (fun _ h9 => h9) rfl (by decide +kernel) rfl rfl (Nat.le_of_ble_eq_true rfl) dX5_accept_126 (fun H locs hP hD hS => ?_)
                    have hP : va_P D vwCl [(u, .inr (5, [_, _, _]))] H := hP
                    have hD : va_D A [(u, .inr (5, [_, _, _]))] := hD
                    refine lv_goto (tgt := 134) hx hb dX5_accept_129 (by decide) ?_
                    refine lv_aload_n hx hb dX5_accept_134 rfl (lv_at hl 0 rfl) ?_
                    refine lv_dup hx hb dX5_accept_135 rfl ?_
                    refine va_get (D := D) (ci := 5) (C := RX5) (T := TX5) (N := 3) hx hb hts in_X5 hown hK hP 0 rfl rfl 2 (by decide) fl_16 (fun _ h9 => h9) rfl dX5_accept_136 ?_
                    refine lv_iconst (v := 1) hx hb dX5_accept_139 (by decide) ?_
                    refine lv_iadd hx hb dX5_accept_140 ?_
                    refine va_put (D := D) (ci := 5) (ty := .int) (C := RX5) (T := TX5) (N := 3) hx hb hts in_X5 tyX5 tyX5_ok nmX5 hown hK hP hD hS 0 rfl rfl 2 (by decide) fl_16 (fun _ h9 => h9) rfl (by decide +kernel) rfl rfl (Nat.le_of_ble_eq_true rfl) dX5_accept_141 (fun H locs hP hD hS => ?_)
                    have hP : va_P D vwCl [(u, .inr (5, [_, _, _]))] H := hP
                    have hD : va_D A [(u, .inr (5, [_, _, _]))] := hD
                    refine lv_iconst (v := 1) hx hb dX5_accept_144 (by decide) ?_
                    exact mu_zret X hP hS (by simp_all [sumA, bI]) (by simp_all [sumA, bI]) dX5_accept_145
                  · replace c_108 := bI_0.mp c_108
                    refine lv_aload_n hx hb dX5_accept_111 rfl (lv_at hl 0 rfl) ?_
                    refine lv_iload_n hx hb dX5_accept_112 rfl (lv_at hl 1 rfl) ?_
                    refine ro_V (n := 1) X hK (c_X5_fitsBelowTen) gX5_accept_X5_fitsBelowTen rfl (by decide +kernel) ⟨rfl, rfl⟩ ⟨Nat.le_of_ble_eq_true rfl, Nat.le_of_ble_eq_true rfl⟩ (hP.sub [0] rfl) (va_recv hK hP (ci := 5) (q0 := 0) rfl rfl) rfl hl.1 rfl (Nat.le_of_ble_eq_true rfl) dX5_accept_113 ⟨Nat.zero_le _, Nat.zero_le _⟩ ?_
                    refine lv_if_eq (tgt := 132) hx hb dX5_accept_116 (by decide) (fun c_116 => ?_) (fun c_116 => ?_)
                    · replace c_116 := bI_0.mp c_116
                      refine lv_iconst (v := 0) hx hb dX5_accept_132 (by decide) ?_
                      exact mu_zret X hP hS (by simp_all [sumA, bI]) (by simp_all [sumA, bI]) dX5_accept_133
                    · replace c_116 := bI_n0.mp c_116
                      refine lv_aload_n hx hb dX5_accept_119 rfl (lv_at hl 0 rfl) ?_
                      refine lv_dup hx hb dX5_accept_120 rfl ?_
                      refine va_get (D := D) (ci := 5) (C := RX5) (T := TX5) (N := 3) hx hb hts in_X5 hown hK hP 0 rfl rfl 1 (by decide) fl_13 (fun _ h9 => h9) rfl dX5_accept_121 ?_
                      refine lv_iload_n hx hb dX5_accept_124 rfl (lv_at hl 1 rfl) ?_
                      refine lv_iadd hx hb dX5_accept_125 ?_
                      refine va_put (D := D) (ci := 5) (ty := .int) (C := RX5) (T := TX5) (N := 3) hx hb hts in_X5 tyX5 tyX5_ok nmX5 hown hK hP hD hS 0 rfl rfl 1 (by decide) fl_13 (fun _ h9 => h9) rfl (by decide +kernel) rfl rfl (Nat.le_of_ble_eq_true rfl) dX5_accept_126 (fun H locs hP hD hS => ?_)
                      have hP : va_P D vwCl [(u, .inr (5, [_, _, _]))] H := hP
                      have hD : va_D A [(u, .inr (5, [_, _, _]))] := hD
                      refine lv_goto (tgt := 134) hx hb dX5_accept_129 (by decide) ?_
                      refine lv_aload_n hx hb dX5_accept_134 rfl (lv_at hl 0 rfl) ?_
                      refine lv_dup hx hb dX5_accept_135 rfl ?_
                      refine va_get (D := D) (ci := 5) (C := RX5) (T := TX5) (N := 3) hx hb hts in_X5 hown hK hP 0 rfl rfl 2 (by decide) fl_16 (fun _ h9 => h9) rfl dX5_accept_136 ?_
                      refine lv_iconst (v := 1) hx hb dX5_accept_139 (by decide) ?_
                      refine lv_iadd hx hb dX5_accept_140 ?_
                      refine va_put (D := D) (ci := 5) (ty := .int) (C := RX5) (T := TX5) (N := 3) hx hb hts in_X5 tyX5 tyX5_ok nmX5 hown hK hP hD hS 0 rfl rfl 2 (by decide) fl_16 (fun _ h9 => h9) rfl (by decide +kernel) rfl rfl (Nat.le_of_ble_eq_true rfl) dX5_accept_141 (fun H locs hP hD hS => ?_)
                      have hP : va_P D vwCl [(u, .inr (5, [_, _, _]))] H := hP
                      have hD : va_D A [(u, .inr (5, [_, _, _]))] := hD
                      refine lv_iconst (v := 1) hx hb dX5_accept_144 (by decide) ?_
                      exact mu_zret X hP hS (by simp_all [sumA, bI]) (by simp_all [sumA, bI]) dX5_accept_145
                · refine lv_aload_n hx hb dX5_accept_83 rfl (lv_at hl 0 rfl) ?_
                  refine lv_sipush (v := 1000) hx hb dX5_accept_84 (by decide) ?_
                  refine lv_aload_n hx hb dX5_accept_87 rfl (lv_at hl 0 rfl) ?_
                  refine va_get (D := D) (ci := 5) (C := RX5) (T := TX5) (N := 3) hx hb hts in_X5 hown hK hP 0 rfl rfl 1 (by decide) fl_13 (fun _ h9 => h9) rfl dX5_accept_88 ?_
                  refine lv_imul hx hb dX5_accept_91 ?_
                  refine va_put (D := D) (ci := 5) (ty := .int) (C := RX5) (T := TX5) (N := 3) hx hb hts in_X5 tyX5 tyX5_ok nmX5 hown hK hP hD hS 0 rfl rfl 0 (by decide) fl_7 (fun _ h9 => h9) rfl (by decide +kernel) rfl rfl (Nat.le_of_ble_eq_true rfl) dX5_accept_92 (fun H locs hP hD hS => ?_)
                  have hP : va_P D vwCl [(u, .inr (5, [_, _, _]))] H := hP
                  have hD : va_D A [(u, .inr (5, [_, _, _]))] := hD
                  refine lv_aload_n hx hb dX5_accept_95 rfl (lv_at hl 0 rfl) ?_
                  refine lv_iconst (v := 0) hx hb dX5_accept_96 (by decide) ?_
                  refine va_put (D := D) (ci := 5) (ty := .int) (C := RX5) (T := TX5) (N := 3) hx hb hts in_X5 tyX5 tyX5_ok nmX5 hown hK hP hD hS 0 rfl rfl 1 (by decide) fl_13 (fun _ h9 => h9) rfl (by decide +kernel) rfl rfl (Nat.le_of_ble_eq_true rfl) dX5_accept_97 (fun H locs hP hD hS => ?_)
                  have hP : va_P D vwCl [(u, .inr (5, [_, _, _]))] H := hP
                  have hD : va_D A [(u, .inr (5, [_, _, _]))] := hD
                  refine lv_goto (tgt := 134) hx hb dX5_accept_100 (by decide) ?_
                  refine lv_aload_n hx hb dX5_accept_134 rfl (lv_at hl 0 rfl) ?_
                  refine lv_dup hx hb dX5_accept_135 rfl ?_
                  refine va_get (D := D) (ci := 5) (C := RX5) (T := TX5) (N := 3) hx hb hts in_X5 hown hK hP 0 rfl rfl 2 (by decide) fl_16 (fun _ h9 => h9) rfl dX5_accept_136 ?_
                  refine lv_iconst (v := 1) hx hb dX5_accept_139 (by decide) ?_
                  refine lv_iadd hx hb dX5_accept_140 ?_
                  refine va_put (D := D) (ci := 5) (ty := .int) (C := RX5) (T := TX5) (N := 3) hx hb hts in_X5 tyX5 tyX5_ok nmX5 hown hK hP hD hS 0 rfl rfl 2 (by decide) fl_16 (fun _ h9 => h9) rfl (by decide +kernel) rfl rfl (Nat.le_of_ble_eq_true rfl) dX5_accept_141 (fun H locs hP hD hS => ?_)
                  have hP : va_P D vwCl [(u, .inr (5, [_, _, _]))] H := hP
                  have hD : va_D A [(u, .inr (5, [_, _, _]))] := hD
                  refine lv_iconst (v := 1) hx hb dX5_accept_144 (by decide) ?_
                  exact mu_zret X hP hS (by simp_all [sumA, bI]) (by simp_all [sumA, bI]) dX5_accept_145
        · refine lv_aload_n hx hb dX5_accept_37 rfl (lv_at hl 0 rfl) ?_
          refine lv_bipush (v := 100) hx hb dX5_accept_38 (by decide) ?_
          refine lv_aload_n hx hb dX5_accept_40 rfl (lv_at hl 0 rfl) ?_
          refine va_get (D := D) (ci := 5) (C := RX5) (T := TX5) (N := 3) hx hb hts in_X5 hown hK hP 0 rfl rfl 1 (by decide) fl_13 (fun _ h9 => h9) rfl dX5_accept_41 ?_
          refine lv_imul hx hb dX5_accept_44 ?_
          refine va_put (D := D) (ci := 5) (ty := .int) (C := RX5) (T := TX5) (N := 3) hx hb hts in_X5 tyX5 tyX5_ok nmX5 hown hK hP hD hS 0 rfl rfl 1 (by decide) fl_13 (fun _ h9 => h9) rfl (by decide +kernel) rfl rfl (Nat.le_of_ble_eq_true rfl) dX5_accept_45 (fun H locs hP hD hS => ?_)
          have hP : va_P D vwCl [(u, .inr (5, [_, _, _]))] H := hP
          have hD : va_D A [(u, .inr (5, [_, _, _]))] := hD
          refine lv_goto (tgt := 134) hx hb dX5_accept_48 (by decide) ?_
          refine lv_aload_n hx hb dX5_accept_134 rfl (lv_at hl 0 rfl) ?_
          refine lv_dup hx hb dX5_accept_135 rfl ?_
          refine va_get (D := D) (ci := 5) (C := RX5) (T := TX5) (N := 3) hx hb hts in_X5 hown hK hP 0 rfl rfl 2 (by decide) fl_16 (fun _ h9 => h9) rfl dX5_accept_136 ?_
          refine lv_iconst (v := 1) hx hb dX5_accept_139 (by decide) ?_
          refine lv_iadd hx hb dX5_accept_140 ?_
          refine va_put (D := D) (ci := 5) (ty := .int) (C := RX5) (T := TX5) (N := 3) hx hb hts in_X5 tyX5 tyX5_ok nmX5 hown hK hP hD hS 0 rfl rfl 2 (by decide) fl_16 (fun _ h9 => h9) rfl (by decide +kernel) rfl rfl (Nat.le_of_ble_eq_true rfl) dX5_accept_141 (fun H locs hP hD hS => ?_)
          have hP : va_P D vwCl [(u, .inr (5, [_, _, _]))] H := hP
          have hD : va_D A [(u, .inr (5, [_, _, _]))] := hD
          refine lv_iconst (v := 1) hx hb dX5_accept_144 (by decide) ?_
          exact mu_zret X hP hS (by simp_all [sumA, bI]) (by simp_all [sumA, bI]) dX5_accept_145
  · refine lv_aload_n hx hb dX5_accept_7 rfl (lv_at hl 0 rfl) ?_
    refine lv_iload_n hx hb dX5_accept_8 rfl (lv_at hl 1 rfl) ?_
    refine mu_V (n := 1) X hK (c_X5_begin) gX5_accept_X5_begin rfl (by decide +kernel) ⟨rfl, rfl⟩ ⟨Nat.le_of_ble_eq_true rfl, Nat.le_of_ble_eq_true rfl⟩ [0] rfl rfl rfl rfl hA hP hD hS (va_recv hK hP (ci := 5) (q0 := 0) rfl rfl) rfl hl.1 rfl (Nat.le_of_ble_eq_true rfl) dX5_accept_9 ⟨Nat.zero_le _, Nat.zero_le _⟩ (fun H locs hP hD hS => ?_)
    have hP : va_P D vwCl [(u, .inr (5, [_, _, _]))] H := hP
    have hD : va_D A [(u, .inr (5, [_, _, _]))] := hD
    refine lv_iconst (v := 1) hx hb dX5_accept_12 (by decide) ?_
    exact mu_zret X hP hS (by simp_all [sumA, bI]) (by simp_all [sumA, bI]) dX5_accept_13

set_option maxHeartbeats 1000000 in
set_option maxRecDepth 100000 in
theorem c_X0_clear {l : Launch} {D : va_G} {cI cJ cW : ClassId} {sz : Nat} {w : Nat} {sh cl : Int32}  : MU l yX0_clear wsX0_clear { frames := 0, cells := 0, slots := 0, locals := 0 } D (ty3 cI cJ cW) [.ref w] [(w, .inr (0, [.int sh, .int cl]))] sz none [(w, .inr (0, [.int 0, .int 0]))] := by
  refine mu_of (cc := cX0_clear) (maxL := 1) (ret := none) (by decide) rfl (Nat.le_of_ble_eq_true rfl) ?_
  intro pr en ss mi below meth cd X hK A hA hP hD hS ls hl
  obtain ⟨hx, hb, hml, hown, hts, hr, hlocks⟩ := id X
  have fl_13 := hts (.fieldLink RX0 13 "WordTables$Common" "length" "I") (by decide +kernel)
  have fl_7 := hts (.fieldLink RX0 7 "WordTables$Common" "shared" "I") (by decide +kernel)
  have in_X0 : ∀ w ∈ wsX00, w ∈ wsX0_clear := by decide +kernel
  have hl : lv_has ls 1 [(0, .ref w)] := hl
  refine lv_aload_n hx hb dX0_clear_0 rfl (lv_at hl 0 rfl) ?_
  refine lv_iconst (v := 0) hx hb dX0_clear_1 (by decide) ?_
  refine va_put (D := D) (ci := 0) (ty := .int) (C := RX0) (T := TX0) (N := 2) hx hb hts in_X0 tyX0 tyX0_ok nmX0 hown hK hP hD hS 0 rfl rfl 0 (by decide) fl_7 (fun _ h9 => h9) rfl (by decide +kernel) rfl rfl (Nat.le_of_ble_eq_true rfl) dX0_clear_2 (fun H locs hP hD hS => ?_)
  have hP : va_P D vwCl [(w, .inr (0, [_, _]))] H := hP
  have hD : va_D A [(w, .inr (0, [_, _]))] := hD
  refine lv_aload_n hx hb dX0_clear_5 rfl (lv_at hl 0 rfl) ?_
  refine lv_iconst (v := 0) hx hb dX0_clear_6 (by decide) ?_
  refine va_put (D := D) (ci := 0) (ty := .int) (C := RX0) (T := TX0) (N := 2) hx hb hts in_X0 tyX0 tyX0_ok nmX0 hown hK hP hD hS 0 rfl rfl 1 (by decide) fl_13 (fun _ h9 => h9) rfl (by decide +kernel) rfl rfl (Nat.le_of_ble_eq_true rfl) dX0_clear_7 (fun H locs hP hD hS => ?_)
  have hP : va_P D vwCl [(w, .inr (0, [_, _]))] H := hP
  have hD : va_D A [(w, .inr (0, [_, _]))] := hD
  exact mu_vret X hP hS (rfl) dX0_clear_10

set_option maxHeartbeats 1000000 in
set_option maxRecDepth 100000 in
theorem c_X0_accept {l : Launch} {D : va_G} {cI cJ cW : ClassId} {sz : Nat} {w : Nat} {sh cl b : Int32}  : MU l yX0_accept wsX0_accept { frames := 0, cells := 0, slots := 0, locals := 0 } D (ty3 cI cJ cW) [.ref w, .int b] [(w, .inr (0, [.int sh, .int cl]))] sz (some (.int (bI (coA sh cl b).1))) [(w, .inr (0, [.int ((coA sh cl b).2.1), .int ((coA sh cl b).2.2)]))] := by
  refine mu_of (cc := cX0_accept) (maxL := 3) (ret := (some .boolean)) (by decide) rfl (Nat.le_of_ble_eq_true rfl) ?_
  intro pr en ss mi below meth cd X hK A hA hP hD hS ls hl
  obtain ⟨hx, hb, hml, hown, hts, hr, hlocks⟩ := id X
  have fl_13 := hts (.fieldLink RX0 13 "WordTables$Common" "length" "I") (by decide +kernel)
  have fl_7 := hts (.fieldLink RX0 7 "WordTables$Common" "shared" "I") (by decide +kernel)
  have in_X0 : ∀ w ∈ wsX00, w ∈ wsX0_accept := by decide +kernel
  have hl : lv_has ls 3 [(0, .ref w), (1, .int b)] := hl
  refine lv_aload_n hx hb dX0_accept_0 rfl (lv_at hl 0 rfl) ?_
  refine va_get (D := D) (ci := 0) (C := RX0) (T := TX0) (N := 2) hx hb hts in_X0 hown hK hP 0 rfl rfl 1 (by decide) fl_13 (fun _ h9 => h9) rfl dX0_accept_1 ?_
  refine lv_if_ne (tgt := 11) hx hb dX0_accept_4 (by decide) (fun c_4 => ?_) (fun c_4 => ?_)
  · refine lv_aload_n hx hb dX0_accept_11 rfl (lv_at hl 0 rfl) ?_
    refine va_get (D := D) (ci := 0) (C := RX0) (T := TX0) (N := 2) hx hb hts in_X0 hown hK hP 0 rfl rfl 0 (by decide) fl_7 (fun _ h9 => h9) rfl dX0_accept_12 ?_
    refine lv_iload_n hx hb dX0_accept_15 rfl (lv_at hl 1 rfl) ?_
    refine lv_iand hx hb dX0_accept_16 ?_
    refine lv_istore_n (lv' := [(2, _), (0, _), (1, _)]) hx hb dX0_accept_17 rfl hl (by decide) rfl (fun ls hl => ?_)
    refine lv_iload_n hx hb dX0_accept_18 rfl (lv_at hl 0 rfl) ?_
    refine lv_if_ne (tgt := 24) hx hb dX0_accept_19 (by decide) (fun c_19 => ?_) (fun c_19 => ?_)
    · refine lv_aload_n hx hb dX0_accept_24 rfl (lv_at hl 1 rfl) ?_
      refine lv_iload_n hx hb dX0_accept_25 rfl (lv_at hl 0 rfl) ?_
      refine va_put (D := D) (ci := 0) (ty := .int) (C := RX0) (T := TX0) (N := 2) hx hb hts in_X0 tyX0 tyX0_ok nmX0 hown hK hP hD hS 0 rfl rfl 0 (by decide) fl_7 (fun _ h9 => h9) rfl (by decide +kernel) rfl rfl (Nat.le_of_ble_eq_true rfl) dX0_accept_26 (fun H locs hP hD hS => ?_)
      have hP : va_P D vwCl [(w, .inr (0, [_, _]))] H := hP
      have hD : va_D A [(w, .inr (0, [_, _]))] := hD
      refine lv_aload_n hx hb dX0_accept_29 rfl (lv_at hl 1 rfl) ?_
      refine lv_dup hx hb dX0_accept_30 rfl ?_
      refine va_get (D := D) (ci := 0) (C := RX0) (T := TX0) (N := 2) hx hb hts in_X0 hown hK hP 0 rfl rfl 1 (by decide) fl_13 (fun _ h9 => h9) rfl dX0_accept_31 ?_
      refine lv_iconst (v := 1) hx hb dX0_accept_34 (by decide) ?_
      refine lv_iadd hx hb dX0_accept_35 ?_
      refine va_put (D := D) (ci := 0) (ty := .int) (C := RX0) (T := TX0) (N := 2) hx hb hts in_X0 tyX0 tyX0_ok nmX0 hown hK hP hD hS 0 rfl rfl 1 (by decide) fl_13 (fun _ h9 => h9) rfl (by decide +kernel) rfl rfl (Nat.le_of_ble_eq_true rfl) dX0_accept_36 (fun H locs hP hD hS => ?_)
      have hP : va_P D vwCl [(w, .inr (0, [_, _]))] H := hP
      have hD : va_D A [(w, .inr (0, [_, _]))] := hD
      refine lv_iconst (v := 1) hx hb dX0_accept_39 (by decide) ?_
      exact mu_zret X hP hS (by simp [coA, bI, c_4, c_19]) (by simp [coA, bI, c_4, c_19]) dX0_accept_40
    · refine lv_iconst (v := 0) hx hb dX0_accept_22 (by decide) ?_
      exact mu_zret X hP hS (by simp [coA, bI, c_4, c_19]) (by simp [coA, bI, c_4, c_19]) dX0_accept_23
  · refine lv_iload_n hx hb dX0_accept_7 rfl (lv_at hl 1 rfl) ?_
    refine lv_goto (tgt := 17) hx hb dX0_accept_8 (by decide) ?_
    refine lv_istore_n (lv' := [(2, _), (0, _), (1, _)]) hx hb dX0_accept_17 rfl hl (by decide) rfl (fun ls hl => ?_)
    refine lv_iload_n hx hb dX0_accept_18 rfl (lv_at hl 0 rfl) ?_
    refine lv_if_ne (tgt := 24) hx hb dX0_accept_19 (by decide) (fun c_19 => ?_) (fun c_19 => ?_)
    · refine lv_aload_n hx hb dX0_accept_24 rfl (lv_at hl 1 rfl) ?_
      refine lv_iload_n hx hb dX0_accept_25 rfl (lv_at hl 0 rfl) ?_
      refine va_put (D := D) (ci := 0) (ty := .int) (C := RX0) (T := TX0) (N := 2) hx hb hts in_X0 tyX0 tyX0_ok nmX0 hown hK hP hD hS 0 rfl rfl 0 (by decide) fl_7 (fun _ h9 => h9) rfl (by decide +kernel) rfl rfl (Nat.le_of_ble_eq_true rfl) dX0_accept_26 (fun H locs hP hD hS => ?_)
      have hP : va_P D vwCl [(w, .inr (0, [_, _]))] H := hP
      have hD : va_D A [(w, .inr (0, [_, _]))] := hD
      refine lv_aload_n hx hb dX0_accept_29 rfl (lv_at hl 1 rfl) ?_
      refine lv_dup hx hb dX0_accept_30 rfl ?_
      refine va_get (D := D) (ci := 0) (C := RX0) (T := TX0) (N := 2) hx hb hts in_X0 hown hK hP 0 rfl rfl 1 (by decide) fl_13 (fun _ h9 => h9) rfl dX0_accept_31 ?_
      refine lv_iconst (v := 1) hx hb dX0_accept_34 (by decide) ?_
      refine lv_iadd hx hb dX0_accept_35 ?_
      refine va_put (D := D) (ci := 0) (ty := .int) (C := RX0) (T := TX0) (N := 2) hx hb hts in_X0 tyX0 tyX0_ok nmX0 hown hK hP hD hS 0 rfl rfl 1 (by decide) fl_13 (fun _ h9 => h9) rfl (by decide +kernel) rfl rfl (Nat.le_of_ble_eq_true rfl) dX0_accept_36 (fun H locs hP hD hS => ?_)
      have hP : va_P D vwCl [(w, .inr (0, [_, _]))] H := hP
      have hD : va_D A [(w, .inr (0, [_, _]))] := hD
      refine lv_iconst (v := 1) hx hb dX0_accept_39 (by decide) ?_
      exact mu_zret X hP hS (by simp [coA, bI, c_4, c_19]) (by simp [coA, bI, c_4, c_19]) dX0_accept_40
    · refine lv_iconst (v := 0) hx hb dX0_accept_22 (by decide) ?_
      exact mu_zret X hP hS (by simp [coA, bI, c_4, c_19]) (by simp [coA, bI, c_4, c_19]) dX0_accept_23
