/-! Vocabulary, over the cells dy of the words and the joins -/
def wCells (cI : ClassId) (a : Nat → Nat → Nat) (z : Nat → Nat → Int32) (n : Nat → Nat) (t : Nat → Nat → Int32) (j : Nat) : va_W := [(a j 0, .inr (9, [.ref (a j 1), .int (z j 1), .int (z j 2), .int (z j 3), .int (z j 4), .int (z j 5)])), (a j 1, .inr (4, [.ref (a j 2), .int (nI (n j))])), (a j 2, .inl (cI, n j, .inl (t j)))]
def jCells (cI : ClassId) (a : Nat → Nat → Nat) (z : Nat → Nat → Int32) (n : Nat → Nat) (t : Nat → Nat → Int32) (j : Nat) : va_W := [(a j 0, .inr (2, [.ref (a j 1), .int (z j 1), .int (z j 2)])), (a j 1, .inr (4, [.ref (a j 2), .int (nI (n j))])), (a j 2, .inl (cI, n j, .inl (t j)))]
def Dw (cI : ClassId) (a : Nat → Nat → Nat) (z : Nat → Nat → Int32) (n : Nat → Nat) (t : Nat → Nat → Int32) (nw : Nat) (dy : va_W) : Prop := ∀ j, j < nw → n j ≤ 20 ∧ ∀ q ∈ wCells cI a z n t j, q ∈ dy
def Dj (cI : ClassId) (a : Nat → Nat → Nat) (z : Nat → Nat → Int32) (n : Nat → Nat) (t : Nat → Nat → Int32) (nj : Nat) (dy : va_W) : Prop := ∀ j, j < nj → n j ≤ 20 ∧ ∀ q ∈ jCells cI a z n t j, q ∈ dy
theorem memP {D : va_G} {cl : List vw_C} {ws w : va_W} {H : Heap} (h : va_P D cl ws H) (hm : ∀ q ∈ w, q ∈ ws) : va_P D cl w H := by
  intro k q hk
  obtain ⟨i, hi⟩ := List.getElem?_of_mem (hm q (List.mem_of_getElem? hk))
  exact h i q hi
def knF (wf : Nat → Option Nat) (nw : Nat) (x : Int32) : Option Nat := if x < 0 then none else if nI nw ≤ x then none else if nI 40 ≤ x then none else wf x.toNatClampNeg
theorem kn_nI {wf : Nat → Option Nat} {nw j : Nat} {wa : Nat → Nat → Nat} (hj : j < nw) (hnw : nw ≤ 40) (hwf : ∀ i, i < nw → wf i = some (wa i 0)) : knF wf nw (nI j) = some (wa j 0) := by
  have h1 : ¬ nI j < 0 := nI_pos (by omega)
  have h2 : ¬ nI nw ≤ nI j := nI_ge hj (by omega)
  have h3 : ¬ nI 40 ≤ nI j := nI_ge (by omega) (by decide)
  simp only [knF, h1, h2, h3, if_false, nI_clamp (show j < 2 ^ 31 by omega)]
  exact hwf j hj
theorem kn_out {wf : Nat → Option Nat} {nw : Nat} {x : Int32} (h : x < 0 ∨ nI nw ≤ x) : knF wf nw x = none := by
  rcases h with h | h <;> simp [knF, h]
theorem kn_some {wf : Nat → Option Nat} {nw q : Nat} {x : Int32} {wa : Nat → Nat → Nat} (h : knF wf nw x = some q) (hnw : nw ≤ 40) (hwf : ∀ i, i < nw → wf i = some (wa i 0)) : ∃ j, j < nw ∧ x = nI j ∧ q = wa j 0 := by
  rcases pk_ix x (n := nw) (by omega) with h1 | h1 | ⟨j, hj, rfl⟩
  · rw [kn_out (Or.inl h1)] at h; cases h
  · rw [kn_out (Or.inr h1)] at h; cases h
  · rw [kn_nI hj hnw hwf] at h
    exact ⟨j, hj, rfl, (Option.some.inj h).symm⟩
theorem kn_none {wf : Nat → Option Nat} {nw : Nat} {x : Int32} {wa : Nat → Nat → Nat} (h : knF wf nw x = none) (hnw : nw ≤ 40) (hwf : ∀ i, i < nw → wf i = some (wa i 0)) : x < 0 ∨ nI nw ≤ x := by
  rcases pk_ix x (n := nw) (by omega) with h1 | h1 | ⟨j, hj, rfl⟩
  · exact Or.inl h1
  · exact Or.inr h1
  · rw [kn_nI hj hnw hwf] at h; cases h
/-- the first of n places from k on -/
def fiO (p : Nat → Bool) (k : Nat) : Nat → Option Nat
  | 0 => none
  | n + 1 => if p k = true then some k else fiO p (k + 1) n
def oI : Option Nat → Int32
  | none => -1
  | some j => nI j
theorem fiO_hit {p : Nat → Bool} {k n : Nat} (hk : k < n) (h : p k = true) : fiO p k (n - k) = some k := by
  rw [show n - k = (n - (k + 1)) + 1 by omega, fiO, if_pos h]
theorem fiO_miss {p : Nat → Bool} {k n : Nat} (hk : k < n) (h : p k = false) : fiO p k (n - k) = fiO p (k + 1) (n - (k + 1)) := by
  rw [show n - k = (n - (k + 1)) + 1 by omega, fiO, if_neg (by rw [h]; exact Bool.false_ne_true)]
theorem fiO_end {p : Nat → Bool} {n : Nat} : fiO p n (n - n) = none := by
  rw [Nat.sub_self, fiO]
theorem fiO_some {p : Nat → Bool} : ∀ (n k j : Nat), fiO p k n = some j → k ≤ j ∧ j < k + n ∧ p j = true
  | 0, k, j, h => by cases h
  | n + 1, k, j, h => by
    rw [fiO] at h
    by_cases hp : p k = true
    · rw [if_pos hp] at h; cases h; exact ⟨Nat.le_refl _, by omega, hp⟩
    · rw [if_neg hp] at h
      have := fiO_some n (k + 1) j h
      exact ⟨by omega, by omega, this.2.2⟩
def fwC (ct : Nat) (fo : Nat → Int32) (wz : Nat → Nat → Int32) (wn : Nat → Nat) (wt : Nat → Nat → Int32) (nw : Nat) (L : Nat → Int32) (lg : Int32) (fr ln : Nat) : Option Nat := fiO (fun j => decide (wz j 1 = lg) && likeB ct (foC fo) (wt j) (wn j) (fun i => L (fr + i)) ln) 0 nw
def fjC (ct : Nat) (fo : Nat → Int32) (jn : Nat → Nat) (jt : Nat → Nat → Int32) (nj : Nat) (L : Nat → Int32) (fr ln : Nat) : Option Nat := fiO (fun j => likeB ct (foC fo) (jt j) (jn j) (fun i => L (fr + i)) ln) 0 nj
theorem oI_m1 {j : Nat} (h : j < 2 ^ 31) : ¬ oI (some j) = -1 := by
  intro q
  have h1 := nI_toInt h
  have h2 : (nI j).toInt = (-1 : Int32).toInt := by rw [show nI j = -1 from q]
  rw [h1] at h2
  have : (-1 : Int32).toInt = -1 := rfl
  omega
theorem fiO_congr {p q : Nat → Bool} : ∀ (n k : Nat), (∀ j, k ≤ j → j < k + n → p j = q j) → fiO p k n = fiO q k n
  | 0, k, h => rfl
  | n + 1, k, h => by
    rw [fiO, fiO, h k (Nat.le_refl _) (by omega), fiO_congr n (k + 1) (fun j h1 h2 => h j (by omega) (by omega))]

set_option maxHeartbeats 1000000 in
set_option maxRecDepth 100000 in
theorem c_X8_known {l : Launch} {D : va_G} {cI cJ cW : ClassId} {t v vw vj nw nj : Nat} {wf : Nat → Option Nat} {x : Int32}  : RO l yX8_known wsX8_known { frames := 0, cells := 0, slots := 0, locals := 0 } D (ty3 cI cJ cW) [.ref v, .int x] [(v, .inr (8, [.ref t, .ref vw, .ref vj, .int (nI nw), .int (nI nj)])), (vw, .inl (cW, 40, .inr (.inr (.inr (.inr wf)))))] (va_rf (knF wf nw x)) := by
  refine ro_of (cc := cX8_known) (maxL := 2) (ret := (some (.object "WordTables$Word"))) (by decide) rfl (Nat.le_of_ble_eq_true rfl) ?_
  intro pr en ss mi below meth cd X hP hK ls hl
  obtain ⟨hx, hb, hml, hown, hts, hr, hlocks⟩ := id X
  have fl_17 := hts (.fieldLink RX8 17 "WordTables$Vocabulary" "words" "[LWordTables$Word;") (by decide +kernel)
  have fl_27 := hts (.fieldLink RX8 27 "WordTables$Vocabulary" "wordCount" "I") (by decide +kernel)
  have in_X8 : ∀ w ∈ wsX80, w ∈ wsX8_known := by decide +kernel
  have hl : lv_has ls 2 [(0, .ref v), (1, .int x)] := hl
  refine lv_iload_n hx hb dX8_known_0 rfl (lv_at hl 1 rfl) ?_
  refine lv_if_lt (tgt := 30) hx hb dX8_known_1 (by decide) (fun c_1 => ?_) (fun c_1 => ?_)
  · refine lv_null hx hb dX8_known_30 ?_
    exact ro_aret X (by first | (simp [knF, c_1]; done) | (simp [knF, c_1]; rfl)) dX8_known_31
  · refine lv_iload_n hx hb dX8_known_4 rfl (lv_at hl 1 rfl) ?_
    refine lv_aload_n hx hb dX8_known_5 rfl (lv_at hl 0 rfl) ?_
    refine va_get (D := D) (ci := 8) (C := RX8) (T := TX8) (N := 5) hx hb hts in_X8 hown hK hP 0 rfl rfl 3 (by decide) fl_27 (fun _ h9 => h9) rfl dX8_known_6 ?_
    refine lv_icmp_ge (tgt := 30) hx hb dX8_known_9 (by decide) (fun c_9 => ?_) (fun c_9 => ?_)
    · refine lv_null hx hb dX8_known_30 ?_
      exact ro_aret X (by first | (simp [knF, c_1, c_9]; done) | (simp [knF, c_1, c_9]; rfl)) dX8_known_31
    · refine lv_iload_n hx hb dX8_known_12 rfl (lv_at hl 1 rfl) ?_
      refine lv_aload_n hx hb dX8_known_13 rfl (lv_at hl 0 rfl) ?_
      refine va_get (D := D) (ci := 8) (C := RX8) (T := TX8) (N := 5) hx hb hts in_X8 hown hK hP 0 rfl rfl 1 (by decide) fl_17 (fun _ h9 => h9) rfl dX8_known_14 ?_
      refine va_alen (v := nI 40) hx hb hK hP 1 2 rfl rfl rfl dX8_known_17 ?_
      refine lv_icmp_ge (tgt := 30) hx hb dX8_known_18 (by decide) (fun c_18 => ?_) (fun c_18 => ?_)
      · refine lv_null hx hb dX8_known_30 ?_
        exact ro_aret X (by first | (simp [knF, c_1, c_9, c_18]; done) | (simp [knF, c_1, c_9, c_18]; rfl)) dX8_known_31
      · refine lv_aload_n hx hb dX8_known_21 rfl (lv_at hl 0 rfl) ?_
        refine va_get (D := D) (ci := 8) (C := RX8) (T := TX8) (N := 5) hx hb hts in_X8 hown hK hP 0 rfl rfl 1 (by decide) fl_17 (fun _ h9 => h9) rfl dX8_known_22 ?_
        refine lv_iload_n hx hb dX8_known_25 rfl (lv_at hl 1 rfl) ?_
        refine va_aldq hx hb hK hP 1 2 rfl rfl (in_lt (by assumption) (by assumption) (by decide)) dX8_known_26 ?_
        refine lv_goto (tgt := 31) hx hb dX8_known_27 (by decide) ?_
        exact ro_aret X (by first | (simp [knF, c_1, c_9, c_18]; done) | (simp [knF, c_1, c_9, c_18]; rfl)) dX8_known_31

set_option maxHeartbeats 1000000 in
set_option maxRecDepth 100000 in
theorem c_X8_likeIn {l : Launch} {D : va_G} {cI cJ cW : ClassId} {t v vw vj nw nj : Nat} {wf : Nat → Option Nat} {fa ct : Nat} {fo : Nat → Int32} {th tb tn tN : Nat} {tf : Nat → Int32} {fr ln : Nat} {dy : va_W} {lg : Int32} {wa : Nat → Nat → Nat} {wz : Nat → Nat → Int32} {wn : Nat → Nat} {wt : Nat → Nat → Int32} (hct : ct < 2 ^ 31) (htN : tN < 2 ^ 31) (htn : tn ≤ tN) (hfl : fr + ln ≤ tn) (hnw : nw ≤ 40) (hwf : ∀ i, i < nw → wf i = some (wa i 0)) (hdw : Dw cI wa wz wn wt nw dy) : RO l yX8_likeIn wsX8_likeIn { frames := 2, cells := 0, slots := 0, locals := 48 } D (ty3 cI cJ cW) [.ref v, .int lg, .ref th, .int (nI fr), .int (nI ln)] ((v, .inr (8, [.ref t, .ref vw, .ref vj, .int (nI nw), .int (nI nj)])) :: (vw, .inl (cW, 40, .inr (.inr (.inr (.inr wf))))) :: (t, .inr (3, [.int (nI ct), .ref fa])) :: (fa, .inl (cI, 32, .inl fo)) :: (th, .inr (4, [.ref tb, .int (nI tn)])) :: (tb, .inl (cI, tN, .inl tf)) :: dy) (.int (oI (fwC ct fo wz wn wt nw tf lg fr ln))) := by
  refine ro_of (cc := cX8_likeIn) (maxL := 7) (ret := (some .int)) (by decide) rfl (Nat.le_of_ble_eq_true rfl) ?_
  intro pr en ss mi below meth cd X hP hK ls hl
  obtain ⟨hx, hb, hml, hown, hts, hr, hlocks⟩ := id X
  have fl_27 := hts (.fieldLink RX8 27 "WordTables$Vocabulary" "wordCount" "I") (by decide +kernel)
  have fl_35 := hts (.fieldLink RX8 35 "WordTables$Word" "language" "I") (by decide +kernel)
  have fl_38 := hts (.fieldLink RX8 38 "WordTables$Word" "spelling" "LWordTables$Row;") (by decide +kernel)
  have fl_9 := hts (.fieldLink RX8 9 "WordTables$Vocabulary" "letters" "LWordTables$Letters;") (by decide +kernel)
  have in_X8 : ∀ w ∈ wsX80, w ∈ wsX8_likeIn := by decide +kernel
  have in_X9 : ∀ w ∈ wsX90, w ∈ wsX8_likeIn := by decide +kernel
  have hl : lv_has ls 7 [(0, .ref v), (1, .int lg), (2, .ref th), (3, .int (nI fr)), (4, .int (nI ln))] := hl
  refine lv_iconst (v := 0) hx hb dX8_likeIn_0 (by decide) ?_
  refine lv_istore (lv' := [(5, _), (0, _), (1, _), (2, _), (3, _), (4, _)]) hx hb dX8_likeIn_1 hl (by decide) rfl (fun ls hl => ?_)
  have loop_3 : ∀ (fuel : Nat) (k : Nat), nw - k < fuel → k ≤ nw → (fiO (fun j => decide (wz j 1 = lg) && likeB ct (foC fo) (wt j) (wn j) (fun i => tf (fr + i)) ln) k (nw - k) = fiO (fun j => decide (wz j 1 = lg) && likeB ct (foC fo) (wt j) (wn j) (fun i => tf (fr + i)) ln) 0 nw) → ∀ ls : Array Slot, lv_has ls 7 [(0, .ref v), (1, .int lg), (2, .ref th), (3, .int (nI fr)), (4, .int (nI ln)), (5, .int (nI k))] → W pr l en { frames := 2, cells := 0, slots := 0, locals := 48 } ss mi ([.ref v, .int lg, .ref th, .int (nI fr), .int (nI ln)] : List Value).toArray below meth cd ss.heap [] 0 0 (MQ below (k2_QcV (.int (oI (fwC ct fo wz wn wt nw tf lg fr ln)))) ([.ref v, .int lg, .ref th, .int (nI fr), .int (nI ln)] : List Value).toArray ss 0 0 (fun _ => False)) (F0 mi 3 ls []) := by
    intro fuel
    induction fuel with
    | zero => intro k hm; exact absurd hm (Nat.not_lt_zero _)
    | succ fuel ih =>
      intro k hm hk hr  ls hl
      refine lv_iload hx hb dX8_likeIn_3 (lv_at hl 5 rfl) ?_
      refine lv_aload_n hx hb dX8_likeIn_5 rfl (lv_at hl 0 rfl) ?_
      refine va_get (D := D) (ci := 8) (C := RX8) (T := TX8) (N := 5) hx hb hts in_X8 hown hK hP 0 rfl rfl 3 (by decide) fl_27 (fun _ h9 => h9) rfl dX8_likeIn_6 ?_
      refine lv_icmp_ge (tgt := 62) hx hb dX8_likeIn_9 (by decide) (fun c_9 => ?_) (fun c_9 => ?_)
      · have hkm : k = nw := eq_ge c_9 hk (by omega)
        refine lv_iconst (v := -1) hx hb dX8_likeIn_62 (by decide) ?_
        exact ro_iret X (by show _ = oI (fiO _ 0 nw); rw [← hr, hkm, fiO_end]; rfl) dX8_likeIn_63
      · have hlt : k < nw := lt_nge c_9 hk (by omega)
        refine lv_aload_n hx hb dX8_likeIn_12 rfl (lv_at hl 0 rfl) ?_
        refine lv_iload hx hb dX8_likeIn_13 (lv_at hl 5 rfl) ?_
        refine ro_V (n := 1) X hK (c_X8_known) gX8_likeIn_X8_known rfl (by decide +kernel) ⟨rfl, rfl⟩ ⟨Nat.le_of_ble_eq_true rfl, Nat.le_of_ble_eq_true rfl⟩ (hP.sub [0, 1] rfl) (va_recv hK hP (ci := 8) (q0 := 0) rfl rfl) rfl hl.1 rfl (Nat.le_of_ble_eq_true rfl) dX8_likeIn_15 ⟨Nat.zero_le _, Nat.zero_le _⟩ ?_
        refine rf_eq (kn_nI hlt hnw hwf) ?_
        have hw : va_P D vwCl [((wa k 0), .inr (9, [.ref (wa k 1), .int (wz k 1), .int (wz k 2), .int (wz k 3), .int (wz k 4), .int (wz k 5)])), ((wa k 1), .inr (4, [.ref (wa k 2), .int (nI (wn k))])), ((wa k 2), .inl (cI, (wn k), .inl (wt k)))] _ := memP (w := wCells cI wa wz wn wt k) hP (fun q hq => List.mem_cons_of_mem _ (List.mem_cons_of_mem _ (List.mem_cons_of_mem _ (List.mem_cons_of_mem _ (List.mem_cons_of_mem _ (List.mem_cons_of_mem _ ((hdw k hlt).2 q hq)))))))
        refine lv_astore (lv' := [(6, _), (0, _), (1, _), (2, _), (3, _), (4, _), (5, _)]) hx hb dX8_likeIn_18 hl (by decide) rfl (fun ls hl => ?_)
        refine lv_aload hx hb dX8_likeIn_20 (lv_at hl 0 rfl) ?_
        refine lv_ifnull hx hb dX8_likeIn_22 ?_
        refine lv_aload hx hb dX8_likeIn_25 (lv_at hl 0 rfl) ?_
        refine va_get (D := D) (ci := 9) (C := RX9) (T := TX9) (N := 6) hx hb hts in_X9 hown hK hw 0 rfl rfl 1 (by decide) fl_35 (fun _ h9 => h9) rfl dX8_likeIn_27 ?_
        refine lv_iload_n hx hb dX8_likeIn_30 rfl (lv_at hl 2 rfl) ?_
        refine lv_icmp_ne (tgt := 56) hx hb dX8_likeIn_31 (by decide) (fun c_31 => ?_) (fun c_31 => ?_)
        · refine lv_iinc (v := (_ : Int32) + 1) (lv' := [(5, _), (6, _), (0, _), (1, _), (2, _), (3, _), (4, _)]) hx hb dX8_likeIn_56 hl (k := 6) rfl rfl (by decide) rfl (fun ls hl => ?_)
          refine lv_goto (tgt := 3) hx hb dX8_likeIn_59 (by decide) ?_
          rw [nI_1] at hl
          exact ih (k + 1) (by omega) (by omega) (by rw [← hr, fiO_miss (p := (fun j => decide (wz j 1 = lg) && likeB ct (foC fo) (wt j) (wn j) (fun i => tf (fr + i)) ln)) hlt (by first | (simp [c_31]; done) | simp [c_31, c_50])])  _ (lv_sub hl [2, 3, 4, 5, 6, 0] rfl)
        · refine lv_aload_n hx hb dX8_likeIn_34 rfl (lv_at hl 1 rfl) ?_
          refine va_get (D := D) (ci := 8) (C := RX8) (T := TX8) (N := 5) hx hb hts in_X8 hown hK hP 0 rfl rfl 0 (by decide) fl_9 (fun _ h9 => h9) rfl dX8_likeIn_35 ?_
          refine lv_aload hx hb dX8_likeIn_38 (lv_at hl 0 rfl) ?_
          refine va_get (D := D) (ci := 9) (C := RX9) (T := TX9) (N := 6) hx hb hts in_X9 hown hK hw 0 rfl rfl 0 (by decide) fl_38 (fun _ h9 => h9) rfl dX8_likeIn_40 ?_
          refine lv_aload_n hx hb dX8_likeIn_43 rfl (lv_at hl 3 rfl) ?_
          refine lv_iload_n hx hb dX8_likeIn_44 rfl (lv_at hl 4 rfl) ?_
          refine lv_iload hx hb dX8_likeIn_45 (lv_at hl 5 rfl) ?_
          refine ro_V (n := 4) X hK (c_X3_areLike hct (by have := (hdw k hlt).1; omega) htN (Nat.le_refl _) htn hfl) gX8_likeIn_X3_areLike rfl (by decide +kernel) ⟨rfl, rfl⟩ ⟨Nat.le_of_ble_eq_true rfl, Nat.le_of_ble_eq_true rfl⟩ (va_P.app (hP.sub (ws' := [_, _]) [2, 3] rfl) (va_P.app (hw.sub (ws' := [_, _]) [1, 2] rfl) (hP.sub (ws' := [_, _]) [4, 5] rfl))) (va_recv hK hP (ci := 3) (q0 := 2) rfl rfl) rfl hl.1 rfl (Nat.le_of_ble_eq_true rfl) dX8_likeIn_47 ⟨Nat.zero_le _, Nat.zero_le _⟩ ?_
          refine lv_if_eq (tgt := 56) hx hb dX8_likeIn_50 (by decide) (fun c_50 => ?_) (fun c_50 => ?_)
          · replace c_50 := bI_0.mp c_50
            refine lv_iinc (v := (_ : Int32) + 1) (lv' := [(5, _), (6, _), (0, _), (1, _), (2, _), (3, _), (4, _)]) hx hb dX8_likeIn_56 hl (k := 6) rfl rfl (by decide) rfl (fun ls hl => ?_)
            refine lv_goto (tgt := 3) hx hb dX8_likeIn_59 (by decide) ?_
            rw [nI_1] at hl
            exact ih (k + 1) (by omega) (by omega) (by rw [← hr, fiO_miss (p := (fun j => decide (wz j 1 = lg) && likeB ct (foC fo) (wt j) (wn j) (fun i => tf (fr + i)) ln)) hlt (by first | (simp [c_31]; done) | simp [c_31, c_50])])  _ (lv_sub hl [2, 3, 4, 5, 6, 0] rfl)
          · replace c_50 := bI_n0.mp c_50
            refine lv_iload hx hb dX8_likeIn_53 (lv_at hl 6 rfl) ?_
            exact ro_iret X (by show _ = oI (fiO _ 0 nw); rw [← hr, fiO_hit (p := (fun j => decide (wz j 1 = lg) && likeB ct (foC fo) (wt j) (wn j) (fun i => tf (fr + i)) ln)) hlt (by simp [c_31, c_50])]; rfl) dX8_likeIn_55
  exact loop_3 (nw + 1) 0 (by omega) (Nat.zero_le _) rfl  ls (lv_sub hl [1, 2, 3, 4, 5, 0] rfl)

set_option maxHeartbeats 1000000 in
set_option maxRecDepth 100000 in
theorem c_X8_joinLike {l : Launch} {D : va_G} {cI cJ cW : ClassId} {t v vw vj nw nj : Nat} {jf : Nat → Option Nat} {fa ct : Nat} {fo : Nat → Int32} {th tb tn tN : Nat} {tf : Nat → Int32} {fr ln : Nat} {dy : va_W} {ja : Nat → Nat → Nat} {jz : Nat → Nat → Int32} {jn : Nat → Nat} {jt : Nat → Nat → Int32} (hct : ct < 2 ^ 31) (htN : tN < 2 ^ 31) (htn : tn ≤ tN) (hfl : fr + ln ≤ tn) (hnj : nj ≤ 8) (hjf : ∀ i, i < nj → jf i = some (ja i 0)) (hdj : Dj cI ja jz jn jt nj dy) : RO l yX8_joinLike wsX8_joinLike { frames := 2, cells := 0, slots := 0, locals := 48 } D (ty3 cI cJ cW) [.ref v, .ref th, .int (nI fr), .int (nI ln)] ((v, .inr (8, [.ref t, .ref vw, .ref vj, .int (nI nw), .int (nI nj)])) :: (vj, .inl (cJ, 8, .inr (.inr (.inr (.inr jf))))) :: (t, .inr (3, [.int (nI ct), .ref fa])) :: (fa, .inl (cI, 32, .inl fo)) :: (th, .inr (4, [.ref tb, .int (nI tn)])) :: (tb, .inl (cI, tN, .inl tf)) :: dy) (va_rf ((fjC ct fo jn jt nj tf fr ln).map (fun j => ja j 0))) := by
  refine ro_of (cc := cX8_joinLike) (maxL := 6) (ret := (some (.object "WordTables$Join"))) (by decide) rfl (Nat.le_of_ble_eq_true rfl) ?_
  intro pr en ss mi below meth cd X hP hK ls hl
  obtain ⟨hx, hb, hml, hown, hts, hr, hlocks⟩ := id X
  have fl_23 := hts (.fieldLink RX8 23 "WordTables$Vocabulary" "joins" "[LWordTables$Join;") (by decide +kernel)
  have fl_48 := hts (.fieldLink RX8 48 "WordTables$Vocabulary" "joinCount" "I") (by decide +kernel)
  have fl_51 := hts (.fieldLink RX8 51 "WordTables$Join" "spelling" "LWordTables$Row;") (by decide +kernel)
  have fl_9 := hts (.fieldLink RX8 9 "WordTables$Vocabulary" "letters" "LWordTables$Letters;") (by decide +kernel)
  have in_X2 : ∀ w ∈ wsX20, w ∈ wsX8_joinLike := by decide +kernel
  have in_X8 : ∀ w ∈ wsX80, w ∈ wsX8_joinLike := by decide +kernel
  have hl : lv_has ls 6 [(0, .ref v), (1, .ref th), (2, .int (nI fr)), (3, .int (nI ln))] := hl
  refine lv_iconst (v := 0) hx hb dX8_joinLike_0 (by decide) ?_
  refine lv_istore (lv' := [(4, _), (0, _), (1, _), (2, _), (3, _)]) hx hb dX8_joinLike_1 hl (by decide) rfl (fun ls hl => ?_)
  have loop_3 : ∀ (fuel : Nat) (k : Nat), nj - k < fuel → k ≤ nj → (fiO (fun j => likeB ct (foC fo) (jt j) (jn j) (fun i => tf (fr + i)) ln) k (nj - k) = fiO (fun j => likeB ct (foC fo) (jt j) (jn j) (fun i => tf (fr + i)) ln) 0 nj) → ∀ ls : Array Slot, lv_has ls 6 [(0, .ref v), (1, .ref th), (2, .int (nI fr)), (3, .int (nI ln)), (4, .int (nI k))] → W pr l en { frames := 2, cells := 0, slots := 0, locals := 48 } ss mi ([.ref v, .ref th, .int (nI fr), .int (nI ln)] : List Value).toArray below meth cd ss.heap [] 0 0 (MQ below (k2_QcV (va_rf ((fjC ct fo jn jt nj tf fr ln).map (fun j => ja j 0)))) ([.ref v, .ref th, .int (nI fr), .int (nI ln)] : List Value).toArray ss 0 0 (fun _ => False)) (F0 mi 3 ls []) := by
    intro fuel
    induction fuel with
    | zero => intro k hm; exact absurd hm (Nat.not_lt_zero _)
    | succ fuel ih =>
      intro k hm hk hr  ls hl
      refine lv_iload hx hb dX8_joinLike_3 (lv_at hl 4 rfl) ?_
      refine lv_aload_n hx hb dX8_joinLike_5 rfl (lv_at hl 0 rfl) ?_
      refine va_get (D := D) (ci := 8) (C := RX8) (T := TX8) (N := 5) hx hb hts in_X8 hown hK hP 0 rfl rfl 4 (by decide) fl_48 (fun _ h9 => h9) rfl dX8_joinLike_6 ?_
      refine lv_icmp_ge (tgt := 63) hx hb dX8_joinLike_9 (by decide) (fun c_9 => ?_) (fun c_9 => ?_)
      · have hkm : k = nj := by first | exact eq_ge c_9 hk (by omega) | exact absurd c_19 (nI_ge (show k < 8 by omega) (by decide))
        refine lv_null hx hb dX8_joinLike_63 ?_
        exact ro_aret X (by show _ = va_rf ((fiO _ 0 nj).map _); rw [← hr, hkm, fiO_end]; rfl) dX8_joinLike_64
      · have hlt : k < nj := lt_nge c_9 hk (by omega)
        refine lv_iload hx hb dX8_joinLike_12 (lv_at hl 4 rfl) ?_
        refine lv_aload_n hx hb dX8_joinLike_14 rfl (lv_at hl 0 rfl) ?_
        refine va_get (D := D) (ci := 8) (C := RX8) (T := TX8) (N := 5) hx hb hts in_X8 hown hK hP 0 rfl rfl 2 (by decide) fl_23 (fun _ h9 => h9) rfl dX8_joinLike_15 ?_
        refine va_alen (v := nI 8) hx hb hK hP 1 1 rfl rfl rfl dX8_joinLike_18 ?_
        refine lv_icmp_ge (tgt := 63) hx hb dX8_joinLike_19 (by decide) (fun c_19 => ?_) (fun c_19 => ?_)
        · have hkm : k = nj := by first | exact eq_ge c_9 hk (by omega) | exact absurd c_19 (nI_ge (show k < 8 by omega) (by decide))
          refine lv_null hx hb dX8_joinLike_63 ?_
          exact ro_aret X (by show _ = va_rf ((fiO _ 0 nj).map _); rw [← hr, hkm, fiO_end]; rfl) dX8_joinLike_64
        · refine lv_aload_n hx hb dX8_joinLike_22 rfl (lv_at hl 0 rfl) ?_
          refine va_get (D := D) (ci := 8) (C := RX8) (T := TX8) (N := 5) hx hb hts in_X8 hown hK hP 0 rfl rfl 2 (by decide) fl_23 (fun _ h9 => h9) rfl dX8_joinLike_23 ?_
          refine lv_iload hx hb dX8_joinLike_26 (lv_at hl 4 rfl) ?_
          refine aldq_n hx hb hK hP 1 1 rfl rfl (show k < 8 by omega) (by decide) dX8_joinLike_28 ?_
          refine rf_eq (hjf k hlt) ?_
          have hw : va_P D vwCl [((ja k 0), .inr (2, [.ref (ja k 1), .int (jz k 1), .int (jz k 2)])), ((ja k 1), .inr (4, [.ref (ja k 2), .int (nI (jn k))])), ((ja k 2), .inl (cI, (jn k), .inl (jt k)))] _ := memP (w := jCells cI ja jz jn jt k) hP (fun q hq => List.mem_cons_of_mem _ (List.mem_cons_of_mem _ (List.mem_cons_of_mem _ (List.mem_cons_of_mem _ (List.mem_cons_of_mem _ (List.mem_cons_of_mem _ ((hdj k hlt).2 q hq)))))))
          refine lv_astore (lv' := [(5, _), (0, _), (1, _), (2, _), (3, _), (4, _)]) hx hb dX8_joinLike_29 hl (by decide) rfl (fun ls hl => ?_)
          refine lv_aload hx hb dX8_joinLike_31 (lv_at hl 0 rfl) ?_
          refine lv_ifnull hx hb dX8_joinLike_33 ?_
          refine lv_aload_n hx hb dX8_joinLike_36 rfl (lv_at hl 1 rfl) ?_
          refine va_get (D := D) (ci := 8) (C := RX8) (T := TX8) (N := 5) hx hb hts in_X8 hown hK hP 0 rfl rfl 0 (by decide) fl_9 (fun _ h9 => h9) rfl dX8_joinLike_37 ?_
          refine lv_aload hx hb dX8_joinLike_40 (lv_at hl 0 rfl) ?_
          refine va_get (D := D) (ci := 2) (C := RX2) (T := TX2) (N := 3) hx hb hts in_X2 hown hK hw 0 rfl rfl 0 (by decide) fl_51 (fun _ h9 => h9) rfl dX8_joinLike_42 ?_
          refine lv_aload_n hx hb dX8_joinLike_45 rfl (lv_at hl 2 rfl) ?_
          refine lv_iload_n hx hb dX8_joinLike_46 rfl (lv_at hl 3 rfl) ?_
          refine lv_iload_n hx hb dX8_joinLike_47 rfl (lv_at hl 4 rfl) ?_
          refine ro_V (n := 4) X hK (c_X3_areLike hct (by have := (hdj k hlt).1; omega) htN (Nat.le_refl _) htn hfl) gX8_joinLike_X3_areLike rfl (by decide +kernel) ⟨rfl, rfl⟩ ⟨Nat.le_of_ble_eq_true rfl, Nat.le_of_ble_eq_true rfl⟩ (va_P.app (hP.sub (ws' := [_, _]) [2, 3] rfl) (va_P.app (hw.sub (ws' := [_, _]) [1, 2] rfl) (hP.sub (ws' := [_, _]) [4, 5] rfl))) (va_recv hK hP (ci := 3) (q0 := 2) rfl rfl) rfl hl.1 rfl (Nat.le_of_ble_eq_true rfl) dX8_joinLike_48 ⟨Nat.zero_le _, Nat.zero_le _⟩ ?_
          refine lv_if_eq (tgt := 57) hx hb dX8_joinLike_51 (by decide) (fun c_51 => ?_) (fun c_51 => ?_)
          · replace c_51 := bI_0.mp c_51
            refine lv_iinc (v := (_ : Int32) + 1) (lv' := [(4, _), (5, _), (0, _), (1, _), (2, _), (3, _)]) hx hb dX8_joinLike_57 hl (k := 5) rfl rfl (by decide) rfl (fun ls hl => ?_)
            refine lv_goto (tgt := 3) hx hb dX8_joinLike_60 (by decide) ?_
            rw [nI_1] at hl
            exact ih (k + 1) (by omega) (by omega) (by rw [← hr, fiO_miss (p := (fun j => likeB ct (foC fo) (jt j) (jn j) (fun i => tf (fr + i)) ln)) hlt (by simp [c_51])])  _ (lv_sub hl [2, 3, 4, 5, 0] rfl)
          · replace c_51 := bI_n0.mp c_51
            refine lv_aload hx hb dX8_joinLike_54 (lv_at hl 0 rfl) ?_
            exact ro_aret X (by show _ = va_rf ((fiO _ 0 nj).map _); rw [← hr, fiO_hit (p := (fun j => likeB ct (foC fo) (jt j) (jn j) (fun i => tf (fr + i)) ln)) hlt (by simp [c_51])]; rfl) dX8_joinLike_56
  exact loop_3 (nj + 1) 0 (by omega) (Nat.zero_le _) rfl  ls (lv_sub hl [1, 2, 3, 4, 0] rfl)
